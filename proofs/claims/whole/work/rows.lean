section
-- ===== PART A: goes FIRST, ahead of the names: the tables' words, and 'selects' of the private methods out of them =====
/-- a private method of a class that the tables say can be made, by its rows of tables_1 -/
def lw_okq (q : MethodName × Nat) : Prop := (q.1.cls ≠ "java/lang/invoke/MethodHandle" ∧ q.1.cls ≠ "java/lang/invoke/VarHandle") ∧ Cond.instantiable q.1.cls q.2 ∈ tables_1 ∧ Cond.privateMethod q.1 ∈ tables_1 ∧ Cond.instanceMethod q.1 ∈ tables_1
theorem lw_p0 : lw_okq (⟨"FutureSets", "startAnew", "(II)V"⟩, 12) := ⟨⟨by decide +kernel, by decide +kernel⟩, List.mem_of_getElem? (i := 8) (by decide +kernel), List.mem_of_getElem? (i := 91) (by decide +kernel), List.mem_of_getElem? (i := 92) (by decide +kernel)⟩
theorem lw_p1 : lw_okq (⟨"FutureSets", "isRowOrCost", "(I)Z"⟩, 12) := ⟨⟨by decide +kernel, by decide +kernel⟩, List.mem_of_getElem? (i := 8) (by decide +kernel), List.mem_of_getElem? (i := 165) (by decide +kernel), List.mem_of_getElem? (i := 166) (by decide +kernel)⟩
theorem lw_p2 : lw_okq (⟨"FutureSets", "isListed", "(I)Z"⟩, 12) := ⟨⟨by decide +kernel, by decide +kernel⟩, List.mem_of_getElem? (i := 8) (by decide +kernel), List.mem_of_getElem? (i := 185) (by decide +kernel), List.mem_of_getElem? (i := 186) (by decide +kernel)⟩
theorem lw_p3 : lw_okq (⟨"FutureSets", "isName", "(I)Z"⟩, 12) := ⟨⟨by decide +kernel, by decide +kernel⟩, List.mem_of_getElem? (i := 8) (by decide +kernel), List.mem_of_getElem? (i := 189) (by decide +kernel), List.mem_of_getElem? (i := 190) (by decide +kernel)⟩
theorem lw_p4 : lw_okq (⟨"FutureSets", "isPlan", "(I)Z"⟩, 12) := ⟨⟨by decide +kernel, by decide +kernel⟩, List.mem_of_getElem? (i := 8) (by decide +kernel), List.mem_of_getElem? (i := 205) (by decide +kernel), List.mem_of_getElem? (i := 206) (by decide +kernel)⟩
theorem lw_p5 : lw_okq (⟨"FutureSets", "planCount", "()I"⟩, 12) := ⟨⟨by decide +kernel, by decide +kernel⟩, List.mem_of_getElem? (i := 8) (by decide +kernel), List.mem_of_getElem? (i := 209) (by decide +kernel), List.mem_of_getElem? (i := 210) (by decide +kernel)⟩
theorem lw_p6 : lw_okq (⟨"FutureSets$Terms", "isTaken", "(II)Z"⟩, 5) := ⟨⟨by decide +kernel, by decide +kernel⟩, List.mem_of_getElem? (i := 42) (by decide +kernel), List.mem_of_getElem? (i := 217) (by decide +kernel), List.mem_of_getElem? (i := 218) (by decide +kernel)⟩
theorem lw_p7 : lw_okq (⟨"FutureSets", "findWorst", "(II)I"⟩, 12) := ⟨⟨by decide +kernel, by decide +kernel⟩, List.mem_of_getElem? (i := 8) (by decide +kernel), List.mem_of_getElem? (i := 229) (by decide +kernel), List.mem_of_getElem? (i := 230) (by decide +kernel)⟩
theorem lw_p8 : lw_okq (⟨"FutureSets", "worstOf", "(I)I"⟩, 12) := ⟨⟨by decide +kernel, by decide +kernel⟩, List.mem_of_getElem? (i := 8) (by decide +kernel), List.mem_of_getElem? (i := 237) (by decide +kernel), List.mem_of_getElem? (i := 238) (by decide +kernel)⟩
theorem lw_p9 : lw_okq (⟨"FutureSets", "greatestGain", "()I"⟩, 12) := ⟨⟨by decide +kernel, by decide +kernel⟩, List.mem_of_getElem? (i := 8) (by decide +kernel), List.mem_of_getElem? (i := 241) (by decide +kernel), List.mem_of_getElem? (i := 242) (by decide +kernel)⟩
theorem lw_p10 : lw_okq (⟨"FutureSets", "firstBroken", "(I)I"⟩, 12) := ⟨⟨by decide +kernel, by decide +kernel⟩, List.mem_of_getElem? (i := 8) (by decide +kernel), List.mem_of_getElem? (i := 254) (by decide +kernel), List.mem_of_getElem? (i := 255) (by decide +kernel)⟩
theorem lw_p11 : lw_okq (⟨"FutureSets", "isFirstPart", "(I)Z"⟩, 12) := ⟨⟨by decide +kernel, by decide +kernel⟩, List.mem_of_getElem? (i := 8) (by decide +kernel), List.mem_of_getElem? (i := 266) (by decide +kernel), List.mem_of_getElem? (i := 267) (by decide +kernel)⟩
theorem lw_p12 : lw_okq (⟨"FutureSets", "firstPartCount", "()I"⟩, 12) := ⟨⟨by decide +kernel, by decide +kernel⟩, List.mem_of_getElem? (i := 8) (by decide +kernel), List.mem_of_getElem? (i := 270) (by decide +kernel), List.mem_of_getElem? (i := 271) (by decide +kernel)⟩
theorem lw_p13 : lw_okq (⟨"FutureSets", "findAnswer", "(II)I"⟩, 12) := ⟨⟨by decide +kernel, by decide +kernel⟩, List.mem_of_getElem? (i := 8) (by decide +kernel), List.mem_of_getElem? (i := 274) (by decide +kernel), List.mem_of_getElem? (i := 275) (by decide +kernel)⟩
theorem lw_p14 : lw_okq (⟨"FutureSets", "allHold", "(II)Z"⟩, 12) := ⟨⟨by decide +kernel, by decide +kernel⟩, List.mem_of_getElem? (i := 8) (by decide +kernel), List.mem_of_getElem? (i := 278) (by decide +kernel), List.mem_of_getElem? (i := 279) (by decide +kernel)⟩
theorem lw_p15 : lw_okq (⟨"FutureSets", "findTwoStep", "()I"⟩, 12) := ⟨⟨by decide +kernel, by decide +kernel⟩, List.mem_of_getElem? (i := 8) (by decide +kernel), List.mem_of_getElem? (i := 286) (by decide +kernel), List.mem_of_getElem? (i := 287) (by decide +kernel)⟩
def lw_privs_1 : List (MethodName × Nat) := [(⟨"FutureSets", "startAnew", "(II)V"⟩, 12), (⟨"FutureSets", "isRowOrCost", "(I)Z"⟩, 12), (⟨"FutureSets", "isListed", "(I)Z"⟩, 12), (⟨"FutureSets", "isName", "(I)Z"⟩, 12), (⟨"FutureSets", "isPlan", "(I)Z"⟩, 12), (⟨"FutureSets", "planCount", "()I"⟩, 12), (⟨"FutureSets$Terms", "isTaken", "(II)Z"⟩, 5), (⟨"FutureSets", "findWorst", "(II)I"⟩, 12), (⟨"FutureSets", "worstOf", "(I)I"⟩, 12), (⟨"FutureSets", "greatestGain", "()I"⟩, 12), (⟨"FutureSets", "firstBroken", "(I)I"⟩, 12), (⟨"FutureSets", "isFirstPart", "(I)Z"⟩, 12), (⟨"FutureSets", "firstPartCount", "()I"⟩, 12), (⟨"FutureSets", "findAnswer", "(II)I"⟩, 12), (⟨"FutureSets", "allHold", "(II)Z"⟩, 12), (⟨"FutureSets", "findTwoStep", "()I"⟩, 12)]
theorem lw_r1 : ∀ q ∈ lw_privs_1, lw_okq q := List.forall_mem_cons.mpr ⟨lw_p0, List.forall_mem_cons.mpr ⟨lw_p1, List.forall_mem_cons.mpr ⟨lw_p2, List.forall_mem_cons.mpr ⟨lw_p3, List.forall_mem_cons.mpr ⟨lw_p4, List.forall_mem_cons.mpr ⟨lw_p5, List.forall_mem_cons.mpr ⟨lw_p6, List.forall_mem_cons.mpr ⟨lw_p7, List.forall_mem_cons.mpr ⟨lw_p8, List.forall_mem_cons.mpr ⟨lw_p9, List.forall_mem_cons.mpr ⟨lw_p10, List.forall_mem_cons.mpr ⟨lw_p11, List.forall_mem_cons.mpr ⟨lw_p12, List.forall_mem_cons.mpr ⟨lw_p13, List.forall_mem_cons.mpr ⟨lw_p14, List.forall_mem_cons.mpr ⟨lw_p15, fun _ h => absurd h List.not_mem_nil⟩⟩⟩⟩⟩⟩⟩⟩⟩⟩⟩⟩⟩⟩⟩⟩
theorem lw_p16 : lw_okq (⟨"FutureSets", "costByOdds", "(I)I"⟩, 12) := ⟨⟨by decide +kernel, by decide +kernel⟩, List.mem_of_getElem? (i := 8) (by decide +kernel), List.mem_of_getElem? (i := 290) (by decide +kernel), List.mem_of_getElem? (i := 291) (by decide +kernel)⟩
theorem lw_p17 : lw_okq (⟨"FutureSets", "costOf", "(II)I"⟩, 12) := ⟨⟨by decide +kernel, by decide +kernel⟩, List.mem_of_getElem? (i := 8) (by decide +kernel), List.mem_of_getElem? (i := 298) (by decide +kernel), List.mem_of_getElem? (i := 299) (by decide +kernel)⟩
theorem lw_p18 : lw_okq (⟨"FutureSets", "leastCost", "(I)I"⟩, 12) := ⟨⟨by decide +kernel, by decide +kernel⟩, List.mem_of_getElem? (i := 8) (by decide +kernel), List.mem_of_getElem? (i := 322) (by decide +kernel), List.mem_of_getElem? (i := 323) (by decide +kernel)⟩
theorem lw_p19 : lw_okq (⟨"FutureSets", "fillBests", "()V"⟩, 12) := ⟨⟨by decide +kernel, by decide +kernel⟩, List.mem_of_getElem? (i := 8) (by decide +kernel), List.mem_of_getElem? (i := 330) (by decide +kernel), List.mem_of_getElem? (i := 331) (by decide +kernel)⟩
theorem lw_p20 : lw_okq (⟨"FutureSets", "greatestRegret", "(I)I"⟩, 12) := ⟨⟨by decide +kernel, by decide +kernel⟩, List.mem_of_getElem? (i := 8) (by decide +kernel), List.mem_of_getElem? (i := 334) (by decide +kernel), List.mem_of_getElem? (i := 335) (by decide +kernel)⟩
theorem lw_p21 : lw_okq (⟨"FutureSetsModel", "counted", "()I"⟩, 20) := ⟨⟨by decide +kernel, by decide +kernel⟩, List.mem_of_getElem? (i := 353) (by decide +kernel), List.mem_of_getElem? (i := 457) (by decide +kernel), List.mem_of_getElem? (i := 458) (by decide +kernel)⟩
theorem lw_p22 : lw_okq (⟨"FutureSetsModel", "isPlan", "(I)Z"⟩, 20) := ⟨⟨by decide +kernel, by decide +kernel⟩, List.mem_of_getElem? (i := 353) (by decide +kernel), List.mem_of_getElem? (i := 465) (by decide +kernel), List.mem_of_getElem? (i := 466) (by decide +kernel)⟩
theorem lw_p23 : lw_okq (⟨"FutureSetsModel", "sum", "(III)I"⟩, 20) := ⟨⟨by decide +kernel, by decide +kernel⟩, List.mem_of_getElem? (i := 353) (by decide +kernel), List.mem_of_getElem? (i := 469) (by decide +kernel), List.mem_of_getElem? (i := 470) (by decide +kernel)⟩
theorem lw_p24 : lw_okq (⟨"FutureSetsModel", "isOn", "(III)Z"⟩, 20) := ⟨⟨by decide +kernel, by decide +kernel⟩, List.mem_of_getElem? (i := 353) (by decide +kernel), List.mem_of_getElem? (i := 473) (by decide +kernel), List.mem_of_getElem? (i := 474) (by decide +kernel)⟩
theorem lw_p25 : lw_okq (⟨"FutureSetsModel", "findWorst", "(II)I"⟩, 20) := ⟨⟨by decide +kernel, by decide +kernel⟩, List.mem_of_getElem? (i := 353) (by decide +kernel), List.mem_of_getElem? (i := 481) (by decide +kernel), List.mem_of_getElem? (i := 482) (by decide +kernel)⟩
theorem lw_p26 : lw_okq (⟨"FutureSetsModel", "isUp", "(III)Z"⟩, 20) := ⟨⟨by decide +kernel, by decide +kernel⟩, List.mem_of_getElem? (i := 353) (by decide +kernel), List.mem_of_getElem? (i := 485) (by decide +kernel), List.mem_of_getElem? (i := 486) (by decide +kernel)⟩
theorem lw_p27 : lw_okq (⟨"FutureSetsModel", "isFirst", "(I)Z"⟩, 20) := ⟨⟨by decide +kernel, by decide +kernel⟩, List.mem_of_getElem? (i := 353) (by decide +kernel), List.mem_of_getElem? (i := 507) (by decide +kernel), List.mem_of_getElem? (i := 508) (by decide +kernel)⟩
theorem lw_p28 : lw_okq (⟨"FutureSetsModel", "answerTo", "(II)I"⟩, 20) := ⟨⟨by decide +kernel, by decide +kernel⟩, List.mem_of_getElem? (i := 353) (by decide +kernel), List.mem_of_getElem? (i := 511) (by decide +kernel), List.mem_of_getElem? (i := 512) (by decide +kernel)⟩
theorem lw_p29 : lw_okq (⟨"FutureSetsModel", "holds", "(II)Z"⟩, 20) := ⟨⟨by decide +kernel, by decide +kernel⟩, List.mem_of_getElem? (i := 353) (by decide +kernel), List.mem_of_getElem? (i := 515) (by decide +kernel), List.mem_of_getElem? (i := 516) (by decide +kernel)⟩
theorem lw_p30 : lw_okq (⟨"FutureSetsModel", "total", "(I)I"⟩, 20) := ⟨⟨by decide +kernel, by decide +kernel⟩, List.mem_of_getElem? (i := 353) (by decide +kernel), List.mem_of_getElem? (i := 523) (by decide +kernel), List.mem_of_getElem? (i := 524) (by decide +kernel)⟩
theorem lw_p31 : lw_okq (⟨"FutureSetsModel", "allOdds", "()I"⟩, 20) := ⟨⟨by decide +kernel, by decide +kernel⟩, List.mem_of_getElem? (i := 353) (by decide +kernel), List.mem_of_getElem? (i := 531) (by decide +kernel), List.mem_of_getElem? (i := 532) (by decide +kernel)⟩
def lw_privs_2 : List (MethodName × Nat) := [(⟨"FutureSets", "costByOdds", "(I)I"⟩, 12), (⟨"FutureSets", "costOf", "(II)I"⟩, 12), (⟨"FutureSets", "leastCost", "(I)I"⟩, 12), (⟨"FutureSets", "fillBests", "()V"⟩, 12), (⟨"FutureSets", "greatestRegret", "(I)I"⟩, 12), (⟨"FutureSetsModel", "counted", "()I"⟩, 20), (⟨"FutureSetsModel", "isPlan", "(I)Z"⟩, 20), (⟨"FutureSetsModel", "sum", "(III)I"⟩, 20), (⟨"FutureSetsModel", "isOn", "(III)Z"⟩, 20), (⟨"FutureSetsModel", "findWorst", "(II)I"⟩, 20), (⟨"FutureSetsModel", "isUp", "(III)Z"⟩, 20), (⟨"FutureSetsModel", "isFirst", "(I)Z"⟩, 20), (⟨"FutureSetsModel", "answerTo", "(II)I"⟩, 20), (⟨"FutureSetsModel", "holds", "(II)Z"⟩, 20), (⟨"FutureSetsModel", "total", "(I)I"⟩, 20), (⟨"FutureSetsModel", "allOdds", "()I"⟩, 20)]
theorem lw_r2 : ∀ q ∈ lw_privs_2, lw_okq q := List.forall_mem_cons.mpr ⟨lw_p16, List.forall_mem_cons.mpr ⟨lw_p17, List.forall_mem_cons.mpr ⟨lw_p18, List.forall_mem_cons.mpr ⟨lw_p19, List.forall_mem_cons.mpr ⟨lw_p20, List.forall_mem_cons.mpr ⟨lw_p21, List.forall_mem_cons.mpr ⟨lw_p22, List.forall_mem_cons.mpr ⟨lw_p23, List.forall_mem_cons.mpr ⟨lw_p24, List.forall_mem_cons.mpr ⟨lw_p25, List.forall_mem_cons.mpr ⟨lw_p26, List.forall_mem_cons.mpr ⟨lw_p27, List.forall_mem_cons.mpr ⟨lw_p28, List.forall_mem_cons.mpr ⟨lw_p29, List.forall_mem_cons.mpr ⟨lw_p30, List.forall_mem_cons.mpr ⟨lw_p31, fun _ h => absurd h List.not_mem_nil⟩⟩⟩⟩⟩⟩⟩⟩⟩⟩⟩⟩⟩⟩⟩⟩
theorem lw_p32 : lw_okq (⟨"FutureSetsModel", "bestOf", "(I)I"⟩, 20) := ⟨⟨by decide +kernel, by decide +kernel⟩, List.mem_of_getElem? (i := 353) (by decide +kernel), List.mem_of_getElem? (i := 542) (by decide +kernel), List.mem_of_getElem? (i := 543) (by decide +kernel)⟩
theorem lw_p33 : lw_okq (⟨"FutureSetsModel", "findBests", "()V"⟩, 20) := ⟨⟨by decide +kernel, by decide +kernel⟩, List.mem_of_getElem? (i := 353) (by decide +kernel), List.mem_of_getElem? (i := 550) (by decide +kernel), List.mem_of_getElem? (i := 551) (by decide +kernel)⟩
theorem lw_p34 : lw_okq (⟨"FutureSetsModel", "regretOf", "(I)I"⟩, 20) := ⟨⟨by decide +kernel, by decide +kernel⟩, List.mem_of_getElem? (i := 353) (by decide +kernel), List.mem_of_getElem? (i := 554) (by decide +kernel), List.mem_of_getElem? (i := 555) (by decide +kernel)⟩
def lw_privs_3 : List (MethodName × Nat) := [(⟨"FutureSetsModel", "bestOf", "(I)I"⟩, 20), (⟨"FutureSetsModel", "findBests", "()V"⟩, 20), (⟨"FutureSetsModel", "regretOf", "(I)I"⟩, 20)]
theorem lw_r3 : ∀ q ∈ lw_privs_3, lw_okq q := List.forall_mem_cons.mpr ⟨lw_p32, List.forall_mem_cons.mpr ⟨lw_p33, List.forall_mem_cons.mpr ⟨lw_p34, fun _ h => absurd h List.not_mem_nil⟩⟩⟩
def lw_privs : List (MethodName × Nat) := lw_privs_1 ++ (lw_privs_2 ++ (lw_privs_3))
def lw_tbl : List Cond := k2_sels lw_privs ++ tables_1
theorem lw_privs_ok : ∀ q ∈ lw_privs, lw_okq q := by
  show ∀ q ∈ lw_privs_1 ++ (lw_privs_2 ++ (lw_privs_3)), lw_okq q
  exact List.forall_mem_append.mpr ⟨lw_r1, List.forall_mem_append.mpr ⟨lw_r2, lw_r3⟩⟩
-- ===== end of PART A; then your names; then what follows =====
end
section
/-! ===== BEGIN words of one list among another's, by their places ===== -/
theorem goodIn_r {big : List Cond} (ws : List Cond) (ps : List Nat) (hp : ws = ps.filterMap (fun i => big[i]?)) (h : ws.all goodWord = true) : GoodIn big ws := by
  intro w hw
  have h1 := List.all_eq_true.mp h w hw
  rw [hp] at hw
  obtain ⟨i, -, hi⟩ := List.mem_filterMap.mp hw
  have hm : w ∈ big := by first | exact List.mem_of_getElem? hi | exact List.getElem?_mem hi
  exact ⟨hm, good_of_word h1⟩
theorem goodIn_app {big a b : List Cond} (ha : GoodIn big a) (hb : GoodIn big b) : GoodIn big (a ++ b) := fun w h => (List.mem_append.mp h).elim (ha w) (hb w)
theorem goodIn_ca {big a b : List Cond} {c : Cond} (ha : GoodIn big (c :: a)) (hb : GoodIn big b) : GoodIn big (c :: (a ++ b)) := fun w h => (List.mem_cons.mp h).elim (fun e => ha w (List.mem_cons.mpr (Or.inl e))) (fun h => (List.mem_append.mp h).elim (fun h => ha w (List.mem_cons.mpr (Or.inr h))) (hb w))
theorem goodIn_sub {big ws : List Cond} (hm : ∀ w ∈ ws, w ∈ big) (h : ws.all goodWord = true) : GoodIn big ws := fun w hw => ⟨hm w hw, good_of_word (List.all_eq_true.mp h w hw)⟩
/-! ===== END ===== -/

/-! ===== BEGIN printed: names, fields, word lists, decode rows ===== -/
def RX0 : String := "FutureSets$Listed"
def TX0 : u_T := fun k => match k with
  | 0 => ("FutureSets$Listed", "count", "I", false)
  | 1 => ("FutureSets$Listed", "odds", "[I", true)
  | 2 => ("FutureSets$Listed", "kept", "[Z", true)
  | _ => ("FutureSets$Listed", "numbers", "[[I", true)
def tyX0 : Nat → FieldType := fun k => match k with
  | 0 => .int
  | 1 => .array .int
  | 2 => .array .boolean
  | _ => .array (.array .int)
abbrev wsX00 : List Cond := u_ws RX0 TX0 4
theorem nmX0 : ∀ a, a < 4 → ∀ b, b < 4 → a ≠ b → (TX0 a).2.1 ≠ (TX0 b).2.1 := by decide +kernel
theorem tyX0_ok : ∀ k, k < 4 → parseFieldDescriptor (TX0 k).2.2.1 = some (tyX0 k) := by decide +kernel
abbrev cX0_init : ByteArray := prog_2_method_1_code
def yX0_init : MethodName := ⟨RX0, "<init>", "()V"⟩
abbrev cX0_add : ByteArray := prog_2_method_2_code
def yX0_add : MethodName := ⟨RX0, "add", "(IZLFutureSets$Names;)I"⟩
abbrev cX0_putInAll : ByteArray := prog_2_method_3_code
def yX0_putInAll : MethodName := ⟨RX0, "putInAll", "(II)V"⟩
abbrev cX0_countCounted : ByteArray := prog_2_method_4_code
def yX0_countCounted : MethodName := ⟨RX0, "countCounted", "()I"⟩
abbrev cX0_countedOdds : ByteArray := prog_2_method_5_code
def yX0_countedOdds : MethodName := ⟨RX0, "countedOdds", "()I"⟩
def RX1 : String := "FutureSets$Names"
def TX1 : u_T := fun k => match k with
  | 0 => ("FutureSets$Names", "count", "I", false)
  | 1 => ("FutureSets$Names", "least", "[I", true)
  | 2 => ("FutureSets$Names", "usual", "[I", true)
  | _ => ("FutureSets$Names", "greatest", "[I", true)
def tyX1 : Nat → FieldType := fun k => match k with
  | 0 => .int
  | 1 => .array .int
  | 2 => .array .int
  | _ => .array .int
abbrev wsX10 : List Cond := u_ws RX1 TX1 4
theorem nmX1 : ∀ a, a < 4 → ∀ b, b < 4 → a ≠ b → (TX1 a).2.1 ≠ (TX1 b).2.1 := by decide +kernel
theorem tyX1_ok : ∀ k, k < 4 → parseFieldDescriptor (TX1 k).2.2.1 = some (tyX1 k) := by decide +kernel
abbrev cX1_init : ByteArray := prog_3_method_1_code
def yX1_init : MethodName := ⟨RX1, "<init>", "()V"⟩
abbrev cX1_add : ByteArray := prog_3_method_2_code
def yX1_add : MethodName := ⟨RX1, "add", "(III)I"⟩
def RX2 : String := "FutureSets$Terms"
def TX2 : u_T := fun k => match k with
  | 0 => ("FutureSets$Terms", "count", "I", false)
  | 1 => ("FutureSets$Terms", "rowOf", "[I", true)
  | 2 => ("FutureSets$Terms", "choiceOf", "[I", true)
  | 3 => ("FutureSets$Terms", "nameOf", "[I", true)
  | _ => ("FutureSets$Terms", "factorOf", "[I", true)
def tyX2 : Nat → FieldType := fun k => match k with
  | 0 => .int
  | 1 => .array .int
  | 2 => .array .int
  | 3 => .array .int
  | _ => .array .int
abbrev wsX20 : List Cond := u_ws RX2 TX2 5
theorem nmX2 : ∀ a, a < 5 → ∀ b, b < 5 → a ≠ b → (TX2 a).2.1 ≠ (TX2 b).2.1 := by decide +kernel
theorem tyX2_ok : ∀ k, k < 5 → parseFieldDescriptor (TX2 k).2.2.1 = some (tyX2 k) := by decide +kernel
abbrev cX2_init : ByteArray := prog_4_method_1_code
def yX2_init : MethodName := ⟨RX2, "<init>", "()V"⟩
abbrev cX2_add : ByteArray := prog_4_method_2_code
def yX2_add : MethodName := ⟨RX2, "add", "(IIII)I"⟩
abbrev cX2_sumUp : ByteArray := prog_4_method_3_code
def yX2_sumUp : MethodName := ⟨RX2, "sumUp", "(I[I[I)V"⟩
abbrev cX2_weigh : ByteArray := prog_4_method_4_code
def yX2_weigh : MethodName := ⟨RX2, "weigh", "(II[I)I"⟩
abbrev cX2_isTaken : ByteArray := prog_4_method_5_code
def yX2_isTaken : MethodName := ⟨RX2, "isTaken", "(II)Z"⟩
def RX3 : String := "FutureSets"
def TX3 : u_T := fun k => match k with
  | 0 => ("FutureSets", "names", "LFutureSets$Names;", true)
  | 1 => ("FutureSets", "terms", "LFutureSets$Terms;", true)
  | 2 => ("FutureSets", "listed", "LFutureSets$Listed;", true)
  | 3 => ("FutureSets", "rowCount", "I", false)
  | 4 => ("FutureSets", "firstCount", "I", false)
  | 5 => ("FutureSets", "secondCount", "I", false)
  | 6 => ("FutureSets", "budgetNow", "I", false)
  | 7 => ("FutureSets", "sums", "[I", true)
  | 8 => ("FutureSets", "bests", "[I", true)
  | 9 => ("FutureSets", "weights", "[I", true)
  | 10 => ("FutureSets", "gains", "[I", true)
  | _ => ("FutureSets", "worstNumbers", "[I", true)
def tyX3 : Nat → FieldType := fun k => match k with
  | 0 => .object "FutureSets$Names"
  | 1 => .object "FutureSets$Terms"
  | 2 => .object "FutureSets$Listed"
  | 3 => .int
  | 4 => .int
  | 5 => .int
  | 6 => .int
  | 7 => .array .int
  | 8 => .array .int
  | 9 => .array .int
  | 10 => .array .int
  | _ => .array .int
abbrev wsX30 : List Cond := u_ws RX3 TX3 12
theorem nmX3 : ∀ a, a < 12 → ∀ b, b < 12 → a ≠ b → (TX3 a).2.1 ≠ (TX3 b).2.1 := by decide +kernel
theorem tyX3_ok : ∀ k, k < 12 → parseFieldDescriptor (TX3 k).2.2.1 = some (tyX3 k) := by decide +kernel
abbrev cX3_init : ByteArray := prog_1_method_1_code
def yX3_init : MethodName := ⟨RX3, "<init>", "()V"⟩
abbrev cX3_begin : ByteArray := prog_1_method_2_code
def yX3_begin : MethodName := ⟨RX3, "begin", "(II)I"⟩
abbrev cX3_name : ByteArray := prog_1_method_3_code
def yX3_name : MethodName := ⟨RX3, "name", "(III)I"⟩
abbrev cX3_budget : ByteArray := prog_1_method_4_code
def yX3_budget : MethodName := ⟨RX3, "budget", "(I)I"⟩
abbrev cX3_row : ByteArray := prog_1_method_5_code
def yX3_row : MethodName := ⟨RX3, "row", "()I"⟩
abbrev cX3_term : ByteArray := prog_1_method_6_code
def yX3_term : MethodName := ⟨RX3, "term", "(IIII)I"⟩
abbrev cX3_future : ByteArray := prog_1_method_7_code
def yX3_future : MethodName := ⟨RX3, "future", "(IZ)I"⟩
abbrev cX3_set : ByteArray := prog_1_method_8_code
def yX3_set : MethodName := ⟨RX3, "set", "(III)I"⟩
abbrev cX3_told : ByteArray := prog_1_method_9_code
def yX3_told : MethodName := ⟨RX3, "told", "(I)I"⟩
abbrev cX3_comes : ByteArray := prog_1_method_10_code
def yX3_comes : MethodName := ⟨RX3, "comes", "(III)I"⟩
abbrev cX3_worst : ByteArray := prog_1_method_11_code
def yX3_worst : MethodName := ⟨RX3, "worst", "(II)I"⟩
abbrev cX3_worstName : ByteArray := prog_1_method_12_code
def yX3_worstName : MethodName := ⟨RX3, "worstName", "(III)I"⟩
abbrev cX3_breaks : ByteArray := prog_1_method_13_code
def yX3_breaks : MethodName := ⟨RX3, "breaks", "(I)I"⟩
abbrev cX3_safest : ByteArray := prog_1_method_14_code
def yX3_safest : MethodName := ⟨RX3, "safest", "()I"⟩
abbrev cX3_answer : ByteArray := prog_1_method_15_code
def yX3_answer : MethodName := ⟨RX3, "answer", "(II)I"⟩
abbrev cX3_twoStep : ByteArray := prog_1_method_16_code
def yX3_twoStep : MethodName := ⟨RX3, "twoStep", "()I"⟩
abbrev cX3_mean : ByteArray := prog_1_method_17_code
def yX3_mean : MethodName := ⟨RX3, "mean", "(II)I"⟩
abbrev cX3_best : ByteArray := prog_1_method_18_code
def yX3_best : MethodName := ⟨RX3, "best", "(I)I"⟩
abbrev cX3_regret : ByteArray := prog_1_method_19_code
def yX3_regret : MethodName := ⟨RX3, "regret", "(I)I"⟩
abbrev cX3_calmest : ByteArray := prog_1_method_20_code
def yX3_calmest : MethodName := ⟨RX3, "calmest", "()I"⟩
abbrev cX3_waiting : ByteArray := prog_1_method_21_code
def yX3_waiting : MethodName := ⟨RX3, "waiting", "(I)I"⟩
abbrev cX3_chance : ByteArray := prog_1_method_22_code
def yX3_chance : MethodName := ⟨RX3, "chance", "(II)I"⟩
abbrev cX3_startAnew : ByteArray := prog_1_method_23_code
def yX3_startAnew : MethodName := ⟨RX3, "startAnew", "(II)V"⟩
abbrev cX3_planCount : ByteArray := prog_1_method_24_code
def yX3_planCount : MethodName := ⟨RX3, "planCount", "()I"⟩
abbrev cX3_firstPartCount : ByteArray := prog_1_method_25_code
def yX3_firstPartCount : MethodName := ⟨RX3, "firstPartCount", "()I"⟩
abbrev cX3_isPlan : ByteArray := prog_1_method_26_code
def yX3_isPlan : MethodName := ⟨RX3, "isPlan", "(I)Z"⟩
abbrev cX3_isFirstPart : ByteArray := prog_1_method_27_code
def yX3_isFirstPart : MethodName := ⟨RX3, "isFirstPart", "(I)Z"⟩
abbrev cX3_isRowOrCost : ByteArray := prog_1_method_28_code
def yX3_isRowOrCost : MethodName := ⟨RX3, "isRowOrCost", "(I)Z"⟩
abbrev cX3_isName : ByteArray := prog_1_method_29_code
def yX3_isName : MethodName := ⟨RX3, "isName", "(I)Z"⟩
abbrev cX3_isListed : ByteArray := prog_1_method_30_code
def yX3_isListed : MethodName := ⟨RX3, "isListed", "(I)Z"⟩
abbrev cX3_isPart : ByteArray := prog_1_method_31_code
def yX3_isPart : MethodName := ⟨RX3, "isPart", "(I)Z"⟩
abbrev cX3_isWithin : ByteArray := prog_1_method_32_code
def yX3_isWithin : MethodName := ⟨RX3, "isWithin", "(III)Z"⟩
abbrev cX3_slotOf : ByteArray := prog_1_method_33_code
def yX3_slotOf : MethodName := ⟨RX3, "slotOf", "(I)I"⟩
abbrev cX3_findWorst : ByteArray := prog_1_method_34_code
def yX3_findWorst : MethodName := ⟨RX3, "findWorst", "(II)I"⟩
abbrev cX3_worstOf : ByteArray := prog_1_method_35_code
def yX3_worstOf : MethodName := ⟨RX3, "worstOf", "(I)I"⟩
abbrev cX3_greatestGain : ByteArray := prog_1_method_36_code
def yX3_greatestGain : MethodName := ⟨RX3, "greatestGain", "()I"⟩
abbrev cX3_firstBroken : ByteArray := prog_1_method_37_code
def yX3_firstBroken : MethodName := ⟨RX3, "firstBroken", "(I)I"⟩
abbrev cX3_allHold : ByteArray := prog_1_method_38_code
def yX3_allHold : MethodName := ⟨RX3, "allHold", "(II)Z"⟩
abbrev cX3_costOf : ByteArray := prog_1_method_39_code
def yX3_costOf : MethodName := ⟨RX3, "costOf", "(II)I"⟩
abbrev cX3_findAnswer : ByteArray := prog_1_method_40_code
def yX3_findAnswer : MethodName := ⟨RX3, "findAnswer", "(II)I"⟩
abbrev cX3_costByOdds : ByteArray := prog_1_method_41_code
def yX3_costByOdds : MethodName := ⟨RX3, "costByOdds", "(I)I"⟩
abbrev cX3_findTwoStep : ByteArray := prog_1_method_42_code
def yX3_findTwoStep : MethodName := ⟨RX3, "findTwoStep", "()I"⟩
abbrev cX3_leastCost : ByteArray := prog_1_method_43_code
def yX3_leastCost : MethodName := ⟨RX3, "leastCost", "(I)I"⟩
abbrev cX3_fillBests : ByteArray := prog_1_method_44_code
def yX3_fillBests : MethodName := ⟨RX3, "fillBests", "()V"⟩
abbrev cX3_greatestRegret : ByteArray := prog_1_method_45_code
def yX3_greatestRegret : MethodName := ⟨RX3, "greatestRegret", "(I)I"⟩
abbrev cX3_partOfFraction : ByteArray := prog_1_method_46_code
def yX3_partOfFraction : MethodName := ⟨RX3, "partOfFraction", "(III)I"⟩
abbrev cX3_commonDivisor : ByteArray := prog_1_method_47_code
def yX3_commonDivisor : MethodName := ⟨RX3, "commonDivisor", "(II)I"⟩
def RX4 : String := "FutureSetsModel"
def TX4 : u_T := fun k => match k with
  | 0 => ("FutureSetsModel", "firsts", "I", false)
  | 1 => ("FutureSetsModel", "seconds", "I", false)
  | 2 => ("FutureSetsModel", "names", "I", false)
  | 3 => ("FutureSetsModel", "least", "[I", true)
  | 4 => ("FutureSetsModel", "usual", "[I", true)
  | 5 => ("FutureSetsModel", "greatest", "[I", true)
  | 6 => ("FutureSetsModel", "budget", "I", false)
  | 7 => ("FutureSetsModel", "rows", "I", false)
  | 8 => ("FutureSetsModel", "terms", "I", false)
  | 9 => ("FutureSetsModel", "termRow", "[I", true)
  | 10 => ("FutureSetsModel", "termChoice", "[I", true)
  | 11 => ("FutureSetsModel", "termName", "[I", true)
  | 12 => ("FutureSetsModel", "termFactor", "[I", true)
  | 13 => ("FutureSetsModel", "futures", "I", false)
  | 14 => ("FutureSetsModel", "odds", "[I", true)
  | 15 => ("FutureSetsModel", "kept", "[Z", true)
  | 16 => ("FutureSetsModel", "number", "[I", true)
  | 17 => ("FutureSetsModel", "gain", "[I", true)
  | 18 => ("FutureSetsModel", "worstOf", "[I", true)
  | _ => ("FutureSetsModel", "bests", "[I", true)
def tyX4 : Nat → FieldType := fun k => match k with
  | 0 => .int
  | 1 => .int
  | 2 => .int
  | 3 => .array .int
  | 4 => .array .int
  | 5 => .array .int
  | 6 => .int
  | 7 => .int
  | 8 => .int
  | 9 => .array .int
  | 10 => .array .int
  | 11 => .array .int
  | 12 => .array .int
  | 13 => .int
  | 14 => .array .int
  | 15 => .array .boolean
  | 16 => .array .int
  | 17 => .array .int
  | 18 => .array .int
  | _ => .array .int
abbrev wsX40 : List Cond := u_ws RX4 TX4 20
theorem nmX4 : ∀ a, a < 20 → ∀ b, b < 20 → a ≠ b → (TX4 a).2.1 ≠ (TX4 b).2.1 := by decide +kernel
theorem tyX4_ok : ∀ k, k < 20 → parseFieldDescriptor (TX4 k).2.2.1 = some (tyX4 k) := by decide +kernel
abbrev cX4_init : ByteArray := prog_6_method_1_code
def yX4_init : MethodName := ⟨RX4, "<init>", "()V"⟩
abbrev cX4_in : ByteArray := prog_6_method_2_code
def yX4_in : MethodName := ⟨RX4, "in", "(III)Z"⟩
abbrev cX4_begin : ByteArray := prog_6_method_3_code
def yX4_begin : MethodName := ⟨RX4, "begin", "(II)I"⟩
abbrev cX4_name : ByteArray := prog_6_method_4_code
def yX4_name : MethodName := ⟨RX4, "name", "(III)I"⟩
abbrev cX4_budget : ByteArray := prog_6_method_5_code
def yX4_budget : MethodName := ⟨RX4, "budget", "(I)I"⟩
abbrev cX4_row : ByteArray := prog_6_method_6_code
def yX4_row : MethodName := ⟨RX4, "row", "()I"⟩
abbrev cX4_term : ByteArray := prog_6_method_7_code
def yX4_term : MethodName := ⟨RX4, "term", "(IIII)I"⟩
abbrev cX4_future : ByteArray := prog_6_method_8_code
def yX4_future : MethodName := ⟨RX4, "future", "(IZ)I"⟩
abbrev cX4_set : ByteArray := prog_6_method_9_code
def yX4_set : MethodName := ⟨RX4, "set", "(III)I"⟩
abbrev cX4_counted : ByteArray := prog_6_method_10_code
def yX4_counted : MethodName := ⟨RX4, "counted", "()I"⟩
abbrev cX4_told : ByteArray := prog_6_method_11_code
def yX4_told : MethodName := ⟨RX4, "told", "(I)I"⟩
abbrev cX4_isPlan : ByteArray := prog_6_method_12_code
def yX4_isPlan : MethodName := ⟨RX4, "isPlan", "(I)Z"⟩
abbrev cX4_isOn : ByteArray := prog_6_method_13_code
def yX4_isOn : MethodName := ⟨RX4, "isOn", "(III)Z"⟩
abbrev cX4_sum : ByteArray := prog_6_method_14_code
def yX4_sum : MethodName := ⟨RX4, "sum", "(III)I"⟩
abbrev cX4_comes : ByteArray := prog_6_method_15_code
def yX4_comes : MethodName := ⟨RX4, "comes", "(III)I"⟩
abbrev cX4_findWorst : ByteArray := prog_6_method_16_code
def yX4_findWorst : MethodName := ⟨RX4, "findWorst", "(II)I"⟩
abbrev cX4_isUp : ByteArray := prog_6_method_17_code
def yX4_isUp : MethodName := ⟨RX4, "isUp", "(III)Z"⟩
abbrev cX4_worst : ByteArray := prog_6_method_18_code
def yX4_worst : MethodName := ⟨RX4, "worst", "(II)I"⟩
abbrev cX4_worstName : ByteArray := prog_6_method_19_code
def yX4_worstName : MethodName := ⟨RX4, "worstName", "(III)I"⟩
abbrev cX4_breaks : ByteArray := prog_6_method_20_code
def yX4_breaks : MethodName := ⟨RX4, "breaks", "(I)I"⟩
abbrev cX4_safest : ByteArray := prog_6_method_21_code
def yX4_safest : MethodName := ⟨RX4, "safest", "()I"⟩
abbrev cX4_holds : ByteArray := prog_6_method_22_code
def yX4_holds : MethodName := ⟨RX4, "holds", "(II)Z"⟩
abbrev cX4_answerTo : ByteArray := prog_6_method_23_code
def yX4_answerTo : MethodName := ⟨RX4, "answerTo", "(II)I"⟩
abbrev cX4_isFirst : ByteArray := prog_6_method_24_code
def yX4_isFirst : MethodName := ⟨RX4, "isFirst", "(I)Z"⟩
abbrev cX4_answer : ByteArray := prog_6_method_25_code
def yX4_answer : MethodName := ⟨RX4, "answer", "(II)I"⟩
abbrev cX4_allOdds : ByteArray := prog_6_method_26_code
def yX4_allOdds : MethodName := ⟨RX4, "allOdds", "()I"⟩
abbrev cX4_total : ByteArray := prog_6_method_27_code
def yX4_total : MethodName := ⟨RX4, "total", "(I)I"⟩
abbrev cX4_twoStep : ByteArray := prog_6_method_28_code
def yX4_twoStep : MethodName := ⟨RX4, "twoStep", "()I"⟩
abbrev cX4_lowest : ByteArray := prog_6_method_29_code
def yX4_lowest : MethodName := ⟨RX4, "lowest", "(III)I"⟩
abbrev cX4_mean : ByteArray := prog_6_method_30_code
def yX4_mean : MethodName := ⟨RX4, "mean", "(II)I"⟩
abbrev cX4_bestOf : ByteArray := prog_6_method_31_code
def yX4_bestOf : MethodName := ⟨RX4, "bestOf", "(I)I"⟩
abbrev cX4_best : ByteArray := prog_6_method_32_code
def yX4_best : MethodName := ⟨RX4, "best", "(I)I"⟩
abbrev cX4_findBests : ByteArray := prog_6_method_33_code
def yX4_findBests : MethodName := ⟨RX4, "findBests", "()V"⟩
abbrev cX4_regretOf : ByteArray := prog_6_method_34_code
def yX4_regretOf : MethodName := ⟨RX4, "regretOf", "(I)I"⟩
abbrev cX4_regret : ByteArray := prog_6_method_35_code
def yX4_regret : MethodName := ⟨RX4, "regret", "(I)I"⟩
abbrev cX4_calmest : ByteArray := prog_6_method_36_code
def yX4_calmest : MethodName := ⟨RX4, "calmest", "()I"⟩
abbrev cX4_waiting : ByteArray := prog_6_method_37_code
def yX4_waiting : MethodName := ⟨RX4, "waiting", "(I)I"⟩
abbrev cX4_chance : ByteArray := prog_6_method_38_code
def yX4_chance : MethodName := ⟨RX4, "chance", "(II)I"⟩
def RJ9 : String := "java/lang/Math"
def TJ9 : u_T := fun k => match k with
  | _ => ("", "", "", false)
def tyJ9 : Nat → FieldType := fun k => match k with
  | _ => .int
abbrev wsJ90 : List Cond := u_ws RJ9 TJ9 0
theorem nmJ9 : ∀ a, a < 0 → ∀ b, b < 0 → a ≠ b → (TJ9 a).2.1 ≠ (TJ9 b).2.1 := by decide +kernel
theorem tyJ9_ok : ∀ k, k < 0 → parseFieldDescriptor (TJ9 k).2.2.1 = some (tyJ9 k) := by decide +kernel
abbrev cJ9_abs_0f7a4 : ByteArray := prog_7_method_59_code
def yJ9_abs_0f7a4 : MethodName := ⟨RJ9, "abs", "(I)I"⟩
abbrev cJ9_max_7cf53 : ByteArray := prog_7_method_65_code
def yJ9_max_7cf53 : MethodName := ⟨RJ9, "max", "(II)I"⟩
def RL : String := "FutureSetsLaw"
abbrev cL_law : ByteArray := code
def yL_law : MethodName := ⟨RL, "law", "([I)Z"⟩
def wsX0_init : List Cond := .code yX0_init cX0_init 1 none :: ([.methodLink RX0 3 objectInit, .instanceMethod objectInit, .code objectInit ⟨#[0xb1]⟩ 1 none, .arrayClass .int, .fieldLink RX0 9 "FutureSets$Listed" "odds" "[I", .arrayClass .boolean, .fieldLink RX0 15 "FutureSets$Listed" "kept" "[Z", .classLink RX0 19 "[[I", .fieldLink RX0 21 "FutureSets$Listed" "numbers" "[[I"] ++ wsX00)
def wsX0_add : List Cond := .code yX0_add cX0_add 5 (some .int) :: ([.fieldLink RX0 9 "FutureSets$Listed" "odds" "[I", .fieldLink RX0 24 "FutureSets$Listed" "count" "I", .fieldLink RX0 15 "FutureSets$Listed" "kept" "[Z", .fieldLink RX0 28 "FutureSets$Names" "count" "I", .fieldLink RX0 21 "FutureSets$Listed" "numbers" "[[I", .fieldLink RX0 31 "FutureSets$Names" "usual" "[I"] ++ wsX00 ++ wsX10)
def wsX0_putInAll : List Cond := .code yX0_putInAll cX0_putInAll 4 none :: ([.fieldLink RX0 24 "FutureSets$Listed" "count" "I", .fieldLink RX0 21 "FutureSets$Listed" "numbers" "[[I"] ++ wsX00)
def wsX0_countCounted : List Cond := .code yX0_countCounted cX0_countCounted 3 (some .int) :: ([.fieldLink RX0 24 "FutureSets$Listed" "count" "I", .fieldLink RX0 15 "FutureSets$Listed" "kept" "[Z"] ++ wsX00)
def wsX0_countedOdds : List Cond := .code yX0_countedOdds cX0_countedOdds 3 (some .int) :: ([.fieldLink RX0 24 "FutureSets$Listed" "count" "I", .fieldLink RX0 15 "FutureSets$Listed" "kept" "[Z", .fieldLink RX0 9 "FutureSets$Listed" "odds" "[I"] ++ wsX00)
def wsX1_init : List Cond := .code yX1_init cX1_init 1 none :: ([.methodLink RX1 3 objectInit, .instanceMethod objectInit, .code objectInit ⟨#[0xb1]⟩ 1 none, .arrayClass .int, .fieldLink RX1 9 "FutureSets$Names" "least" "[I", .fieldLink RX1 15 "FutureSets$Names" "usual" "[I", .fieldLink RX1 18 "FutureSets$Names" "greatest" "[I"] ++ wsX10)
def wsX1_add : List Cond := .code yX1_add cX1_add 4 (some .int) :: ([.fieldLink RX1 9 "FutureSets$Names" "least" "[I", .fieldLink RX1 21 "FutureSets$Names" "count" "I", .fieldLink RX1 15 "FutureSets$Names" "usual" "[I", .fieldLink RX1 18 "FutureSets$Names" "greatest" "[I"] ++ wsX10)
def wsX2_init : List Cond := .code yX2_init cX2_init 1 none :: ([.methodLink RX2 3 objectInit, .instanceMethod objectInit, .code objectInit ⟨#[0xb1]⟩ 1 none, .arrayClass .int, .fieldLink RX2 9 "FutureSets$Terms" "rowOf" "[I", .fieldLink RX2 15 "FutureSets$Terms" "choiceOf" "[I", .fieldLink RX2 18 "FutureSets$Terms" "nameOf" "[I", .fieldLink RX2 21 "FutureSets$Terms" "factorOf" "[I"] ++ wsX20)
def wsX2_add : List Cond := .code yX2_add cX2_add 5 (some .int) :: ([.fieldLink RX2 9 "FutureSets$Terms" "rowOf" "[I", .fieldLink RX2 24 "FutureSets$Terms" "count" "I", .fieldLink RX2 15 "FutureSets$Terms" "choiceOf" "[I", .fieldLink RX2 18 "FutureSets$Terms" "nameOf" "[I", .fieldLink RX2 21 "FutureSets$Terms" "factorOf" "[I"] ++ wsX20)
def wsX2_isTaken : List Cond := .code yX2_isTaken cX2_isTaken 3 (some .boolean) :: ([.fieldLink RX2 15 "FutureSets$Terms" "choiceOf" "[I"] ++ wsX20)
def wsX3_slotOf : List Cond := .code yX3_slotOf cX3_slotOf 1 (some .int) :: ([])
def wsX2_sumUp : List Cond := .code yX2_sumUp cX2_sumUp 6 none :: ([.fieldLink RX2 24 "FutureSets$Terms" "count" "I", .fieldLink RX2 18 "FutureSets$Terms" "nameOf" "[I", .fieldLink RX2 9 "FutureSets$Terms" "rowOf" "[I", .fieldLink RX2 21 "FutureSets$Terms" "factorOf" "[I", .methodLink RX2 28 yX2_isTaken, .instanceMethod yX2_isTaken, .selects RX2 yX2_isTaken yX2_isTaken, .initialized RX2, .code yX2_isTaken cX2_isTaken 3 (some .boolean), .fieldLink RX2 15 "FutureSets$Terms" "choiceOf" "[I", .static yX3_slotOf, .initialized RX3, .code yX3_slotOf cX3_slotOf 1 (some .int)] ++ wsX20)
def wsX2_weigh : List Cond := .code yX2_weigh cX2_weigh 6 (some .int) :: ([.fieldLink RX2 24 "FutureSets$Terms" "count" "I", .fieldLink RX2 9 "FutureSets$Terms" "rowOf" "[I", .fieldLink RX2 18 "FutureSets$Terms" "nameOf" "[I", .fieldLink RX2 21 "FutureSets$Terms" "factorOf" "[I", .methodLink RX2 28 yX2_isTaken, .instanceMethod yX2_isTaken, .selects RX2 yX2_isTaken yX2_isTaken, .initialized RX2, .code yX2_isTaken cX2_isTaken 3 (some .boolean), .fieldLink RX2 15 "FutureSets$Terms" "choiceOf" "[I"] ++ wsX20)
def wsX3_startAnew : List Cond := .code yX3_startAnew cX3_startAnew 3 none :: ([.fieldLink RX3 10 "FutureSets" "names" "LFutureSets$Names;", .fieldLink RX3 59 "FutureSets$Names" "count" "I", .fieldLink RX3 19 "FutureSets" "terms" "LFutureSets$Terms;", .fieldLink RX3 55 "FutureSets$Terms" "count" "I", .fieldLink RX3 26 "FutureSets" "listed" "LFutureSets$Listed;", .fieldLink RX3 87 "FutureSets$Listed" "count" "I", .fieldLink RX3 71 "FutureSets" "rowCount" "I", .fieldLink RX3 78 "FutureSets" "firstCount" "I", .fieldLink RX3 81 "FutureSets" "secondCount" "I", .fieldLink RX3 68 "FutureSets" "budgetNow" "I"] ++ wsX30 ++ wsX10 ++ wsX20 ++ wsX00)
def wsX3_init_r1 : List Cond := [Cond.methodLink RX3 1 objectInit, Cond.instanceMethod objectInit, Cond.code objectInit ⟨#[0xb1]⟩ 1 none, Cond.classLink RX3 7 RX1, Cond.instantiable RX1 4, Cond.initialized RX1, Cond.fieldLink RX3 10 "FutureSets" "names" "LFutureSets$Names;", Cond.classLink RX3 16 RX2, Cond.instantiable RX2 5, Cond.initialized RX2, Cond.fieldLink RX3 19 "FutureSets" "terms" "LFutureSets$Terms;", Cond.classLink RX3 23 RX0, Cond.instantiable RX0 4, Cond.initialized RX0, Cond.fieldLink RX3 26 "FutureSets" "listed" "LFutureSets$Listed;", Cond.arrayClass .int, Cond.fieldLink RX3 30 "FutureSets" "sums" "[I", Cond.fieldLink RX3 34 "FutureSets" "bests" "[I", Cond.fieldLink RX3 37 "FutureSets" "weights" "[I", Cond.fieldLink RX3 40 "FutureSets" "gains" "[I", Cond.fieldLink RX3 43 "FutureSets" "worstNumbers" "[I", Cond.instanceMethod yX1_init, Cond.code yX1_init cX1_init 1 none, Cond.methodLink RX1 3 objectInit]
def wsX3_init_r2 : List Cond := [Cond.fieldLink RX1 9 "FutureSets$Names" "least" "[I", Cond.fieldLink RX1 15 "FutureSets$Names" "usual" "[I", Cond.fieldLink RX1 18 "FutureSets$Names" "greatest" "[I", Cond.instanceMethod yX2_init, Cond.code yX2_init cX2_init 1 none, Cond.methodLink RX2 3 objectInit, Cond.fieldLink RX2 9 "FutureSets$Terms" "rowOf" "[I", Cond.fieldLink RX2 15 "FutureSets$Terms" "choiceOf" "[I", Cond.fieldLink RX2 18 "FutureSets$Terms" "nameOf" "[I", Cond.fieldLink RX2 21 "FutureSets$Terms" "factorOf" "[I", Cond.instanceMethod yX0_init, Cond.code yX0_init cX0_init 1 none, Cond.methodLink RX0 3 objectInit, Cond.fieldLink RX0 9 "FutureSets$Listed" "odds" "[I", Cond.arrayClass .boolean, Cond.fieldLink RX0 15 "FutureSets$Listed" "kept" "[Z", Cond.classLink RX0 19 "[[I", Cond.fieldLink RX0 21 "FutureSets$Listed" "numbers" "[[I", Cond.methodLink RX3 46 yX3_startAnew, Cond.instanceMethod yX3_startAnew, Cond.selects RX3 yX3_startAnew yX3_startAnew, Cond.initialized RX3, Cond.code yX3_startAnew cX3_startAnew 3 none, Cond.fieldLink RX3 59 "FutureSets$Names" "count" "I"]
def wsX3_init_r3 : List Cond := [Cond.fieldLink RX3 55 "FutureSets$Terms" "count" "I", Cond.fieldLink RX3 87 "FutureSets$Listed" "count" "I", Cond.fieldLink RX3 71 "FutureSets" "rowCount" "I", Cond.fieldLink RX3 78 "FutureSets" "firstCount" "I", Cond.fieldLink RX3 81 "FutureSets" "secondCount" "I", Cond.fieldLink RX3 68 "FutureSets" "budgetNow" "I"]
def wsX3_init : List Cond := .code yX3_init cX3_init 1 none :: ((wsX3_init_r1 ++ (wsX3_init_r2 ++ wsX3_init_r3)) ++ wsX10 ++ wsX30 ++ wsX20 ++ wsX00)
def wsX3_isWithin : List Cond := .code yX3_isWithin cX3_isWithin 3 (some .boolean) :: ([])
def wsX3_begin : List Cond := .code yX3_begin cX3_begin 4 (some .int) :: ([.constant RX3 54 (-1000000001), .fieldLink RX3 19 "FutureSets" "terms" "LFutureSets$Terms;", .fieldLink RX3 55 "FutureSets$Terms" "count" "I", .methodLink RX3 50 yX3_isWithin, .static yX3_isWithin, .initialized RX3, .code yX3_isWithin cX3_isWithin 3 (some .boolean), .methodLink RX3 46 yX3_startAnew, .instanceMethod yX3_startAnew, .selects RX3 yX3_startAnew yX3_startAnew, .code yX3_startAnew cX3_startAnew 3 none, .fieldLink RX3 10 "FutureSets" "names" "LFutureSets$Names;", .fieldLink RX3 59 "FutureSets$Names" "count" "I", .fieldLink RX3 26 "FutureSets" "listed" "LFutureSets$Listed;", .fieldLink RX3 87 "FutureSets$Listed" "count" "I", .fieldLink RX3 71 "FutureSets" "rowCount" "I", .fieldLink RX3 78 "FutureSets" "firstCount" "I", .fieldLink RX3 81 "FutureSets" "secondCount" "I", .fieldLink RX3 68 "FutureSets" "budgetNow" "I"] ++ wsX30 ++ wsX20 ++ wsX10 ++ wsX00)
def wsX3_name : List Cond := .code yX3_name cX3_name 5 (some .int) :: ([.constant RX3 54 (-1000000001), .fieldLink RX3 10 "FutureSets" "names" "LFutureSets$Names;", .fieldLink RX3 59 "FutureSets$Names" "count" "I", .constant RX3 60 (-1000000002), .fieldLink RX3 26 "FutureSets" "listed" "LFutureSets$Listed;", .methodLink RX3 61 yX0_putInAll, .instanceMethod yX0_putInAll, .selects RX0 yX0_putInAll yX0_putInAll, .initialized RX0, .code yX0_putInAll cX0_putInAll 4 none, .fieldLink RX0 24 "FutureSets$Listed" "count" "I", .fieldLink RX0 21 "FutureSets$Listed" "numbers" "[[I", .methodLink RX3 64 yX1_add, .instanceMethod yX1_add, .selects RX1 yX1_add yX1_add, .initialized RX1, .code yX1_add cX1_add 4 (some .int), .fieldLink RX1 9 "FutureSets$Names" "least" "[I", .fieldLink RX1 21 "FutureSets$Names" "count" "I", .fieldLink RX1 15 "FutureSets$Names" "usual" "[I", .fieldLink RX1 18 "FutureSets$Names" "greatest" "[I"] ++ wsX30 ++ wsX10 ++ wsX00)
def wsX3_budget : List Cond := .code yX3_budget cX3_budget 3 (some .int) :: ([.constant RX3 54 (-1000000001), .fieldLink RX3 68 "FutureSets" "budgetNow" "I", .methodLink RX3 50 yX3_isWithin, .static yX3_isWithin, .initialized RX3, .code yX3_isWithin cX3_isWithin 3 (some .boolean)] ++ wsX30)
def wsX3_row : List Cond := .code yX3_row cX3_row 1 (some .int) :: ([.fieldLink RX3 71 "FutureSets" "rowCount" "I", .constant RX3 60 (-1000000002)] ++ wsX30)
def wsX3_isRowOrCost : List Cond := .code yX3_isRowOrCost cX3_isRowOrCost 2 (some .boolean) :: ([.fieldLink RX3 71 "FutureSets" "rowCount" "I", .methodLink RX3 50 yX3_isWithin, .static yX3_isWithin, .initialized RX3, .code yX3_isWithin cX3_isWithin 3 (some .boolean)] ++ wsX30)
def wsX3_term_r1 : List Cond := [Cond.constant RX3 54 (-1000000001), Cond.fieldLink RX3 78 "FutureSets" "firstCount" "I", Cond.fieldLink RX3 81 "FutureSets" "secondCount" "I", Cond.fieldLink RX3 10 "FutureSets" "names" "LFutureSets$Names;", Cond.fieldLink RX3 59 "FutureSets$Names" "count" "I", Cond.fieldLink RX3 19 "FutureSets" "terms" "LFutureSets$Terms;", Cond.fieldLink RX3 55 "FutureSets$Terms" "count" "I", Cond.constant RX3 60 (-1000000002), Cond.methodLink RX3 74 yX3_isRowOrCost, Cond.instanceMethod yX3_isRowOrCost, Cond.selects RX3 yX3_isRowOrCost yX3_isRowOrCost, Cond.initialized RX3, Cond.code yX3_isRowOrCost cX3_isRowOrCost 2 (some .boolean), Cond.fieldLink RX3 71 "FutureSets" "rowCount" "I", Cond.methodLink RX3 50 yX3_isWithin, Cond.static yX3_isWithin, Cond.code yX3_isWithin cX3_isWithin 3 (some .boolean), Cond.methodLink RX3 84 yX2_add, Cond.instanceMethod yX2_add, Cond.selects RX2 yX2_add yX2_add, Cond.initialized RX2, Cond.code yX2_add cX2_add 5 (some .int), Cond.fieldLink RX2 9 "FutureSets$Terms" "rowOf" "[I", Cond.fieldLink RX2 24 "FutureSets$Terms" "count" "I"]
def wsX3_term_r2 : List Cond := [Cond.fieldLink RX2 15 "FutureSets$Terms" "choiceOf" "[I", Cond.fieldLink RX2 18 "FutureSets$Terms" "nameOf" "[I", Cond.fieldLink RX2 21 "FutureSets$Terms" "factorOf" "[I"]
def wsX3_term : List Cond := .code yX3_term cX3_term 5 (some .int) :: ((wsX3_term_r1 ++ wsX3_term_r2) ++ wsX30 ++ wsX10 ++ wsX20)
def wsX3_future : List Cond := .code yX3_future cX3_future 3 (some .int) :: ([.constant RX3 54 (-1000000001), .fieldLink RX3 26 "FutureSets" "listed" "LFutureSets$Listed;", .fieldLink RX3 87 "FutureSets$Listed" "count" "I", .constant RX3 60 (-1000000002), .fieldLink RX3 10 "FutureSets" "names" "LFutureSets$Names;", .methodLink RX3 50 yX3_isWithin, .static yX3_isWithin, .initialized RX3, .code yX3_isWithin cX3_isWithin 3 (some .boolean), .methodLink RX3 88 yX0_add, .instanceMethod yX0_add, .selects RX0 yX0_add yX0_add, .initialized RX0, .code yX0_add cX0_add 5 (some .int), .fieldLink RX0 9 "FutureSets$Listed" "odds" "[I", .fieldLink RX0 24 "FutureSets$Listed" "count" "I", .fieldLink RX0 15 "FutureSets$Listed" "kept" "[Z", .fieldLink RX0 28 "FutureSets$Names" "count" "I", .fieldLink RX0 21 "FutureSets$Listed" "numbers" "[[I", .fieldLink RX0 31 "FutureSets$Names" "usual" "[I"] ++ wsX30 ++ wsX00 ++ wsX10)
def wsX3_isListed : List Cond := .code yX3_isListed cX3_isListed 2 (some .boolean) :: ([.fieldLink RX3 26 "FutureSets" "listed" "LFutureSets$Listed;", .fieldLink RX3 87 "FutureSets$Listed" "count" "I", .methodLink RX3 50 yX3_isWithin, .static yX3_isWithin, .initialized RX3, .code yX3_isWithin cX3_isWithin 3 (some .boolean)] ++ wsX30 ++ wsX00)
def wsX3_isName : List Cond := .code yX3_isName cX3_isName 2 (some .boolean) :: ([.fieldLink RX3 10 "FutureSets" "names" "LFutureSets$Names;", .fieldLink RX3 59 "FutureSets$Names" "count" "I", .methodLink RX3 50 yX3_isWithin, .static yX3_isWithin, .initialized RX3, .code yX3_isWithin cX3_isWithin 3 (some .boolean)] ++ wsX30 ++ wsX10)
def wsX3_set : List Cond := .code yX3_set cX3_set 5 (some .int) :: ([.constant RX3 54 (-1000000001), .fieldLink RX3 10 "FutureSets" "names" "LFutureSets$Names;", .fieldLink RX3 97 "FutureSets$Names" "least" "[I", .fieldLink RX3 100 "FutureSets$Names" "greatest" "[I", .fieldLink RX3 26 "FutureSets" "listed" "LFutureSets$Listed;", .fieldLink RX3 103 "FutureSets$Listed" "numbers" "[[I", .methodLink RX3 91 yX3_isListed, .instanceMethod yX3_isListed, .selects RX3 yX3_isListed yX3_isListed, .initialized RX3, .code yX3_isListed cX3_isListed 2 (some .boolean), .fieldLink RX3 87 "FutureSets$Listed" "count" "I", .methodLink RX3 50 yX3_isWithin, .static yX3_isWithin, .code yX3_isWithin cX3_isWithin 3 (some .boolean), .methodLink RX3 94 yX3_isName, .instanceMethod yX3_isName, .selects RX3 yX3_isName yX3_isName, .code yX3_isName cX3_isName 2 (some .boolean), .fieldLink RX3 59 "FutureSets$Names" "count" "I"] ++ wsX30 ++ wsX10 ++ wsX00)
def wsX3_told : List Cond := .code yX3_told cX3_told 2 (some .int) :: ([.fieldLink RX3 10 "FutureSets" "names" "LFutureSets$Names;", .fieldLink RX3 59 "FutureSets$Names" "count" "I", .fieldLink RX3 71 "FutureSets" "rowCount" "I", .fieldLink RX3 19 "FutureSets" "terms" "LFutureSets$Terms;", .fieldLink RX3 55 "FutureSets$Terms" "count" "I", .fieldLink RX3 26 "FutureSets" "listed" "LFutureSets$Listed;", .fieldLink RX3 87 "FutureSets$Listed" "count" "I", .fieldLink RX3 78 "FutureSets" "firstCount" "I", .fieldLink RX3 81 "FutureSets" "secondCount" "I", .fieldLink RX3 68 "FutureSets" "budgetNow" "I", .constant RX3 54 (-1000000001), .methodLink RX3 107 yX0_countCounted, .instanceMethod yX0_countCounted, .selects RX0 yX0_countCounted yX0_countCounted, .initialized RX0, .code yX0_countCounted cX0_countCounted 3 (some .int), .fieldLink RX0 24 "FutureSets$Listed" "count" "I", .fieldLink RX0 15 "FutureSets$Listed" "kept" "[Z"] ++ wsX30 ++ wsX10 ++ wsX20 ++ wsX00)
def wsX3_planCount : List Cond := .code yX3_planCount cX3_planCount 1 (some .int) :: ([.fieldLink RX3 78 "FutureSets" "firstCount" "I", .fieldLink RX3 81 "FutureSets" "secondCount" "I"] ++ wsX30)
def wsX3_isPlan : List Cond := .code yX3_isPlan cX3_isPlan 2 (some .boolean) :: ([.methodLink RX3 133 yX3_planCount, .instanceMethod yX3_planCount, .selects RX3 yX3_planCount yX3_planCount, .initialized RX3, .code yX3_planCount cX3_planCount 1 (some .int), .fieldLink RX3 78 "FutureSets" "firstCount" "I", .fieldLink RX3 81 "FutureSets" "secondCount" "I", .methodLink RX3 50 yX3_isWithin, .static yX3_isWithin, .code yX3_isWithin cX3_isWithin 3 (some .boolean)] ++ wsX30)
def wsX3_comes_r1 : List Cond := [Cond.constant RX3 54 (-1000000001), Cond.fieldLink RX3 19 "FutureSets" "terms" "LFutureSets$Terms;", Cond.fieldLink RX3 10 "FutureSets" "names" "LFutureSets$Names;", Cond.fieldLink RX3 114 "FutureSets$Names" "usual" "[I", Cond.fieldLink RX3 26 "FutureSets" "listed" "LFutureSets$Listed;", Cond.fieldLink RX3 103 "FutureSets$Listed" "numbers" "[[I", Cond.fieldLink RX3 30 "FutureSets" "sums" "[I", Cond.methodLink RX3 111 yX3_isPlan, Cond.instanceMethod yX3_isPlan, Cond.selects RX3 yX3_isPlan yX3_isPlan, Cond.initialized RX3, Cond.code yX3_isPlan cX3_isPlan 2 (some .boolean), Cond.methodLink RX3 133 yX3_planCount, Cond.instanceMethod yX3_planCount, Cond.selects RX3 yX3_planCount yX3_planCount, Cond.code yX3_planCount cX3_planCount 1 (some .int), Cond.fieldLink RX3 78 "FutureSets" "firstCount" "I", Cond.fieldLink RX3 81 "FutureSets" "secondCount" "I", Cond.methodLink RX3 50 yX3_isWithin, Cond.static yX3_isWithin, Cond.code yX3_isWithin cX3_isWithin 3 (some .boolean), Cond.methodLink RX3 74 yX3_isRowOrCost, Cond.instanceMethod yX3_isRowOrCost, Cond.selects RX3 yX3_isRowOrCost yX3_isRowOrCost]
def wsX3_comes_r2 : List Cond := [Cond.code yX3_isRowOrCost cX3_isRowOrCost 2 (some .boolean), Cond.fieldLink RX3 71 "FutureSets" "rowCount" "I", Cond.methodLink RX3 91 yX3_isListed, Cond.instanceMethod yX3_isListed, Cond.selects RX3 yX3_isListed yX3_isListed, Cond.code yX3_isListed cX3_isListed 2 (some .boolean), Cond.fieldLink RX3 87 "FutureSets$Listed" "count" "I", Cond.methodLink RX3 117 yX2_sumUp, Cond.instanceMethod yX2_sumUp, Cond.selects RX2 yX2_sumUp yX2_sumUp, Cond.initialized RX2, Cond.code yX2_sumUp cX2_sumUp 6 none, Cond.fieldLink RX2 24 "FutureSets$Terms" "count" "I", Cond.fieldLink RX2 18 "FutureSets$Terms" "nameOf" "[I", Cond.fieldLink RX2 9 "FutureSets$Terms" "rowOf" "[I", Cond.fieldLink RX2 21 "FutureSets$Terms" "factorOf" "[I", Cond.methodLink RX2 28 yX2_isTaken, Cond.instanceMethod yX2_isTaken, Cond.selects RX2 yX2_isTaken yX2_isTaken, Cond.code yX2_isTaken cX2_isTaken 3 (some .boolean), Cond.fieldLink RX2 15 "FutureSets$Terms" "choiceOf" "[I", Cond.static yX3_slotOf, Cond.code yX3_slotOf cX3_slotOf 1 (some .int), Cond.methodLink RX3 121 yX3_slotOf]
def wsX3_comes : List Cond := .code yX3_comes cX3_comes 4 (some .int) :: ((wsX3_comes_r1 ++ wsX3_comes_r2) ++ wsX30 ++ wsX10 ++ wsX00 ++ wsX20)
def wsX3_worstOf : List Cond := .code yX3_worstOf cX3_worstOf 2 (some .int) :: ([.fieldLink RX3 37 "FutureSets" "weights" "[I", .fieldLink RX3 10 "FutureSets" "names" "LFutureSets$Names;", .fieldLink RX3 100 "FutureSets$Names" "greatest" "[I", .fieldLink RX3 97 "FutureSets$Names" "least" "[I"] ++ wsX30 ++ wsX10)
def wsX3_greatestGain : List Cond := .code yX3_greatestGain cX3_greatestGain 4 (some .int) :: ([.constant RX3 132 (-1000000003), .fieldLink RX3 10 "FutureSets" "names" "LFutureSets$Names;", .fieldLink RX3 59 "FutureSets$Names" "count" "I", .fieldLink RX3 40 "FutureSets" "gains" "[I"] ++ wsX30 ++ wsX10)
def wsX3_findWorst_r1 : List Cond := [Cond.fieldLink RX3 19 "FutureSets" "terms" "LFutureSets$Terms;", Cond.fieldLink RX3 37 "FutureSets" "weights" "[I", Cond.fieldLink RX3 10 "FutureSets" "names" "LFutureSets$Names;", Cond.fieldLink RX3 59 "FutureSets$Names" "count" "I", Cond.fieldLink RX3 114 "FutureSets$Names" "usual" "[I", Cond.fieldLink RX3 40 "FutureSets" "gains" "[I", Cond.fieldLink RX3 43 "FutureSets" "worstNumbers" "[I", Cond.fieldLink RX3 68 "FutureSets" "budgetNow" "I", Cond.constant RX3 132 (-1000000003), Cond.methodLink RX3 180 yX2_weigh, Cond.instanceMethod yX2_weigh, Cond.selects RX2 yX2_weigh yX2_weigh, Cond.initialized RX2, Cond.code yX2_weigh cX2_weigh 6 (some .int), Cond.fieldLink RX2 24 "FutureSets$Terms" "count" "I", Cond.fieldLink RX2 9 "FutureSets$Terms" "rowOf" "[I", Cond.fieldLink RX2 18 "FutureSets$Terms" "nameOf" "[I", Cond.fieldLink RX2 21 "FutureSets$Terms" "factorOf" "[I", Cond.methodLink RX2 28 yX2_isTaken, Cond.instanceMethod yX2_isTaken, Cond.selects RX2 yX2_isTaken yX2_isTaken, Cond.code yX2_isTaken cX2_isTaken 3 (some .boolean), Cond.fieldLink RX2 15 "FutureSets$Terms" "choiceOf" "[I", Cond.methodLink RX3 184 yX3_worstOf]
def wsX3_findWorst_r2 : List Cond := [Cond.instanceMethod yX3_worstOf, Cond.selects RX3 yX3_worstOf yX3_worstOf, Cond.initialized RX3, Cond.code yX3_worstOf cX3_worstOf 2 (some .int), Cond.fieldLink RX3 100 "FutureSets$Names" "greatest" "[I", Cond.fieldLink RX3 97 "FutureSets$Names" "least" "[I", Cond.methodLink RX3 187 yX3_greatestGain, Cond.instanceMethod yX3_greatestGain, Cond.selects RX3 yX3_greatestGain yX3_greatestGain, Cond.code yX3_greatestGain cX3_greatestGain 4 (some .int)]
def wsX3_findWorst : List Cond := .code yX3_findWorst cX3_findWorst 6 (some .int) :: ((wsX3_findWorst_r1 ++ wsX3_findWorst_r2) ++ wsX30 ++ wsX10 ++ wsX20)
def wsX3_worst_r1 : List Cond := [Cond.constant RX3 54 (-1000000001), Cond.methodLink RX3 111 yX3_isPlan, Cond.instanceMethod yX3_isPlan, Cond.selects RX3 yX3_isPlan yX3_isPlan, Cond.initialized RX3, Cond.code yX3_isPlan cX3_isPlan 2 (some .boolean), Cond.methodLink RX3 133 yX3_planCount, Cond.instanceMethod yX3_planCount, Cond.selects RX3 yX3_planCount yX3_planCount, Cond.code yX3_planCount cX3_planCount 1 (some .int), Cond.fieldLink RX3 78 "FutureSets" "firstCount" "I", Cond.fieldLink RX3 81 "FutureSets" "secondCount" "I", Cond.methodLink RX3 50 yX3_isWithin, Cond.static yX3_isWithin, Cond.code yX3_isWithin cX3_isWithin 3 (some .boolean), Cond.methodLink RX3 74 yX3_isRowOrCost, Cond.instanceMethod yX3_isRowOrCost, Cond.selects RX3 yX3_isRowOrCost yX3_isRowOrCost, Cond.code yX3_isRowOrCost cX3_isRowOrCost 2 (some .boolean), Cond.fieldLink RX3 71 "FutureSets" "rowCount" "I", Cond.methodLink RX3 125 yX3_findWorst, Cond.instanceMethod yX3_findWorst, Cond.selects RX3 yX3_findWorst yX3_findWorst, Cond.code yX3_findWorst cX3_findWorst 6 (some .int)]
def wsX3_worst_r2 : List Cond := [Cond.fieldLink RX3 19 "FutureSets" "terms" "LFutureSets$Terms;", Cond.fieldLink RX3 37 "FutureSets" "weights" "[I", Cond.fieldLink RX3 10 "FutureSets" "names" "LFutureSets$Names;", Cond.fieldLink RX3 59 "FutureSets$Names" "count" "I", Cond.fieldLink RX3 114 "FutureSets$Names" "usual" "[I", Cond.fieldLink RX3 40 "FutureSets" "gains" "[I", Cond.fieldLink RX3 43 "FutureSets" "worstNumbers" "[I", Cond.fieldLink RX3 68 "FutureSets" "budgetNow" "I", Cond.constant RX3 132 (-1000000003), Cond.methodLink RX3 180 yX2_weigh, Cond.instanceMethod yX2_weigh, Cond.selects RX2 yX2_weigh yX2_weigh, Cond.initialized RX2, Cond.code yX2_weigh cX2_weigh 6 (some .int), Cond.fieldLink RX2 24 "FutureSets$Terms" "count" "I", Cond.fieldLink RX2 9 "FutureSets$Terms" "rowOf" "[I", Cond.fieldLink RX2 18 "FutureSets$Terms" "nameOf" "[I", Cond.fieldLink RX2 21 "FutureSets$Terms" "factorOf" "[I", Cond.methodLink RX2 28 yX2_isTaken, Cond.instanceMethod yX2_isTaken, Cond.selects RX2 yX2_isTaken yX2_isTaken, Cond.code yX2_isTaken cX2_isTaken 3 (some .boolean), Cond.fieldLink RX2 15 "FutureSets$Terms" "choiceOf" "[I", Cond.methodLink RX3 184 yX3_worstOf]
def wsX3_worst_r3 : List Cond := [Cond.instanceMethod yX3_worstOf, Cond.selects RX3 yX3_worstOf yX3_worstOf, Cond.code yX3_worstOf cX3_worstOf 2 (some .int), Cond.fieldLink RX3 100 "FutureSets$Names" "greatest" "[I", Cond.fieldLink RX3 97 "FutureSets$Names" "least" "[I", Cond.methodLink RX3 187 yX3_greatestGain, Cond.instanceMethod yX3_greatestGain, Cond.selects RX3 yX3_greatestGain yX3_greatestGain, Cond.code yX3_greatestGain cX3_greatestGain 4 (some .int)]
def wsX3_worst : List Cond := .code yX3_worst cX3_worst 3 (some .int) :: ((wsX3_worst_r1 ++ (wsX3_worst_r2 ++ wsX3_worst_r3)) ++ wsX30 ++ wsX10 ++ wsX20)
def wsX3_worstName_r1 : List Cond := [Cond.constant RX3 54 (-1000000001), Cond.fieldLink RX3 43 "FutureSets" "worstNumbers" "[I", Cond.methodLink RX3 111 yX3_isPlan, Cond.instanceMethod yX3_isPlan, Cond.selects RX3 yX3_isPlan yX3_isPlan, Cond.initialized RX3, Cond.code yX3_isPlan cX3_isPlan 2 (some .boolean), Cond.methodLink RX3 133 yX3_planCount, Cond.instanceMethod yX3_planCount, Cond.selects RX3 yX3_planCount yX3_planCount, Cond.code yX3_planCount cX3_planCount 1 (some .int), Cond.fieldLink RX3 78 "FutureSets" "firstCount" "I", Cond.fieldLink RX3 81 "FutureSets" "secondCount" "I", Cond.methodLink RX3 50 yX3_isWithin, Cond.static yX3_isWithin, Cond.code yX3_isWithin cX3_isWithin 3 (some .boolean), Cond.methodLink RX3 74 yX3_isRowOrCost, Cond.instanceMethod yX3_isRowOrCost, Cond.selects RX3 yX3_isRowOrCost yX3_isRowOrCost, Cond.code yX3_isRowOrCost cX3_isRowOrCost 2 (some .boolean), Cond.fieldLink RX3 71 "FutureSets" "rowCount" "I", Cond.methodLink RX3 94 yX3_isName, Cond.instanceMethod yX3_isName, Cond.selects RX3 yX3_isName yX3_isName]
def wsX3_worstName_r2 : List Cond := [Cond.code yX3_isName cX3_isName 2 (some .boolean), Cond.fieldLink RX3 10 "FutureSets" "names" "LFutureSets$Names;", Cond.fieldLink RX3 59 "FutureSets$Names" "count" "I", Cond.methodLink RX3 125 yX3_findWorst, Cond.instanceMethod yX3_findWorst, Cond.selects RX3 yX3_findWorst yX3_findWorst, Cond.code yX3_findWorst cX3_findWorst 6 (some .int), Cond.fieldLink RX3 19 "FutureSets" "terms" "LFutureSets$Terms;", Cond.fieldLink RX3 37 "FutureSets" "weights" "[I", Cond.fieldLink RX3 114 "FutureSets$Names" "usual" "[I", Cond.fieldLink RX3 40 "FutureSets" "gains" "[I", Cond.fieldLink RX3 68 "FutureSets" "budgetNow" "I", Cond.constant RX3 132 (-1000000003), Cond.methodLink RX3 180 yX2_weigh, Cond.instanceMethod yX2_weigh, Cond.selects RX2 yX2_weigh yX2_weigh, Cond.initialized RX2, Cond.code yX2_weigh cX2_weigh 6 (some .int), Cond.fieldLink RX2 24 "FutureSets$Terms" "count" "I", Cond.fieldLink RX2 9 "FutureSets$Terms" "rowOf" "[I", Cond.fieldLink RX2 18 "FutureSets$Terms" "nameOf" "[I", Cond.fieldLink RX2 21 "FutureSets$Terms" "factorOf" "[I", Cond.methodLink RX2 28 yX2_isTaken, Cond.instanceMethod yX2_isTaken]
def wsX3_worstName_r3 : List Cond := [Cond.selects RX2 yX2_isTaken yX2_isTaken, Cond.code yX2_isTaken cX2_isTaken 3 (some .boolean), Cond.fieldLink RX2 15 "FutureSets$Terms" "choiceOf" "[I", Cond.methodLink RX3 184 yX3_worstOf, Cond.instanceMethod yX3_worstOf, Cond.selects RX3 yX3_worstOf yX3_worstOf, Cond.code yX3_worstOf cX3_worstOf 2 (some .int), Cond.fieldLink RX3 100 "FutureSets$Names" "greatest" "[I", Cond.fieldLink RX3 97 "FutureSets$Names" "least" "[I", Cond.methodLink RX3 187 yX3_greatestGain, Cond.instanceMethod yX3_greatestGain, Cond.selects RX3 yX3_greatestGain yX3_greatestGain, Cond.code yX3_greatestGain cX3_greatestGain 4 (some .int)]
def wsX3_worstName : List Cond := .code yX3_worstName cX3_worstName 4 (some .int) :: ((wsX3_worstName_r1 ++ (wsX3_worstName_r2 ++ wsX3_worstName_r3)) ++ wsX30 ++ wsX10 ++ wsX20)
def wsX3_firstBroken_r1 : List Cond := [Cond.fieldLink RX3 71 "FutureSets" "rowCount" "I", Cond.constant RX3 132 (-1000000003), Cond.methodLink RX3 125 yX3_findWorst, Cond.instanceMethod yX3_findWorst, Cond.selects RX3 yX3_findWorst yX3_findWorst, Cond.initialized RX3, Cond.code yX3_findWorst cX3_findWorst 6 (some .int), Cond.fieldLink RX3 19 "FutureSets" "terms" "LFutureSets$Terms;", Cond.fieldLink RX3 37 "FutureSets" "weights" "[I", Cond.fieldLink RX3 10 "FutureSets" "names" "LFutureSets$Names;", Cond.fieldLink RX3 59 "FutureSets$Names" "count" "I", Cond.fieldLink RX3 114 "FutureSets$Names" "usual" "[I", Cond.fieldLink RX3 40 "FutureSets" "gains" "[I", Cond.fieldLink RX3 43 "FutureSets" "worstNumbers" "[I", Cond.fieldLink RX3 68 "FutureSets" "budgetNow" "I", Cond.methodLink RX3 180 yX2_weigh, Cond.instanceMethod yX2_weigh, Cond.selects RX2 yX2_weigh yX2_weigh, Cond.initialized RX2, Cond.code yX2_weigh cX2_weigh 6 (some .int), Cond.fieldLink RX2 24 "FutureSets$Terms" "count" "I", Cond.fieldLink RX2 9 "FutureSets$Terms" "rowOf" "[I", Cond.fieldLink RX2 18 "FutureSets$Terms" "nameOf" "[I", Cond.fieldLink RX2 21 "FutureSets$Terms" "factorOf" "[I"]
def wsX3_firstBroken_r2 : List Cond := [Cond.methodLink RX2 28 yX2_isTaken, Cond.instanceMethod yX2_isTaken, Cond.selects RX2 yX2_isTaken yX2_isTaken, Cond.code yX2_isTaken cX2_isTaken 3 (some .boolean), Cond.fieldLink RX2 15 "FutureSets$Terms" "choiceOf" "[I", Cond.methodLink RX3 184 yX3_worstOf, Cond.instanceMethod yX3_worstOf, Cond.selects RX3 yX3_worstOf yX3_worstOf, Cond.code yX3_worstOf cX3_worstOf 2 (some .int), Cond.fieldLink RX3 100 "FutureSets$Names" "greatest" "[I", Cond.fieldLink RX3 97 "FutureSets$Names" "least" "[I", Cond.methodLink RX3 187 yX3_greatestGain, Cond.instanceMethod yX3_greatestGain, Cond.selects RX3 yX3_greatestGain yX3_greatestGain, Cond.code yX3_greatestGain cX3_greatestGain 4 (some .int)]
def wsX3_firstBroken : List Cond := .code yX3_firstBroken cX3_firstBroken 3 (some .int) :: ((wsX3_firstBroken_r1 ++ wsX3_firstBroken_r2) ++ wsX30 ++ wsX10 ++ wsX20)
def wsX3_breaks_r1 : List Cond := [Cond.constant RX3 54 (-1000000001), Cond.methodLink RX3 111 yX3_isPlan, Cond.instanceMethod yX3_isPlan, Cond.selects RX3 yX3_isPlan yX3_isPlan, Cond.initialized RX3, Cond.code yX3_isPlan cX3_isPlan 2 (some .boolean), Cond.methodLink RX3 133 yX3_planCount, Cond.instanceMethod yX3_planCount, Cond.selects RX3 yX3_planCount yX3_planCount, Cond.code yX3_planCount cX3_planCount 1 (some .int), Cond.fieldLink RX3 78 "FutureSets" "firstCount" "I", Cond.fieldLink RX3 81 "FutureSets" "secondCount" "I", Cond.methodLink RX3 50 yX3_isWithin, Cond.static yX3_isWithin, Cond.code yX3_isWithin cX3_isWithin 3 (some .boolean), Cond.methodLink RX3 129 yX3_firstBroken, Cond.instanceMethod yX3_firstBroken, Cond.selects RX3 yX3_firstBroken yX3_firstBroken, Cond.code yX3_firstBroken cX3_firstBroken 3 (some .int), Cond.fieldLink RX3 71 "FutureSets" "rowCount" "I", Cond.constant RX3 132 (-1000000003), Cond.methodLink RX3 125 yX3_findWorst, Cond.instanceMethod yX3_findWorst, Cond.selects RX3 yX3_findWorst yX3_findWorst]
def wsX3_breaks_r2 : List Cond := [Cond.code yX3_findWorst cX3_findWorst 6 (some .int), Cond.fieldLink RX3 19 "FutureSets" "terms" "LFutureSets$Terms;", Cond.fieldLink RX3 37 "FutureSets" "weights" "[I", Cond.fieldLink RX3 10 "FutureSets" "names" "LFutureSets$Names;", Cond.fieldLink RX3 59 "FutureSets$Names" "count" "I", Cond.fieldLink RX3 114 "FutureSets$Names" "usual" "[I", Cond.fieldLink RX3 40 "FutureSets" "gains" "[I", Cond.fieldLink RX3 43 "FutureSets" "worstNumbers" "[I", Cond.fieldLink RX3 68 "FutureSets" "budgetNow" "I", Cond.methodLink RX3 180 yX2_weigh, Cond.instanceMethod yX2_weigh, Cond.selects RX2 yX2_weigh yX2_weigh, Cond.initialized RX2, Cond.code yX2_weigh cX2_weigh 6 (some .int), Cond.fieldLink RX2 24 "FutureSets$Terms" "count" "I", Cond.fieldLink RX2 9 "FutureSets$Terms" "rowOf" "[I", Cond.fieldLink RX2 18 "FutureSets$Terms" "nameOf" "[I", Cond.fieldLink RX2 21 "FutureSets$Terms" "factorOf" "[I", Cond.methodLink RX2 28 yX2_isTaken, Cond.instanceMethod yX2_isTaken, Cond.selects RX2 yX2_isTaken yX2_isTaken, Cond.code yX2_isTaken cX2_isTaken 3 (some .boolean), Cond.fieldLink RX2 15 "FutureSets$Terms" "choiceOf" "[I", Cond.methodLink RX3 184 yX3_worstOf]
def wsX3_breaks_r3 : List Cond := [Cond.instanceMethod yX3_worstOf, Cond.selects RX3 yX3_worstOf yX3_worstOf, Cond.code yX3_worstOf cX3_worstOf 2 (some .int), Cond.fieldLink RX3 100 "FutureSets$Names" "greatest" "[I", Cond.fieldLink RX3 97 "FutureSets$Names" "least" "[I", Cond.methodLink RX3 187 yX3_greatestGain, Cond.instanceMethod yX3_greatestGain, Cond.selects RX3 yX3_greatestGain yX3_greatestGain, Cond.code yX3_greatestGain cX3_greatestGain 4 (some .int)]
def wsX3_breaks : List Cond := .code yX3_breaks cX3_breaks 2 (some .int) :: ((wsX3_breaks_r1 ++ (wsX3_breaks_r2 ++ wsX3_breaks_r3)) ++ wsX30 ++ wsX10 ++ wsX20)
def wsX3_safest_r1 : List Cond := [Cond.constant RX3 132 (-1000000003), Cond.methodLink RX3 133 yX3_planCount, Cond.instanceMethod yX3_planCount, Cond.selects RX3 yX3_planCount yX3_planCount, Cond.initialized RX3, Cond.code yX3_planCount cX3_planCount 1 (some .int), Cond.fieldLink RX3 78 "FutureSets" "firstCount" "I", Cond.fieldLink RX3 81 "FutureSets" "secondCount" "I", Cond.methodLink RX3 125 yX3_findWorst, Cond.instanceMethod yX3_findWorst, Cond.selects RX3 yX3_findWorst yX3_findWorst, Cond.code yX3_findWorst cX3_findWorst 6 (some .int), Cond.fieldLink RX3 19 "FutureSets" "terms" "LFutureSets$Terms;", Cond.fieldLink RX3 37 "FutureSets" "weights" "[I", Cond.fieldLink RX3 10 "FutureSets" "names" "LFutureSets$Names;", Cond.fieldLink RX3 59 "FutureSets$Names" "count" "I", Cond.fieldLink RX3 114 "FutureSets$Names" "usual" "[I", Cond.fieldLink RX3 40 "FutureSets" "gains" "[I", Cond.fieldLink RX3 43 "FutureSets" "worstNumbers" "[I", Cond.fieldLink RX3 68 "FutureSets" "budgetNow" "I", Cond.methodLink RX3 180 yX2_weigh, Cond.instanceMethod yX2_weigh, Cond.selects RX2 yX2_weigh yX2_weigh, Cond.initialized RX2]
def wsX3_safest_r2 : List Cond := [Cond.code yX2_weigh cX2_weigh 6 (some .int), Cond.fieldLink RX2 24 "FutureSets$Terms" "count" "I", Cond.fieldLink RX2 9 "FutureSets$Terms" "rowOf" "[I", Cond.fieldLink RX2 18 "FutureSets$Terms" "nameOf" "[I", Cond.fieldLink RX2 21 "FutureSets$Terms" "factorOf" "[I", Cond.methodLink RX2 28 yX2_isTaken, Cond.instanceMethod yX2_isTaken, Cond.selects RX2 yX2_isTaken yX2_isTaken, Cond.code yX2_isTaken cX2_isTaken 3 (some .boolean), Cond.fieldLink RX2 15 "FutureSets$Terms" "choiceOf" "[I", Cond.methodLink RX3 184 yX3_worstOf, Cond.instanceMethod yX3_worstOf, Cond.selects RX3 yX3_worstOf yX3_worstOf, Cond.code yX3_worstOf cX3_worstOf 2 (some .int), Cond.fieldLink RX3 100 "FutureSets$Names" "greatest" "[I", Cond.fieldLink RX3 97 "FutureSets$Names" "least" "[I", Cond.methodLink RX3 187 yX3_greatestGain, Cond.instanceMethod yX3_greatestGain, Cond.selects RX3 yX3_greatestGain yX3_greatestGain, Cond.code yX3_greatestGain cX3_greatestGain 4 (some .int), Cond.methodLink RX3 129 yX3_firstBroken, Cond.instanceMethod yX3_firstBroken, Cond.selects RX3 yX3_firstBroken yX3_firstBroken, Cond.code yX3_firstBroken cX3_firstBroken 3 (some .int)]
def wsX3_safest_r3 : List Cond := [Cond.fieldLink RX3 71 "FutureSets" "rowCount" "I"]
def wsX3_safest : List Cond := .code yX3_safest cX3_safest 5 (some .int) :: ((wsX3_safest_r1 ++ (wsX3_safest_r2 ++ wsX3_safest_r3)) ++ wsX30 ++ wsX10 ++ wsX20)
def wsX3_firstPartCount : List Cond := .code yX3_firstPartCount cX3_firstPartCount 1 (some .int) :: ([.fieldLink RX3 78 "FutureSets" "firstCount" "I"] ++ wsX30)
def wsX3_isFirstPart : List Cond := .code yX3_isFirstPart cX3_isFirstPart 2 (some .boolean) :: ([.methodLink RX3 166 yX3_firstPartCount, .instanceMethod yX3_firstPartCount, .selects RX3 yX3_firstPartCount yX3_firstPartCount, .initialized RX3, .code yX3_firstPartCount cX3_firstPartCount 1 (some .int), .fieldLink RX3 78 "FutureSets" "firstCount" "I", .methodLink RX3 50 yX3_isWithin, .static yX3_isWithin, .code yX3_isWithin cX3_isWithin 3 (some .boolean)] ++ wsX30)
def wsX3_allHold : List Cond := .code yX3_allHold cX3_allHold 4 (some .boolean) :: ([.fieldLink RX3 19 "FutureSets" "terms" "LFutureSets$Terms;", .fieldLink RX3 26 "FutureSets" "listed" "LFutureSets$Listed;", .fieldLink RX3 103 "FutureSets$Listed" "numbers" "[[I", .fieldLink RX3 30 "FutureSets" "sums" "[I", .fieldLink RX3 71 "FutureSets" "rowCount" "I", .methodLink RX3 117 yX2_sumUp, .instanceMethod yX2_sumUp, .selects RX2 yX2_sumUp yX2_sumUp, .initialized RX2, .code yX2_sumUp cX2_sumUp 6 none, .fieldLink RX2 24 "FutureSets$Terms" "count" "I", .fieldLink RX2 18 "FutureSets$Terms" "nameOf" "[I", .fieldLink RX2 9 "FutureSets$Terms" "rowOf" "[I", .fieldLink RX2 21 "FutureSets$Terms" "factorOf" "[I", .methodLink RX2 28 yX2_isTaken, .instanceMethod yX2_isTaken, .selects RX2 yX2_isTaken yX2_isTaken, .code yX2_isTaken cX2_isTaken 3 (some .boolean), .fieldLink RX2 15 "FutureSets$Terms" "choiceOf" "[I", .static yX3_slotOf, .initialized RX3, .code yX3_slotOf cX3_slotOf 1 (some .int), .methodLink RX3 121 yX3_slotOf] ++ wsX30 ++ wsX00 ++ wsX20)
def wsX3_findAnswer_r1 : List Cond := [Cond.constant RX3 132 (-1000000003), Cond.fieldLink RX3 81 "FutureSets" "secondCount" "I", Cond.fieldLink RX3 78 "FutureSets" "firstCount" "I", Cond.fieldLink RX3 30 "FutureSets" "sums" "[I", Cond.methodLink RX3 176 yX3_allHold, Cond.instanceMethod yX3_allHold, Cond.selects RX3 yX3_allHold yX3_allHold, Cond.initialized RX3, Cond.code yX3_allHold cX3_allHold 4 (some .boolean), Cond.fieldLink RX3 19 "FutureSets" "terms" "LFutureSets$Terms;", Cond.fieldLink RX3 26 "FutureSets" "listed" "LFutureSets$Listed;", Cond.fieldLink RX3 103 "FutureSets$Listed" "numbers" "[[I", Cond.fieldLink RX3 71 "FutureSets" "rowCount" "I", Cond.methodLink RX3 117 yX2_sumUp, Cond.instanceMethod yX2_sumUp, Cond.selects RX2 yX2_sumUp yX2_sumUp, Cond.initialized RX2, Cond.code yX2_sumUp cX2_sumUp 6 none, Cond.fieldLink RX2 24 "FutureSets$Terms" "count" "I", Cond.fieldLink RX2 18 "FutureSets$Terms" "nameOf" "[I", Cond.fieldLink RX2 9 "FutureSets$Terms" "rowOf" "[I", Cond.fieldLink RX2 21 "FutureSets$Terms" "factorOf" "[I", Cond.methodLink RX2 28 yX2_isTaken, Cond.instanceMethod yX2_isTaken]
def wsX3_findAnswer_r2 : List Cond := [Cond.selects RX2 yX2_isTaken yX2_isTaken, Cond.code yX2_isTaken cX2_isTaken 3 (some .boolean), Cond.fieldLink RX2 15 "FutureSets$Terms" "choiceOf" "[I", Cond.static yX3_slotOf, Cond.code yX3_slotOf cX3_slotOf 1 (some .int), Cond.methodLink RX3 121 yX3_slotOf]
def wsX3_findAnswer : List Cond := .code yX3_findAnswer cX3_findAnswer 8 (some .int) :: ((wsX3_findAnswer_r1 ++ wsX3_findAnswer_r2) ++ wsX30 ++ wsX00 ++ wsX20)
def wsX3_answer_r1 : List Cond := [Cond.constant RX3 54 (-1000000001), Cond.methodLink RX3 136 yX3_isFirstPart, Cond.instanceMethod yX3_isFirstPart, Cond.selects RX3 yX3_isFirstPart yX3_isFirstPart, Cond.initialized RX3, Cond.code yX3_isFirstPart cX3_isFirstPart 2 (some .boolean), Cond.methodLink RX3 166 yX3_firstPartCount, Cond.instanceMethod yX3_firstPartCount, Cond.selects RX3 yX3_firstPartCount yX3_firstPartCount, Cond.code yX3_firstPartCount cX3_firstPartCount 1 (some .int), Cond.fieldLink RX3 78 "FutureSets" "firstCount" "I", Cond.methodLink RX3 50 yX3_isWithin, Cond.static yX3_isWithin, Cond.code yX3_isWithin cX3_isWithin 3 (some .boolean), Cond.methodLink RX3 91 yX3_isListed, Cond.instanceMethod yX3_isListed, Cond.selects RX3 yX3_isListed yX3_isListed, Cond.code yX3_isListed cX3_isListed 2 (some .boolean), Cond.fieldLink RX3 26 "FutureSets" "listed" "LFutureSets$Listed;", Cond.fieldLink RX3 87 "FutureSets$Listed" "count" "I", Cond.methodLink RX3 139 yX3_findAnswer, Cond.instanceMethod yX3_findAnswer, Cond.selects RX3 yX3_findAnswer yX3_findAnswer, Cond.code yX3_findAnswer cX3_findAnswer 8 (some .int)]
def wsX3_answer_r2 : List Cond := [Cond.constant RX3 132 (-1000000003), Cond.fieldLink RX3 81 "FutureSets" "secondCount" "I", Cond.fieldLink RX3 30 "FutureSets" "sums" "[I", Cond.methodLink RX3 176 yX3_allHold, Cond.instanceMethod yX3_allHold, Cond.selects RX3 yX3_allHold yX3_allHold, Cond.code yX3_allHold cX3_allHold 4 (some .boolean), Cond.fieldLink RX3 19 "FutureSets" "terms" "LFutureSets$Terms;", Cond.fieldLink RX3 103 "FutureSets$Listed" "numbers" "[[I", Cond.fieldLink RX3 71 "FutureSets" "rowCount" "I", Cond.methodLink RX3 117 yX2_sumUp, Cond.instanceMethod yX2_sumUp, Cond.selects RX2 yX2_sumUp yX2_sumUp, Cond.initialized RX2, Cond.code yX2_sumUp cX2_sumUp 6 none, Cond.fieldLink RX2 24 "FutureSets$Terms" "count" "I", Cond.fieldLink RX2 18 "FutureSets$Terms" "nameOf" "[I", Cond.fieldLink RX2 9 "FutureSets$Terms" "rowOf" "[I", Cond.fieldLink RX2 21 "FutureSets$Terms" "factorOf" "[I", Cond.methodLink RX2 28 yX2_isTaken, Cond.instanceMethod yX2_isTaken, Cond.selects RX2 yX2_isTaken yX2_isTaken, Cond.code yX2_isTaken cX2_isTaken 3 (some .boolean), Cond.fieldLink RX2 15 "FutureSets$Terms" "choiceOf" "[I"]
def wsX3_answer_r3 : List Cond := [Cond.static yX3_slotOf, Cond.code yX3_slotOf cX3_slotOf 1 (some .int), Cond.methodLink RX3 121 yX3_slotOf]
def wsX3_answer : List Cond := .code yX3_answer cX3_answer 3 (some .int) :: ((wsX3_answer_r1 ++ (wsX3_answer_r2 ++ wsX3_answer_r3)) ++ wsX30 ++ wsX00 ++ wsX20)
def wsX3_costOf : List Cond := .code yX3_costOf cX3_costOf 3 (some .int) :: ([.fieldLink RX3 19 "FutureSets" "terms" "LFutureSets$Terms;", .fieldLink RX3 26 "FutureSets" "listed" "LFutureSets$Listed;", .fieldLink RX3 103 "FutureSets$Listed" "numbers" "[[I", .fieldLink RX3 30 "FutureSets" "sums" "[I", .methodLink RX3 117 yX2_sumUp, .instanceMethod yX2_sumUp, .selects RX2 yX2_sumUp yX2_sumUp, .initialized RX2, .code yX2_sumUp cX2_sumUp 6 none, .fieldLink RX2 24 "FutureSets$Terms" "count" "I", .fieldLink RX2 18 "FutureSets$Terms" "nameOf" "[I", .fieldLink RX2 9 "FutureSets$Terms" "rowOf" "[I", .fieldLink RX2 21 "FutureSets$Terms" "factorOf" "[I", .methodLink RX2 28 yX2_isTaken, .instanceMethod yX2_isTaken, .selects RX2 yX2_isTaken yX2_isTaken, .code yX2_isTaken cX2_isTaken 3 (some .boolean), .fieldLink RX2 15 "FutureSets$Terms" "choiceOf" "[I", .static yX3_slotOf, .initialized RX3, .code yX3_slotOf cX3_slotOf 1 (some .int), .methodLink RX3 121 yX3_slotOf] ++ wsX30 ++ wsX00 ++ wsX20)
def wsX3_costByOdds_r1 : List Cond := [Cond.fieldLink RX3 26 "FutureSets" "listed" "LFutureSets$Listed;", Cond.constant RX3 132 (-1000000003), Cond.fieldLink RX3 87 "FutureSets$Listed" "count" "I", Cond.fieldLink RX3 169 "FutureSets$Listed" "kept" "[Z", Cond.fieldLink RX3 173 "FutureSets$Listed" "odds" "[I", Cond.methodLink RX3 151 yX0_countedOdds, Cond.instanceMethod yX0_countedOdds, Cond.selects RX0 yX0_countedOdds yX0_countedOdds, Cond.initialized RX0, Cond.code yX0_countedOdds cX0_countedOdds 3 (some .int), Cond.fieldLink RX0 24 "FutureSets$Listed" "count" "I", Cond.fieldLink RX0 15 "FutureSets$Listed" "kept" "[Z", Cond.fieldLink RX0 9 "FutureSets$Listed" "odds" "[I", Cond.methodLink RX3 139 yX3_findAnswer, Cond.instanceMethod yX3_findAnswer, Cond.selects RX3 yX3_findAnswer yX3_findAnswer, Cond.initialized RX3, Cond.code yX3_findAnswer cX3_findAnswer 8 (some .int), Cond.fieldLink RX3 81 "FutureSets" "secondCount" "I", Cond.fieldLink RX3 78 "FutureSets" "firstCount" "I", Cond.fieldLink RX3 30 "FutureSets" "sums" "[I", Cond.methodLink RX3 176 yX3_allHold, Cond.instanceMethod yX3_allHold, Cond.selects RX3 yX3_allHold yX3_allHold]
def wsX3_costByOdds_r2 : List Cond := [Cond.code yX3_allHold cX3_allHold 4 (some .boolean), Cond.fieldLink RX3 19 "FutureSets" "terms" "LFutureSets$Terms;", Cond.fieldLink RX3 103 "FutureSets$Listed" "numbers" "[[I", Cond.fieldLink RX3 71 "FutureSets" "rowCount" "I", Cond.methodLink RX3 117 yX2_sumUp, Cond.instanceMethod yX2_sumUp, Cond.selects RX2 yX2_sumUp yX2_sumUp, Cond.initialized RX2, Cond.code yX2_sumUp cX2_sumUp 6 none, Cond.fieldLink RX2 24 "FutureSets$Terms" "count" "I", Cond.fieldLink RX2 18 "FutureSets$Terms" "nameOf" "[I", Cond.fieldLink RX2 9 "FutureSets$Terms" "rowOf" "[I", Cond.fieldLink RX2 21 "FutureSets$Terms" "factorOf" "[I", Cond.methodLink RX2 28 yX2_isTaken, Cond.instanceMethod yX2_isTaken, Cond.selects RX2 yX2_isTaken yX2_isTaken, Cond.code yX2_isTaken cX2_isTaken 3 (some .boolean), Cond.fieldLink RX2 15 "FutureSets$Terms" "choiceOf" "[I", Cond.static yX3_slotOf, Cond.code yX3_slotOf cX3_slotOf 1 (some .int), Cond.methodLink RX3 121 yX3_slotOf, Cond.methodLink RX3 190 yX3_costOf, Cond.instanceMethod yX3_costOf, Cond.selects RX3 yX3_costOf yX3_costOf]
def wsX3_costByOdds_r3 : List Cond := [Cond.code yX3_costOf cX3_costOf 3 (some .int)]
def wsX3_costByOdds : List Cond := .code yX3_costByOdds cX3_costByOdds 5 (some .int) :: ((wsX3_costByOdds_r1 ++ (wsX3_costByOdds_r2 ++ wsX3_costByOdds_r3)) ++ wsX30 ++ wsX00 ++ wsX20)
def wsX3_findTwoStep_r1 : List Cond := [Cond.constant RX3 132 (-1000000003), Cond.methodLink RX3 166 yX3_firstPartCount, Cond.instanceMethod yX3_firstPartCount, Cond.selects RX3 yX3_firstPartCount yX3_firstPartCount, Cond.initialized RX3, Cond.code yX3_firstPartCount cX3_firstPartCount 1 (some .int), Cond.fieldLink RX3 78 "FutureSets" "firstCount" "I", Cond.methodLink RX3 148 yX3_costByOdds, Cond.instanceMethod yX3_costByOdds, Cond.selects RX3 yX3_costByOdds yX3_costByOdds, Cond.code yX3_costByOdds cX3_costByOdds 5 (some .int), Cond.fieldLink RX3 26 "FutureSets" "listed" "LFutureSets$Listed;", Cond.fieldLink RX3 87 "FutureSets$Listed" "count" "I", Cond.fieldLink RX3 169 "FutureSets$Listed" "kept" "[Z", Cond.fieldLink RX3 173 "FutureSets$Listed" "odds" "[I", Cond.methodLink RX3 151 yX0_countedOdds, Cond.instanceMethod yX0_countedOdds, Cond.selects RX0 yX0_countedOdds yX0_countedOdds, Cond.initialized RX0, Cond.code yX0_countedOdds cX0_countedOdds 3 (some .int), Cond.fieldLink RX0 24 "FutureSets$Listed" "count" "I", Cond.fieldLink RX0 15 "FutureSets$Listed" "kept" "[Z", Cond.fieldLink RX0 9 "FutureSets$Listed" "odds" "[I", Cond.methodLink RX3 139 yX3_findAnswer]
def wsX3_findTwoStep_r2 : List Cond := [Cond.instanceMethod yX3_findAnswer, Cond.selects RX3 yX3_findAnswer yX3_findAnswer, Cond.code yX3_findAnswer cX3_findAnswer 8 (some .int), Cond.fieldLink RX3 81 "FutureSets" "secondCount" "I", Cond.fieldLink RX3 30 "FutureSets" "sums" "[I", Cond.methodLink RX3 176 yX3_allHold, Cond.instanceMethod yX3_allHold, Cond.selects RX3 yX3_allHold yX3_allHold, Cond.code yX3_allHold cX3_allHold 4 (some .boolean), Cond.fieldLink RX3 19 "FutureSets" "terms" "LFutureSets$Terms;", Cond.fieldLink RX3 103 "FutureSets$Listed" "numbers" "[[I", Cond.fieldLink RX3 71 "FutureSets" "rowCount" "I", Cond.methodLink RX3 117 yX2_sumUp, Cond.instanceMethod yX2_sumUp, Cond.selects RX2 yX2_sumUp yX2_sumUp, Cond.initialized RX2, Cond.code yX2_sumUp cX2_sumUp 6 none, Cond.fieldLink RX2 24 "FutureSets$Terms" "count" "I", Cond.fieldLink RX2 18 "FutureSets$Terms" "nameOf" "[I", Cond.fieldLink RX2 9 "FutureSets$Terms" "rowOf" "[I", Cond.fieldLink RX2 21 "FutureSets$Terms" "factorOf" "[I", Cond.methodLink RX2 28 yX2_isTaken, Cond.instanceMethod yX2_isTaken, Cond.selects RX2 yX2_isTaken yX2_isTaken]
def wsX3_findTwoStep_r3 : List Cond := [Cond.code yX2_isTaken cX2_isTaken 3 (some .boolean), Cond.fieldLink RX2 15 "FutureSets$Terms" "choiceOf" "[I", Cond.static yX3_slotOf, Cond.code yX3_slotOf cX3_slotOf 1 (some .int), Cond.methodLink RX3 121 yX3_slotOf, Cond.methodLink RX3 190 yX3_costOf, Cond.instanceMethod yX3_costOf, Cond.selects RX3 yX3_costOf yX3_costOf, Cond.code yX3_costOf cX3_costOf 3 (some .int)]
def wsX3_findTwoStep : List Cond := .code yX3_findTwoStep cX3_findTwoStep 5 (some .int) :: ((wsX3_findTwoStep_r1 ++ (wsX3_findTwoStep_r2 ++ wsX3_findTwoStep_r3)) ++ wsX30 ++ wsX00 ++ wsX20)
def wsX3_twoStep_r1 : List Cond := [Cond.methodLink RX3 142 yX3_findTwoStep, Cond.instanceMethod yX3_findTwoStep, Cond.selects RX3 yX3_findTwoStep yX3_findTwoStep, Cond.initialized RX3, Cond.code yX3_findTwoStep cX3_findTwoStep 5 (some .int), Cond.constant RX3 132 (-1000000003), Cond.methodLink RX3 166 yX3_firstPartCount, Cond.instanceMethod yX3_firstPartCount, Cond.selects RX3 yX3_firstPartCount yX3_firstPartCount, Cond.code yX3_firstPartCount cX3_firstPartCount 1 (some .int), Cond.fieldLink RX3 78 "FutureSets" "firstCount" "I", Cond.methodLink RX3 148 yX3_costByOdds, Cond.instanceMethod yX3_costByOdds, Cond.selects RX3 yX3_costByOdds yX3_costByOdds, Cond.code yX3_costByOdds cX3_costByOdds 5 (some .int), Cond.fieldLink RX3 26 "FutureSets" "listed" "LFutureSets$Listed;", Cond.fieldLink RX3 87 "FutureSets$Listed" "count" "I", Cond.fieldLink RX3 169 "FutureSets$Listed" "kept" "[Z", Cond.fieldLink RX3 173 "FutureSets$Listed" "odds" "[I", Cond.methodLink RX3 151 yX0_countedOdds, Cond.instanceMethod yX0_countedOdds, Cond.selects RX0 yX0_countedOdds yX0_countedOdds, Cond.initialized RX0, Cond.code yX0_countedOdds cX0_countedOdds 3 (some .int)]
def wsX3_twoStep_r2 : List Cond := [Cond.fieldLink RX0 24 "FutureSets$Listed" "count" "I", Cond.fieldLink RX0 15 "FutureSets$Listed" "kept" "[Z", Cond.fieldLink RX0 9 "FutureSets$Listed" "odds" "[I", Cond.methodLink RX3 139 yX3_findAnswer, Cond.instanceMethod yX3_findAnswer, Cond.selects RX3 yX3_findAnswer yX3_findAnswer, Cond.code yX3_findAnswer cX3_findAnswer 8 (some .int), Cond.fieldLink RX3 81 "FutureSets" "secondCount" "I", Cond.fieldLink RX3 30 "FutureSets" "sums" "[I", Cond.methodLink RX3 176 yX3_allHold, Cond.instanceMethod yX3_allHold, Cond.selects RX3 yX3_allHold yX3_allHold, Cond.code yX3_allHold cX3_allHold 4 (some .boolean), Cond.fieldLink RX3 19 "FutureSets" "terms" "LFutureSets$Terms;", Cond.fieldLink RX3 103 "FutureSets$Listed" "numbers" "[[I", Cond.fieldLink RX3 71 "FutureSets" "rowCount" "I", Cond.methodLink RX3 117 yX2_sumUp, Cond.instanceMethod yX2_sumUp, Cond.selects RX2 yX2_sumUp yX2_sumUp, Cond.initialized RX2, Cond.code yX2_sumUp cX2_sumUp 6 none, Cond.fieldLink RX2 24 "FutureSets$Terms" "count" "I", Cond.fieldLink RX2 18 "FutureSets$Terms" "nameOf" "[I", Cond.fieldLink RX2 9 "FutureSets$Terms" "rowOf" "[I"]
def wsX3_twoStep_r3 : List Cond := [Cond.fieldLink RX2 21 "FutureSets$Terms" "factorOf" "[I", Cond.methodLink RX2 28 yX2_isTaken, Cond.instanceMethod yX2_isTaken, Cond.selects RX2 yX2_isTaken yX2_isTaken, Cond.code yX2_isTaken cX2_isTaken 3 (some .boolean), Cond.fieldLink RX2 15 "FutureSets$Terms" "choiceOf" "[I", Cond.static yX3_slotOf, Cond.code yX3_slotOf cX3_slotOf 1 (some .int), Cond.methodLink RX3 121 yX3_slotOf, Cond.methodLink RX3 190 yX3_costOf, Cond.instanceMethod yX3_costOf, Cond.selects RX3 yX3_costOf yX3_costOf, Cond.code yX3_costOf cX3_costOf 3 (some .int)]
def wsX3_twoStep : List Cond := .code yX3_twoStep cX3_twoStep 1 (some .int) :: ((wsX3_twoStep_r1 ++ (wsX3_twoStep_r2 ++ wsX3_twoStep_r3)) ++ wsX30 ++ wsX00 ++ wsX20)
def wsX3_isPart : List Cond := .code yX3_isPart cX3_isPart 1 (some .boolean) :: ([.methodLink RX3 50 yX3_isWithin, .static yX3_isWithin, .initialized RX3, .code yX3_isWithin cX3_isWithin 3 (some .boolean)])
def wsX3_commonDivisor : List Cond := .code yX3_commonDivisor cX3_commonDivisor 6 (some .int) :: ([])
def wsX3_partOfFraction : List Cond := .code yX3_partOfFraction cX3_partOfFraction 5 (some .int) :: ([.methodLink RX3 198 Lib.Math.abs.name, .static Lib.Math.abs.name, .initialized "java/lang/Math", .code Lib.Math.abs.name Lib.Math.abs.code 1 (some .int), .methodLink RX3 201 yX3_commonDivisor, .static yX3_commonDivisor, .initialized RX3, .code yX3_commonDivisor cX3_commonDivisor 6 (some .int)])
def wsX3_mean_r1 : List Cond := [Cond.constant RX3 54 (-1000000001), Cond.constant RX3 132 (-1000000003), Cond.fieldLink RX3 26 "FutureSets" "listed" "LFutureSets$Listed;", Cond.methodLink RX3 136 yX3_isFirstPart, Cond.instanceMethod yX3_isFirstPart, Cond.selects RX3 yX3_isFirstPart yX3_isFirstPart, Cond.initialized RX3, Cond.code yX3_isFirstPart cX3_isFirstPart 2 (some .boolean), Cond.methodLink RX3 166 yX3_firstPartCount, Cond.instanceMethod yX3_firstPartCount, Cond.selects RX3 yX3_firstPartCount yX3_firstPartCount, Cond.code yX3_firstPartCount cX3_firstPartCount 1 (some .int), Cond.fieldLink RX3 78 "FutureSets" "firstCount" "I", Cond.methodLink RX3 50 yX3_isWithin, Cond.static yX3_isWithin, Cond.code yX3_isWithin cX3_isWithin 3 (some .boolean), Cond.methodLink RX3 145 yX3_isPart, Cond.static yX3_isPart, Cond.code yX3_isPart cX3_isPart 1 (some .boolean), Cond.methodLink RX3 148 yX3_costByOdds, Cond.instanceMethod yX3_costByOdds, Cond.selects RX3 yX3_costByOdds yX3_costByOdds, Cond.code yX3_costByOdds cX3_costByOdds 5 (some .int), Cond.fieldLink RX3 87 "FutureSets$Listed" "count" "I"]
def wsX3_mean_r2 : List Cond := [Cond.fieldLink RX3 169 "FutureSets$Listed" "kept" "[Z", Cond.fieldLink RX3 173 "FutureSets$Listed" "odds" "[I", Cond.methodLink RX3 151 yX0_countedOdds, Cond.instanceMethod yX0_countedOdds, Cond.selects RX0 yX0_countedOdds yX0_countedOdds, Cond.initialized RX0, Cond.code yX0_countedOdds cX0_countedOdds 3 (some .int), Cond.fieldLink RX0 24 "FutureSets$Listed" "count" "I", Cond.fieldLink RX0 15 "FutureSets$Listed" "kept" "[Z", Cond.fieldLink RX0 9 "FutureSets$Listed" "odds" "[I", Cond.methodLink RX3 139 yX3_findAnswer, Cond.instanceMethod yX3_findAnswer, Cond.selects RX3 yX3_findAnswer yX3_findAnswer, Cond.code yX3_findAnswer cX3_findAnswer 8 (some .int), Cond.fieldLink RX3 81 "FutureSets" "secondCount" "I", Cond.fieldLink RX3 30 "FutureSets" "sums" "[I", Cond.methodLink RX3 176 yX3_allHold, Cond.instanceMethod yX3_allHold, Cond.selects RX3 yX3_allHold yX3_allHold, Cond.code yX3_allHold cX3_allHold 4 (some .boolean), Cond.fieldLink RX3 19 "FutureSets" "terms" "LFutureSets$Terms;", Cond.fieldLink RX3 103 "FutureSets$Listed" "numbers" "[[I", Cond.fieldLink RX3 71 "FutureSets" "rowCount" "I", Cond.methodLink RX3 117 yX2_sumUp]
def wsX3_mean_r3 : List Cond := [Cond.instanceMethod yX2_sumUp, Cond.selects RX2 yX2_sumUp yX2_sumUp, Cond.initialized RX2, Cond.code yX2_sumUp cX2_sumUp 6 none, Cond.fieldLink RX2 24 "FutureSets$Terms" "count" "I", Cond.fieldLink RX2 18 "FutureSets$Terms" "nameOf" "[I", Cond.fieldLink RX2 9 "FutureSets$Terms" "rowOf" "[I", Cond.fieldLink RX2 21 "FutureSets$Terms" "factorOf" "[I", Cond.methodLink RX2 28 yX2_isTaken, Cond.instanceMethod yX2_isTaken, Cond.selects RX2 yX2_isTaken yX2_isTaken, Cond.code yX2_isTaken cX2_isTaken 3 (some .boolean), Cond.fieldLink RX2 15 "FutureSets$Terms" "choiceOf" "[I", Cond.static yX3_slotOf, Cond.code yX3_slotOf cX3_slotOf 1 (some .int), Cond.methodLink RX3 121 yX3_slotOf, Cond.methodLink RX3 190 yX3_costOf, Cond.instanceMethod yX3_costOf, Cond.selects RX3 yX3_costOf yX3_costOf, Cond.code yX3_costOf cX3_costOf 3 (some .int), Cond.methodLink RX3 154 yX3_partOfFraction, Cond.static yX3_partOfFraction, Cond.code yX3_partOfFraction cX3_partOfFraction 5 (some .int), Cond.methodLink RX3 198 Lib.Math.abs.name]
def wsX3_mean_r4 : List Cond := [Cond.static Lib.Math.abs.name, Cond.initialized "java/lang/Math", Cond.code Lib.Math.abs.name Lib.Math.abs.code 1 (some .int), Cond.methodLink RX3 201 yX3_commonDivisor, Cond.static yX3_commonDivisor, Cond.code yX3_commonDivisor cX3_commonDivisor 6 (some .int)]
def wsX3_mean : List Cond := .code yX3_mean cX3_mean 4 (some .int) :: ((wsX3_mean_r1 ++ (wsX3_mean_r2 ++ (wsX3_mean_r3 ++ wsX3_mean_r4))) ++ wsX30 ++ wsX00 ++ wsX20)
def wsX3_leastCost_r1 : List Cond := [Cond.constant RX3 132 (-1000000003), Cond.fieldLink RX3 30 "FutureSets" "sums" "[I", Cond.methodLink RX3 133 yX3_planCount, Cond.instanceMethod yX3_planCount, Cond.selects RX3 yX3_planCount yX3_planCount, Cond.initialized RX3, Cond.code yX3_planCount cX3_planCount 1 (some .int), Cond.fieldLink RX3 78 "FutureSets" "firstCount" "I", Cond.fieldLink RX3 81 "FutureSets" "secondCount" "I", Cond.methodLink RX3 176 yX3_allHold, Cond.instanceMethod yX3_allHold, Cond.selects RX3 yX3_allHold yX3_allHold, Cond.code yX3_allHold cX3_allHold 4 (some .boolean), Cond.fieldLink RX3 19 "FutureSets" "terms" "LFutureSets$Terms;", Cond.fieldLink RX3 26 "FutureSets" "listed" "LFutureSets$Listed;", Cond.fieldLink RX3 103 "FutureSets$Listed" "numbers" "[[I", Cond.fieldLink RX3 71 "FutureSets" "rowCount" "I", Cond.methodLink RX3 117 yX2_sumUp, Cond.instanceMethod yX2_sumUp, Cond.selects RX2 yX2_sumUp yX2_sumUp, Cond.initialized RX2, Cond.code yX2_sumUp cX2_sumUp 6 none, Cond.fieldLink RX2 24 "FutureSets$Terms" "count" "I", Cond.fieldLink RX2 18 "FutureSets$Terms" "nameOf" "[I"]
def wsX3_leastCost_r2 : List Cond := [Cond.fieldLink RX2 9 "FutureSets$Terms" "rowOf" "[I", Cond.fieldLink RX2 21 "FutureSets$Terms" "factorOf" "[I", Cond.methodLink RX2 28 yX2_isTaken, Cond.instanceMethod yX2_isTaken, Cond.selects RX2 yX2_isTaken yX2_isTaken, Cond.code yX2_isTaken cX2_isTaken 3 (some .boolean), Cond.fieldLink RX2 15 "FutureSets$Terms" "choiceOf" "[I", Cond.static yX3_slotOf, Cond.code yX3_slotOf cX3_slotOf 1 (some .int), Cond.methodLink RX3 121 yX3_slotOf]
def wsX3_leastCost : List Cond := .code yX3_leastCost cX3_leastCost 5 (some .int) :: ((wsX3_leastCost_r1 ++ wsX3_leastCost_r2) ++ wsX30 ++ wsX00 ++ wsX20)
def wsX3_best_r1 : List Cond := [Cond.constant RX3 54 (-1000000001), Cond.methodLink RX3 91 yX3_isListed, Cond.instanceMethod yX3_isListed, Cond.selects RX3 yX3_isListed yX3_isListed, Cond.initialized RX3, Cond.code yX3_isListed cX3_isListed 2 (some .boolean), Cond.fieldLink RX3 26 "FutureSets" "listed" "LFutureSets$Listed;", Cond.fieldLink RX3 87 "FutureSets$Listed" "count" "I", Cond.methodLink RX3 50 yX3_isWithin, Cond.static yX3_isWithin, Cond.code yX3_isWithin cX3_isWithin 3 (some .boolean), Cond.methodLink RX3 157 yX3_leastCost, Cond.instanceMethod yX3_leastCost, Cond.selects RX3 yX3_leastCost yX3_leastCost, Cond.code yX3_leastCost cX3_leastCost 5 (some .int), Cond.constant RX3 132 (-1000000003), Cond.fieldLink RX3 30 "FutureSets" "sums" "[I", Cond.methodLink RX3 133 yX3_planCount, Cond.instanceMethod yX3_planCount, Cond.selects RX3 yX3_planCount yX3_planCount, Cond.code yX3_planCount cX3_planCount 1 (some .int), Cond.fieldLink RX3 78 "FutureSets" "firstCount" "I", Cond.fieldLink RX3 81 "FutureSets" "secondCount" "I", Cond.methodLink RX3 176 yX3_allHold]
def wsX3_best_r2 : List Cond := [Cond.instanceMethod yX3_allHold, Cond.selects RX3 yX3_allHold yX3_allHold, Cond.code yX3_allHold cX3_allHold 4 (some .boolean), Cond.fieldLink RX3 19 "FutureSets" "terms" "LFutureSets$Terms;", Cond.fieldLink RX3 103 "FutureSets$Listed" "numbers" "[[I", Cond.fieldLink RX3 71 "FutureSets" "rowCount" "I", Cond.methodLink RX3 117 yX2_sumUp, Cond.instanceMethod yX2_sumUp, Cond.selects RX2 yX2_sumUp yX2_sumUp, Cond.initialized RX2, Cond.code yX2_sumUp cX2_sumUp 6 none, Cond.fieldLink RX2 24 "FutureSets$Terms" "count" "I", Cond.fieldLink RX2 18 "FutureSets$Terms" "nameOf" "[I", Cond.fieldLink RX2 9 "FutureSets$Terms" "rowOf" "[I", Cond.fieldLink RX2 21 "FutureSets$Terms" "factorOf" "[I", Cond.methodLink RX2 28 yX2_isTaken, Cond.instanceMethod yX2_isTaken, Cond.selects RX2 yX2_isTaken yX2_isTaken, Cond.code yX2_isTaken cX2_isTaken 3 (some .boolean), Cond.fieldLink RX2 15 "FutureSets$Terms" "choiceOf" "[I", Cond.static yX3_slotOf, Cond.code yX3_slotOf cX3_slotOf 1 (some .int), Cond.methodLink RX3 121 yX3_slotOf]
def wsX3_best : List Cond := .code yX3_best cX3_best 2 (some .int) :: ((wsX3_best_r1 ++ wsX3_best_r2) ++ wsX30 ++ wsX00 ++ wsX20)
def wsX3_fillBests_r1 : List Cond := [Cond.fieldLink RX3 26 "FutureSets" "listed" "LFutureSets$Listed;", Cond.fieldLink RX3 87 "FutureSets$Listed" "count" "I", Cond.fieldLink RX3 169 "FutureSets$Listed" "kept" "[Z", Cond.fieldLink RX3 34 "FutureSets" "bests" "[I", Cond.methodLink RX3 157 yX3_leastCost, Cond.instanceMethod yX3_leastCost, Cond.selects RX3 yX3_leastCost yX3_leastCost, Cond.initialized RX3, Cond.code yX3_leastCost cX3_leastCost 5 (some .int), Cond.constant RX3 132 (-1000000003), Cond.fieldLink RX3 30 "FutureSets" "sums" "[I", Cond.methodLink RX3 133 yX3_planCount, Cond.instanceMethod yX3_planCount, Cond.selects RX3 yX3_planCount yX3_planCount, Cond.code yX3_planCount cX3_planCount 1 (some .int), Cond.fieldLink RX3 78 "FutureSets" "firstCount" "I", Cond.fieldLink RX3 81 "FutureSets" "secondCount" "I", Cond.methodLink RX3 176 yX3_allHold, Cond.instanceMethod yX3_allHold, Cond.selects RX3 yX3_allHold yX3_allHold, Cond.code yX3_allHold cX3_allHold 4 (some .boolean), Cond.fieldLink RX3 19 "FutureSets" "terms" "LFutureSets$Terms;", Cond.fieldLink RX3 103 "FutureSets$Listed" "numbers" "[[I", Cond.fieldLink RX3 71 "FutureSets" "rowCount" "I"]
def wsX3_fillBests_r2 : List Cond := [Cond.methodLink RX3 117 yX2_sumUp, Cond.instanceMethod yX2_sumUp, Cond.selects RX2 yX2_sumUp yX2_sumUp, Cond.initialized RX2, Cond.code yX2_sumUp cX2_sumUp 6 none, Cond.fieldLink RX2 24 "FutureSets$Terms" "count" "I", Cond.fieldLink RX2 18 "FutureSets$Terms" "nameOf" "[I", Cond.fieldLink RX2 9 "FutureSets$Terms" "rowOf" "[I", Cond.fieldLink RX2 21 "FutureSets$Terms" "factorOf" "[I", Cond.methodLink RX2 28 yX2_isTaken, Cond.instanceMethod yX2_isTaken, Cond.selects RX2 yX2_isTaken yX2_isTaken, Cond.code yX2_isTaken cX2_isTaken 3 (some .boolean), Cond.fieldLink RX2 15 "FutureSets$Terms" "choiceOf" "[I", Cond.static yX3_slotOf, Cond.code yX3_slotOf cX3_slotOf 1 (some .int), Cond.methodLink RX3 121 yX3_slotOf]
def wsX3_fillBests : List Cond := .code yX3_fillBests cX3_fillBests 2 none :: ((wsX3_fillBests_r1 ++ wsX3_fillBests_r2) ++ wsX30 ++ wsX00 ++ wsX20)
def wsX3_greatestRegret_r1 : List Cond := [Cond.fieldLink RX3 26 "FutureSets" "listed" "LFutureSets$Listed;", Cond.constant RX3 132 (-1000000003), Cond.fieldLink RX3 87 "FutureSets$Listed" "count" "I", Cond.fieldLink RX3 169 "FutureSets$Listed" "kept" "[Z", Cond.fieldLink RX3 34 "FutureSets" "bests" "[I", Cond.methodLink RX3 193 Lib.Math.max.name, Cond.static Lib.Math.max.name, Cond.initialized "java/lang/Math", Cond.code Lib.Math.max.name Lib.Math.max.code 2 (some .int), Cond.methodLink RX3 151 yX0_countedOdds, Cond.instanceMethod yX0_countedOdds, Cond.selects RX0 yX0_countedOdds yX0_countedOdds, Cond.initialized RX0, Cond.code yX0_countedOdds cX0_countedOdds 3 (some .int), Cond.fieldLink RX0 24 "FutureSets$Listed" "count" "I", Cond.fieldLink RX0 15 "FutureSets$Listed" "kept" "[Z", Cond.fieldLink RX0 9 "FutureSets$Listed" "odds" "[I", Cond.methodLink RX3 139 yX3_findAnswer, Cond.instanceMethod yX3_findAnswer, Cond.selects RX3 yX3_findAnswer yX3_findAnswer, Cond.initialized RX3, Cond.code yX3_findAnswer cX3_findAnswer 8 (some .int), Cond.fieldLink RX3 81 "FutureSets" "secondCount" "I", Cond.fieldLink RX3 78 "FutureSets" "firstCount" "I"]
def wsX3_greatestRegret_r2 : List Cond := [Cond.fieldLink RX3 30 "FutureSets" "sums" "[I", Cond.methodLink RX3 176 yX3_allHold, Cond.instanceMethod yX3_allHold, Cond.selects RX3 yX3_allHold yX3_allHold, Cond.code yX3_allHold cX3_allHold 4 (some .boolean), Cond.fieldLink RX3 19 "FutureSets" "terms" "LFutureSets$Terms;", Cond.fieldLink RX3 103 "FutureSets$Listed" "numbers" "[[I", Cond.fieldLink RX3 71 "FutureSets" "rowCount" "I", Cond.methodLink RX3 117 yX2_sumUp, Cond.instanceMethod yX2_sumUp, Cond.selects RX2 yX2_sumUp yX2_sumUp, Cond.initialized RX2, Cond.code yX2_sumUp cX2_sumUp 6 none, Cond.fieldLink RX2 24 "FutureSets$Terms" "count" "I", Cond.fieldLink RX2 18 "FutureSets$Terms" "nameOf" "[I", Cond.fieldLink RX2 9 "FutureSets$Terms" "rowOf" "[I", Cond.fieldLink RX2 21 "FutureSets$Terms" "factorOf" "[I", Cond.methodLink RX2 28 yX2_isTaken, Cond.instanceMethod yX2_isTaken, Cond.selects RX2 yX2_isTaken yX2_isTaken, Cond.code yX2_isTaken cX2_isTaken 3 (some .boolean), Cond.fieldLink RX2 15 "FutureSets$Terms" "choiceOf" "[I", Cond.static yX3_slotOf, Cond.code yX3_slotOf cX3_slotOf 1 (some .int)]
def wsX3_greatestRegret_r3 : List Cond := [Cond.methodLink RX3 121 yX3_slotOf, Cond.methodLink RX3 190 yX3_costOf, Cond.instanceMethod yX3_costOf, Cond.selects RX3 yX3_costOf yX3_costOf, Cond.code yX3_costOf cX3_costOf 3 (some .int)]
def wsX3_greatestRegret : List Cond := .code yX3_greatestRegret cX3_greatestRegret 5 (some .int) :: ((wsX3_greatestRegret_r1 ++ (wsX3_greatestRegret_r2 ++ wsX3_greatestRegret_r3)) ++ wsX30 ++ wsX00 ++ wsX20)
def wsX3_regret_r1 : List Cond := [Cond.constant RX3 54 (-1000000001), Cond.methodLink RX3 136 yX3_isFirstPart, Cond.instanceMethod yX3_isFirstPart, Cond.selects RX3 yX3_isFirstPart yX3_isFirstPart, Cond.initialized RX3, Cond.code yX3_isFirstPart cX3_isFirstPart 2 (some .boolean), Cond.methodLink RX3 166 yX3_firstPartCount, Cond.instanceMethod yX3_firstPartCount, Cond.selects RX3 yX3_firstPartCount yX3_firstPartCount, Cond.code yX3_firstPartCount cX3_firstPartCount 1 (some .int), Cond.fieldLink RX3 78 "FutureSets" "firstCount" "I", Cond.methodLink RX3 50 yX3_isWithin, Cond.static yX3_isWithin, Cond.code yX3_isWithin cX3_isWithin 3 (some .boolean), Cond.methodLink RX3 160 yX3_fillBests, Cond.instanceMethod yX3_fillBests, Cond.selects RX3 yX3_fillBests yX3_fillBests, Cond.code yX3_fillBests cX3_fillBests 2 none, Cond.fieldLink RX3 26 "FutureSets" "listed" "LFutureSets$Listed;", Cond.fieldLink RX3 87 "FutureSets$Listed" "count" "I", Cond.fieldLink RX3 169 "FutureSets$Listed" "kept" "[Z", Cond.fieldLink RX3 34 "FutureSets" "bests" "[I", Cond.methodLink RX3 157 yX3_leastCost, Cond.instanceMethod yX3_leastCost]
def wsX3_regret_r2 : List Cond := [Cond.selects RX3 yX3_leastCost yX3_leastCost, Cond.code yX3_leastCost cX3_leastCost 5 (some .int), Cond.constant RX3 132 (-1000000003), Cond.fieldLink RX3 30 "FutureSets" "sums" "[I", Cond.methodLink RX3 133 yX3_planCount, Cond.instanceMethod yX3_planCount, Cond.selects RX3 yX3_planCount yX3_planCount, Cond.code yX3_planCount cX3_planCount 1 (some .int), Cond.fieldLink RX3 81 "FutureSets" "secondCount" "I", Cond.methodLink RX3 176 yX3_allHold, Cond.instanceMethod yX3_allHold, Cond.selects RX3 yX3_allHold yX3_allHold, Cond.code yX3_allHold cX3_allHold 4 (some .boolean), Cond.fieldLink RX3 19 "FutureSets" "terms" "LFutureSets$Terms;", Cond.fieldLink RX3 103 "FutureSets$Listed" "numbers" "[[I", Cond.fieldLink RX3 71 "FutureSets" "rowCount" "I", Cond.methodLink RX3 117 yX2_sumUp, Cond.instanceMethod yX2_sumUp, Cond.selects RX2 yX2_sumUp yX2_sumUp, Cond.initialized RX2, Cond.code yX2_sumUp cX2_sumUp 6 none, Cond.fieldLink RX2 24 "FutureSets$Terms" "count" "I", Cond.fieldLink RX2 18 "FutureSets$Terms" "nameOf" "[I", Cond.fieldLink RX2 9 "FutureSets$Terms" "rowOf" "[I"]
def wsX3_regret_r3 : List Cond := [Cond.fieldLink RX2 21 "FutureSets$Terms" "factorOf" "[I", Cond.methodLink RX2 28 yX2_isTaken, Cond.instanceMethod yX2_isTaken, Cond.selects RX2 yX2_isTaken yX2_isTaken, Cond.code yX2_isTaken cX2_isTaken 3 (some .boolean), Cond.fieldLink RX2 15 "FutureSets$Terms" "choiceOf" "[I", Cond.static yX3_slotOf, Cond.code yX3_slotOf cX3_slotOf 1 (some .int), Cond.methodLink RX3 121 yX3_slotOf, Cond.methodLink RX3 163 yX3_greatestRegret, Cond.instanceMethod yX3_greatestRegret, Cond.selects RX3 yX3_greatestRegret yX3_greatestRegret, Cond.code yX3_greatestRegret cX3_greatestRegret 5 (some .int), Cond.methodLink RX3 193 Lib.Math.max.name, Cond.static Lib.Math.max.name, Cond.initialized "java/lang/Math", Cond.code Lib.Math.max.name Lib.Math.max.code 2 (some .int), Cond.methodLink RX3 151 yX0_countedOdds, Cond.instanceMethod yX0_countedOdds, Cond.selects RX0 yX0_countedOdds yX0_countedOdds, Cond.initialized RX0, Cond.code yX0_countedOdds cX0_countedOdds 3 (some .int), Cond.fieldLink RX0 24 "FutureSets$Listed" "count" "I", Cond.fieldLink RX0 15 "FutureSets$Listed" "kept" "[Z"]
def wsX3_regret_r4 : List Cond := [Cond.fieldLink RX0 9 "FutureSets$Listed" "odds" "[I", Cond.methodLink RX3 139 yX3_findAnswer, Cond.instanceMethod yX3_findAnswer, Cond.selects RX3 yX3_findAnswer yX3_findAnswer, Cond.code yX3_findAnswer cX3_findAnswer 8 (some .int), Cond.methodLink RX3 190 yX3_costOf, Cond.instanceMethod yX3_costOf, Cond.selects RX3 yX3_costOf yX3_costOf, Cond.code yX3_costOf cX3_costOf 3 (some .int)]
def wsX3_regret : List Cond := .code yX3_regret cX3_regret 2 (some .int) :: ((wsX3_regret_r1 ++ (wsX3_regret_r2 ++ (wsX3_regret_r3 ++ wsX3_regret_r4))) ++ wsX30 ++ wsX00 ++ wsX20)
def wsX3_calmest_r1 : List Cond := [Cond.constant RX3 132 (-1000000003), Cond.methodLink RX3 160 yX3_fillBests, Cond.instanceMethod yX3_fillBests, Cond.selects RX3 yX3_fillBests yX3_fillBests, Cond.initialized RX3, Cond.code yX3_fillBests cX3_fillBests 2 none, Cond.fieldLink RX3 26 "FutureSets" "listed" "LFutureSets$Listed;", Cond.fieldLink RX3 87 "FutureSets$Listed" "count" "I", Cond.fieldLink RX3 169 "FutureSets$Listed" "kept" "[Z", Cond.fieldLink RX3 34 "FutureSets" "bests" "[I", Cond.methodLink RX3 157 yX3_leastCost, Cond.instanceMethod yX3_leastCost, Cond.selects RX3 yX3_leastCost yX3_leastCost, Cond.code yX3_leastCost cX3_leastCost 5 (some .int), Cond.fieldLink RX3 30 "FutureSets" "sums" "[I", Cond.methodLink RX3 133 yX3_planCount, Cond.instanceMethod yX3_planCount, Cond.selects RX3 yX3_planCount yX3_planCount, Cond.code yX3_planCount cX3_planCount 1 (some .int), Cond.fieldLink RX3 78 "FutureSets" "firstCount" "I", Cond.fieldLink RX3 81 "FutureSets" "secondCount" "I", Cond.methodLink RX3 176 yX3_allHold, Cond.instanceMethod yX3_allHold, Cond.selects RX3 yX3_allHold yX3_allHold]
def wsX3_calmest_r2 : List Cond := [Cond.code yX3_allHold cX3_allHold 4 (some .boolean), Cond.fieldLink RX3 19 "FutureSets" "terms" "LFutureSets$Terms;", Cond.fieldLink RX3 103 "FutureSets$Listed" "numbers" "[[I", Cond.fieldLink RX3 71 "FutureSets" "rowCount" "I", Cond.methodLink RX3 117 yX2_sumUp, Cond.instanceMethod yX2_sumUp, Cond.selects RX2 yX2_sumUp yX2_sumUp, Cond.initialized RX2, Cond.code yX2_sumUp cX2_sumUp 6 none, Cond.fieldLink RX2 24 "FutureSets$Terms" "count" "I", Cond.fieldLink RX2 18 "FutureSets$Terms" "nameOf" "[I", Cond.fieldLink RX2 9 "FutureSets$Terms" "rowOf" "[I", Cond.fieldLink RX2 21 "FutureSets$Terms" "factorOf" "[I", Cond.methodLink RX2 28 yX2_isTaken, Cond.instanceMethod yX2_isTaken, Cond.selects RX2 yX2_isTaken yX2_isTaken, Cond.code yX2_isTaken cX2_isTaken 3 (some .boolean), Cond.fieldLink RX2 15 "FutureSets$Terms" "choiceOf" "[I", Cond.static yX3_slotOf, Cond.code yX3_slotOf cX3_slotOf 1 (some .int), Cond.methodLink RX3 121 yX3_slotOf, Cond.methodLink RX3 166 yX3_firstPartCount, Cond.instanceMethod yX3_firstPartCount, Cond.selects RX3 yX3_firstPartCount yX3_firstPartCount]
def wsX3_calmest_r3 : List Cond := [Cond.code yX3_firstPartCount cX3_firstPartCount 1 (some .int), Cond.methodLink RX3 163 yX3_greatestRegret, Cond.instanceMethod yX3_greatestRegret, Cond.selects RX3 yX3_greatestRegret yX3_greatestRegret, Cond.code yX3_greatestRegret cX3_greatestRegret 5 (some .int), Cond.methodLink RX3 193 Lib.Math.max.name, Cond.static Lib.Math.max.name, Cond.initialized "java/lang/Math", Cond.code Lib.Math.max.name Lib.Math.max.code 2 (some .int), Cond.methodLink RX3 151 yX0_countedOdds, Cond.instanceMethod yX0_countedOdds, Cond.selects RX0 yX0_countedOdds yX0_countedOdds, Cond.initialized RX0, Cond.code yX0_countedOdds cX0_countedOdds 3 (some .int), Cond.fieldLink RX0 24 "FutureSets$Listed" "count" "I", Cond.fieldLink RX0 15 "FutureSets$Listed" "kept" "[Z", Cond.fieldLink RX0 9 "FutureSets$Listed" "odds" "[I", Cond.methodLink RX3 139 yX3_findAnswer, Cond.instanceMethod yX3_findAnswer, Cond.selects RX3 yX3_findAnswer yX3_findAnswer, Cond.code yX3_findAnswer cX3_findAnswer 8 (some .int), Cond.methodLink RX3 190 yX3_costOf, Cond.instanceMethod yX3_costOf, Cond.selects RX3 yX3_costOf yX3_costOf]
def wsX3_calmest_r4 : List Cond := [Cond.code yX3_costOf cX3_costOf 3 (some .int)]
def wsX3_calmest : List Cond := .code yX3_calmest cX3_calmest 5 (some .int) :: ((wsX3_calmest_r1 ++ (wsX3_calmest_r2 ++ (wsX3_calmest_r3 ++ wsX3_calmest_r4))) ++ wsX30 ++ wsX00 ++ wsX20)
def wsX3_waiting_r1 : List Cond := [Cond.constant RX3 54 (-1000000001), Cond.constant RX3 132 (-1000000003), Cond.fieldLink RX3 26 "FutureSets" "listed" "LFutureSets$Listed;", Cond.fieldLink RX3 87 "FutureSets$Listed" "count" "I", Cond.fieldLink RX3 169 "FutureSets$Listed" "kept" "[Z", Cond.fieldLink RX3 173 "FutureSets$Listed" "odds" "[I", Cond.fieldLink RX3 34 "FutureSets" "bests" "[I", Cond.methodLink RX3 145 yX3_isPart, Cond.static yX3_isPart, Cond.initialized RX3, Cond.code yX3_isPart cX3_isPart 1 (some .boolean), Cond.methodLink RX3 50 yX3_isWithin, Cond.static yX3_isWithin, Cond.code yX3_isWithin cX3_isWithin 3 (some .boolean), Cond.methodLink RX3 142 yX3_findTwoStep, Cond.instanceMethod yX3_findTwoStep, Cond.selects RX3 yX3_findTwoStep yX3_findTwoStep, Cond.code yX3_findTwoStep cX3_findTwoStep 5 (some .int), Cond.methodLink RX3 166 yX3_firstPartCount, Cond.instanceMethod yX3_firstPartCount, Cond.selects RX3 yX3_firstPartCount yX3_firstPartCount, Cond.code yX3_firstPartCount cX3_firstPartCount 1 (some .int), Cond.fieldLink RX3 78 "FutureSets" "firstCount" "I", Cond.methodLink RX3 148 yX3_costByOdds]
def wsX3_waiting_r2 : List Cond := [Cond.instanceMethod yX3_costByOdds, Cond.selects RX3 yX3_costByOdds yX3_costByOdds, Cond.code yX3_costByOdds cX3_costByOdds 5 (some .int), Cond.methodLink RX3 151 yX0_countedOdds, Cond.instanceMethod yX0_countedOdds, Cond.selects RX0 yX0_countedOdds yX0_countedOdds, Cond.initialized RX0, Cond.code yX0_countedOdds cX0_countedOdds 3 (some .int), Cond.fieldLink RX0 24 "FutureSets$Listed" "count" "I", Cond.fieldLink RX0 15 "FutureSets$Listed" "kept" "[Z", Cond.fieldLink RX0 9 "FutureSets$Listed" "odds" "[I", Cond.methodLink RX3 139 yX3_findAnswer, Cond.instanceMethod yX3_findAnswer, Cond.selects RX3 yX3_findAnswer yX3_findAnswer, Cond.code yX3_findAnswer cX3_findAnswer 8 (some .int), Cond.fieldLink RX3 81 "FutureSets" "secondCount" "I", Cond.fieldLink RX3 30 "FutureSets" "sums" "[I", Cond.methodLink RX3 176 yX3_allHold, Cond.instanceMethod yX3_allHold, Cond.selects RX3 yX3_allHold yX3_allHold, Cond.code yX3_allHold cX3_allHold 4 (some .boolean), Cond.fieldLink RX3 19 "FutureSets" "terms" "LFutureSets$Terms;", Cond.fieldLink RX3 103 "FutureSets$Listed" "numbers" "[[I", Cond.fieldLink RX3 71 "FutureSets" "rowCount" "I"]
def wsX3_waiting_r3 : List Cond := [Cond.methodLink RX3 117 yX2_sumUp, Cond.instanceMethod yX2_sumUp, Cond.selects RX2 yX2_sumUp yX2_sumUp, Cond.initialized RX2, Cond.code yX2_sumUp cX2_sumUp 6 none, Cond.fieldLink RX2 24 "FutureSets$Terms" "count" "I", Cond.fieldLink RX2 18 "FutureSets$Terms" "nameOf" "[I", Cond.fieldLink RX2 9 "FutureSets$Terms" "rowOf" "[I", Cond.fieldLink RX2 21 "FutureSets$Terms" "factorOf" "[I", Cond.methodLink RX2 28 yX2_isTaken, Cond.instanceMethod yX2_isTaken, Cond.selects RX2 yX2_isTaken yX2_isTaken, Cond.code yX2_isTaken cX2_isTaken 3 (some .boolean), Cond.fieldLink RX2 15 "FutureSets$Terms" "choiceOf" "[I", Cond.static yX3_slotOf, Cond.code yX3_slotOf cX3_slotOf 1 (some .int), Cond.methodLink RX3 121 yX3_slotOf, Cond.methodLink RX3 190 yX3_costOf, Cond.instanceMethod yX3_costOf, Cond.selects RX3 yX3_costOf yX3_costOf, Cond.code yX3_costOf cX3_costOf 3 (some .int), Cond.methodLink RX3 160 yX3_fillBests, Cond.instanceMethod yX3_fillBests, Cond.selects RX3 yX3_fillBests yX3_fillBests]
def wsX3_waiting_r4 : List Cond := [Cond.code yX3_fillBests cX3_fillBests 2 none, Cond.methodLink RX3 157 yX3_leastCost, Cond.instanceMethod yX3_leastCost, Cond.selects RX3 yX3_leastCost yX3_leastCost, Cond.code yX3_leastCost cX3_leastCost 5 (some .int), Cond.methodLink RX3 133 yX3_planCount, Cond.instanceMethod yX3_planCount, Cond.selects RX3 yX3_planCount yX3_planCount, Cond.code yX3_planCount cX3_planCount 1 (some .int), Cond.methodLink RX3 154 yX3_partOfFraction, Cond.static yX3_partOfFraction, Cond.code yX3_partOfFraction cX3_partOfFraction 5 (some .int), Cond.methodLink RX3 198 Lib.Math.abs.name, Cond.static Lib.Math.abs.name, Cond.initialized "java/lang/Math", Cond.code Lib.Math.abs.name Lib.Math.abs.code 1 (some .int), Cond.methodLink RX3 201 yX3_commonDivisor, Cond.static yX3_commonDivisor, Cond.code yX3_commonDivisor cX3_commonDivisor 6 (some .int)]
def wsX3_waiting : List Cond := .code yX3_waiting cX3_waiting 5 (some .int) :: ((wsX3_waiting_r1 ++ (wsX3_waiting_r2 ++ (wsX3_waiting_r3 ++ wsX3_waiting_r4))) ++ wsX30 ++ wsX00 ++ wsX20)
def wsX3_chance_r1 : List Cond := [Cond.constant RX3 54 (-1000000001), Cond.fieldLink RX3 26 "FutureSets" "listed" "LFutureSets$Listed;", Cond.constant RX3 132 (-1000000003), Cond.fieldLink RX3 87 "FutureSets$Listed" "count" "I", Cond.fieldLink RX3 169 "FutureSets$Listed" "kept" "[Z", Cond.fieldLink RX3 173 "FutureSets$Listed" "odds" "[I", Cond.methodLink RX3 111 yX3_isPlan, Cond.instanceMethod yX3_isPlan, Cond.selects RX3 yX3_isPlan yX3_isPlan, Cond.initialized RX3, Cond.code yX3_isPlan cX3_isPlan 2 (some .boolean), Cond.methodLink RX3 133 yX3_planCount, Cond.instanceMethod yX3_planCount, Cond.selects RX3 yX3_planCount yX3_planCount, Cond.code yX3_planCount cX3_planCount 1 (some .int), Cond.fieldLink RX3 78 "FutureSets" "firstCount" "I", Cond.fieldLink RX3 81 "FutureSets" "secondCount" "I", Cond.methodLink RX3 50 yX3_isWithin, Cond.static yX3_isWithin, Cond.code yX3_isWithin cX3_isWithin 3 (some .boolean), Cond.methodLink RX3 145 yX3_isPart, Cond.static yX3_isPart, Cond.code yX3_isPart cX3_isPart 1 (some .boolean), Cond.methodLink RX3 151 yX0_countedOdds]
def wsX3_chance_r2 : List Cond := [Cond.instanceMethod yX0_countedOdds, Cond.selects RX0 yX0_countedOdds yX0_countedOdds, Cond.initialized RX0, Cond.code yX0_countedOdds cX0_countedOdds 3 (some .int), Cond.fieldLink RX0 24 "FutureSets$Listed" "count" "I", Cond.fieldLink RX0 15 "FutureSets$Listed" "kept" "[Z", Cond.fieldLink RX0 9 "FutureSets$Listed" "odds" "[I", Cond.methodLink RX3 176 yX3_allHold, Cond.instanceMethod yX3_allHold, Cond.selects RX3 yX3_allHold yX3_allHold, Cond.code yX3_allHold cX3_allHold 4 (some .boolean), Cond.fieldLink RX3 19 "FutureSets" "terms" "LFutureSets$Terms;", Cond.fieldLink RX3 103 "FutureSets$Listed" "numbers" "[[I", Cond.fieldLink RX3 30 "FutureSets" "sums" "[I", Cond.fieldLink RX3 71 "FutureSets" "rowCount" "I", Cond.methodLink RX3 117 yX2_sumUp, Cond.instanceMethod yX2_sumUp, Cond.selects RX2 yX2_sumUp yX2_sumUp, Cond.initialized RX2, Cond.code yX2_sumUp cX2_sumUp 6 none, Cond.fieldLink RX2 24 "FutureSets$Terms" "count" "I", Cond.fieldLink RX2 18 "FutureSets$Terms" "nameOf" "[I", Cond.fieldLink RX2 9 "FutureSets$Terms" "rowOf" "[I", Cond.fieldLink RX2 21 "FutureSets$Terms" "factorOf" "[I"]
def wsX3_chance_r3 : List Cond := [Cond.methodLink RX2 28 yX2_isTaken, Cond.instanceMethod yX2_isTaken, Cond.selects RX2 yX2_isTaken yX2_isTaken, Cond.code yX2_isTaken cX2_isTaken 3 (some .boolean), Cond.fieldLink RX2 15 "FutureSets$Terms" "choiceOf" "[I", Cond.static yX3_slotOf, Cond.code yX3_slotOf cX3_slotOf 1 (some .int), Cond.methodLink RX3 121 yX3_slotOf, Cond.methodLink RX3 154 yX3_partOfFraction, Cond.static yX3_partOfFraction, Cond.code yX3_partOfFraction cX3_partOfFraction 5 (some .int), Cond.methodLink RX3 198 Lib.Math.abs.name, Cond.static Lib.Math.abs.name, Cond.initialized "java/lang/Math", Cond.code Lib.Math.abs.name Lib.Math.abs.code 1 (some .int), Cond.methodLink RX3 201 yX3_commonDivisor, Cond.static yX3_commonDivisor, Cond.code yX3_commonDivisor cX3_commonDivisor 6 (some .int)]
def wsX3_chance : List Cond := .code yX3_chance cX3_chance 6 (some .int) :: ((wsX3_chance_r1 ++ (wsX3_chance_r2 ++ wsX3_chance_r3)) ++ wsX30 ++ wsX00 ++ wsX20)
def wsX4_init : List Cond := .code yX4_init cX4_init 1 none :: ([.methodLink RX4 1 objectInit, .instanceMethod objectInit, .code objectInit ⟨#[0xb1]⟩ 1 none, .fieldLink RX4 7 "FutureSetsModel" "firsts" "I", .arrayClass .int, .fieldLink RX4 13 "FutureSetsModel" "least" "[I", .fieldLink RX4 17 "FutureSetsModel" "usual" "[I", .fieldLink RX4 20 "FutureSetsModel" "greatest" "[I", .fieldLink RX4 23 "FutureSetsModel" "termRow" "[I", .fieldLink RX4 26 "FutureSetsModel" "termChoice" "[I", .fieldLink RX4 29 "FutureSetsModel" "termName" "[I", .fieldLink RX4 32 "FutureSetsModel" "termFactor" "[I", .fieldLink RX4 35 "FutureSetsModel" "odds" "[I", .arrayClass .boolean, .fieldLink RX4 38 "FutureSetsModel" "kept" "[Z", .fieldLink RX4 42 "FutureSetsModel" "number" "[I", .fieldLink RX4 45 "FutureSetsModel" "gain" "[I", .fieldLink RX4 48 "FutureSetsModel" "worstOf" "[I", .fieldLink RX4 51 "FutureSetsModel" "bests" "[I"] ++ wsX40)
def wsX4_in : List Cond := .code yX4_in cX4_in 3 (some .boolean) :: ([])
def wsX4_begin : List Cond := .code yX4_begin cX4_begin 4 (some .int) :: ([.constant RX4 58 (-1000000001), .fieldLink RX4 59 "FutureSetsModel" "terms" "I", .fieldLink RX4 7 "FutureSetsModel" "firsts" "I", .fieldLink RX4 62 "FutureSetsModel" "seconds" "I", .fieldLink RX4 65 "FutureSetsModel" "names" "I", .fieldLink RX4 68 "FutureSetsModel" "budget" "I", .fieldLink RX4 71 "FutureSetsModel" "rows" "I", .fieldLink RX4 74 "FutureSetsModel" "futures" "I", .methodLink RX4 54 yX4_in, .static yX4_in, .initialized RX4, .code yX4_in cX4_in 3 (some .boolean)] ++ wsX40)
def wsX4_name : List Cond := .code yX4_name cX4_name 5 (some .int) :: ([.constant RX4 58 (-1000000001), .fieldLink RX4 65 "FutureSetsModel" "names" "I", .constant RX4 77 (-1000000002), .fieldLink RX4 13 "FutureSetsModel" "least" "[I", .fieldLink RX4 17 "FutureSetsModel" "usual" "[I", .fieldLink RX4 20 "FutureSetsModel" "greatest" "[I", .fieldLink RX4 42 "FutureSetsModel" "number" "[I"] ++ wsX40)
def wsX4_budget : List Cond := .code yX4_budget cX4_budget 3 (some .int) :: ([.constant RX4 58 (-1000000001), .fieldLink RX4 68 "FutureSetsModel" "budget" "I", .methodLink RX4 54 yX4_in, .static yX4_in, .initialized RX4, .code yX4_in cX4_in 3 (some .boolean)] ++ wsX40)
def wsX4_row : List Cond := .code yX4_row cX4_row 1 (some .int) :: ([.fieldLink RX4 71 "FutureSetsModel" "rows" "I", .constant RX4 77 (-1000000002)] ++ wsX40)
def wsX4_term : List Cond := .code yX4_term cX4_term 6 (some .int) :: ([.fieldLink RX4 71 "FutureSetsModel" "rows" "I", .fieldLink RX4 7 "FutureSetsModel" "firsts" "I", .fieldLink RX4 62 "FutureSetsModel" "seconds" "I", .fieldLink RX4 65 "FutureSetsModel" "names" "I", .constant RX4 58 (-1000000001), .fieldLink RX4 59 "FutureSetsModel" "terms" "I", .constant RX4 77 (-1000000002), .fieldLink RX4 23 "FutureSetsModel" "termRow" "[I", .fieldLink RX4 26 "FutureSetsModel" "termChoice" "[I", .fieldLink RX4 29 "FutureSetsModel" "termName" "[I", .fieldLink RX4 32 "FutureSetsModel" "termFactor" "[I", .methodLink RX4 54 yX4_in, .static yX4_in, .initialized RX4, .code yX4_in cX4_in 3 (some .boolean)] ++ wsX40)
def wsX4_future : List Cond := .code yX4_future cX4_future 4 (some .int) :: ([.constant RX4 58 (-1000000001), .fieldLink RX4 74 "FutureSetsModel" "futures" "I", .constant RX4 77 (-1000000002), .fieldLink RX4 35 "FutureSetsModel" "odds" "[I", .fieldLink RX4 38 "FutureSetsModel" "kept" "[Z", .fieldLink RX4 65 "FutureSetsModel" "names" "I", .fieldLink RX4 42 "FutureSetsModel" "number" "[I", .fieldLink RX4 17 "FutureSetsModel" "usual" "[I", .methodLink RX4 54 yX4_in, .static yX4_in, .initialized RX4, .code yX4_in cX4_in 3 (some .boolean)] ++ wsX40)
def wsX4_set : List Cond := .code yX4_set cX4_set 5 (some .int) :: ([.fieldLink RX4 74 "FutureSetsModel" "futures" "I", .fieldLink RX4 65 "FutureSetsModel" "names" "I", .fieldLink RX4 13 "FutureSetsModel" "least" "[I", .fieldLink RX4 20 "FutureSetsModel" "greatest" "[I", .constant RX4 58 (-1000000001), .fieldLink RX4 42 "FutureSetsModel" "number" "[I", .methodLink RX4 54 yX4_in, .static yX4_in, .initialized RX4, .code yX4_in cX4_in 3 (some .boolean)] ++ wsX40)
def wsX4_counted : List Cond := .code yX4_counted cX4_counted 3 (some .int) :: ([.fieldLink RX4 74 "FutureSetsModel" "futures" "I", .fieldLink RX4 38 "FutureSetsModel" "kept" "[Z"] ++ wsX40)
def wsX4_told : List Cond := .code yX4_told cX4_told 2 (some .int) :: ([.fieldLink RX4 65 "FutureSetsModel" "names" "I", .fieldLink RX4 71 "FutureSetsModel" "rows" "I", .fieldLink RX4 59 "FutureSetsModel" "terms" "I", .fieldLink RX4 74 "FutureSetsModel" "futures" "I", .fieldLink RX4 7 "FutureSetsModel" "firsts" "I", .fieldLink RX4 62 "FutureSetsModel" "seconds" "I", .fieldLink RX4 68 "FutureSetsModel" "budget" "I", .constant RX4 58 (-1000000001), .methodLink RX4 78 yX4_counted, .instanceMethod yX4_counted, .selects RX4 yX4_counted yX4_counted, .initialized RX4, .code yX4_counted cX4_counted 3 (some .int), .fieldLink RX4 38 "FutureSetsModel" "kept" "[Z"] ++ wsX40)
def wsX4_isPlan : List Cond := .code yX4_isPlan cX4_isPlan 2 (some .boolean) :: ([.fieldLink RX4 7 "FutureSetsModel" "firsts" "I", .fieldLink RX4 62 "FutureSetsModel" "seconds" "I", .methodLink RX4 54 yX4_in, .static yX4_in, .initialized RX4, .code yX4_in cX4_in 3 (some .boolean)] ++ wsX40)
def wsX4_isOn : List Cond := .code yX4_isOn cX4_isOn 4 (some .boolean) :: ([.fieldLink RX4 23 "FutureSetsModel" "termRow" "[I", .fieldLink RX4 26 "FutureSetsModel" "termChoice" "[I"] ++ wsX40)
def wsX4_sum : List Cond := .code yX4_sum cX4_sum 8 (some .int) :: ([.fieldLink RX4 59 "FutureSetsModel" "terms" "I", .fieldLink RX4 29 "FutureSetsModel" "termName" "[I", .fieldLink RX4 17 "FutureSetsModel" "usual" "[I", .fieldLink RX4 42 "FutureSetsModel" "number" "[I", .fieldLink RX4 32 "FutureSetsModel" "termFactor" "[I", .methodLink RX4 82 yX4_isOn, .instanceMethod yX4_isOn, .selects RX4 yX4_isOn yX4_isOn, .initialized RX4, .code yX4_isOn cX4_isOn 4 (some .boolean), .fieldLink RX4 23 "FutureSetsModel" "termRow" "[I", .fieldLink RX4 26 "FutureSetsModel" "termChoice" "[I"] ++ wsX40)
def wsX4_comes_r1 : List Cond := [Cond.fieldLink RX4 71 "FutureSetsModel" "rows" "I", Cond.fieldLink RX4 74 "FutureSetsModel" "futures" "I", Cond.constant RX4 58 (-1000000001), Cond.methodLink RX4 85 yX4_isPlan, Cond.instanceMethod yX4_isPlan, Cond.selects RX4 yX4_isPlan yX4_isPlan, Cond.initialized RX4, Cond.code yX4_isPlan cX4_isPlan 2 (some .boolean), Cond.fieldLink RX4 7 "FutureSetsModel" "firsts" "I", Cond.fieldLink RX4 62 "FutureSetsModel" "seconds" "I", Cond.methodLink RX4 54 yX4_in, Cond.static yX4_in, Cond.code yX4_in cX4_in 3 (some .boolean), Cond.methodLink RX4 89 yX4_sum, Cond.instanceMethod yX4_sum, Cond.selects RX4 yX4_sum yX4_sum, Cond.code yX4_sum cX4_sum 8 (some .int), Cond.fieldLink RX4 59 "FutureSetsModel" "terms" "I", Cond.fieldLink RX4 29 "FutureSetsModel" "termName" "[I", Cond.fieldLink RX4 17 "FutureSetsModel" "usual" "[I", Cond.fieldLink RX4 42 "FutureSetsModel" "number" "[I", Cond.fieldLink RX4 32 "FutureSetsModel" "termFactor" "[I", Cond.methodLink RX4 82 yX4_isOn, Cond.instanceMethod yX4_isOn]
def wsX4_comes_r2 : List Cond := [Cond.selects RX4 yX4_isOn yX4_isOn, Cond.code yX4_isOn cX4_isOn 4 (some .boolean), Cond.fieldLink RX4 23 "FutureSetsModel" "termRow" "[I", Cond.fieldLink RX4 26 "FutureSetsModel" "termChoice" "[I"]
def wsX4_comes : List Cond := .code yX4_comes cX4_comes 5 (some .int) :: ((wsX4_comes_r1 ++ wsX4_comes_r2) ++ wsX40)
def wsX4_isUp : List Cond := .code yX4_isUp cX4_isUp 6 (some .boolean) :: ([.fieldLink RX4 59 "FutureSetsModel" "terms" "I", .fieldLink RX4 29 "FutureSetsModel" "termName" "[I", .fieldLink RX4 32 "FutureSetsModel" "termFactor" "[I", .methodLink RX4 82 yX4_isOn, .instanceMethod yX4_isOn, .selects RX4 yX4_isOn yX4_isOn, .initialized RX4, .code yX4_isOn cX4_isOn 4 (some .boolean), .fieldLink RX4 23 "FutureSetsModel" "termRow" "[I", .fieldLink RX4 26 "FutureSetsModel" "termChoice" "[I"] ++ wsX40)
def wsX4_findWorst_r1 : List Cond := [Cond.fieldLink RX4 65 "FutureSetsModel" "names" "I", Cond.fieldLink RX4 59 "FutureSetsModel" "terms" "I", Cond.fieldLink RX4 29 "FutureSetsModel" "termName" "[I", Cond.fieldLink RX4 32 "FutureSetsModel" "termFactor" "[I", Cond.fieldLink RX4 20 "FutureSetsModel" "greatest" "[I", Cond.fieldLink RX4 13 "FutureSetsModel" "least" "[I", Cond.fieldLink RX4 17 "FutureSetsModel" "usual" "[I", Cond.fieldLink RX4 45 "FutureSetsModel" "gain" "[I", Cond.fieldLink RX4 48 "FutureSetsModel" "worstOf" "[I", Cond.fieldLink RX4 68 "FutureSetsModel" "budget" "I", Cond.methodLink RX4 82 yX4_isOn, Cond.instanceMethod yX4_isOn, Cond.selects RX4 yX4_isOn yX4_isOn, Cond.initialized RX4, Cond.code yX4_isOn cX4_isOn 4 (some .boolean), Cond.fieldLink RX4 23 "FutureSetsModel" "termRow" "[I", Cond.fieldLink RX4 26 "FutureSetsModel" "termChoice" "[I", Cond.methodLink RX4 89 yX4_sum, Cond.instanceMethod yX4_sum, Cond.selects RX4 yX4_sum yX4_sum, Cond.code yX4_sum cX4_sum 8 (some .int), Cond.fieldLink RX4 42 "FutureSetsModel" "number" "[I", Cond.methodLink RX4 93 yX4_isUp, Cond.instanceMethod yX4_isUp]
def wsX4_findWorst_r2 : List Cond := [Cond.selects RX4 yX4_isUp yX4_isUp, Cond.code yX4_isUp cX4_isUp 6 (some .boolean)]
def wsX4_findWorst : List Cond := .code yX4_findWorst cX4_findWorst 7 (some .int) :: ((wsX4_findWorst_r1 ++ wsX4_findWorst_r2) ++ wsX40)
def wsX4_worst_r1 : List Cond := [Cond.fieldLink RX4 71 "FutureSetsModel" "rows" "I", Cond.constant RX4 58 (-1000000001), Cond.methodLink RX4 85 yX4_isPlan, Cond.instanceMethod yX4_isPlan, Cond.selects RX4 yX4_isPlan yX4_isPlan, Cond.initialized RX4, Cond.code yX4_isPlan cX4_isPlan 2 (some .boolean), Cond.fieldLink RX4 7 "FutureSetsModel" "firsts" "I", Cond.fieldLink RX4 62 "FutureSetsModel" "seconds" "I", Cond.methodLink RX4 54 yX4_in, Cond.static yX4_in, Cond.code yX4_in cX4_in 3 (some .boolean), Cond.methodLink RX4 96 yX4_findWorst, Cond.instanceMethod yX4_findWorst, Cond.selects RX4 yX4_findWorst yX4_findWorst, Cond.code yX4_findWorst cX4_findWorst 7 (some .int), Cond.fieldLink RX4 65 "FutureSetsModel" "names" "I", Cond.fieldLink RX4 59 "FutureSetsModel" "terms" "I", Cond.fieldLink RX4 29 "FutureSetsModel" "termName" "[I", Cond.fieldLink RX4 32 "FutureSetsModel" "termFactor" "[I", Cond.fieldLink RX4 20 "FutureSetsModel" "greatest" "[I", Cond.fieldLink RX4 13 "FutureSetsModel" "least" "[I", Cond.fieldLink RX4 17 "FutureSetsModel" "usual" "[I", Cond.fieldLink RX4 45 "FutureSetsModel" "gain" "[I"]
def wsX4_worst_r2 : List Cond := [Cond.fieldLink RX4 48 "FutureSetsModel" "worstOf" "[I", Cond.fieldLink RX4 68 "FutureSetsModel" "budget" "I", Cond.methodLink RX4 82 yX4_isOn, Cond.instanceMethod yX4_isOn, Cond.selects RX4 yX4_isOn yX4_isOn, Cond.code yX4_isOn cX4_isOn 4 (some .boolean), Cond.fieldLink RX4 23 "FutureSetsModel" "termRow" "[I", Cond.fieldLink RX4 26 "FutureSetsModel" "termChoice" "[I", Cond.methodLink RX4 89 yX4_sum, Cond.instanceMethod yX4_sum, Cond.selects RX4 yX4_sum yX4_sum, Cond.code yX4_sum cX4_sum 8 (some .int), Cond.fieldLink RX4 42 "FutureSetsModel" "number" "[I", Cond.methodLink RX4 93 yX4_isUp, Cond.instanceMethod yX4_isUp, Cond.selects RX4 yX4_isUp yX4_isUp, Cond.code yX4_isUp cX4_isUp 6 (some .boolean)]
def wsX4_worst : List Cond := .code yX4_worst cX4_worst 3 (some .int) :: ((wsX4_worst_r1 ++ wsX4_worst_r2) ++ wsX40)
def wsX4_worstName_r1 : List Cond := [Cond.fieldLink RX4 71 "FutureSetsModel" "rows" "I", Cond.fieldLink RX4 65 "FutureSetsModel" "names" "I", Cond.constant RX4 58 (-1000000001), Cond.fieldLink RX4 48 "FutureSetsModel" "worstOf" "[I", Cond.methodLink RX4 85 yX4_isPlan, Cond.instanceMethod yX4_isPlan, Cond.selects RX4 yX4_isPlan yX4_isPlan, Cond.initialized RX4, Cond.code yX4_isPlan cX4_isPlan 2 (some .boolean), Cond.fieldLink RX4 7 "FutureSetsModel" "firsts" "I", Cond.fieldLink RX4 62 "FutureSetsModel" "seconds" "I", Cond.methodLink RX4 54 yX4_in, Cond.static yX4_in, Cond.code yX4_in cX4_in 3 (some .boolean), Cond.methodLink RX4 96 yX4_findWorst, Cond.instanceMethod yX4_findWorst, Cond.selects RX4 yX4_findWorst yX4_findWorst, Cond.code yX4_findWorst cX4_findWorst 7 (some .int), Cond.fieldLink RX4 59 "FutureSetsModel" "terms" "I", Cond.fieldLink RX4 29 "FutureSetsModel" "termName" "[I", Cond.fieldLink RX4 32 "FutureSetsModel" "termFactor" "[I", Cond.fieldLink RX4 20 "FutureSetsModel" "greatest" "[I", Cond.fieldLink RX4 13 "FutureSetsModel" "least" "[I", Cond.fieldLink RX4 17 "FutureSetsModel" "usual" "[I"]
def wsX4_worstName_r2 : List Cond := [Cond.fieldLink RX4 45 "FutureSetsModel" "gain" "[I", Cond.fieldLink RX4 68 "FutureSetsModel" "budget" "I", Cond.methodLink RX4 82 yX4_isOn, Cond.instanceMethod yX4_isOn, Cond.selects RX4 yX4_isOn yX4_isOn, Cond.code yX4_isOn cX4_isOn 4 (some .boolean), Cond.fieldLink RX4 23 "FutureSetsModel" "termRow" "[I", Cond.fieldLink RX4 26 "FutureSetsModel" "termChoice" "[I", Cond.methodLink RX4 89 yX4_sum, Cond.instanceMethod yX4_sum, Cond.selects RX4 yX4_sum yX4_sum, Cond.code yX4_sum cX4_sum 8 (some .int), Cond.fieldLink RX4 42 "FutureSetsModel" "number" "[I", Cond.methodLink RX4 93 yX4_isUp, Cond.instanceMethod yX4_isUp, Cond.selects RX4 yX4_isUp yX4_isUp, Cond.code yX4_isUp cX4_isUp 6 (some .boolean)]
def wsX4_worstName : List Cond := .code yX4_worstName cX4_worstName 5 (some .int) :: ((wsX4_worstName_r1 ++ wsX4_worstName_r2) ++ wsX40)
def wsX4_breaks_r1 : List Cond := [Cond.constant RX4 58 (-1000000001), Cond.fieldLink RX4 71 "FutureSetsModel" "rows" "I", Cond.constant RX4 100 (-1000000003), Cond.methodLink RX4 85 yX4_isPlan, Cond.instanceMethod yX4_isPlan, Cond.selects RX4 yX4_isPlan yX4_isPlan, Cond.initialized RX4, Cond.code yX4_isPlan cX4_isPlan 2 (some .boolean), Cond.fieldLink RX4 7 "FutureSetsModel" "firsts" "I", Cond.fieldLink RX4 62 "FutureSetsModel" "seconds" "I", Cond.methodLink RX4 54 yX4_in, Cond.static yX4_in, Cond.code yX4_in cX4_in 3 (some .boolean), Cond.methodLink RX4 96 yX4_findWorst, Cond.instanceMethod yX4_findWorst, Cond.selects RX4 yX4_findWorst yX4_findWorst, Cond.code yX4_findWorst cX4_findWorst 7 (some .int), Cond.fieldLink RX4 65 "FutureSetsModel" "names" "I", Cond.fieldLink RX4 59 "FutureSetsModel" "terms" "I", Cond.fieldLink RX4 29 "FutureSetsModel" "termName" "[I", Cond.fieldLink RX4 32 "FutureSetsModel" "termFactor" "[I", Cond.fieldLink RX4 20 "FutureSetsModel" "greatest" "[I", Cond.fieldLink RX4 13 "FutureSetsModel" "least" "[I", Cond.fieldLink RX4 17 "FutureSetsModel" "usual" "[I"]
def wsX4_breaks_r2 : List Cond := [Cond.fieldLink RX4 45 "FutureSetsModel" "gain" "[I", Cond.fieldLink RX4 48 "FutureSetsModel" "worstOf" "[I", Cond.fieldLink RX4 68 "FutureSetsModel" "budget" "I", Cond.methodLink RX4 82 yX4_isOn, Cond.instanceMethod yX4_isOn, Cond.selects RX4 yX4_isOn yX4_isOn, Cond.code yX4_isOn cX4_isOn 4 (some .boolean), Cond.fieldLink RX4 23 "FutureSetsModel" "termRow" "[I", Cond.fieldLink RX4 26 "FutureSetsModel" "termChoice" "[I", Cond.methodLink RX4 89 yX4_sum, Cond.instanceMethod yX4_sum, Cond.selects RX4 yX4_sum yX4_sum, Cond.code yX4_sum cX4_sum 8 (some .int), Cond.fieldLink RX4 42 "FutureSetsModel" "number" "[I", Cond.methodLink RX4 93 yX4_isUp, Cond.instanceMethod yX4_isUp, Cond.selects RX4 yX4_isUp yX4_isUp, Cond.code yX4_isUp cX4_isUp 6 (some .boolean)]
def wsX4_breaks : List Cond := .code yX4_breaks cX4_breaks 3 (some .int) :: ((wsX4_breaks_r1 ++ wsX4_breaks_r2) ++ wsX40)
def wsX4_safest_r1 : List Cond := [Cond.constant RX4 100 (-1000000003), Cond.fieldLink RX4 7 "FutureSetsModel" "firsts" "I", Cond.fieldLink RX4 62 "FutureSetsModel" "seconds" "I", Cond.methodLink RX4 101 yX4_breaks, Cond.instanceMethod yX4_breaks, Cond.selects RX4 yX4_breaks yX4_breaks, Cond.initialized RX4, Cond.code yX4_breaks cX4_breaks 3 (some .int), Cond.constant RX4 58 (-1000000001), Cond.fieldLink RX4 71 "FutureSetsModel" "rows" "I", Cond.methodLink RX4 85 yX4_isPlan, Cond.instanceMethod yX4_isPlan, Cond.selects RX4 yX4_isPlan yX4_isPlan, Cond.code yX4_isPlan cX4_isPlan 2 (some .boolean), Cond.methodLink RX4 54 yX4_in, Cond.static yX4_in, Cond.code yX4_in cX4_in 3 (some .boolean), Cond.methodLink RX4 96 yX4_findWorst, Cond.instanceMethod yX4_findWorst, Cond.selects RX4 yX4_findWorst yX4_findWorst, Cond.code yX4_findWorst cX4_findWorst 7 (some .int), Cond.fieldLink RX4 65 "FutureSetsModel" "names" "I", Cond.fieldLink RX4 59 "FutureSetsModel" "terms" "I", Cond.fieldLink RX4 29 "FutureSetsModel" "termName" "[I"]
def wsX4_safest_r2 : List Cond := [Cond.fieldLink RX4 32 "FutureSetsModel" "termFactor" "[I", Cond.fieldLink RX4 20 "FutureSetsModel" "greatest" "[I", Cond.fieldLink RX4 13 "FutureSetsModel" "least" "[I", Cond.fieldLink RX4 17 "FutureSetsModel" "usual" "[I", Cond.fieldLink RX4 45 "FutureSetsModel" "gain" "[I", Cond.fieldLink RX4 48 "FutureSetsModel" "worstOf" "[I", Cond.fieldLink RX4 68 "FutureSetsModel" "budget" "I", Cond.methodLink RX4 82 yX4_isOn, Cond.instanceMethod yX4_isOn, Cond.selects RX4 yX4_isOn yX4_isOn, Cond.code yX4_isOn cX4_isOn 4 (some .boolean), Cond.fieldLink RX4 23 "FutureSetsModel" "termRow" "[I", Cond.fieldLink RX4 26 "FutureSetsModel" "termChoice" "[I", Cond.methodLink RX4 89 yX4_sum, Cond.instanceMethod yX4_sum, Cond.selects RX4 yX4_sum yX4_sum, Cond.code yX4_sum cX4_sum 8 (some .int), Cond.fieldLink RX4 42 "FutureSetsModel" "number" "[I", Cond.methodLink RX4 93 yX4_isUp, Cond.instanceMethod yX4_isUp, Cond.selects RX4 yX4_isUp yX4_isUp, Cond.code yX4_isUp cX4_isUp 6 (some .boolean)]
def wsX4_safest : List Cond := .code yX4_safest cX4_safest 6 (some .int) :: ((wsX4_safest_r1 ++ wsX4_safest_r2) ++ wsX40)
def wsX4_holds : List Cond := .code yX4_holds cX4_holds 4 (some .boolean) :: ([.fieldLink RX4 71 "FutureSetsModel" "rows" "I", .methodLink RX4 89 yX4_sum, .instanceMethod yX4_sum, .selects RX4 yX4_sum yX4_sum, .initialized RX4, .code yX4_sum cX4_sum 8 (some .int), .fieldLink RX4 59 "FutureSetsModel" "terms" "I", .fieldLink RX4 29 "FutureSetsModel" "termName" "[I", .fieldLink RX4 17 "FutureSetsModel" "usual" "[I", .fieldLink RX4 42 "FutureSetsModel" "number" "[I", .fieldLink RX4 32 "FutureSetsModel" "termFactor" "[I", .methodLink RX4 82 yX4_isOn, .instanceMethod yX4_isOn, .selects RX4 yX4_isOn yX4_isOn, .code yX4_isOn cX4_isOn 4 (some .boolean), .fieldLink RX4 23 "FutureSetsModel" "termRow" "[I", .fieldLink RX4 26 "FutureSetsModel" "termChoice" "[I"] ++ wsX40)
def wsX4_answerTo : List Cond := .code yX4_answerTo cX4_answerTo 9 (some .int) :: ([.constant RX4 100 (-1000000003), .fieldLink RX4 62 "FutureSetsModel" "seconds" "I", .fieldLink RX4 7 "FutureSetsModel" "firsts" "I", .methodLink RX4 105 yX4_holds, .instanceMethod yX4_holds, .selects RX4 yX4_holds yX4_holds, .initialized RX4, .code yX4_holds cX4_holds 4 (some .boolean), .fieldLink RX4 71 "FutureSetsModel" "rows" "I", .methodLink RX4 89 yX4_sum, .instanceMethod yX4_sum, .selects RX4 yX4_sum yX4_sum, .code yX4_sum cX4_sum 8 (some .int), .fieldLink RX4 59 "FutureSetsModel" "terms" "I", .fieldLink RX4 29 "FutureSetsModel" "termName" "[I", .fieldLink RX4 17 "FutureSetsModel" "usual" "[I", .fieldLink RX4 42 "FutureSetsModel" "number" "[I", .fieldLink RX4 32 "FutureSetsModel" "termFactor" "[I", .methodLink RX4 82 yX4_isOn, .instanceMethod yX4_isOn, .selects RX4 yX4_isOn yX4_isOn, .code yX4_isOn cX4_isOn 4 (some .boolean), .fieldLink RX4 23 "FutureSetsModel" "termRow" "[I", .fieldLink RX4 26 "FutureSetsModel" "termChoice" "[I"] ++ wsX40)
def wsX4_isFirst : List Cond := .code yX4_isFirst cX4_isFirst 2 (some .boolean) :: ([.fieldLink RX4 7 "FutureSetsModel" "firsts" "I", .methodLink RX4 54 yX4_in, .static yX4_in, .initialized RX4, .code yX4_in cX4_in 3 (some .boolean)] ++ wsX40)
def wsX4_answer_r1 : List Cond := [Cond.fieldLink RX4 74 "FutureSetsModel" "futures" "I", Cond.constant RX4 58 (-1000000001), Cond.methodLink RX4 109 yX4_isFirst, Cond.instanceMethod yX4_isFirst, Cond.selects RX4 yX4_isFirst yX4_isFirst, Cond.initialized RX4, Cond.code yX4_isFirst cX4_isFirst 2 (some .boolean), Cond.fieldLink RX4 7 "FutureSetsModel" "firsts" "I", Cond.methodLink RX4 54 yX4_in, Cond.static yX4_in, Cond.code yX4_in cX4_in 3 (some .boolean), Cond.methodLink RX4 112 yX4_answerTo, Cond.instanceMethod yX4_answerTo, Cond.selects RX4 yX4_answerTo yX4_answerTo, Cond.code yX4_answerTo cX4_answerTo 9 (some .int), Cond.constant RX4 100 (-1000000003), Cond.fieldLink RX4 62 "FutureSetsModel" "seconds" "I", Cond.methodLink RX4 105 yX4_holds, Cond.instanceMethod yX4_holds, Cond.selects RX4 yX4_holds yX4_holds, Cond.code yX4_holds cX4_holds 4 (some .boolean), Cond.fieldLink RX4 71 "FutureSetsModel" "rows" "I", Cond.methodLink RX4 89 yX4_sum, Cond.instanceMethod yX4_sum]
def wsX4_answer_r2 : List Cond := [Cond.selects RX4 yX4_sum yX4_sum, Cond.code yX4_sum cX4_sum 8 (some .int), Cond.fieldLink RX4 59 "FutureSetsModel" "terms" "I", Cond.fieldLink RX4 29 "FutureSetsModel" "termName" "[I", Cond.fieldLink RX4 17 "FutureSetsModel" "usual" "[I", Cond.fieldLink RX4 42 "FutureSetsModel" "number" "[I", Cond.fieldLink RX4 32 "FutureSetsModel" "termFactor" "[I", Cond.methodLink RX4 82 yX4_isOn, Cond.instanceMethod yX4_isOn, Cond.selects RX4 yX4_isOn yX4_isOn, Cond.code yX4_isOn cX4_isOn 4 (some .boolean), Cond.fieldLink RX4 23 "FutureSetsModel" "termRow" "[I", Cond.fieldLink RX4 26 "FutureSetsModel" "termChoice" "[I"]
def wsX4_answer : List Cond := .code yX4_answer cX4_answer 3 (some .int) :: ((wsX4_answer_r1 ++ wsX4_answer_r2) ++ wsX40)
def wsX4_allOdds : List Cond := .code yX4_allOdds cX4_allOdds 3 (some .int) :: ([.fieldLink RX4 74 "FutureSetsModel" "futures" "I", .fieldLink RX4 38 "FutureSetsModel" "kept" "[Z", .fieldLink RX4 35 "FutureSetsModel" "odds" "[I"] ++ wsX40)
def wsX4_total_r1 : List Cond := [Cond.fieldLink RX4 74 "FutureSetsModel" "futures" "I", Cond.fieldLink RX4 38 "FutureSetsModel" "kept" "[Z", Cond.constant RX4 100 (-1000000003), Cond.fieldLink RX4 35 "FutureSetsModel" "odds" "[I", Cond.methodLink RX4 112 yX4_answerTo, Cond.instanceMethod yX4_answerTo, Cond.selects RX4 yX4_answerTo yX4_answerTo, Cond.initialized RX4, Cond.code yX4_answerTo cX4_answerTo 9 (some .int), Cond.fieldLink RX4 62 "FutureSetsModel" "seconds" "I", Cond.fieldLink RX4 7 "FutureSetsModel" "firsts" "I", Cond.methodLink RX4 105 yX4_holds, Cond.instanceMethod yX4_holds, Cond.selects RX4 yX4_holds yX4_holds, Cond.code yX4_holds cX4_holds 4 (some .boolean), Cond.fieldLink RX4 71 "FutureSetsModel" "rows" "I", Cond.methodLink RX4 89 yX4_sum, Cond.instanceMethod yX4_sum, Cond.selects RX4 yX4_sum yX4_sum, Cond.code yX4_sum cX4_sum 8 (some .int), Cond.fieldLink RX4 59 "FutureSetsModel" "terms" "I", Cond.fieldLink RX4 29 "FutureSetsModel" "termName" "[I", Cond.fieldLink RX4 17 "FutureSetsModel" "usual" "[I", Cond.fieldLink RX4 42 "FutureSetsModel" "number" "[I"]
def wsX4_total_r2 : List Cond := [Cond.fieldLink RX4 32 "FutureSetsModel" "termFactor" "[I", Cond.methodLink RX4 82 yX4_isOn, Cond.instanceMethod yX4_isOn, Cond.selects RX4 yX4_isOn yX4_isOn, Cond.code yX4_isOn cX4_isOn 4 (some .boolean), Cond.fieldLink RX4 23 "FutureSetsModel" "termRow" "[I", Cond.fieldLink RX4 26 "FutureSetsModel" "termChoice" "[I"]
def wsX4_total : List Cond := .code yX4_total cX4_total 5 (some .int) :: ((wsX4_total_r1 ++ wsX4_total_r2) ++ wsX40)
def wsX4_twoStep_r1 : List Cond := [Cond.constant RX4 100 (-1000000003), Cond.fieldLink RX4 7 "FutureSetsModel" "firsts" "I", Cond.methodLink RX4 78 yX4_counted, Cond.instanceMethod yX4_counted, Cond.selects RX4 yX4_counted yX4_counted, Cond.initialized RX4, Cond.code yX4_counted cX4_counted 3 (some .int), Cond.fieldLink RX4 74 "FutureSetsModel" "futures" "I", Cond.fieldLink RX4 38 "FutureSetsModel" "kept" "[Z", Cond.methodLink RX4 115 yX4_total, Cond.instanceMethod yX4_total, Cond.selects RX4 yX4_total yX4_total, Cond.code yX4_total cX4_total 5 (some .int), Cond.fieldLink RX4 35 "FutureSetsModel" "odds" "[I", Cond.methodLink RX4 112 yX4_answerTo, Cond.instanceMethod yX4_answerTo, Cond.selects RX4 yX4_answerTo yX4_answerTo, Cond.code yX4_answerTo cX4_answerTo 9 (some .int), Cond.fieldLink RX4 62 "FutureSetsModel" "seconds" "I", Cond.methodLink RX4 105 yX4_holds, Cond.instanceMethod yX4_holds, Cond.selects RX4 yX4_holds yX4_holds, Cond.code yX4_holds cX4_holds 4 (some .boolean), Cond.fieldLink RX4 71 "FutureSetsModel" "rows" "I"]
def wsX4_twoStep_r2 : List Cond := [Cond.methodLink RX4 89 yX4_sum, Cond.instanceMethod yX4_sum, Cond.selects RX4 yX4_sum yX4_sum, Cond.code yX4_sum cX4_sum 8 (some .int), Cond.fieldLink RX4 59 "FutureSetsModel" "terms" "I", Cond.fieldLink RX4 29 "FutureSetsModel" "termName" "[I", Cond.fieldLink RX4 17 "FutureSetsModel" "usual" "[I", Cond.fieldLink RX4 42 "FutureSetsModel" "number" "[I", Cond.fieldLink RX4 32 "FutureSetsModel" "termFactor" "[I", Cond.methodLink RX4 82 yX4_isOn, Cond.instanceMethod yX4_isOn, Cond.selects RX4 yX4_isOn yX4_isOn, Cond.code yX4_isOn cX4_isOn 4 (some .boolean), Cond.fieldLink RX4 23 "FutureSetsModel" "termRow" "[I", Cond.fieldLink RX4 26 "FutureSetsModel" "termChoice" "[I"]
def wsX4_twoStep : List Cond := .code yX4_twoStep cX4_twoStep 6 (some .int) :: ((wsX4_twoStep_r1 ++ wsX4_twoStep_r2) ++ wsX40)
def wsX4_lowest : List Cond := .code yX4_lowest cX4_lowest 6 (some .int) :: ([])
def wsX4_mean_r1 : List Cond := [Cond.constant RX4 58 (-1000000001), Cond.constant RX4 100 (-1000000003), Cond.methodLink RX4 109 yX4_isFirst, Cond.instanceMethod yX4_isFirst, Cond.selects RX4 yX4_isFirst yX4_isFirst, Cond.initialized RX4, Cond.code yX4_isFirst cX4_isFirst 2 (some .boolean), Cond.fieldLink RX4 7 "FutureSetsModel" "firsts" "I", Cond.methodLink RX4 54 yX4_in, Cond.static yX4_in, Cond.code yX4_in cX4_in 3 (some .boolean), Cond.methodLink RX4 78 yX4_counted, Cond.instanceMethod yX4_counted, Cond.selects RX4 yX4_counted yX4_counted, Cond.code yX4_counted cX4_counted 3 (some .int), Cond.fieldLink RX4 74 "FutureSetsModel" "futures" "I", Cond.fieldLink RX4 38 "FutureSetsModel" "kept" "[Z", Cond.methodLink RX4 115 yX4_total, Cond.instanceMethod yX4_total, Cond.selects RX4 yX4_total yX4_total, Cond.code yX4_total cX4_total 5 (some .int), Cond.fieldLink RX4 35 "FutureSetsModel" "odds" "[I", Cond.methodLink RX4 112 yX4_answerTo, Cond.instanceMethod yX4_answerTo]
def wsX4_mean_r2 : List Cond := [Cond.selects RX4 yX4_answerTo yX4_answerTo, Cond.code yX4_answerTo cX4_answerTo 9 (some .int), Cond.fieldLink RX4 62 "FutureSetsModel" "seconds" "I", Cond.methodLink RX4 105 yX4_holds, Cond.instanceMethod yX4_holds, Cond.selects RX4 yX4_holds yX4_holds, Cond.code yX4_holds cX4_holds 4 (some .boolean), Cond.fieldLink RX4 71 "FutureSetsModel" "rows" "I", Cond.methodLink RX4 89 yX4_sum, Cond.instanceMethod yX4_sum, Cond.selects RX4 yX4_sum yX4_sum, Cond.code yX4_sum cX4_sum 8 (some .int), Cond.fieldLink RX4 59 "FutureSetsModel" "terms" "I", Cond.fieldLink RX4 29 "FutureSetsModel" "termName" "[I", Cond.fieldLink RX4 17 "FutureSetsModel" "usual" "[I", Cond.fieldLink RX4 42 "FutureSetsModel" "number" "[I", Cond.fieldLink RX4 32 "FutureSetsModel" "termFactor" "[I", Cond.methodLink RX4 82 yX4_isOn, Cond.instanceMethod yX4_isOn, Cond.selects RX4 yX4_isOn yX4_isOn, Cond.code yX4_isOn cX4_isOn 4 (some .boolean), Cond.fieldLink RX4 23 "FutureSetsModel" "termRow" "[I", Cond.fieldLink RX4 26 "FutureSetsModel" "termChoice" "[I", Cond.methodLink RX4 118 yX4_allOdds]
def wsX4_mean_r3 : List Cond := [Cond.instanceMethod yX4_allOdds, Cond.selects RX4 yX4_allOdds yX4_allOdds, Cond.code yX4_allOdds cX4_allOdds 3 (some .int), Cond.methodLink RX4 121 yX4_lowest, Cond.static yX4_lowest, Cond.code yX4_lowest cX4_lowest 6 (some .int)]
def wsX4_mean : List Cond := .code yX4_mean cX4_mean 4 (some .int) :: ((wsX4_mean_r1 ++ (wsX4_mean_r2 ++ wsX4_mean_r3)) ++ wsX40)
def wsX4_bestOf_r1 : List Cond := [Cond.constant RX4 100 (-1000000003), Cond.fieldLink RX4 7 "FutureSetsModel" "firsts" "I", Cond.methodLink RX4 112 yX4_answerTo, Cond.instanceMethod yX4_answerTo, Cond.selects RX4 yX4_answerTo yX4_answerTo, Cond.initialized RX4, Cond.code yX4_answerTo cX4_answerTo 9 (some .int), Cond.fieldLink RX4 62 "FutureSetsModel" "seconds" "I", Cond.methodLink RX4 105 yX4_holds, Cond.instanceMethod yX4_holds, Cond.selects RX4 yX4_holds yX4_holds, Cond.code yX4_holds cX4_holds 4 (some .boolean), Cond.fieldLink RX4 71 "FutureSetsModel" "rows" "I", Cond.methodLink RX4 89 yX4_sum, Cond.instanceMethod yX4_sum, Cond.selects RX4 yX4_sum yX4_sum, Cond.code yX4_sum cX4_sum 8 (some .int), Cond.fieldLink RX4 59 "FutureSetsModel" "terms" "I", Cond.fieldLink RX4 29 "FutureSetsModel" "termName" "[I", Cond.fieldLink RX4 17 "FutureSetsModel" "usual" "[I", Cond.fieldLink RX4 42 "FutureSetsModel" "number" "[I", Cond.fieldLink RX4 32 "FutureSetsModel" "termFactor" "[I", Cond.methodLink RX4 82 yX4_isOn, Cond.instanceMethod yX4_isOn]
def wsX4_bestOf_r2 : List Cond := [Cond.selects RX4 yX4_isOn yX4_isOn, Cond.code yX4_isOn cX4_isOn 4 (some .boolean), Cond.fieldLink RX4 23 "FutureSetsModel" "termRow" "[I", Cond.fieldLink RX4 26 "FutureSetsModel" "termChoice" "[I"]
def wsX4_bestOf : List Cond := .code yX4_bestOf cX4_bestOf 6 (some .int) :: ((wsX4_bestOf_r1 ++ wsX4_bestOf_r2) ++ wsX40)
def wsX4_best_r1 : List Cond := [Cond.fieldLink RX4 74 "FutureSetsModel" "futures" "I", Cond.constant RX4 58 (-1000000001), Cond.methodLink RX4 54 yX4_in, Cond.static yX4_in, Cond.initialized RX4, Cond.code yX4_in cX4_in 3 (some .boolean), Cond.methodLink RX4 124 yX4_bestOf, Cond.instanceMethod yX4_bestOf, Cond.selects RX4 yX4_bestOf yX4_bestOf, Cond.code yX4_bestOf cX4_bestOf 6 (some .int), Cond.constant RX4 100 (-1000000003), Cond.fieldLink RX4 7 "FutureSetsModel" "firsts" "I", Cond.methodLink RX4 112 yX4_answerTo, Cond.instanceMethod yX4_answerTo, Cond.selects RX4 yX4_answerTo yX4_answerTo, Cond.code yX4_answerTo cX4_answerTo 9 (some .int), Cond.fieldLink RX4 62 "FutureSetsModel" "seconds" "I", Cond.methodLink RX4 105 yX4_holds, Cond.instanceMethod yX4_holds, Cond.selects RX4 yX4_holds yX4_holds, Cond.code yX4_holds cX4_holds 4 (some .boolean), Cond.fieldLink RX4 71 "FutureSetsModel" "rows" "I", Cond.methodLink RX4 89 yX4_sum, Cond.instanceMethod yX4_sum]
def wsX4_best_r2 : List Cond := [Cond.selects RX4 yX4_sum yX4_sum, Cond.code yX4_sum cX4_sum 8 (some .int), Cond.fieldLink RX4 59 "FutureSetsModel" "terms" "I", Cond.fieldLink RX4 29 "FutureSetsModel" "termName" "[I", Cond.fieldLink RX4 17 "FutureSetsModel" "usual" "[I", Cond.fieldLink RX4 42 "FutureSetsModel" "number" "[I", Cond.fieldLink RX4 32 "FutureSetsModel" "termFactor" "[I", Cond.methodLink RX4 82 yX4_isOn, Cond.instanceMethod yX4_isOn, Cond.selects RX4 yX4_isOn yX4_isOn, Cond.code yX4_isOn cX4_isOn 4 (some .boolean), Cond.fieldLink RX4 23 "FutureSetsModel" "termRow" "[I", Cond.fieldLink RX4 26 "FutureSetsModel" "termChoice" "[I"]
def wsX4_best : List Cond := .code yX4_best cX4_best 2 (some .int) :: ((wsX4_best_r1 ++ wsX4_best_r2) ++ wsX40)
def wsX4_findBests_r1 : List Cond := [Cond.fieldLink RX4 74 "FutureSetsModel" "futures" "I", Cond.fieldLink RX4 51 "FutureSetsModel" "bests" "[I", Cond.methodLink RX4 124 yX4_bestOf, Cond.instanceMethod yX4_bestOf, Cond.selects RX4 yX4_bestOf yX4_bestOf, Cond.initialized RX4, Cond.code yX4_bestOf cX4_bestOf 6 (some .int), Cond.constant RX4 100 (-1000000003), Cond.fieldLink RX4 7 "FutureSetsModel" "firsts" "I", Cond.methodLink RX4 112 yX4_answerTo, Cond.instanceMethod yX4_answerTo, Cond.selects RX4 yX4_answerTo yX4_answerTo, Cond.code yX4_answerTo cX4_answerTo 9 (some .int), Cond.fieldLink RX4 62 "FutureSetsModel" "seconds" "I", Cond.methodLink RX4 105 yX4_holds, Cond.instanceMethod yX4_holds, Cond.selects RX4 yX4_holds yX4_holds, Cond.code yX4_holds cX4_holds 4 (some .boolean), Cond.fieldLink RX4 71 "FutureSetsModel" "rows" "I", Cond.methodLink RX4 89 yX4_sum, Cond.instanceMethod yX4_sum, Cond.selects RX4 yX4_sum yX4_sum, Cond.code yX4_sum cX4_sum 8 (some .int), Cond.fieldLink RX4 59 "FutureSetsModel" "terms" "I"]
def wsX4_findBests_r2 : List Cond := [Cond.fieldLink RX4 29 "FutureSetsModel" "termName" "[I", Cond.fieldLink RX4 17 "FutureSetsModel" "usual" "[I", Cond.fieldLink RX4 42 "FutureSetsModel" "number" "[I", Cond.fieldLink RX4 32 "FutureSetsModel" "termFactor" "[I", Cond.methodLink RX4 82 yX4_isOn, Cond.instanceMethod yX4_isOn, Cond.selects RX4 yX4_isOn yX4_isOn, Cond.code yX4_isOn cX4_isOn 4 (some .boolean), Cond.fieldLink RX4 23 "FutureSetsModel" "termRow" "[I", Cond.fieldLink RX4 26 "FutureSetsModel" "termChoice" "[I"]
def wsX4_findBests : List Cond := .code yX4_findBests cX4_findBests 2 none :: ((wsX4_findBests_r1 ++ wsX4_findBests_r2) ++ wsX40)
def wsX4_regretOf_r1 : List Cond := [Cond.constant RX4 100 (-1000000003), Cond.fieldLink RX4 74 "FutureSetsModel" "futures" "I", Cond.fieldLink RX4 38 "FutureSetsModel" "kept" "[Z", Cond.fieldLink RX4 51 "FutureSetsModel" "bests" "[I", Cond.methodLink RX4 78 yX4_counted, Cond.instanceMethod yX4_counted, Cond.selects RX4 yX4_counted yX4_counted, Cond.initialized RX4, Cond.code yX4_counted cX4_counted 3 (some .int), Cond.methodLink RX4 115 yX4_total, Cond.instanceMethod yX4_total, Cond.selects RX4 yX4_total yX4_total, Cond.code yX4_total cX4_total 5 (some .int), Cond.fieldLink RX4 35 "FutureSetsModel" "odds" "[I", Cond.methodLink RX4 112 yX4_answerTo, Cond.instanceMethod yX4_answerTo, Cond.selects RX4 yX4_answerTo yX4_answerTo, Cond.code yX4_answerTo cX4_answerTo 9 (some .int), Cond.fieldLink RX4 62 "FutureSetsModel" "seconds" "I", Cond.fieldLink RX4 7 "FutureSetsModel" "firsts" "I", Cond.methodLink RX4 105 yX4_holds, Cond.instanceMethod yX4_holds, Cond.selects RX4 yX4_holds yX4_holds, Cond.code yX4_holds cX4_holds 4 (some .boolean)]
def wsX4_regretOf_r2 : List Cond := [Cond.fieldLink RX4 71 "FutureSetsModel" "rows" "I", Cond.methodLink RX4 89 yX4_sum, Cond.instanceMethod yX4_sum, Cond.selects RX4 yX4_sum yX4_sum, Cond.code yX4_sum cX4_sum 8 (some .int), Cond.fieldLink RX4 59 "FutureSetsModel" "terms" "I", Cond.fieldLink RX4 29 "FutureSetsModel" "termName" "[I", Cond.fieldLink RX4 17 "FutureSetsModel" "usual" "[I", Cond.fieldLink RX4 42 "FutureSetsModel" "number" "[I", Cond.fieldLink RX4 32 "FutureSetsModel" "termFactor" "[I", Cond.methodLink RX4 82 yX4_isOn, Cond.instanceMethod yX4_isOn, Cond.selects RX4 yX4_isOn yX4_isOn, Cond.code yX4_isOn cX4_isOn 4 (some .boolean), Cond.fieldLink RX4 23 "FutureSetsModel" "termRow" "[I", Cond.fieldLink RX4 26 "FutureSetsModel" "termChoice" "[I"]
def wsX4_regretOf : List Cond := .code yX4_regretOf cX4_regretOf 5 (some .int) :: ((wsX4_regretOf_r1 ++ wsX4_regretOf_r2) ++ wsX40)
def wsX4_regret_r1 : List Cond := [Cond.constant RX4 58 (-1000000001), Cond.methodLink RX4 109 yX4_isFirst, Cond.instanceMethod yX4_isFirst, Cond.selects RX4 yX4_isFirst yX4_isFirst, Cond.initialized RX4, Cond.code yX4_isFirst cX4_isFirst 2 (some .boolean), Cond.fieldLink RX4 7 "FutureSetsModel" "firsts" "I", Cond.methodLink RX4 54 yX4_in, Cond.static yX4_in, Cond.code yX4_in cX4_in 3 (some .boolean), Cond.methodLink RX4 127 yX4_findBests, Cond.instanceMethod yX4_findBests, Cond.selects RX4 yX4_findBests yX4_findBests, Cond.code yX4_findBests cX4_findBests 2 none, Cond.fieldLink RX4 74 "FutureSetsModel" "futures" "I", Cond.fieldLink RX4 51 "FutureSetsModel" "bests" "[I", Cond.methodLink RX4 124 yX4_bestOf, Cond.instanceMethod yX4_bestOf, Cond.selects RX4 yX4_bestOf yX4_bestOf, Cond.code yX4_bestOf cX4_bestOf 6 (some .int), Cond.constant RX4 100 (-1000000003), Cond.methodLink RX4 112 yX4_answerTo, Cond.instanceMethod yX4_answerTo, Cond.selects RX4 yX4_answerTo yX4_answerTo]
def wsX4_regret_r2 : List Cond := [Cond.code yX4_answerTo cX4_answerTo 9 (some .int), Cond.fieldLink RX4 62 "FutureSetsModel" "seconds" "I", Cond.methodLink RX4 105 yX4_holds, Cond.instanceMethod yX4_holds, Cond.selects RX4 yX4_holds yX4_holds, Cond.code yX4_holds cX4_holds 4 (some .boolean), Cond.fieldLink RX4 71 "FutureSetsModel" "rows" "I", Cond.methodLink RX4 89 yX4_sum, Cond.instanceMethod yX4_sum, Cond.selects RX4 yX4_sum yX4_sum, Cond.code yX4_sum cX4_sum 8 (some .int), Cond.fieldLink RX4 59 "FutureSetsModel" "terms" "I", Cond.fieldLink RX4 29 "FutureSetsModel" "termName" "[I", Cond.fieldLink RX4 17 "FutureSetsModel" "usual" "[I", Cond.fieldLink RX4 42 "FutureSetsModel" "number" "[I", Cond.fieldLink RX4 32 "FutureSetsModel" "termFactor" "[I", Cond.methodLink RX4 82 yX4_isOn, Cond.instanceMethod yX4_isOn, Cond.selects RX4 yX4_isOn yX4_isOn, Cond.code yX4_isOn cX4_isOn 4 (some .boolean), Cond.fieldLink RX4 23 "FutureSetsModel" "termRow" "[I", Cond.fieldLink RX4 26 "FutureSetsModel" "termChoice" "[I", Cond.methodLink RX4 130 yX4_regretOf, Cond.instanceMethod yX4_regretOf]
def wsX4_regret_r3 : List Cond := [Cond.selects RX4 yX4_regretOf yX4_regretOf, Cond.code yX4_regretOf cX4_regretOf 5 (some .int), Cond.fieldLink RX4 38 "FutureSetsModel" "kept" "[Z", Cond.methodLink RX4 78 yX4_counted, Cond.instanceMethod yX4_counted, Cond.selects RX4 yX4_counted yX4_counted, Cond.code yX4_counted cX4_counted 3 (some .int), Cond.methodLink RX4 115 yX4_total, Cond.instanceMethod yX4_total, Cond.selects RX4 yX4_total yX4_total, Cond.code yX4_total cX4_total 5 (some .int), Cond.fieldLink RX4 35 "FutureSetsModel" "odds" "[I"]
def wsX4_regret : List Cond := .code yX4_regret cX4_regret 2 (some .int) :: ((wsX4_regret_r1 ++ (wsX4_regret_r2 ++ wsX4_regret_r3)) ++ wsX40)
def wsX4_calmest_r1 : List Cond := [Cond.constant RX4 100 (-1000000003), Cond.fieldLink RX4 7 "FutureSetsModel" "firsts" "I", Cond.methodLink RX4 127 yX4_findBests, Cond.instanceMethod yX4_findBests, Cond.selects RX4 yX4_findBests yX4_findBests, Cond.initialized RX4, Cond.code yX4_findBests cX4_findBests 2 none, Cond.fieldLink RX4 74 "FutureSetsModel" "futures" "I", Cond.fieldLink RX4 51 "FutureSetsModel" "bests" "[I", Cond.methodLink RX4 124 yX4_bestOf, Cond.instanceMethod yX4_bestOf, Cond.selects RX4 yX4_bestOf yX4_bestOf, Cond.code yX4_bestOf cX4_bestOf 6 (some .int), Cond.methodLink RX4 112 yX4_answerTo, Cond.instanceMethod yX4_answerTo, Cond.selects RX4 yX4_answerTo yX4_answerTo, Cond.code yX4_answerTo cX4_answerTo 9 (some .int), Cond.fieldLink RX4 62 "FutureSetsModel" "seconds" "I", Cond.methodLink RX4 105 yX4_holds, Cond.instanceMethod yX4_holds, Cond.selects RX4 yX4_holds yX4_holds, Cond.code yX4_holds cX4_holds 4 (some .boolean), Cond.fieldLink RX4 71 "FutureSetsModel" "rows" "I", Cond.methodLink RX4 89 yX4_sum]
def wsX4_calmest_r2 : List Cond := [Cond.instanceMethod yX4_sum, Cond.selects RX4 yX4_sum yX4_sum, Cond.code yX4_sum cX4_sum 8 (some .int), Cond.fieldLink RX4 59 "FutureSetsModel" "terms" "I", Cond.fieldLink RX4 29 "FutureSetsModel" "termName" "[I", Cond.fieldLink RX4 17 "FutureSetsModel" "usual" "[I", Cond.fieldLink RX4 42 "FutureSetsModel" "number" "[I", Cond.fieldLink RX4 32 "FutureSetsModel" "termFactor" "[I", Cond.methodLink RX4 82 yX4_isOn, Cond.instanceMethod yX4_isOn, Cond.selects RX4 yX4_isOn yX4_isOn, Cond.code yX4_isOn cX4_isOn 4 (some .boolean), Cond.fieldLink RX4 23 "FutureSetsModel" "termRow" "[I", Cond.fieldLink RX4 26 "FutureSetsModel" "termChoice" "[I", Cond.methodLink RX4 130 yX4_regretOf, Cond.instanceMethod yX4_regretOf, Cond.selects RX4 yX4_regretOf yX4_regretOf, Cond.code yX4_regretOf cX4_regretOf 5 (some .int), Cond.fieldLink RX4 38 "FutureSetsModel" "kept" "[Z", Cond.methodLink RX4 78 yX4_counted, Cond.instanceMethod yX4_counted, Cond.selects RX4 yX4_counted yX4_counted, Cond.code yX4_counted cX4_counted 3 (some .int), Cond.methodLink RX4 115 yX4_total]
def wsX4_calmest_r3 : List Cond := [Cond.instanceMethod yX4_total, Cond.selects RX4 yX4_total yX4_total, Cond.code yX4_total cX4_total 5 (some .int), Cond.fieldLink RX4 35 "FutureSetsModel" "odds" "[I"]
def wsX4_calmest : List Cond := .code yX4_calmest cX4_calmest 6 (some .int) :: ((wsX4_calmest_r1 ++ (wsX4_calmest_r2 ++ wsX4_calmest_r3)) ++ wsX40)
def wsX4_waiting_r1 : List Cond := [Cond.constant RX4 58 (-1000000001), Cond.constant RX4 100 (-1000000003), Cond.fieldLink RX4 74 "FutureSetsModel" "futures" "I", Cond.fieldLink RX4 38 "FutureSetsModel" "kept" "[Z", Cond.fieldLink RX4 35 "FutureSetsModel" "odds" "[I", Cond.fieldLink RX4 51 "FutureSetsModel" "bests" "[I", Cond.methodLink RX4 54 yX4_in, Cond.static yX4_in, Cond.initialized RX4, Cond.code yX4_in cX4_in 3 (some .boolean), Cond.methodLink RX4 133 yX4_twoStep, Cond.instanceMethod yX4_twoStep, Cond.selects RX4 yX4_twoStep yX4_twoStep, Cond.code yX4_twoStep cX4_twoStep 6 (some .int), Cond.fieldLink RX4 7 "FutureSetsModel" "firsts" "I", Cond.methodLink RX4 78 yX4_counted, Cond.instanceMethod yX4_counted, Cond.selects RX4 yX4_counted yX4_counted, Cond.code yX4_counted cX4_counted 3 (some .int), Cond.methodLink RX4 115 yX4_total, Cond.instanceMethod yX4_total, Cond.selects RX4 yX4_total yX4_total, Cond.code yX4_total cX4_total 5 (some .int), Cond.methodLink RX4 112 yX4_answerTo]
def wsX4_waiting_r2 : List Cond := [Cond.instanceMethod yX4_answerTo, Cond.selects RX4 yX4_answerTo yX4_answerTo, Cond.code yX4_answerTo cX4_answerTo 9 (some .int), Cond.fieldLink RX4 62 "FutureSetsModel" "seconds" "I", Cond.methodLink RX4 105 yX4_holds, Cond.instanceMethod yX4_holds, Cond.selects RX4 yX4_holds yX4_holds, Cond.code yX4_holds cX4_holds 4 (some .boolean), Cond.fieldLink RX4 71 "FutureSetsModel" "rows" "I", Cond.methodLink RX4 89 yX4_sum, Cond.instanceMethod yX4_sum, Cond.selects RX4 yX4_sum yX4_sum, Cond.code yX4_sum cX4_sum 8 (some .int), Cond.fieldLink RX4 59 "FutureSetsModel" "terms" "I", Cond.fieldLink RX4 29 "FutureSetsModel" "termName" "[I", Cond.fieldLink RX4 17 "FutureSetsModel" "usual" "[I", Cond.fieldLink RX4 42 "FutureSetsModel" "number" "[I", Cond.fieldLink RX4 32 "FutureSetsModel" "termFactor" "[I", Cond.methodLink RX4 82 yX4_isOn, Cond.instanceMethod yX4_isOn, Cond.selects RX4 yX4_isOn yX4_isOn, Cond.code yX4_isOn cX4_isOn 4 (some .boolean), Cond.fieldLink RX4 23 "FutureSetsModel" "termRow" "[I", Cond.fieldLink RX4 26 "FutureSetsModel" "termChoice" "[I"]
def wsX4_waiting_r3 : List Cond := [Cond.methodLink RX4 127 yX4_findBests, Cond.instanceMethod yX4_findBests, Cond.selects RX4 yX4_findBests yX4_findBests, Cond.code yX4_findBests cX4_findBests 2 none, Cond.methodLink RX4 124 yX4_bestOf, Cond.instanceMethod yX4_bestOf, Cond.selects RX4 yX4_bestOf yX4_bestOf, Cond.code yX4_bestOf cX4_bestOf 6 (some .int), Cond.methodLink RX4 118 yX4_allOdds, Cond.instanceMethod yX4_allOdds, Cond.selects RX4 yX4_allOdds yX4_allOdds, Cond.code yX4_allOdds cX4_allOdds 3 (some .int), Cond.methodLink RX4 121 yX4_lowest, Cond.static yX4_lowest, Cond.code yX4_lowest cX4_lowest 6 (some .int)]
def wsX4_waiting : List Cond := .code yX4_waiting cX4_waiting 5 (some .int) :: ((wsX4_waiting_r1 ++ (wsX4_waiting_r2 ++ wsX4_waiting_r3)) ++ wsX40)
def wsX4_chance_r1 : List Cond := [Cond.constant RX4 58 (-1000000001), Cond.constant RX4 100 (-1000000003), Cond.fieldLink RX4 74 "FutureSetsModel" "futures" "I", Cond.fieldLink RX4 38 "FutureSetsModel" "kept" "[Z", Cond.fieldLink RX4 35 "FutureSetsModel" "odds" "[I", Cond.methodLink RX4 85 yX4_isPlan, Cond.instanceMethod yX4_isPlan, Cond.selects RX4 yX4_isPlan yX4_isPlan, Cond.initialized RX4, Cond.code yX4_isPlan cX4_isPlan 2 (some .boolean), Cond.fieldLink RX4 7 "FutureSetsModel" "firsts" "I", Cond.fieldLink RX4 62 "FutureSetsModel" "seconds" "I", Cond.methodLink RX4 54 yX4_in, Cond.static yX4_in, Cond.code yX4_in cX4_in 3 (some .boolean), Cond.methodLink RX4 78 yX4_counted, Cond.instanceMethod yX4_counted, Cond.selects RX4 yX4_counted yX4_counted, Cond.code yX4_counted cX4_counted 3 (some .int), Cond.methodLink RX4 105 yX4_holds, Cond.instanceMethod yX4_holds, Cond.selects RX4 yX4_holds yX4_holds, Cond.code yX4_holds cX4_holds 4 (some .boolean), Cond.fieldLink RX4 71 "FutureSetsModel" "rows" "I"]
def wsX4_chance_r2 : List Cond := [Cond.methodLink RX4 89 yX4_sum, Cond.instanceMethod yX4_sum, Cond.selects RX4 yX4_sum yX4_sum, Cond.code yX4_sum cX4_sum 8 (some .int), Cond.fieldLink RX4 59 "FutureSetsModel" "terms" "I", Cond.fieldLink RX4 29 "FutureSetsModel" "termName" "[I", Cond.fieldLink RX4 17 "FutureSetsModel" "usual" "[I", Cond.fieldLink RX4 42 "FutureSetsModel" "number" "[I", Cond.fieldLink RX4 32 "FutureSetsModel" "termFactor" "[I", Cond.methodLink RX4 82 yX4_isOn, Cond.instanceMethod yX4_isOn, Cond.selects RX4 yX4_isOn yX4_isOn, Cond.code yX4_isOn cX4_isOn 4 (some .boolean), Cond.fieldLink RX4 23 "FutureSetsModel" "termRow" "[I", Cond.fieldLink RX4 26 "FutureSetsModel" "termChoice" "[I", Cond.methodLink RX4 118 yX4_allOdds, Cond.instanceMethod yX4_allOdds, Cond.selects RX4 yX4_allOdds yX4_allOdds, Cond.code yX4_allOdds cX4_allOdds 3 (some .int), Cond.methodLink RX4 121 yX4_lowest, Cond.static yX4_lowest, Cond.code yX4_lowest cX4_lowest 6 (some .int)]
def wsX4_chance : List Cond := .code yX4_chance cX4_chance 5 (some .int) :: ((wsX4_chance_r1 ++ wsX4_chance_r2) ++ wsX40)
def wsJ9_abs_0f7a4 : List Cond := .code yJ9_abs_0f7a4 cJ9_abs_0f7a4 1 (some .int) :: ([])
def wsJ9_max_7cf53 : List Cond := .code yJ9_max_7cf53 cJ9_max_7cf53 2 (some .int) :: ([])
def wsL_law_r1 : List Cond := [Cond.classLink RL 7 RX3, Cond.instantiable RX3 12, Cond.initialized RX3, Cond.classLink RL 10 RX4, Cond.instantiable RX4 20, Cond.initialized RX4, Cond.methodLink RL 9 yX3_init, Cond.instanceMethod yX3_init, Cond.code yX3_init cX3_init 1 none, Cond.methodLink RX3 1 objectInit, Cond.instanceMethod objectInit, Cond.code objectInit ⟨#[0xb1]⟩ 1 none, Cond.classLink RX3 7 RX1, Cond.instantiable RX1 4, Cond.initialized RX1, Cond.fieldLink RX3 10 "FutureSets" "names" "LFutureSets$Names;", Cond.classLink RX3 16 RX2, Cond.instantiable RX2 5, Cond.initialized RX2, Cond.fieldLink RX3 19 "FutureSets" "terms" "LFutureSets$Terms;", Cond.classLink RX3 23 RX0, Cond.instantiable RX0 4, Cond.initialized RX0, Cond.fieldLink RX3 26 "FutureSets" "listed" "LFutureSets$Listed;"]
def wsL_law_r2 : List Cond := [Cond.arrayClass .int, Cond.fieldLink RX3 30 "FutureSets" "sums" "[I", Cond.fieldLink RX3 34 "FutureSets" "bests" "[I", Cond.fieldLink RX3 37 "FutureSets" "weights" "[I", Cond.fieldLink RX3 40 "FutureSets" "gains" "[I", Cond.fieldLink RX3 43 "FutureSets" "worstNumbers" "[I", Cond.instanceMethod yX1_init, Cond.code yX1_init cX1_init 1 none, Cond.methodLink RX1 3 objectInit, Cond.fieldLink RX1 9 "FutureSets$Names" "least" "[I", Cond.fieldLink RX1 15 "FutureSets$Names" "usual" "[I", Cond.fieldLink RX1 18 "FutureSets$Names" "greatest" "[I", Cond.instanceMethod yX2_init, Cond.code yX2_init cX2_init 1 none, Cond.methodLink RX2 3 objectInit, Cond.fieldLink RX2 9 "FutureSets$Terms" "rowOf" "[I", Cond.fieldLink RX2 15 "FutureSets$Terms" "choiceOf" "[I", Cond.fieldLink RX2 18 "FutureSets$Terms" "nameOf" "[I", Cond.fieldLink RX2 21 "FutureSets$Terms" "factorOf" "[I", Cond.instanceMethod yX0_init, Cond.code yX0_init cX0_init 1 none, Cond.methodLink RX0 3 objectInit, Cond.fieldLink RX0 9 "FutureSets$Listed" "odds" "[I", Cond.arrayClass .boolean]
def wsL_law_r3 : List Cond := [Cond.fieldLink RX0 15 "FutureSets$Listed" "kept" "[Z", Cond.classLink RX0 19 "[[I", Cond.fieldLink RX0 21 "FutureSets$Listed" "numbers" "[[I", Cond.methodLink RX3 46 yX3_startAnew, Cond.instanceMethod yX3_startAnew, Cond.selects RX3 yX3_startAnew yX3_startAnew, Cond.code yX3_startAnew cX3_startAnew 3 none, Cond.fieldLink RX3 59 "FutureSets$Names" "count" "I", Cond.fieldLink RX3 55 "FutureSets$Terms" "count" "I", Cond.fieldLink RX3 87 "FutureSets$Listed" "count" "I", Cond.fieldLink RX3 71 "FutureSets" "rowCount" "I", Cond.fieldLink RX3 78 "FutureSets" "firstCount" "I", Cond.fieldLink RX3 81 "FutureSets" "secondCount" "I", Cond.fieldLink RX3 68 "FutureSets" "budgetNow" "I", Cond.methodLink RL 12 yX4_init, Cond.instanceMethod yX4_init, Cond.code yX4_init cX4_init 1 none, Cond.methodLink RX4 1 objectInit, Cond.fieldLink RX4 7 "FutureSetsModel" "firsts" "I", Cond.fieldLink RX4 13 "FutureSetsModel" "least" "[I", Cond.fieldLink RX4 17 "FutureSetsModel" "usual" "[I", Cond.fieldLink RX4 20 "FutureSetsModel" "greatest" "[I", Cond.fieldLink RX4 23 "FutureSetsModel" "termRow" "[I", Cond.fieldLink RX4 26 "FutureSetsModel" "termChoice" "[I"]
def wsL_law_r4 : List Cond := [Cond.fieldLink RX4 29 "FutureSetsModel" "termName" "[I", Cond.fieldLink RX4 32 "FutureSetsModel" "termFactor" "[I", Cond.fieldLink RX4 35 "FutureSetsModel" "odds" "[I", Cond.fieldLink RX4 38 "FutureSetsModel" "kept" "[Z", Cond.fieldLink RX4 42 "FutureSetsModel" "number" "[I", Cond.fieldLink RX4 45 "FutureSetsModel" "gain" "[I", Cond.fieldLink RX4 48 "FutureSetsModel" "worstOf" "[I", Cond.fieldLink RX4 51 "FutureSetsModel" "bests" "[I", Cond.methodLink RL 13 yX3_begin, Cond.instanceMethod yX3_begin, Cond.selects RX3 yX3_begin yX3_begin, Cond.code yX3_begin cX3_begin 4 (some .int), Cond.constant RX3 54 (-1000000001), Cond.methodLink RX3 50 yX3_isWithin, Cond.static yX3_isWithin, Cond.code yX3_isWithin cX3_isWithin 3 (some .boolean), Cond.methodLink RL 17 yX4_begin, Cond.instanceMethod yX4_begin, Cond.selects RX4 yX4_begin yX4_begin, Cond.code yX4_begin cX4_begin 4 (some .int), Cond.constant RX4 58 (-1000000001), Cond.fieldLink RX4 59 "FutureSetsModel" "terms" "I", Cond.fieldLink RX4 62 "FutureSetsModel" "seconds" "I", Cond.fieldLink RX4 65 "FutureSetsModel" "names" "I"]
def wsL_law_r5 : List Cond := [Cond.fieldLink RX4 68 "FutureSetsModel" "budget" "I", Cond.fieldLink RX4 71 "FutureSetsModel" "rows" "I", Cond.fieldLink RX4 74 "FutureSetsModel" "futures" "I", Cond.methodLink RX4 54 yX4_in, Cond.static yX4_in, Cond.code yX4_in cX4_in 3 (some .boolean), Cond.methodLink RL 18 yX3_name, Cond.instanceMethod yX3_name, Cond.selects RX3 yX3_name yX3_name, Cond.code yX3_name cX3_name 5 (some .int), Cond.constant RX3 60 (-1000000002), Cond.methodLink RX3 61 yX0_putInAll, Cond.instanceMethod yX0_putInAll, Cond.selects RX0 yX0_putInAll yX0_putInAll, Cond.code yX0_putInAll cX0_putInAll 4 none, Cond.fieldLink RX0 24 "FutureSets$Listed" "count" "I", Cond.methodLink RX3 64 yX1_add, Cond.instanceMethod yX1_add, Cond.selects RX1 yX1_add yX1_add, Cond.code yX1_add cX1_add 4 (some .int), Cond.fieldLink RX1 21 "FutureSets$Names" "count" "I", Cond.methodLink RL 22 yX4_name, Cond.instanceMethod yX4_name, Cond.selects RX4 yX4_name yX4_name]
def wsL_law_r6 : List Cond := [Cond.code yX4_name cX4_name 5 (some .int), Cond.constant RX4 77 (-1000000002), Cond.methodLink RL 23 yX3_budget, Cond.instanceMethod yX3_budget, Cond.selects RX3 yX3_budget yX3_budget, Cond.code yX3_budget cX3_budget 3 (some .int), Cond.methodLink RL 27 yX4_budget, Cond.instanceMethod yX4_budget, Cond.selects RX4 yX4_budget yX4_budget, Cond.code yX4_budget cX4_budget 3 (some .int), Cond.methodLink RL 28 yX3_row, Cond.instanceMethod yX3_row, Cond.selects RX3 yX3_row yX3_row, Cond.code yX3_row cX3_row 1 (some .int), Cond.methodLink RL 32 yX4_row, Cond.instanceMethod yX4_row, Cond.selects RX4 yX4_row yX4_row, Cond.code yX4_row cX4_row 1 (some .int), Cond.methodLink RL 33 yX3_term, Cond.instanceMethod yX3_term, Cond.selects RX3 yX3_term yX3_term, Cond.code yX3_term cX3_term 5 (some .int), Cond.methodLink RX3 74 yX3_isRowOrCost, Cond.instanceMethod yX3_isRowOrCost]
def wsL_law_r7 : List Cond := [Cond.selects RX3 yX3_isRowOrCost yX3_isRowOrCost, Cond.code yX3_isRowOrCost cX3_isRowOrCost 2 (some .boolean), Cond.methodLink RX3 84 yX2_add, Cond.instanceMethod yX2_add, Cond.selects RX2 yX2_add yX2_add, Cond.code yX2_add cX2_add 5 (some .int), Cond.fieldLink RX2 24 "FutureSets$Terms" "count" "I", Cond.methodLink RL 37 yX4_term, Cond.instanceMethod yX4_term, Cond.selects RX4 yX4_term yX4_term, Cond.code yX4_term cX4_term 6 (some .int), Cond.methodLink RL 38 yX3_future, Cond.instanceMethod yX3_future, Cond.selects RX3 yX3_future yX3_future, Cond.code yX3_future cX3_future 3 (some .int), Cond.methodLink RX3 88 yX0_add, Cond.instanceMethod yX0_add, Cond.selects RX0 yX0_add yX0_add, Cond.code yX0_add cX0_add 5 (some .int), Cond.fieldLink RX0 28 "FutureSets$Names" "count" "I", Cond.fieldLink RX0 31 "FutureSets$Names" "usual" "[I", Cond.methodLink RL 42 yX4_future, Cond.instanceMethod yX4_future, Cond.selects RX4 yX4_future yX4_future]
def wsL_law_r8 : List Cond := [Cond.code yX4_future cX4_future 4 (some .int), Cond.methodLink RL 43 yX3_set, Cond.instanceMethod yX3_set, Cond.selects RX3 yX3_set yX3_set, Cond.code yX3_set cX3_set 5 (some .int), Cond.fieldLink RX3 97 "FutureSets$Names" "least" "[I", Cond.fieldLink RX3 100 "FutureSets$Names" "greatest" "[I", Cond.fieldLink RX3 103 "FutureSets$Listed" "numbers" "[[I", Cond.methodLink RX3 91 yX3_isListed, Cond.instanceMethod yX3_isListed, Cond.selects RX3 yX3_isListed yX3_isListed, Cond.code yX3_isListed cX3_isListed 2 (some .boolean), Cond.methodLink RX3 94 yX3_isName, Cond.instanceMethod yX3_isName, Cond.selects RX3 yX3_isName yX3_isName, Cond.code yX3_isName cX3_isName 2 (some .boolean), Cond.methodLink RL 46 yX4_set, Cond.instanceMethod yX4_set, Cond.selects RX4 yX4_set yX4_set, Cond.code yX4_set cX4_set 5 (some .int), Cond.methodLink RL 47 yX3_told, Cond.instanceMethod yX3_told, Cond.selects RX3 yX3_told yX3_told, Cond.code yX3_told cX3_told 2 (some .int)]
def wsL_law_r9 : List Cond := [Cond.methodLink RX3 107 yX0_countCounted, Cond.instanceMethod yX0_countCounted, Cond.selects RX0 yX0_countCounted yX0_countCounted, Cond.code yX0_countCounted cX0_countCounted 3 (some .int), Cond.methodLink RL 50 yX4_told, Cond.instanceMethod yX4_told, Cond.selects RX4 yX4_told yX4_told, Cond.code yX4_told cX4_told 2 (some .int), Cond.methodLink RX4 78 yX4_counted, Cond.instanceMethod yX4_counted, Cond.selects RX4 yX4_counted yX4_counted, Cond.code yX4_counted cX4_counted 3 (some .int), Cond.methodLink RL 51 yX3_comes, Cond.instanceMethod yX3_comes, Cond.selects RX3 yX3_comes yX3_comes, Cond.code yX3_comes cX3_comes 4 (some .int), Cond.fieldLink RX3 114 "FutureSets$Names" "usual" "[I", Cond.methodLink RX3 111 yX3_isPlan, Cond.instanceMethod yX3_isPlan, Cond.selects RX3 yX3_isPlan yX3_isPlan, Cond.code yX3_isPlan cX3_isPlan 2 (some .boolean), Cond.methodLink RX3 133 yX3_planCount, Cond.instanceMethod yX3_planCount, Cond.selects RX3 yX3_planCount yX3_planCount]
def wsL_law_r10 : List Cond := [Cond.code yX3_planCount cX3_planCount 1 (some .int), Cond.methodLink RX3 117 yX2_sumUp, Cond.instanceMethod yX2_sumUp, Cond.selects RX2 yX2_sumUp yX2_sumUp, Cond.code yX2_sumUp cX2_sumUp 6 none, Cond.methodLink RX2 28 yX2_isTaken, Cond.instanceMethod yX2_isTaken, Cond.selects RX2 yX2_isTaken yX2_isTaken, Cond.code yX2_isTaken cX2_isTaken 3 (some .boolean), Cond.static yX3_slotOf, Cond.code yX3_slotOf cX3_slotOf 1 (some .int), Cond.methodLink RX3 121 yX3_slotOf, Cond.methodLink RL 54 yX4_comes, Cond.instanceMethod yX4_comes, Cond.selects RX4 yX4_comes yX4_comes, Cond.code yX4_comes cX4_comes 5 (some .int), Cond.methodLink RX4 85 yX4_isPlan, Cond.instanceMethod yX4_isPlan, Cond.selects RX4 yX4_isPlan yX4_isPlan, Cond.code yX4_isPlan cX4_isPlan 2 (some .boolean), Cond.methodLink RX4 89 yX4_sum, Cond.instanceMethod yX4_sum, Cond.selects RX4 yX4_sum yX4_sum, Cond.code yX4_sum cX4_sum 8 (some .int)]
def wsL_law_r11 : List Cond := [Cond.methodLink RX4 82 yX4_isOn, Cond.instanceMethod yX4_isOn, Cond.selects RX4 yX4_isOn yX4_isOn, Cond.code yX4_isOn cX4_isOn 4 (some .boolean), Cond.methodLink RL 55 yX3_worst, Cond.instanceMethod yX3_worst, Cond.selects RX3 yX3_worst yX3_worst, Cond.code yX3_worst cX3_worst 3 (some .int), Cond.methodLink RX3 125 yX3_findWorst, Cond.instanceMethod yX3_findWorst, Cond.selects RX3 yX3_findWorst yX3_findWorst, Cond.code yX3_findWorst cX3_findWorst 6 (some .int), Cond.constant RX3 132 (-1000000003), Cond.methodLink RX3 180 yX2_weigh, Cond.instanceMethod yX2_weigh, Cond.selects RX2 yX2_weigh yX2_weigh, Cond.code yX2_weigh cX2_weigh 6 (some .int), Cond.methodLink RX3 184 yX3_worstOf, Cond.instanceMethod yX3_worstOf, Cond.selects RX3 yX3_worstOf yX3_worstOf, Cond.code yX3_worstOf cX3_worstOf 2 (some .int), Cond.methodLink RX3 187 yX3_greatestGain, Cond.instanceMethod yX3_greatestGain, Cond.selects RX3 yX3_greatestGain yX3_greatestGain]
def wsL_law_r12 : List Cond := [Cond.code yX3_greatestGain cX3_greatestGain 4 (some .int), Cond.methodLink RL 58 yX4_worst, Cond.instanceMethod yX4_worst, Cond.selects RX4 yX4_worst yX4_worst, Cond.code yX4_worst cX4_worst 3 (some .int), Cond.methodLink RX4 96 yX4_findWorst, Cond.instanceMethod yX4_findWorst, Cond.selects RX4 yX4_findWorst yX4_findWorst, Cond.code yX4_findWorst cX4_findWorst 7 (some .int), Cond.methodLink RX4 93 yX4_isUp, Cond.instanceMethod yX4_isUp, Cond.selects RX4 yX4_isUp yX4_isUp, Cond.code yX4_isUp cX4_isUp 6 (some .boolean), Cond.methodLink RL 59 yX3_worstName, Cond.instanceMethod yX3_worstName, Cond.selects RX3 yX3_worstName yX3_worstName, Cond.code yX3_worstName cX3_worstName 4 (some .int), Cond.methodLink RL 62 yX4_worstName, Cond.instanceMethod yX4_worstName, Cond.selects RX4 yX4_worstName yX4_worstName, Cond.code yX4_worstName cX4_worstName 5 (some .int), Cond.methodLink RL 63 yX3_breaks, Cond.instanceMethod yX3_breaks, Cond.selects RX3 yX3_breaks yX3_breaks]
def wsL_law_r13 : List Cond := [Cond.code yX3_breaks cX3_breaks 2 (some .int), Cond.methodLink RX3 129 yX3_firstBroken, Cond.instanceMethod yX3_firstBroken, Cond.selects RX3 yX3_firstBroken yX3_firstBroken, Cond.code yX3_firstBroken cX3_firstBroken 3 (some .int), Cond.methodLink RL 66 yX4_breaks, Cond.instanceMethod yX4_breaks, Cond.selects RX4 yX4_breaks yX4_breaks, Cond.code yX4_breaks cX4_breaks 3 (some .int), Cond.constant RX4 100 (-1000000003), Cond.methodLink RL 67 yX3_safest, Cond.instanceMethod yX3_safest, Cond.selects RX3 yX3_safest yX3_safest, Cond.code yX3_safest cX3_safest 5 (some .int), Cond.methodLink RL 70 yX4_safest, Cond.instanceMethod yX4_safest, Cond.selects RX4 yX4_safest yX4_safest, Cond.code yX4_safest cX4_safest 6 (some .int), Cond.methodLink RX4 101 yX4_breaks, Cond.methodLink RL 71 yX3_answer, Cond.instanceMethod yX3_answer, Cond.selects RX3 yX3_answer yX3_answer, Cond.code yX3_answer cX3_answer 3 (some .int), Cond.methodLink RX3 136 yX3_isFirstPart]
def wsL_law_r14 : List Cond := [Cond.instanceMethod yX3_isFirstPart, Cond.selects RX3 yX3_isFirstPart yX3_isFirstPart, Cond.code yX3_isFirstPart cX3_isFirstPart 2 (some .boolean), Cond.methodLink RX3 166 yX3_firstPartCount, Cond.instanceMethod yX3_firstPartCount, Cond.selects RX3 yX3_firstPartCount yX3_firstPartCount, Cond.code yX3_firstPartCount cX3_firstPartCount 1 (some .int), Cond.methodLink RX3 139 yX3_findAnswer, Cond.instanceMethod yX3_findAnswer, Cond.selects RX3 yX3_findAnswer yX3_findAnswer, Cond.code yX3_findAnswer cX3_findAnswer 8 (some .int), Cond.methodLink RX3 176 yX3_allHold, Cond.instanceMethod yX3_allHold, Cond.selects RX3 yX3_allHold yX3_allHold, Cond.code yX3_allHold cX3_allHold 4 (some .boolean), Cond.methodLink RL 74 yX4_answer, Cond.instanceMethod yX4_answer, Cond.selects RX4 yX4_answer yX4_answer, Cond.code yX4_answer cX4_answer 3 (some .int), Cond.methodLink RX4 109 yX4_isFirst, Cond.instanceMethod yX4_isFirst, Cond.selects RX4 yX4_isFirst yX4_isFirst, Cond.code yX4_isFirst cX4_isFirst 2 (some .boolean), Cond.methodLink RX4 112 yX4_answerTo]
def wsL_law_r15 : List Cond := [Cond.instanceMethod yX4_answerTo, Cond.selects RX4 yX4_answerTo yX4_answerTo, Cond.code yX4_answerTo cX4_answerTo 9 (some .int), Cond.methodLink RX4 105 yX4_holds, Cond.instanceMethod yX4_holds, Cond.selects RX4 yX4_holds yX4_holds, Cond.code yX4_holds cX4_holds 4 (some .boolean), Cond.methodLink RL 75 yX3_twoStep, Cond.instanceMethod yX3_twoStep, Cond.selects RX3 yX3_twoStep yX3_twoStep, Cond.code yX3_twoStep cX3_twoStep 1 (some .int), Cond.methodLink RX3 142 yX3_findTwoStep, Cond.instanceMethod yX3_findTwoStep, Cond.selects RX3 yX3_findTwoStep yX3_findTwoStep, Cond.code yX3_findTwoStep cX3_findTwoStep 5 (some .int), Cond.methodLink RX3 148 yX3_costByOdds, Cond.instanceMethod yX3_costByOdds, Cond.selects RX3 yX3_costByOdds yX3_costByOdds, Cond.code yX3_costByOdds cX3_costByOdds 5 (some .int), Cond.fieldLink RX3 169 "FutureSets$Listed" "kept" "[Z", Cond.fieldLink RX3 173 "FutureSets$Listed" "odds" "[I", Cond.methodLink RX3 151 yX0_countedOdds, Cond.instanceMethod yX0_countedOdds, Cond.selects RX0 yX0_countedOdds yX0_countedOdds]
def wsL_law_r16 : List Cond := [Cond.code yX0_countedOdds cX0_countedOdds 3 (some .int), Cond.methodLink RX3 190 yX3_costOf, Cond.instanceMethod yX3_costOf, Cond.selects RX3 yX3_costOf yX3_costOf, Cond.code yX3_costOf cX3_costOf 3 (some .int), Cond.methodLink RL 78 yX4_twoStep, Cond.instanceMethod yX4_twoStep, Cond.selects RX4 yX4_twoStep yX4_twoStep, Cond.code yX4_twoStep cX4_twoStep 6 (some .int), Cond.methodLink RX4 115 yX4_total, Cond.instanceMethod yX4_total, Cond.selects RX4 yX4_total yX4_total, Cond.code yX4_total cX4_total 5 (some .int), Cond.methodLink RL 79 yX3_mean, Cond.instanceMethod yX3_mean, Cond.selects RX3 yX3_mean yX3_mean, Cond.code yX3_mean cX3_mean 4 (some .int), Cond.methodLink RX3 145 yX3_isPart, Cond.static yX3_isPart, Cond.code yX3_isPart cX3_isPart 1 (some .boolean), Cond.methodLink RX3 154 yX3_partOfFraction, Cond.static yX3_partOfFraction, Cond.code yX3_partOfFraction cX3_partOfFraction 5 (some .int), Cond.methodLink RX3 198 Lib.Math.abs.name]
def wsL_law_r17 : List Cond := [Cond.static Lib.Math.abs.name, Cond.initialized "java/lang/Math", Cond.code Lib.Math.abs.name Lib.Math.abs.code 1 (some .int), Cond.methodLink RX3 201 yX3_commonDivisor, Cond.static yX3_commonDivisor, Cond.code yX3_commonDivisor cX3_commonDivisor 6 (some .int), Cond.methodLink RL 82 yX4_mean, Cond.instanceMethod yX4_mean, Cond.selects RX4 yX4_mean yX4_mean, Cond.code yX4_mean cX4_mean 4 (some .int), Cond.methodLink RX4 118 yX4_allOdds, Cond.instanceMethod yX4_allOdds, Cond.selects RX4 yX4_allOdds yX4_allOdds, Cond.code yX4_allOdds cX4_allOdds 3 (some .int), Cond.methodLink RX4 121 yX4_lowest, Cond.static yX4_lowest, Cond.code yX4_lowest cX4_lowest 6 (some .int), Cond.methodLink RL 83 yX3_best, Cond.instanceMethod yX3_best, Cond.selects RX3 yX3_best yX3_best, Cond.code yX3_best cX3_best 2 (some .int), Cond.methodLink RX3 157 yX3_leastCost, Cond.instanceMethod yX3_leastCost, Cond.selects RX3 yX3_leastCost yX3_leastCost]
def wsL_law_r18 : List Cond := [Cond.code yX3_leastCost cX3_leastCost 5 (some .int), Cond.methodLink RL 86 yX4_best, Cond.instanceMethod yX4_best, Cond.selects RX4 yX4_best yX4_best, Cond.code yX4_best cX4_best 2 (some .int), Cond.methodLink RX4 124 yX4_bestOf, Cond.instanceMethod yX4_bestOf, Cond.selects RX4 yX4_bestOf yX4_bestOf, Cond.code yX4_bestOf cX4_bestOf 6 (some .int), Cond.methodLink RL 87 yX3_regret, Cond.instanceMethod yX3_regret, Cond.selects RX3 yX3_regret yX3_regret, Cond.code yX3_regret cX3_regret 2 (some .int), Cond.methodLink RX3 160 yX3_fillBests, Cond.instanceMethod yX3_fillBests, Cond.selects RX3 yX3_fillBests yX3_fillBests, Cond.code yX3_fillBests cX3_fillBests 2 none, Cond.methodLink RX3 163 yX3_greatestRegret, Cond.instanceMethod yX3_greatestRegret, Cond.selects RX3 yX3_greatestRegret yX3_greatestRegret, Cond.code yX3_greatestRegret cX3_greatestRegret 5 (some .int), Cond.methodLink RX3 193 Lib.Math.max.name, Cond.static Lib.Math.max.name, Cond.code Lib.Math.max.name Lib.Math.max.code 2 (some .int)]
def wsL_law_r19 : List Cond := [Cond.methodLink RL 90 yX4_regret, Cond.instanceMethod yX4_regret, Cond.selects RX4 yX4_regret yX4_regret, Cond.code yX4_regret cX4_regret 2 (some .int), Cond.methodLink RX4 127 yX4_findBests, Cond.instanceMethod yX4_findBests, Cond.selects RX4 yX4_findBests yX4_findBests, Cond.code yX4_findBests cX4_findBests 2 none, Cond.methodLink RX4 130 yX4_regretOf, Cond.instanceMethod yX4_regretOf, Cond.selects RX4 yX4_regretOf yX4_regretOf, Cond.code yX4_regretOf cX4_regretOf 5 (some .int), Cond.methodLink RL 91 yX3_calmest, Cond.instanceMethod yX3_calmest, Cond.selects RX3 yX3_calmest yX3_calmest, Cond.code yX3_calmest cX3_calmest 5 (some .int), Cond.methodLink RL 94 yX4_calmest, Cond.instanceMethod yX4_calmest, Cond.selects RX4 yX4_calmest yX4_calmest, Cond.code yX4_calmest cX4_calmest 6 (some .int), Cond.methodLink RL 95 yX3_waiting, Cond.instanceMethod yX3_waiting, Cond.selects RX3 yX3_waiting yX3_waiting, Cond.code yX3_waiting cX3_waiting 5 (some .int)]
def wsL_law_r20 : List Cond := [Cond.methodLink RL 98 yX4_waiting, Cond.instanceMethod yX4_waiting, Cond.selects RX4 yX4_waiting yX4_waiting, Cond.code yX4_waiting cX4_waiting 5 (some .int), Cond.methodLink RX4 133 yX4_twoStep, Cond.methodLink RL 99 yX3_chance, Cond.instanceMethod yX3_chance, Cond.selects RX3 yX3_chance yX3_chance, Cond.code yX3_chance cX3_chance 6 (some .int), Cond.methodLink RL 102 yX4_chance, Cond.instanceMethod yX4_chance, Cond.selects RX4 yX4_chance yX4_chance, Cond.code yX4_chance cX4_chance 5 (some .int)]
def wsL_law : List Cond := (wsL_law_r1 ++ (wsL_law_r2 ++ (wsL_law_r3 ++ (wsL_law_r4 ++ (wsL_law_r5 ++ (wsL_law_r6 ++ (wsL_law_r7 ++ (wsL_law_r8 ++ (wsL_law_r9 ++ (wsL_law_r10 ++ (wsL_law_r11 ++ (wsL_law_r12 ++ (wsL_law_r13 ++ (wsL_law_r14 ++ (wsL_law_r15 ++ (wsL_law_r16 ++ (wsL_law_r17 ++ (wsL_law_r18 ++ (wsL_law_r19 ++ wsL_law_r20))))))))))))))))))) ++ wsX30 ++ wsX40 ++ wsX10 ++ wsX20 ++ wsX00 ++ ([] : List Cond)
abbrev vwCl : List vw_C := [(RX0, TX0, 4), (RX1, TX1, 4), (RX2, TX2, 5), (RX3, TX3, 12), (RX4, TX4, 20)]
end
section
def wl (ad : Nat → Nat) (np : Nat) (h : Nat → va_E) : va_W := (List.range np).map (fun k => (ad k, h k))
theorem wl_get {ad : Nat → Nat} {np k : Nat} {h : Nat → va_E} (hk : k < np) : (wl ad np h)[k]? = some (ad k, h k) := by simp [wl, hk]
theorem wl_get' {ad : Nat → Nat} {np k : Nat} {h : Nat → va_E} {q : Nat × va_E} (hq : (wl ad np h)[k]? = some q) : k < np ∧ q = (ad k, h k) := by
  by_cases hk : k < np
  · rw [wl_get hk] at hq; exact ⟨hk, (Option.some.inj hq).symm⟩
  · simp [wl, hk] at hq
theorem wl_set {ad : Nat → Nat} {np k : Nat} {h : Nat → va_E} {v : va_E} (hk : k < np) : (wl ad np h).set k (ad k, v) = wl ad np (va_up h k v) := by
  apply List.ext_getElem?
  intro i
  by_cases hi : i = k
  · subst hi
    rw [List.getElem?_set_self (by simp [wl, hk]), wl_get hk]
    simp [va_up]
  · rw [List.getElem?_set_ne (Ne.symm hi)]
    by_cases h2 : i < np
    · rw [wl_get h2, wl_get h2]; simp [va_up, hi]
    · simp [wl, h2]
theorem wl_D {A : Nat → Prop} {ad : Nat → Nat} {np : Nat} {h h' : Nat → va_E} (hD : va_D A (wl ad np h)) : va_D A (wl ad np h') := by
  refine ⟨fun i j q r hi hj hqr => ?_, fun k q hk => ?_⟩
  · obtain ⟨h1, rfl⟩ := wl_get' hi
    obtain ⟨h2, rfl⟩ := wl_get' hj
    exact hD.1 i j (ad i, h i) (ad j, h j) (wl_get h1) (wl_get h2) hqr
  · obtain ⟨h1, rfl⟩ := wl_get' hk
    exact hD.2 k (ad k, h k) (wl_get h1)
theorem wl_P {D : va_G} {cl : List vw_C} {ad : Nat → Nat} {np : Nat} {h h' : Nat → va_E} {H : Heap} (hP : va_P D cl (wl ad np h) H) (e : ∀ k, k < np → h k = h' k) : va_P D cl (wl ad np h') H := by
  intro k q hk
  obtain ⟨h1, rfl⟩ := wl_get' hk
  rw [← e k h1]
  exact hP k _ (wl_get h1)
theorem wl_A {ad : Nat → Nat} {np sz q : Nat} {h h' : Nat → va_E} (hq : va_A (wl ad np h) sz q) : va_A (wl ad np h') sz q := by
  rcases hq with ⟨k, v, hk⟩ | hq
  · obtain ⟨h1, h2⟩ := wl_get' hk
    cases h2
    exact Or.inl ⟨k, h' k, wl_get h1⟩
  · exact Or.inr hq
/-- the length of the array at a place -/
def LN (k : Nat) : Nat := [0, 0, 0, 0, 11, 8, 12, 12, 12, 12, 12, 12, 40, 40, 40, 40, 8, 8, 8, 12, 12, 12, 12, 12, 12, 12, 12, 0, 12, 12, 12, 40, 40, 40, 40, 8, 8, 96, 12, 12, 8].getD k 12
/-- the places that are int arrays -/
def isI (k : Nat) : Bool := !(k == 0 || k == 1 || k == 2 || k == 3 || k == 17 || k == 18 || k == 27 || k == 36)
/-- the world: place 0 FutureSets, 1 Names, 2 Terms, 3 Listed, 4..8 its own rows, 9..11 of Names, 12..15 of Terms, 16..18 of Listed, 19..26 the inner rows of numbers; 27 the reference, 28..40 its rows -/
def HH (ad : Nat → Nat) (cI cZ cQ : ClassId) (x : Nat → Nat) (g : Nat → Nat → Int32) : Nat → va_E := fun k =>
  if k = 0 then .inr (3, [.ref (ad 1), .ref (ad 2), .ref (ad 3), .int (nI (x 0)), .int (nI (x 1)), .int (nI (x 2)), .int (nI (x 3)), .ref (ad 4), .ref (ad 5), .ref (ad 6), .ref (ad 7), .ref (ad 8)])
  else if k = 1 then .inr (1, [.int (nI (x 4)), .ref (ad 9), .ref (ad 10), .ref (ad 11)])
  else if k = 2 then .inr (2, [.int (nI (x 5)), .ref (ad 12), .ref (ad 13), .ref (ad 14), .ref (ad 15)])
  else if k = 3 then .inr (0, [.int (nI (x 6)), .ref (ad 16), .ref (ad 17), .ref (ad 18)])
  else if k = 17 then .inl (cZ, 8, .inl (g 17))
  else if k = 18 then .inl (cQ, 8, .inr (.inr (.inr (.inr (fun i => if i < 8 then some (ad (19 + i)) else none)))))
  else if k = 27 then .inr (4, [.int (nI (x 7)), .int (nI (x 8)), .int (nI (x 9)), .ref (ad 28), .ref (ad 29), .ref (ad 30), .int (nI (x 10)), .int (nI (x 11)), .int (nI (x 12)), .ref (ad 31), .ref (ad 32), .ref (ad 33), .ref (ad 34), .int (nI (x 13)), .ref (ad 35), .ref (ad 36), .ref (ad 37), .ref (ad 38), .ref (ad 39), .ref (ad 40)])
  else if k = 36 then .inl (cZ, 8, .inl (g 36))
  else .inl (cI, LN k, .inl (g k))
theorem HH_I {ad : Nat → Nat} {cI cZ cQ : ClassId} {x : Nat → Nat} {g : Nat → Nat → Int32} {k : Nat} (h : isI k = true) : HH ad cI cZ cQ x g k = .inl (cI, LN k, .inl (g k)) := by
  simp [isI] at h
  simp [HH, h]
/-- a cell of an int array is written -/
theorem HH_w {ad : Nat → Nat} {cI cZ cQ : ClassId} {x : Nat → Nat} {g : Nat → Nat → Int32} {k : Nat} (f : Nat → Int32) (h : isI k = true) : ∀ i : Nat, va_up (HH ad cI cZ cQ x g) k (.inl (cI, LN k, .inl f)) i = HH ad cI cZ cQ x (va_up g k f) i := by
  intro i
  by_cases hi : i = k
  · subst hi
    rw [HH_I h]
    simp [va_up]
  · have e : ∀ j, j ≠ k → va_up g k f j = g j := fun j hj => by simp [va_up, hj]
    simp [isI] at h
    simp only [va_up, if_neg hi]
    unfold HH
    rw [e 17 (by omega), e 36 (by omega), e i hi]
theorem HH_wz17 {ad : Nat → Nat} {cI cZ cQ : ClassId} {x : Nat → Nat} {g : Nat → Nat → Int32} (f : Nat → Int32) : ∀ i : Nat, va_up (HH ad cI cZ cQ x g) 17 (.inl (cZ, 8, .inl f)) i = HH ad cI cZ cQ x (va_up g 17 f) i := by
  intro i
  by_cases hi : i = 17
  · subst hi; simp [va_up, HH]
  · simp only [va_up, if_neg hi]
    unfold HH
    simp [hi, va_up]
theorem HH_wz36 {ad : Nat → Nat} {cI cZ cQ : ClassId} {x : Nat → Nat} {g : Nat → Nat → Int32} (f : Nat → Int32) : ∀ i : Nat, va_up (HH ad cI cZ cQ x g) 36 (.inl (cZ, 8, .inl f)) i = HH ad cI cZ cQ x (va_up g 36 f) i := by
  intro i
  by_cases hi : i = 36
  · subst hi; simp [va_up, HH]
  · simp only [va_up, if_neg hi]
    unfold HH
    simp [hi, va_up]
/-- the locals, by their numbers -/
def lz (ls : List (Option Value)) : List (Nat × Value) := (List.range ls.length).filterMap (fun k => (ls.getD k none).bind (fun v => if v.category = 1 then some (k, v) else none))
theorem lz_mem {ls : List (Option Value)} {q : Nat × Value} : q ∈ lz ls ↔ ls[q.1]? = some (some q.2) ∧ q.2.category = 1 := by
  obtain ⟨k, v⟩ := q
  unfold lz
  rw [List.mem_filterMap]
  constructor
  · rintro ⟨i, hi, h⟩
    rw [List.mem_range] at hi
    rw [List.getD_eq_getElem?_getD, List.getElem?_eq_getElem hi] at h
    cases hv : ls[i] with
    | none => simp [hv] at h
    | some w =>
      rw [hv] at h
      simp at h
      obtain ⟨h1, rfl, rfl⟩ := h
      exact ⟨by rw [List.getElem?_eq_getElem hi, hv], h1⟩
  · rintro ⟨h1, h2⟩
    have hi := (List.getElem?_eq_some_iff.mp h1).1
    refine ⟨k, List.mem_range.mpr hi, ?_⟩
    rw [List.getD_eq_getElem?_getD, h1]
    simp at h2
    simp [h2]
theorem lz_get {la : Array Slot} {nL k : Nat} {ls : List (Option Value)} {v : Value} (hv : lv_has la nL (lz ls)) (h : ls[k]? = some (some v)) (hc : v.category = 1) : la[k]? = some (.val v) := hv.2.2 (k, v) (lz_mem.mpr ⟨h, hc⟩)
theorem lz_set {la : Array Slot} {nL k : Nat} {ls : List (Option Value)} {v : Value} (h : lv_has la nL ((k, v) :: (lz ls).filter (fun q => !(q.1 == k) && !(q.1 + 1 == k && q.2.category == 2)))) : lv_has la nL (lz (ls.set k (some v))) := by
  refine ⟨h.1, h.2.1, fun q hq => ?_⟩
  obtain ⟨h1, h2⟩ := lz_mem.mp hq
  by_cases hk : q.1 = k
  · rw [hk] at h1
    have hl : k < (ls.set k (some v)).length := (List.getElem?_eq_some_iff.mp h1).1
    rw [List.length_set] at hl
    rw [List.getElem?_set_self hl] at h1
    have e : v = q.2 := Option.some.inj (Option.some.inj h1)
    have := h.2.2 (k, v) List.mem_cons_self
    rw [hk, ← e]
    exact this
  · rw [List.getElem?_set_ne (Ne.symm hk)] at h1
    refine h.2.2 q (List.mem_cons_of_mem _ (List.mem_filter.mpr ⟨lz_mem.mpr ⟨h1, h2⟩, ?_⟩))
    simp [hk, h2]
def tyW (cI cZ cQ : ClassId) : List (ClassId × FieldType) := [(cI, .int), (cZ, .boolean), (cQ, .array .int)]
/-- what a method stands on -/
def GC (p : Program) (R : Room) (s : State) (m : MethodId) (args : Array Value) (c : Code) (kc ks : Nat) (cc : ByteArray) (nL : Nat) (own : String) (Ts : List Cond) (D : va_G) (cI cZ cQ : ClassId) (ad : Nat → Nat) (np : Nat) (A : Nat → Prop) : Prop :=
  (p.tables.exec = Jvm.exec ∧ c.code = cc ∧ c.maxLocals = nL ∧ s.vm.findClass own = some m.cls ∧ (∀ w ∈ Ts, w.before args s = true)) ∧ va_K D vwCl (tyW cI cZ cQ) s ∧ va_D A (wl ad np (fun _ => .inr (0, []))) ∧ (∀ q, s.heap.size ≤ q → A q) ∧ (kc ≤ R.cells ∧ ks ≤ R.slots) ∧ va_Nw (.methodLinkNest RX2 32 yX3_slotOf "FutureSets") s
/-- the machine at pc, over the world of x and g, comes to Q -/
def J (p : Program) (l : Launch) (e : Env) (R : Room) (s : State) (m : MethodId) (args : Array Value) (below : List Frame) (meth : Method) (c : Code) (kc ks : Nat) (D : va_G) (cI cZ cQ : ClassId) (ad : Nat → Nat) (np : Nat) (A : Nat → Prop) (nL : Nat) (Q : State → Prop) (x : Nat → Nat) (g : Nat → Nat → Int32) (pc : Nat) (ls : List (Option Value)) (st : List Value) : Prop :=
  ∀ (H : Heap) (locs : List Loc) (la : Array Slot), va_P D vwCl (wl ad np (HH ad cI cZ cQ x g)) H → va_S A s.heap H locs → lv_has la nL (lz ls) → W p l e R s m args below meth c H locs kc ks Q (F0 m pc la st)
section JL
variable {p : Program} {l : Launch} {e : Env} {R : Room} {s : State} {m : MethodId} {args : Array Value} {below : List Frame} {meth : Method} {c : Code} {kc ks : Nat} {Q : State → Prop}
variable {cc : ByteArray} {nL : Nat} {own : String} {Ts : List Cond} {D : va_G} {cI cZ cQ : ClassId} {ad : Nat → Nat} {np : Nat} {A : Nat → Prop}
variable {x x' : Nat → Nat} {g g' : Nat → Nat → Int32} {pc tgt : Nat} {ls : List (Option Value)} {st : List Value}
theorem j_iconst (C : GC p R s m args c kc ks cc nL own Ts D cI cZ cQ ad np A) {n : Int} {v : Int32} (hd : decode cc pc = .ok (.iconst n, 1)) (hn : Int32.ofInt n = v) (K : J p l e R s m args below meth c kc ks D cI cZ cQ ad np A nL Q x g (pc + 1) (ls) (.int v :: st)) : J p l e R s m args below meth c kc ks D cI cZ cQ ad np A nL Q x g (pc) (ls) (st) := fun H locs la hP hS hv => lv_iconst C.1.1 C.1.2.1 hd hn (K H locs la hP hS hv)
theorem j_bipush (C : GC p R s m args c kc ks cc nL own Ts D cI cZ cQ ad np A) {n : Int} {v : Int32} (hd : decode cc pc = .ok (.bipush n, 2)) (hn : (Int8.ofInt n).toInt32 = v) (K : J p l e R s m args below meth c kc ks D cI cZ cQ ad np A nL Q x g (pc + 2) (ls) (.int v :: st)) : J p l e R s m args below meth c kc ks D cI cZ cQ ad np A nL Q x g (pc) (ls) (st) := fun H locs la hP hS hv => lv_bipush C.1.1 C.1.2.1 hd hn (K H locs la hP hS hv)
theorem j_ldc (C : GC p R s m args c kc ks cc nL own Ts D cI cZ cQ ad np A) {v : Int32} {index : Nat} (hd : decode cc pc = .ok (.ldc index, 2)) (hc : Cond.constant own index v ∈ Ts) (K : J p l e R s m args below meth c kc ks D cI cZ cQ ad np A nL Q x g (pc + 2) (ls) (.int v :: st)) : J p l e R s m args below meth c kc ks D cI cZ cQ ad np A nL Q x g (pc) (ls) (st) := fun H locs la hP hS hv => lv_ldc C.1.1 C.1.2.1 C.1.2.2.2.1 (C.1.2.2.2.2 _ hc) hd (K H locs la hP hS hv)
theorem j_iload_n (C : GC p R s m args c kc ks cc nL own Ts D cI cZ cQ ad np A) {k : Fin 4} {v : Int32} (hd : decode cc pc = .ok (.iload_n k, 1)) (hl : ls[(k : Nat)]? = some (some (.int v))) (K : J p l e R s m args below meth c kc ks D cI cZ cQ ad np A nL Q x g (pc + 1) (ls) (.int v :: st)) : J p l e R s m args below meth c kc ks D cI cZ cQ ad np A nL Q x g (pc) (ls) (st) := fun H locs la hP hS hv => lv_iload_n C.1.1 C.1.2.1 hd rfl (lz_get hv hl rfl) (K H locs la hP hS hv)
theorem j_iload (C : GC p R s m args c kc ks cc nL own Ts D cI cZ cQ ad np A) {k : Nat} {v : Int32} (hd : decode cc pc = .ok (.iload k, 2)) (hl : ls[k]? = some (some (.int v))) (K : J p l e R s m args below meth c kc ks D cI cZ cQ ad np A nL Q x g (pc + 2) (ls) (.int v :: st)) : J p l e R s m args below meth c kc ks D cI cZ cQ ad np A nL Q x g (pc) (ls) (st) := fun H locs la hP hS hv => lv_iload C.1.1 C.1.2.1 hd (lz_get hv hl rfl) (K H locs la hP hS hv)
theorem j_istore_n (C : GC p R s m args c kc ks cc nL own Ts D cI cZ cQ ad np A) {k : Fin 4} {v : Int32} (hd : decode cc pc = .ok (.istore_n k, 1)) (hk : (k : Nat) < nL) (K : J p l e R s m args below meth c kc ks D cI cZ cQ ad np A nL Q x g (pc + 1) (ls.set (k : Nat) (some (.int v))) (st)) : J p l e R s m args below meth c kc ks D cI cZ cQ ad np A nL Q x g (pc) (ls) (.int v :: st) := fun H locs la hP hS hv => lv_istore_n C.1.1 C.1.2.1 hd rfl hv hk rfl (fun la2 hv2 => K H locs la2 hP hS (lz_set hv2))
theorem j_istore (C : GC p R s m args c kc ks cc nL own Ts D cI cZ cQ ad np A) {k : Nat} {v : Int32} (hd : decode cc pc = .ok (.istore k, 2)) (hk : k < nL) (K : J p l e R s m args below meth c kc ks D cI cZ cQ ad np A nL Q x g (pc + 2) (ls.set k (some (.int v))) (st)) : J p l e R s m args below meth c kc ks D cI cZ cQ ad np A nL Q x g (pc) (ls) (.int v :: st) := fun H locs la hP hS hv => lv_istore C.1.1 C.1.2.1 hd hv hk rfl (fun la2 hv2 => K H locs la2 hP hS (lz_set hv2))
theorem j_aload_n (C : GC p R s m args c kc ks cc nL own Ts D cI cZ cQ ad np A) {k : Fin 4} {v : Nat} (hd : decode cc pc = .ok (.aload_n k, 1)) (hl : ls[(k : Nat)]? = some (some (.ref v))) (K : J p l e R s m args below meth c kc ks D cI cZ cQ ad np A nL Q x g (pc + 1) (ls) (.ref v :: st)) : J p l e R s m args below meth c kc ks D cI cZ cQ ad np A nL Q x g (pc) (ls) (st) := fun H locs la hP hS hv => lv_aload_n C.1.1 C.1.2.1 hd rfl (lz_get hv hl rfl) (K H locs la hP hS hv)
theorem j_aload (C : GC p R s m args c kc ks cc nL own Ts D cI cZ cQ ad np A) {k : Nat} {v : Nat} (hd : decode cc pc = .ok (.aload k, 2)) (hl : ls[k]? = some (some (.ref v))) (K : J p l e R s m args below meth c kc ks D cI cZ cQ ad np A nL Q x g (pc + 2) (ls) (.ref v :: st)) : J p l e R s m args below meth c kc ks D cI cZ cQ ad np A nL Q x g (pc) (ls) (st) := fun H locs la hP hS hv => lv_aload C.1.1 C.1.2.1 hd (lz_get hv hl rfl) (K H locs la hP hS hv)
theorem j_astore_n (C : GC p R s m args c kc ks cc nL own Ts D cI cZ cQ ad np A) {k : Fin 4} {v : Nat} (hd : decode cc pc = .ok (.astore_n k, 1)) (hk : (k : Nat) < nL) (K : J p l e R s m args below meth c kc ks D cI cZ cQ ad np A nL Q x g (pc + 1) (ls.set (k : Nat) (some (.ref v))) (st)) : J p l e R s m args below meth c kc ks D cI cZ cQ ad np A nL Q x g (pc) (ls) (.ref v :: st) := fun H locs la hP hS hv => lv_astore_n C.1.1 C.1.2.1 hd rfl hv hk rfl (fun la2 hv2 => K H locs la2 hP hS (lz_set hv2))
theorem j_astore (C : GC p R s m args c kc ks cc nL own Ts D cI cZ cQ ad np A) {k : Nat} {v : Nat} (hd : decode cc pc = .ok (.astore k, 2)) (hk : k < nL) (K : J p l e R s m args below meth c kc ks D cI cZ cQ ad np A nL Q x g (pc + 2) (ls.set k (some (.ref v))) (st)) : J p l e R s m args below meth c kc ks D cI cZ cQ ad np A nL Q x g (pc) (ls) (.ref v :: st) := fun H locs la hP hS hv => lv_astore C.1.1 C.1.2.1 hd hv hk rfl (fun la2 hv2 => K H locs la2 hP hS (lz_set hv2))
theorem j_iinc (C : GC p R s m args c kc ks cc nL own Ts D cI cZ cQ ad np A) {k : Nat} {n : Int} {v v' : Int32} (hd : decode cc pc = .ok (.iinc k n, 3)) (hl : ls[k]? = some (some (.int v))) (hn : v + Int32.ofInt n = v') (hk : k < nL) (K : J p l e R s m args below meth c kc ks D cI cZ cQ ad np A nL Q x g (pc + 3) (ls.set k (some (.int v'))) (st)) : J p l e R s m args below meth c kc ks D cI cZ cQ ad np A nL Q x g (pc) (ls) (st) := fun H locs la hP hS hv => by
  obtain ⟨i, hi⟩ := List.getElem?_of_mem ((lz_mem (q := (k, .int v))).mpr ⟨hl, rfl⟩)
  exact lv_iinc C.1.1 C.1.2.1 hd hv hi hn hk rfl (fun la2 hv2 => K H locs la2 hP hS (lz_set hv2))
theorem nI_ofInt (t n : Nat) : nI t + Int32.ofInt (n : Int) = nI (t + n) := by
  have : Int32.ofInt (n : Int) = nI n := by
    unfold nI; rfl
  rw [this, nI_add]
theorem j_iincN (C : GC p R s m args c kc ks cc nL own Ts D cI cZ cQ ad np A) {k t n : Nat} (hd : decode cc pc = .ok (.iinc k (n : Int), 3)) (hl : ls[k]? = some (some (.int (nI t)))) (hk : k < nL) (K : J p l e R s m args below meth c kc ks D cI cZ cQ ad np A nL Q x g (pc + 3) (ls.set k (some (.int (nI (t + n))))) (st)) : J p l e R s m args below meth c kc ks D cI cZ cQ ad np A nL Q x g (pc) (ls) (st) := j_iinc C hd hl (nI_ofInt t n) hk K
theorem j_iadd (C : GC p R s m args c kc ks cc nL own Ts D cI cZ cQ ad np A) {a b : Int32} (hd : decode cc pc = .ok (.iadd, 1)) (K : J p l e R s m args below meth c kc ks D cI cZ cQ ad np A nL Q x g (pc + 1) (ls) (.int (a + b) :: st)) : J p l e R s m args below meth c kc ks D cI cZ cQ ad np A nL Q x g (pc) (ls) (.int b :: .int a :: st) := fun H locs la hP hS hv => lv_iadd C.1.1 C.1.2.1 hd (K H locs la hP hS hv)
theorem j_isub (C : GC p R s m args c kc ks cc nL own Ts D cI cZ cQ ad np A) {a b : Int32} (hd : decode cc pc = .ok (.isub, 1)) (K : J p l e R s m args below meth c kc ks D cI cZ cQ ad np A nL Q x g (pc + 1) (ls) (.int (a - b) :: st)) : J p l e R s m args below meth c kc ks D cI cZ cQ ad np A nL Q x g (pc) (ls) (.int b :: .int a :: st) := fun H locs la hP hS hv => lv_isub C.1.1 C.1.2.1 hd (K H locs la hP hS hv)
theorem j_imul (C : GC p R s m args c kc ks cc nL own Ts D cI cZ cQ ad np A) {a b : Int32} (hd : decode cc pc = .ok (.imul, 1)) (K : J p l e R s m args below meth c kc ks D cI cZ cQ ad np A nL Q x g (pc + 1) (ls) (.int (a * b) :: st)) : J p l e R s m args below meth c kc ks D cI cZ cQ ad np A nL Q x g (pc) (ls) (.int b :: .int a :: st) := fun H locs la hP hS hv => lv_imul C.1.1 C.1.2.1 hd (K H locs la hP hS hv)
theorem j_iand (C : GC p R s m args c kc ks cc nL own Ts D cI cZ cQ ad np A) {a b : Int32} (hd : decode cc pc = .ok (.iand, 1)) (K : J p l e R s m args below meth c kc ks D cI cZ cQ ad np A nL Q x g (pc + 1) (ls) (.int (a &&& b) :: st)) : J p l e R s m args below meth c kc ks D cI cZ cQ ad np A nL Q x g (pc) (ls) (.int b :: .int a :: st) := fun H locs la hP hS hv => lv_iand C.1.1 C.1.2.1 hd (K H locs la hP hS hv)
theorem j_ior (C : GC p R s m args c kc ks cc nL own Ts D cI cZ cQ ad np A) {a b : Int32} (hd : decode cc pc = .ok (.ior, 1)) (K : J p l e R s m args below meth c kc ks D cI cZ cQ ad np A nL Q x g (pc + 1) (ls) (.int (a ||| b) :: st)) : J p l e R s m args below meth c kc ks D cI cZ cQ ad np A nL Q x g (pc) (ls) (.int b :: .int a :: st) := fun H locs la hP hS hv => lv_ior C.1.1 C.1.2.1 hd (K H locs la hP hS hv)
theorem j_ishl (C : GC p R s m args c kc ks cc nL own Ts D cI cZ cQ ad np A) {a b : Int32} (hd : decode cc pc = .ok (.ishl, 1)) (K : J p l e R s m args below meth c kc ks D cI cZ cQ ad np A nL Q x g (pc + 1) (ls) (.int (a <<< (b &&& 31)) :: st)) : J p l e R s m args below meth c kc ks D cI cZ cQ ad np A nL Q x g (pc) (ls) (.int b :: .int a :: st) := fun H locs la hP hS hv => lv_ishl C.1.1 C.1.2.1 hd (K H locs la hP hS hv)
theorem j_ishr (C : GC p R s m args c kc ks cc nL own Ts D cI cZ cQ ad np A) {a b : Int32} (hd : decode cc pc = .ok (.ishr, 1)) (K : J p l e R s m args below meth c kc ks D cI cZ cQ ad np A nL Q x g (pc + 1) (ls) (.int (a >>> (b &&& 31)) :: st)) : J p l e R s m args below meth c kc ks D cI cZ cQ ad np A nL Q x g (pc) (ls) (.int b :: .int a :: st) := fun H locs la hP hS hv => lv_ishr C.1.1 C.1.2.1 hd (K H locs la hP hS hv)
theorem j_idiv (C : GC p R s m args c kc ks cc nL own Ts D cI cZ cQ ad np A) {a b : Int32} (hd : decode cc pc = .ok (.idiv, 1)) (hb : ¬ b = 0) (K : J p l e R s m args below meth c kc ks D cI cZ cQ ad np A nL Q x g (pc + 1) (ls) (.int (a / b) :: st)) : J p l e R s m args below meth c kc ks D cI cZ cQ ad np A nL Q x g (pc) (ls) (.int b :: .int a :: st) := fun H locs la hP hS hv => lv_idiv C.1.1 C.1.2.1 hd hb (K H locs la hP hS hv)
theorem j_irem (C : GC p R s m args c kc ks cc nL own Ts D cI cZ cQ ad np A) {a b : Int32} (hd : decode cc pc = .ok (.irem, 1)) (hb : ¬ b = 0) (K : J p l e R s m args below meth c kc ks D cI cZ cQ ad np A nL Q x g (pc + 1) (ls) (.int (a - a / b * b) :: st)) : J p l e R s m args below meth c kc ks D cI cZ cQ ad np A nL Q x g (pc) (ls) (.int b :: .int a :: st) := fun H locs la hP hS hv => lv_irem C.1.1 C.1.2.1 hd hb (K H locs la hP hS hv)
theorem j_ineg (C : GC p R s m args c kc ks cc nL own Ts D cI cZ cQ ad np A) {a : Int32} (hd : decode cc pc = .ok (.ineg, 1)) (K : J p l e R s m args below meth c kc ks D cI cZ cQ ad np A nL Q x g (pc + 1) (ls) (.int (-a) :: st)) : J p l e R s m args below meth c kc ks D cI cZ cQ ad np A nL Q x g (pc) (ls) (.int a :: st) := fun H locs la hP hS hv => lv_ineg C.1.1 C.1.2.1 hd (K H locs la hP hS hv)
theorem j_dup (C : GC p R s m args c kc ks cc nL own Ts D cI cZ cQ ad np A) {a : Value} (hd : decode cc pc = .ok (.dup, 1)) (ha : a.category = 1) (K : J p l e R s m args below meth c kc ks D cI cZ cQ ad np A nL Q x g (pc + 1) (ls) (a :: a :: st)) : J p l e R s m args below meth c kc ks D cI cZ cQ ad np A nL Q x g (pc) (ls) (a :: st) := fun H locs la hP hS hv => lv_dup C.1.1 C.1.2.1 hd ha (K H locs la hP hS hv)
theorem j_pop (C : GC p R s m args c kc ks cc nL own Ts D cI cZ cQ ad np A) {a : Value} (hd : decode cc pc = .ok (.pop, 1)) (ha : a.category = 1) (K : J p l e R s m args below meth c kc ks D cI cZ cQ ad np A nL Q x g (pc + 1) (ls) (st)) : J p l e R s m args below meth c kc ks D cI cZ cQ ad np A nL Q x g (pc) (ls) (a :: st) := fun H locs la hP hS hv => lv_pop C.1.1 C.1.2.1 hd ha (K H locs la hP hS hv)
theorem j_dup2 (C : GC p R s m args c kc ks cc nL own Ts D cI cZ cQ ad np A) {a b : Value} (hd : decode cc pc = .ok (.dup2, 1)) (ha : a.category = 1) (hb : b.category = 1) (K : J p l e R s m args below meth c kc ks D cI cZ cQ ad np A nL Q x g (pc + 1) (ls) (a :: b :: a :: b :: st)) : J p l e R s m args below meth c kc ks D cI cZ cQ ad np A nL Q x g (pc) (ls) (a :: b :: st) := fun H locs la hP hS hv => lv_dup2_11 C.1.1 C.1.2.1 hd ha hb (K H locs la hP hS hv)
theorem j_if_eq (C : GC p R s m args c kc ks cc nL own Ts D cI cZ cQ ad np A) {a : Int32} {off : Int} (tgt : Nat) (hd : decode cc pc = .ok (.ifCond .eq off, 3)) (ht : (pc : Int) + off = (tgt : Int)) (K : a = 0 → J p l e R s m args below meth c kc ks D cI cZ cQ ad np A nL Q x g (tgt) (ls) (st)) (K2 : ¬ a = 0 → J p l e R s m args below meth c kc ks D cI cZ cQ ad np A nL Q x g (pc + 3) (ls) (st)) : J p l e R s m args below meth c kc ks D cI cZ cQ ad np A nL Q x g (pc) (ls) (.int a :: st) := fun H locs la hP hS hv => lv_if_eq C.1.1 C.1.2.1 hd ht (fun h => K h H locs la hP hS hv) (fun h => K2 h H locs la hP hS hv)
theorem j_icmp_eq (C : GC p R s m args c kc ks cc nL own Ts D cI cZ cQ ad np A) {a b : Int32} {off : Int} (tgt : Nat) (hd : decode cc pc = .ok (.if_icmp .eq off, 3)) (ht : (pc : Int) + off = (tgt : Int)) (K : a = b → J p l e R s m args below meth c kc ks D cI cZ cQ ad np A nL Q x g (tgt) (ls) (st)) (K2 : ¬ a = b → J p l e R s m args below meth c kc ks D cI cZ cQ ad np A nL Q x g (pc + 3) (ls) (st)) : J p l e R s m args below meth c kc ks D cI cZ cQ ad np A nL Q x g (pc) (ls) (.int b :: .int a :: st) := fun H locs la hP hS hv => lv_icmp_eq C.1.1 C.1.2.1 hd ht (fun h => K h H locs la hP hS hv) (fun h => K2 h H locs la hP hS hv)
theorem j_if_ne (C : GC p R s m args c kc ks cc nL own Ts D cI cZ cQ ad np A) {a : Int32} {off : Int} (tgt : Nat) (hd : decode cc pc = .ok (.ifCond .ne off, 3)) (ht : (pc : Int) + off = (tgt : Int)) (K : ¬ a = 0 → J p l e R s m args below meth c kc ks D cI cZ cQ ad np A nL Q x g (tgt) (ls) (st)) (K2 : a = 0 → J p l e R s m args below meth c kc ks D cI cZ cQ ad np A nL Q x g (pc + 3) (ls) (st)) : J p l e R s m args below meth c kc ks D cI cZ cQ ad np A nL Q x g (pc) (ls) (.int a :: st) := fun H locs la hP hS hv => lv_if_ne C.1.1 C.1.2.1 hd ht (fun h => K h H locs la hP hS hv) (fun h => K2 h H locs la hP hS hv)
theorem j_icmp_ne (C : GC p R s m args c kc ks cc nL own Ts D cI cZ cQ ad np A) {a b : Int32} {off : Int} (tgt : Nat) (hd : decode cc pc = .ok (.if_icmp .ne off, 3)) (ht : (pc : Int) + off = (tgt : Int)) (K : ¬ a = b → J p l e R s m args below meth c kc ks D cI cZ cQ ad np A nL Q x g (tgt) (ls) (st)) (K2 : a = b → J p l e R s m args below meth c kc ks D cI cZ cQ ad np A nL Q x g (pc + 3) (ls) (st)) : J p l e R s m args below meth c kc ks D cI cZ cQ ad np A nL Q x g (pc) (ls) (.int b :: .int a :: st) := fun H locs la hP hS hv => lv_icmp_ne C.1.1 C.1.2.1 hd ht (fun h => K h H locs la hP hS hv) (fun h => K2 h H locs la hP hS hv)
theorem j_if_lt (C : GC p R s m args c kc ks cc nL own Ts D cI cZ cQ ad np A) {a : Int32} {off : Int} (tgt : Nat) (hd : decode cc pc = .ok (.ifCond .lt off, 3)) (ht : (pc : Int) + off = (tgt : Int)) (K : a < 0 → J p l e R s m args below meth c kc ks D cI cZ cQ ad np A nL Q x g (tgt) (ls) (st)) (K2 : ¬ a < 0 → J p l e R s m args below meth c kc ks D cI cZ cQ ad np A nL Q x g (pc + 3) (ls) (st)) : J p l e R s m args below meth c kc ks D cI cZ cQ ad np A nL Q x g (pc) (ls) (.int a :: st) := fun H locs la hP hS hv => lv_if_lt C.1.1 C.1.2.1 hd ht (fun h => K h H locs la hP hS hv) (fun h => K2 h H locs la hP hS hv)
theorem j_icmp_lt (C : GC p R s m args c kc ks cc nL own Ts D cI cZ cQ ad np A) {a b : Int32} {off : Int} (tgt : Nat) (hd : decode cc pc = .ok (.if_icmp .lt off, 3)) (ht : (pc : Int) + off = (tgt : Int)) (K : a < b → J p l e R s m args below meth c kc ks D cI cZ cQ ad np A nL Q x g (tgt) (ls) (st)) (K2 : ¬ a < b → J p l e R s m args below meth c kc ks D cI cZ cQ ad np A nL Q x g (pc + 3) (ls) (st)) : J p l e R s m args below meth c kc ks D cI cZ cQ ad np A nL Q x g (pc) (ls) (.int b :: .int a :: st) := fun H locs la hP hS hv => lv_icmp_lt C.1.1 C.1.2.1 hd ht (fun h => K h H locs la hP hS hv) (fun h => K2 h H locs la hP hS hv)
theorem j_if_ge (C : GC p R s m args c kc ks cc nL own Ts D cI cZ cQ ad np A) {a : Int32} {off : Int} (tgt : Nat) (hd : decode cc pc = .ok (.ifCond .ge off, 3)) (ht : (pc : Int) + off = (tgt : Int)) (K : 0 ≤ a → J p l e R s m args below meth c kc ks D cI cZ cQ ad np A nL Q x g (tgt) (ls) (st)) (K2 : ¬ 0 ≤ a → J p l e R s m args below meth c kc ks D cI cZ cQ ad np A nL Q x g (pc + 3) (ls) (st)) : J p l e R s m args below meth c kc ks D cI cZ cQ ad np A nL Q x g (pc) (ls) (.int a :: st) := fun H locs la hP hS hv => lv_if_ge C.1.1 C.1.2.1 hd ht (fun h => K h H locs la hP hS hv) (fun h => K2 h H locs la hP hS hv)
theorem j_icmp_ge (C : GC p R s m args c kc ks cc nL own Ts D cI cZ cQ ad np A) {a b : Int32} {off : Int} (tgt : Nat) (hd : decode cc pc = .ok (.if_icmp .ge off, 3)) (ht : (pc : Int) + off = (tgt : Int)) (K : b ≤ a → J p l e R s m args below meth c kc ks D cI cZ cQ ad np A nL Q x g (tgt) (ls) (st)) (K2 : ¬ b ≤ a → J p l e R s m args below meth c kc ks D cI cZ cQ ad np A nL Q x g (pc + 3) (ls) (st)) : J p l e R s m args below meth c kc ks D cI cZ cQ ad np A nL Q x g (pc) (ls) (.int b :: .int a :: st) := fun H locs la hP hS hv => lv_icmp_ge C.1.1 C.1.2.1 hd ht (fun h => K h H locs la hP hS hv) (fun h => K2 h H locs la hP hS hv)
theorem j_if_gt (C : GC p R s m args c kc ks cc nL own Ts D cI cZ cQ ad np A) {a : Int32} {off : Int} (tgt : Nat) (hd : decode cc pc = .ok (.ifCond .gt off, 3)) (ht : (pc : Int) + off = (tgt : Int)) (K : 0 < a → J p l e R s m args below meth c kc ks D cI cZ cQ ad np A nL Q x g (tgt) (ls) (st)) (K2 : ¬ 0 < a → J p l e R s m args below meth c kc ks D cI cZ cQ ad np A nL Q x g (pc + 3) (ls) (st)) : J p l e R s m args below meth c kc ks D cI cZ cQ ad np A nL Q x g (pc) (ls) (.int a :: st) := fun H locs la hP hS hv => lv_if_gt C.1.1 C.1.2.1 hd ht (fun h => K h H locs la hP hS hv) (fun h => K2 h H locs la hP hS hv)
theorem j_icmp_gt (C : GC p R s m args c kc ks cc nL own Ts D cI cZ cQ ad np A) {a b : Int32} {off : Int} (tgt : Nat) (hd : decode cc pc = .ok (.if_icmp .gt off, 3)) (ht : (pc : Int) + off = (tgt : Int)) (K : b < a → J p l e R s m args below meth c kc ks D cI cZ cQ ad np A nL Q x g (tgt) (ls) (st)) (K2 : ¬ b < a → J p l e R s m args below meth c kc ks D cI cZ cQ ad np A nL Q x g (pc + 3) (ls) (st)) : J p l e R s m args below meth c kc ks D cI cZ cQ ad np A nL Q x g (pc) (ls) (.int b :: .int a :: st) := fun H locs la hP hS hv => lv_icmp_gt C.1.1 C.1.2.1 hd ht (fun h => K h H locs la hP hS hv) (fun h => K2 h H locs la hP hS hv)
theorem j_if_le (C : GC p R s m args c kc ks cc nL own Ts D cI cZ cQ ad np A) {a : Int32} {off : Int} (tgt : Nat) (hd : decode cc pc = .ok (.ifCond .le off, 3)) (ht : (pc : Int) + off = (tgt : Int)) (K : a ≤ 0 → J p l e R s m args below meth c kc ks D cI cZ cQ ad np A nL Q x g (tgt) (ls) (st)) (K2 : ¬ a ≤ 0 → J p l e R s m args below meth c kc ks D cI cZ cQ ad np A nL Q x g (pc + 3) (ls) (st)) : J p l e R s m args below meth c kc ks D cI cZ cQ ad np A nL Q x g (pc) (ls) (.int a :: st) := fun H locs la hP hS hv => lv_if_le C.1.1 C.1.2.1 hd ht (fun h => K h H locs la hP hS hv) (fun h => K2 h H locs la hP hS hv)
theorem j_icmp_le (C : GC p R s m args c kc ks cc nL own Ts D cI cZ cQ ad np A) {a b : Int32} {off : Int} (tgt : Nat) (hd : decode cc pc = .ok (.if_icmp .le off, 3)) (ht : (pc : Int) + off = (tgt : Int)) (K : a ≤ b → J p l e R s m args below meth c kc ks D cI cZ cQ ad np A nL Q x g (tgt) (ls) (st)) (K2 : ¬ a ≤ b → J p l e R s m args below meth c kc ks D cI cZ cQ ad np A nL Q x g (pc + 3) (ls) (st)) : J p l e R s m args below meth c kc ks D cI cZ cQ ad np A nL Q x g (pc) (ls) (.int b :: .int a :: st) := fun H locs la hP hS hv => lv_icmp_le C.1.1 C.1.2.1 hd ht (fun h => K h H locs la hP hS hv) (fun h => K2 h H locs la hP hS hv)
theorem j_goto (C : GC p R s m args c kc ks cc nL own Ts D cI cZ cQ ad np A) {off : Int} (tgt : Nat) (hd : decode cc pc = .ok (.goto off, 3)) (ht : (pc : Int) + off = (tgt : Int)) (K : J p l e R s m args below meth c kc ks D cI cZ cQ ad np A nL Q x g (tgt) (ls) (st)) : J p l e R s m args below meth c kc ks D cI cZ cQ ad np A nL Q x g (pc) (ls) (st) := fun H locs la hP hS hv => lv_goto C.1.1 C.1.2.1 hd ht (K H locs la hP hS hv)
theorem j_tableIn (C : GC p R s m args c kc ks cc nL own Ts D cI cZ cQ ad np A) {dflt lo hi : Int} {offs : Array Int} {len : Nat} {a : Int32} {off : Int} (tgt : Nat) (hd : decode cc pc = .ok (.tableswitch dflt lo hi offs, len)) (h1 : ¬ a.toInt < lo) (h2 : ¬ hi < a.toInt) (ho : offs[(a.toInt - lo).toNat]? = some off) (ht : (pc : Int) + off = (tgt : Int)) (K : J p l e R s m args below meth c kc ks D cI cZ cQ ad np A nL Q x g (tgt) (ls) (st)) : J p l e R s m args below meth c kc ks D cI cZ cQ ad np A nL Q x g (pc) (ls) (.int a :: st) := fun H locs la hP hS hv => lv_tableIn C.1.1 C.1.2.1 hd h1 h2 ho ht (K H locs la hP hS hv)
theorem j_tableOut (C : GC p R s m args c kc ks cc nL own Ts D cI cZ cQ ad np A) {dflt lo hi : Int} {offs : Array Int} {len : Nat} {a : Int32} (tgt : Nat) (hd : decode cc pc = .ok (.tableswitch dflt lo hi offs, len)) (h1 : a.toInt < lo ∨ hi < a.toInt) (ht : (pc : Int) + dflt = (tgt : Int)) (K : J p l e R s m args below meth c kc ks D cI cZ cQ ad np A nL Q x g (tgt) (ls) (st)) : J p l e R s m args below meth c kc ks D cI cZ cQ ad np A nL Q x g (pc) (ls) (.int a :: st) := fun H locs la hP hS hv => lv_tableOut C.1.1 C.1.2.1 hd h1 ht (K H locs la hP hS hv)
theorem LN_lt (k : Nat) : LN k < 2 ^ 31 := by
  unfold LN
  by_cases h : k < 41
  · have : ∀ j, j < 41 → [0, 0, 0, 0, 11, 8, 12, 12, 12, 12, 12, 12, 40, 40, 40, 40, 8, 8, 8, 12, 12, 12, 12, 12, 12, 12, 12, 0, 12, 12, 12, 40, 40, 40, 40, 8, 8, 96, 12, 12, 8].getD j 12 < 2 ^ 31 := by decide
    exact this k h
  · rw [List.getD_eq_getElem?_getD, List.getElem?_eq_none (by simp; omega)]
    decide
theorem j_iald (C : GC p R s m args c kc ks cc nL own Ts D cI cZ cQ ad np A) {k : Nat} {i : Int32} (t : Nat) (hd : decode cc pc = .ok (.iaload, 1)) (hk : k < np) (hI : isI k = true) (hi : i = nI t) (ht : t < LN k) (K : J p l e R s m args below meth c kc ks D cI cZ cQ ad np A nL Q x g (pc + 1) (ls) (.int (g k t) :: st)) : J p l e R s m args below meth c kc ks D cI cZ cQ ad np A nL Q x g (pc) (ls) (.int i :: .ref (ad k) :: st) := fun H locs la hP hS hv => by
  subst hi
  have hb : LN k < 2 ^ 31 := LN_lt k
  have := wl_get (ad := ad) (h := HH ad cI cZ cQ x g) hk
  rw [HH_I hI] at this
  refine va_iald C.1.1 C.1.2.1 C.2.1 hP k 0 this rfl (vp_in_nI ht hb) hd ?_
  rw [nI_clamp (by omega)]
  exact K H locs la hP hS hv
theorem j_zald (C : GC p R s m args c kc ks cc nL own Ts D cI cZ cQ ad np A) {k : Nat} {i : Int32} (t : Nat) (hd : decode cc pc = .ok (.baload, 1)) (hk : k < np) (hI : k = 17 ∨ k = 36) (hi : i = nI t) (ht : t < 8) (K : J p l e R s m args below meth c kc ks D cI cZ cQ ad np A nL Q x g (pc + 1) (ls) (.int (g k t) :: st)) : J p l e R s m args below meth c kc ks D cI cZ cQ ad np A nL Q x g (pc) (ls) (.int i :: .ref (ad k) :: st) := fun H locs la hP hS hv => by
  subst hi
  have := wl_get (ad := ad) (h := HH ad cI cZ cQ x g) hk
  rw [show HH ad cI cZ cQ x g k = .inl (cZ, 8, .inl (g k)) by rcases hI with rfl | rfl <;> rfl] at this
  refine va_zald C.1.1 C.1.2.1 C.2.1 hP k 1 this rfl (vp_in_nI ht (by decide)) hd ?_
  rw [nI_clamp (by omega)]
  exact K H locs la hP hS hv
theorem j_iast (C : GC p R s m args c kc ks cc nL own Ts D cI cZ cQ ad np A) {k : Nat} {i v : Int32} (t : Nat) (hd : decode cc pc = .ok (.iastore, 1)) (hk : k < np) (hI : isI k = true) (hi : i = nI t) (ht : t < LN k) (K : J p l e R s m args below meth c kc ks D cI cZ cQ ad np A nL Q x (va_up g k (upd (g k) t v)) (pc + 1) (ls) (st)) : J p l e R s m args below meth c kc ks D cI cZ cQ ad np A nL Q x g (pc) (ls) (.int v :: .int i :: .ref (ad k) :: st) := fun H locs la hP hS hv => by
  subst hi
  have hb : LN k < 2 ^ 31 := LN_lt k
  have hg := wl_get (ad := ad) (h := HH ad cI cZ cQ x g) hk
  rw [HH_I hI] at hg
  refine va_iast C.1.1 C.1.2.1 C.2.1 hP (wl_D C.2.2.1) hS k 0 hg rfl (vp_in_nI ht hb) hd (fun H1 locs1 hP1 hD1 hS1 => ?_)
  rw [nI_clamp (by omega), wl_set hk] at hP1
  exact K H1 locs1 la (wl_P hP1 (fun i _ => HH_w _ hI i)) hS1 hv
theorem j_zast (C : GC p R s m args c kc ks cc nL own Ts D cI cZ cQ ad np A) {k : Nat} {i v : Int32} (t : Nat) (hd : decode cc pc = .ok (.bastore, 1)) (hk : k < np) (hI : k = 17 ∨ k = 36) (hi : i = nI t) (ht : t < 8) (hn : vp_nar .boolean v = v) (K : J p l e R s m args below meth c kc ks D cI cZ cQ ad np A nL Q x (va_up g k (upd (g k) t v)) (pc + 1) (ls) (st)) : J p l e R s m args below meth c kc ks D cI cZ cQ ad np A nL Q x g (pc) (ls) (.int v :: .int i :: .ref (ad k) :: st) := fun H locs la hP hS hv => by
  subst hi
  have hg := wl_get (ad := ad) (h := HH ad cI cZ cQ x g) hk
  rw [show HH ad cI cZ cQ x g k = .inl (cZ, 8, .inl (g k)) by rcases hI with rfl | rfl <;> rfl] at hg
  refine va_zast C.1.1 C.1.2.1 C.2.1 hP (wl_D C.2.2.1) hS k 1 hg rfl (vp_in_nI ht (by decide)) hd (fun H1 locs1 hP1 hD1 hS1 => ?_)
  rw [nI_clamp (by omega), wl_set hk, hn] at hP1
  exact K H1 locs1 la (wl_P hP1 (fun i _ => by rcases hI with rfl | rfl; exact HH_wz17 _ i; exact HH_wz36 _ i)) hS1 hv
theorem j_aald (C : GC p R s m args c kc ks cc nL own Ts D cI cZ cQ ad np A) {i : Int32} (t : Nat) (hd : decode cc pc = .ok (.aaload, 1)) (hk : 18 < np) (hi : i = nI t) (ht : t < 8) (K : J p l e R s m args below meth c kc ks D cI cZ cQ ad np A nL Q x g (pc + 1) (ls) (.ref (ad (19 + t)) :: st)) : J p l e R s m args below meth c kc ks D cI cZ cQ ad np A nL Q x g (pc) (ls) (.int i :: .ref (ad 18) :: st) := fun H locs la hP hS hv => by
  subst hi
  have hg := wl_get (ad := ad) (h := HH ad cI cZ cQ x g) hk
  have hc := hP 18 _ hg
  have hK := (C.2.1.2 2 _ rfl).1 8 (fun i => va_rf (if i < 8 then some (ad (19 + i)) else none))
  refine W.aald (v := .ref (ad (19 + t))) (ty := .array .int) C.1.1 C.1.2.1 hc hK rfl (fun q => by cases q) ?_ ?_ rfl rfl hd (K H locs la hP hS hv)
  · show ¬ (nI t < 0 ∨ (arrV _ _ _).slots.size ≤ _)
    rw [arrV_size]
    exact vp_in_nI (N := 8) ht (by decide)
  · show (arrV _ _ _).slots[_]? = _
    rw [nI_clamp (by omega), arrV_read _ _ ht]
    show some (va_rf (if t < 8 then some (ad (19 + t)) else none)) = _
    rw [if_pos ht]
    rfl
theorem j_alen (C : GC p R s m args c kc ks cc nL own Ts D cI cZ cQ ad np A) {k : Nat} {v : Int32} (hd : decode cc pc = .ok (.arraylength, 1)) (hk : k < np) (hI : isI k = true) (hn : nI (LN k) = v) (K : J p l e R s m args below meth c kc ks D cI cZ cQ ad np A nL Q x g (pc + 1) (ls) (.int v :: st)) : J p l e R s m args below meth c kc ks D cI cZ cQ ad np A nL Q x g (pc) (ls) (.ref (ad k) :: st) := fun H locs la hP hS hv => by
  have hg := wl_get (ad := ad) (h := HH ad cI cZ cQ x g) hk
  rw [HH_I hI] at hg
  exact va_alen C.1.1 C.1.2.1 C.2.1 hP k 0 hg rfl hn hd (K H locs la hP hS hv)
theorem jg_X3_names (C : GC p R s m args c kc ks cc nL own Ts D cI cZ cQ ad np A) {index : Nat} (hd : decode cc pc = .ok (.getfield index, 3)) (hin : ∀ w ∈ wsX30, w ∈ Ts) (hl : Cond.fieldLink own index "FutureSets" "names" "LFutureSets$Names;" ∈ Ts) (hk : 0 < np) (K : J p l e R s m args below meth c kc ks D cI cZ cQ ad np A nL Q x g (pc + 3) (ls) (.ref (ad 1) :: st)) : J p l e R s m args below meth c kc ks D cI cZ cQ ad np A nL Q x g (pc) (ls) (.ref (ad 0) :: st) := fun H locs la hP hS hv =>
  va_get (ref := "FutureSets") (T := TX3) (N := 12) (ci := 3) (k := 0) C.1.1 C.1.2.1 C.1.2.2.2.2 hin C.1.2.2.2.1 C.2.1 hP 0 (wl_get hk) rfl (hk := by decide) (C.1.2.2.2.2 _ hl) (fun _ h => h) rfl hd (K H locs la hP hS hv)
theorem jg_X3_terms (C : GC p R s m args c kc ks cc nL own Ts D cI cZ cQ ad np A) {index : Nat} (hd : decode cc pc = .ok (.getfield index, 3)) (hin : ∀ w ∈ wsX30, w ∈ Ts) (hl : Cond.fieldLink own index "FutureSets" "terms" "LFutureSets$Terms;" ∈ Ts) (hk : 0 < np) (K : J p l e R s m args below meth c kc ks D cI cZ cQ ad np A nL Q x g (pc + 3) (ls) (.ref (ad 2) :: st)) : J p l e R s m args below meth c kc ks D cI cZ cQ ad np A nL Q x g (pc) (ls) (.ref (ad 0) :: st) := fun H locs la hP hS hv =>
  va_get (ref := "FutureSets") (T := TX3) (N := 12) (ci := 3) (k := 1) C.1.1 C.1.2.1 C.1.2.2.2.2 hin C.1.2.2.2.1 C.2.1 hP 0 (wl_get hk) rfl (hk := by decide) (C.1.2.2.2.2 _ hl) (fun _ h => h) rfl hd (K H locs la hP hS hv)
theorem jg_X3_listed (C : GC p R s m args c kc ks cc nL own Ts D cI cZ cQ ad np A) {index : Nat} (hd : decode cc pc = .ok (.getfield index, 3)) (hin : ∀ w ∈ wsX30, w ∈ Ts) (hl : Cond.fieldLink own index "FutureSets" "listed" "LFutureSets$Listed;" ∈ Ts) (hk : 0 < np) (K : J p l e R s m args below meth c kc ks D cI cZ cQ ad np A nL Q x g (pc + 3) (ls) (.ref (ad 3) :: st)) : J p l e R s m args below meth c kc ks D cI cZ cQ ad np A nL Q x g (pc) (ls) (.ref (ad 0) :: st) := fun H locs la hP hS hv =>
  va_get (ref := "FutureSets") (T := TX3) (N := 12) (ci := 3) (k := 2) C.1.1 C.1.2.1 C.1.2.2.2.2 hin C.1.2.2.2.1 C.2.1 hP 0 (wl_get hk) rfl (hk := by decide) (C.1.2.2.2.2 _ hl) (fun _ h => h) rfl hd (K H locs la hP hS hv)
theorem jg_X3_rowCount (C : GC p R s m args c kc ks cc nL own Ts D cI cZ cQ ad np A) {index : Nat} (hd : decode cc pc = .ok (.getfield index, 3)) (hin : ∀ w ∈ wsX30, w ∈ Ts) (hl : Cond.fieldLink own index "FutureSets" "rowCount" "I" ∈ Ts) (hk : 0 < np) (K : J p l e R s m args below meth c kc ks D cI cZ cQ ad np A nL Q x g (pc + 3) (ls) (.int (nI (x 0)) :: st)) : J p l e R s m args below meth c kc ks D cI cZ cQ ad np A nL Q x g (pc) (ls) (.ref (ad 0) :: st) := fun H locs la hP hS hv =>
  va_get (ref := "FutureSets") (T := TX3) (N := 12) (ci := 3) (k := 3) C.1.1 C.1.2.1 C.1.2.2.2.2 hin C.1.2.2.2.1 C.2.1 hP 0 (wl_get hk) rfl (hk := by decide) (C.1.2.2.2.2 _ hl) (fun _ h => h) rfl hd (K H locs la hP hS hv)
theorem jp_X3_rowCount (C : GC p R s m args c kc ks cc nL own Ts D cI cZ cQ ad np A) {index : Nat} {v : Int32} (n : Nat) (hd : decode cc pc = .ok (.putfield index, 3)) (hin : ∀ w ∈ wsX30, w ∈ Ts) (hl : Cond.fieldLink own index "FutureSets" "rowCount" "I" ∈ Ts) (hk : 0 < np) (hv : v = nI n) (K : J p l e R s m args below meth c kc ks D cI cZ cQ ad np A nL Q (va_up x 0 n) g (pc + 3) (ls) (st)) : J p l e R s m args below meth c kc ks D cI cZ cQ ad np A nL Q x g (pc) (ls) (.int v :: .ref (ad 0) :: st) := fun H locs la hP hS hl2 => by
  subst hv
  refine va_put (ref := "FutureSets") (T := TX3) (N := 12) (ci := 3) (k := 3) (ty := .int) C.1.1 C.1.2.1 C.1.2.2.2.2 hin tyX3 tyX3_ok nmX3 C.1.2.2.2.1 C.2.1 hP (wl_D C.2.2.1) hS 0 (wl_get hk) rfl (hk := by decide) (C.1.2.2.2.2 _ hl) (fun _ h => h) rfl rfl rfl rfl (Nat.le_of_ble_eq_true rfl) hd (fun H1 locs1 hP1 hD1 hS1 => ?_)
  rw [wl_set hk] at hP1
  refine K H1 locs1 la (wl_P hP1 (fun i _ => ?_)) hS1 hl2
  by_cases hi : i = 0
  · subst hi; rfl
  · simp only [va_up, if_neg hi]
    unfold HH
    simp [hi, va_up]
theorem jg_X3_firstCount (C : GC p R s m args c kc ks cc nL own Ts D cI cZ cQ ad np A) {index : Nat} (hd : decode cc pc = .ok (.getfield index, 3)) (hin : ∀ w ∈ wsX30, w ∈ Ts) (hl : Cond.fieldLink own index "FutureSets" "firstCount" "I" ∈ Ts) (hk : 0 < np) (K : J p l e R s m args below meth c kc ks D cI cZ cQ ad np A nL Q x g (pc + 3) (ls) (.int (nI (x 1)) :: st)) : J p l e R s m args below meth c kc ks D cI cZ cQ ad np A nL Q x g (pc) (ls) (.ref (ad 0) :: st) := fun H locs la hP hS hv =>
  va_get (ref := "FutureSets") (T := TX3) (N := 12) (ci := 3) (k := 4) C.1.1 C.1.2.1 C.1.2.2.2.2 hin C.1.2.2.2.1 C.2.1 hP 0 (wl_get hk) rfl (hk := by decide) (C.1.2.2.2.2 _ hl) (fun _ h => h) rfl hd (K H locs la hP hS hv)
theorem jp_X3_firstCount (C : GC p R s m args c kc ks cc nL own Ts D cI cZ cQ ad np A) {index : Nat} {v : Int32} (n : Nat) (hd : decode cc pc = .ok (.putfield index, 3)) (hin : ∀ w ∈ wsX30, w ∈ Ts) (hl : Cond.fieldLink own index "FutureSets" "firstCount" "I" ∈ Ts) (hk : 0 < np) (hv : v = nI n) (K : J p l e R s m args below meth c kc ks D cI cZ cQ ad np A nL Q (va_up x 1 n) g (pc + 3) (ls) (st)) : J p l e R s m args below meth c kc ks D cI cZ cQ ad np A nL Q x g (pc) (ls) (.int v :: .ref (ad 0) :: st) := fun H locs la hP hS hl2 => by
  subst hv
  refine va_put (ref := "FutureSets") (T := TX3) (N := 12) (ci := 3) (k := 4) (ty := .int) C.1.1 C.1.2.1 C.1.2.2.2.2 hin tyX3 tyX3_ok nmX3 C.1.2.2.2.1 C.2.1 hP (wl_D C.2.2.1) hS 0 (wl_get hk) rfl (hk := by decide) (C.1.2.2.2.2 _ hl) (fun _ h => h) rfl rfl rfl rfl (Nat.le_of_ble_eq_true rfl) hd (fun H1 locs1 hP1 hD1 hS1 => ?_)
  rw [wl_set hk] at hP1
  refine K H1 locs1 la (wl_P hP1 (fun i _ => ?_)) hS1 hl2
  by_cases hi : i = 0
  · subst hi; rfl
  · simp only [va_up, if_neg hi]
    unfold HH
    simp [hi, va_up]
theorem jg_X3_secondCount (C : GC p R s m args c kc ks cc nL own Ts D cI cZ cQ ad np A) {index : Nat} (hd : decode cc pc = .ok (.getfield index, 3)) (hin : ∀ w ∈ wsX30, w ∈ Ts) (hl : Cond.fieldLink own index "FutureSets" "secondCount" "I" ∈ Ts) (hk : 0 < np) (K : J p l e R s m args below meth c kc ks D cI cZ cQ ad np A nL Q x g (pc + 3) (ls) (.int (nI (x 2)) :: st)) : J p l e R s m args below meth c kc ks D cI cZ cQ ad np A nL Q x g (pc) (ls) (.ref (ad 0) :: st) := fun H locs la hP hS hv =>
  va_get (ref := "FutureSets") (T := TX3) (N := 12) (ci := 3) (k := 5) C.1.1 C.1.2.1 C.1.2.2.2.2 hin C.1.2.2.2.1 C.2.1 hP 0 (wl_get hk) rfl (hk := by decide) (C.1.2.2.2.2 _ hl) (fun _ h => h) rfl hd (K H locs la hP hS hv)
theorem jp_X3_secondCount (C : GC p R s m args c kc ks cc nL own Ts D cI cZ cQ ad np A) {index : Nat} {v : Int32} (n : Nat) (hd : decode cc pc = .ok (.putfield index, 3)) (hin : ∀ w ∈ wsX30, w ∈ Ts) (hl : Cond.fieldLink own index "FutureSets" "secondCount" "I" ∈ Ts) (hk : 0 < np) (hv : v = nI n) (K : J p l e R s m args below meth c kc ks D cI cZ cQ ad np A nL Q (va_up x 2 n) g (pc + 3) (ls) (st)) : J p l e R s m args below meth c kc ks D cI cZ cQ ad np A nL Q x g (pc) (ls) (.int v :: .ref (ad 0) :: st) := fun H locs la hP hS hl2 => by
  subst hv
  refine va_put (ref := "FutureSets") (T := TX3) (N := 12) (ci := 3) (k := 5) (ty := .int) C.1.1 C.1.2.1 C.1.2.2.2.2 hin tyX3 tyX3_ok nmX3 C.1.2.2.2.1 C.2.1 hP (wl_D C.2.2.1) hS 0 (wl_get hk) rfl (hk := by decide) (C.1.2.2.2.2 _ hl) (fun _ h => h) rfl rfl rfl rfl (Nat.le_of_ble_eq_true rfl) hd (fun H1 locs1 hP1 hD1 hS1 => ?_)
  rw [wl_set hk] at hP1
  refine K H1 locs1 la (wl_P hP1 (fun i _ => ?_)) hS1 hl2
  by_cases hi : i = 0
  · subst hi; rfl
  · simp only [va_up, if_neg hi]
    unfold HH
    simp [hi, va_up]
theorem jg_X3_budgetNow (C : GC p R s m args c kc ks cc nL own Ts D cI cZ cQ ad np A) {index : Nat} (hd : decode cc pc = .ok (.getfield index, 3)) (hin : ∀ w ∈ wsX30, w ∈ Ts) (hl : Cond.fieldLink own index "FutureSets" "budgetNow" "I" ∈ Ts) (hk : 0 < np) (K : J p l e R s m args below meth c kc ks D cI cZ cQ ad np A nL Q x g (pc + 3) (ls) (.int (nI (x 3)) :: st)) : J p l e R s m args below meth c kc ks D cI cZ cQ ad np A nL Q x g (pc) (ls) (.ref (ad 0) :: st) := fun H locs la hP hS hv =>
  va_get (ref := "FutureSets") (T := TX3) (N := 12) (ci := 3) (k := 6) C.1.1 C.1.2.1 C.1.2.2.2.2 hin C.1.2.2.2.1 C.2.1 hP 0 (wl_get hk) rfl (hk := by decide) (C.1.2.2.2.2 _ hl) (fun _ h => h) rfl hd (K H locs la hP hS hv)
theorem jp_X3_budgetNow (C : GC p R s m args c kc ks cc nL own Ts D cI cZ cQ ad np A) {index : Nat} {v : Int32} (n : Nat) (hd : decode cc pc = .ok (.putfield index, 3)) (hin : ∀ w ∈ wsX30, w ∈ Ts) (hl : Cond.fieldLink own index "FutureSets" "budgetNow" "I" ∈ Ts) (hk : 0 < np) (hv : v = nI n) (K : J p l e R s m args below meth c kc ks D cI cZ cQ ad np A nL Q (va_up x 3 n) g (pc + 3) (ls) (st)) : J p l e R s m args below meth c kc ks D cI cZ cQ ad np A nL Q x g (pc) (ls) (.int v :: .ref (ad 0) :: st) := fun H locs la hP hS hl2 => by
  subst hv
  refine va_put (ref := "FutureSets") (T := TX3) (N := 12) (ci := 3) (k := 6) (ty := .int) C.1.1 C.1.2.1 C.1.2.2.2.2 hin tyX3 tyX3_ok nmX3 C.1.2.2.2.1 C.2.1 hP (wl_D C.2.2.1) hS 0 (wl_get hk) rfl (hk := by decide) (C.1.2.2.2.2 _ hl) (fun _ h => h) rfl rfl rfl rfl (Nat.le_of_ble_eq_true rfl) hd (fun H1 locs1 hP1 hD1 hS1 => ?_)
  rw [wl_set hk] at hP1
  refine K H1 locs1 la (wl_P hP1 (fun i _ => ?_)) hS1 hl2
  by_cases hi : i = 0
  · subst hi; rfl
  · simp only [va_up, if_neg hi]
    unfold HH
    simp [hi, va_up]
theorem jg_X3_sums (C : GC p R s m args c kc ks cc nL own Ts D cI cZ cQ ad np A) {index : Nat} (hd : decode cc pc = .ok (.getfield index, 3)) (hin : ∀ w ∈ wsX30, w ∈ Ts) (hl : Cond.fieldLink own index "FutureSets" "sums" "[I" ∈ Ts) (hk : 0 < np) (K : J p l e R s m args below meth c kc ks D cI cZ cQ ad np A nL Q x g (pc + 3) (ls) (.ref (ad 4) :: st)) : J p l e R s m args below meth c kc ks D cI cZ cQ ad np A nL Q x g (pc) (ls) (.ref (ad 0) :: st) := fun H locs la hP hS hv =>
  va_get (ref := "FutureSets") (T := TX3) (N := 12) (ci := 3) (k := 7) C.1.1 C.1.2.1 C.1.2.2.2.2 hin C.1.2.2.2.1 C.2.1 hP 0 (wl_get hk) rfl (hk := by decide) (C.1.2.2.2.2 _ hl) (fun _ h => h) rfl hd (K H locs la hP hS hv)
theorem jg_X3_bests (C : GC p R s m args c kc ks cc nL own Ts D cI cZ cQ ad np A) {index : Nat} (hd : decode cc pc = .ok (.getfield index, 3)) (hin : ∀ w ∈ wsX30, w ∈ Ts) (hl : Cond.fieldLink own index "FutureSets" "bests" "[I" ∈ Ts) (hk : 0 < np) (K : J p l e R s m args below meth c kc ks D cI cZ cQ ad np A nL Q x g (pc + 3) (ls) (.ref (ad 5) :: st)) : J p l e R s m args below meth c kc ks D cI cZ cQ ad np A nL Q x g (pc) (ls) (.ref (ad 0) :: st) := fun H locs la hP hS hv =>
  va_get (ref := "FutureSets") (T := TX3) (N := 12) (ci := 3) (k := 8) C.1.1 C.1.2.1 C.1.2.2.2.2 hin C.1.2.2.2.1 C.2.1 hP 0 (wl_get hk) rfl (hk := by decide) (C.1.2.2.2.2 _ hl) (fun _ h => h) rfl hd (K H locs la hP hS hv)
theorem jg_X3_weights (C : GC p R s m args c kc ks cc nL own Ts D cI cZ cQ ad np A) {index : Nat} (hd : decode cc pc = .ok (.getfield index, 3)) (hin : ∀ w ∈ wsX30, w ∈ Ts) (hl : Cond.fieldLink own index "FutureSets" "weights" "[I" ∈ Ts) (hk : 0 < np) (K : J p l e R s m args below meth c kc ks D cI cZ cQ ad np A nL Q x g (pc + 3) (ls) (.ref (ad 6) :: st)) : J p l e R s m args below meth c kc ks D cI cZ cQ ad np A nL Q x g (pc) (ls) (.ref (ad 0) :: st) := fun H locs la hP hS hv =>
  va_get (ref := "FutureSets") (T := TX3) (N := 12) (ci := 3) (k := 9) C.1.1 C.1.2.1 C.1.2.2.2.2 hin C.1.2.2.2.1 C.2.1 hP 0 (wl_get hk) rfl (hk := by decide) (C.1.2.2.2.2 _ hl) (fun _ h => h) rfl hd (K H locs la hP hS hv)
theorem jg_X3_gains (C : GC p R s m args c kc ks cc nL own Ts D cI cZ cQ ad np A) {index : Nat} (hd : decode cc pc = .ok (.getfield index, 3)) (hin : ∀ w ∈ wsX30, w ∈ Ts) (hl : Cond.fieldLink own index "FutureSets" "gains" "[I" ∈ Ts) (hk : 0 < np) (K : J p l e R s m args below meth c kc ks D cI cZ cQ ad np A nL Q x g (pc + 3) (ls) (.ref (ad 7) :: st)) : J p l e R s m args below meth c kc ks D cI cZ cQ ad np A nL Q x g (pc) (ls) (.ref (ad 0) :: st) := fun H locs la hP hS hv =>
  va_get (ref := "FutureSets") (T := TX3) (N := 12) (ci := 3) (k := 10) C.1.1 C.1.2.1 C.1.2.2.2.2 hin C.1.2.2.2.1 C.2.1 hP 0 (wl_get hk) rfl (hk := by decide) (C.1.2.2.2.2 _ hl) (fun _ h => h) rfl hd (K H locs la hP hS hv)
theorem jg_X3_worstNumbers (C : GC p R s m args c kc ks cc nL own Ts D cI cZ cQ ad np A) {index : Nat} (hd : decode cc pc = .ok (.getfield index, 3)) (hin : ∀ w ∈ wsX30, w ∈ Ts) (hl : Cond.fieldLink own index "FutureSets" "worstNumbers" "[I" ∈ Ts) (hk : 0 < np) (K : J p l e R s m args below meth c kc ks D cI cZ cQ ad np A nL Q x g (pc + 3) (ls) (.ref (ad 8) :: st)) : J p l e R s m args below meth c kc ks D cI cZ cQ ad np A nL Q x g (pc) (ls) (.ref (ad 0) :: st) := fun H locs la hP hS hv =>
  va_get (ref := "FutureSets") (T := TX3) (N := 12) (ci := 3) (k := 11) C.1.1 C.1.2.1 C.1.2.2.2.2 hin C.1.2.2.2.1 C.2.1 hP 0 (wl_get hk) rfl (hk := by decide) (C.1.2.2.2.2 _ hl) (fun _ h => h) rfl hd (K H locs la hP hS hv)
theorem jg_X1_count (C : GC p R s m args c kc ks cc nL own Ts D cI cZ cQ ad np A) {index : Nat} (hd : decode cc pc = .ok (.getfield index, 3)) (hin : ∀ w ∈ wsX10, w ∈ Ts) (hl : Cond.fieldLink own index "FutureSets$Names" "count" "I" ∈ Ts) (hk : 1 < np) (K : J p l e R s m args below meth c kc ks D cI cZ cQ ad np A nL Q x g (pc + 3) (ls) (.int (nI (x 4)) :: st)) : J p l e R s m args below meth c kc ks D cI cZ cQ ad np A nL Q x g (pc) (ls) (.ref (ad 1) :: st) := fun H locs la hP hS hv =>
  va_get (ref := "FutureSets$Names") (T := TX1) (N := 4) (ci := 1) (k := 0) C.1.1 C.1.2.1 C.1.2.2.2.2 hin C.1.2.2.2.1 C.2.1 hP 1 (wl_get hk) rfl (hk := by decide) (C.1.2.2.2.2 _ hl) (fun _ h => h) rfl hd (K H locs la hP hS hv)
theorem jp_X1_count (C : GC p R s m args c kc ks cc nL own Ts D cI cZ cQ ad np A) {index : Nat} {v : Int32} (n : Nat) (hd : decode cc pc = .ok (.putfield index, 3)) (hin : ∀ w ∈ wsX10, w ∈ Ts) (hl : Cond.fieldLink own index "FutureSets$Names" "count" "I" ∈ Ts) (hk : 1 < np) (hv : v = nI n) (K : J p l e R s m args below meth c kc ks D cI cZ cQ ad np A nL Q (va_up x 4 n) g (pc + 3) (ls) (st)) : J p l e R s m args below meth c kc ks D cI cZ cQ ad np A nL Q x g (pc) (ls) (.int v :: .ref (ad 1) :: st) := fun H locs la hP hS hl2 => by
  subst hv
  refine va_put (ref := "FutureSets$Names") (T := TX1) (N := 4) (ci := 1) (k := 0) (ty := .int) C.1.1 C.1.2.1 C.1.2.2.2.2 hin tyX1 tyX1_ok nmX1 C.1.2.2.2.1 C.2.1 hP (wl_D C.2.2.1) hS 1 (wl_get hk) rfl (hk := by decide) (C.1.2.2.2.2 _ hl) (fun _ h => h) rfl rfl rfl rfl (Nat.le_of_ble_eq_true rfl) hd (fun H1 locs1 hP1 hD1 hS1 => ?_)
  rw [wl_set hk] at hP1
  refine K H1 locs1 la (wl_P hP1 (fun i _ => ?_)) hS1 hl2
  by_cases hi : i = 1
  · subst hi; rfl
  · simp only [va_up, if_neg hi]
    unfold HH
    simp [hi, va_up]
theorem jg_X1_least (C : GC p R s m args c kc ks cc nL own Ts D cI cZ cQ ad np A) {index : Nat} (hd : decode cc pc = .ok (.getfield index, 3)) (hin : ∀ w ∈ wsX10, w ∈ Ts) (hl : Cond.fieldLink own index "FutureSets$Names" "least" "[I" ∈ Ts) (hk : 1 < np) (K : J p l e R s m args below meth c kc ks D cI cZ cQ ad np A nL Q x g (pc + 3) (ls) (.ref (ad 9) :: st)) : J p l e R s m args below meth c kc ks D cI cZ cQ ad np A nL Q x g (pc) (ls) (.ref (ad 1) :: st) := fun H locs la hP hS hv =>
  va_get (ref := "FutureSets$Names") (T := TX1) (N := 4) (ci := 1) (k := 1) C.1.1 C.1.2.1 C.1.2.2.2.2 hin C.1.2.2.2.1 C.2.1 hP 1 (wl_get hk) rfl (hk := by decide) (C.1.2.2.2.2 _ hl) (fun _ h => h) rfl hd (K H locs la hP hS hv)
theorem jg_X1_usual (C : GC p R s m args c kc ks cc nL own Ts D cI cZ cQ ad np A) {index : Nat} (hd : decode cc pc = .ok (.getfield index, 3)) (hin : ∀ w ∈ wsX10, w ∈ Ts) (hl : Cond.fieldLink own index "FutureSets$Names" "usual" "[I" ∈ Ts) (hk : 1 < np) (K : J p l e R s m args below meth c kc ks D cI cZ cQ ad np A nL Q x g (pc + 3) (ls) (.ref (ad 10) :: st)) : J p l e R s m args below meth c kc ks D cI cZ cQ ad np A nL Q x g (pc) (ls) (.ref (ad 1) :: st) := fun H locs la hP hS hv =>
  va_get (ref := "FutureSets$Names") (T := TX1) (N := 4) (ci := 1) (k := 2) C.1.1 C.1.2.1 C.1.2.2.2.2 hin C.1.2.2.2.1 C.2.1 hP 1 (wl_get hk) rfl (hk := by decide) (C.1.2.2.2.2 _ hl) (fun _ h => h) rfl hd (K H locs la hP hS hv)
theorem jg_X1_greatest (C : GC p R s m args c kc ks cc nL own Ts D cI cZ cQ ad np A) {index : Nat} (hd : decode cc pc = .ok (.getfield index, 3)) (hin : ∀ w ∈ wsX10, w ∈ Ts) (hl : Cond.fieldLink own index "FutureSets$Names" "greatest" "[I" ∈ Ts) (hk : 1 < np) (K : J p l e R s m args below meth c kc ks D cI cZ cQ ad np A nL Q x g (pc + 3) (ls) (.ref (ad 11) :: st)) : J p l e R s m args below meth c kc ks D cI cZ cQ ad np A nL Q x g (pc) (ls) (.ref (ad 1) :: st) := fun H locs la hP hS hv =>
  va_get (ref := "FutureSets$Names") (T := TX1) (N := 4) (ci := 1) (k := 3) C.1.1 C.1.2.1 C.1.2.2.2.2 hin C.1.2.2.2.1 C.2.1 hP 1 (wl_get hk) rfl (hk := by decide) (C.1.2.2.2.2 _ hl) (fun _ h => h) rfl hd (K H locs la hP hS hv)
theorem jg_X2_count (C : GC p R s m args c kc ks cc nL own Ts D cI cZ cQ ad np A) {index : Nat} (hd : decode cc pc = .ok (.getfield index, 3)) (hin : ∀ w ∈ wsX20, w ∈ Ts) (hl : Cond.fieldLink own index "FutureSets$Terms" "count" "I" ∈ Ts) (hk : 2 < np) (K : J p l e R s m args below meth c kc ks D cI cZ cQ ad np A nL Q x g (pc + 3) (ls) (.int (nI (x 5)) :: st)) : J p l e R s m args below meth c kc ks D cI cZ cQ ad np A nL Q x g (pc) (ls) (.ref (ad 2) :: st) := fun H locs la hP hS hv =>
  va_get (ref := "FutureSets$Terms") (T := TX2) (N := 5) (ci := 2) (k := 0) C.1.1 C.1.2.1 C.1.2.2.2.2 hin C.1.2.2.2.1 C.2.1 hP 2 (wl_get hk) rfl (hk := by decide) (C.1.2.2.2.2 _ hl) (fun _ h => h) rfl hd (K H locs la hP hS hv)
theorem jp_X2_count (C : GC p R s m args c kc ks cc nL own Ts D cI cZ cQ ad np A) {index : Nat} {v : Int32} (n : Nat) (hd : decode cc pc = .ok (.putfield index, 3)) (hin : ∀ w ∈ wsX20, w ∈ Ts) (hl : Cond.fieldLink own index "FutureSets$Terms" "count" "I" ∈ Ts) (hk : 2 < np) (hv : v = nI n) (K : J p l e R s m args below meth c kc ks D cI cZ cQ ad np A nL Q (va_up x 5 n) g (pc + 3) (ls) (st)) : J p l e R s m args below meth c kc ks D cI cZ cQ ad np A nL Q x g (pc) (ls) (.int v :: .ref (ad 2) :: st) := fun H locs la hP hS hl2 => by
  subst hv
  refine va_put (ref := "FutureSets$Terms") (T := TX2) (N := 5) (ci := 2) (k := 0) (ty := .int) C.1.1 C.1.2.1 C.1.2.2.2.2 hin tyX2 tyX2_ok nmX2 C.1.2.2.2.1 C.2.1 hP (wl_D C.2.2.1) hS 2 (wl_get hk) rfl (hk := by decide) (C.1.2.2.2.2 _ hl) (fun _ h => h) rfl rfl rfl rfl (Nat.le_of_ble_eq_true rfl) hd (fun H1 locs1 hP1 hD1 hS1 => ?_)
  rw [wl_set hk] at hP1
  refine K H1 locs1 la (wl_P hP1 (fun i _ => ?_)) hS1 hl2
  by_cases hi : i = 2
  · subst hi; rfl
  · simp only [va_up, if_neg hi]
    unfold HH
    simp [hi, va_up]
theorem jg_X2_rowOf (C : GC p R s m args c kc ks cc nL own Ts D cI cZ cQ ad np A) {index : Nat} (hd : decode cc pc = .ok (.getfield index, 3)) (hin : ∀ w ∈ wsX20, w ∈ Ts) (hl : Cond.fieldLink own index "FutureSets$Terms" "rowOf" "[I" ∈ Ts) (hk : 2 < np) (K : J p l e R s m args below meth c kc ks D cI cZ cQ ad np A nL Q x g (pc + 3) (ls) (.ref (ad 12) :: st)) : J p l e R s m args below meth c kc ks D cI cZ cQ ad np A nL Q x g (pc) (ls) (.ref (ad 2) :: st) := fun H locs la hP hS hv =>
  va_get (ref := "FutureSets$Terms") (T := TX2) (N := 5) (ci := 2) (k := 1) C.1.1 C.1.2.1 C.1.2.2.2.2 hin C.1.2.2.2.1 C.2.1 hP 2 (wl_get hk) rfl (hk := by decide) (C.1.2.2.2.2 _ hl) (fun _ h => h) rfl hd (K H locs la hP hS hv)
theorem jg_X2_choiceOf (C : GC p R s m args c kc ks cc nL own Ts D cI cZ cQ ad np A) {index : Nat} (hd : decode cc pc = .ok (.getfield index, 3)) (hin : ∀ w ∈ wsX20, w ∈ Ts) (hl : Cond.fieldLink own index "FutureSets$Terms" "choiceOf" "[I" ∈ Ts) (hk : 2 < np) (K : J p l e R s m args below meth c kc ks D cI cZ cQ ad np A nL Q x g (pc + 3) (ls) (.ref (ad 13) :: st)) : J p l e R s m args below meth c kc ks D cI cZ cQ ad np A nL Q x g (pc) (ls) (.ref (ad 2) :: st) := fun H locs la hP hS hv =>
  va_get (ref := "FutureSets$Terms") (T := TX2) (N := 5) (ci := 2) (k := 2) C.1.1 C.1.2.1 C.1.2.2.2.2 hin C.1.2.2.2.1 C.2.1 hP 2 (wl_get hk) rfl (hk := by decide) (C.1.2.2.2.2 _ hl) (fun _ h => h) rfl hd (K H locs la hP hS hv)
theorem jg_X2_nameOf (C : GC p R s m args c kc ks cc nL own Ts D cI cZ cQ ad np A) {index : Nat} (hd : decode cc pc = .ok (.getfield index, 3)) (hin : ∀ w ∈ wsX20, w ∈ Ts) (hl : Cond.fieldLink own index "FutureSets$Terms" "nameOf" "[I" ∈ Ts) (hk : 2 < np) (K : J p l e R s m args below meth c kc ks D cI cZ cQ ad np A nL Q x g (pc + 3) (ls) (.ref (ad 14) :: st)) : J p l e R s m args below meth c kc ks D cI cZ cQ ad np A nL Q x g (pc) (ls) (.ref (ad 2) :: st) := fun H locs la hP hS hv =>
  va_get (ref := "FutureSets$Terms") (T := TX2) (N := 5) (ci := 2) (k := 3) C.1.1 C.1.2.1 C.1.2.2.2.2 hin C.1.2.2.2.1 C.2.1 hP 2 (wl_get hk) rfl (hk := by decide) (C.1.2.2.2.2 _ hl) (fun _ h => h) rfl hd (K H locs la hP hS hv)
theorem jg_X2_factorOf (C : GC p R s m args c kc ks cc nL own Ts D cI cZ cQ ad np A) {index : Nat} (hd : decode cc pc = .ok (.getfield index, 3)) (hin : ∀ w ∈ wsX20, w ∈ Ts) (hl : Cond.fieldLink own index "FutureSets$Terms" "factorOf" "[I" ∈ Ts) (hk : 2 < np) (K : J p l e R s m args below meth c kc ks D cI cZ cQ ad np A nL Q x g (pc + 3) (ls) (.ref (ad 15) :: st)) : J p l e R s m args below meth c kc ks D cI cZ cQ ad np A nL Q x g (pc) (ls) (.ref (ad 2) :: st) := fun H locs la hP hS hv =>
  va_get (ref := "FutureSets$Terms") (T := TX2) (N := 5) (ci := 2) (k := 4) C.1.1 C.1.2.1 C.1.2.2.2.2 hin C.1.2.2.2.1 C.2.1 hP 2 (wl_get hk) rfl (hk := by decide) (C.1.2.2.2.2 _ hl) (fun _ h => h) rfl hd (K H locs la hP hS hv)
theorem jg_X0_count (C : GC p R s m args c kc ks cc nL own Ts D cI cZ cQ ad np A) {index : Nat} (hd : decode cc pc = .ok (.getfield index, 3)) (hin : ∀ w ∈ wsX00, w ∈ Ts) (hl : Cond.fieldLink own index "FutureSets$Listed" "count" "I" ∈ Ts) (hk : 3 < np) (K : J p l e R s m args below meth c kc ks D cI cZ cQ ad np A nL Q x g (pc + 3) (ls) (.int (nI (x 6)) :: st)) : J p l e R s m args below meth c kc ks D cI cZ cQ ad np A nL Q x g (pc) (ls) (.ref (ad 3) :: st) := fun H locs la hP hS hv =>
  va_get (ref := "FutureSets$Listed") (T := TX0) (N := 4) (ci := 0) (k := 0) C.1.1 C.1.2.1 C.1.2.2.2.2 hin C.1.2.2.2.1 C.2.1 hP 3 (wl_get hk) rfl (hk := by decide) (C.1.2.2.2.2 _ hl) (fun _ h => h) rfl hd (K H locs la hP hS hv)
theorem jp_X0_count (C : GC p R s m args c kc ks cc nL own Ts D cI cZ cQ ad np A) {index : Nat} {v : Int32} (n : Nat) (hd : decode cc pc = .ok (.putfield index, 3)) (hin : ∀ w ∈ wsX00, w ∈ Ts) (hl : Cond.fieldLink own index "FutureSets$Listed" "count" "I" ∈ Ts) (hk : 3 < np) (hv : v = nI n) (K : J p l e R s m args below meth c kc ks D cI cZ cQ ad np A nL Q (va_up x 6 n) g (pc + 3) (ls) (st)) : J p l e R s m args below meth c kc ks D cI cZ cQ ad np A nL Q x g (pc) (ls) (.int v :: .ref (ad 3) :: st) := fun H locs la hP hS hl2 => by
  subst hv
  refine va_put (ref := "FutureSets$Listed") (T := TX0) (N := 4) (ci := 0) (k := 0) (ty := .int) C.1.1 C.1.2.1 C.1.2.2.2.2 hin tyX0 tyX0_ok nmX0 C.1.2.2.2.1 C.2.1 hP (wl_D C.2.2.1) hS 3 (wl_get hk) rfl (hk := by decide) (C.1.2.2.2.2 _ hl) (fun _ h => h) rfl rfl rfl rfl (Nat.le_of_ble_eq_true rfl) hd (fun H1 locs1 hP1 hD1 hS1 => ?_)
  rw [wl_set hk] at hP1
  refine K H1 locs1 la (wl_P hP1 (fun i _ => ?_)) hS1 hl2
  by_cases hi : i = 3
  · subst hi; rfl
  · simp only [va_up, if_neg hi]
    unfold HH
    simp [hi, va_up]
theorem jg_X0_odds (C : GC p R s m args c kc ks cc nL own Ts D cI cZ cQ ad np A) {index : Nat} (hd : decode cc pc = .ok (.getfield index, 3)) (hin : ∀ w ∈ wsX00, w ∈ Ts) (hl : Cond.fieldLink own index "FutureSets$Listed" "odds" "[I" ∈ Ts) (hk : 3 < np) (K : J p l e R s m args below meth c kc ks D cI cZ cQ ad np A nL Q x g (pc + 3) (ls) (.ref (ad 16) :: st)) : J p l e R s m args below meth c kc ks D cI cZ cQ ad np A nL Q x g (pc) (ls) (.ref (ad 3) :: st) := fun H locs la hP hS hv =>
  va_get (ref := "FutureSets$Listed") (T := TX0) (N := 4) (ci := 0) (k := 1) C.1.1 C.1.2.1 C.1.2.2.2.2 hin C.1.2.2.2.1 C.2.1 hP 3 (wl_get hk) rfl (hk := by decide) (C.1.2.2.2.2 _ hl) (fun _ h => h) rfl hd (K H locs la hP hS hv)
theorem jg_X0_kept (C : GC p R s m args c kc ks cc nL own Ts D cI cZ cQ ad np A) {index : Nat} (hd : decode cc pc = .ok (.getfield index, 3)) (hin : ∀ w ∈ wsX00, w ∈ Ts) (hl : Cond.fieldLink own index "FutureSets$Listed" "kept" "[Z" ∈ Ts) (hk : 3 < np) (K : J p l e R s m args below meth c kc ks D cI cZ cQ ad np A nL Q x g (pc + 3) (ls) (.ref (ad 17) :: st)) : J p l e R s m args below meth c kc ks D cI cZ cQ ad np A nL Q x g (pc) (ls) (.ref (ad 3) :: st) := fun H locs la hP hS hv =>
  va_get (ref := "FutureSets$Listed") (T := TX0) (N := 4) (ci := 0) (k := 2) C.1.1 C.1.2.1 C.1.2.2.2.2 hin C.1.2.2.2.1 C.2.1 hP 3 (wl_get hk) rfl (hk := by decide) (C.1.2.2.2.2 _ hl) (fun _ h => h) rfl hd (K H locs la hP hS hv)
theorem jg_X0_numbers (C : GC p R s m args c kc ks cc nL own Ts D cI cZ cQ ad np A) {index : Nat} (hd : decode cc pc = .ok (.getfield index, 3)) (hin : ∀ w ∈ wsX00, w ∈ Ts) (hl : Cond.fieldLink own index "FutureSets$Listed" "numbers" "[[I" ∈ Ts) (hk : 3 < np) (K : J p l e R s m args below meth c kc ks D cI cZ cQ ad np A nL Q x g (pc + 3) (ls) (.ref (ad 18) :: st)) : J p l e R s m args below meth c kc ks D cI cZ cQ ad np A nL Q x g (pc) (ls) (.ref (ad 3) :: st) := fun H locs la hP hS hv =>
  va_get (ref := "FutureSets$Listed") (T := TX0) (N := 4) (ci := 0) (k := 3) C.1.1 C.1.2.1 C.1.2.2.2.2 hin C.1.2.2.2.1 C.2.1 hP 3 (wl_get hk) rfl (hk := by decide) (C.1.2.2.2.2 _ hl) (fun _ h => h) rfl hd (K H locs la hP hS hv)
theorem jg_X4_firsts (C : GC p R s m args c kc ks cc nL own Ts D cI cZ cQ ad np A) {index : Nat} (hd : decode cc pc = .ok (.getfield index, 3)) (hin : ∀ w ∈ wsX40, w ∈ Ts) (hl : Cond.fieldLink own index "FutureSetsModel" "firsts" "I" ∈ Ts) (hk : 27 < np) (K : J p l e R s m args below meth c kc ks D cI cZ cQ ad np A nL Q x g (pc + 3) (ls) (.int (nI (x 7)) :: st)) : J p l e R s m args below meth c kc ks D cI cZ cQ ad np A nL Q x g (pc) (ls) (.ref (ad 27) :: st) := fun H locs la hP hS hv =>
  va_get (ref := "FutureSetsModel") (T := TX4) (N := 20) (ci := 4) (k := 0) C.1.1 C.1.2.1 C.1.2.2.2.2 hin C.1.2.2.2.1 C.2.1 hP 27 (wl_get hk) rfl (hk := by decide) (C.1.2.2.2.2 _ hl) (fun _ h => h) rfl hd (K H locs la hP hS hv)
theorem jp_X4_firsts (C : GC p R s m args c kc ks cc nL own Ts D cI cZ cQ ad np A) {index : Nat} {v : Int32} (n : Nat) (hd : decode cc pc = .ok (.putfield index, 3)) (hin : ∀ w ∈ wsX40, w ∈ Ts) (hl : Cond.fieldLink own index "FutureSetsModel" "firsts" "I" ∈ Ts) (hk : 27 < np) (hv : v = nI n) (K : J p l e R s m args below meth c kc ks D cI cZ cQ ad np A nL Q (va_up x 7 n) g (pc + 3) (ls) (st)) : J p l e R s m args below meth c kc ks D cI cZ cQ ad np A nL Q x g (pc) (ls) (.int v :: .ref (ad 27) :: st) := fun H locs la hP hS hl2 => by
  subst hv
  refine va_put (ref := "FutureSetsModel") (T := TX4) (N := 20) (ci := 4) (k := 0) (ty := .int) C.1.1 C.1.2.1 C.1.2.2.2.2 hin tyX4 tyX4_ok nmX4 C.1.2.2.2.1 C.2.1 hP (wl_D C.2.2.1) hS 27 (wl_get hk) rfl (hk := by decide) (C.1.2.2.2.2 _ hl) (fun _ h => h) rfl rfl rfl rfl (Nat.le_of_ble_eq_true rfl) hd (fun H1 locs1 hP1 hD1 hS1 => ?_)
  rw [wl_set hk] at hP1
  refine K H1 locs1 la (wl_P hP1 (fun i _ => ?_)) hS1 hl2
  by_cases hi : i = 27
  · subst hi; rfl
  · simp only [va_up, if_neg hi]
    unfold HH
    simp [hi, va_up]
theorem jg_X4_seconds (C : GC p R s m args c kc ks cc nL own Ts D cI cZ cQ ad np A) {index : Nat} (hd : decode cc pc = .ok (.getfield index, 3)) (hin : ∀ w ∈ wsX40, w ∈ Ts) (hl : Cond.fieldLink own index "FutureSetsModel" "seconds" "I" ∈ Ts) (hk : 27 < np) (K : J p l e R s m args below meth c kc ks D cI cZ cQ ad np A nL Q x g (pc + 3) (ls) (.int (nI (x 8)) :: st)) : J p l e R s m args below meth c kc ks D cI cZ cQ ad np A nL Q x g (pc) (ls) (.ref (ad 27) :: st) := fun H locs la hP hS hv =>
  va_get (ref := "FutureSetsModel") (T := TX4) (N := 20) (ci := 4) (k := 1) C.1.1 C.1.2.1 C.1.2.2.2.2 hin C.1.2.2.2.1 C.2.1 hP 27 (wl_get hk) rfl (hk := by decide) (C.1.2.2.2.2 _ hl) (fun _ h => h) rfl hd (K H locs la hP hS hv)
theorem jp_X4_seconds (C : GC p R s m args c kc ks cc nL own Ts D cI cZ cQ ad np A) {index : Nat} {v : Int32} (n : Nat) (hd : decode cc pc = .ok (.putfield index, 3)) (hin : ∀ w ∈ wsX40, w ∈ Ts) (hl : Cond.fieldLink own index "FutureSetsModel" "seconds" "I" ∈ Ts) (hk : 27 < np) (hv : v = nI n) (K : J p l e R s m args below meth c kc ks D cI cZ cQ ad np A nL Q (va_up x 8 n) g (pc + 3) (ls) (st)) : J p l e R s m args below meth c kc ks D cI cZ cQ ad np A nL Q x g (pc) (ls) (.int v :: .ref (ad 27) :: st) := fun H locs la hP hS hl2 => by
  subst hv
  refine va_put (ref := "FutureSetsModel") (T := TX4) (N := 20) (ci := 4) (k := 1) (ty := .int) C.1.1 C.1.2.1 C.1.2.2.2.2 hin tyX4 tyX4_ok nmX4 C.1.2.2.2.1 C.2.1 hP (wl_D C.2.2.1) hS 27 (wl_get hk) rfl (hk := by decide) (C.1.2.2.2.2 _ hl) (fun _ h => h) rfl rfl rfl rfl (Nat.le_of_ble_eq_true rfl) hd (fun H1 locs1 hP1 hD1 hS1 => ?_)
  rw [wl_set hk] at hP1
  refine K H1 locs1 la (wl_P hP1 (fun i _ => ?_)) hS1 hl2
  by_cases hi : i = 27
  · subst hi; rfl
  · simp only [va_up, if_neg hi]
    unfold HH
    simp [hi, va_up]
theorem jg_X4_names (C : GC p R s m args c kc ks cc nL own Ts D cI cZ cQ ad np A) {index : Nat} (hd : decode cc pc = .ok (.getfield index, 3)) (hin : ∀ w ∈ wsX40, w ∈ Ts) (hl : Cond.fieldLink own index "FutureSetsModel" "names" "I" ∈ Ts) (hk : 27 < np) (K : J p l e R s m args below meth c kc ks D cI cZ cQ ad np A nL Q x g (pc + 3) (ls) (.int (nI (x 9)) :: st)) : J p l e R s m args below meth c kc ks D cI cZ cQ ad np A nL Q x g (pc) (ls) (.ref (ad 27) :: st) := fun H locs la hP hS hv =>
  va_get (ref := "FutureSetsModel") (T := TX4) (N := 20) (ci := 4) (k := 2) C.1.1 C.1.2.1 C.1.2.2.2.2 hin C.1.2.2.2.1 C.2.1 hP 27 (wl_get hk) rfl (hk := by decide) (C.1.2.2.2.2 _ hl) (fun _ h => h) rfl hd (K H locs la hP hS hv)
theorem jp_X4_names (C : GC p R s m args c kc ks cc nL own Ts D cI cZ cQ ad np A) {index : Nat} {v : Int32} (n : Nat) (hd : decode cc pc = .ok (.putfield index, 3)) (hin : ∀ w ∈ wsX40, w ∈ Ts) (hl : Cond.fieldLink own index "FutureSetsModel" "names" "I" ∈ Ts) (hk : 27 < np) (hv : v = nI n) (K : J p l e R s m args below meth c kc ks D cI cZ cQ ad np A nL Q (va_up x 9 n) g (pc + 3) (ls) (st)) : J p l e R s m args below meth c kc ks D cI cZ cQ ad np A nL Q x g (pc) (ls) (.int v :: .ref (ad 27) :: st) := fun H locs la hP hS hl2 => by
  subst hv
  refine va_put (ref := "FutureSetsModel") (T := TX4) (N := 20) (ci := 4) (k := 2) (ty := .int) C.1.1 C.1.2.1 C.1.2.2.2.2 hin tyX4 tyX4_ok nmX4 C.1.2.2.2.1 C.2.1 hP (wl_D C.2.2.1) hS 27 (wl_get hk) rfl (hk := by decide) (C.1.2.2.2.2 _ hl) (fun _ h => h) rfl rfl rfl rfl (Nat.le_of_ble_eq_true rfl) hd (fun H1 locs1 hP1 hD1 hS1 => ?_)
  rw [wl_set hk] at hP1
  refine K H1 locs1 la (wl_P hP1 (fun i _ => ?_)) hS1 hl2
  by_cases hi : i = 27
  · subst hi; rfl
  · simp only [va_up, if_neg hi]
    unfold HH
    simp [hi, va_up]
theorem jg_X4_least (C : GC p R s m args c kc ks cc nL own Ts D cI cZ cQ ad np A) {index : Nat} (hd : decode cc pc = .ok (.getfield index, 3)) (hin : ∀ w ∈ wsX40, w ∈ Ts) (hl : Cond.fieldLink own index "FutureSetsModel" "least" "[I" ∈ Ts) (hk : 27 < np) (K : J p l e R s m args below meth c kc ks D cI cZ cQ ad np A nL Q x g (pc + 3) (ls) (.ref (ad 28) :: st)) : J p l e R s m args below meth c kc ks D cI cZ cQ ad np A nL Q x g (pc) (ls) (.ref (ad 27) :: st) := fun H locs la hP hS hv =>
  va_get (ref := "FutureSetsModel") (T := TX4) (N := 20) (ci := 4) (k := 3) C.1.1 C.1.2.1 C.1.2.2.2.2 hin C.1.2.2.2.1 C.2.1 hP 27 (wl_get hk) rfl (hk := by decide) (C.1.2.2.2.2 _ hl) (fun _ h => h) rfl hd (K H locs la hP hS hv)
theorem jg_X4_usual (C : GC p R s m args c kc ks cc nL own Ts D cI cZ cQ ad np A) {index : Nat} (hd : decode cc pc = .ok (.getfield index, 3)) (hin : ∀ w ∈ wsX40, w ∈ Ts) (hl : Cond.fieldLink own index "FutureSetsModel" "usual" "[I" ∈ Ts) (hk : 27 < np) (K : J p l e R s m args below meth c kc ks D cI cZ cQ ad np A nL Q x g (pc + 3) (ls) (.ref (ad 29) :: st)) : J p l e R s m args below meth c kc ks D cI cZ cQ ad np A nL Q x g (pc) (ls) (.ref (ad 27) :: st) := fun H locs la hP hS hv =>
  va_get (ref := "FutureSetsModel") (T := TX4) (N := 20) (ci := 4) (k := 4) C.1.1 C.1.2.1 C.1.2.2.2.2 hin C.1.2.2.2.1 C.2.1 hP 27 (wl_get hk) rfl (hk := by decide) (C.1.2.2.2.2 _ hl) (fun _ h => h) rfl hd (K H locs la hP hS hv)
theorem jg_X4_greatest (C : GC p R s m args c kc ks cc nL own Ts D cI cZ cQ ad np A) {index : Nat} (hd : decode cc pc = .ok (.getfield index, 3)) (hin : ∀ w ∈ wsX40, w ∈ Ts) (hl : Cond.fieldLink own index "FutureSetsModel" "greatest" "[I" ∈ Ts) (hk : 27 < np) (K : J p l e R s m args below meth c kc ks D cI cZ cQ ad np A nL Q x g (pc + 3) (ls) (.ref (ad 30) :: st)) : J p l e R s m args below meth c kc ks D cI cZ cQ ad np A nL Q x g (pc) (ls) (.ref (ad 27) :: st) := fun H locs la hP hS hv =>
  va_get (ref := "FutureSetsModel") (T := TX4) (N := 20) (ci := 4) (k := 5) C.1.1 C.1.2.1 C.1.2.2.2.2 hin C.1.2.2.2.1 C.2.1 hP 27 (wl_get hk) rfl (hk := by decide) (C.1.2.2.2.2 _ hl) (fun _ h => h) rfl hd (K H locs la hP hS hv)
theorem jg_X4_budget (C : GC p R s m args c kc ks cc nL own Ts D cI cZ cQ ad np A) {index : Nat} (hd : decode cc pc = .ok (.getfield index, 3)) (hin : ∀ w ∈ wsX40, w ∈ Ts) (hl : Cond.fieldLink own index "FutureSetsModel" "budget" "I" ∈ Ts) (hk : 27 < np) (K : J p l e R s m args below meth c kc ks D cI cZ cQ ad np A nL Q x g (pc + 3) (ls) (.int (nI (x 10)) :: st)) : J p l e R s m args below meth c kc ks D cI cZ cQ ad np A nL Q x g (pc) (ls) (.ref (ad 27) :: st) := fun H locs la hP hS hv =>
  va_get (ref := "FutureSetsModel") (T := TX4) (N := 20) (ci := 4) (k := 6) C.1.1 C.1.2.1 C.1.2.2.2.2 hin C.1.2.2.2.1 C.2.1 hP 27 (wl_get hk) rfl (hk := by decide) (C.1.2.2.2.2 _ hl) (fun _ h => h) rfl hd (K H locs la hP hS hv)
theorem jp_X4_budget (C : GC p R s m args c kc ks cc nL own Ts D cI cZ cQ ad np A) {index : Nat} {v : Int32} (n : Nat) (hd : decode cc pc = .ok (.putfield index, 3)) (hin : ∀ w ∈ wsX40, w ∈ Ts) (hl : Cond.fieldLink own index "FutureSetsModel" "budget" "I" ∈ Ts) (hk : 27 < np) (hv : v = nI n) (K : J p l e R s m args below meth c kc ks D cI cZ cQ ad np A nL Q (va_up x 10 n) g (pc + 3) (ls) (st)) : J p l e R s m args below meth c kc ks D cI cZ cQ ad np A nL Q x g (pc) (ls) (.int v :: .ref (ad 27) :: st) := fun H locs la hP hS hl2 => by
  subst hv
  refine va_put (ref := "FutureSetsModel") (T := TX4) (N := 20) (ci := 4) (k := 6) (ty := .int) C.1.1 C.1.2.1 C.1.2.2.2.2 hin tyX4 tyX4_ok nmX4 C.1.2.2.2.1 C.2.1 hP (wl_D C.2.2.1) hS 27 (wl_get hk) rfl (hk := by decide) (C.1.2.2.2.2 _ hl) (fun _ h => h) rfl rfl rfl rfl (Nat.le_of_ble_eq_true rfl) hd (fun H1 locs1 hP1 hD1 hS1 => ?_)
  rw [wl_set hk] at hP1
  refine K H1 locs1 la (wl_P hP1 (fun i _ => ?_)) hS1 hl2
  by_cases hi : i = 27
  · subst hi; rfl
  · simp only [va_up, if_neg hi]
    unfold HH
    simp [hi, va_up]
theorem jg_X4_rows (C : GC p R s m args c kc ks cc nL own Ts D cI cZ cQ ad np A) {index : Nat} (hd : decode cc pc = .ok (.getfield index, 3)) (hin : ∀ w ∈ wsX40, w ∈ Ts) (hl : Cond.fieldLink own index "FutureSetsModel" "rows" "I" ∈ Ts) (hk : 27 < np) (K : J p l e R s m args below meth c kc ks D cI cZ cQ ad np A nL Q x g (pc + 3) (ls) (.int (nI (x 11)) :: st)) : J p l e R s m args below meth c kc ks D cI cZ cQ ad np A nL Q x g (pc) (ls) (.ref (ad 27) :: st) := fun H locs la hP hS hv =>
  va_get (ref := "FutureSetsModel") (T := TX4) (N := 20) (ci := 4) (k := 7) C.1.1 C.1.2.1 C.1.2.2.2.2 hin C.1.2.2.2.1 C.2.1 hP 27 (wl_get hk) rfl (hk := by decide) (C.1.2.2.2.2 _ hl) (fun _ h => h) rfl hd (K H locs la hP hS hv)
theorem jp_X4_rows (C : GC p R s m args c kc ks cc nL own Ts D cI cZ cQ ad np A) {index : Nat} {v : Int32} (n : Nat) (hd : decode cc pc = .ok (.putfield index, 3)) (hin : ∀ w ∈ wsX40, w ∈ Ts) (hl : Cond.fieldLink own index "FutureSetsModel" "rows" "I" ∈ Ts) (hk : 27 < np) (hv : v = nI n) (K : J p l e R s m args below meth c kc ks D cI cZ cQ ad np A nL Q (va_up x 11 n) g (pc + 3) (ls) (st)) : J p l e R s m args below meth c kc ks D cI cZ cQ ad np A nL Q x g (pc) (ls) (.int v :: .ref (ad 27) :: st) := fun H locs la hP hS hl2 => by
  subst hv
  refine va_put (ref := "FutureSetsModel") (T := TX4) (N := 20) (ci := 4) (k := 7) (ty := .int) C.1.1 C.1.2.1 C.1.2.2.2.2 hin tyX4 tyX4_ok nmX4 C.1.2.2.2.1 C.2.1 hP (wl_D C.2.2.1) hS 27 (wl_get hk) rfl (hk := by decide) (C.1.2.2.2.2 _ hl) (fun _ h => h) rfl rfl rfl rfl (Nat.le_of_ble_eq_true rfl) hd (fun H1 locs1 hP1 hD1 hS1 => ?_)
  rw [wl_set hk] at hP1
  refine K H1 locs1 la (wl_P hP1 (fun i _ => ?_)) hS1 hl2
  by_cases hi : i = 27
  · subst hi; rfl
  · simp only [va_up, if_neg hi]
    unfold HH
    simp [hi, va_up]
theorem jg_X4_terms (C : GC p R s m args c kc ks cc nL own Ts D cI cZ cQ ad np A) {index : Nat} (hd : decode cc pc = .ok (.getfield index, 3)) (hin : ∀ w ∈ wsX40, w ∈ Ts) (hl : Cond.fieldLink own index "FutureSetsModel" "terms" "I" ∈ Ts) (hk : 27 < np) (K : J p l e R s m args below meth c kc ks D cI cZ cQ ad np A nL Q x g (pc + 3) (ls) (.int (nI (x 12)) :: st)) : J p l e R s m args below meth c kc ks D cI cZ cQ ad np A nL Q x g (pc) (ls) (.ref (ad 27) :: st) := fun H locs la hP hS hv =>
  va_get (ref := "FutureSetsModel") (T := TX4) (N := 20) (ci := 4) (k := 8) C.1.1 C.1.2.1 C.1.2.2.2.2 hin C.1.2.2.2.1 C.2.1 hP 27 (wl_get hk) rfl (hk := by decide) (C.1.2.2.2.2 _ hl) (fun _ h => h) rfl hd (K H locs la hP hS hv)
theorem jp_X4_terms (C : GC p R s m args c kc ks cc nL own Ts D cI cZ cQ ad np A) {index : Nat} {v : Int32} (n : Nat) (hd : decode cc pc = .ok (.putfield index, 3)) (hin : ∀ w ∈ wsX40, w ∈ Ts) (hl : Cond.fieldLink own index "FutureSetsModel" "terms" "I" ∈ Ts) (hk : 27 < np) (hv : v = nI n) (K : J p l e R s m args below meth c kc ks D cI cZ cQ ad np A nL Q (va_up x 12 n) g (pc + 3) (ls) (st)) : J p l e R s m args below meth c kc ks D cI cZ cQ ad np A nL Q x g (pc) (ls) (.int v :: .ref (ad 27) :: st) := fun H locs la hP hS hl2 => by
  subst hv
  refine va_put (ref := "FutureSetsModel") (T := TX4) (N := 20) (ci := 4) (k := 8) (ty := .int) C.1.1 C.1.2.1 C.1.2.2.2.2 hin tyX4 tyX4_ok nmX4 C.1.2.2.2.1 C.2.1 hP (wl_D C.2.2.1) hS 27 (wl_get hk) rfl (hk := by decide) (C.1.2.2.2.2 _ hl) (fun _ h => h) rfl rfl rfl rfl (Nat.le_of_ble_eq_true rfl) hd (fun H1 locs1 hP1 hD1 hS1 => ?_)
  rw [wl_set hk] at hP1
  refine K H1 locs1 la (wl_P hP1 (fun i _ => ?_)) hS1 hl2
  by_cases hi : i = 27
  · subst hi; rfl
  · simp only [va_up, if_neg hi]
    unfold HH
    simp [hi, va_up]
theorem jg_X4_termRow (C : GC p R s m args c kc ks cc nL own Ts D cI cZ cQ ad np A) {index : Nat} (hd : decode cc pc = .ok (.getfield index, 3)) (hin : ∀ w ∈ wsX40, w ∈ Ts) (hl : Cond.fieldLink own index "FutureSetsModel" "termRow" "[I" ∈ Ts) (hk : 27 < np) (K : J p l e R s m args below meth c kc ks D cI cZ cQ ad np A nL Q x g (pc + 3) (ls) (.ref (ad 31) :: st)) : J p l e R s m args below meth c kc ks D cI cZ cQ ad np A nL Q x g (pc) (ls) (.ref (ad 27) :: st) := fun H locs la hP hS hv =>
  va_get (ref := "FutureSetsModel") (T := TX4) (N := 20) (ci := 4) (k := 9) C.1.1 C.1.2.1 C.1.2.2.2.2 hin C.1.2.2.2.1 C.2.1 hP 27 (wl_get hk) rfl (hk := by decide) (C.1.2.2.2.2 _ hl) (fun _ h => h) rfl hd (K H locs la hP hS hv)
theorem jg_X4_termChoice (C : GC p R s m args c kc ks cc nL own Ts D cI cZ cQ ad np A) {index : Nat} (hd : decode cc pc = .ok (.getfield index, 3)) (hin : ∀ w ∈ wsX40, w ∈ Ts) (hl : Cond.fieldLink own index "FutureSetsModel" "termChoice" "[I" ∈ Ts) (hk : 27 < np) (K : J p l e R s m args below meth c kc ks D cI cZ cQ ad np A nL Q x g (pc + 3) (ls) (.ref (ad 32) :: st)) : J p l e R s m args below meth c kc ks D cI cZ cQ ad np A nL Q x g (pc) (ls) (.ref (ad 27) :: st) := fun H locs la hP hS hv =>
  va_get (ref := "FutureSetsModel") (T := TX4) (N := 20) (ci := 4) (k := 10) C.1.1 C.1.2.1 C.1.2.2.2.2 hin C.1.2.2.2.1 C.2.1 hP 27 (wl_get hk) rfl (hk := by decide) (C.1.2.2.2.2 _ hl) (fun _ h => h) rfl hd (K H locs la hP hS hv)
theorem jg_X4_termName (C : GC p R s m args c kc ks cc nL own Ts D cI cZ cQ ad np A) {index : Nat} (hd : decode cc pc = .ok (.getfield index, 3)) (hin : ∀ w ∈ wsX40, w ∈ Ts) (hl : Cond.fieldLink own index "FutureSetsModel" "termName" "[I" ∈ Ts) (hk : 27 < np) (K : J p l e R s m args below meth c kc ks D cI cZ cQ ad np A nL Q x g (pc + 3) (ls) (.ref (ad 33) :: st)) : J p l e R s m args below meth c kc ks D cI cZ cQ ad np A nL Q x g (pc) (ls) (.ref (ad 27) :: st) := fun H locs la hP hS hv =>
  va_get (ref := "FutureSetsModel") (T := TX4) (N := 20) (ci := 4) (k := 11) C.1.1 C.1.2.1 C.1.2.2.2.2 hin C.1.2.2.2.1 C.2.1 hP 27 (wl_get hk) rfl (hk := by decide) (C.1.2.2.2.2 _ hl) (fun _ h => h) rfl hd (K H locs la hP hS hv)
theorem jg_X4_termFactor (C : GC p R s m args c kc ks cc nL own Ts D cI cZ cQ ad np A) {index : Nat} (hd : decode cc pc = .ok (.getfield index, 3)) (hin : ∀ w ∈ wsX40, w ∈ Ts) (hl : Cond.fieldLink own index "FutureSetsModel" "termFactor" "[I" ∈ Ts) (hk : 27 < np) (K : J p l e R s m args below meth c kc ks D cI cZ cQ ad np A nL Q x g (pc + 3) (ls) (.ref (ad 34) :: st)) : J p l e R s m args below meth c kc ks D cI cZ cQ ad np A nL Q x g (pc) (ls) (.ref (ad 27) :: st) := fun H locs la hP hS hv =>
  va_get (ref := "FutureSetsModel") (T := TX4) (N := 20) (ci := 4) (k := 12) C.1.1 C.1.2.1 C.1.2.2.2.2 hin C.1.2.2.2.1 C.2.1 hP 27 (wl_get hk) rfl (hk := by decide) (C.1.2.2.2.2 _ hl) (fun _ h => h) rfl hd (K H locs la hP hS hv)
theorem jg_X4_futures (C : GC p R s m args c kc ks cc nL own Ts D cI cZ cQ ad np A) {index : Nat} (hd : decode cc pc = .ok (.getfield index, 3)) (hin : ∀ w ∈ wsX40, w ∈ Ts) (hl : Cond.fieldLink own index "FutureSetsModel" "futures" "I" ∈ Ts) (hk : 27 < np) (K : J p l e R s m args below meth c kc ks D cI cZ cQ ad np A nL Q x g (pc + 3) (ls) (.int (nI (x 13)) :: st)) : J p l e R s m args below meth c kc ks D cI cZ cQ ad np A nL Q x g (pc) (ls) (.ref (ad 27) :: st) := fun H locs la hP hS hv =>
  va_get (ref := "FutureSetsModel") (T := TX4) (N := 20) (ci := 4) (k := 13) C.1.1 C.1.2.1 C.1.2.2.2.2 hin C.1.2.2.2.1 C.2.1 hP 27 (wl_get hk) rfl (hk := by decide) (C.1.2.2.2.2 _ hl) (fun _ h => h) rfl hd (K H locs la hP hS hv)
theorem jp_X4_futures (C : GC p R s m args c kc ks cc nL own Ts D cI cZ cQ ad np A) {index : Nat} {v : Int32} (n : Nat) (hd : decode cc pc = .ok (.putfield index, 3)) (hin : ∀ w ∈ wsX40, w ∈ Ts) (hl : Cond.fieldLink own index "FutureSetsModel" "futures" "I" ∈ Ts) (hk : 27 < np) (hv : v = nI n) (K : J p l e R s m args below meth c kc ks D cI cZ cQ ad np A nL Q (va_up x 13 n) g (pc + 3) (ls) (st)) : J p l e R s m args below meth c kc ks D cI cZ cQ ad np A nL Q x g (pc) (ls) (.int v :: .ref (ad 27) :: st) := fun H locs la hP hS hl2 => by
  subst hv
  refine va_put (ref := "FutureSetsModel") (T := TX4) (N := 20) (ci := 4) (k := 13) (ty := .int) C.1.1 C.1.2.1 C.1.2.2.2.2 hin tyX4 tyX4_ok nmX4 C.1.2.2.2.1 C.2.1 hP (wl_D C.2.2.1) hS 27 (wl_get hk) rfl (hk := by decide) (C.1.2.2.2.2 _ hl) (fun _ h => h) rfl rfl rfl rfl (Nat.le_of_ble_eq_true rfl) hd (fun H1 locs1 hP1 hD1 hS1 => ?_)
  rw [wl_set hk] at hP1
  refine K H1 locs1 la (wl_P hP1 (fun i _ => ?_)) hS1 hl2
  by_cases hi : i = 27
  · subst hi; rfl
  · simp only [va_up, if_neg hi]
    unfold HH
    simp [hi, va_up]
theorem jg_X4_odds (C : GC p R s m args c kc ks cc nL own Ts D cI cZ cQ ad np A) {index : Nat} (hd : decode cc pc = .ok (.getfield index, 3)) (hin : ∀ w ∈ wsX40, w ∈ Ts) (hl : Cond.fieldLink own index "FutureSetsModel" "odds" "[I" ∈ Ts) (hk : 27 < np) (K : J p l e R s m args below meth c kc ks D cI cZ cQ ad np A nL Q x g (pc + 3) (ls) (.ref (ad 35) :: st)) : J p l e R s m args below meth c kc ks D cI cZ cQ ad np A nL Q x g (pc) (ls) (.ref (ad 27) :: st) := fun H locs la hP hS hv =>
  va_get (ref := "FutureSetsModel") (T := TX4) (N := 20) (ci := 4) (k := 14) C.1.1 C.1.2.1 C.1.2.2.2.2 hin C.1.2.2.2.1 C.2.1 hP 27 (wl_get hk) rfl (hk := by decide) (C.1.2.2.2.2 _ hl) (fun _ h => h) rfl hd (K H locs la hP hS hv)
theorem jg_X4_kept (C : GC p R s m args c kc ks cc nL own Ts D cI cZ cQ ad np A) {index : Nat} (hd : decode cc pc = .ok (.getfield index, 3)) (hin : ∀ w ∈ wsX40, w ∈ Ts) (hl : Cond.fieldLink own index "FutureSetsModel" "kept" "[Z" ∈ Ts) (hk : 27 < np) (K : J p l e R s m args below meth c kc ks D cI cZ cQ ad np A nL Q x g (pc + 3) (ls) (.ref (ad 36) :: st)) : J p l e R s m args below meth c kc ks D cI cZ cQ ad np A nL Q x g (pc) (ls) (.ref (ad 27) :: st) := fun H locs la hP hS hv =>
  va_get (ref := "FutureSetsModel") (T := TX4) (N := 20) (ci := 4) (k := 15) C.1.1 C.1.2.1 C.1.2.2.2.2 hin C.1.2.2.2.1 C.2.1 hP 27 (wl_get hk) rfl (hk := by decide) (C.1.2.2.2.2 _ hl) (fun _ h => h) rfl hd (K H locs la hP hS hv)
theorem jg_X4_number (C : GC p R s m args c kc ks cc nL own Ts D cI cZ cQ ad np A) {index : Nat} (hd : decode cc pc = .ok (.getfield index, 3)) (hin : ∀ w ∈ wsX40, w ∈ Ts) (hl : Cond.fieldLink own index "FutureSetsModel" "number" "[I" ∈ Ts) (hk : 27 < np) (K : J p l e R s m args below meth c kc ks D cI cZ cQ ad np A nL Q x g (pc + 3) (ls) (.ref (ad 37) :: st)) : J p l e R s m args below meth c kc ks D cI cZ cQ ad np A nL Q x g (pc) (ls) (.ref (ad 27) :: st) := fun H locs la hP hS hv =>
  va_get (ref := "FutureSetsModel") (T := TX4) (N := 20) (ci := 4) (k := 16) C.1.1 C.1.2.1 C.1.2.2.2.2 hin C.1.2.2.2.1 C.2.1 hP 27 (wl_get hk) rfl (hk := by decide) (C.1.2.2.2.2 _ hl) (fun _ h => h) rfl hd (K H locs la hP hS hv)
theorem jg_X4_gain (C : GC p R s m args c kc ks cc nL own Ts D cI cZ cQ ad np A) {index : Nat} (hd : decode cc pc = .ok (.getfield index, 3)) (hin : ∀ w ∈ wsX40, w ∈ Ts) (hl : Cond.fieldLink own index "FutureSetsModel" "gain" "[I" ∈ Ts) (hk : 27 < np) (K : J p l e R s m args below meth c kc ks D cI cZ cQ ad np A nL Q x g (pc + 3) (ls) (.ref (ad 38) :: st)) : J p l e R s m args below meth c kc ks D cI cZ cQ ad np A nL Q x g (pc) (ls) (.ref (ad 27) :: st) := fun H locs la hP hS hv =>
  va_get (ref := "FutureSetsModel") (T := TX4) (N := 20) (ci := 4) (k := 17) C.1.1 C.1.2.1 C.1.2.2.2.2 hin C.1.2.2.2.1 C.2.1 hP 27 (wl_get hk) rfl (hk := by decide) (C.1.2.2.2.2 _ hl) (fun _ h => h) rfl hd (K H locs la hP hS hv)
theorem jg_X4_worstOf (C : GC p R s m args c kc ks cc nL own Ts D cI cZ cQ ad np A) {index : Nat} (hd : decode cc pc = .ok (.getfield index, 3)) (hin : ∀ w ∈ wsX40, w ∈ Ts) (hl : Cond.fieldLink own index "FutureSetsModel" "worstOf" "[I" ∈ Ts) (hk : 27 < np) (K : J p l e R s m args below meth c kc ks D cI cZ cQ ad np A nL Q x g (pc + 3) (ls) (.ref (ad 39) :: st)) : J p l e R s m args below meth c kc ks D cI cZ cQ ad np A nL Q x g (pc) (ls) (.ref (ad 27) :: st) := fun H locs la hP hS hv =>
  va_get (ref := "FutureSetsModel") (T := TX4) (N := 20) (ci := 4) (k := 18) C.1.1 C.1.2.1 C.1.2.2.2.2 hin C.1.2.2.2.1 C.2.1 hP 27 (wl_get hk) rfl (hk := by decide) (C.1.2.2.2.2 _ hl) (fun _ h => h) rfl hd (K H locs la hP hS hv)
theorem jg_X4_bests (C : GC p R s m args c kc ks cc nL own Ts D cI cZ cQ ad np A) {index : Nat} (hd : decode cc pc = .ok (.getfield index, 3)) (hin : ∀ w ∈ wsX40, w ∈ Ts) (hl : Cond.fieldLink own index "FutureSetsModel" "bests" "[I" ∈ Ts) (hk : 27 < np) (K : J p l e R s m args below meth c kc ks D cI cZ cQ ad np A nL Q x g (pc + 3) (ls) (.ref (ad 40) :: st)) : J p l e R s m args below meth c kc ks D cI cZ cQ ad np A nL Q x g (pc) (ls) (.ref (ad 27) :: st) := fun H locs la hP hS hv =>
  va_get (ref := "FutureSetsModel") (T := TX4) (N := 20) (ci := 4) (k := 19) C.1.1 C.1.2.1 C.1.2.2.2.2 hin C.1.2.2.2.1 C.2.1 hP 27 (wl_get hk) rfl (hk := by decide) (C.1.2.2.2.2 _ hl) (fun _ h => h) rfl hd (K H locs la hP hS hv)
end JL
end
section
abbrev PO : Type := Option Value → (Nat → Nat) → (Nat → Nat → Int32) → Prop
def Rm (d : Nat) : Room := { frames := d, cells := 0, slots := 0, locals := 30 * d }
def Az (ad : Nat → Nat) (np sz : Nat) : Nat → Prop := va_A (wl ad np (fun _ => .inr (0, []))) sz
def Pz (D : va_G) (cI cZ cQ : ClassId) (ad : Nat → Nat) (np : Nat) (x : Nat → Nat) (g : Nat → Nat → Int32) (sz : Nat) (U : State) : Prop := U.heap.size = sz ∧ va_P D vwCl (wl ad np (HH ad cI cZ cQ x g)) U.heap ∧ va_K D vwCl (tyW cI cZ cQ) U ∧ va_D (fun _ => True) (wl ad np (fun _ => .inr (0, []))) ∧ va_Nw (.methodLinkNest RX2 32 yX3_slotOf "FutureSets") U
def Qz (D : va_G) (cI cZ cQ : ClassId) (ad : Nat → Nat) (np : Nat) (post : PO) (A : Nat → Prop) : Array Value → State → Outcome → State → Prop := fun _ st oc t => (∃ (v : Option Value) (x' : Nat → Nat) (g' : Nat → Nat → Int32), oc = .returned v ∧ post v x' g' ∧ va_P D vwCl (wl ad np (HH ad cI cZ cQ x' g')) t.heap) ∧ va_F A st t
/-- a method's contract over the world: d frames below it at most -/
def Cn (l : Launch) (D : va_G) (cI cZ cQ : ClassId) (ad : Nat → Nat) (np d : Nat) (y : MethodName) (ws : List Cond) (as : List Value) (x : Nat → Nat) (g : Nat → Nat → Int32) (post : PO) : Prop :=
  ∀ sz : Nat, Met l y ws (Rm d) (va_Pc as (Pz D cI cZ cQ ad np x g sz)) (Qz D cI cZ cQ ad np post (Az ad np sz)) 0 0 (Az ad np sz)
def ri (P : Int32 → (Nat → Nat) → (Nat → Nat → Int32) → Prop) : PO := fun v x' g' => ∃ r : Int32, v = some (.int r) ∧ P r x' g'
def rv (P : (Nat → Nat) → (Nat → Nat → Int32) → Prop) : PO := fun v x' g' => v = none ∧ P x' g'
def rp (r0 : Int32) (x : Nat → Nat) (g : Nat → Nat → Int32) : PO := ri (fun r x' g' => r = r0 ∧ x' = x ∧ g' = g)
theorem blind_z {D : va_G} {cI cZ cQ : ClassId} {ad : Nat → Nat} {np : Nat} {x : Nat → Nat} {g : Nat → Nat → Int32} {sz : Nat} {as : List Value} : FrameBlind (va_Pc as (Pz D cI cZ cQ ad np x g sz)) := by
  intro a U f mk q
  obtain ⟨q0, q1, qP, qK, qD, qN⟩ := q
  exact ⟨q0, q1, qP, va_K.moved (u := U) (U := U.calling f mk a) (Vm.Alike.refl U.vm) qK, qD, va_Nw.same rfl (u := U) (U := U.calling f mk a) rfl qN⟩
theorem lg_len {as : List Value} (h : ∀ v ∈ as, v.category = 1) : (lg_sl as).length = as.length := by
  induction as with
  | nil => rfl
  | cons v t ih =>
    have h1 := h v List.mem_cons_self
    have := ih (fun w hw => h w (List.mem_cons_of_mem _ hw))
    simp only [lg_sl, List.flatMap_cons, List.length_append, List.length_cons] at this ⊢
    rw [if_neg (by omega)]
    simp only [List.length_cons, List.length_nil]
    omega
theorem lv_argsz {as : List Value} (h : ∀ v ∈ as, v.category = 1) : ∀ (i k : Nat) (v : Value), as[k]? = some v → (i + k, v) ∈ lv_args i as := by
  induction as with
  | nil => intro i k v hk; simp at hk
  | cons a t ih =>
    intro i k v hk
    have h1 := h a List.mem_cons_self
    cases k with
    | zero =>
      simp at hk
      subst hk
      exact List.mem_cons_self
    | succ k =>
      simp at hk
      have := ih (fun w hw => h w (List.mem_cons_of_mem _ hw)) (i + 1) k v hk
      unfold lv_args
      rw [if_neg (by omega), show i + (k + 1) = i + 1 + k by omega]
      exact List.mem_cons_of_mem _ this
section JC
variable {p : Program} {l : Launch} {e : Env} {R : Room} {s : State} {m : MethodId} {args : Array Value} {below : List Frame} {meth : Method} {c : Code} {kc ks : Nat} {Q : State → Prop}
variable {cc : ByteArray} {nL : Nat} {own : String} {Ts : List Cond} {D : va_G} {cI cZ cQ : ClassId} {ad : Nat → Nat} {np : Nat} {A : Nat → Prop}
variable {x x' : Nat → Nat} {g g' : Nat → Nat → Int32} {pc tgt : Nat} {ls : List (Option Value)} {st : List Value}
theorem cn_of {y : MethodName} {ws ws' : List Cond} {cc : ByteArray} {maxL d : Nat} {ret : Option FieldType} {own : String} {as : List Value} {post : PO} (hy : plainName y.cls = true) (hw : ws = Cond.code y cc maxL ret :: ws') (ho : y.cls = own) (ha : ∀ v ∈ as, v.category = 1) (hn : as.length ≤ maxL)
    (body : ∀ (p : Program) (e : Env) (s : State) (m : MethodId) (args : Array Value) (below : List Frame) (meth : Method) (c : Code) (A : Nat → Prop) (Q : State → Prop), GC p (Rm d) s m args c 0 0 cc maxL own ws D cI cZ cQ ad np A →
      (∀ (x' : Nat → Nat) (g' : Nat → Nat → Int32) (pc : Nat) (ls : List (Option Value)) (r : Int32) (ty : FieldType), ret = some ty → narrow ty (.int r) = .int r → decode cc pc = .ok (.ireturn, 1) → post (some (.int r)) x' g' → J p l e (Rm d) s m args below meth c 0 0 D cI cZ cQ ad np A maxL Q x' g' pc (ls) ([.int r])) →
      (∀ (x' : Nat → Nat) (g' : Nat → Nat → Int32) (pc : Nat) (ls : List (Option Value)), ret = none → decode cc pc = .ok (.return_, 1) → post none x' g' → J p l e (Rm d) s m args below meth c 0 0 D cI cZ cQ ad np A maxL Q x' g' pc (ls) ([])) →
      J p l e (Rm d) s m args below meth c 0 0 D cI cZ cQ ad np A maxL Q x g 0 (as.map some ++ List.replicate (maxL - as.length) none) ([])) : Cn l D cI cZ cQ ad np d y ws as x g post := by
  intro sz
  refine Met.ofW (cc := cc) (maxL := maxL) (ret := ret) hy hw ?_
  intro p e s m args below meth c s₁ B hml hv
  obtain ⟨rfl, hsz, hP, hK, hD0, hN⟩ := hv
  have hown : s.vm.findClass own = some m.cls := by rw [← ho]; exact findClass_of_methodNamed B.named
  subst hsz
  have hD : va_D (Az ad np s.heap.size) (wl ad np (fun _ => .inr (0, []))) := hD0.self (sz := s.heap.size)
  have hts := atoms_spec (ws := ws) B.pre
  have hr := B.returns
  have hlocks := B.notSynchronized
  have hG : GC p (Rm d) s m as.toArray c 0 0 cc maxL own ws D cI cZ cQ ad np (Az ad np s.heap.size) := ⟨⟨B.exec, B.bytes, hml, hown, hts⟩, hK, hD, fun q h => Or.inr h, ⟨Nat.le_refl _, Nat.le_refl _⟩, hN⟩
  have hl := lv_entry as (n := maxL) (by rw [lg_len ha]; exact hn)
  rw [lg_entry_eq]
  refine body p e s m _ below meth c _ _ hG ?_ ?_ s.heap [] _ hP va_S.rf ⟨hl.1, hl.2.1, fun q hq => ?_⟩
  · intro x' g' pc ls r ty hrt hnar hd hp H locs la hP hS hv
    exact W.zret B.exec B.bytes (by rw [hr]; exact hrt) hnar (fun t ht hW => ⟨⟨_, x', g', rfl, hp, by rw [ht]; exact hP⟩, hS.F ht⟩) hS.2.2 hd
  · intro x' g' pc ls hrt hd hp H locs la hP hS hv
    exact W.vret B.exec B.bytes (by rw [hr]; exact hrt) (fun t ht hW => ⟨⟨_, x', g', rfl, hp, by rw [ht]; exact hP⟩, hS.F ht⟩) hS.2.2 hd
  · obtain ⟨h1, h2⟩ := lz_mem.mp hq
    obtain ⟨k, v⟩ := q
    dsimp only at h1 h2
    have hk : k < as.length := by
      refine Nat.lt_of_not_le fun h => ?_
      rw [List.getElem?_append_right (by simpa using h)] at h1
      have := List.mem_of_getElem? h1
      rw [List.mem_replicate] at this
      cases this.2
    rw [List.getElem?_append_left (by simpa using hk), List.getElem?_map] at h1
    have h3 : as[k]? = some v := by
      cases h4 : as[k]? with
      | none => rw [h4] at h1; cases h1
      | some w => rw [h4] at h1; exact Option.some.inj h1
    have := lv_argsz ha 0 k v h3
    rw [Nat.zero_add] at this
    exact hl.2.2 _ this
/-- behind a call -/
theorem j_run {post : PO} {H : Heap} {locs : List Loc} {la : Array Slot} {stk st : List Value} {a : Array Value} (C : GC p R s m args c kc ks cc nL own Ts D cI cZ cQ ad np A) (hS : va_S A s.heap H locs) (hv : lv_has la nL (lz ls))
    (hr : va_Run p l e R s m args below meth c H locs kc ks 0 0 (F0 m pc la stk) st (Qz D cI cZ cQ ad np post (Az ad np H.size) a) (Az ad np H.size))
    (K : ∀ (v : Option Value) (x' : Nat → Nat) (g' : Nat → Nat → Int32), post v x' g' → J p l e R s m args below meth c kc ks D cI cZ cQ ad np A nL Q x' g' (pc + 3) (ls) (v.toList ++ st)) : W p l e R s m args below meth c H locs kc ks Q (F0 m pc la stk) := by
  have hA : ∀ q, Az ad np H.size q → A q := by
    intro q hq
    rcases hq with ⟨k, v, hk⟩ | hq
    · exact C.2.2.1.2 k (q, v) hk
    · exact C.2.2.2.1 q (Nat.le_trans hS.1 hq)
  intro T hT X
  obtain ⟨v, st₀, t, T', L, h0, X', hL, e1, e2, ⟨⟨v2, x', g', hv2, hp, hP1⟩, hz, hk1⟩, stp⟩ := hr T hT X
  cases hv2
  rw [h0] at hz hk1
  obtain ⟨t2, a1, b1⟩ := K v x' g' hp T'.heap (locs ++ L) la (by rw [e1]; exact hP1) ⟨Nat.le_trans hS.1 (by rw [e1]; exact hz), fun q h1 h2 => by rw [e1, hk1 q (Nat.lt_of_lt_of_le h1 hS.1) (fun z => h2 (hA q z))]; exact hS.2.1 q h1 h2, fun q hq => by
      rcases List.mem_append.mp hq with h | h
      · exact hS.2.2 q h
      · exact hA _ (hL q h)⟩ hv T' rfl X'
  exact ⟨t2, stp t2 a1, b1⟩
theorem pre_z {as : List Value} {H : Heap} {locs : List Loc} (C : GC p R s m args c kc ks cc nL own Ts D cI cZ cQ ad np A) (hP : va_P D vwCl (wl ad np (HH ad cI cZ cQ x g)) H) : ∀ U : State, U.heap = H → s.WarmedH U.vm → va_Pc as (Pz D cI cZ cQ ad np x g H.size) as.toArray U := fun U hU hW =>
  ⟨rfl, by rw [hU], by rw [hU]; exact hP, va_K.moved hW.alike C.2.1, C.2.2.1.weaken (fun _ _ _ _ => trivial), va_Nw.warmM hW C.2.2.2.2.2⟩
theorem j_callV {y : MethodName} {ws ws' : List Cond} {bytes : ByteArray} {maxL d k ci idx : Nat} {ret : Option FieldType} {Cx : String} {q : vw_C} {fs : List Value} {as stk : List Value} {post : PO} (C : GC p R s m args c kc ks cc nL own Ts D cI cZ cQ ad np A) (hM : Cn l D cI cZ cQ ad np d y ws (.ref (ad k) :: as) x g post) (hd : decode cc pc = .ok (.invokevirtual idx, 3)) (hG : GoodIn Ts (wsV own idx Cx y ws)) (hw : ws = Cond.code y bytes maxL ret :: ws')
    (hdd : y.cls = Cx ∧ y.cls ≠ "java/lang/invoke/MethodHandle" ∧ y.cls ≠ "java/lang/invoke/VarHandle" ∧ (parseMethodDescriptor y.desc).map (fun d => d.parameters.length) = some as.length) (hR : d + 1 ≤ R.frames ∧ 8 + (maxL + 11) + 30 * d ≤ R.locals) (hk : k < np) (hc : vwCl[ci]? = some q) (hq : q.1 = Cx) (hh : HH ad cI cZ cQ x g k = .inr (ci, fs)) (hr : (st.map fun v => v.category).sum ≤ 8) (hs : stk = as.reverse ++ .ref (ad k) :: st)
    (K : ∀ (v : Option Value) (x' : Nat → Nat) (g' : Nat → Nat → Int32), post v x' g' → J p l e R s m args below meth c kc ks D cI cZ cQ ad np A nL Q x' g' (pc + 3) (ls) (v.toList ++ st)) : J p l e R s m args below meth c kc ks D cI cZ cQ ad np A nL Q x g (pc) (ls) (stk) := fun H locs la hP hS hv => by
  have hg := wl_get (ad := ad) (h := HH ad cI cZ cQ x g) hk
  rw [hh] at hg
  have hrec := va_recv C.2.1 hP hc hg
  rw [hq] at hrec
  exact j_run C hS hv (va_runV (As := as) (rest := st) C.1 (hM H.size) (cwV as.length C.1.2.2.2.2 hG hw rfl rfl hdd hR) ⟨blind_z, hrec, pre_z (locs := locs) C hP⟩ rfl rfl hv.1 hs (lv_room hr) hd C.2.2.2.2.1) K
theorem j_callS {y : MethodName} {ws ws' : List Cond} {bytes : ByteArray} {maxL d idx : Nat} {ret : Option FieldType} {as stk : List Value} {post : PO} (C : GC p R s m args c kc ks cc nL own Ts D cI cZ cQ ad np A) (hM : Cn l D cI cZ cQ ad np d y ws as x g post) (hd : decode cc pc = .ok (.invokestatic idx, 3)) (hG : GoodIn Ts (va_wsS own idx y ws)) (hw : ws = Cond.code y bytes maxL ret :: ws')
    (hdd : y.cls ≠ "java/lang/invoke/MethodHandle" ∧ y.cls ≠ "java/lang/invoke/VarHandle" ∧ (parseMethodDescriptor y.desc).map (fun d => d.parameters.length) = some as.length) (hR : d + 1 ≤ R.frames ∧ 8 + (maxL + 11) + 30 * d ≤ R.locals) (hr : (st.map fun v => v.category).sum ≤ 8) (hs : stk = as.reverse ++ st)
    (K : ∀ (v : Option Value) (x' : Nat → Nat) (g' : Nat → Nat → Int32), post v x' g' → J p l e R s m args below meth c kc ks D cI cZ cQ ad np A nL Q x' g' (pc + 3) (ls) (v.toList ++ st)) : J p l e R s m args below meth c kc ks D cI cZ cQ ad np A nL Q x g (pc) (ls) (stk) := fun H locs la hP hS hv =>
  j_run C hS hv (va_runS (As := as) (rest := st) C.1 (hM H.size) (va_cwS as.length C.1.2.2.2.2 hG hw rfl rfl hdd hR) ⟨blind_z, pre_z (locs := locs) C hP⟩ rfl rfl hv.1 hs (lv_room hr) hd C.2.2.2.2.1) K
theorem j_callN {ws ws' : List Cond} {bytes : ByteArray} {maxL d : Nat} {ret : Option FieldType} {as stk : List Value} {post : PO} (C : GC p R s m args c kc ks cc nL RX2 Ts D cI cZ cQ ad np A) (hM : Cn l D cI cZ cQ ad np d yX3_slotOf ws as x g post) (hd : decode cc pc = .ok (.invokestatic 32, 3)) (hG : GoodIn Ts ws) (hini : Cond.initialized yX3_slotOf.cls ∈ Ts) (hst : Cond.static yX3_slotOf ∈ Ts) (hw : ws = Cond.code yX3_slotOf bytes maxL ret :: ws')
    (hdd : yX3_slotOf.cls ≠ "java/lang/invoke/MethodHandle" ∧ yX3_slotOf.cls ≠ "java/lang/invoke/VarHandle" ∧ (parseMethodDescriptor yX3_slotOf.desc).map (fun d => d.parameters.length) = some as.length) (hR : d + 1 ≤ R.frames ∧ 8 + (maxL + 11) + 30 * d ≤ R.locals) (hr : (st.map fun v => v.category).sum ≤ 8) (hs : stk = as.reverse ++ st)
    (K : ∀ (v : Option Value) (x' : Nat → Nat) (g' : Nat → Nat → Int32), post v x' g' → J p l e R s m args below meth c kc ks D cI cZ cQ ad np A nL Q x' g' (pc + 3) (ls) (v.toList ++ st)) : J p l e R s m args below meth c kc ks D cI cZ cQ ad np A nL Q x g (pc) (ls) (stk) := fun H locs la hP hS hv =>
  j_run C hS hv (va_runSN (As := as) (rest := st) C.1 (hM H.size) ⟨va_cnB as.length C.1.2.2.2.2 hG hw rfl rfl C.2.2.2.2.2 (C.1.2.2.2.2 _ hini) hdd hR, C.1.2.2.2.2 _ hst, trivial⟩ ⟨blind_z, pre_z (locs := locs) C hP⟩ rfl rfl hv.1 hs (lv_room hr) hd C.2.2.2.2.1) K
theorem jVi0 {y : MethodName} {ws ws' : List Cond} {bytes : ByteArray} {maxL d k ci idx : Nat} {ret : Option FieldType} {Cx : String} {q : vw_C} {fs : List Value}  {P : Int32 → (Nat → Nat) → (Nat → Nat → Int32) → Prop} (C : GC p R s m args c kc ks cc nL own Ts D cI cZ cQ ad np A) (hd : decode cc pc = .ok (.invokevirtual idx, 3)) (hG : GoodIn Ts (wsV own idx Cx y ws)) (hw : ws = Cond.code y bytes maxL ret :: ws') (hdd : y.cls = Cx ∧ y.cls ≠ "java/lang/invoke/MethodHandle" ∧ y.cls ≠ "java/lang/invoke/VarHandle" ∧ (parseMethodDescriptor y.desc).map (fun d => d.parameters.length) = some 0) (hR : d + 1 ≤ R.frames ∧ 8 + (maxL + 11) + 30 * d ≤ R.locals) (hk : k < np) (hc : vwCl[ci]? = some q) (hq : q.1 = Cx) (hh : HH ad cI cZ cQ x g k = .inr (ci, fs)) (hr : (st.map fun v => v.category).sum ≤ 8) (hM : Cn l D cI cZ cQ ad np d y ws (.ref (ad k) :: []) x g (ri P)) (K : ∀ (r : Int32) (x' : Nat → Nat) (g' : Nat → Nat → Int32), P r x' g' → J p l e R s m args below meth c kc ks D cI cZ cQ ad np A nL Q x' g' (pc + 3) (ls) (.int r :: st)) : J p l e R s m args below meth c kc ks D cI cZ cQ ad np A nL Q x g (pc) (ls) (.ref (ad k) :: st) :=
  j_callV C hM hd hG hw hdd hR hk hc hq hh hr rfl (fun v x' g' ⟨r, hv, hp⟩ => by subst hv; exact K r x' g' hp)
theorem jVv0 {y : MethodName} {ws ws' : List Cond} {bytes : ByteArray} {maxL d k ci idx : Nat} {ret : Option FieldType} {Cx : String} {q : vw_C} {fs : List Value}  {P : (Nat → Nat) → (Nat → Nat → Int32) → Prop} (C : GC p R s m args c kc ks cc nL own Ts D cI cZ cQ ad np A) (hd : decode cc pc = .ok (.invokevirtual idx, 3)) (hG : GoodIn Ts (wsV own idx Cx y ws)) (hw : ws = Cond.code y bytes maxL ret :: ws') (hdd : y.cls = Cx ∧ y.cls ≠ "java/lang/invoke/MethodHandle" ∧ y.cls ≠ "java/lang/invoke/VarHandle" ∧ (parseMethodDescriptor y.desc).map (fun d => d.parameters.length) = some 0) (hR : d + 1 ≤ R.frames ∧ 8 + (maxL + 11) + 30 * d ≤ R.locals) (hk : k < np) (hc : vwCl[ci]? = some q) (hq : q.1 = Cx) (hh : HH ad cI cZ cQ x g k = .inr (ci, fs)) (hr : (st.map fun v => v.category).sum ≤ 8) (hM : Cn l D cI cZ cQ ad np d y ws (.ref (ad k) :: []) x g (rv P)) (K : ∀ (x' : Nat → Nat) (g' : Nat → Nat → Int32), P x' g' → J p l e R s m args below meth c kc ks D cI cZ cQ ad np A nL Q x' g' (pc + 3) (ls) (st)) : J p l e R s m args below meth c kc ks D cI cZ cQ ad np A nL Q x g (pc) (ls) (.ref (ad k) :: st) :=
  j_callV C hM hd hG hw hdd hR hk hc hq hh hr rfl (fun v x' g' ⟨hv, hp⟩ => by subst hv; exact K x' g' hp)
theorem jVp0 {y : MethodName} {ws ws' : List Cond} {bytes : ByteArray} {maxL d k ci idx : Nat} {ret : Option FieldType} {Cx : String} {q : vw_C} {fs : List Value}  {r0 : Int32} (C : GC p R s m args c kc ks cc nL own Ts D cI cZ cQ ad np A) (hd : decode cc pc = .ok (.invokevirtual idx, 3)) (hG : GoodIn Ts (wsV own idx Cx y ws)) (hw : ws = Cond.code y bytes maxL ret :: ws') (hdd : y.cls = Cx ∧ y.cls ≠ "java/lang/invoke/MethodHandle" ∧ y.cls ≠ "java/lang/invoke/VarHandle" ∧ (parseMethodDescriptor y.desc).map (fun d => d.parameters.length) = some 0) (hR : d + 1 ≤ R.frames ∧ 8 + (maxL + 11) + 30 * d ≤ R.locals) (hk : k < np) (hc : vwCl[ci]? = some q) (hq : q.1 = Cx) (hh : HH ad cI cZ cQ x g k = .inr (ci, fs)) (hr : (st.map fun v => v.category).sum ≤ 8) (hM : Cn l D cI cZ cQ ad np d y ws (.ref (ad k) :: []) x g (rp r0 x g)) (K : J p l e R s m args below meth c kc ks D cI cZ cQ ad np A nL Q x g (pc + 3) (ls) (.int r0 :: st)) : J p l e R s m args below meth c kc ks D cI cZ cQ ad np A nL Q x g (pc) (ls) (.ref (ad k) :: st) :=
  jVi0 C hd hG hw hdd hR hk hc hq hh hr hM (fun r x' g' ⟨h1, h2, h3⟩ => by subst h1; subst h2; subst h3; exact K)
theorem jVi1 {y : MethodName} {ws ws' : List Cond} {bytes : ByteArray} {maxL d k ci idx : Nat} {ret : Option FieldType} {Cx : String} {q : vw_C} {fs : List Value} {v1 : Value} {P : Int32 → (Nat → Nat) → (Nat → Nat → Int32) → Prop} (C : GC p R s m args c kc ks cc nL own Ts D cI cZ cQ ad np A) (hd : decode cc pc = .ok (.invokevirtual idx, 3)) (hG : GoodIn Ts (wsV own idx Cx y ws)) (hw : ws = Cond.code y bytes maxL ret :: ws') (hdd : y.cls = Cx ∧ y.cls ≠ "java/lang/invoke/MethodHandle" ∧ y.cls ≠ "java/lang/invoke/VarHandle" ∧ (parseMethodDescriptor y.desc).map (fun d => d.parameters.length) = some 1) (hR : d + 1 ≤ R.frames ∧ 8 + (maxL + 11) + 30 * d ≤ R.locals) (hk : k < np) (hc : vwCl[ci]? = some q) (hq : q.1 = Cx) (hh : HH ad cI cZ cQ x g k = .inr (ci, fs)) (hr : (st.map fun v => v.category).sum ≤ 8) (hM : Cn l D cI cZ cQ ad np d y ws (.ref (ad k) :: [v1]) x g (ri P)) (K : ∀ (r : Int32) (x' : Nat → Nat) (g' : Nat → Nat → Int32), P r x' g' → J p l e R s m args below meth c kc ks D cI cZ cQ ad np A nL Q x' g' (pc + 3) (ls) (.int r :: st)) : J p l e R s m args below meth c kc ks D cI cZ cQ ad np A nL Q x g (pc) (ls) (v1 :: .ref (ad k) :: st) :=
  j_callV C hM hd hG hw hdd hR hk hc hq hh hr rfl (fun v x' g' ⟨r, hv, hp⟩ => by subst hv; exact K r x' g' hp)
theorem jVv1 {y : MethodName} {ws ws' : List Cond} {bytes : ByteArray} {maxL d k ci idx : Nat} {ret : Option FieldType} {Cx : String} {q : vw_C} {fs : List Value} {v1 : Value} {P : (Nat → Nat) → (Nat → Nat → Int32) → Prop} (C : GC p R s m args c kc ks cc nL own Ts D cI cZ cQ ad np A) (hd : decode cc pc = .ok (.invokevirtual idx, 3)) (hG : GoodIn Ts (wsV own idx Cx y ws)) (hw : ws = Cond.code y bytes maxL ret :: ws') (hdd : y.cls = Cx ∧ y.cls ≠ "java/lang/invoke/MethodHandle" ∧ y.cls ≠ "java/lang/invoke/VarHandle" ∧ (parseMethodDescriptor y.desc).map (fun d => d.parameters.length) = some 1) (hR : d + 1 ≤ R.frames ∧ 8 + (maxL + 11) + 30 * d ≤ R.locals) (hk : k < np) (hc : vwCl[ci]? = some q) (hq : q.1 = Cx) (hh : HH ad cI cZ cQ x g k = .inr (ci, fs)) (hr : (st.map fun v => v.category).sum ≤ 8) (hM : Cn l D cI cZ cQ ad np d y ws (.ref (ad k) :: [v1]) x g (rv P)) (K : ∀ (x' : Nat → Nat) (g' : Nat → Nat → Int32), P x' g' → J p l e R s m args below meth c kc ks D cI cZ cQ ad np A nL Q x' g' (pc + 3) (ls) (st)) : J p l e R s m args below meth c kc ks D cI cZ cQ ad np A nL Q x g (pc) (ls) (v1 :: .ref (ad k) :: st) :=
  j_callV C hM hd hG hw hdd hR hk hc hq hh hr rfl (fun v x' g' ⟨hv, hp⟩ => by subst hv; exact K x' g' hp)
theorem jVp1 {y : MethodName} {ws ws' : List Cond} {bytes : ByteArray} {maxL d k ci idx : Nat} {ret : Option FieldType} {Cx : String} {q : vw_C} {fs : List Value} {v1 : Value} {r0 : Int32} (C : GC p R s m args c kc ks cc nL own Ts D cI cZ cQ ad np A) (hd : decode cc pc = .ok (.invokevirtual idx, 3)) (hG : GoodIn Ts (wsV own idx Cx y ws)) (hw : ws = Cond.code y bytes maxL ret :: ws') (hdd : y.cls = Cx ∧ y.cls ≠ "java/lang/invoke/MethodHandle" ∧ y.cls ≠ "java/lang/invoke/VarHandle" ∧ (parseMethodDescriptor y.desc).map (fun d => d.parameters.length) = some 1) (hR : d + 1 ≤ R.frames ∧ 8 + (maxL + 11) + 30 * d ≤ R.locals) (hk : k < np) (hc : vwCl[ci]? = some q) (hq : q.1 = Cx) (hh : HH ad cI cZ cQ x g k = .inr (ci, fs)) (hr : (st.map fun v => v.category).sum ≤ 8) (hM : Cn l D cI cZ cQ ad np d y ws (.ref (ad k) :: [v1]) x g (rp r0 x g)) (K : J p l e R s m args below meth c kc ks D cI cZ cQ ad np A nL Q x g (pc + 3) (ls) (.int r0 :: st)) : J p l e R s m args below meth c kc ks D cI cZ cQ ad np A nL Q x g (pc) (ls) (v1 :: .ref (ad k) :: st) :=
  jVi1 C hd hG hw hdd hR hk hc hq hh hr hM (fun r x' g' ⟨h1, h2, h3⟩ => by subst h1; subst h2; subst h3; exact K)
theorem jVi2 {y : MethodName} {ws ws' : List Cond} {bytes : ByteArray} {maxL d k ci idx : Nat} {ret : Option FieldType} {Cx : String} {q : vw_C} {fs : List Value} {v1 v2 : Value} {P : Int32 → (Nat → Nat) → (Nat → Nat → Int32) → Prop} (C : GC p R s m args c kc ks cc nL own Ts D cI cZ cQ ad np A) (hd : decode cc pc = .ok (.invokevirtual idx, 3)) (hG : GoodIn Ts (wsV own idx Cx y ws)) (hw : ws = Cond.code y bytes maxL ret :: ws') (hdd : y.cls = Cx ∧ y.cls ≠ "java/lang/invoke/MethodHandle" ∧ y.cls ≠ "java/lang/invoke/VarHandle" ∧ (parseMethodDescriptor y.desc).map (fun d => d.parameters.length) = some 2) (hR : d + 1 ≤ R.frames ∧ 8 + (maxL + 11) + 30 * d ≤ R.locals) (hk : k < np) (hc : vwCl[ci]? = some q) (hq : q.1 = Cx) (hh : HH ad cI cZ cQ x g k = .inr (ci, fs)) (hr : (st.map fun v => v.category).sum ≤ 8) (hM : Cn l D cI cZ cQ ad np d y ws (.ref (ad k) :: [v1, v2]) x g (ri P)) (K : ∀ (r : Int32) (x' : Nat → Nat) (g' : Nat → Nat → Int32), P r x' g' → J p l e R s m args below meth c kc ks D cI cZ cQ ad np A nL Q x' g' (pc + 3) (ls) (.int r :: st)) : J p l e R s m args below meth c kc ks D cI cZ cQ ad np A nL Q x g (pc) (ls) (v2 :: v1 :: .ref (ad k) :: st) :=
  j_callV C hM hd hG hw hdd hR hk hc hq hh hr rfl (fun v x' g' ⟨r, hv, hp⟩ => by subst hv; exact K r x' g' hp)
theorem jVv2 {y : MethodName} {ws ws' : List Cond} {bytes : ByteArray} {maxL d k ci idx : Nat} {ret : Option FieldType} {Cx : String} {q : vw_C} {fs : List Value} {v1 v2 : Value} {P : (Nat → Nat) → (Nat → Nat → Int32) → Prop} (C : GC p R s m args c kc ks cc nL own Ts D cI cZ cQ ad np A) (hd : decode cc pc = .ok (.invokevirtual idx, 3)) (hG : GoodIn Ts (wsV own idx Cx y ws)) (hw : ws = Cond.code y bytes maxL ret :: ws') (hdd : y.cls = Cx ∧ y.cls ≠ "java/lang/invoke/MethodHandle" ∧ y.cls ≠ "java/lang/invoke/VarHandle" ∧ (parseMethodDescriptor y.desc).map (fun d => d.parameters.length) = some 2) (hR : d + 1 ≤ R.frames ∧ 8 + (maxL + 11) + 30 * d ≤ R.locals) (hk : k < np) (hc : vwCl[ci]? = some q) (hq : q.1 = Cx) (hh : HH ad cI cZ cQ x g k = .inr (ci, fs)) (hr : (st.map fun v => v.category).sum ≤ 8) (hM : Cn l D cI cZ cQ ad np d y ws (.ref (ad k) :: [v1, v2]) x g (rv P)) (K : ∀ (x' : Nat → Nat) (g' : Nat → Nat → Int32), P x' g' → J p l e R s m args below meth c kc ks D cI cZ cQ ad np A nL Q x' g' (pc + 3) (ls) (st)) : J p l e R s m args below meth c kc ks D cI cZ cQ ad np A nL Q x g (pc) (ls) (v2 :: v1 :: .ref (ad k) :: st) :=
  j_callV C hM hd hG hw hdd hR hk hc hq hh hr rfl (fun v x' g' ⟨hv, hp⟩ => by subst hv; exact K x' g' hp)
theorem jVp2 {y : MethodName} {ws ws' : List Cond} {bytes : ByteArray} {maxL d k ci idx : Nat} {ret : Option FieldType} {Cx : String} {q : vw_C} {fs : List Value} {v1 v2 : Value} {r0 : Int32} (C : GC p R s m args c kc ks cc nL own Ts D cI cZ cQ ad np A) (hd : decode cc pc = .ok (.invokevirtual idx, 3)) (hG : GoodIn Ts (wsV own idx Cx y ws)) (hw : ws = Cond.code y bytes maxL ret :: ws') (hdd : y.cls = Cx ∧ y.cls ≠ "java/lang/invoke/MethodHandle" ∧ y.cls ≠ "java/lang/invoke/VarHandle" ∧ (parseMethodDescriptor y.desc).map (fun d => d.parameters.length) = some 2) (hR : d + 1 ≤ R.frames ∧ 8 + (maxL + 11) + 30 * d ≤ R.locals) (hk : k < np) (hc : vwCl[ci]? = some q) (hq : q.1 = Cx) (hh : HH ad cI cZ cQ x g k = .inr (ci, fs)) (hr : (st.map fun v => v.category).sum ≤ 8) (hM : Cn l D cI cZ cQ ad np d y ws (.ref (ad k) :: [v1, v2]) x g (rp r0 x g)) (K : J p l e R s m args below meth c kc ks D cI cZ cQ ad np A nL Q x g (pc + 3) (ls) (.int r0 :: st)) : J p l e R s m args below meth c kc ks D cI cZ cQ ad np A nL Q x g (pc) (ls) (v2 :: v1 :: .ref (ad k) :: st) :=
  jVi2 C hd hG hw hdd hR hk hc hq hh hr hM (fun r x' g' ⟨h1, h2, h3⟩ => by subst h1; subst h2; subst h3; exact K)
theorem jVi3 {y : MethodName} {ws ws' : List Cond} {bytes : ByteArray} {maxL d k ci idx : Nat} {ret : Option FieldType} {Cx : String} {q : vw_C} {fs : List Value} {v1 v2 v3 : Value} {P : Int32 → (Nat → Nat) → (Nat → Nat → Int32) → Prop} (C : GC p R s m args c kc ks cc nL own Ts D cI cZ cQ ad np A) (hd : decode cc pc = .ok (.invokevirtual idx, 3)) (hG : GoodIn Ts (wsV own idx Cx y ws)) (hw : ws = Cond.code y bytes maxL ret :: ws') (hdd : y.cls = Cx ∧ y.cls ≠ "java/lang/invoke/MethodHandle" ∧ y.cls ≠ "java/lang/invoke/VarHandle" ∧ (parseMethodDescriptor y.desc).map (fun d => d.parameters.length) = some 3) (hR : d + 1 ≤ R.frames ∧ 8 + (maxL + 11) + 30 * d ≤ R.locals) (hk : k < np) (hc : vwCl[ci]? = some q) (hq : q.1 = Cx) (hh : HH ad cI cZ cQ x g k = .inr (ci, fs)) (hr : (st.map fun v => v.category).sum ≤ 8) (hM : Cn l D cI cZ cQ ad np d y ws (.ref (ad k) :: [v1, v2, v3]) x g (ri P)) (K : ∀ (r : Int32) (x' : Nat → Nat) (g' : Nat → Nat → Int32), P r x' g' → J p l e R s m args below meth c kc ks D cI cZ cQ ad np A nL Q x' g' (pc + 3) (ls) (.int r :: st)) : J p l e R s m args below meth c kc ks D cI cZ cQ ad np A nL Q x g (pc) (ls) (v3 :: v2 :: v1 :: .ref (ad k) :: st) :=
  j_callV C hM hd hG hw hdd hR hk hc hq hh hr rfl (fun v x' g' ⟨r, hv, hp⟩ => by subst hv; exact K r x' g' hp)
theorem jVv3 {y : MethodName} {ws ws' : List Cond} {bytes : ByteArray} {maxL d k ci idx : Nat} {ret : Option FieldType} {Cx : String} {q : vw_C} {fs : List Value} {v1 v2 v3 : Value} {P : (Nat → Nat) → (Nat → Nat → Int32) → Prop} (C : GC p R s m args c kc ks cc nL own Ts D cI cZ cQ ad np A) (hd : decode cc pc = .ok (.invokevirtual idx, 3)) (hG : GoodIn Ts (wsV own idx Cx y ws)) (hw : ws = Cond.code y bytes maxL ret :: ws') (hdd : y.cls = Cx ∧ y.cls ≠ "java/lang/invoke/MethodHandle" ∧ y.cls ≠ "java/lang/invoke/VarHandle" ∧ (parseMethodDescriptor y.desc).map (fun d => d.parameters.length) = some 3) (hR : d + 1 ≤ R.frames ∧ 8 + (maxL + 11) + 30 * d ≤ R.locals) (hk : k < np) (hc : vwCl[ci]? = some q) (hq : q.1 = Cx) (hh : HH ad cI cZ cQ x g k = .inr (ci, fs)) (hr : (st.map fun v => v.category).sum ≤ 8) (hM : Cn l D cI cZ cQ ad np d y ws (.ref (ad k) :: [v1, v2, v3]) x g (rv P)) (K : ∀ (x' : Nat → Nat) (g' : Nat → Nat → Int32), P x' g' → J p l e R s m args below meth c kc ks D cI cZ cQ ad np A nL Q x' g' (pc + 3) (ls) (st)) : J p l e R s m args below meth c kc ks D cI cZ cQ ad np A nL Q x g (pc) (ls) (v3 :: v2 :: v1 :: .ref (ad k) :: st) :=
  j_callV C hM hd hG hw hdd hR hk hc hq hh hr rfl (fun v x' g' ⟨hv, hp⟩ => by subst hv; exact K x' g' hp)
theorem jVp3 {y : MethodName} {ws ws' : List Cond} {bytes : ByteArray} {maxL d k ci idx : Nat} {ret : Option FieldType} {Cx : String} {q : vw_C} {fs : List Value} {v1 v2 v3 : Value} {r0 : Int32} (C : GC p R s m args c kc ks cc nL own Ts D cI cZ cQ ad np A) (hd : decode cc pc = .ok (.invokevirtual idx, 3)) (hG : GoodIn Ts (wsV own idx Cx y ws)) (hw : ws = Cond.code y bytes maxL ret :: ws') (hdd : y.cls = Cx ∧ y.cls ≠ "java/lang/invoke/MethodHandle" ∧ y.cls ≠ "java/lang/invoke/VarHandle" ∧ (parseMethodDescriptor y.desc).map (fun d => d.parameters.length) = some 3) (hR : d + 1 ≤ R.frames ∧ 8 + (maxL + 11) + 30 * d ≤ R.locals) (hk : k < np) (hc : vwCl[ci]? = some q) (hq : q.1 = Cx) (hh : HH ad cI cZ cQ x g k = .inr (ci, fs)) (hr : (st.map fun v => v.category).sum ≤ 8) (hM : Cn l D cI cZ cQ ad np d y ws (.ref (ad k) :: [v1, v2, v3]) x g (rp r0 x g)) (K : J p l e R s m args below meth c kc ks D cI cZ cQ ad np A nL Q x g (pc + 3) (ls) (.int r0 :: st)) : J p l e R s m args below meth c kc ks D cI cZ cQ ad np A nL Q x g (pc) (ls) (v3 :: v2 :: v1 :: .ref (ad k) :: st) :=
  jVi3 C hd hG hw hdd hR hk hc hq hh hr hM (fun r x' g' ⟨h1, h2, h3⟩ => by subst h1; subst h2; subst h3; exact K)
theorem jVi4 {y : MethodName} {ws ws' : List Cond} {bytes : ByteArray} {maxL d k ci idx : Nat} {ret : Option FieldType} {Cx : String} {q : vw_C} {fs : List Value} {v1 v2 v3 v4 : Value} {P : Int32 → (Nat → Nat) → (Nat → Nat → Int32) → Prop} (C : GC p R s m args c kc ks cc nL own Ts D cI cZ cQ ad np A) (hd : decode cc pc = .ok (.invokevirtual idx, 3)) (hG : GoodIn Ts (wsV own idx Cx y ws)) (hw : ws = Cond.code y bytes maxL ret :: ws') (hdd : y.cls = Cx ∧ y.cls ≠ "java/lang/invoke/MethodHandle" ∧ y.cls ≠ "java/lang/invoke/VarHandle" ∧ (parseMethodDescriptor y.desc).map (fun d => d.parameters.length) = some 4) (hR : d + 1 ≤ R.frames ∧ 8 + (maxL + 11) + 30 * d ≤ R.locals) (hk : k < np) (hc : vwCl[ci]? = some q) (hq : q.1 = Cx) (hh : HH ad cI cZ cQ x g k = .inr (ci, fs)) (hr : (st.map fun v => v.category).sum ≤ 8) (hM : Cn l D cI cZ cQ ad np d y ws (.ref (ad k) :: [v1, v2, v3, v4]) x g (ri P)) (K : ∀ (r : Int32) (x' : Nat → Nat) (g' : Nat → Nat → Int32), P r x' g' → J p l e R s m args below meth c kc ks D cI cZ cQ ad np A nL Q x' g' (pc + 3) (ls) (.int r :: st)) : J p l e R s m args below meth c kc ks D cI cZ cQ ad np A nL Q x g (pc) (ls) (v4 :: v3 :: v2 :: v1 :: .ref (ad k) :: st) :=
  j_callV C hM hd hG hw hdd hR hk hc hq hh hr rfl (fun v x' g' ⟨r, hv, hp⟩ => by subst hv; exact K r x' g' hp)
theorem jVv4 {y : MethodName} {ws ws' : List Cond} {bytes : ByteArray} {maxL d k ci idx : Nat} {ret : Option FieldType} {Cx : String} {q : vw_C} {fs : List Value} {v1 v2 v3 v4 : Value} {P : (Nat → Nat) → (Nat → Nat → Int32) → Prop} (C : GC p R s m args c kc ks cc nL own Ts D cI cZ cQ ad np A) (hd : decode cc pc = .ok (.invokevirtual idx, 3)) (hG : GoodIn Ts (wsV own idx Cx y ws)) (hw : ws = Cond.code y bytes maxL ret :: ws') (hdd : y.cls = Cx ∧ y.cls ≠ "java/lang/invoke/MethodHandle" ∧ y.cls ≠ "java/lang/invoke/VarHandle" ∧ (parseMethodDescriptor y.desc).map (fun d => d.parameters.length) = some 4) (hR : d + 1 ≤ R.frames ∧ 8 + (maxL + 11) + 30 * d ≤ R.locals) (hk : k < np) (hc : vwCl[ci]? = some q) (hq : q.1 = Cx) (hh : HH ad cI cZ cQ x g k = .inr (ci, fs)) (hr : (st.map fun v => v.category).sum ≤ 8) (hM : Cn l D cI cZ cQ ad np d y ws (.ref (ad k) :: [v1, v2, v3, v4]) x g (rv P)) (K : ∀ (x' : Nat → Nat) (g' : Nat → Nat → Int32), P x' g' → J p l e R s m args below meth c kc ks D cI cZ cQ ad np A nL Q x' g' (pc + 3) (ls) (st)) : J p l e R s m args below meth c kc ks D cI cZ cQ ad np A nL Q x g (pc) (ls) (v4 :: v3 :: v2 :: v1 :: .ref (ad k) :: st) :=
  j_callV C hM hd hG hw hdd hR hk hc hq hh hr rfl (fun v x' g' ⟨hv, hp⟩ => by subst hv; exact K x' g' hp)
theorem jVp4 {y : MethodName} {ws ws' : List Cond} {bytes : ByteArray} {maxL d k ci idx : Nat} {ret : Option FieldType} {Cx : String} {q : vw_C} {fs : List Value} {v1 v2 v3 v4 : Value} {r0 : Int32} (C : GC p R s m args c kc ks cc nL own Ts D cI cZ cQ ad np A) (hd : decode cc pc = .ok (.invokevirtual idx, 3)) (hG : GoodIn Ts (wsV own idx Cx y ws)) (hw : ws = Cond.code y bytes maxL ret :: ws') (hdd : y.cls = Cx ∧ y.cls ≠ "java/lang/invoke/MethodHandle" ∧ y.cls ≠ "java/lang/invoke/VarHandle" ∧ (parseMethodDescriptor y.desc).map (fun d => d.parameters.length) = some 4) (hR : d + 1 ≤ R.frames ∧ 8 + (maxL + 11) + 30 * d ≤ R.locals) (hk : k < np) (hc : vwCl[ci]? = some q) (hq : q.1 = Cx) (hh : HH ad cI cZ cQ x g k = .inr (ci, fs)) (hr : (st.map fun v => v.category).sum ≤ 8) (hM : Cn l D cI cZ cQ ad np d y ws (.ref (ad k) :: [v1, v2, v3, v4]) x g (rp r0 x g)) (K : J p l e R s m args below meth c kc ks D cI cZ cQ ad np A nL Q x g (pc + 3) (ls) (.int r0 :: st)) : J p l e R s m args below meth c kc ks D cI cZ cQ ad np A nL Q x g (pc) (ls) (v4 :: v3 :: v2 :: v1 :: .ref (ad k) :: st) :=
  jVi4 C hd hG hw hdd hR hk hc hq hh hr hM (fun r x' g' ⟨h1, h2, h3⟩ => by subst h1; subst h2; subst h3; exact K)
theorem jSp1 {y : MethodName} {ws ws' : List Cond} {bytes : ByteArray} {maxL d idx : Nat} {ret : Option FieldType} {v1 : Value} {r0 : Int32} (C : GC p R s m args c kc ks cc nL own Ts D cI cZ cQ ad np A) (hd : decode cc pc = .ok (.invokestatic idx, 3)) (hG : GoodIn Ts (va_wsS own idx y ws)) (hw : ws = Cond.code y bytes maxL ret :: ws') (hdd : y.cls ≠ "java/lang/invoke/MethodHandle" ∧ y.cls ≠ "java/lang/invoke/VarHandle" ∧ (parseMethodDescriptor y.desc).map (fun d => d.parameters.length) = some 1) (hR : d + 1 ≤ R.frames ∧ 8 + (maxL + 11) + 30 * d ≤ R.locals) (hr : (st.map fun v => v.category).sum ≤ 8) (hM : Cn l D cI cZ cQ ad np d y ws [v1] x g (rp r0 x g)) (K : J p l e R s m args below meth c kc ks D cI cZ cQ ad np A nL Q x g (pc + 3) (ls) (.int r0 :: st)) : J p l e R s m args below meth c kc ks D cI cZ cQ ad np A nL Q x g (pc) (ls) (v1 :: st) :=
  j_callS C hM hd hG hw hdd hR hr rfl (fun v x' g' ⟨r, hv, h1, h2, h3⟩ => by subst hv; subst h1; subst h2; subst h3; exact K)
theorem jSp2 {y : MethodName} {ws ws' : List Cond} {bytes : ByteArray} {maxL d idx : Nat} {ret : Option FieldType} {v1 v2 : Value} {r0 : Int32} (C : GC p R s m args c kc ks cc nL own Ts D cI cZ cQ ad np A) (hd : decode cc pc = .ok (.invokestatic idx, 3)) (hG : GoodIn Ts (va_wsS own idx y ws)) (hw : ws = Cond.code y bytes maxL ret :: ws') (hdd : y.cls ≠ "java/lang/invoke/MethodHandle" ∧ y.cls ≠ "java/lang/invoke/VarHandle" ∧ (parseMethodDescriptor y.desc).map (fun d => d.parameters.length) = some 2) (hR : d + 1 ≤ R.frames ∧ 8 + (maxL + 11) + 30 * d ≤ R.locals) (hr : (st.map fun v => v.category).sum ≤ 8) (hM : Cn l D cI cZ cQ ad np d y ws [v1, v2] x g (rp r0 x g)) (K : J p l e R s m args below meth c kc ks D cI cZ cQ ad np A nL Q x g (pc + 3) (ls) (.int r0 :: st)) : J p l e R s m args below meth c kc ks D cI cZ cQ ad np A nL Q x g (pc) (ls) (v2 :: v1 :: st) :=
  j_callS C hM hd hG hw hdd hR hr rfl (fun v x' g' ⟨r, hv, h1, h2, h3⟩ => by subst hv; subst h1; subst h2; subst h3; exact K)
theorem jSp3 {y : MethodName} {ws ws' : List Cond} {bytes : ByteArray} {maxL d idx : Nat} {ret : Option FieldType} {v1 v2 v3 : Value} {r0 : Int32} (C : GC p R s m args c kc ks cc nL own Ts D cI cZ cQ ad np A) (hd : decode cc pc = .ok (.invokestatic idx, 3)) (hG : GoodIn Ts (va_wsS own idx y ws)) (hw : ws = Cond.code y bytes maxL ret :: ws') (hdd : y.cls ≠ "java/lang/invoke/MethodHandle" ∧ y.cls ≠ "java/lang/invoke/VarHandle" ∧ (parseMethodDescriptor y.desc).map (fun d => d.parameters.length) = some 3) (hR : d + 1 ≤ R.frames ∧ 8 + (maxL + 11) + 30 * d ≤ R.locals) (hr : (st.map fun v => v.category).sum ≤ 8) (hM : Cn l D cI cZ cQ ad np d y ws [v1, v2, v3] x g (rp r0 x g)) (K : J p l e R s m args below meth c kc ks D cI cZ cQ ad np A nL Q x g (pc + 3) (ls) (.int r0 :: st)) : J p l e R s m args below meth c kc ks D cI cZ cQ ad np A nL Q x g (pc) (ls) (v3 :: v2 :: v1 :: st) :=
  j_callS C hM hd hG hw hdd hR hr rfl (fun v x' g' ⟨r, hv, h1, h2, h3⟩ => by subst hv; subst h1; subst h2; subst h3; exact K)
theorem jNp1 {ws ws' : List Cond} {bytes : ByteArray} {maxL d : Nat} {ret : Option FieldType} {v1 : Value} {r0 : Int32} (C : GC p R s m args c kc ks cc nL RX2 Ts D cI cZ cQ ad np A) (hd : decode cc pc = .ok (.invokestatic 32, 3)) (hG : GoodIn Ts ws) (hini : Cond.initialized yX3_slotOf.cls ∈ Ts) (hst : Cond.static yX3_slotOf ∈ Ts) (hw : ws = Cond.code yX3_slotOf bytes maxL ret :: ws')
    (hdd : yX3_slotOf.cls ≠ "java/lang/invoke/MethodHandle" ∧ yX3_slotOf.cls ≠ "java/lang/invoke/VarHandle" ∧ (parseMethodDescriptor yX3_slotOf.desc).map (fun d => d.parameters.length) = some 1) (hR : d + 1 ≤ R.frames ∧ 8 + (maxL + 11) + 30 * d ≤ R.locals) (hr : (st.map fun v => v.category).sum ≤ 8) (hM : Cn l D cI cZ cQ ad np d yX3_slotOf ws [v1] x g (rp r0 x g)) (K : J p l e R s m args below meth c kc ks D cI cZ cQ ad np A nL Q x g (pc + 3) (ls) (.int r0 :: st)) : J p l e R s m args below meth c kc ks D cI cZ cQ ad np A nL Q x g (pc) (ls) (v1 :: st) :=
  j_callN C hM hd hG hini hst hw hdd hR hr rfl (fun v x' g' ⟨r, hv, h1, h2, h3⟩ => by subst hv; subst h1; subst h2; subst h3; exact K)
theorem j_max (C : GC p R s m args c kc ks cc nL own Ts D cI cZ cQ ad np A) {index : Nat} {a b : Int32} (hd : decode cc pc = .ok (.invokestatic index, 3)) (hl : Cond.methodLink own index Lib.Math.max.name ∈ Ts) (hst : Cond.static Lib.Math.max.name ∈ Ts) (hini : Cond.initialized "java/lang/Math" ∈ Ts) (hco : Cond.code Lib.Math.max.name Lib.Math.max.code 2 (some .int) ∈ Ts) (hf : 1 ≤ R.frames) (hlo : (st.map fun v => v.category).sum + 13 ≤ R.locals) (K : J p l e R s m args below meth c kc ks D cI cZ cQ ad np A nL Q x g (pc + 3) (ls) (.int (if a < b then b else a) :: st)) : J p l e R s m args below meth c kc ks D cI cZ cQ ad np A nL Q x g (pc) (ls) (.int b :: .int a :: st) := fun H locs la hP hS hv =>
  va_mmax C.1.1 C.1.2.1 (by rw [C.1.2.2.1]; exact hv.1.symm) C.1.2.2.2.1 (C.1.2.2.2.2 _ hl) (C.1.2.2.2.2 _ hst) (C.1.2.2.2.2 _ hini) (C.1.2.2.2.2 _ hco) hf hlo C.2.2.2.2.1.1 C.2.2.2.2.1.2 hd (K H locs la hP hS hv)
theorem j_abs (C : GC p R s m args c kc ks cc nL own Ts D cI cZ cQ ad np A) {index : Nat} {a : Int32} (hd : decode cc pc = .ok (.invokestatic index, 3)) (hl : Cond.methodLink own index Lib.Math.abs.name ∈ Ts) (hst : Cond.static Lib.Math.abs.name ∈ Ts) (hini : Cond.initialized "java/lang/Math" ∈ Ts) (hco : Cond.code Lib.Math.abs.name Lib.Math.abs.code 1 (some .int) ∈ Ts) (hf : 1 ≤ R.frames) (hlo : (st.map fun v => v.category).sum + 13 ≤ R.locals) (K : J p l e R s m args below meth c kc ks D cI cZ cQ ad np A nL Q x g (pc + 3) (ls) (.int (if 0 ≤ a then a else 0 - a) :: st)) : J p l e R s m args below meth c kc ks D cI cZ cQ ad np A nL Q x g (pc) (ls) (.int a :: st) := fun H locs la hP hS hv =>
  va_mabs C.1.1 C.1.2.1 (by rw [C.1.2.2.1]; exact hv.1.symm) C.1.2.2.2.1 (C.1.2.2.2.2 _ hl) (C.1.2.2.2.2 _ hst) (C.1.2.2.2.2 _ hini) (C.1.2.2.2.2 _ hco) hf hlo C.2.2.2.2.1.1 C.2.2.2.2.1.2 hd (K H locs la hP hS hv)
end JC
end
section
theorem dX0_init_0 : decode cX0_init 0 = .ok (.aload_n 0, 1) := by decide +kernel
theorem dX0_init_1 : decode cX0_init 1 = .ok (.invokespecial 3, 3) := by decide +kernel
theorem dX0_init_4 : decode cX0_init 4 = .ok (.aload_n 0, 1) := by decide +kernel
theorem dX0_init_5 : decode cX0_init 5 = .ok (.bipush 8, 2) := by decide +kernel
theorem dX0_init_7 : decode cX0_init 7 = .ok (.newarray .int, 2) := by decide +kernel
theorem dX0_init_9 : decode cX0_init 9 = .ok (.putfield 9, 3) := by decide +kernel
theorem dX0_init_12 : decode cX0_init 12 = .ok (.aload_n 0, 1) := by decide +kernel
theorem dX0_init_13 : decode cX0_init 13 = .ok (.bipush 8, 2) := by decide +kernel
theorem dX0_init_15 : decode cX0_init 15 = .ok (.newarray .boolean, 2) := by decide +kernel
theorem dX0_init_17 : decode cX0_init 17 = .ok (.putfield 15, 3) := by decide +kernel
theorem dX0_init_20 : decode cX0_init 20 = .ok (.aload_n 0, 1) := by decide +kernel
theorem dX0_init_21 : decode cX0_init 21 = .ok (.bipush 8, 2) := by decide +kernel
theorem dX0_init_23 : decode cX0_init 23 = .ok (.bipush 12, 2) := by decide +kernel
theorem dX0_init_25 : decode cX0_init 25 = .ok (.multianewarray 19 2, 4) := by decide +kernel
theorem dX0_init_29 : decode cX0_init 29 = .ok (.putfield 21, 3) := by decide +kernel
theorem dX0_init_32 : decode cX0_init 32 = .ok (.return_, 1) := by decide +kernel
theorem dX0_add_0 : decode cX0_add 0 = .ok (.aload_n 0, 1) := by decide +kernel
theorem dX0_add_1 : decode cX0_add 1 = .ok (.getfield 9, 3) := by decide +kernel
theorem dX0_add_4 : decode cX0_add 4 = .ok (.aload_n 0, 1) := by decide +kernel
theorem dX0_add_5 : decode cX0_add 5 = .ok (.getfield 24, 3) := by decide +kernel
theorem dX0_add_8 : decode cX0_add 8 = .ok (.iload_n 1, 1) := by decide +kernel
theorem dX0_add_9 : decode cX0_add 9 = .ok (.iastore, 1) := by decide +kernel
theorem dX0_add_10 : decode cX0_add 10 = .ok (.aload_n 0, 1) := by decide +kernel
theorem dX0_add_11 : decode cX0_add 11 = .ok (.getfield 15, 3) := by decide +kernel
theorem dX0_add_14 : decode cX0_add 14 = .ok (.aload_n 0, 1) := by decide +kernel
theorem dX0_add_15 : decode cX0_add 15 = .ok (.getfield 24, 3) := by decide +kernel
theorem dX0_add_18 : decode cX0_add 18 = .ok (.iload_n 2, 1) := by decide +kernel
theorem dX0_add_19 : decode cX0_add 19 = .ok (.bastore, 1) := by decide +kernel
theorem dX0_add_20 : decode cX0_add 20 = .ok (.iconst 0, 1) := by decide +kernel
theorem dX0_add_21 : decode cX0_add 21 = .ok (.istore 4, 2) := by decide +kernel
theorem dX0_add_23 : decode cX0_add 23 = .ok (.iload 4, 2) := by decide +kernel
theorem dX0_add_25 : decode cX0_add 25 = .ok (.aload_n 3, 1) := by decide +kernel
theorem dX0_add_26 : decode cX0_add 26 = .ok (.getfield 28, 3) := by decide +kernel
theorem dX0_add_29 : decode cX0_add 29 = .ok (.if_icmp .ge 28, 3) := by decide +kernel
theorem dX0_add_32 : decode cX0_add 32 = .ok (.aload_n 0, 1) := by decide +kernel
theorem dX0_add_33 : decode cX0_add 33 = .ok (.getfield 21, 3) := by decide +kernel
theorem dX0_add_36 : decode cX0_add 36 = .ok (.aload_n 0, 1) := by decide +kernel
theorem dX0_add_37 : decode cX0_add 37 = .ok (.getfield 24, 3) := by decide +kernel
theorem dX0_add_40 : decode cX0_add 40 = .ok (.aaload, 1) := by decide +kernel
theorem dX0_add_41 : decode cX0_add 41 = .ok (.iload 4, 2) := by decide +kernel
theorem dX0_add_43 : decode cX0_add 43 = .ok (.aload_n 3, 1) := by decide +kernel
theorem dX0_add_44 : decode cX0_add 44 = .ok (.getfield 31, 3) := by decide +kernel
theorem dX0_add_47 : decode cX0_add 47 = .ok (.iload 4, 2) := by decide +kernel
theorem dX0_add_49 : decode cX0_add 49 = .ok (.iaload, 1) := by decide +kernel
theorem dX0_add_50 : decode cX0_add 50 = .ok (.iastore, 1) := by decide +kernel
theorem dX0_add_51 : decode cX0_add 51 = .ok (.iinc 4 1, 3) := by decide +kernel
theorem dX0_add_54 : decode cX0_add 54 = .ok (.goto (-31), 3) := by decide +kernel
theorem dX0_add_57 : decode cX0_add 57 = .ok (.aload_n 0, 1) := by decide +kernel
theorem dX0_add_58 : decode cX0_add 58 = .ok (.dup, 1) := by decide +kernel
theorem dX0_add_59 : decode cX0_add 59 = .ok (.getfield 24, 3) := by decide +kernel
theorem dX0_add_62 : decode cX0_add 62 = .ok (.iconst 1, 1) := by decide +kernel
theorem dX0_add_63 : decode cX0_add 63 = .ok (.iadd, 1) := by decide +kernel
theorem dX0_add_64 : decode cX0_add 64 = .ok (.putfield 24, 3) := by decide +kernel
theorem dX0_add_67 : decode cX0_add 67 = .ok (.aload_n 0, 1) := by decide +kernel
theorem dX0_add_68 : decode cX0_add 68 = .ok (.getfield 24, 3) := by decide +kernel
theorem dX0_add_71 : decode cX0_add 71 = .ok (.iconst 1, 1) := by decide +kernel
theorem dX0_add_72 : decode cX0_add 72 = .ok (.isub, 1) := by decide +kernel
theorem dX0_add_73 : decode cX0_add 73 = .ok (.ireturn, 1) := by decide +kernel
theorem dX0_putInAll_0 : decode cX0_putInAll 0 = .ok (.iconst 0, 1) := by decide +kernel
theorem dX0_putInAll_1 : decode cX0_putInAll 1 = .ok (.istore_n 3, 1) := by decide +kernel
theorem dX0_putInAll_2 : decode cX0_putInAll 2 = .ok (.iload_n 3, 1) := by decide +kernel
theorem dX0_putInAll_3 : decode cX0_putInAll 3 = .ok (.aload_n 0, 1) := by decide +kernel
theorem dX0_putInAll_4 : decode cX0_putInAll 4 = .ok (.getfield 24, 3) := by decide +kernel
theorem dX0_putInAll_7 : decode cX0_putInAll 7 = .ok (.if_icmp .ge 18, 3) := by decide +kernel
theorem dX0_putInAll_10 : decode cX0_putInAll 10 = .ok (.aload_n 0, 1) := by decide +kernel
theorem dX0_putInAll_11 : decode cX0_putInAll 11 = .ok (.getfield 21, 3) := by decide +kernel
theorem dX0_putInAll_14 : decode cX0_putInAll 14 = .ok (.iload_n 3, 1) := by decide +kernel
theorem dX0_putInAll_15 : decode cX0_putInAll 15 = .ok (.aaload, 1) := by decide +kernel
theorem dX0_putInAll_16 : decode cX0_putInAll 16 = .ok (.iload_n 1, 1) := by decide +kernel
theorem dX0_putInAll_17 : decode cX0_putInAll 17 = .ok (.iload_n 2, 1) := by decide +kernel
theorem dX0_putInAll_18 : decode cX0_putInAll 18 = .ok (.iastore, 1) := by decide +kernel
theorem dX0_putInAll_19 : decode cX0_putInAll 19 = .ok (.iinc 3 1, 3) := by decide +kernel
theorem dX0_putInAll_22 : decode cX0_putInAll 22 = .ok (.goto (-20), 3) := by decide +kernel
theorem dX0_putInAll_25 : decode cX0_putInAll 25 = .ok (.return_, 1) := by decide +kernel
theorem dX0_countCounted_0 : decode cX0_countCounted 0 = .ok (.iconst 0, 1) := by decide +kernel
theorem dX0_countCounted_1 : decode cX0_countCounted 1 = .ok (.istore_n 1, 1) := by decide +kernel
theorem dX0_countCounted_2 : decode cX0_countCounted 2 = .ok (.iconst 0, 1) := by decide +kernel
theorem dX0_countCounted_3 : decode cX0_countCounted 3 = .ok (.istore_n 2, 1) := by decide +kernel
theorem dX0_countCounted_4 : decode cX0_countCounted 4 = .ok (.iload_n 2, 1) := by decide +kernel
theorem dX0_countCounted_5 : decode cX0_countCounted 5 = .ok (.aload_n 0, 1) := by decide +kernel
theorem dX0_countCounted_6 : decode cX0_countCounted 6 = .ok (.getfield 24, 3) := by decide +kernel
theorem dX0_countCounted_9 : decode cX0_countCounted 9 = .ok (.if_icmp .ge 21, 3) := by decide +kernel
theorem dX0_countCounted_12 : decode cX0_countCounted 12 = .ok (.aload_n 0, 1) := by decide +kernel
theorem dX0_countCounted_13 : decode cX0_countCounted 13 = .ok (.getfield 15, 3) := by decide +kernel
theorem dX0_countCounted_16 : decode cX0_countCounted 16 = .ok (.iload_n 2, 1) := by decide +kernel
theorem dX0_countCounted_17 : decode cX0_countCounted 17 = .ok (.baload, 1) := by decide +kernel
theorem dX0_countCounted_18 : decode cX0_countCounted 18 = .ok (.ifCond .ne 6, 3) := by decide +kernel
theorem dX0_countCounted_21 : decode cX0_countCounted 21 = .ok (.iinc 1 1, 3) := by decide +kernel
theorem dX0_countCounted_24 : decode cX0_countCounted 24 = .ok (.iinc 2 1, 3) := by decide +kernel
theorem dX0_countCounted_27 : decode cX0_countCounted 27 = .ok (.goto (-23), 3) := by decide +kernel
theorem dX0_countCounted_30 : decode cX0_countCounted 30 = .ok (.iload_n 1, 1) := by decide +kernel
theorem dX0_countCounted_31 : decode cX0_countCounted 31 = .ok (.ireturn, 1) := by decide +kernel
theorem dX0_countedOdds_0 : decode cX0_countedOdds 0 = .ok (.iconst 0, 1) := by decide +kernel
theorem dX0_countedOdds_1 : decode cX0_countedOdds 1 = .ok (.istore_n 1, 1) := by decide +kernel
theorem dX0_countedOdds_2 : decode cX0_countedOdds 2 = .ok (.iconst 0, 1) := by decide +kernel
theorem dX0_countedOdds_3 : decode cX0_countedOdds 3 = .ok (.istore_n 2, 1) := by decide +kernel
theorem dX0_countedOdds_4 : decode cX0_countedOdds 4 = .ok (.iload_n 2, 1) := by decide +kernel
theorem dX0_countedOdds_5 : decode cX0_countedOdds 5 = .ok (.aload_n 0, 1) := by decide +kernel
theorem dX0_countedOdds_6 : decode cX0_countedOdds 6 = .ok (.getfield 24, 3) := by decide +kernel
theorem dX0_countedOdds_9 : decode cX0_countedOdds 9 = .ok (.if_icmp .ge 27, 3) := by decide +kernel
theorem dX0_countedOdds_12 : decode cX0_countedOdds 12 = .ok (.aload_n 0, 1) := by decide +kernel
theorem dX0_countedOdds_13 : decode cX0_countedOdds 13 = .ok (.getfield 15, 3) := by decide +kernel
theorem dX0_countedOdds_16 : decode cX0_countedOdds 16 = .ok (.iload_n 2, 1) := by decide +kernel
theorem dX0_countedOdds_17 : decode cX0_countedOdds 17 = .ok (.baload, 1) := by decide +kernel
theorem dX0_countedOdds_18 : decode cX0_countedOdds 18 = .ok (.ifCond .ne 12, 3) := by decide +kernel
theorem dX0_countedOdds_21 : decode cX0_countedOdds 21 = .ok (.iload_n 1, 1) := by decide +kernel
theorem dX0_countedOdds_22 : decode cX0_countedOdds 22 = .ok (.aload_n 0, 1) := by decide +kernel
theorem dX0_countedOdds_23 : decode cX0_countedOdds 23 = .ok (.getfield 9, 3) := by decide +kernel
theorem dX0_countedOdds_26 : decode cX0_countedOdds 26 = .ok (.iload_n 2, 1) := by decide +kernel
theorem dX0_countedOdds_27 : decode cX0_countedOdds 27 = .ok (.iaload, 1) := by decide +kernel
theorem dX0_countedOdds_28 : decode cX0_countedOdds 28 = .ok (.iadd, 1) := by decide +kernel
theorem dX0_countedOdds_29 : decode cX0_countedOdds 29 = .ok (.istore_n 1, 1) := by decide +kernel
theorem dX0_countedOdds_30 : decode cX0_countedOdds 30 = .ok (.iinc 2 1, 3) := by decide +kernel
theorem dX0_countedOdds_33 : decode cX0_countedOdds 33 = .ok (.goto (-29), 3) := by decide +kernel
theorem dX0_countedOdds_36 : decode cX0_countedOdds 36 = .ok (.iload_n 1, 1) := by decide +kernel
theorem dX0_countedOdds_37 : decode cX0_countedOdds 37 = .ok (.ireturn, 1) := by decide +kernel
theorem dX1_init_0 : decode cX1_init 0 = .ok (.aload_n 0, 1) := by decide +kernel
theorem dX1_init_1 : decode cX1_init 1 = .ok (.invokespecial 3, 3) := by decide +kernel
theorem dX1_init_4 : decode cX1_init 4 = .ok (.aload_n 0, 1) := by decide +kernel
theorem dX1_init_5 : decode cX1_init 5 = .ok (.bipush 12, 2) := by decide +kernel
theorem dX1_init_7 : decode cX1_init 7 = .ok (.newarray .int, 2) := by decide +kernel
theorem dX1_init_9 : decode cX1_init 9 = .ok (.putfield 9, 3) := by decide +kernel
theorem dX1_init_12 : decode cX1_init 12 = .ok (.aload_n 0, 1) := by decide +kernel
theorem dX1_init_13 : decode cX1_init 13 = .ok (.bipush 12, 2) := by decide +kernel
theorem dX1_init_15 : decode cX1_init 15 = .ok (.newarray .int, 2) := by decide +kernel
theorem dX1_init_17 : decode cX1_init 17 = .ok (.putfield 15, 3) := by decide +kernel
theorem dX1_init_20 : decode cX1_init 20 = .ok (.aload_n 0, 1) := by decide +kernel
theorem dX1_init_21 : decode cX1_init 21 = .ok (.bipush 12, 2) := by decide +kernel
theorem dX1_init_23 : decode cX1_init 23 = .ok (.newarray .int, 2) := by decide +kernel
theorem dX1_init_25 : decode cX1_init 25 = .ok (.putfield 18, 3) := by decide +kernel
theorem dX1_init_28 : decode cX1_init 28 = .ok (.return_, 1) := by decide +kernel
theorem dX1_add_0 : decode cX1_add 0 = .ok (.aload_n 0, 1) := by decide +kernel
theorem dX1_add_1 : decode cX1_add 1 = .ok (.getfield 9, 3) := by decide +kernel
theorem dX1_add_4 : decode cX1_add 4 = .ok (.aload_n 0, 1) := by decide +kernel
theorem dX1_add_5 : decode cX1_add 5 = .ok (.getfield 21, 3) := by decide +kernel
theorem dX1_add_8 : decode cX1_add 8 = .ok (.iload_n 1, 1) := by decide +kernel
theorem dX1_add_9 : decode cX1_add 9 = .ok (.iastore, 1) := by decide +kernel
theorem dX1_add_10 : decode cX1_add 10 = .ok (.aload_n 0, 1) := by decide +kernel
theorem dX1_add_11 : decode cX1_add 11 = .ok (.getfield 15, 3) := by decide +kernel
theorem dX1_add_14 : decode cX1_add 14 = .ok (.aload_n 0, 1) := by decide +kernel
theorem dX1_add_15 : decode cX1_add 15 = .ok (.getfield 21, 3) := by decide +kernel
theorem dX1_add_18 : decode cX1_add 18 = .ok (.iload_n 2, 1) := by decide +kernel
theorem dX1_add_19 : decode cX1_add 19 = .ok (.iastore, 1) := by decide +kernel
theorem dX1_add_20 : decode cX1_add 20 = .ok (.aload_n 0, 1) := by decide +kernel
theorem dX1_add_21 : decode cX1_add 21 = .ok (.getfield 18, 3) := by decide +kernel
theorem dX1_add_24 : decode cX1_add 24 = .ok (.aload_n 0, 1) := by decide +kernel
theorem dX1_add_25 : decode cX1_add 25 = .ok (.getfield 21, 3) := by decide +kernel
theorem dX1_add_28 : decode cX1_add 28 = .ok (.iload_n 3, 1) := by decide +kernel
theorem dX1_add_29 : decode cX1_add 29 = .ok (.iastore, 1) := by decide +kernel
theorem dX1_add_30 : decode cX1_add 30 = .ok (.aload_n 0, 1) := by decide +kernel
theorem dX1_add_31 : decode cX1_add 31 = .ok (.dup, 1) := by decide +kernel
theorem dX1_add_32 : decode cX1_add 32 = .ok (.getfield 21, 3) := by decide +kernel
theorem dX1_add_35 : decode cX1_add 35 = .ok (.iconst 1, 1) := by decide +kernel
theorem dX1_add_36 : decode cX1_add 36 = .ok (.iadd, 1) := by decide +kernel
theorem dX1_add_37 : decode cX1_add 37 = .ok (.putfield 21, 3) := by decide +kernel
theorem dX1_add_40 : decode cX1_add 40 = .ok (.aload_n 0, 1) := by decide +kernel
theorem dX1_add_41 : decode cX1_add 41 = .ok (.getfield 21, 3) := by decide +kernel
theorem dX1_add_44 : decode cX1_add 44 = .ok (.iconst 1, 1) := by decide +kernel
theorem dX1_add_45 : decode cX1_add 45 = .ok (.isub, 1) := by decide +kernel
theorem dX1_add_46 : decode cX1_add 46 = .ok (.ireturn, 1) := by decide +kernel
theorem dX2_init_0 : decode cX2_init 0 = .ok (.aload_n 0, 1) := by decide +kernel
theorem dX2_init_1 : decode cX2_init 1 = .ok (.invokespecial 3, 3) := by decide +kernel
theorem dX2_init_4 : decode cX2_init 4 = .ok (.aload_n 0, 1) := by decide +kernel
theorem dX2_init_5 : decode cX2_init 5 = .ok (.bipush 40, 2) := by decide +kernel
theorem dX2_init_7 : decode cX2_init 7 = .ok (.newarray .int, 2) := by decide +kernel
theorem dX2_init_9 : decode cX2_init 9 = .ok (.putfield 9, 3) := by decide +kernel
theorem dX2_init_12 : decode cX2_init 12 = .ok (.aload_n 0, 1) := by decide +kernel
theorem dX2_init_13 : decode cX2_init 13 = .ok (.bipush 40, 2) := by decide +kernel
theorem dX2_init_15 : decode cX2_init 15 = .ok (.newarray .int, 2) := by decide +kernel
theorem dX2_init_17 : decode cX2_init 17 = .ok (.putfield 15, 3) := by decide +kernel
theorem dX2_init_20 : decode cX2_init 20 = .ok (.aload_n 0, 1) := by decide +kernel
theorem dX2_init_21 : decode cX2_init 21 = .ok (.bipush 40, 2) := by decide +kernel
theorem dX2_init_23 : decode cX2_init 23 = .ok (.newarray .int, 2) := by decide +kernel
theorem dX2_init_25 : decode cX2_init 25 = .ok (.putfield 18, 3) := by decide +kernel
theorem dX2_init_28 : decode cX2_init 28 = .ok (.aload_n 0, 1) := by decide +kernel
theorem dX2_init_29 : decode cX2_init 29 = .ok (.bipush 40, 2) := by decide +kernel
theorem dX2_init_31 : decode cX2_init 31 = .ok (.newarray .int, 2) := by decide +kernel
theorem dX2_init_33 : decode cX2_init 33 = .ok (.putfield 21, 3) := by decide +kernel
theorem dX2_init_36 : decode cX2_init 36 = .ok (.return_, 1) := by decide +kernel
theorem dX2_add_0 : decode cX2_add 0 = .ok (.aload_n 0, 1) := by decide +kernel
theorem dX2_add_1 : decode cX2_add 1 = .ok (.getfield 9, 3) := by decide +kernel
theorem dX2_add_4 : decode cX2_add 4 = .ok (.aload_n 0, 1) := by decide +kernel
theorem dX2_add_5 : decode cX2_add 5 = .ok (.getfield 24, 3) := by decide +kernel
theorem dX2_add_8 : decode cX2_add 8 = .ok (.iload_n 1, 1) := by decide +kernel
theorem dX2_add_9 : decode cX2_add 9 = .ok (.iastore, 1) := by decide +kernel
theorem dX2_add_10 : decode cX2_add 10 = .ok (.aload_n 0, 1) := by decide +kernel
theorem dX2_add_11 : decode cX2_add 11 = .ok (.getfield 15, 3) := by decide +kernel
theorem dX2_add_14 : decode cX2_add 14 = .ok (.aload_n 0, 1) := by decide +kernel
theorem dX2_add_15 : decode cX2_add 15 = .ok (.getfield 24, 3) := by decide +kernel
theorem dX2_add_18 : decode cX2_add 18 = .ok (.iload_n 2, 1) := by decide +kernel
theorem dX2_add_19 : decode cX2_add 19 = .ok (.iastore, 1) := by decide +kernel
theorem dX2_add_20 : decode cX2_add 20 = .ok (.aload_n 0, 1) := by decide +kernel
theorem dX2_add_21 : decode cX2_add 21 = .ok (.getfield 18, 3) := by decide +kernel
theorem dX2_add_24 : decode cX2_add 24 = .ok (.aload_n 0, 1) := by decide +kernel
theorem dX2_add_25 : decode cX2_add 25 = .ok (.getfield 24, 3) := by decide +kernel
theorem dX2_add_28 : decode cX2_add 28 = .ok (.iload_n 3, 1) := by decide +kernel
theorem dX2_add_29 : decode cX2_add 29 = .ok (.iastore, 1) := by decide +kernel
theorem dX2_add_30 : decode cX2_add 30 = .ok (.aload_n 0, 1) := by decide +kernel
theorem dX2_add_31 : decode cX2_add 31 = .ok (.getfield 21, 3) := by decide +kernel
theorem dX2_add_34 : decode cX2_add 34 = .ok (.aload_n 0, 1) := by decide +kernel
theorem dX2_add_35 : decode cX2_add 35 = .ok (.getfield 24, 3) := by decide +kernel
theorem dX2_add_38 : decode cX2_add 38 = .ok (.iload 4, 2) := by decide +kernel
theorem dX2_add_40 : decode cX2_add 40 = .ok (.iastore, 1) := by decide +kernel
theorem dX2_add_41 : decode cX2_add 41 = .ok (.aload_n 0, 1) := by decide +kernel
theorem dX2_add_42 : decode cX2_add 42 = .ok (.dup, 1) := by decide +kernel
theorem dX2_add_43 : decode cX2_add 43 = .ok (.getfield 24, 3) := by decide +kernel
theorem dX2_add_46 : decode cX2_add 46 = .ok (.iconst 1, 1) := by decide +kernel
theorem dX2_add_47 : decode cX2_add 47 = .ok (.iadd, 1) := by decide +kernel
theorem dX2_add_48 : decode cX2_add 48 = .ok (.putfield 24, 3) := by decide +kernel
theorem dX2_add_51 : decode cX2_add 51 = .ok (.aload_n 0, 1) := by decide +kernel
theorem dX2_add_52 : decode cX2_add 52 = .ok (.getfield 24, 3) := by decide +kernel
theorem dX2_add_55 : decode cX2_add 55 = .ok (.ireturn, 1) := by decide +kernel
set_option maxRecDepth 20000 in
theorem ggX2_sumUp_X2_isTaken : GoodIn wsX2_sumUp wsX2_isTaken := goodIn_r _ [9, 10, 14, 15, 16, 17, 18] (by decide +kernel) (by decide +kernel)
set_option maxRecDepth 20000 in
theorem gX2_sumUp_X2_isTaken : GoodIn wsX2_sumUp (wsV RX2 28 RX2 yX2_isTaken wsX2_isTaken) := goodIn_app (goodIn_of _ (by decide +kernel)) ggX2_sumUp_X2_isTaken
set_option maxRecDepth 20000 in
theorem ggX2_sumUp_X3_slotOf : GoodIn wsX2_sumUp wsX3_slotOf := goodIn_r _ [13] (by decide +kernel) (by decide +kernel)
set_option maxRecDepth 20000 in
theorem gX2_sumUp_X3_slotOf_n32 : GoodIn wsX2_sumUp (wsX3_slotOf) := ggX2_sumUp_X3_slotOf
theorem dX2_sumUp_0 : decode cX2_sumUp 0 = .ok (.iconst 0, 1) := by decide +kernel
theorem dX2_sumUp_1 : decode cX2_sumUp 1 = .ok (.istore 4, 2) := by decide +kernel
theorem dX2_sumUp_3 : decode cX2_sumUp 3 = .ok (.iload 4, 2) := by decide +kernel
theorem dX2_sumUp_5 : decode cX2_sumUp 5 = .ok (.aload_n 3, 1) := by decide +kernel
theorem dX2_sumUp_6 : decode cX2_sumUp 6 = .ok (.arraylength, 1) := by decide +kernel
theorem dX2_sumUp_7 : decode cX2_sumUp 7 = .ok (.if_icmp .ge 14, 3) := by decide +kernel
theorem dX2_sumUp_10 : decode cX2_sumUp 10 = .ok (.aload_n 3, 1) := by decide +kernel
theorem dX2_sumUp_11 : decode cX2_sumUp 11 = .ok (.iload 4, 2) := by decide +kernel
theorem dX2_sumUp_13 : decode cX2_sumUp 13 = .ok (.iconst 0, 1) := by decide +kernel
theorem dX2_sumUp_14 : decode cX2_sumUp 14 = .ok (.iastore, 1) := by decide +kernel
theorem dX2_sumUp_15 : decode cX2_sumUp 15 = .ok (.iinc 4 1, 3) := by decide +kernel
theorem dX2_sumUp_18 : decode cX2_sumUp 18 = .ok (.goto (-15), 3) := by decide +kernel
theorem dX2_sumUp_21 : decode cX2_sumUp 21 = .ok (.iconst 0, 1) := by decide +kernel
theorem dX2_sumUp_22 : decode cX2_sumUp 22 = .ok (.istore 4, 2) := by decide +kernel
theorem dX2_sumUp_24 : decode cX2_sumUp 24 = .ok (.iload 4, 2) := by decide +kernel
theorem dX2_sumUp_26 : decode cX2_sumUp 26 = .ok (.aload_n 0, 1) := by decide +kernel
theorem dX2_sumUp_27 : decode cX2_sumUp 27 = .ok (.getfield 24, 3) := by decide +kernel
theorem dX2_sumUp_30 : decode cX2_sumUp 30 = .ok (.if_icmp .ge 73, 3) := by decide +kernel
theorem dX2_sumUp_33 : decode cX2_sumUp 33 = .ok (.aload_n 0, 1) := by decide +kernel
theorem dX2_sumUp_34 : decode cX2_sumUp 34 = .ok (.iload 4, 2) := by decide +kernel
theorem dX2_sumUp_36 : decode cX2_sumUp 36 = .ok (.iload_n 1, 1) := by decide +kernel
theorem dX2_sumUp_37 : decode cX2_sumUp 37 = .ok (.invokevirtual 28, 3) := by decide +kernel
theorem dX2_sumUp_40 : decode cX2_sumUp 40 = .ok (.ifCond .ne 6, 3) := by decide +kernel
theorem dX2_sumUp_43 : decode cX2_sumUp 43 = .ok (.goto 54, 3) := by decide +kernel
theorem dX2_sumUp_46 : decode cX2_sumUp 46 = .ok (.aload_n 0, 1) := by decide +kernel
theorem dX2_sumUp_47 : decode cX2_sumUp 47 = .ok (.getfield 18, 3) := by decide +kernel
theorem dX2_sumUp_50 : decode cX2_sumUp 50 = .ok (.iload 4, 2) := by decide +kernel
theorem dX2_sumUp_52 : decode cX2_sumUp 52 = .ok (.iaload, 1) := by decide +kernel
theorem dX2_sumUp_53 : decode cX2_sumUp 53 = .ok (.iconst (-1), 1) := by decide +kernel
theorem dX2_sumUp_54 : decode cX2_sumUp 54 = .ok (.if_icmp .ne 7, 3) := by decide +kernel
theorem dX2_sumUp_57 : decode cX2_sumUp 57 = .ok (.iconst 1, 1) := by decide +kernel
theorem dX2_sumUp_58 : decode cX2_sumUp 58 = .ok (.goto 12, 3) := by decide +kernel
theorem dX2_sumUp_61 : decode cX2_sumUp 61 = .ok (.aload_n 2, 1) := by decide +kernel
theorem dX2_sumUp_62 : decode cX2_sumUp 62 = .ok (.aload_n 0, 1) := by decide +kernel
theorem dX2_sumUp_63 : decode cX2_sumUp 63 = .ok (.getfield 18, 3) := by decide +kernel
theorem dX2_sumUp_66 : decode cX2_sumUp 66 = .ok (.iload 4, 2) := by decide +kernel
theorem dX2_sumUp_68 : decode cX2_sumUp 68 = .ok (.iaload, 1) := by decide +kernel
theorem dX2_sumUp_69 : decode cX2_sumUp 69 = .ok (.iaload, 1) := by decide +kernel
theorem dX2_sumUp_70 : decode cX2_sumUp 70 = .ok (.istore 5, 2) := by decide +kernel
theorem dX2_sumUp_72 : decode cX2_sumUp 72 = .ok (.aload_n 3, 1) := by decide +kernel
theorem dX2_sumUp_73 : decode cX2_sumUp 73 = .ok (.aload_n 0, 1) := by decide +kernel
theorem dX2_sumUp_74 : decode cX2_sumUp 74 = .ok (.getfield 9, 3) := by decide +kernel
theorem dX2_sumUp_77 : decode cX2_sumUp 77 = .ok (.iload 4, 2) := by decide +kernel
theorem dX2_sumUp_79 : decode cX2_sumUp 79 = .ok (.iaload, 1) := by decide +kernel
theorem dX2_sumUp_80 : decode cX2_sumUp 80 = .ok (.invokestatic 32, 3) := by decide +kernel
theorem dX2_sumUp_83 : decode cX2_sumUp 83 = .ok (.dup2, 1) := by decide +kernel
theorem dX2_sumUp_84 : decode cX2_sumUp 84 = .ok (.iaload, 1) := by decide +kernel
theorem dX2_sumUp_85 : decode cX2_sumUp 85 = .ok (.aload_n 0, 1) := by decide +kernel
theorem dX2_sumUp_86 : decode cX2_sumUp 86 = .ok (.getfield 21, 3) := by decide +kernel
theorem dX2_sumUp_89 : decode cX2_sumUp 89 = .ok (.iload 4, 2) := by decide +kernel
theorem dX2_sumUp_91 : decode cX2_sumUp 91 = .ok (.iaload, 1) := by decide +kernel
theorem dX2_sumUp_92 : decode cX2_sumUp 92 = .ok (.iload 5, 2) := by decide +kernel
theorem dX2_sumUp_94 : decode cX2_sumUp 94 = .ok (.imul, 1) := by decide +kernel
theorem dX2_sumUp_95 : decode cX2_sumUp 95 = .ok (.iadd, 1) := by decide +kernel
theorem dX2_sumUp_96 : decode cX2_sumUp 96 = .ok (.iastore, 1) := by decide +kernel
theorem dX2_sumUp_97 : decode cX2_sumUp 97 = .ok (.iinc 4 1, 3) := by decide +kernel
theorem dX2_sumUp_100 : decode cX2_sumUp 100 = .ok (.goto (-76), 3) := by decide +kernel
theorem dX2_sumUp_103 : decode cX2_sumUp 103 = .ok (.return_, 1) := by decide +kernel
set_option maxRecDepth 20000 in
theorem ggX2_weigh_X2_isTaken : GoodIn wsX2_weigh wsX2_isTaken := goodIn_r _ [9, 10, 11, 12, 13, 14, 15] (by decide +kernel) (by decide +kernel)
set_option maxRecDepth 20000 in
theorem gX2_weigh_X2_isTaken : GoodIn wsX2_weigh (wsV RX2 28 RX2 yX2_isTaken wsX2_isTaken) := goodIn_app (goodIn_of _ (by decide +kernel)) ggX2_weigh_X2_isTaken
theorem dX2_weigh_0 : decode cX2_weigh 0 = .ok (.iconst 0, 1) := by decide +kernel
theorem dX2_weigh_1 : decode cX2_weigh 1 = .ok (.istore 4, 2) := by decide +kernel
theorem dX2_weigh_3 : decode cX2_weigh 3 = .ok (.iload 4, 2) := by decide +kernel
theorem dX2_weigh_5 : decode cX2_weigh 5 = .ok (.aload_n 3, 1) := by decide +kernel
theorem dX2_weigh_6 : decode cX2_weigh 6 = .ok (.arraylength, 1) := by decide +kernel
theorem dX2_weigh_7 : decode cX2_weigh 7 = .ok (.if_icmp .ge 14, 3) := by decide +kernel
theorem dX2_weigh_10 : decode cX2_weigh 10 = .ok (.aload_n 3, 1) := by decide +kernel
theorem dX2_weigh_11 : decode cX2_weigh 11 = .ok (.iload 4, 2) := by decide +kernel
theorem dX2_weigh_13 : decode cX2_weigh 13 = .ok (.iconst 0, 1) := by decide +kernel
theorem dX2_weigh_14 : decode cX2_weigh 14 = .ok (.iastore, 1) := by decide +kernel
theorem dX2_weigh_15 : decode cX2_weigh 15 = .ok (.iinc 4 1, 3) := by decide +kernel
theorem dX2_weigh_18 : decode cX2_weigh 18 = .ok (.goto (-15), 3) := by decide +kernel
theorem dX2_weigh_21 : decode cX2_weigh 21 = .ok (.iconst 0, 1) := by decide +kernel
theorem dX2_weigh_22 : decode cX2_weigh 22 = .ok (.istore 4, 2) := by decide +kernel
theorem dX2_weigh_24 : decode cX2_weigh 24 = .ok (.iconst 0, 1) := by decide +kernel
theorem dX2_weigh_25 : decode cX2_weigh 25 = .ok (.istore 5, 2) := by decide +kernel
theorem dX2_weigh_27 : decode cX2_weigh 27 = .ok (.iload 5, 2) := by decide +kernel
theorem dX2_weigh_29 : decode cX2_weigh 29 = .ok (.aload_n 0, 1) := by decide +kernel
theorem dX2_weigh_30 : decode cX2_weigh 30 = .ok (.getfield 24, 3) := by decide +kernel
theorem dX2_weigh_33 : decode cX2_weigh 33 = .ok (.if_icmp .ge 78, 3) := by decide +kernel
theorem dX2_weigh_36 : decode cX2_weigh 36 = .ok (.aload_n 0, 1) := by decide +kernel
theorem dX2_weigh_37 : decode cX2_weigh 37 = .ok (.getfield 9, 3) := by decide +kernel
theorem dX2_weigh_40 : decode cX2_weigh 40 = .ok (.iload 5, 2) := by decide +kernel
theorem dX2_weigh_42 : decode cX2_weigh 42 = .ok (.iaload, 1) := by decide +kernel
theorem dX2_weigh_43 : decode cX2_weigh 43 = .ok (.iload_n 2, 1) := by decide +kernel
theorem dX2_weigh_44 : decode cX2_weigh 44 = .ok (.if_icmp .ne 61, 3) := by decide +kernel
theorem dX2_weigh_47 : decode cX2_weigh 47 = .ok (.aload_n 0, 1) := by decide +kernel
theorem dX2_weigh_48 : decode cX2_weigh 48 = .ok (.iload 5, 2) := by decide +kernel
theorem dX2_weigh_50 : decode cX2_weigh 50 = .ok (.iload_n 1, 1) := by decide +kernel
theorem dX2_weigh_51 : decode cX2_weigh 51 = .ok (.invokevirtual 28, 3) := by decide +kernel
theorem dX2_weigh_54 : decode cX2_weigh 54 = .ok (.ifCond .ne 6, 3) := by decide +kernel
theorem dX2_weigh_57 : decode cX2_weigh 57 = .ok (.goto 48, 3) := by decide +kernel
theorem dX2_weigh_60 : decode cX2_weigh 60 = .ok (.aload_n 0, 1) := by decide +kernel
theorem dX2_weigh_61 : decode cX2_weigh 61 = .ok (.getfield 18, 3) := by decide +kernel
theorem dX2_weigh_64 : decode cX2_weigh 64 = .ok (.iload 5, 2) := by decide +kernel
theorem dX2_weigh_66 : decode cX2_weigh 66 = .ok (.iaload, 1) := by decide +kernel
theorem dX2_weigh_67 : decode cX2_weigh 67 = .ok (.iconst (-1), 1) := by decide +kernel
theorem dX2_weigh_68 : decode cX2_weigh 68 = .ok (.if_icmp .ne 18, 3) := by decide +kernel
theorem dX2_weigh_71 : decode cX2_weigh 71 = .ok (.iload 4, 2) := by decide +kernel
theorem dX2_weigh_73 : decode cX2_weigh 73 = .ok (.aload_n 0, 1) := by decide +kernel
theorem dX2_weigh_74 : decode cX2_weigh 74 = .ok (.getfield 21, 3) := by decide +kernel
theorem dX2_weigh_77 : decode cX2_weigh 77 = .ok (.iload 5, 2) := by decide +kernel
theorem dX2_weigh_79 : decode cX2_weigh 79 = .ok (.iaload, 1) := by decide +kernel
theorem dX2_weigh_80 : decode cX2_weigh 80 = .ok (.iadd, 1) := by decide +kernel
theorem dX2_weigh_81 : decode cX2_weigh 81 = .ok (.istore 4, 2) := by decide +kernel
theorem dX2_weigh_83 : decode cX2_weigh 83 = .ok (.goto 22, 3) := by decide +kernel
theorem dX2_weigh_86 : decode cX2_weigh 86 = .ok (.aload_n 3, 1) := by decide +kernel
theorem dX2_weigh_87 : decode cX2_weigh 87 = .ok (.aload_n 0, 1) := by decide +kernel
theorem dX2_weigh_88 : decode cX2_weigh 88 = .ok (.getfield 18, 3) := by decide +kernel
theorem dX2_weigh_91 : decode cX2_weigh 91 = .ok (.iload 5, 2) := by decide +kernel
theorem dX2_weigh_93 : decode cX2_weigh 93 = .ok (.iaload, 1) := by decide +kernel
theorem dX2_weigh_94 : decode cX2_weigh 94 = .ok (.dup2, 1) := by decide +kernel
theorem dX2_weigh_95 : decode cX2_weigh 95 = .ok (.iaload, 1) := by decide +kernel
theorem dX2_weigh_96 : decode cX2_weigh 96 = .ok (.aload_n 0, 1) := by decide +kernel
theorem dX2_weigh_97 : decode cX2_weigh 97 = .ok (.getfield 21, 3) := by decide +kernel
theorem dX2_weigh_100 : decode cX2_weigh 100 = .ok (.iload 5, 2) := by decide +kernel
theorem dX2_weigh_102 : decode cX2_weigh 102 = .ok (.iaload, 1) := by decide +kernel
theorem dX2_weigh_103 : decode cX2_weigh 103 = .ok (.iadd, 1) := by decide +kernel
theorem dX2_weigh_104 : decode cX2_weigh 104 = .ok (.iastore, 1) := by decide +kernel
theorem dX2_weigh_105 : decode cX2_weigh 105 = .ok (.iinc 5 1, 3) := by decide +kernel
theorem dX2_weigh_108 : decode cX2_weigh 108 = .ok (.goto (-81), 3) := by decide +kernel
theorem dX2_weigh_111 : decode cX2_weigh 111 = .ok (.iload 4, 2) := by decide +kernel
theorem dX2_weigh_113 : decode cX2_weigh 113 = .ok (.ireturn, 1) := by decide +kernel
theorem dX2_isTaken_0 : decode cX2_isTaken 0 = .ok (.aload_n 0, 1) := by decide +kernel
theorem dX2_isTaken_1 : decode cX2_isTaken 1 = .ok (.getfield 15, 3) := by decide +kernel
theorem dX2_isTaken_4 : decode cX2_isTaken 4 = .ok (.iload_n 1, 1) := by decide +kernel
theorem dX2_isTaken_5 : decode cX2_isTaken 5 = .ok (.iaload, 1) := by decide +kernel
theorem dX2_isTaken_6 : decode cX2_isTaken 6 = .ok (.iconst (-1), 1) := by decide +kernel
theorem dX2_isTaken_7 : decode cX2_isTaken 7 = .ok (.if_icmp .eq 17, 3) := by decide +kernel
theorem dX2_isTaken_10 : decode cX2_isTaken 10 = .ok (.iload_n 2, 1) := by decide +kernel
theorem dX2_isTaken_11 : decode cX2_isTaken 11 = .ok (.aload_n 0, 1) := by decide +kernel
theorem dX2_isTaken_12 : decode cX2_isTaken 12 = .ok (.getfield 15, 3) := by decide +kernel
theorem dX2_isTaken_15 : decode cX2_isTaken 15 = .ok (.iload_n 1, 1) := by decide +kernel
theorem dX2_isTaken_16 : decode cX2_isTaken 16 = .ok (.iaload, 1) := by decide +kernel
theorem dX2_isTaken_17 : decode cX2_isTaken 17 = .ok (.ishr, 1) := by decide +kernel
theorem dX2_isTaken_18 : decode cX2_isTaken 18 = .ok (.iconst 1, 1) := by decide +kernel
theorem dX2_isTaken_19 : decode cX2_isTaken 19 = .ok (.iand, 1) := by decide +kernel
theorem dX2_isTaken_20 : decode cX2_isTaken 20 = .ok (.iconst 1, 1) := by decide +kernel
theorem dX2_isTaken_21 : decode cX2_isTaken 21 = .ok (.if_icmp .ne 7, 3) := by decide +kernel
theorem dX2_isTaken_24 : decode cX2_isTaken 24 = .ok (.iconst 1, 1) := by decide +kernel
theorem dX2_isTaken_25 : decode cX2_isTaken 25 = .ok (.goto 4, 3) := by decide +kernel
theorem dX2_isTaken_28 : decode cX2_isTaken 28 = .ok (.iconst 0, 1) := by decide +kernel
theorem dX2_isTaken_29 : decode cX2_isTaken 29 = .ok (.ireturn, 1) := by decide +kernel
theorem dJ9_abs_0f7a4_0 : decode cJ9_abs_0f7a4 0 = .ok (.iload_n 0, 1) := by decide +kernel
theorem dJ9_abs_0f7a4_1 : decode cJ9_abs_0f7a4 1 = .ok (.ifCond .ge 8, 3) := by decide +kernel
theorem dJ9_abs_0f7a4_4 : decode cJ9_abs_0f7a4 4 = .ok (.iload_n 0, 1) := by decide +kernel
theorem dJ9_abs_0f7a4_5 : decode cJ9_abs_0f7a4 5 = .ok (.ineg, 1) := by decide +kernel
theorem dJ9_abs_0f7a4_6 : decode cJ9_abs_0f7a4 6 = .ok (.goto 4, 3) := by decide +kernel
theorem dJ9_abs_0f7a4_9 : decode cJ9_abs_0f7a4 9 = .ok (.iload_n 0, 1) := by decide +kernel
theorem dJ9_abs_0f7a4_10 : decode cJ9_abs_0f7a4 10 = .ok (.ireturn, 1) := by decide +kernel
theorem dJ9_max_7cf53_0 : decode cJ9_max_7cf53 0 = .ok (.iload_n 0, 1) := by decide +kernel
theorem dJ9_max_7cf53_1 : decode cJ9_max_7cf53 1 = .ok (.iload_n 1, 1) := by decide +kernel
theorem dJ9_max_7cf53_2 : decode cJ9_max_7cf53 2 = .ok (.if_icmp .lt 7, 3) := by decide +kernel
theorem dJ9_max_7cf53_5 : decode cJ9_max_7cf53 5 = .ok (.iload_n 0, 1) := by decide +kernel
theorem dJ9_max_7cf53_6 : decode cJ9_max_7cf53 6 = .ok (.goto 4, 3) := by decide +kernel
theorem dJ9_max_7cf53_9 : decode cJ9_max_7cf53 9 = .ok (.iload_n 1, 1) := by decide +kernel
theorem dJ9_max_7cf53_10 : decode cJ9_max_7cf53 10 = .ok (.ireturn, 1) := by decide +kernel
end
section
set_option maxRecDepth 20000 in
theorem ggX3_init_X1_init : GoodIn wsX3_init wsX1_init := goodIn_r _ [23, 24, 2, 3, 16, 25, 26, 27, 55, 56, 57, 58] (by decide +kernel) (by decide +kernel)
set_option maxRecDepth 20000 in
theorem gX3_init_X1_init_n9 : GoodIn wsX3_init (wsX1_init) := ggX3_init_X1_init
set_option maxRecDepth 20000 in
theorem ggX3_init_X2_init : GoodIn wsX3_init wsX2_init := goodIn_r _ [29, 30, 2, 3, 16, 31, 32, 33, 34, 71, 72, 73, 74, 75] (by decide +kernel) (by decide +kernel)
set_option maxRecDepth 20000 in
theorem gX3_init_X2_init_n18 : GoodIn wsX3_init (wsX2_init) := ggX3_init_X2_init
set_option maxRecDepth 20000 in
theorem ggX3_init_X0_init : GoodIn wsX3_init wsX0_init := goodIn_r _ [36, 37, 2, 3, 16, 38, 39, 40, 41, 42, 76, 77, 78, 79] (by decide +kernel) (by decide +kernel)
set_option maxRecDepth 20000 in
theorem gX3_init_X0_init_n25 : GoodIn wsX3_init (wsX0_init) := ggX3_init_X0_init
set_option maxRecDepth 20000 in
theorem ggX3_init_X3_startAnew : GoodIn wsX3_init wsX3_startAnew := goodIn_r _ [47, 7, 48, 11, 49, 15, 50, 51, 52, 53, 54, 59, 60, 61, 62, 63, 64, 65, 66, 67, 68, 69, 70, 55, 56, 57, 58, 71, 72, 73, 74, 75, 76, 77, 78, 79] (by decide +kernel) (by decide +kernel)
set_option maxRecDepth 20000 in
theorem gX3_init_X3_startAnew : GoodIn wsX3_init (wsV RX3 46 RX3 yX3_startAnew wsX3_startAnew) := goodIn_app (goodIn_of _ (by decide +kernel)) ggX3_init_X3_startAnew
theorem dX3_init_0 : decode cX3_init 0 = .ok (.aload_n 0, 1) := by decide +kernel
theorem dX3_init_1 : decode cX3_init 1 = .ok (.invokespecial 1, 3) := by decide +kernel
theorem dX3_init_4 : decode cX3_init 4 = .ok (.aload_n 0, 1) := by decide +kernel
theorem dX3_init_5 : decode cX3_init 5 = .ok (.new 7, 3) := by decide +kernel
theorem dX3_init_8 : decode cX3_init 8 = .ok (.dup, 1) := by decide +kernel
theorem dX3_init_9 : decode cX3_init 9 = .ok (.invokespecial 9, 3) := by decide +kernel
theorem dX3_init_12 : decode cX3_init 12 = .ok (.putfield 10, 3) := by decide +kernel
theorem dX3_init_15 : decode cX3_init 15 = .ok (.aload_n 0, 1) := by decide +kernel
theorem dX3_init_16 : decode cX3_init 16 = .ok (.new 16, 3) := by decide +kernel
theorem dX3_init_19 : decode cX3_init 19 = .ok (.dup, 1) := by decide +kernel
theorem dX3_init_20 : decode cX3_init 20 = .ok (.invokespecial 18, 3) := by decide +kernel
theorem dX3_init_23 : decode cX3_init 23 = .ok (.putfield 19, 3) := by decide +kernel
theorem dX3_init_26 : decode cX3_init 26 = .ok (.aload_n 0, 1) := by decide +kernel
theorem dX3_init_27 : decode cX3_init 27 = .ok (.new 23, 3) := by decide +kernel
theorem dX3_init_30 : decode cX3_init 30 = .ok (.dup, 1) := by decide +kernel
theorem dX3_init_31 : decode cX3_init 31 = .ok (.invokespecial 25, 3) := by decide +kernel
theorem dX3_init_34 : decode cX3_init 34 = .ok (.putfield 26, 3) := by decide +kernel
theorem dX3_init_37 : decode cX3_init 37 = .ok (.aload_n 0, 1) := by decide +kernel
theorem dX3_init_38 : decode cX3_init 38 = .ok (.bipush 11, 2) := by decide +kernel
theorem dX3_init_40 : decode cX3_init 40 = .ok (.newarray .int, 2) := by decide +kernel
theorem dX3_init_42 : decode cX3_init 42 = .ok (.putfield 30, 3) := by decide +kernel
theorem dX3_init_45 : decode cX3_init 45 = .ok (.aload_n 0, 1) := by decide +kernel
theorem dX3_init_46 : decode cX3_init 46 = .ok (.bipush 8, 2) := by decide +kernel
theorem dX3_init_48 : decode cX3_init 48 = .ok (.newarray .int, 2) := by decide +kernel
theorem dX3_init_50 : decode cX3_init 50 = .ok (.putfield 34, 3) := by decide +kernel
theorem dX3_init_53 : decode cX3_init 53 = .ok (.aload_n 0, 1) := by decide +kernel
theorem dX3_init_54 : decode cX3_init 54 = .ok (.bipush 12, 2) := by decide +kernel
theorem dX3_init_56 : decode cX3_init 56 = .ok (.newarray .int, 2) := by decide +kernel
theorem dX3_init_58 : decode cX3_init 58 = .ok (.putfield 37, 3) := by decide +kernel
theorem dX3_init_61 : decode cX3_init 61 = .ok (.aload_n 0, 1) := by decide +kernel
theorem dX3_init_62 : decode cX3_init 62 = .ok (.bipush 12, 2) := by decide +kernel
theorem dX3_init_64 : decode cX3_init 64 = .ok (.newarray .int, 2) := by decide +kernel
theorem dX3_init_66 : decode cX3_init 66 = .ok (.putfield 40, 3) := by decide +kernel
theorem dX3_init_69 : decode cX3_init 69 = .ok (.aload_n 0, 1) := by decide +kernel
theorem dX3_init_70 : decode cX3_init 70 = .ok (.bipush 12, 2) := by decide +kernel
theorem dX3_init_72 : decode cX3_init 72 = .ok (.newarray .int, 2) := by decide +kernel
theorem dX3_init_74 : decode cX3_init 74 = .ok (.putfield 43, 3) := by decide +kernel
theorem dX3_init_77 : decode cX3_init 77 = .ok (.aload_n 0, 1) := by decide +kernel
theorem dX3_init_78 : decode cX3_init 78 = .ok (.iconst 1, 1) := by decide +kernel
theorem dX3_init_79 : decode cX3_init 79 = .ok (.iconst 0, 1) := by decide +kernel
theorem dX3_init_80 : decode cX3_init 80 = .ok (.invokevirtual 46, 3) := by decide +kernel
theorem dX3_init_83 : decode cX3_init 83 = .ok (.return_, 1) := by decide +kernel
set_option maxRecDepth 20000 in
theorem ggX3_begin_X3_isWithin : GoodIn wsX3_begin wsX3_isWithin := goodIn_r _ [7] (by decide +kernel) (by decide +kernel)
set_option maxRecDepth 20000 in
theorem gX3_begin_X3_isWithin : GoodIn wsX3_begin (va_wsS RX3 50 yX3_isWithin wsX3_isWithin) := goodIn_app (goodIn_of _ (by decide +kernel)) ggX3_begin_X3_isWithin
set_option maxRecDepth 20000 in
theorem ggX3_begin_X3_startAnew : GoodIn wsX3_begin wsX3_startAnew := goodIn_r _ [11, 12, 13, 2, 3, 14, 15, 16, 17, 18, 19, 20, 21, 22, 23, 24, 25, 26, 27, 28, 29, 30, 31, 37, 38, 39, 40, 32, 33, 34, 35, 36, 41, 42, 43, 44] (by decide +kernel) (by decide +kernel)
set_option maxRecDepth 20000 in
theorem gX3_begin_X3_startAnew : GoodIn wsX3_begin (wsV RX3 46 RX3 yX3_startAnew wsX3_startAnew) := goodIn_app (goodIn_of _ (by decide +kernel)) ggX3_begin_X3_startAnew
theorem dX3_begin_0 : decode cX3_begin 0 = .ok (.iload_n 1, 1) := by decide +kernel
theorem dX3_begin_1 : decode cX3_begin 1 = .ok (.iconst 1, 1) := by decide +kernel
theorem dX3_begin_2 : decode cX3_begin 2 = .ok (.bipush 6, 2) := by decide +kernel
theorem dX3_begin_4 : decode cX3_begin 4 = .ok (.invokestatic 50, 3) := by decide +kernel
theorem dX3_begin_7 : decode cX3_begin 7 = .ok (.ifCond .eq 12, 3) := by decide +kernel
theorem dX3_begin_10 : decode cX3_begin 10 = .ok (.iload_n 2, 1) := by decide +kernel
theorem dX3_begin_11 : decode cX3_begin 11 = .ok (.iconst 0, 1) := by decide +kernel
theorem dX3_begin_12 : decode cX3_begin 12 = .ok (.iconst 4, 1) := by decide +kernel
theorem dX3_begin_13 : decode cX3_begin 13 = .ok (.invokestatic 50, 3) := by decide +kernel
theorem dX3_begin_16 : decode cX3_begin 16 = .ok (.ifCond .ne 6, 3) := by decide +kernel
theorem dX3_begin_19 : decode cX3_begin 19 = .ok (.ldc 54, 2) := by decide +kernel
theorem dX3_begin_21 : decode cX3_begin 21 = .ok (.ireturn, 1) := by decide +kernel
theorem dX3_begin_22 : decode cX3_begin 22 = .ok (.aload_n 0, 1) := by decide +kernel
theorem dX3_begin_23 : decode cX3_begin 23 = .ok (.getfield 19, 3) := by decide +kernel
theorem dX3_begin_26 : decode cX3_begin 26 = .ok (.getfield 55, 3) := by decide +kernel
theorem dX3_begin_29 : decode cX3_begin 29 = .ok (.istore_n 3, 1) := by decide +kernel
theorem dX3_begin_30 : decode cX3_begin 30 = .ok (.aload_n 0, 1) := by decide +kernel
theorem dX3_begin_31 : decode cX3_begin 31 = .ok (.iload_n 1, 1) := by decide +kernel
theorem dX3_begin_32 : decode cX3_begin 32 = .ok (.iload_n 2, 1) := by decide +kernel
theorem dX3_begin_33 : decode cX3_begin 33 = .ok (.invokevirtual 46, 3) := by decide +kernel
theorem dX3_begin_36 : decode cX3_begin 36 = .ok (.iload_n 3, 1) := by decide +kernel
theorem dX3_begin_37 : decode cX3_begin 37 = .ok (.ireturn, 1) := by decide +kernel
set_option maxRecDepth 20000 in
theorem ggX3_name_X0_putInAll : GoodIn wsX3_name wsX0_putInAll := goodIn_r _ [10, 11, 12, 38, 39, 40, 41] (by decide +kernel) (by decide +kernel)
set_option maxRecDepth 20000 in
theorem gX3_name_X0_putInAll : GoodIn wsX3_name (wsV RX3 61 RX0 yX0_putInAll wsX0_putInAll) := goodIn_app (goodIn_of _ (by decide +kernel)) ggX3_name_X0_putInAll
set_option maxRecDepth 20000 in
theorem ggX3_name_X1_add : GoodIn wsX3_name wsX1_add := goodIn_r _ [17, 18, 19, 20, 21, 34, 35, 36, 37] (by decide +kernel) (by decide +kernel)
set_option maxRecDepth 20000 in
theorem gX3_name_X1_add : GoodIn wsX3_name (wsV RX3 64 RX1 yX1_add wsX1_add) := goodIn_app (goodIn_of _ (by decide +kernel)) ggX3_name_X1_add
theorem dX3_name_0 : decode cX3_name 0 = .ok (.iload_n 1, 1) := by decide +kernel
theorem dX3_name_1 : decode cX3_name 1 = .ok (.iload_n 2, 1) := by decide +kernel
theorem dX3_name_2 : decode cX3_name 2 = .ok (.if_icmp .gt 12, 3) := by decide +kernel
theorem dX3_name_5 : decode cX3_name 5 = .ok (.iload_n 2, 1) := by decide +kernel
theorem dX3_name_6 : decode cX3_name 6 = .ok (.iload_n 3, 1) := by decide +kernel
theorem dX3_name_7 : decode cX3_name 7 = .ok (.if_icmp .gt 7, 3) := by decide +kernel
theorem dX3_name_10 : decode cX3_name 10 = .ok (.iconst 1, 1) := by decide +kernel
theorem dX3_name_11 : decode cX3_name 11 = .ok (.goto 4, 3) := by decide +kernel
theorem dX3_name_14 : decode cX3_name 14 = .ok (.iconst 0, 1) := by decide +kernel
theorem dX3_name_15 : decode cX3_name 15 = .ok (.istore 4, 2) := by decide +kernel
theorem dX3_name_17 : decode cX3_name 17 = .ok (.iload 4, 2) := by decide +kernel
theorem dX3_name_19 : decode cX3_name 19 = .ok (.ifCond .eq 15, 3) := by decide +kernel
theorem dX3_name_22 : decode cX3_name 22 = .ok (.iload_n 1, 1) := by decide +kernel
theorem dX3_name_23 : decode cX3_name 23 = .ok (.bipush (-100), 2) := by decide +kernel
theorem dX3_name_25 : decode cX3_name 25 = .ok (.if_icmp .lt 9, 3) := by decide +kernel
theorem dX3_name_28 : decode cX3_name 28 = .ok (.iload_n 3, 1) := by decide +kernel
theorem dX3_name_29 : decode cX3_name 29 = .ok (.bipush 100, 2) := by decide +kernel
theorem dX3_name_31 : decode cX3_name 31 = .ok (.if_icmp .le 6, 3) := by decide +kernel
theorem dX3_name_34 : decode cX3_name 34 = .ok (.ldc 54, 2) := by decide +kernel
theorem dX3_name_36 : decode cX3_name 36 = .ok (.ireturn, 1) := by decide +kernel
theorem dX3_name_37 : decode cX3_name 37 = .ok (.aload_n 0, 1) := by decide +kernel
theorem dX3_name_38 : decode cX3_name 38 = .ok (.getfield 10, 3) := by decide +kernel
theorem dX3_name_41 : decode cX3_name 41 = .ok (.getfield 59, 3) := by decide +kernel
theorem dX3_name_44 : decode cX3_name 44 = .ok (.bipush 12, 2) := by decide +kernel
theorem dX3_name_46 : decode cX3_name 46 = .ok (.if_icmp .lt 6, 3) := by decide +kernel
theorem dX3_name_49 : decode cX3_name 49 = .ok (.ldc 60, 2) := by decide +kernel
theorem dX3_name_51 : decode cX3_name 51 = .ok (.ireturn, 1) := by decide +kernel
theorem dX3_name_52 : decode cX3_name 52 = .ok (.aload_n 0, 1) := by decide +kernel
theorem dX3_name_53 : decode cX3_name 53 = .ok (.getfield 26, 3) := by decide +kernel
theorem dX3_name_56 : decode cX3_name 56 = .ok (.aload_n 0, 1) := by decide +kernel
theorem dX3_name_57 : decode cX3_name 57 = .ok (.getfield 10, 3) := by decide +kernel
theorem dX3_name_60 : decode cX3_name 60 = .ok (.getfield 59, 3) := by decide +kernel
theorem dX3_name_63 : decode cX3_name 63 = .ok (.iload_n 2, 1) := by decide +kernel
theorem dX3_name_64 : decode cX3_name 64 = .ok (.invokevirtual 61, 3) := by decide +kernel
theorem dX3_name_67 : decode cX3_name 67 = .ok (.aload_n 0, 1) := by decide +kernel
theorem dX3_name_68 : decode cX3_name 68 = .ok (.getfield 10, 3) := by decide +kernel
theorem dX3_name_71 : decode cX3_name 71 = .ok (.iload_n 1, 1) := by decide +kernel
theorem dX3_name_72 : decode cX3_name 72 = .ok (.iload_n 2, 1) := by decide +kernel
theorem dX3_name_73 : decode cX3_name 73 = .ok (.iload_n 3, 1) := by decide +kernel
theorem dX3_name_74 : decode cX3_name 74 = .ok (.invokevirtual 64, 3) := by decide +kernel
theorem dX3_name_77 : decode cX3_name 77 = .ok (.ireturn, 1) := by decide +kernel
set_option maxRecDepth 20000 in
theorem ggX3_budget_X3_isWithin : GoodIn wsX3_budget wsX3_isWithin := goodIn_r _ [6] (by decide +kernel) (by decide +kernel)
set_option maxRecDepth 20000 in
theorem gX3_budget_X3_isWithin : GoodIn wsX3_budget (va_wsS RX3 50 yX3_isWithin wsX3_isWithin) := goodIn_app (goodIn_of _ (by decide +kernel)) ggX3_budget_X3_isWithin
theorem dX3_budget_0 : decode cX3_budget 0 = .ok (.iload_n 1, 1) := by decide +kernel
theorem dX3_budget_1 : decode cX3_budget 1 = .ok (.iconst 0, 1) := by decide +kernel
theorem dX3_budget_2 : decode cX3_budget 2 = .ok (.bipush 12, 2) := by decide +kernel
theorem dX3_budget_4 : decode cX3_budget 4 = .ok (.invokestatic 50, 3) := by decide +kernel
theorem dX3_budget_7 : decode cX3_budget 7 = .ok (.ifCond .ne 6, 3) := by decide +kernel
theorem dX3_budget_10 : decode cX3_budget 10 = .ok (.ldc 54, 2) := by decide +kernel
theorem dX3_budget_12 : decode cX3_budget 12 = .ok (.ireturn, 1) := by decide +kernel
theorem dX3_budget_13 : decode cX3_budget 13 = .ok (.aload_n 0, 1) := by decide +kernel
theorem dX3_budget_14 : decode cX3_budget 14 = .ok (.getfield 68, 3) := by decide +kernel
theorem dX3_budget_17 : decode cX3_budget 17 = .ok (.istore_n 2, 1) := by decide +kernel
theorem dX3_budget_18 : decode cX3_budget 18 = .ok (.aload_n 0, 1) := by decide +kernel
theorem dX3_budget_19 : decode cX3_budget 19 = .ok (.iload_n 1, 1) := by decide +kernel
theorem dX3_budget_20 : decode cX3_budget 20 = .ok (.putfield 68, 3) := by decide +kernel
theorem dX3_budget_23 : decode cX3_budget 23 = .ok (.iload_n 2, 1) := by decide +kernel
theorem dX3_budget_24 : decode cX3_budget 24 = .ok (.ireturn, 1) := by decide +kernel
theorem dX3_row_0 : decode cX3_row 0 = .ok (.aload_n 0, 1) := by decide +kernel
theorem dX3_row_1 : decode cX3_row 1 = .ok (.getfield 71, 3) := by decide +kernel
theorem dX3_row_4 : decode cX3_row 4 = .ok (.bipush 10, 2) := by decide +kernel
theorem dX3_row_6 : decode cX3_row 6 = .ok (.if_icmp .lt 6, 3) := by decide +kernel
theorem dX3_row_9 : decode cX3_row 9 = .ok (.ldc 60, 2) := by decide +kernel
theorem dX3_row_11 : decode cX3_row 11 = .ok (.ireturn, 1) := by decide +kernel
theorem dX3_row_12 : decode cX3_row 12 = .ok (.aload_n 0, 1) := by decide +kernel
theorem dX3_row_13 : decode cX3_row 13 = .ok (.dup, 1) := by decide +kernel
theorem dX3_row_14 : decode cX3_row 14 = .ok (.getfield 71, 3) := by decide +kernel
theorem dX3_row_17 : decode cX3_row 17 = .ok (.iconst 1, 1) := by decide +kernel
theorem dX3_row_18 : decode cX3_row 18 = .ok (.iadd, 1) := by decide +kernel
theorem dX3_row_19 : decode cX3_row 19 = .ok (.putfield 71, 3) := by decide +kernel
theorem dX3_row_22 : decode cX3_row 22 = .ok (.aload_n 0, 1) := by decide +kernel
theorem dX3_row_23 : decode cX3_row 23 = .ok (.getfield 71, 3) := by decide +kernel
theorem dX3_row_26 : decode cX3_row 26 = .ok (.iconst 1, 1) := by decide +kernel
theorem dX3_row_27 : decode cX3_row 27 = .ok (.isub, 1) := by decide +kernel
theorem dX3_row_28 : decode cX3_row 28 = .ok (.ireturn, 1) := by decide +kernel
set_option maxRecDepth 20000 in
theorem ggX3_term_X3_isRowOrCost : GoodIn wsX3_term wsX3_isRowOrCost := goodIn_r _ [13, 14, 15, 16, 12, 17, 28, 29, 30, 31, 32, 33, 34, 35, 36, 37, 38, 39] (by decide +kernel) (by decide +kernel)
set_option maxRecDepth 20000 in
theorem gX3_term_X3_isRowOrCost : GoodIn wsX3_term (wsV RX3 74 RX3 yX3_isRowOrCost wsX3_isRowOrCost) := goodIn_app (goodIn_of _ (by decide +kernel)) ggX3_term_X3_isRowOrCost
set_option maxRecDepth 20000 in
theorem ggX3_term_X3_isWithin : GoodIn wsX3_term wsX3_isWithin := goodIn_r _ [17] (by decide +kernel) (by decide +kernel)
set_option maxRecDepth 20000 in
theorem gX3_term_X3_isWithin : GoodIn wsX3_term (va_wsS RX3 50 yX3_isWithin wsX3_isWithin) := goodIn_app (goodIn_of _ (by decide +kernel)) ggX3_term_X3_isWithin
set_option maxRecDepth 20000 in
theorem ggX3_term_X2_add : GoodIn wsX3_term wsX2_add := goodIn_r _ [22, 23, 24, 25, 26, 27, 44, 45, 46, 47, 48] (by decide +kernel) (by decide +kernel)
set_option maxRecDepth 20000 in
theorem gX3_term_X2_add : GoodIn wsX3_term (wsV RX3 84 RX2 yX2_add wsX2_add) := goodIn_app (goodIn_of _ (by decide +kernel)) ggX3_term_X2_add
theorem dX3_term_0 : decode cX3_term 0 = .ok (.aload_n 0, 1) := by decide +kernel
theorem dX3_term_1 : decode cX3_term 1 = .ok (.iload_n 1, 1) := by decide +kernel
theorem dX3_term_2 : decode cX3_term 2 = .ok (.invokevirtual 74, 3) := by decide +kernel
theorem dX3_term_5 : decode cX3_term 5 = .ok (.ifCond .ne 6, 3) := by decide +kernel
theorem dX3_term_8 : decode cX3_term 8 = .ok (.ldc 54, 2) := by decide +kernel
theorem dX3_term_10 : decode cX3_term 10 = .ok (.ireturn, 1) := by decide +kernel
theorem dX3_term_11 : decode cX3_term 11 = .ok (.iload_n 2, 1) := by decide +kernel
theorem dX3_term_12 : decode cX3_term 12 = .ok (.iconst (-1), 1) := by decide +kernel
theorem dX3_term_13 : decode cX3_term 13 = .ok (.aload_n 0, 1) := by decide +kernel
theorem dX3_term_14 : decode cX3_term 14 = .ok (.getfield 78, 3) := by decide +kernel
theorem dX3_term_17 : decode cX3_term 17 = .ok (.aload_n 0, 1) := by decide +kernel
theorem dX3_term_18 : decode cX3_term 18 = .ok (.getfield 81, 3) := by decide +kernel
theorem dX3_term_21 : decode cX3_term 21 = .ok (.iadd, 1) := by decide +kernel
theorem dX3_term_22 : decode cX3_term 22 = .ok (.iconst 1, 1) := by decide +kernel
theorem dX3_term_23 : decode cX3_term 23 = .ok (.isub, 1) := by decide +kernel
theorem dX3_term_24 : decode cX3_term 24 = .ok (.invokestatic 50, 3) := by decide +kernel
theorem dX3_term_27 : decode cX3_term 27 = .ok (.ifCond .ne 6, 3) := by decide +kernel
theorem dX3_term_30 : decode cX3_term 30 = .ok (.ldc 54, 2) := by decide +kernel
theorem dX3_term_32 : decode cX3_term 32 = .ok (.ireturn, 1) := by decide +kernel
theorem dX3_term_33 : decode cX3_term 33 = .ok (.iload_n 3, 1) := by decide +kernel
theorem dX3_term_34 : decode cX3_term 34 = .ok (.iconst (-1), 1) := by decide +kernel
theorem dX3_term_35 : decode cX3_term 35 = .ok (.aload_n 0, 1) := by decide +kernel
theorem dX3_term_36 : decode cX3_term 36 = .ok (.getfield 10, 3) := by decide +kernel
theorem dX3_term_39 : decode cX3_term 39 = .ok (.getfield 59, 3) := by decide +kernel
theorem dX3_term_42 : decode cX3_term 42 = .ok (.iconst 1, 1) := by decide +kernel
theorem dX3_term_43 : decode cX3_term 43 = .ok (.isub, 1) := by decide +kernel
theorem dX3_term_44 : decode cX3_term 44 = .ok (.invokestatic 50, 3) := by decide +kernel
theorem dX3_term_47 : decode cX3_term 47 = .ok (.ifCond .ne 6, 3) := by decide +kernel
theorem dX3_term_50 : decode cX3_term 50 = .ok (.ldc 54, 2) := by decide +kernel
theorem dX3_term_52 : decode cX3_term 52 = .ok (.ireturn, 1) := by decide +kernel
theorem dX3_term_53 : decode cX3_term 53 = .ok (.iload 4, 2) := by decide +kernel
theorem dX3_term_55 : decode cX3_term 55 = .ok (.bipush (-20), 2) := by decide +kernel
theorem dX3_term_57 : decode cX3_term 57 = .ok (.bipush 20, 2) := by decide +kernel
theorem dX3_term_59 : decode cX3_term 59 = .ok (.invokestatic 50, 3) := by decide +kernel
theorem dX3_term_62 : decode cX3_term 62 = .ok (.ifCond .ne 6, 3) := by decide +kernel
theorem dX3_term_65 : decode cX3_term 65 = .ok (.ldc 54, 2) := by decide +kernel
theorem dX3_term_67 : decode cX3_term 67 = .ok (.ireturn, 1) := by decide +kernel
theorem dX3_term_68 : decode cX3_term 68 = .ok (.aload_n 0, 1) := by decide +kernel
theorem dX3_term_69 : decode cX3_term 69 = .ok (.getfield 19, 3) := by decide +kernel
theorem dX3_term_72 : decode cX3_term 72 = .ok (.getfield 55, 3) := by decide +kernel
theorem dX3_term_75 : decode cX3_term 75 = .ok (.bipush 40, 2) := by decide +kernel
theorem dX3_term_77 : decode cX3_term 77 = .ok (.if_icmp .lt 6, 3) := by decide +kernel
theorem dX3_term_80 : decode cX3_term 80 = .ok (.ldc 60, 2) := by decide +kernel
theorem dX3_term_82 : decode cX3_term 82 = .ok (.ireturn, 1) := by decide +kernel
theorem dX3_term_83 : decode cX3_term 83 = .ok (.aload_n 0, 1) := by decide +kernel
theorem dX3_term_84 : decode cX3_term 84 = .ok (.getfield 19, 3) := by decide +kernel
theorem dX3_term_87 : decode cX3_term 87 = .ok (.iload_n 1, 1) := by decide +kernel
theorem dX3_term_88 : decode cX3_term 88 = .ok (.iload_n 2, 1) := by decide +kernel
theorem dX3_term_89 : decode cX3_term 89 = .ok (.iload_n 3, 1) := by decide +kernel
theorem dX3_term_90 : decode cX3_term 90 = .ok (.iload 4, 2) := by decide +kernel
theorem dX3_term_92 : decode cX3_term 92 = .ok (.invokevirtual 84, 3) := by decide +kernel
theorem dX3_term_95 : decode cX3_term 95 = .ok (.ireturn, 1) := by decide +kernel
set_option maxRecDepth 20000 in
theorem ggX3_future_X3_isWithin : GoodIn wsX3_future wsX3_isWithin := goodIn_r _ [9] (by decide +kernel) (by decide +kernel)
set_option maxRecDepth 20000 in
theorem gX3_future_X3_isWithin : GoodIn wsX3_future (va_wsS RX3 50 yX3_isWithin wsX3_isWithin) := goodIn_app (goodIn_of _ (by decide +kernel)) ggX3_future_X3_isWithin
set_option maxRecDepth 20000 in
theorem ggX3_future_X0_add : GoodIn wsX3_future wsX0_add := goodIn_r _ [14, 15, 16, 17, 18, 19, 20, 33, 34, 35, 36, 37, 38, 39, 40] (by decide +kernel) (by decide +kernel)
set_option maxRecDepth 20000 in
theorem gX3_future_X0_add : GoodIn wsX3_future (wsV RX3 88 RX0 yX0_add wsX0_add) := goodIn_app (goodIn_of _ (by decide +kernel)) ggX3_future_X0_add
theorem dX3_future_0 : decode cX3_future 0 = .ok (.iload_n 1, 1) := by decide +kernel
theorem dX3_future_1 : decode cX3_future 1 = .ok (.iconst 1, 1) := by decide +kernel
theorem dX3_future_2 : decode cX3_future 2 = .ok (.bipush 100, 2) := by decide +kernel
theorem dX3_future_4 : decode cX3_future 4 = .ok (.invokestatic 50, 3) := by decide +kernel
theorem dX3_future_7 : decode cX3_future 7 = .ok (.ifCond .ne 6, 3) := by decide +kernel
theorem dX3_future_10 : decode cX3_future 10 = .ok (.ldc 54, 2) := by decide +kernel
theorem dX3_future_12 : decode cX3_future 12 = .ok (.ireturn, 1) := by decide +kernel
theorem dX3_future_13 : decode cX3_future 13 = .ok (.aload_n 0, 1) := by decide +kernel
theorem dX3_future_14 : decode cX3_future 14 = .ok (.getfield 26, 3) := by decide +kernel
theorem dX3_future_17 : decode cX3_future 17 = .ok (.getfield 87, 3) := by decide +kernel
theorem dX3_future_20 : decode cX3_future 20 = .ok (.bipush 8, 2) := by decide +kernel
theorem dX3_future_22 : decode cX3_future 22 = .ok (.if_icmp .lt 6, 3) := by decide +kernel
theorem dX3_future_25 : decode cX3_future 25 = .ok (.ldc 60, 2) := by decide +kernel
theorem dX3_future_27 : decode cX3_future 27 = .ok (.ireturn, 1) := by decide +kernel
theorem dX3_future_28 : decode cX3_future 28 = .ok (.aload_n 0, 1) := by decide +kernel
theorem dX3_future_29 : decode cX3_future 29 = .ok (.getfield 26, 3) := by decide +kernel
theorem dX3_future_32 : decode cX3_future 32 = .ok (.iload_n 1, 1) := by decide +kernel
theorem dX3_future_33 : decode cX3_future 33 = .ok (.iload_n 2, 1) := by decide +kernel
theorem dX3_future_34 : decode cX3_future 34 = .ok (.aload_n 0, 1) := by decide +kernel
theorem dX3_future_35 : decode cX3_future 35 = .ok (.getfield 10, 3) := by decide +kernel
theorem dX3_future_38 : decode cX3_future 38 = .ok (.invokevirtual 88, 3) := by decide +kernel
theorem dX3_future_41 : decode cX3_future 41 = .ok (.ireturn, 1) := by decide +kernel
set_option maxRecDepth 20000 in
theorem ggX3_set_X3_isListed : GoodIn wsX3_set wsX3_isListed := goodIn_r _ [11, 5, 12, 13, 14, 10, 15, 21, 22, 23, 24, 25, 26, 27, 28, 29, 30, 31, 32, 37, 38, 39, 40] (by decide +kernel) (by decide +kernel)
set_option maxRecDepth 20000 in
theorem gX3_set_X3_isListed : GoodIn wsX3_set (wsV RX3 91 RX3 yX3_isListed wsX3_isListed) := goodIn_app (goodIn_of _ (by decide +kernel)) ggX3_set_X3_isListed
set_option maxRecDepth 20000 in
theorem ggX3_set_X3_isName : GoodIn wsX3_set wsX3_isName := goodIn_r _ [19, 2, 20, 13, 14, 10, 15, 21, 22, 23, 24, 25, 26, 27, 28, 29, 30, 31, 32, 33, 34, 35, 36] (by decide +kernel) (by decide +kernel)
set_option maxRecDepth 20000 in
theorem gX3_set_X3_isName : GoodIn wsX3_set (wsV RX3 94 RX3 yX3_isName wsX3_isName) := goodIn_app (goodIn_of _ (by decide +kernel)) ggX3_set_X3_isName
set_option maxRecDepth 20000 in
theorem ggX3_set_X3_isWithin : GoodIn wsX3_set wsX3_isWithin := goodIn_r _ [15] (by decide +kernel) (by decide +kernel)
set_option maxRecDepth 20000 in
theorem gX3_set_X3_isWithin : GoodIn wsX3_set (va_wsS RX3 50 yX3_isWithin wsX3_isWithin) := goodIn_app (goodIn_of _ (by decide +kernel)) ggX3_set_X3_isWithin
theorem dX3_set_0 : decode cX3_set 0 = .ok (.aload_n 0, 1) := by decide +kernel
theorem dX3_set_1 : decode cX3_set 1 = .ok (.iload_n 1, 1) := by decide +kernel
theorem dX3_set_2 : decode cX3_set 2 = .ok (.invokevirtual 91, 3) := by decide +kernel
theorem dX3_set_5 : decode cX3_set 5 = .ok (.ifCond .eq 11, 3) := by decide +kernel
theorem dX3_set_8 : decode cX3_set 8 = .ok (.aload_n 0, 1) := by decide +kernel
theorem dX3_set_9 : decode cX3_set 9 = .ok (.iload_n 2, 1) := by decide +kernel
theorem dX3_set_10 : decode cX3_set 10 = .ok (.invokevirtual 94, 3) := by decide +kernel
theorem dX3_set_13 : decode cX3_set 13 = .ok (.ifCond .ne 6, 3) := by decide +kernel
theorem dX3_set_16 : decode cX3_set 16 = .ok (.ldc 54, 2) := by decide +kernel
theorem dX3_set_18 : decode cX3_set 18 = .ok (.ireturn, 1) := by decide +kernel
theorem dX3_set_19 : decode cX3_set 19 = .ok (.iload_n 3, 1) := by decide +kernel
theorem dX3_set_20 : decode cX3_set 20 = .ok (.aload_n 0, 1) := by decide +kernel
theorem dX3_set_21 : decode cX3_set 21 = .ok (.getfield 10, 3) := by decide +kernel
theorem dX3_set_24 : decode cX3_set 24 = .ok (.getfield 97, 3) := by decide +kernel
theorem dX3_set_27 : decode cX3_set 27 = .ok (.iload_n 2, 1) := by decide +kernel
theorem dX3_set_28 : decode cX3_set 28 = .ok (.iaload, 1) := by decide +kernel
theorem dX3_set_29 : decode cX3_set 29 = .ok (.aload_n 0, 1) := by decide +kernel
theorem dX3_set_30 : decode cX3_set 30 = .ok (.getfield 10, 3) := by decide +kernel
theorem dX3_set_33 : decode cX3_set 33 = .ok (.getfield 100, 3) := by decide +kernel
theorem dX3_set_36 : decode cX3_set 36 = .ok (.iload_n 2, 1) := by decide +kernel
theorem dX3_set_37 : decode cX3_set 37 = .ok (.iaload, 1) := by decide +kernel
theorem dX3_set_38 : decode cX3_set 38 = .ok (.invokestatic 50, 3) := by decide +kernel
theorem dX3_set_41 : decode cX3_set 41 = .ok (.ifCond .ne 6, 3) := by decide +kernel
theorem dX3_set_44 : decode cX3_set 44 = .ok (.ldc 54, 2) := by decide +kernel
theorem dX3_set_46 : decode cX3_set 46 = .ok (.ireturn, 1) := by decide +kernel
theorem dX3_set_47 : decode cX3_set 47 = .ok (.aload_n 0, 1) := by decide +kernel
theorem dX3_set_48 : decode cX3_set 48 = .ok (.getfield 26, 3) := by decide +kernel
theorem dX3_set_51 : decode cX3_set 51 = .ok (.getfield 103, 3) := by decide +kernel
theorem dX3_set_54 : decode cX3_set 54 = .ok (.iload_n 1, 1) := by decide +kernel
theorem dX3_set_55 : decode cX3_set 55 = .ok (.aaload, 1) := by decide +kernel
theorem dX3_set_56 : decode cX3_set 56 = .ok (.iload_n 2, 1) := by decide +kernel
theorem dX3_set_57 : decode cX3_set 57 = .ok (.iaload, 1) := by decide +kernel
theorem dX3_set_58 : decode cX3_set 58 = .ok (.istore 4, 2) := by decide +kernel
theorem dX3_set_60 : decode cX3_set 60 = .ok (.aload_n 0, 1) := by decide +kernel
theorem dX3_set_61 : decode cX3_set 61 = .ok (.getfield 26, 3) := by decide +kernel
theorem dX3_set_64 : decode cX3_set 64 = .ok (.getfield 103, 3) := by decide +kernel
theorem dX3_set_67 : decode cX3_set 67 = .ok (.iload_n 1, 1) := by decide +kernel
theorem dX3_set_68 : decode cX3_set 68 = .ok (.aaload, 1) := by decide +kernel
theorem dX3_set_69 : decode cX3_set 69 = .ok (.iload_n 2, 1) := by decide +kernel
theorem dX3_set_70 : decode cX3_set 70 = .ok (.iload_n 3, 1) := by decide +kernel
theorem dX3_set_71 : decode cX3_set 71 = .ok (.iastore, 1) := by decide +kernel
theorem dX3_set_72 : decode cX3_set 72 = .ok (.iload 4, 2) := by decide +kernel
theorem dX3_set_74 : decode cX3_set 74 = .ok (.ireturn, 1) := by decide +kernel
set_option maxRecDepth 20000 in
theorem ggX3_told_X0_countCounted : GoodIn wsX3_told wsX0_countCounted := goodIn_r _ [16, 17, 18, 40, 41, 42, 43] (by decide +kernel) (by decide +kernel)
set_option maxRecDepth 20000 in
theorem gX3_told_X0_countCounted : GoodIn wsX3_told (wsV RX3 107 RX0 yX0_countCounted wsX0_countCounted) := goodIn_app (goodIn_of _ (by decide +kernel)) ggX3_told_X0_countCounted
theorem dX3_told_0 : decode cX3_told 0 = .ok (.iload_n 1, 1) := by decide +kernel
theorem dX3_told_1 : decode cX3_told 1 = .ok (.tableswitch 99 0 7 #[47, 55, 60, 68, 76, 84, 89, 94], 47) := by decide +kernel
theorem dX3_told_48 : decode cX3_told 48 = .ok (.aload_n 0, 1) := by decide +kernel
theorem dX3_told_49 : decode cX3_told 49 = .ok (.getfield 10, 3) := by decide +kernel
theorem dX3_told_52 : decode cX3_told 52 = .ok (.getfield 59, 3) := by decide +kernel
theorem dX3_told_55 : decode cX3_told 55 = .ok (.ireturn, 1) := by decide +kernel
theorem dX3_told_56 : decode cX3_told 56 = .ok (.aload_n 0, 1) := by decide +kernel
theorem dX3_told_57 : decode cX3_told 57 = .ok (.getfield 71, 3) := by decide +kernel
theorem dX3_told_60 : decode cX3_told 60 = .ok (.ireturn, 1) := by decide +kernel
theorem dX3_told_61 : decode cX3_told 61 = .ok (.aload_n 0, 1) := by decide +kernel
theorem dX3_told_62 : decode cX3_told 62 = .ok (.getfield 19, 3) := by decide +kernel
theorem dX3_told_65 : decode cX3_told 65 = .ok (.getfield 55, 3) := by decide +kernel
theorem dX3_told_68 : decode cX3_told 68 = .ok (.ireturn, 1) := by decide +kernel
theorem dX3_told_69 : decode cX3_told 69 = .ok (.aload_n 0, 1) := by decide +kernel
theorem dX3_told_70 : decode cX3_told 70 = .ok (.getfield 26, 3) := by decide +kernel
theorem dX3_told_73 : decode cX3_told 73 = .ok (.getfield 87, 3) := by decide +kernel
theorem dX3_told_76 : decode cX3_told 76 = .ok (.ireturn, 1) := by decide +kernel
theorem dX3_told_77 : decode cX3_told 77 = .ok (.aload_n 0, 1) := by decide +kernel
theorem dX3_told_78 : decode cX3_told 78 = .ok (.getfield 26, 3) := by decide +kernel
theorem dX3_told_81 : decode cX3_told 81 = .ok (.invokevirtual 107, 3) := by decide +kernel
theorem dX3_told_84 : decode cX3_told 84 = .ok (.ireturn, 1) := by decide +kernel
theorem dX3_told_85 : decode cX3_told 85 = .ok (.aload_n 0, 1) := by decide +kernel
theorem dX3_told_86 : decode cX3_told 86 = .ok (.getfield 78, 3) := by decide +kernel
theorem dX3_told_89 : decode cX3_told 89 = .ok (.ireturn, 1) := by decide +kernel
theorem dX3_told_90 : decode cX3_told 90 = .ok (.aload_n 0, 1) := by decide +kernel
theorem dX3_told_91 : decode cX3_told 91 = .ok (.getfield 81, 3) := by decide +kernel
theorem dX3_told_94 : decode cX3_told 94 = .ok (.ireturn, 1) := by decide +kernel
theorem dX3_told_95 : decode cX3_told 95 = .ok (.aload_n 0, 1) := by decide +kernel
theorem dX3_told_96 : decode cX3_told 96 = .ok (.getfield 68, 3) := by decide +kernel
theorem dX3_told_99 : decode cX3_told 99 = .ok (.ireturn, 1) := by decide +kernel
theorem dX3_told_100 : decode cX3_told 100 = .ok (.ldc 54, 2) := by decide +kernel
theorem dX3_told_102 : decode cX3_told 102 = .ok (.ireturn, 1) := by decide +kernel
set_option maxRecDepth 20000 in
theorem ggX3_comes_X3_isPlan : GoodIn wsX3_comes wsX3_isPlan := goodIn_r _ [12, 13, 14, 15, 11, 16, 17, 18, 19, 20, 21, 49, 50, 51, 52, 53, 54, 55, 56, 57, 58, 59, 60] (by decide +kernel) (by decide +kernel)
set_option maxRecDepth 20000 in
theorem gX3_comes_X3_isPlan : GoodIn wsX3_comes (wsV RX3 111 RX3 yX3_isPlan wsX3_isPlan) := goodIn_app (goodIn_of _ (by decide +kernel)) ggX3_comes_X3_isPlan
set_option maxRecDepth 20000 in
theorem ggX3_comes_X3_isRowOrCost : GoodIn wsX3_comes wsX3_isRowOrCost := goodIn_r _ [25, 26, 19, 20, 11, 21, 49, 50, 51, 52, 53, 54, 55, 56, 57, 58, 59, 60] (by decide +kernel) (by decide +kernel)
set_option maxRecDepth 20000 in
theorem gX3_comes_X3_isRowOrCost : GoodIn wsX3_comes (wsV RX3 74 RX3 yX3_isRowOrCost wsX3_isRowOrCost) := goodIn_app (goodIn_of _ (by decide +kernel)) ggX3_comes_X3_isRowOrCost
set_option maxRecDepth 20000 in
theorem ggX3_comes_X3_isListed : GoodIn wsX3_comes wsX3_isListed := goodIn_r _ [30, 5, 31, 19, 20, 11, 21, 49, 50, 51, 52, 53, 54, 55, 56, 57, 58, 59, 60, 65, 66, 67, 68] (by decide +kernel) (by decide +kernel)
set_option maxRecDepth 20000 in
theorem gX3_comes_X3_isListed : GoodIn wsX3_comes (wsV RX3 91 RX3 yX3_isListed wsX3_isListed) := goodIn_app (goodIn_of _ (by decide +kernel)) ggX3_comes_X3_isListed
set_option maxRecDepth 20000 in
theorem ggX3_comes_X2_sumUp : GoodIn wsX3_comes wsX2_sumUp := goodIn_r _ [36, 37, 38, 39, 40, 41, 42, 43, 35, 44, 45, 46, 11, 47, 69, 70, 71, 72, 73] (by decide +kernel) (by decide +kernel)
set_option maxRecDepth 20000 in
theorem gX3_comes_X2_sumUp : GoodIn wsX3_comes (wsV RX3 117 RX2 yX2_sumUp wsX2_sumUp) := goodIn_app (goodIn_of _ (by decide +kernel)) ggX3_comes_X2_sumUp
set_option maxRecDepth 20000 in
theorem ggX3_comes_X3_slotOf : GoodIn wsX3_comes wsX3_slotOf := goodIn_r _ [47] (by decide +kernel) (by decide +kernel)
set_option maxRecDepth 20000 in
theorem gX3_comes_X3_slotOf : GoodIn wsX3_comes (va_wsS RX3 121 yX3_slotOf wsX3_slotOf) := goodIn_app (goodIn_of _ (by decide +kernel)) ggX3_comes_X3_slotOf
theorem dX3_comes_0 : decode cX3_comes 0 = .ok (.aload_n 0, 1) := by decide +kernel
theorem dX3_comes_1 : decode cX3_comes 1 = .ok (.iload_n 1, 1) := by decide +kernel
theorem dX3_comes_2 : decode cX3_comes 2 = .ok (.invokevirtual 111, 3) := by decide +kernel
theorem dX3_comes_5 : decode cX3_comes 5 = .ok (.ifCond .eq 11, 3) := by decide +kernel
theorem dX3_comes_8 : decode cX3_comes 8 = .ok (.aload_n 0, 1) := by decide +kernel
theorem dX3_comes_9 : decode cX3_comes 9 = .ok (.iload_n 2, 1) := by decide +kernel
theorem dX3_comes_10 : decode cX3_comes 10 = .ok (.invokevirtual 74, 3) := by decide +kernel
theorem dX3_comes_13 : decode cX3_comes 13 = .ok (.ifCond .ne 6, 3) := by decide +kernel
theorem dX3_comes_16 : decode cX3_comes 16 = .ok (.ldc 54, 2) := by decide +kernel
theorem dX3_comes_18 : decode cX3_comes 18 = .ok (.ireturn, 1) := by decide +kernel
theorem dX3_comes_19 : decode cX3_comes 19 = .ok (.iload_n 3, 1) := by decide +kernel
theorem dX3_comes_20 : decode cX3_comes 20 = .ok (.iconst (-1), 1) := by decide +kernel
theorem dX3_comes_21 : decode cX3_comes 21 = .ok (.if_icmp .eq 14, 3) := by decide +kernel
theorem dX3_comes_24 : decode cX3_comes 24 = .ok (.aload_n 0, 1) := by decide +kernel
theorem dX3_comes_25 : decode cX3_comes 25 = .ok (.iload_n 3, 1) := by decide +kernel
theorem dX3_comes_26 : decode cX3_comes 26 = .ok (.invokevirtual 91, 3) := by decide +kernel
theorem dX3_comes_29 : decode cX3_comes 29 = .ok (.ifCond .ne 6, 3) := by decide +kernel
theorem dX3_comes_32 : decode cX3_comes 32 = .ok (.ldc 54, 2) := by decide +kernel
theorem dX3_comes_34 : decode cX3_comes 34 = .ok (.ireturn, 1) := by decide +kernel
theorem dX3_comes_35 : decode cX3_comes 35 = .ok (.aload_n 0, 1) := by decide +kernel
theorem dX3_comes_36 : decode cX3_comes 36 = .ok (.getfield 19, 3) := by decide +kernel
theorem dX3_comes_39 : decode cX3_comes 39 = .ok (.iload_n 1, 1) := by decide +kernel
theorem dX3_comes_40 : decode cX3_comes 40 = .ok (.iload_n 3, 1) := by decide +kernel
theorem dX3_comes_41 : decode cX3_comes 41 = .ok (.iconst (-1), 1) := by decide +kernel
theorem dX3_comes_42 : decode cX3_comes 42 = .ok (.if_icmp .ne 13, 3) := by decide +kernel
theorem dX3_comes_45 : decode cX3_comes 45 = .ok (.aload_n 0, 1) := by decide +kernel
theorem dX3_comes_46 : decode cX3_comes 46 = .ok (.getfield 10, 3) := by decide +kernel
theorem dX3_comes_49 : decode cX3_comes 49 = .ok (.getfield 114, 3) := by decide +kernel
theorem dX3_comes_52 : decode cX3_comes 52 = .ok (.goto 12, 3) := by decide +kernel
theorem dX3_comes_55 : decode cX3_comes 55 = .ok (.aload_n 0, 1) := by decide +kernel
theorem dX3_comes_56 : decode cX3_comes 56 = .ok (.getfield 26, 3) := by decide +kernel
theorem dX3_comes_59 : decode cX3_comes 59 = .ok (.getfield 103, 3) := by decide +kernel
theorem dX3_comes_62 : decode cX3_comes 62 = .ok (.iload_n 3, 1) := by decide +kernel
theorem dX3_comes_63 : decode cX3_comes 63 = .ok (.aaload, 1) := by decide +kernel
theorem dX3_comes_64 : decode cX3_comes 64 = .ok (.aload_n 0, 1) := by decide +kernel
theorem dX3_comes_65 : decode cX3_comes 65 = .ok (.getfield 30, 3) := by decide +kernel
theorem dX3_comes_68 : decode cX3_comes 68 = .ok (.invokevirtual 117, 3) := by decide +kernel
theorem dX3_comes_71 : decode cX3_comes 71 = .ok (.aload_n 0, 1) := by decide +kernel
theorem dX3_comes_72 : decode cX3_comes 72 = .ok (.getfield 30, 3) := by decide +kernel
theorem dX3_comes_75 : decode cX3_comes 75 = .ok (.iload_n 2, 1) := by decide +kernel
theorem dX3_comes_76 : decode cX3_comes 76 = .ok (.invokestatic 121, 3) := by decide +kernel
theorem dX3_comes_79 : decode cX3_comes 79 = .ok (.iaload, 1) := by decide +kernel
theorem dX3_comes_80 : decode cX3_comes 80 = .ok (.ireturn, 1) := by decide +kernel
set_option maxRecDepth 20000 in
theorem ggX3_worst_X3_isPlan : GoodIn wsX3_worst wsX3_isPlan := goodIn_r _ [6, 7, 8, 9, 5, 10, 11, 12, 13, 14, 15, 58, 59, 60, 61, 62, 63, 64, 65, 66, 67, 68, 69] (by decide +kernel) (by decide +kernel)
set_option maxRecDepth 20000 in
theorem gX3_worst_X3_isPlan : GoodIn wsX3_worst (wsV RX3 111 RX3 yX3_isPlan wsX3_isPlan) := goodIn_app (goodIn_of _ (by decide +kernel)) ggX3_worst_X3_isPlan
set_option maxRecDepth 20000 in
theorem ggX3_worst_X3_isRowOrCost : GoodIn wsX3_worst wsX3_isRowOrCost := goodIn_r _ [19, 20, 13, 14, 5, 15, 58, 59, 60, 61, 62, 63, 64, 65, 66, 67, 68, 69] (by decide +kernel) (by decide +kernel)
set_option maxRecDepth 20000 in
theorem gX3_worst_X3_isRowOrCost : GoodIn wsX3_worst (wsV RX3 74 RX3 yX3_isRowOrCost wsX3_isRowOrCost) := goodIn_app (goodIn_of _ (by decide +kernel)) ggX3_worst_X3_isRowOrCost
set_option maxRecDepth 20000 in
theorem ggX3_worst_X3_findWorst : GoodIn wsX3_worst wsX3_findWorst := goodIn_r _ [24, 25, 26, 27, 28, 29, 30, 31, 32, 33, 34, 35, 36, 37, 38, 39, 40, 41, 42, 43, 44, 45, 46, 47, 48, 49, 50, 5, 51, 52, 53, 54, 55, 56, 57, 58, 59, 60, 61, 62, 63, 64, 65, 66, 67, 68, 69, 70, 71, 72, 73, 74, 75, 76, 77, 78] (by decide +kernel) (by decide +kernel)
set_option maxRecDepth 20000 in
theorem gX3_worst_X3_findWorst : GoodIn wsX3_worst (wsV RX3 125 RX3 yX3_findWorst wsX3_findWorst) := goodIn_app (goodIn_of _ (by decide +kernel)) ggX3_worst_X3_findWorst
theorem dX3_worst_0 : decode cX3_worst 0 = .ok (.aload_n 0, 1) := by decide +kernel
theorem dX3_worst_1 : decode cX3_worst 1 = .ok (.iload_n 1, 1) := by decide +kernel
theorem dX3_worst_2 : decode cX3_worst 2 = .ok (.invokevirtual 111, 3) := by decide +kernel
theorem dX3_worst_5 : decode cX3_worst 5 = .ok (.ifCond .eq 11, 3) := by decide +kernel
theorem dX3_worst_8 : decode cX3_worst 8 = .ok (.aload_n 0, 1) := by decide +kernel
theorem dX3_worst_9 : decode cX3_worst 9 = .ok (.iload_n 2, 1) := by decide +kernel
theorem dX3_worst_10 : decode cX3_worst 10 = .ok (.invokevirtual 74, 3) := by decide +kernel
theorem dX3_worst_13 : decode cX3_worst 13 = .ok (.ifCond .ne 6, 3) := by decide +kernel
theorem dX3_worst_16 : decode cX3_worst 16 = .ok (.ldc 54, 2) := by decide +kernel
theorem dX3_worst_18 : decode cX3_worst 18 = .ok (.ireturn, 1) := by decide +kernel
theorem dX3_worst_19 : decode cX3_worst 19 = .ok (.aload_n 0, 1) := by decide +kernel
theorem dX3_worst_20 : decode cX3_worst 20 = .ok (.iload_n 1, 1) := by decide +kernel
theorem dX3_worst_21 : decode cX3_worst 21 = .ok (.iload_n 2, 1) := by decide +kernel
theorem dX3_worst_22 : decode cX3_worst 22 = .ok (.invokevirtual 125, 3) := by decide +kernel
theorem dX3_worst_25 : decode cX3_worst 25 = .ok (.ireturn, 1) := by decide +kernel
set_option maxRecDepth 20000 in
theorem ggX3_worstName_X3_isPlan : GoodIn wsX3_worstName wsX3_isPlan := goodIn_r _ [7, 8, 9, 10, 6, 11, 12, 13, 14, 15, 16, 62, 63, 64, 65, 66, 67, 68, 69, 70, 71, 72, 73] (by decide +kernel) (by decide +kernel)
set_option maxRecDepth 20000 in
theorem gX3_worstName_X3_isPlan : GoodIn wsX3_worstName (wsV RX3 111 RX3 yX3_isPlan wsX3_isPlan) := goodIn_app (goodIn_of _ (by decide +kernel)) ggX3_worstName_X3_isPlan
set_option maxRecDepth 20000 in
theorem ggX3_worstName_X3_isRowOrCost : GoodIn wsX3_worstName wsX3_isRowOrCost := goodIn_r _ [20, 21, 14, 15, 6, 16, 62, 63, 64, 65, 66, 67, 68, 69, 70, 71, 72, 73] (by decide +kernel) (by decide +kernel)
set_option maxRecDepth 20000 in
theorem gX3_worstName_X3_isRowOrCost : GoodIn wsX3_worstName (wsV RX3 74 RX3 yX3_isRowOrCost wsX3_isRowOrCost) := goodIn_app (goodIn_of _ (by decide +kernel)) ggX3_worstName_X3_isRowOrCost
set_option maxRecDepth 20000 in
theorem ggX3_worstName_X3_isName : GoodIn wsX3_worstName wsX3_isName := goodIn_r _ [25, 26, 27, 14, 15, 6, 16, 62, 63, 64, 65, 66, 67, 68, 69, 70, 71, 72, 73, 74, 75, 76, 77] (by decide +kernel) (by decide +kernel)
set_option maxRecDepth 20000 in
theorem gX3_worstName_X3_isName : GoodIn wsX3_worstName (wsV RX3 94 RX3 yX3_isName wsX3_isName) := goodIn_app (goodIn_of _ (by decide +kernel)) ggX3_worstName_X3_isName
set_option maxRecDepth 20000 in
theorem ggX3_worstName_X3_findWorst : GoodIn wsX3_worstName wsX3_findWorst := goodIn_r _ [31, 32, 33, 26, 27, 34, 35, 2, 36, 37, 38, 39, 40, 41, 42, 43, 44, 45, 46, 47, 48, 49, 50, 51, 52, 53, 54, 6, 55, 56, 57, 58, 59, 60, 61, 62, 63, 64, 65, 66, 67, 68, 69, 70, 71, 72, 73, 74, 75, 76, 77, 78, 79, 80, 81, 82] (by decide +kernel) (by decide +kernel)
set_option maxRecDepth 20000 in
theorem gX3_worstName_X3_findWorst : GoodIn wsX3_worstName (wsV RX3 125 RX3 yX3_findWorst wsX3_findWorst) := goodIn_app (goodIn_of _ (by decide +kernel)) ggX3_worstName_X3_findWorst
theorem dX3_worstName_0 : decode cX3_worstName 0 = .ok (.aload_n 0, 1) := by decide +kernel
theorem dX3_worstName_1 : decode cX3_worstName 1 = .ok (.iload_n 1, 1) := by decide +kernel
theorem dX3_worstName_2 : decode cX3_worstName 2 = .ok (.invokevirtual 111, 3) := by decide +kernel
theorem dX3_worstName_5 : decode cX3_worstName 5 = .ok (.ifCond .eq 19, 3) := by decide +kernel
theorem dX3_worstName_8 : decode cX3_worstName 8 = .ok (.aload_n 0, 1) := by decide +kernel
theorem dX3_worstName_9 : decode cX3_worstName 9 = .ok (.iload_n 2, 1) := by decide +kernel
theorem dX3_worstName_10 : decode cX3_worstName 10 = .ok (.invokevirtual 74, 3) := by decide +kernel
theorem dX3_worstName_13 : decode cX3_worstName 13 = .ok (.ifCond .eq 11, 3) := by decide +kernel
theorem dX3_worstName_16 : decode cX3_worstName 16 = .ok (.aload_n 0, 1) := by decide +kernel
theorem dX3_worstName_17 : decode cX3_worstName 17 = .ok (.iload_n 3, 1) := by decide +kernel
theorem dX3_worstName_18 : decode cX3_worstName 18 = .ok (.invokevirtual 94, 3) := by decide +kernel
theorem dX3_worstName_21 : decode cX3_worstName 21 = .ok (.ifCond .ne 6, 3) := by decide +kernel
theorem dX3_worstName_24 : decode cX3_worstName 24 = .ok (.ldc 54, 2) := by decide +kernel
theorem dX3_worstName_26 : decode cX3_worstName 26 = .ok (.ireturn, 1) := by decide +kernel
theorem dX3_worstName_27 : decode cX3_worstName 27 = .ok (.aload_n 0, 1) := by decide +kernel
theorem dX3_worstName_28 : decode cX3_worstName 28 = .ok (.iload_n 1, 1) := by decide +kernel
theorem dX3_worstName_29 : decode cX3_worstName 29 = .ok (.iload_n 2, 1) := by decide +kernel
theorem dX3_worstName_30 : decode cX3_worstName 30 = .ok (.invokevirtual 125, 3) := by decide +kernel
theorem dX3_worstName_33 : decode cX3_worstName 33 = .ok (.pop, 1) := by decide +kernel
theorem dX3_worstName_34 : decode cX3_worstName 34 = .ok (.aload_n 0, 1) := by decide +kernel
theorem dX3_worstName_35 : decode cX3_worstName 35 = .ok (.getfield 43, 3) := by decide +kernel
theorem dX3_worstName_38 : decode cX3_worstName 38 = .ok (.iload_n 3, 1) := by decide +kernel
theorem dX3_worstName_39 : decode cX3_worstName 39 = .ok (.iaload, 1) := by decide +kernel
theorem dX3_worstName_40 : decode cX3_worstName 40 = .ok (.ireturn, 1) := by decide +kernel
set_option maxRecDepth 20000 in
theorem ggX3_breaks_X3_isPlan : GoodIn wsX3_breaks wsX3_isPlan := goodIn_r _ [6, 7, 8, 9, 5, 10, 11, 12, 13, 14, 15, 58, 59, 60, 61, 62, 63, 64, 65, 66, 67, 68, 69] (by decide +kernel) (by decide +kernel)
set_option maxRecDepth 20000 in
theorem gX3_breaks_X3_isPlan : GoodIn wsX3_breaks (wsV RX3 111 RX3 yX3_isPlan wsX3_isPlan) := goodIn_app (goodIn_of _ (by decide +kernel)) ggX3_breaks_X3_isPlan
set_option maxRecDepth 20000 in
theorem ggX3_breaks_X3_firstBroken : GoodIn wsX3_breaks wsX3_firstBroken := goodIn_r _ [19, 20, 21, 22, 23, 24, 5, 25, 26, 27, 28, 29, 30, 31, 32, 33, 34, 35, 36, 37, 38, 39, 40, 41, 42, 43, 44, 45, 46, 47, 48, 49, 50, 51, 52, 53, 54, 55, 56, 57, 58, 59, 60, 61, 62, 63, 64, 65, 66, 67, 68, 69, 70, 71, 72, 73, 74, 75, 76, 77, 78] (by decide +kernel) (by decide +kernel)
set_option maxRecDepth 20000 in
theorem gX3_breaks_X3_firstBroken : GoodIn wsX3_breaks (wsV RX3 129 RX3 yX3_firstBroken wsX3_firstBroken) := goodIn_app (goodIn_of _ (by decide +kernel)) ggX3_breaks_X3_firstBroken
theorem dX3_breaks_0 : decode cX3_breaks 0 = .ok (.aload_n 0, 1) := by decide +kernel
theorem dX3_breaks_1 : decode cX3_breaks 1 = .ok (.iload_n 1, 1) := by decide +kernel
theorem dX3_breaks_2 : decode cX3_breaks 2 = .ok (.invokevirtual 111, 3) := by decide +kernel
theorem dX3_breaks_5 : decode cX3_breaks 5 = .ok (.ifCond .ne 6, 3) := by decide +kernel
theorem dX3_breaks_8 : decode cX3_breaks 8 = .ok (.ldc 54, 2) := by decide +kernel
theorem dX3_breaks_10 : decode cX3_breaks 10 = .ok (.ireturn, 1) := by decide +kernel
theorem dX3_breaks_11 : decode cX3_breaks 11 = .ok (.aload_n 0, 1) := by decide +kernel
theorem dX3_breaks_12 : decode cX3_breaks 12 = .ok (.iload_n 1, 1) := by decide +kernel
theorem dX3_breaks_13 : decode cX3_breaks 13 = .ok (.invokevirtual 129, 3) := by decide +kernel
theorem dX3_breaks_16 : decode cX3_breaks 16 = .ok (.ireturn, 1) := by decide +kernel
set_option maxRecDepth 20000 in
theorem ggX3_safest_X3_planCount : GoodIn wsX3_safest wsX3_planCount := goodIn_r _ [6, 7, 8, 50, 51, 52, 53, 54, 55, 56, 57, 58, 59, 60, 61] (by decide +kernel) (by decide +kernel)
set_option maxRecDepth 20000 in
theorem gX3_safest_X3_planCount : GoodIn wsX3_safest (wsV RX3 133 RX3 yX3_planCount wsX3_planCount) := goodIn_app (goodIn_of _ (by decide +kernel)) ggX3_safest_X3_planCount
set_option maxRecDepth 20000 in
theorem ggX3_safest_X3_findWorst : GoodIn wsX3_safest wsX3_findWorst := goodIn_r _ [12, 13, 14, 15, 16, 17, 18, 19, 20, 1, 21, 22, 23, 24, 25, 26, 27, 28, 29, 30, 31, 32, 33, 34, 35, 36, 37, 5, 38, 39, 40, 41, 42, 43, 44, 50, 51, 52, 53, 54, 55, 56, 57, 58, 59, 60, 61, 62, 63, 64, 65, 66, 67, 68, 69, 70] (by decide +kernel) (by decide +kernel)
set_option maxRecDepth 20000 in
theorem gX3_safest_X3_findWorst : GoodIn wsX3_safest (wsV RX3 125 RX3 yX3_findWorst wsX3_findWorst) := goodIn_app (goodIn_of _ (by decide +kernel)) ggX3_safest_X3_findWorst
set_option maxRecDepth 20000 in
theorem ggX3_safest_X3_firstBroken : GoodIn wsX3_safest wsX3_firstBroken := goodIn_r _ [48, 49, 1, 9, 10, 11, 5, 12, 13, 14, 15, 16, 17, 18, 19, 20, 21, 22, 23, 24, 25, 26, 27, 28, 29, 30, 31, 32, 33, 34, 35, 36, 37, 38, 39, 40, 41, 42, 43, 44, 50, 51, 52, 53, 54, 55, 56, 57, 58, 59, 60, 61, 62, 63, 64, 65, 66, 67, 68, 69, 70] (by decide +kernel) (by decide +kernel)
set_option maxRecDepth 20000 in
theorem gX3_safest_X3_firstBroken : GoodIn wsX3_safest (wsV RX3 129 RX3 yX3_firstBroken wsX3_firstBroken) := goodIn_app (goodIn_of _ (by decide +kernel)) ggX3_safest_X3_firstBroken
theorem dX3_safest_0 : decode cX3_safest 0 = .ok (.ldc 132, 2) := by decide +kernel
theorem dX3_safest_2 : decode cX3_safest 2 = .ok (.istore_n 1, 1) := by decide +kernel
theorem dX3_safest_3 : decode cX3_safest 3 = .ok (.iconst 0, 1) := by decide +kernel
theorem dX3_safest_4 : decode cX3_safest 4 = .ok (.istore_n 2, 1) := by decide +kernel
theorem dX3_safest_5 : decode cX3_safest 5 = .ok (.iconst 0, 1) := by decide +kernel
theorem dX3_safest_6 : decode cX3_safest 6 = .ok (.istore_n 3, 1) := by decide +kernel
theorem dX3_safest_7 : decode cX3_safest 7 = .ok (.iload_n 3, 1) := by decide +kernel
theorem dX3_safest_8 : decode cX3_safest 8 = .ok (.aload_n 0, 1) := by decide +kernel
theorem dX3_safest_9 : decode cX3_safest 9 = .ok (.invokevirtual 133, 3) := by decide +kernel
theorem dX3_safest_12 : decode cX3_safest 12 = .ok (.if_icmp .ge 44, 3) := by decide +kernel
theorem dX3_safest_15 : decode cX3_safest 15 = .ok (.aload_n 0, 1) := by decide +kernel
theorem dX3_safest_16 : decode cX3_safest 16 = .ok (.iload_n 3, 1) := by decide +kernel
theorem dX3_safest_17 : decode cX3_safest 17 = .ok (.iconst (-1), 1) := by decide +kernel
theorem dX3_safest_18 : decode cX3_safest 18 = .ok (.invokevirtual 125, 3) := by decide +kernel
theorem dX3_safest_21 : decode cX3_safest 21 = .ok (.istore 4, 2) := by decide +kernel
theorem dX3_safest_23 : decode cX3_safest 23 = .ok (.iload_n 1, 1) := by decide +kernel
theorem dX3_safest_24 : decode cX3_safest 24 = .ok (.ldc 132, 2) := by decide +kernel
theorem dX3_safest_26 : decode cX3_safest 26 = .ok (.if_icmp .eq 9, 3) := by decide +kernel
theorem dX3_safest_29 : decode cX3_safest 29 = .ok (.iload 4, 2) := by decide +kernel
theorem dX3_safest_31 : decode cX3_safest 31 = .ok (.iload_n 2, 1) := by decide +kernel
theorem dX3_safest_32 : decode cX3_safest 32 = .ok (.if_icmp .ge 18, 3) := by decide +kernel
theorem dX3_safest_35 : decode cX3_safest 35 = .ok (.aload_n 0, 1) := by decide +kernel
theorem dX3_safest_36 : decode cX3_safest 36 = .ok (.iload_n 3, 1) := by decide +kernel
theorem dX3_safest_37 : decode cX3_safest 37 = .ok (.invokevirtual 129, 3) := by decide +kernel
theorem dX3_safest_40 : decode cX3_safest 40 = .ok (.ldc 132, 2) := by decide +kernel
theorem dX3_safest_42 : decode cX3_safest 42 = .ok (.if_icmp .ne 8, 3) := by decide +kernel
theorem dX3_safest_45 : decode cX3_safest 45 = .ok (.iload_n 3, 1) := by decide +kernel
theorem dX3_safest_46 : decode cX3_safest 46 = .ok (.istore_n 1, 1) := by decide +kernel
theorem dX3_safest_47 : decode cX3_safest 47 = .ok (.iload 4, 2) := by decide +kernel
theorem dX3_safest_49 : decode cX3_safest 49 = .ok (.istore_n 2, 1) := by decide +kernel
theorem dX3_safest_50 : decode cX3_safest 50 = .ok (.iinc 3 1, 3) := by decide +kernel
theorem dX3_safest_53 : decode cX3_safest 53 = .ok (.goto (-46), 3) := by decide +kernel
theorem dX3_safest_56 : decode cX3_safest 56 = .ok (.iload_n 1, 1) := by decide +kernel
theorem dX3_safest_57 : decode cX3_safest 57 = .ok (.ireturn, 1) := by decide +kernel
set_option maxRecDepth 20000 in
theorem ggX3_answer_X3_isFirstPart : GoodIn wsX3_answer wsX3_isFirstPart := goodIn_r _ [6, 7, 8, 9, 5, 10, 11, 12, 13, 14, 52, 53, 54, 55, 56, 57, 58, 59, 60, 61, 62, 63] (by decide +kernel) (by decide +kernel)
set_option maxRecDepth 20000 in
theorem gX3_answer_X3_isFirstPart : GoodIn wsX3_answer (wsV RX3 136 RX3 yX3_isFirstPart wsX3_isFirstPart) := goodIn_app (goodIn_of _ (by decide +kernel)) ggX3_answer_X3_isFirstPart
set_option maxRecDepth 20000 in
theorem ggX3_answer_X3_isListed : GoodIn wsX3_answer wsX3_isListed := goodIn_r _ [18, 19, 20, 12, 13, 5, 14, 52, 53, 54, 55, 56, 57, 58, 59, 60, 61, 62, 63, 64, 65, 66, 67] (by decide +kernel) (by decide +kernel)
set_option maxRecDepth 20000 in
theorem gX3_answer_X3_isListed : GoodIn wsX3_answer (wsV RX3 91 RX3 yX3_isListed wsX3_isListed) := goodIn_app (goodIn_of _ (by decide +kernel)) ggX3_answer_X3_isListed
set_option maxRecDepth 20000 in
theorem ggX3_answer_X3_findAnswer : GoodIn wsX3_answer wsX3_findAnswer := goodIn_r _ [24, 25, 26, 11, 27, 28, 29, 30, 5, 31, 32, 19, 33, 34, 35, 36, 37, 38, 39, 40, 41, 42, 43, 44, 45, 46, 47, 48, 49, 50, 51, 52, 53, 54, 55, 56, 57, 58, 59, 60, 61, 62, 63, 64, 65, 66, 67, 68, 69, 70, 71, 72] (by decide +kernel) (by decide +kernel)
set_option maxRecDepth 20000 in
theorem gX3_answer_X3_findAnswer : GoodIn wsX3_answer (wsV RX3 139 RX3 yX3_findAnswer wsX3_findAnswer) := goodIn_app (goodIn_of _ (by decide +kernel)) ggX3_answer_X3_findAnswer
theorem dX3_answer_0 : decode cX3_answer 0 = .ok (.aload_n 0, 1) := by decide +kernel
theorem dX3_answer_1 : decode cX3_answer 1 = .ok (.iload_n 1, 1) := by decide +kernel
theorem dX3_answer_2 : decode cX3_answer 2 = .ok (.invokevirtual 136, 3) := by decide +kernel
theorem dX3_answer_5 : decode cX3_answer 5 = .ok (.ifCond .eq 11, 3) := by decide +kernel
theorem dX3_answer_8 : decode cX3_answer 8 = .ok (.aload_n 0, 1) := by decide +kernel
theorem dX3_answer_9 : decode cX3_answer 9 = .ok (.iload_n 2, 1) := by decide +kernel
theorem dX3_answer_10 : decode cX3_answer 10 = .ok (.invokevirtual 91, 3) := by decide +kernel
theorem dX3_answer_13 : decode cX3_answer 13 = .ok (.ifCond .ne 6, 3) := by decide +kernel
theorem dX3_answer_16 : decode cX3_answer 16 = .ok (.ldc 54, 2) := by decide +kernel
theorem dX3_answer_18 : decode cX3_answer 18 = .ok (.ireturn, 1) := by decide +kernel
theorem dX3_answer_19 : decode cX3_answer 19 = .ok (.aload_n 0, 1) := by decide +kernel
theorem dX3_answer_20 : decode cX3_answer 20 = .ok (.iload_n 1, 1) := by decide +kernel
theorem dX3_answer_21 : decode cX3_answer 21 = .ok (.iload_n 2, 1) := by decide +kernel
theorem dX3_answer_22 : decode cX3_answer 22 = .ok (.invokevirtual 139, 3) := by decide +kernel
theorem dX3_answer_25 : decode cX3_answer 25 = .ok (.ireturn, 1) := by decide +kernel
set_option maxRecDepth 20000 in
theorem ggX3_twoStep_X3_findTwoStep : GoodIn wsX3_twoStep wsX3_findTwoStep := goodIn_r _ [5, 6, 7, 8, 9, 4, 10, 11, 12, 13, 14, 15, 16, 17, 18, 19, 20, 21, 22, 23, 24, 25, 26, 27, 28, 29, 30, 31, 32, 33, 34, 35, 36, 37, 38, 39, 40, 41, 42, 43, 44, 45, 46, 47, 48, 49, 50, 51, 52, 53, 54, 55, 56, 57, 58, 59, 60, 61, 62, 63, 64, 65, 66, 67, 68, 69, 70, 71, 72, 73, 74, 75, 76, 77, 78, 79, 80, 81, 82] (by decide +kernel) (by decide +kernel)
set_option maxRecDepth 20000 in
theorem gX3_twoStep_X3_findTwoStep : GoodIn wsX3_twoStep (wsV RX3 142 RX3 yX3_findTwoStep wsX3_findTwoStep) := goodIn_app (goodIn_of _ (by decide +kernel)) ggX3_twoStep_X3_findTwoStep
theorem dX3_twoStep_0 : decode cX3_twoStep 0 = .ok (.aload_n 0, 1) := by decide +kernel
theorem dX3_twoStep_1 : decode cX3_twoStep 1 = .ok (.invokevirtual 142, 3) := by decide +kernel
theorem dX3_twoStep_4 : decode cX3_twoStep 4 = .ok (.ireturn, 1) := by decide +kernel
set_option maxRecDepth 20000 in
theorem ggX3_mean_X3_isFirstPart : GoodIn wsX3_mean wsX3_isFirstPart := goodIn_r _ [8, 9, 10, 11, 7, 12, 13, 14, 15, 16, 79, 80, 81, 82, 83, 84, 85, 86, 87, 88, 89, 90] (by decide +kernel) (by decide +kernel)
set_option maxRecDepth 20000 in
theorem gX3_mean_X3_isFirstPart : GoodIn wsX3_mean (wsV RX3 136 RX3 yX3_isFirstPart wsX3_isFirstPart) := goodIn_app (goodIn_of _ (by decide +kernel)) ggX3_mean_X3_isFirstPart
set_option maxRecDepth 20000 in
theorem ggX3_mean_X3_isPart : GoodIn wsX3_mean wsX3_isPart := goodIn_r _ [19, 14, 15, 7, 16] (by decide +kernel) (by decide +kernel)
set_option maxRecDepth 20000 in
theorem gX3_mean_X3_isPart : GoodIn wsX3_mean (va_wsS RX3 145 yX3_isPart wsX3_isPart) := goodIn_app (goodIn_of _ (by decide +kernel)) ggX3_mean_X3_isPart
set_option maxRecDepth 20000 in
theorem ggX3_mean_X3_costByOdds : GoodIn wsX3_mean wsX3_costByOdds := goodIn_r _ [23, 3, 2, 24, 25, 26, 27, 28, 29, 30, 31, 32, 33, 34, 35, 36, 37, 7, 38, 39, 13, 40, 41, 42, 43, 44, 45, 46, 47, 48, 49, 50, 51, 52, 53, 54, 55, 56, 57, 58, 59, 60, 61, 62, 63, 64, 65, 66, 67, 68, 79, 80, 81, 82, 83, 84, 85, 86, 87, 88, 89, 90, 91, 92, 93, 94, 95, 96, 97, 98, 99] (by decide +kernel) (by decide +kernel)
set_option maxRecDepth 20000 in
theorem gX3_mean_X3_costByOdds : GoodIn wsX3_mean (wsV RX3 148 RX3 yX3_costByOdds wsX3_costByOdds) := goodIn_app (goodIn_of _ (by decide +kernel)) ggX3_mean_X3_costByOdds
set_option maxRecDepth 20000 in
theorem ggX3_mean_X0_countedOdds : GoodIn wsX3_mean wsX0_countedOdds := goodIn_r _ [31, 32, 33, 34, 91, 92, 93, 94] (by decide +kernel) (by decide +kernel)
set_option maxRecDepth 20000 in
theorem gX3_mean_X0_countedOdds : GoodIn wsX3_mean (wsV RX3 151 RX0 yX0_countedOdds wsX0_countedOdds) := goodIn_app (goodIn_of _ (by decide +kernel)) ggX3_mean_X0_countedOdds
set_option maxRecDepth 20000 in
theorem ggX3_mean_X3_partOfFraction : GoodIn wsX3_mean wsX3_partOfFraction := goodIn_r _ [71, 72, 73, 74, 75, 76, 77, 7, 78] (by decide +kernel) (by decide +kernel)
set_option maxRecDepth 20000 in
theorem gX3_mean_X3_partOfFraction : GoodIn wsX3_mean (va_wsS RX3 154 yX3_partOfFraction wsX3_partOfFraction) := goodIn_app (goodIn_of _ (by decide +kernel)) ggX3_mean_X3_partOfFraction
theorem dX3_mean_0 : decode cX3_mean 0 = .ok (.aload_n 0, 1) := by decide +kernel
theorem dX3_mean_1 : decode cX3_mean 1 = .ok (.iload_n 1, 1) := by decide +kernel
theorem dX3_mean_2 : decode cX3_mean 2 = .ok (.invokevirtual 136, 3) := by decide +kernel
theorem dX3_mean_5 : decode cX3_mean 5 = .ok (.ifCond .eq 10, 3) := by decide +kernel
theorem dX3_mean_8 : decode cX3_mean 8 = .ok (.iload_n 2, 1) := by decide +kernel
theorem dX3_mean_9 : decode cX3_mean 9 = .ok (.invokestatic 145, 3) := by decide +kernel
theorem dX3_mean_12 : decode cX3_mean 12 = .ok (.ifCond .ne 6, 3) := by decide +kernel
theorem dX3_mean_15 : decode cX3_mean 15 = .ok (.ldc 54, 2) := by decide +kernel
theorem dX3_mean_17 : decode cX3_mean 17 = .ok (.ireturn, 1) := by decide +kernel
theorem dX3_mean_18 : decode cX3_mean 18 = .ok (.aload_n 0, 1) := by decide +kernel
theorem dX3_mean_19 : decode cX3_mean 19 = .ok (.iload_n 1, 1) := by decide +kernel
theorem dX3_mean_20 : decode cX3_mean 20 = .ok (.invokevirtual 148, 3) := by decide +kernel
theorem dX3_mean_23 : decode cX3_mean 23 = .ok (.istore_n 3, 1) := by decide +kernel
theorem dX3_mean_24 : decode cX3_mean 24 = .ok (.iload_n 3, 1) := by decide +kernel
theorem dX3_mean_25 : decode cX3_mean 25 = .ok (.ldc 132, 2) := by decide +kernel
theorem dX3_mean_27 : decode cX3_mean 27 = .ok (.if_icmp .ne 6, 3) := by decide +kernel
theorem dX3_mean_30 : decode cX3_mean 30 = .ok (.ldc 132, 2) := by decide +kernel
theorem dX3_mean_32 : decode cX3_mean 32 = .ok (.ireturn, 1) := by decide +kernel
theorem dX3_mean_33 : decode cX3_mean 33 = .ok (.iload_n 3, 1) := by decide +kernel
theorem dX3_mean_34 : decode cX3_mean 34 = .ok (.aload_n 0, 1) := by decide +kernel
theorem dX3_mean_35 : decode cX3_mean 35 = .ok (.getfield 26, 3) := by decide +kernel
theorem dX3_mean_38 : decode cX3_mean 38 = .ok (.invokevirtual 151, 3) := by decide +kernel
theorem dX3_mean_41 : decode cX3_mean 41 = .ok (.iload_n 2, 1) := by decide +kernel
theorem dX3_mean_42 : decode cX3_mean 42 = .ok (.invokestatic 154, 3) := by decide +kernel
theorem dX3_mean_45 : decode cX3_mean 45 = .ok (.ireturn, 1) := by decide +kernel
set_option maxRecDepth 20000 in
theorem ggX3_best_X3_isListed : GoodIn wsX3_best wsX3_isListed := goodIn_r _ [6, 7, 8, 9, 10, 5, 11, 48, 49, 50, 51, 52, 53, 54, 55, 56, 57, 58, 59, 60, 61, 62, 63] (by decide +kernel) (by decide +kernel)
set_option maxRecDepth 20000 in
theorem gX3_best_X3_isListed : GoodIn wsX3_best (wsV RX3 91 RX3 yX3_isListed wsX3_isListed) := goodIn_app (goodIn_of _ (by decide +kernel)) ggX3_best_X3_isListed
set_option maxRecDepth 20000 in
theorem ggX3_best_X3_leastCost : GoodIn wsX3_best wsX3_leastCost := goodIn_r _ [15, 16, 17, 18, 19, 20, 5, 21, 22, 23, 24, 25, 26, 27, 28, 7, 29, 30, 31, 32, 33, 34, 35, 36, 37, 38, 39, 40, 41, 42, 43, 44, 45, 46, 47, 48, 49, 50, 51, 52, 53, 54, 55, 56, 57, 58, 59, 60, 61, 62, 63, 64, 65, 66, 67, 68] (by decide +kernel) (by decide +kernel)
set_option maxRecDepth 20000 in
theorem gX3_best_X3_leastCost : GoodIn wsX3_best (wsV RX3 157 RX3 yX3_leastCost wsX3_leastCost) := goodIn_app (goodIn_of _ (by decide +kernel)) ggX3_best_X3_leastCost
theorem dX3_best_0 : decode cX3_best 0 = .ok (.aload_n 0, 1) := by decide +kernel
theorem dX3_best_1 : decode cX3_best 1 = .ok (.iload_n 1, 1) := by decide +kernel
theorem dX3_best_2 : decode cX3_best 2 = .ok (.invokevirtual 91, 3) := by decide +kernel
theorem dX3_best_5 : decode cX3_best 5 = .ok (.ifCond .ne 6, 3) := by decide +kernel
theorem dX3_best_8 : decode cX3_best 8 = .ok (.ldc 54, 2) := by decide +kernel
theorem dX3_best_10 : decode cX3_best 10 = .ok (.ireturn, 1) := by decide +kernel
theorem dX3_best_11 : decode cX3_best 11 = .ok (.aload_n 0, 1) := by decide +kernel
theorem dX3_best_12 : decode cX3_best 12 = .ok (.iload_n 1, 1) := by decide +kernel
theorem dX3_best_13 : decode cX3_best 13 = .ok (.invokevirtual 157, 3) := by decide +kernel
theorem dX3_best_16 : decode cX3_best 16 = .ok (.ireturn, 1) := by decide +kernel
set_option maxRecDepth 20000 in
theorem ggX3_regret_X3_isFirstPart : GoodIn wsX3_regret wsX3_isFirstPart := goodIn_r _ [6, 7, 8, 9, 5, 10, 11, 12, 13, 14, 82, 83, 84, 85, 86, 87, 88, 89, 90, 91, 92, 93] (by decide +kernel) (by decide +kernel)
set_option maxRecDepth 20000 in
theorem gX3_regret_X3_isFirstPart : GoodIn wsX3_regret (wsV RX3 136 RX3 yX3_isFirstPart wsX3_isFirstPart) := goodIn_app (goodIn_of _ (by decide +kernel)) ggX3_regret_X3_isFirstPart
set_option maxRecDepth 20000 in
theorem ggX3_regret_X3_fillBests : GoodIn wsX3_regret wsX3_fillBests := goodIn_r _ [18, 19, 20, 21, 22, 23, 24, 25, 5, 26, 27, 28, 29, 30, 31, 32, 11, 33, 34, 35, 36, 37, 38, 39, 40, 41, 42, 43, 44, 45, 46, 47, 48, 49, 50, 51, 52, 53, 54, 55, 56, 57, 82, 83, 84, 85, 86, 87, 88, 89, 90, 91, 92, 93, 94, 95, 96, 97, 98, 99, 100, 101, 102] (by decide +kernel) (by decide +kernel)
set_option maxRecDepth 20000 in
theorem gX3_regret_X3_fillBests : GoodIn wsX3_regret (wsV RX3 160 RX3 yX3_fillBests wsX3_fillBests) := goodIn_app (goodIn_of _ (by decide +kernel)) ggX3_regret_X3_fillBests
set_option maxRecDepth 20000 in
theorem ggX3_regret_X3_greatestRegret : GoodIn wsX3_regret wsX3_greatestRegret := goodIn_r _ [61, 19, 27, 20, 21, 22, 62, 63, 64, 65, 66, 67, 68, 69, 70, 71, 72, 73, 74, 75, 76, 5, 77, 33, 11, 28, 34, 35, 36, 37, 38, 39, 40, 41, 42, 43, 44, 45, 46, 47, 48, 49, 50, 51, 52, 53, 54, 55, 56, 57, 78, 79, 80, 81, 82, 83, 84, 85, 86, 87, 88, 89, 90, 91, 92, 93, 94, 95, 96, 97, 98, 99, 100, 101, 102] (by decide +kernel) (by decide +kernel)
set_option maxRecDepth 20000 in
theorem gX3_regret_X3_greatestRegret : GoodIn wsX3_regret (wsV RX3 163 RX3 yX3_greatestRegret wsX3_greatestRegret) := goodIn_app (goodIn_of _ (by decide +kernel)) ggX3_regret_X3_greatestRegret
theorem dX3_regret_0 : decode cX3_regret 0 = .ok (.aload_n 0, 1) := by decide +kernel
theorem dX3_regret_1 : decode cX3_regret 1 = .ok (.iload_n 1, 1) := by decide +kernel
theorem dX3_regret_2 : decode cX3_regret 2 = .ok (.invokevirtual 136, 3) := by decide +kernel
theorem dX3_regret_5 : decode cX3_regret 5 = .ok (.ifCond .ne 6, 3) := by decide +kernel
theorem dX3_regret_8 : decode cX3_regret 8 = .ok (.ldc 54, 2) := by decide +kernel
theorem dX3_regret_10 : decode cX3_regret 10 = .ok (.ireturn, 1) := by decide +kernel
theorem dX3_regret_11 : decode cX3_regret 11 = .ok (.aload_n 0, 1) := by decide +kernel
theorem dX3_regret_12 : decode cX3_regret 12 = .ok (.invokevirtual 160, 3) := by decide +kernel
theorem dX3_regret_15 : decode cX3_regret 15 = .ok (.aload_n 0, 1) := by decide +kernel
theorem dX3_regret_16 : decode cX3_regret 16 = .ok (.iload_n 1, 1) := by decide +kernel
theorem dX3_regret_17 : decode cX3_regret 17 = .ok (.invokevirtual 163, 3) := by decide +kernel
theorem dX3_regret_20 : decode cX3_regret 20 = .ok (.ireturn, 1) := by decide +kernel
set_option maxRecDepth 20000 in
theorem ggX3_calmest_X3_fillBests : GoodIn wsX3_calmest wsX3_fillBests := goodIn_r _ [6, 7, 8, 9, 10, 11, 12, 13, 5, 14, 1, 15, 16, 17, 18, 19, 20, 21, 22, 23, 24, 25, 26, 27, 28, 29, 30, 31, 32, 33, 34, 35, 36, 37, 38, 39, 40, 41, 42, 43, 44, 45, 74, 75, 76, 77, 78, 79, 80, 81, 82, 83, 84, 85, 86, 87, 88, 89, 90, 91, 92, 93, 94] (by decide +kernel) (by decide +kernel)
set_option maxRecDepth 20000 in
theorem gX3_calmest_X3_fillBests : GoodIn wsX3_calmest (wsV RX3 160 RX3 yX3_fillBests wsX3_fillBests) := goodIn_app (goodIn_of _ (by decide +kernel)) ggX3_calmest_X3_fillBests
set_option maxRecDepth 20000 in
theorem ggX3_calmest_X3_firstPartCount : GoodIn wsX3_calmest wsX3_firstPartCount := goodIn_r _ [49, 20, 74, 75, 76, 77, 78, 79, 80, 81, 82, 83, 84, 85] (by decide +kernel) (by decide +kernel)
set_option maxRecDepth 20000 in
theorem gX3_calmest_X3_firstPartCount : GoodIn wsX3_calmest (wsV RX3 166 RX3 yX3_firstPartCount wsX3_firstPartCount) := goodIn_app (goodIn_of _ (by decide +kernel)) ggX3_calmest_X3_firstPartCount
set_option maxRecDepth 20000 in
theorem ggX3_calmest_X3_greatestRegret : GoodIn wsX3_calmest wsX3_greatestRegret := goodIn_r _ [53, 7, 1, 8, 9, 10, 54, 55, 56, 57, 58, 59, 60, 61, 62, 63, 64, 65, 66, 67, 68, 5, 69, 21, 20, 15, 22, 23, 24, 25, 26, 27, 28, 29, 30, 31, 32, 33, 34, 35, 36, 37, 38, 39, 40, 41, 42, 43, 44, 45, 70, 71, 72, 73, 74, 75, 76, 77, 78, 79, 80, 81, 82, 83, 84, 85, 86, 87, 88, 89, 90, 91, 92, 93, 94] (by decide +kernel) (by decide +kernel)
set_option maxRecDepth 20000 in
theorem gX3_calmest_X3_greatestRegret : GoodIn wsX3_calmest (wsV RX3 163 RX3 yX3_greatestRegret wsX3_greatestRegret) := goodIn_app (goodIn_of _ (by decide +kernel)) ggX3_calmest_X3_greatestRegret
theorem dX3_calmest_0 : decode cX3_calmest 0 = .ok (.aload_n 0, 1) := by decide +kernel
theorem dX3_calmest_1 : decode cX3_calmest 1 = .ok (.invokevirtual 160, 3) := by decide +kernel
theorem dX3_calmest_4 : decode cX3_calmest 4 = .ok (.ldc 132, 2) := by decide +kernel
theorem dX3_calmest_6 : decode cX3_calmest 6 = .ok (.istore_n 1, 1) := by decide +kernel
theorem dX3_calmest_7 : decode cX3_calmest 7 = .ok (.iconst 0, 1) := by decide +kernel
theorem dX3_calmest_8 : decode cX3_calmest 8 = .ok (.istore_n 2, 1) := by decide +kernel
theorem dX3_calmest_9 : decode cX3_calmest 9 = .ok (.iconst 0, 1) := by decide +kernel
theorem dX3_calmest_10 : decode cX3_calmest 10 = .ok (.istore_n 3, 1) := by decide +kernel
theorem dX3_calmest_11 : decode cX3_calmest 11 = .ok (.iload_n 3, 1) := by decide +kernel
theorem dX3_calmest_12 : decode cX3_calmest 12 = .ok (.aload_n 0, 1) := by decide +kernel
theorem dX3_calmest_13 : decode cX3_calmest 13 = .ok (.invokevirtual 166, 3) := by decide +kernel
theorem dX3_calmest_16 : decode cX3_calmest 16 = .ok (.if_icmp .ge 40, 3) := by decide +kernel
theorem dX3_calmest_19 : decode cX3_calmest 19 = .ok (.aload_n 0, 1) := by decide +kernel
theorem dX3_calmest_20 : decode cX3_calmest 20 = .ok (.iload_n 3, 1) := by decide +kernel
theorem dX3_calmest_21 : decode cX3_calmest 21 = .ok (.invokevirtual 163, 3) := by decide +kernel
theorem dX3_calmest_24 : decode cX3_calmest 24 = .ok (.istore 4, 2) := by decide +kernel
theorem dX3_calmest_26 : decode cX3_calmest 26 = .ok (.iload 4, 2) := by decide +kernel
theorem dX3_calmest_28 : decode cX3_calmest 28 = .ok (.ldc 132, 2) := by decide +kernel
theorem dX3_calmest_30 : decode cX3_calmest 30 = .ok (.if_icmp .eq 20, 3) := by decide +kernel
theorem dX3_calmest_33 : decode cX3_calmest 33 = .ok (.iload_n 1, 1) := by decide +kernel
theorem dX3_calmest_34 : decode cX3_calmest 34 = .ok (.ldc 132, 2) := by decide +kernel
theorem dX3_calmest_36 : decode cX3_calmest 36 = .ok (.if_icmp .eq 9, 3) := by decide +kernel
theorem dX3_calmest_39 : decode cX3_calmest 39 = .ok (.iload 4, 2) := by decide +kernel
theorem dX3_calmest_41 : decode cX3_calmest 41 = .ok (.iload_n 2, 1) := by decide +kernel
theorem dX3_calmest_42 : decode cX3_calmest 42 = .ok (.if_icmp .ge 8, 3) := by decide +kernel
theorem dX3_calmest_45 : decode cX3_calmest 45 = .ok (.iload_n 3, 1) := by decide +kernel
theorem dX3_calmest_46 : decode cX3_calmest 46 = .ok (.istore_n 1, 1) := by decide +kernel
theorem dX3_calmest_47 : decode cX3_calmest 47 = .ok (.iload 4, 2) := by decide +kernel
theorem dX3_calmest_49 : decode cX3_calmest 49 = .ok (.istore_n 2, 1) := by decide +kernel
theorem dX3_calmest_50 : decode cX3_calmest 50 = .ok (.iinc 3 1, 3) := by decide +kernel
theorem dX3_calmest_53 : decode cX3_calmest 53 = .ok (.goto (-42), 3) := by decide +kernel
theorem dX3_calmest_56 : decode cX3_calmest 56 = .ok (.iload_n 1, 1) := by decide +kernel
theorem dX3_calmest_57 : decode cX3_calmest 57 = .ok (.ireturn, 1) := by decide +kernel
set_option maxRecDepth 20000 in
theorem ggX3_waiting_X3_isPart : GoodIn wsX3_waiting wsX3_isPart := goodIn_r _ [11, 12, 13, 10, 14] (by decide +kernel) (by decide +kernel)
set_option maxRecDepth 20000 in
theorem gX3_waiting_X3_isPart : GoodIn wsX3_waiting (va_wsS RX3 145 yX3_isPart wsX3_isPart) := goodIn_app (goodIn_of _ (by decide +kernel)) ggX3_waiting_X3_isPart
set_option maxRecDepth 20000 in
theorem ggX3_waiting_X3_findTwoStep : GoodIn wsX3_waiting wsX3_findTwoStep := goodIn_r _ [18, 2, 19, 20, 21, 10, 22, 23, 24, 25, 26, 27, 3, 4, 5, 6, 28, 29, 30, 31, 32, 33, 34, 35, 36, 37, 38, 39, 40, 41, 42, 43, 44, 45, 46, 47, 48, 49, 50, 51, 52, 53, 54, 55, 56, 57, 58, 59, 60, 61, 62, 63, 64, 65, 66, 67, 68, 69, 92, 93, 94, 95, 96, 97, 98, 99, 100, 101, 102, 103, 104, 105, 106, 107, 108, 109, 110, 111, 112] (by decide +kernel) (by decide +kernel)
set_option maxRecDepth 20000 in
theorem gX3_waiting_X3_findTwoStep : GoodIn wsX3_waiting (wsV RX3 142 RX3 yX3_findTwoStep wsX3_findTwoStep) := goodIn_app (goodIn_of _ (by decide +kernel)) ggX3_waiting_X3_findTwoStep
set_option maxRecDepth 20000 in
theorem ggX3_waiting_X3_fillBests : GoodIn wsX3_waiting wsX3_fillBests := goodIn_r _ [73, 3, 4, 5, 7, 74, 75, 76, 10, 77, 2, 41, 78, 79, 80, 81, 23, 40, 42, 43, 44, 45, 46, 47, 48, 49, 50, 51, 52, 53, 54, 55, 56, 57, 58, 59, 60, 61, 62, 63, 64, 65, 92, 93, 94, 95, 96, 97, 98, 99, 100, 101, 102, 103, 104, 105, 106, 107, 108, 109, 110, 111, 112] (by decide +kernel) (by decide +kernel)
set_option maxRecDepth 20000 in
theorem gX3_waiting_X3_fillBests : GoodIn wsX3_waiting (wsV RX3 160 RX3 yX3_fillBests wsX3_fillBests) := goodIn_app (goodIn_of _ (by decide +kernel)) ggX3_waiting_X3_fillBests
set_option maxRecDepth 20000 in
theorem ggX3_waiting_X3_costByOdds : GoodIn wsX3_waiting wsX3_costByOdds := goodIn_r _ [27, 3, 2, 4, 5, 6, 28, 29, 30, 31, 32, 33, 34, 35, 36, 37, 38, 10, 39, 40, 23, 41, 42, 43, 44, 45, 46, 47, 48, 49, 50, 51, 52, 53, 54, 55, 56, 57, 58, 59, 60, 61, 62, 63, 64, 65, 66, 67, 68, 69, 92, 93, 94, 95, 96, 97, 98, 99, 100, 101, 102, 103, 104, 105, 106, 107, 108, 109, 110, 111, 112] (by decide +kernel) (by decide +kernel)
set_option maxRecDepth 20000 in
theorem gX3_waiting_X3_costByOdds : GoodIn wsX3_waiting (wsV RX3 148 RX3 yX3_costByOdds wsX3_costByOdds) := goodIn_app (goodIn_of _ (by decide +kernel)) ggX3_waiting_X3_costByOdds
set_option maxRecDepth 20000 in
theorem ggX3_waiting_X0_countedOdds : GoodIn wsX3_waiting wsX0_countedOdds := goodIn_r _ [32, 33, 34, 35, 104, 105, 106, 107] (by decide +kernel) (by decide +kernel)
set_option maxRecDepth 20000 in
theorem gX3_waiting_X0_countedOdds : GoodIn wsX3_waiting (wsV RX3 151 RX0 yX0_countedOdds wsX0_countedOdds) := goodIn_app (goodIn_of _ (by decide +kernel)) ggX3_waiting_X0_countedOdds
set_option maxRecDepth 20000 in
theorem ggX3_waiting_X3_partOfFraction : GoodIn wsX3_waiting wsX3_partOfFraction := goodIn_r _ [84, 85, 86, 87, 88, 89, 90, 10, 91] (by decide +kernel) (by decide +kernel)
set_option maxRecDepth 20000 in
theorem gX3_waiting_X3_partOfFraction : GoodIn wsX3_waiting (va_wsS RX3 154 yX3_partOfFraction wsX3_partOfFraction) := goodIn_app (goodIn_of _ (by decide +kernel)) ggX3_waiting_X3_partOfFraction
theorem dX3_waiting_0 : decode cX3_waiting 0 = .ok (.iload_n 1, 1) := by decide +kernel
theorem dX3_waiting_1 : decode cX3_waiting 1 = .ok (.invokestatic 145, 3) := by decide +kernel
theorem dX3_waiting_4 : decode cX3_waiting 4 = .ok (.ifCond .ne 6, 3) := by decide +kernel
theorem dX3_waiting_7 : decode cX3_waiting 7 = .ok (.ldc 54, 2) := by decide +kernel
theorem dX3_waiting_9 : decode cX3_waiting 9 = .ok (.ireturn, 1) := by decide +kernel
theorem dX3_waiting_10 : decode cX3_waiting 10 = .ok (.aload_n 0, 1) := by decide +kernel
theorem dX3_waiting_11 : decode cX3_waiting 11 = .ok (.invokevirtual 142, 3) := by decide +kernel
theorem dX3_waiting_14 : decode cX3_waiting 14 = .ok (.istore_n 2, 1) := by decide +kernel
theorem dX3_waiting_15 : decode cX3_waiting 15 = .ok (.iload_n 2, 1) := by decide +kernel
theorem dX3_waiting_16 : decode cX3_waiting 16 = .ok (.ldc 132, 2) := by decide +kernel
theorem dX3_waiting_18 : decode cX3_waiting 18 = .ok (.if_icmp .ne 6, 3) := by decide +kernel
theorem dX3_waiting_21 : decode cX3_waiting 21 = .ok (.ldc 132, 2) := by decide +kernel
theorem dX3_waiting_23 : decode cX3_waiting 23 = .ok (.ireturn, 1) := by decide +kernel
theorem dX3_waiting_24 : decode cX3_waiting 24 = .ok (.aload_n 0, 1) := by decide +kernel
theorem dX3_waiting_25 : decode cX3_waiting 25 = .ok (.invokevirtual 160, 3) := by decide +kernel
theorem dX3_waiting_28 : decode cX3_waiting 28 = .ok (.aload_n 0, 1) := by decide +kernel
theorem dX3_waiting_29 : decode cX3_waiting 29 = .ok (.iload_n 2, 1) := by decide +kernel
theorem dX3_waiting_30 : decode cX3_waiting 30 = .ok (.invokevirtual 148, 3) := by decide +kernel
theorem dX3_waiting_33 : decode cX3_waiting 33 = .ok (.istore_n 3, 1) := by decide +kernel
theorem dX3_waiting_34 : decode cX3_waiting 34 = .ok (.iconst 0, 1) := by decide +kernel
theorem dX3_waiting_35 : decode cX3_waiting 35 = .ok (.istore 4, 2) := by decide +kernel
theorem dX3_waiting_37 : decode cX3_waiting 37 = .ok (.iload 4, 2) := by decide +kernel
theorem dX3_waiting_39 : decode cX3_waiting 39 = .ok (.aload_n 0, 1) := by decide +kernel
theorem dX3_waiting_40 : decode cX3_waiting 40 = .ok (.getfield 26, 3) := by decide +kernel
theorem dX3_waiting_43 : decode cX3_waiting 43 = .ok (.getfield 87, 3) := by decide +kernel
theorem dX3_waiting_46 : decode cX3_waiting 46 = .ok (.if_icmp .ge 43, 3) := by decide +kernel
theorem dX3_waiting_49 : decode cX3_waiting 49 = .ok (.aload_n 0, 1) := by decide +kernel
theorem dX3_waiting_50 : decode cX3_waiting 50 = .ok (.getfield 26, 3) := by decide +kernel
theorem dX3_waiting_53 : decode cX3_waiting 53 = .ok (.getfield 169, 3) := by decide +kernel
theorem dX3_waiting_56 : decode cX3_waiting 56 = .ok (.iload 4, 2) := by decide +kernel
theorem dX3_waiting_58 : decode cX3_waiting 58 = .ok (.baload, 1) := by decide +kernel
theorem dX3_waiting_59 : decode cX3_waiting 59 = .ok (.ifCond .ne 24, 3) := by decide +kernel
theorem dX3_waiting_62 : decode cX3_waiting 62 = .ok (.iload_n 3, 1) := by decide +kernel
theorem dX3_waiting_63 : decode cX3_waiting 63 = .ok (.aload_n 0, 1) := by decide +kernel
theorem dX3_waiting_64 : decode cX3_waiting 64 = .ok (.getfield 26, 3) := by decide +kernel
theorem dX3_waiting_67 : decode cX3_waiting 67 = .ok (.getfield 173, 3) := by decide +kernel
theorem dX3_waiting_70 : decode cX3_waiting 70 = .ok (.iload 4, 2) := by decide +kernel
theorem dX3_waiting_72 : decode cX3_waiting 72 = .ok (.iaload, 1) := by decide +kernel
theorem dX3_waiting_73 : decode cX3_waiting 73 = .ok (.aload_n 0, 1) := by decide +kernel
theorem dX3_waiting_74 : decode cX3_waiting 74 = .ok (.getfield 34, 3) := by decide +kernel
theorem dX3_waiting_77 : decode cX3_waiting 77 = .ok (.iload 4, 2) := by decide +kernel
theorem dX3_waiting_79 : decode cX3_waiting 79 = .ok (.iaload, 1) := by decide +kernel
theorem dX3_waiting_80 : decode cX3_waiting 80 = .ok (.imul, 1) := by decide +kernel
theorem dX3_waiting_81 : decode cX3_waiting 81 = .ok (.isub, 1) := by decide +kernel
theorem dX3_waiting_82 : decode cX3_waiting 82 = .ok (.istore_n 3, 1) := by decide +kernel
theorem dX3_waiting_83 : decode cX3_waiting 83 = .ok (.iinc 4 1, 3) := by decide +kernel
theorem dX3_waiting_86 : decode cX3_waiting 86 = .ok (.goto (-49), 3) := by decide +kernel
theorem dX3_waiting_89 : decode cX3_waiting 89 = .ok (.iload_n 3, 1) := by decide +kernel
theorem dX3_waiting_90 : decode cX3_waiting 90 = .ok (.aload_n 0, 1) := by decide +kernel
theorem dX3_waiting_91 : decode cX3_waiting 91 = .ok (.getfield 26, 3) := by decide +kernel
theorem dX3_waiting_94 : decode cX3_waiting 94 = .ok (.invokevirtual 151, 3) := by decide +kernel
theorem dX3_waiting_97 : decode cX3_waiting 97 = .ok (.iload_n 1, 1) := by decide +kernel
theorem dX3_waiting_98 : decode cX3_waiting 98 = .ok (.invokestatic 154, 3) := by decide +kernel
theorem dX3_waiting_101 : decode cX3_waiting 101 = .ok (.ireturn, 1) := by decide +kernel
set_option maxRecDepth 20000 in
theorem ggX3_chance_X3_isPlan : GoodIn wsX3_chance wsX3_isPlan := goodIn_r _ [11, 12, 13, 14, 10, 15, 16, 17, 18, 19, 20, 67, 68, 69, 70, 71, 72, 73, 74, 75, 76, 77, 78] (by decide +kernel) (by decide +kernel)
set_option maxRecDepth 20000 in
theorem gX3_chance_X3_isPlan : GoodIn wsX3_chance (wsV RX3 111 RX3 yX3_isPlan wsX3_isPlan) := goodIn_app (goodIn_of _ (by decide +kernel)) ggX3_chance_X3_isPlan
set_option maxRecDepth 20000 in
theorem ggX3_chance_X3_isPart : GoodIn wsX3_chance wsX3_isPart := goodIn_r _ [23, 18, 19, 10, 20] (by decide +kernel) (by decide +kernel)
set_option maxRecDepth 20000 in
theorem gX3_chance_X3_isPart : GoodIn wsX3_chance (va_wsS RX3 145 yX3_isPart wsX3_isPart) := goodIn_app (goodIn_of _ (by decide +kernel)) ggX3_chance_X3_isPart
set_option maxRecDepth 20000 in
theorem ggX3_chance_X0_countedOdds : GoodIn wsX3_chance wsX0_countedOdds := goodIn_r _ [28, 29, 30, 31, 79, 80, 81, 82] (by decide +kernel) (by decide +kernel)
set_option maxRecDepth 20000 in
theorem gX3_chance_X0_countedOdds : GoodIn wsX3_chance (wsV RX3 151 RX0 yX0_countedOdds wsX0_countedOdds) := goodIn_app (goodIn_of _ (by decide +kernel)) ggX3_chance_X0_countedOdds
set_option maxRecDepth 20000 in
theorem ggX3_chance_X3_allHold : GoodIn wsX3_chance wsX3_allHold := goodIn_r _ [35, 36, 2, 37, 38, 39, 40, 41, 42, 43, 44, 45, 46, 47, 48, 49, 50, 51, 52, 53, 54, 10, 55, 56, 67, 68, 69, 70, 71, 72, 73, 74, 75, 76, 77, 78, 79, 80, 81, 82, 83, 84, 85, 86, 87] (by decide +kernel) (by decide +kernel)
set_option maxRecDepth 20000 in
theorem gX3_chance_X3_allHold : GoodIn wsX3_chance (wsV RX3 176 RX3 yX3_allHold wsX3_allHold) := goodIn_app (goodIn_of _ (by decide +kernel)) ggX3_chance_X3_allHold
set_option maxRecDepth 20000 in
theorem ggX3_chance_X3_partOfFraction : GoodIn wsX3_chance wsX3_partOfFraction := goodIn_r _ [59, 60, 61, 62, 63, 64, 65, 10, 66] (by decide +kernel) (by decide +kernel)
set_option maxRecDepth 20000 in
theorem gX3_chance_X3_partOfFraction : GoodIn wsX3_chance (va_wsS RX3 154 yX3_partOfFraction wsX3_partOfFraction) := goodIn_app (goodIn_of _ (by decide +kernel)) ggX3_chance_X3_partOfFraction
theorem dX3_chance_0 : decode cX3_chance 0 = .ok (.aload_n 0, 1) := by decide +kernel
theorem dX3_chance_1 : decode cX3_chance 1 = .ok (.iload_n 1, 1) := by decide +kernel
theorem dX3_chance_2 : decode cX3_chance 2 = .ok (.invokevirtual 111, 3) := by decide +kernel
theorem dX3_chance_5 : decode cX3_chance 5 = .ok (.ifCond .eq 10, 3) := by decide +kernel
theorem dX3_chance_8 : decode cX3_chance 8 = .ok (.iload_n 2, 1) := by decide +kernel
theorem dX3_chance_9 : decode cX3_chance 9 = .ok (.invokestatic 145, 3) := by decide +kernel
theorem dX3_chance_12 : decode cX3_chance 12 = .ok (.ifCond .ne 6, 3) := by decide +kernel
theorem dX3_chance_15 : decode cX3_chance 15 = .ok (.ldc 54, 2) := by decide +kernel
theorem dX3_chance_17 : decode cX3_chance 17 = .ok (.ireturn, 1) := by decide +kernel
theorem dX3_chance_18 : decode cX3_chance 18 = .ok (.aload_n 0, 1) := by decide +kernel
end
section
theorem dX3_chance_19 : decode cX3_chance 19 = .ok (.getfield 26, 3) := by decide +kernel
theorem dX3_chance_22 : decode cX3_chance 22 = .ok (.invokevirtual 151, 3) := by decide +kernel
theorem dX3_chance_25 : decode cX3_chance 25 = .ok (.istore_n 3, 1) := by decide +kernel
theorem dX3_chance_26 : decode cX3_chance 26 = .ok (.iload_n 3, 1) := by decide +kernel
theorem dX3_chance_27 : decode cX3_chance 27 = .ok (.ifCond .ne 6, 3) := by decide +kernel
theorem dX3_chance_30 : decode cX3_chance 30 = .ok (.ldc 132, 2) := by decide +kernel
theorem dX3_chance_32 : decode cX3_chance 32 = .ok (.ireturn, 1) := by decide +kernel
theorem dX3_chance_33 : decode cX3_chance 33 = .ok (.iconst 0, 1) := by decide +kernel
theorem dX3_chance_34 : decode cX3_chance 34 = .ok (.istore 4, 2) := by decide +kernel
theorem dX3_chance_36 : decode cX3_chance 36 = .ok (.iconst 0, 1) := by decide +kernel
theorem dX3_chance_37 : decode cX3_chance 37 = .ok (.istore 5, 2) := by decide +kernel
theorem dX3_chance_39 : decode cX3_chance 39 = .ok (.iload 5, 2) := by decide +kernel
theorem dX3_chance_41 : decode cX3_chance 41 = .ok (.aload_n 0, 1) := by decide +kernel
theorem dX3_chance_42 : decode cX3_chance 42 = .ok (.getfield 26, 3) := by decide +kernel
theorem dX3_chance_45 : decode cX3_chance 45 = .ok (.getfield 87, 3) := by decide +kernel
theorem dX3_chance_48 : decode cX3_chance 48 = .ok (.if_icmp .ge 47, 3) := by decide +kernel
theorem dX3_chance_51 : decode cX3_chance 51 = .ok (.aload_n 0, 1) := by decide +kernel
theorem dX3_chance_52 : decode cX3_chance 52 = .ok (.getfield 26, 3) := by decide +kernel
theorem dX3_chance_55 : decode cX3_chance 55 = .ok (.getfield 169, 3) := by decide +kernel
theorem dX3_chance_58 : decode cX3_chance 58 = .ok (.iload 5, 2) := by decide +kernel
theorem dX3_chance_60 : decode cX3_chance 60 = .ok (.baload, 1) := by decide +kernel
theorem dX3_chance_61 : decode cX3_chance 61 = .ok (.ifCond .ne 28, 3) := by decide +kernel
theorem dX3_chance_64 : decode cX3_chance 64 = .ok (.aload_n 0, 1) := by decide +kernel
theorem dX3_chance_65 : decode cX3_chance 65 = .ok (.iload_n 1, 1) := by decide +kernel
theorem dX3_chance_66 : decode cX3_chance 66 = .ok (.iload 5, 2) := by decide +kernel
theorem dX3_chance_68 : decode cX3_chance 68 = .ok (.invokevirtual 176, 3) := by decide +kernel
theorem dX3_chance_71 : decode cX3_chance 71 = .ok (.ifCond .eq 18, 3) := by decide +kernel
theorem dX3_chance_74 : decode cX3_chance 74 = .ok (.iload 4, 2) := by decide +kernel
theorem dX3_chance_76 : decode cX3_chance 76 = .ok (.aload_n 0, 1) := by decide +kernel
theorem dX3_chance_77 : decode cX3_chance 77 = .ok (.getfield 26, 3) := by decide +kernel
theorem dX3_chance_80 : decode cX3_chance 80 = .ok (.getfield 173, 3) := by decide +kernel
theorem dX3_chance_83 : decode cX3_chance 83 = .ok (.iload 5, 2) := by decide +kernel
theorem dX3_chance_85 : decode cX3_chance 85 = .ok (.iaload, 1) := by decide +kernel
theorem dX3_chance_86 : decode cX3_chance 86 = .ok (.iadd, 1) := by decide +kernel
theorem dX3_chance_87 : decode cX3_chance 87 = .ok (.istore 4, 2) := by decide +kernel
theorem dX3_chance_89 : decode cX3_chance 89 = .ok (.iinc 5 1, 3) := by decide +kernel
theorem dX3_chance_92 : decode cX3_chance 92 = .ok (.goto (-53), 3) := by decide +kernel
theorem dX3_chance_95 : decode cX3_chance 95 = .ok (.iload 4, 2) := by decide +kernel
theorem dX3_chance_97 : decode cX3_chance 97 = .ok (.iload_n 3, 1) := by decide +kernel
theorem dX3_chance_98 : decode cX3_chance 98 = .ok (.iload_n 2, 1) := by decide +kernel
theorem dX3_chance_99 : decode cX3_chance 99 = .ok (.invokestatic 154, 3) := by decide +kernel
theorem dX3_chance_102 : decode cX3_chance 102 = .ok (.ireturn, 1) := by decide +kernel
theorem dX3_startAnew_0 : decode cX3_startAnew 0 = .ok (.aload_n 0, 1) := by decide +kernel
theorem dX3_startAnew_1 : decode cX3_startAnew 1 = .ok (.getfield 10, 3) := by decide +kernel
theorem dX3_startAnew_4 : decode cX3_startAnew 4 = .ok (.iconst 0, 1) := by decide +kernel
theorem dX3_startAnew_5 : decode cX3_startAnew 5 = .ok (.putfield 59, 3) := by decide +kernel
theorem dX3_startAnew_8 : decode cX3_startAnew 8 = .ok (.aload_n 0, 1) := by decide +kernel
theorem dX3_startAnew_9 : decode cX3_startAnew 9 = .ok (.getfield 19, 3) := by decide +kernel
theorem dX3_startAnew_12 : decode cX3_startAnew 12 = .ok (.iconst 0, 1) := by decide +kernel
theorem dX3_startAnew_13 : decode cX3_startAnew 13 = .ok (.putfield 55, 3) := by decide +kernel
theorem dX3_startAnew_16 : decode cX3_startAnew 16 = .ok (.aload_n 0, 1) := by decide +kernel
theorem dX3_startAnew_17 : decode cX3_startAnew 17 = .ok (.getfield 26, 3) := by decide +kernel
theorem dX3_startAnew_20 : decode cX3_startAnew 20 = .ok (.iconst 0, 1) := by decide +kernel
theorem dX3_startAnew_21 : decode cX3_startAnew 21 = .ok (.putfield 87, 3) := by decide +kernel
theorem dX3_startAnew_24 : decode cX3_startAnew 24 = .ok (.aload_n 0, 1) := by decide +kernel
theorem dX3_startAnew_25 : decode cX3_startAnew 25 = .ok (.iconst 0, 1) := by decide +kernel
theorem dX3_startAnew_26 : decode cX3_startAnew 26 = .ok (.putfield 71, 3) := by decide +kernel
theorem dX3_startAnew_29 : decode cX3_startAnew 29 = .ok (.aload_n 0, 1) := by decide +kernel
theorem dX3_startAnew_30 : decode cX3_startAnew 30 = .ok (.iload_n 1, 1) := by decide +kernel
theorem dX3_startAnew_31 : decode cX3_startAnew 31 = .ok (.putfield 78, 3) := by decide +kernel
theorem dX3_startAnew_34 : decode cX3_startAnew 34 = .ok (.aload_n 0, 1) := by decide +kernel
theorem dX3_startAnew_35 : decode cX3_startAnew 35 = .ok (.iload_n 2, 1) := by decide +kernel
theorem dX3_startAnew_36 : decode cX3_startAnew 36 = .ok (.putfield 81, 3) := by decide +kernel
theorem dX3_startAnew_39 : decode cX3_startAnew 39 = .ok (.aload_n 0, 1) := by decide +kernel
theorem dX3_startAnew_40 : decode cX3_startAnew 40 = .ok (.iconst 0, 1) := by decide +kernel
theorem dX3_startAnew_41 : decode cX3_startAnew 41 = .ok (.putfield 68, 3) := by decide +kernel
theorem dX3_startAnew_44 : decode cX3_startAnew 44 = .ok (.return_, 1) := by decide +kernel
theorem dX3_planCount_0 : decode cX3_planCount 0 = .ok (.iconst 1, 1) := by decide +kernel
theorem dX3_planCount_1 : decode cX3_planCount 1 = .ok (.aload_n 0, 1) := by decide +kernel
theorem dX3_planCount_2 : decode cX3_planCount 2 = .ok (.getfield 78, 3) := by decide +kernel
theorem dX3_planCount_5 : decode cX3_planCount 5 = .ok (.aload_n 0, 1) := by decide +kernel
theorem dX3_planCount_6 : decode cX3_planCount 6 = .ok (.getfield 81, 3) := by decide +kernel
theorem dX3_planCount_9 : decode cX3_planCount 9 = .ok (.iadd, 1) := by decide +kernel
theorem dX3_planCount_10 : decode cX3_planCount 10 = .ok (.ishl, 1) := by decide +kernel
theorem dX3_planCount_11 : decode cX3_planCount 11 = .ok (.ireturn, 1) := by decide +kernel
theorem dX3_firstPartCount_0 : decode cX3_firstPartCount 0 = .ok (.iconst 1, 1) := by decide +kernel
theorem dX3_firstPartCount_1 : decode cX3_firstPartCount 1 = .ok (.aload_n 0, 1) := by decide +kernel
theorem dX3_firstPartCount_2 : decode cX3_firstPartCount 2 = .ok (.getfield 78, 3) := by decide +kernel
theorem dX3_firstPartCount_5 : decode cX3_firstPartCount 5 = .ok (.ishl, 1) := by decide +kernel
theorem dX3_firstPartCount_6 : decode cX3_firstPartCount 6 = .ok (.ireturn, 1) := by decide +kernel
set_option maxRecDepth 20000 in
theorem ggX3_isPlan_X3_planCount : GoodIn wsX3_isPlan wsX3_planCount := goodIn_r _ [5, 6, 7, 11, 12, 13, 14, 15, 16, 17, 18, 19, 20, 21, 22] (by decide +kernel) (by decide +kernel)
set_option maxRecDepth 20000 in
theorem gX3_isPlan_X3_planCount : GoodIn wsX3_isPlan (wsV RX3 133 RX3 yX3_planCount wsX3_planCount) := goodIn_app (goodIn_of _ (by decide +kernel)) ggX3_isPlan_X3_planCount
set_option maxRecDepth 20000 in
theorem ggX3_isPlan_X3_isWithin : GoodIn wsX3_isPlan wsX3_isWithin := goodIn_r _ [10] (by decide +kernel) (by decide +kernel)
set_option maxRecDepth 20000 in
theorem gX3_isPlan_X3_isWithin : GoodIn wsX3_isPlan (va_wsS RX3 50 yX3_isWithin wsX3_isWithin) := goodIn_app (goodIn_of _ (by decide +kernel)) ggX3_isPlan_X3_isWithin
theorem dX3_isPlan_0 : decode cX3_isPlan 0 = .ok (.iload_n 1, 1) := by decide +kernel
theorem dX3_isPlan_1 : decode cX3_isPlan 1 = .ok (.iconst 0, 1) := by decide +kernel
theorem dX3_isPlan_2 : decode cX3_isPlan 2 = .ok (.aload_n 0, 1) := by decide +kernel
theorem dX3_isPlan_3 : decode cX3_isPlan 3 = .ok (.invokevirtual 133, 3) := by decide +kernel
theorem dX3_isPlan_6 : decode cX3_isPlan 6 = .ok (.iconst 1, 1) := by decide +kernel
theorem dX3_isPlan_7 : decode cX3_isPlan 7 = .ok (.isub, 1) := by decide +kernel
theorem dX3_isPlan_8 : decode cX3_isPlan 8 = .ok (.invokestatic 50, 3) := by decide +kernel
theorem dX3_isPlan_11 : decode cX3_isPlan 11 = .ok (.ireturn, 1) := by decide +kernel
set_option maxRecDepth 20000 in
theorem ggX3_isFirstPart_X3_firstPartCount : GoodIn wsX3_isFirstPart wsX3_firstPartCount := goodIn_r _ [5, 6, 10, 11, 12, 13, 14, 15, 16, 17, 18, 19, 20, 21] (by decide +kernel) (by decide +kernel)
set_option maxRecDepth 20000 in
theorem gX3_isFirstPart_X3_firstPartCount : GoodIn wsX3_isFirstPart (wsV RX3 166 RX3 yX3_firstPartCount wsX3_firstPartCount) := goodIn_app (goodIn_of _ (by decide +kernel)) ggX3_isFirstPart_X3_firstPartCount
set_option maxRecDepth 20000 in
theorem ggX3_isFirstPart_X3_isWithin : GoodIn wsX3_isFirstPart wsX3_isWithin := goodIn_r _ [9] (by decide +kernel) (by decide +kernel)
set_option maxRecDepth 20000 in
theorem gX3_isFirstPart_X3_isWithin : GoodIn wsX3_isFirstPart (va_wsS RX3 50 yX3_isWithin wsX3_isWithin) := goodIn_app (goodIn_of _ (by decide +kernel)) ggX3_isFirstPart_X3_isWithin
theorem dX3_isFirstPart_0 : decode cX3_isFirstPart 0 = .ok (.iload_n 1, 1) := by decide +kernel
theorem dX3_isFirstPart_1 : decode cX3_isFirstPart 1 = .ok (.iconst 0, 1) := by decide +kernel
theorem dX3_isFirstPart_2 : decode cX3_isFirstPart 2 = .ok (.aload_n 0, 1) := by decide +kernel
theorem dX3_isFirstPart_3 : decode cX3_isFirstPart 3 = .ok (.invokevirtual 166, 3) := by decide +kernel
theorem dX3_isFirstPart_6 : decode cX3_isFirstPart 6 = .ok (.iconst 1, 1) := by decide +kernel
theorem dX3_isFirstPart_7 : decode cX3_isFirstPart 7 = .ok (.isub, 1) := by decide +kernel
theorem dX3_isFirstPart_8 : decode cX3_isFirstPart 8 = .ok (.invokestatic 50, 3) := by decide +kernel
theorem dX3_isFirstPart_11 : decode cX3_isFirstPart 11 = .ok (.ireturn, 1) := by decide +kernel
set_option maxRecDepth 20000 in
theorem ggX3_isRowOrCost_X3_isWithin : GoodIn wsX3_isRowOrCost wsX3_isWithin := goodIn_r _ [5] (by decide +kernel) (by decide +kernel)
set_option maxRecDepth 20000 in
theorem gX3_isRowOrCost_X3_isWithin : GoodIn wsX3_isRowOrCost (va_wsS RX3 50 yX3_isWithin wsX3_isWithin) := goodIn_app (goodIn_of _ (by decide +kernel)) ggX3_isRowOrCost_X3_isWithin
theorem dX3_isRowOrCost_0 : decode cX3_isRowOrCost 0 = .ok (.iload_n 1, 1) := by decide +kernel
theorem dX3_isRowOrCost_1 : decode cX3_isRowOrCost 1 = .ok (.iconst (-1), 1) := by decide +kernel
theorem dX3_isRowOrCost_2 : decode cX3_isRowOrCost 2 = .ok (.aload_n 0, 1) := by decide +kernel
theorem dX3_isRowOrCost_3 : decode cX3_isRowOrCost 3 = .ok (.getfield 71, 3) := by decide +kernel
theorem dX3_isRowOrCost_6 : decode cX3_isRowOrCost 6 = .ok (.iconst 1, 1) := by decide +kernel
theorem dX3_isRowOrCost_7 : decode cX3_isRowOrCost 7 = .ok (.isub, 1) := by decide +kernel
theorem dX3_isRowOrCost_8 : decode cX3_isRowOrCost 8 = .ok (.invokestatic 50, 3) := by decide +kernel
theorem dX3_isRowOrCost_11 : decode cX3_isRowOrCost 11 = .ok (.ireturn, 1) := by decide +kernel
set_option maxRecDepth 20000 in
theorem ggX3_isName_X3_isWithin : GoodIn wsX3_isName wsX3_isWithin := goodIn_r _ [6] (by decide +kernel) (by decide +kernel)
set_option maxRecDepth 20000 in
theorem gX3_isName_X3_isWithin : GoodIn wsX3_isName (va_wsS RX3 50 yX3_isWithin wsX3_isWithin) := goodIn_app (goodIn_of _ (by decide +kernel)) ggX3_isName_X3_isWithin
theorem dX3_isName_0 : decode cX3_isName 0 = .ok (.iload_n 1, 1) := by decide +kernel
theorem dX3_isName_1 : decode cX3_isName 1 = .ok (.iconst 0, 1) := by decide +kernel
theorem dX3_isName_2 : decode cX3_isName 2 = .ok (.aload_n 0, 1) := by decide +kernel
theorem dX3_isName_3 : decode cX3_isName 3 = .ok (.getfield 10, 3) := by decide +kernel
theorem dX3_isName_6 : decode cX3_isName 6 = .ok (.getfield 59, 3) := by decide +kernel
theorem dX3_isName_9 : decode cX3_isName 9 = .ok (.iconst 1, 1) := by decide +kernel
theorem dX3_isName_10 : decode cX3_isName 10 = .ok (.isub, 1) := by decide +kernel
theorem dX3_isName_11 : decode cX3_isName 11 = .ok (.invokestatic 50, 3) := by decide +kernel
theorem dX3_isName_14 : decode cX3_isName 14 = .ok (.ireturn, 1) := by decide +kernel
set_option maxRecDepth 20000 in
theorem ggX3_isListed_X3_isWithin : GoodIn wsX3_isListed wsX3_isWithin := goodIn_r _ [6] (by decide +kernel) (by decide +kernel)
set_option maxRecDepth 20000 in
theorem gX3_isListed_X3_isWithin : GoodIn wsX3_isListed (va_wsS RX3 50 yX3_isWithin wsX3_isWithin) := goodIn_app (goodIn_of _ (by decide +kernel)) ggX3_isListed_X3_isWithin
theorem dX3_isListed_0 : decode cX3_isListed 0 = .ok (.iload_n 1, 1) := by decide +kernel
theorem dX3_isListed_1 : decode cX3_isListed 1 = .ok (.iconst 0, 1) := by decide +kernel
theorem dX3_isListed_2 : decode cX3_isListed 2 = .ok (.aload_n 0, 1) := by decide +kernel
theorem dX3_isListed_3 : decode cX3_isListed 3 = .ok (.getfield 26, 3) := by decide +kernel
theorem dX3_isListed_6 : decode cX3_isListed 6 = .ok (.getfield 87, 3) := by decide +kernel
theorem dX3_isListed_9 : decode cX3_isListed 9 = .ok (.iconst 1, 1) := by decide +kernel
theorem dX3_isListed_10 : decode cX3_isListed 10 = .ok (.isub, 1) := by decide +kernel
theorem dX3_isListed_11 : decode cX3_isListed 11 = .ok (.invokestatic 50, 3) := by decide +kernel
theorem dX3_isListed_14 : decode cX3_isListed 14 = .ok (.ireturn, 1) := by decide +kernel
set_option maxRecDepth 20000 in
theorem ggX3_isPart_X3_isWithin : GoodIn wsX3_isPart wsX3_isWithin := goodIn_r _ [4] (by decide +kernel) (by decide +kernel)
set_option maxRecDepth 20000 in
theorem gX3_isPart_X3_isWithin : GoodIn wsX3_isPart (va_wsS RX3 50 yX3_isWithin wsX3_isWithin) := goodIn_app (goodIn_of _ (by decide +kernel)) ggX3_isPart_X3_isWithin
theorem dX3_isPart_0 : decode cX3_isPart 0 = .ok (.iload_n 0, 1) := by decide +kernel
theorem dX3_isPart_1 : decode cX3_isPart 1 = .ok (.iconst 0, 1) := by decide +kernel
theorem dX3_isPart_2 : decode cX3_isPart 2 = .ok (.iconst 1, 1) := by decide +kernel
theorem dX3_isPart_3 : decode cX3_isPart 3 = .ok (.invokestatic 50, 3) := by decide +kernel
theorem dX3_isPart_6 : decode cX3_isPart 6 = .ok (.ireturn, 1) := by decide +kernel
theorem dX3_isWithin_0 : decode cX3_isWithin 0 = .ok (.iload_n 1, 1) := by decide +kernel
theorem dX3_isWithin_1 : decode cX3_isWithin 1 = .ok (.iload_n 0, 1) := by decide +kernel
theorem dX3_isWithin_2 : decode cX3_isWithin 2 = .ok (.if_icmp .gt 12, 3) := by decide +kernel
theorem dX3_isWithin_5 : decode cX3_isWithin 5 = .ok (.iload_n 0, 1) := by decide +kernel
theorem dX3_isWithin_6 : decode cX3_isWithin 6 = .ok (.iload_n 2, 1) := by decide +kernel
theorem dX3_isWithin_7 : decode cX3_isWithin 7 = .ok (.if_icmp .gt 7, 3) := by decide +kernel
theorem dX3_isWithin_10 : decode cX3_isWithin 10 = .ok (.iconst 1, 1) := by decide +kernel
theorem dX3_isWithin_11 : decode cX3_isWithin 11 = .ok (.goto 4, 3) := by decide +kernel
theorem dX3_isWithin_14 : decode cX3_isWithin 14 = .ok (.iconst 0, 1) := by decide +kernel
theorem dX3_isWithin_15 : decode cX3_isWithin 15 = .ok (.ireturn, 1) := by decide +kernel
theorem dX3_slotOf_0 : decode cX3_slotOf 0 = .ok (.iload_n 0, 1) := by decide +kernel
theorem dX3_slotOf_1 : decode cX3_slotOf 1 = .ok (.iconst (-1), 1) := by decide +kernel
theorem dX3_slotOf_2 : decode cX3_slotOf 2 = .ok (.isub, 1) := by decide +kernel
theorem dX3_slotOf_3 : decode cX3_slotOf 3 = .ok (.ireturn, 1) := by decide +kernel
set_option maxRecDepth 20000 in
theorem ggX3_findWorst_X2_weigh : GoodIn wsX3_findWorst wsX2_weigh := goodIn_r _ [14, 15, 16, 17, 18, 19, 20, 21, 13, 22, 23, 51, 52, 53, 54, 55] (by decide +kernel) (by decide +kernel)
set_option maxRecDepth 20000 in
theorem gX3_findWorst_X2_weigh : GoodIn wsX3_findWorst (wsV RX3 180 RX2 yX2_weigh wsX2_weigh) := goodIn_app (goodIn_of _ (by decide +kernel)) ggX3_findWorst_X2_weigh
set_option maxRecDepth 20000 in
theorem ggX3_findWorst_X3_worstOf : GoodIn wsX3_findWorst wsX3_worstOf := goodIn_r _ [28, 2, 3, 29, 30, 35, 36, 37, 38, 39, 40, 41, 42, 43, 44, 45, 46, 47, 48, 49, 50] (by decide +kernel) (by decide +kernel)
set_option maxRecDepth 20000 in
theorem gX3_findWorst_X3_worstOf : GoodIn wsX3_findWorst (wsV RX3 184 RX3 yX3_worstOf wsX3_worstOf) := goodIn_app (goodIn_of _ (by decide +kernel)) ggX3_findWorst_X3_worstOf
set_option maxRecDepth 20000 in
theorem ggX3_findWorst_X3_greatestGain : GoodIn wsX3_findWorst wsX3_greatestGain := goodIn_r _ [34, 9, 3, 4, 6, 35, 36, 37, 38, 39, 40, 41, 42, 43, 44, 45, 46, 47, 48, 49, 50] (by decide +kernel) (by decide +kernel)
set_option maxRecDepth 20000 in
theorem gX3_findWorst_X3_greatestGain : GoodIn wsX3_findWorst (wsV RX3 187 RX3 yX3_greatestGain wsX3_greatestGain) := goodIn_app (goodIn_of _ (by decide +kernel)) ggX3_findWorst_X3_greatestGain
theorem dX3_findWorst_0 : decode cX3_findWorst 0 = .ok (.aload_n 0, 1) := by decide +kernel
theorem dX3_findWorst_1 : decode cX3_findWorst 1 = .ok (.getfield 19, 3) := by decide +kernel
theorem dX3_findWorst_4 : decode cX3_findWorst 4 = .ok (.iload_n 1, 1) := by decide +kernel
theorem dX3_findWorst_5 : decode cX3_findWorst 5 = .ok (.iload_n 2, 1) := by decide +kernel
theorem dX3_findWorst_6 : decode cX3_findWorst 6 = .ok (.aload_n 0, 1) := by decide +kernel
theorem dX3_findWorst_7 : decode cX3_findWorst 7 = .ok (.getfield 37, 3) := by decide +kernel
theorem dX3_findWorst_10 : decode cX3_findWorst 10 = .ok (.invokevirtual 180, 3) := by decide +kernel
theorem dX3_findWorst_13 : decode cX3_findWorst 13 = .ok (.istore_n 3, 1) := by decide +kernel
theorem dX3_findWorst_14 : decode cX3_findWorst 14 = .ok (.iconst 0, 1) := by decide +kernel
theorem dX3_findWorst_15 : decode cX3_findWorst 15 = .ok (.istore 4, 2) := by decide +kernel
theorem dX3_findWorst_17 : decode cX3_findWorst 17 = .ok (.iload 4, 2) := by decide +kernel
theorem dX3_findWorst_19 : decode cX3_findWorst 19 = .ok (.aload_n 0, 1) := by decide +kernel
theorem dX3_findWorst_20 : decode cX3_findWorst 20 = .ok (.getfield 10, 3) := by decide +kernel
theorem dX3_findWorst_23 : decode cX3_findWorst 23 = .ok (.getfield 59, 3) := by decide +kernel
theorem dX3_findWorst_26 : decode cX3_findWorst 26 = .ok (.if_icmp .ge 79, 3) := by decide +kernel
theorem dX3_findWorst_29 : decode cX3_findWorst 29 = .ok (.iload_n 3, 1) := by decide +kernel
theorem dX3_findWorst_30 : decode cX3_findWorst 30 = .ok (.aload_n 0, 1) := by decide +kernel
theorem dX3_findWorst_31 : decode cX3_findWorst 31 = .ok (.getfield 37, 3) := by decide +kernel
theorem dX3_findWorst_34 : decode cX3_findWorst 34 = .ok (.iload 4, 2) := by decide +kernel
theorem dX3_findWorst_36 : decode cX3_findWorst 36 = .ok (.iaload, 1) := by decide +kernel
theorem dX3_findWorst_37 : decode cX3_findWorst 37 = .ok (.aload_n 0, 1) := by decide +kernel
theorem dX3_findWorst_38 : decode cX3_findWorst 38 = .ok (.getfield 10, 3) := by decide +kernel
theorem dX3_findWorst_41 : decode cX3_findWorst 41 = .ok (.getfield 114, 3) := by decide +kernel
theorem dX3_findWorst_44 : decode cX3_findWorst 44 = .ok (.iload 4, 2) := by decide +kernel
theorem dX3_findWorst_46 : decode cX3_findWorst 46 = .ok (.iaload, 1) := by decide +kernel
theorem dX3_findWorst_47 : decode cX3_findWorst 47 = .ok (.imul, 1) := by decide +kernel
theorem dX3_findWorst_48 : decode cX3_findWorst 48 = .ok (.iadd, 1) := by decide +kernel
theorem dX3_findWorst_49 : decode cX3_findWorst 49 = .ok (.istore_n 3, 1) := by decide +kernel
theorem dX3_findWorst_50 : decode cX3_findWorst 50 = .ok (.aload_n 0, 1) := by decide +kernel
theorem dX3_findWorst_51 : decode cX3_findWorst 51 = .ok (.getfield 40, 3) := by decide +kernel
theorem dX3_findWorst_54 : decode cX3_findWorst 54 = .ok (.iload 4, 2) := by decide +kernel
theorem dX3_findWorst_56 : decode cX3_findWorst 56 = .ok (.aload_n 0, 1) := by decide +kernel
theorem dX3_findWorst_57 : decode cX3_findWorst 57 = .ok (.getfield 37, 3) := by decide +kernel
theorem dX3_findWorst_60 : decode cX3_findWorst 60 = .ok (.iload 4, 2) := by decide +kernel
theorem dX3_findWorst_62 : decode cX3_findWorst 62 = .ok (.iaload, 1) := by decide +kernel
theorem dX3_findWorst_63 : decode cX3_findWorst 63 = .ok (.aload_n 0, 1) := by decide +kernel
theorem dX3_findWorst_64 : decode cX3_findWorst 64 = .ok (.iload 4, 2) := by decide +kernel
theorem dX3_findWorst_66 : decode cX3_findWorst 66 = .ok (.invokevirtual 184, 3) := by decide +kernel
theorem dX3_findWorst_69 : decode cX3_findWorst 69 = .ok (.aload_n 0, 1) := by decide +kernel
theorem dX3_findWorst_70 : decode cX3_findWorst 70 = .ok (.getfield 10, 3) := by decide +kernel
theorem dX3_findWorst_73 : decode cX3_findWorst 73 = .ok (.getfield 114, 3) := by decide +kernel
theorem dX3_findWorst_76 : decode cX3_findWorst 76 = .ok (.iload 4, 2) := by decide +kernel
theorem dX3_findWorst_78 : decode cX3_findWorst 78 = .ok (.iaload, 1) := by decide +kernel
theorem dX3_findWorst_79 : decode cX3_findWorst 79 = .ok (.isub, 1) := by decide +kernel
theorem dX3_findWorst_80 : decode cX3_findWorst 80 = .ok (.imul, 1) := by decide +kernel
theorem dX3_findWorst_81 : decode cX3_findWorst 81 = .ok (.iastore, 1) := by decide +kernel
theorem dX3_findWorst_82 : decode cX3_findWorst 82 = .ok (.aload_n 0, 1) := by decide +kernel
theorem dX3_findWorst_83 : decode cX3_findWorst 83 = .ok (.getfield 43, 3) := by decide +kernel
theorem dX3_findWorst_86 : decode cX3_findWorst 86 = .ok (.iload 4, 2) := by decide +kernel
theorem dX3_findWorst_88 : decode cX3_findWorst 88 = .ok (.aload_n 0, 1) := by decide +kernel
theorem dX3_findWorst_89 : decode cX3_findWorst 89 = .ok (.getfield 10, 3) := by decide +kernel
theorem dX3_findWorst_92 : decode cX3_findWorst 92 = .ok (.getfield 114, 3) := by decide +kernel
theorem dX3_findWorst_95 : decode cX3_findWorst 95 = .ok (.iload 4, 2) := by decide +kernel
theorem dX3_findWorst_97 : decode cX3_findWorst 97 = .ok (.iaload, 1) := by decide +kernel
theorem dX3_findWorst_98 : decode cX3_findWorst 98 = .ok (.iastore, 1) := by decide +kernel
theorem dX3_findWorst_99 : decode cX3_findWorst 99 = .ok (.iinc 4 1, 3) := by decide +kernel
theorem dX3_findWorst_102 : decode cX3_findWorst 102 = .ok (.goto (-85), 3) := by decide +kernel
theorem dX3_findWorst_105 : decode cX3_findWorst 105 = .ok (.iconst 0, 1) := by decide +kernel
theorem dX3_findWorst_106 : decode cX3_findWorst 106 = .ok (.istore 4, 2) := by decide +kernel
theorem dX3_findWorst_108 : decode cX3_findWorst 108 = .ok (.iload 4, 2) := by decide +kernel
theorem dX3_findWorst_110 : decode cX3_findWorst 110 = .ok (.aload_n 0, 1) := by decide +kernel
theorem dX3_findWorst_111 : decode cX3_findWorst 111 = .ok (.getfield 68, 3) := by decide +kernel
theorem dX3_findWorst_114 : decode cX3_findWorst 114 = .ok (.if_icmp .ge 56, 3) := by decide +kernel
theorem dX3_findWorst_117 : decode cX3_findWorst 117 = .ok (.aload_n 0, 1) := by decide +kernel
theorem dX3_findWorst_118 : decode cX3_findWorst 118 = .ok (.invokevirtual 187, 3) := by decide +kernel
theorem dX3_findWorst_121 : decode cX3_findWorst 121 = .ok (.istore 5, 2) := by decide +kernel
theorem dX3_findWorst_123 : decode cX3_findWorst 123 = .ok (.iload 5, 2) := by decide +kernel
theorem dX3_findWorst_125 : decode cX3_findWorst 125 = .ok (.ldc 132, 2) := by decide +kernel
theorem dX3_findWorst_127 : decode cX3_findWorst 127 = .ok (.if_icmp .ne 6, 3) := by decide +kernel
theorem dX3_findWorst_130 : decode cX3_findWorst 130 = .ok (.goto 40, 3) := by decide +kernel
theorem dX3_findWorst_133 : decode cX3_findWorst 133 = .ok (.iload_n 3, 1) := by decide +kernel
theorem dX3_findWorst_134 : decode cX3_findWorst 134 = .ok (.aload_n 0, 1) := by decide +kernel
theorem dX3_findWorst_135 : decode cX3_findWorst 135 = .ok (.getfield 40, 3) := by decide +kernel
theorem dX3_findWorst_138 : decode cX3_findWorst 138 = .ok (.iload 5, 2) := by decide +kernel
theorem dX3_findWorst_140 : decode cX3_findWorst 140 = .ok (.iaload, 1) := by decide +kernel
theorem dX3_findWorst_141 : decode cX3_findWorst 141 = .ok (.iadd, 1) := by decide +kernel
theorem dX3_findWorst_142 : decode cX3_findWorst 142 = .ok (.istore_n 3, 1) := by decide +kernel
theorem dX3_findWorst_143 : decode cX3_findWorst 143 = .ok (.aload_n 0, 1) := by decide +kernel
theorem dX3_findWorst_144 : decode cX3_findWorst 144 = .ok (.getfield 40, 3) := by decide +kernel
theorem dX3_findWorst_147 : decode cX3_findWorst 147 = .ok (.iload 5, 2) := by decide +kernel
theorem dX3_findWorst_149 : decode cX3_findWorst 149 = .ok (.iconst 0, 1) := by decide +kernel
theorem dX3_findWorst_150 : decode cX3_findWorst 150 = .ok (.iastore, 1) := by decide +kernel
theorem dX3_findWorst_151 : decode cX3_findWorst 151 = .ok (.aload_n 0, 1) := by decide +kernel
theorem dX3_findWorst_152 : decode cX3_findWorst 152 = .ok (.getfield 43, 3) := by decide +kernel
theorem dX3_findWorst_155 : decode cX3_findWorst 155 = .ok (.iload 5, 2) := by decide +kernel
theorem dX3_findWorst_157 : decode cX3_findWorst 157 = .ok (.aload_n 0, 1) := by decide +kernel
theorem dX3_findWorst_158 : decode cX3_findWorst 158 = .ok (.iload 5, 2) := by decide +kernel
theorem dX3_findWorst_160 : decode cX3_findWorst 160 = .ok (.invokevirtual 184, 3) := by decide +kernel
theorem dX3_findWorst_163 : decode cX3_findWorst 163 = .ok (.iastore, 1) := by decide +kernel
theorem dX3_findWorst_164 : decode cX3_findWorst 164 = .ok (.iinc 4 1, 3) := by decide +kernel
theorem dX3_findWorst_167 : decode cX3_findWorst 167 = .ok (.goto (-59), 3) := by decide +kernel
theorem dX3_findWorst_170 : decode cX3_findWorst 170 = .ok (.iload_n 3, 1) := by decide +kernel
theorem dX3_findWorst_171 : decode cX3_findWorst 171 = .ok (.ireturn, 1) := by decide +kernel
theorem dX3_worstOf_0 : decode cX3_worstOf 0 = .ok (.aload_n 0, 1) := by decide +kernel
theorem dX3_worstOf_1 : decode cX3_worstOf 1 = .ok (.getfield 37, 3) := by decide +kernel
theorem dX3_worstOf_4 : decode cX3_worstOf 4 = .ok (.iload_n 1, 1) := by decide +kernel
theorem dX3_worstOf_5 : decode cX3_worstOf 5 = .ok (.iaload, 1) := by decide +kernel
theorem dX3_worstOf_6 : decode cX3_worstOf 6 = .ok (.ifCond .le 15, 3) := by decide +kernel
theorem dX3_worstOf_9 : decode cX3_worstOf 9 = .ok (.aload_n 0, 1) := by decide +kernel
theorem dX3_worstOf_10 : decode cX3_worstOf 10 = .ok (.getfield 10, 3) := by decide +kernel
theorem dX3_worstOf_13 : decode cX3_worstOf 13 = .ok (.getfield 100, 3) := by decide +kernel
theorem dX3_worstOf_16 : decode cX3_worstOf 16 = .ok (.iload_n 1, 1) := by decide +kernel
theorem dX3_worstOf_17 : decode cX3_worstOf 17 = .ok (.iaload, 1) := by decide +kernel
theorem dX3_worstOf_18 : decode cX3_worstOf 18 = .ok (.goto 12, 3) := by decide +kernel
theorem dX3_worstOf_21 : decode cX3_worstOf 21 = .ok (.aload_n 0, 1) := by decide +kernel
theorem dX3_worstOf_22 : decode cX3_worstOf 22 = .ok (.getfield 10, 3) := by decide +kernel
theorem dX3_worstOf_25 : decode cX3_worstOf 25 = .ok (.getfield 97, 3) := by decide +kernel
theorem dX3_worstOf_28 : decode cX3_worstOf 28 = .ok (.iload_n 1, 1) := by decide +kernel
theorem dX3_worstOf_29 : decode cX3_worstOf 29 = .ok (.iaload, 1) := by decide +kernel
theorem dX3_worstOf_30 : decode cX3_worstOf 30 = .ok (.ireturn, 1) := by decide +kernel
theorem dX3_greatestGain_0 : decode cX3_greatestGain 0 = .ok (.ldc 132, 2) := by decide +kernel
theorem dX3_greatestGain_2 : decode cX3_greatestGain 2 = .ok (.istore_n 1, 1) := by decide +kernel
theorem dX3_greatestGain_3 : decode cX3_greatestGain 3 = .ok (.iconst 0, 1) := by decide +kernel
theorem dX3_greatestGain_4 : decode cX3_greatestGain 4 = .ok (.istore_n 2, 1) := by decide +kernel
theorem dX3_greatestGain_5 : decode cX3_greatestGain 5 = .ok (.iconst 0, 1) := by decide +kernel
theorem dX3_greatestGain_6 : decode cX3_greatestGain 6 = .ok (.istore_n 3, 1) := by decide +kernel
theorem dX3_greatestGain_7 : decode cX3_greatestGain 7 = .ok (.iload_n 3, 1) := by decide +kernel
theorem dX3_greatestGain_8 : decode cX3_greatestGain 8 = .ok (.aload_n 0, 1) := by decide +kernel
theorem dX3_greatestGain_9 : decode cX3_greatestGain 9 = .ok (.getfield 10, 3) := by decide +kernel
theorem dX3_greatestGain_12 : decode cX3_greatestGain 12 = .ok (.getfield 59, 3) := by decide +kernel
theorem dX3_greatestGain_15 : decode cX3_greatestGain 15 = .ok (.if_icmp .ge 28, 3) := by decide +kernel
theorem dX3_greatestGain_18 : decode cX3_greatestGain 18 = .ok (.aload_n 0, 1) := by decide +kernel
theorem dX3_greatestGain_19 : decode cX3_greatestGain 19 = .ok (.getfield 40, 3) := by decide +kernel
theorem dX3_greatestGain_22 : decode cX3_greatestGain 22 = .ok (.iload_n 3, 1) := by decide +kernel
theorem dX3_greatestGain_23 : decode cX3_greatestGain 23 = .ok (.iaload, 1) := by decide +kernel
theorem dX3_greatestGain_24 : decode cX3_greatestGain 24 = .ok (.iload_n 2, 1) := by decide +kernel
theorem dX3_greatestGain_25 : decode cX3_greatestGain 25 = .ok (.if_icmp .le 12, 3) := by decide +kernel
theorem dX3_greatestGain_28 : decode cX3_greatestGain 28 = .ok (.iload_n 3, 1) := by decide +kernel
theorem dX3_greatestGain_29 : decode cX3_greatestGain 29 = .ok (.istore_n 1, 1) := by decide +kernel
theorem dX3_greatestGain_30 : decode cX3_greatestGain 30 = .ok (.aload_n 0, 1) := by decide +kernel
theorem dX3_greatestGain_31 : decode cX3_greatestGain 31 = .ok (.getfield 40, 3) := by decide +kernel
theorem dX3_greatestGain_34 : decode cX3_greatestGain 34 = .ok (.iload_n 3, 1) := by decide +kernel
theorem dX3_greatestGain_35 : decode cX3_greatestGain 35 = .ok (.iaload, 1) := by decide +kernel
theorem dX3_greatestGain_36 : decode cX3_greatestGain 36 = .ok (.istore_n 2, 1) := by decide +kernel
theorem dX3_greatestGain_37 : decode cX3_greatestGain 37 = .ok (.iinc 3 1, 3) := by decide +kernel
theorem dX3_greatestGain_40 : decode cX3_greatestGain 40 = .ok (.goto (-33), 3) := by decide +kernel
theorem dX3_greatestGain_43 : decode cX3_greatestGain 43 = .ok (.iload_n 1, 1) := by decide +kernel
theorem dX3_greatestGain_44 : decode cX3_greatestGain 44 = .ok (.ireturn, 1) := by decide +kernel
set_option maxRecDepth 20000 in
theorem ggX3_firstBroken_X3_findWorst : GoodIn wsX3_firstBroken wsX3_findWorst := goodIn_r _ [7, 8, 9, 10, 11, 12, 13, 14, 15, 2, 16, 17, 18, 19, 20, 21, 22, 23, 24, 25, 26, 27, 28, 29, 30, 31, 32, 6, 33, 34, 35, 36, 37, 38, 39, 40, 41, 42, 43, 44, 45, 46, 47, 48, 49, 50, 51, 52, 53, 54, 55, 56, 57, 58, 59, 60] (by decide +kernel) (by decide +kernel)
set_option maxRecDepth 20000 in
theorem gX3_firstBroken_X3_findWorst : GoodIn wsX3_firstBroken (wsV RX3 125 RX3 yX3_findWorst wsX3_findWorst) := goodIn_app (goodIn_of _ (by decide +kernel)) ggX3_firstBroken_X3_findWorst
theorem dX3_firstBroken_0 : decode cX3_firstBroken 0 = .ok (.iconst 0, 1) := by decide +kernel
theorem dX3_firstBroken_1 : decode cX3_firstBroken 1 = .ok (.istore_n 2, 1) := by decide +kernel
theorem dX3_firstBroken_2 : decode cX3_firstBroken 2 = .ok (.iload_n 2, 1) := by decide +kernel
theorem dX3_firstBroken_3 : decode cX3_firstBroken 3 = .ok (.aload_n 0, 1) := by decide +kernel
theorem dX3_firstBroken_4 : decode cX3_firstBroken 4 = .ok (.getfield 71, 3) := by decide +kernel
theorem dX3_firstBroken_7 : decode cX3_firstBroken 7 = .ok (.if_icmp .ge 20, 3) := by decide +kernel
theorem dX3_firstBroken_10 : decode cX3_firstBroken 10 = .ok (.aload_n 0, 1) := by decide +kernel
theorem dX3_firstBroken_11 : decode cX3_firstBroken 11 = .ok (.iload_n 1, 1) := by decide +kernel
theorem dX3_firstBroken_12 : decode cX3_firstBroken 12 = .ok (.iload_n 2, 1) := by decide +kernel
theorem dX3_firstBroken_13 : decode cX3_firstBroken 13 = .ok (.invokevirtual 125, 3) := by decide +kernel
theorem dX3_firstBroken_16 : decode cX3_firstBroken 16 = .ok (.ifCond .le 5, 3) := by decide +kernel
theorem dX3_firstBroken_19 : decode cX3_firstBroken 19 = .ok (.iload_n 2, 1) := by decide +kernel
theorem dX3_firstBroken_20 : decode cX3_firstBroken 20 = .ok (.ireturn, 1) := by decide +kernel
theorem dX3_firstBroken_21 : decode cX3_firstBroken 21 = .ok (.iinc 2 1, 3) := by decide +kernel
theorem dX3_firstBroken_24 : decode cX3_firstBroken 24 = .ok (.goto (-22), 3) := by decide +kernel
theorem dX3_firstBroken_27 : decode cX3_firstBroken 27 = .ok (.ldc 132, 2) := by decide +kernel
theorem dX3_firstBroken_29 : decode cX3_firstBroken 29 = .ok (.ireturn, 1) := by decide +kernel
set_option maxRecDepth 20000 in
theorem ggX3_allHold_X2_sumUp : GoodIn wsX3_allHold wsX2_sumUp := goodIn_r _ [10, 11, 12, 13, 14, 15, 16, 17, 9, 18, 19, 20, 21, 22, 40, 41, 42, 43, 44] (by decide +kernel) (by decide +kernel)
set_option maxRecDepth 20000 in
theorem gX3_allHold_X2_sumUp : GoodIn wsX3_allHold (wsV RX3 117 RX2 yX2_sumUp wsX2_sumUp) := goodIn_app (goodIn_of _ (by decide +kernel)) ggX3_allHold_X2_sumUp
set_option maxRecDepth 20000 in
theorem ggX3_allHold_X3_slotOf : GoodIn wsX3_allHold wsX3_slotOf := goodIn_r _ [22] (by decide +kernel) (by decide +kernel)
set_option maxRecDepth 20000 in
theorem gX3_allHold_X3_slotOf : GoodIn wsX3_allHold (va_wsS RX3 121 yX3_slotOf wsX3_slotOf) := goodIn_app (goodIn_of _ (by decide +kernel)) ggX3_allHold_X3_slotOf
theorem dX3_allHold_0 : decode cX3_allHold 0 = .ok (.aload_n 0, 1) := by decide +kernel
theorem dX3_allHold_1 : decode cX3_allHold 1 = .ok (.getfield 19, 3) := by decide +kernel
theorem dX3_allHold_4 : decode cX3_allHold 4 = .ok (.iload_n 1, 1) := by decide +kernel
theorem dX3_allHold_5 : decode cX3_allHold 5 = .ok (.aload_n 0, 1) := by decide +kernel
theorem dX3_allHold_6 : decode cX3_allHold 6 = .ok (.getfield 26, 3) := by decide +kernel
theorem dX3_allHold_9 : decode cX3_allHold 9 = .ok (.getfield 103, 3) := by decide +kernel
theorem dX3_allHold_12 : decode cX3_allHold 12 = .ok (.iload_n 2, 1) := by decide +kernel
theorem dX3_allHold_13 : decode cX3_allHold 13 = .ok (.aaload, 1) := by decide +kernel
theorem dX3_allHold_14 : decode cX3_allHold 14 = .ok (.aload_n 0, 1) := by decide +kernel
theorem dX3_allHold_15 : decode cX3_allHold 15 = .ok (.getfield 30, 3) := by decide +kernel
theorem dX3_allHold_18 : decode cX3_allHold 18 = .ok (.invokevirtual 117, 3) := by decide +kernel
theorem dX3_allHold_21 : decode cX3_allHold 21 = .ok (.iconst 0, 1) := by decide +kernel
theorem dX3_allHold_22 : decode cX3_allHold 22 = .ok (.istore_n 3, 1) := by decide +kernel
theorem dX3_allHold_23 : decode cX3_allHold 23 = .ok (.iload_n 3, 1) := by decide +kernel
theorem dX3_allHold_24 : decode cX3_allHold 24 = .ok (.aload_n 0, 1) := by decide +kernel
theorem dX3_allHold_25 : decode cX3_allHold 25 = .ok (.getfield 71, 3) := by decide +kernel
theorem dX3_allHold_28 : decode cX3_allHold 28 = .ok (.if_icmp .ge 23, 3) := by decide +kernel
theorem dX3_allHold_31 : decode cX3_allHold 31 = .ok (.aload_n 0, 1) := by decide +kernel
theorem dX3_allHold_32 : decode cX3_allHold 32 = .ok (.getfield 30, 3) := by decide +kernel
theorem dX3_allHold_35 : decode cX3_allHold 35 = .ok (.iload_n 3, 1) := by decide +kernel
theorem dX3_allHold_36 : decode cX3_allHold 36 = .ok (.invokestatic 121, 3) := by decide +kernel
theorem dX3_allHold_39 : decode cX3_allHold 39 = .ok (.iaload, 1) := by decide +kernel
theorem dX3_allHold_40 : decode cX3_allHold 40 = .ok (.ifCond .le 5, 3) := by decide +kernel
theorem dX3_allHold_43 : decode cX3_allHold 43 = .ok (.iconst 0, 1) := by decide +kernel
theorem dX3_allHold_44 : decode cX3_allHold 44 = .ok (.ireturn, 1) := by decide +kernel
theorem dX3_allHold_45 : decode cX3_allHold 45 = .ok (.iinc 3 1, 3) := by decide +kernel
theorem dX3_allHold_48 : decode cX3_allHold 48 = .ok (.goto (-25), 3) := by decide +kernel
theorem dX3_allHold_51 : decode cX3_allHold 51 = .ok (.iconst 1, 1) := by decide +kernel
theorem dX3_allHold_52 : decode cX3_allHold 52 = .ok (.ireturn, 1) := by decide +kernel
set_option maxRecDepth 20000 in
theorem ggX3_costOf_X2_sumUp : GoodIn wsX3_costOf wsX2_sumUp := goodIn_r _ [9, 10, 11, 12, 13, 14, 15, 16, 8, 17, 18, 19, 20, 21, 39, 40, 41, 42, 43] (by decide +kernel) (by decide +kernel)
set_option maxRecDepth 20000 in
theorem gX3_costOf_X2_sumUp : GoodIn wsX3_costOf (wsV RX3 117 RX2 yX2_sumUp wsX2_sumUp) := goodIn_app (goodIn_of _ (by decide +kernel)) ggX3_costOf_X2_sumUp
set_option maxRecDepth 20000 in
theorem ggX3_costOf_X3_slotOf : GoodIn wsX3_costOf wsX3_slotOf := goodIn_r _ [21] (by decide +kernel) (by decide +kernel)
set_option maxRecDepth 20000 in
theorem gX3_costOf_X3_slotOf : GoodIn wsX3_costOf (va_wsS RX3 121 yX3_slotOf wsX3_slotOf) := goodIn_app (goodIn_of _ (by decide +kernel)) ggX3_costOf_X3_slotOf
theorem dX3_costOf_0 : decode cX3_costOf 0 = .ok (.aload_n 0, 1) := by decide +kernel
theorem dX3_costOf_1 : decode cX3_costOf 1 = .ok (.getfield 19, 3) := by decide +kernel
theorem dX3_costOf_4 : decode cX3_costOf 4 = .ok (.iload_n 1, 1) := by decide +kernel
theorem dX3_costOf_5 : decode cX3_costOf 5 = .ok (.aload_n 0, 1) := by decide +kernel
theorem dX3_costOf_6 : decode cX3_costOf 6 = .ok (.getfield 26, 3) := by decide +kernel
theorem dX3_costOf_9 : decode cX3_costOf 9 = .ok (.getfield 103, 3) := by decide +kernel
theorem dX3_costOf_12 : decode cX3_costOf 12 = .ok (.iload_n 2, 1) := by decide +kernel
theorem dX3_costOf_13 : decode cX3_costOf 13 = .ok (.aaload, 1) := by decide +kernel
theorem dX3_costOf_14 : decode cX3_costOf 14 = .ok (.aload_n 0, 1) := by decide +kernel
theorem dX3_costOf_15 : decode cX3_costOf 15 = .ok (.getfield 30, 3) := by decide +kernel
theorem dX3_costOf_18 : decode cX3_costOf 18 = .ok (.invokevirtual 117, 3) := by decide +kernel
theorem dX3_costOf_21 : decode cX3_costOf 21 = .ok (.aload_n 0, 1) := by decide +kernel
theorem dX3_costOf_22 : decode cX3_costOf 22 = .ok (.getfield 30, 3) := by decide +kernel
theorem dX3_costOf_25 : decode cX3_costOf 25 = .ok (.iconst (-1), 1) := by decide +kernel
theorem dX3_costOf_26 : decode cX3_costOf 26 = .ok (.invokestatic 121, 3) := by decide +kernel
theorem dX3_costOf_29 : decode cX3_costOf 29 = .ok (.iaload, 1) := by decide +kernel
theorem dX3_costOf_30 : decode cX3_costOf 30 = .ok (.ireturn, 1) := by decide +kernel
set_option maxRecDepth 20000 in
theorem ggX3_findAnswer_X3_allHold : GoodIn wsX3_findAnswer wsX3_allHold := goodIn_r _ [9, 10, 11, 12, 4, 13, 14, 15, 16, 17, 18, 19, 20, 21, 22, 23, 24, 25, 26, 27, 28, 8, 29, 30, 31, 32, 33, 34, 35, 36, 37, 38, 39, 40, 41, 42, 43, 44, 45, 46, 47, 48, 49, 50, 51] (by decide +kernel) (by decide +kernel)
set_option maxRecDepth 20000 in
theorem gX3_findAnswer_X3_allHold : GoodIn wsX3_findAnswer (wsV RX3 176 RX3 yX3_allHold wsX3_allHold) := goodIn_app (goodIn_of _ (by decide +kernel)) ggX3_findAnswer_X3_allHold
set_option maxRecDepth 20000 in
theorem ggX3_findAnswer_X3_slotOf : GoodIn wsX3_findAnswer wsX3_slotOf := goodIn_r _ [29] (by decide +kernel) (by decide +kernel)
set_option maxRecDepth 20000 in
theorem gX3_findAnswer_X3_slotOf : GoodIn wsX3_findAnswer (va_wsS RX3 121 yX3_slotOf wsX3_slotOf) := goodIn_app (goodIn_of _ (by decide +kernel)) ggX3_findAnswer_X3_slotOf
theorem dX3_findAnswer_0 : decode cX3_findAnswer 0 = .ok (.ldc 132, 2) := by decide +kernel
theorem dX3_findAnswer_2 : decode cX3_findAnswer 2 = .ok (.istore_n 3, 1) := by decide +kernel
theorem dX3_findAnswer_3 : decode cX3_findAnswer 3 = .ok (.iconst 0, 1) := by decide +kernel
theorem dX3_findAnswer_4 : decode cX3_findAnswer 4 = .ok (.istore 4, 2) := by decide +kernel
theorem dX3_findAnswer_6 : decode cX3_findAnswer 6 = .ok (.iconst 0, 1) := by decide +kernel
theorem dX3_findAnswer_7 : decode cX3_findAnswer 7 = .ok (.istore 5, 2) := by decide +kernel
theorem dX3_findAnswer_9 : decode cX3_findAnswer 9 = .ok (.iload 5, 2) := by decide +kernel
theorem dX3_findAnswer_11 : decode cX3_findAnswer 11 = .ok (.iconst 1, 1) := by decide +kernel
theorem dX3_findAnswer_12 : decode cX3_findAnswer 12 = .ok (.aload_n 0, 1) := by decide +kernel
theorem dX3_findAnswer_13 : decode cX3_findAnswer 13 = .ok (.getfield 81, 3) := by decide +kernel
theorem dX3_findAnswer_16 : decode cX3_findAnswer 16 = .ok (.ishl, 1) := by decide +kernel
theorem dX3_findAnswer_17 : decode cX3_findAnswer 17 = .ok (.if_icmp .ge 64, 3) := by decide +kernel
theorem dX3_findAnswer_20 : decode cX3_findAnswer 20 = .ok (.iload_n 1, 1) := by decide +kernel
theorem dX3_findAnswer_21 : decode cX3_findAnswer 21 = .ok (.iload 5, 2) := by decide +kernel
theorem dX3_findAnswer_23 : decode cX3_findAnswer 23 = .ok (.aload_n 0, 1) := by decide +kernel
theorem dX3_findAnswer_24 : decode cX3_findAnswer 24 = .ok (.getfield 78, 3) := by decide +kernel
theorem dX3_findAnswer_27 : decode cX3_findAnswer 27 = .ok (.ishl, 1) := by decide +kernel
theorem dX3_findAnswer_28 : decode cX3_findAnswer 28 = .ok (.ior, 1) := by decide +kernel
theorem dX3_findAnswer_29 : decode cX3_findAnswer 29 = .ok (.istore 6, 2) := by decide +kernel
theorem dX3_findAnswer_31 : decode cX3_findAnswer 31 = .ok (.aload_n 0, 1) := by decide +kernel
theorem dX3_findAnswer_32 : decode cX3_findAnswer 32 = .ok (.iload 6, 2) := by decide +kernel
theorem dX3_findAnswer_34 : decode cX3_findAnswer 34 = .ok (.iload_n 2, 1) := by decide +kernel
theorem dX3_findAnswer_35 : decode cX3_findAnswer 35 = .ok (.invokevirtual 176, 3) := by decide +kernel
theorem dX3_findAnswer_38 : decode cX3_findAnswer 38 = .ok (.ifCond .ne 6, 3) := by decide +kernel
theorem dX3_findAnswer_41 : decode cX3_findAnswer 41 = .ok (.goto 34, 3) := by decide +kernel
theorem dX3_findAnswer_44 : decode cX3_findAnswer 44 = .ok (.aload_n 0, 1) := by decide +kernel
theorem dX3_findAnswer_45 : decode cX3_findAnswer 45 = .ok (.getfield 30, 3) := by decide +kernel
theorem dX3_findAnswer_48 : decode cX3_findAnswer 48 = .ok (.iconst (-1), 1) := by decide +kernel
theorem dX3_findAnswer_49 : decode cX3_findAnswer 49 = .ok (.invokestatic 121, 3) := by decide +kernel
theorem dX3_findAnswer_52 : decode cX3_findAnswer 52 = .ok (.iaload, 1) := by decide +kernel
theorem dX3_findAnswer_53 : decode cX3_findAnswer 53 = .ok (.istore 7, 2) := by decide +kernel
theorem dX3_findAnswer_55 : decode cX3_findAnswer 55 = .ok (.iload_n 3, 1) := by decide +kernel
theorem dX3_findAnswer_56 : decode cX3_findAnswer 56 = .ok (.ldc 132, 2) := by decide +kernel
theorem dX3_findAnswer_58 : decode cX3_findAnswer 58 = .ok (.if_icmp .eq 10, 3) := by decide +kernel
theorem dX3_findAnswer_61 : decode cX3_findAnswer 61 = .ok (.iload 7, 2) := by decide +kernel
theorem dX3_findAnswer_63 : decode cX3_findAnswer 63 = .ok (.iload 4, 2) := by decide +kernel
theorem dX3_findAnswer_65 : decode cX3_findAnswer 65 = .ok (.if_icmp .ge 10, 3) := by decide +kernel
theorem dX3_findAnswer_68 : decode cX3_findAnswer 68 = .ok (.iload 6, 2) := by decide +kernel
theorem dX3_findAnswer_70 : decode cX3_findAnswer 70 = .ok (.istore_n 3, 1) := by decide +kernel
theorem dX3_findAnswer_71 : decode cX3_findAnswer 71 = .ok (.iload 7, 2) := by decide +kernel
theorem dX3_findAnswer_73 : decode cX3_findAnswer 73 = .ok (.istore 4, 2) := by decide +kernel
theorem dX3_findAnswer_75 : decode cX3_findAnswer 75 = .ok (.iinc 5 1, 3) := by decide +kernel
theorem dX3_findAnswer_78 : decode cX3_findAnswer 78 = .ok (.goto (-69), 3) := by decide +kernel
theorem dX3_findAnswer_81 : decode cX3_findAnswer 81 = .ok (.iload_n 3, 1) := by decide +kernel
theorem dX3_findAnswer_82 : decode cX3_findAnswer 82 = .ok (.ireturn, 1) := by decide +kernel
set_option maxRecDepth 20000 in
theorem ggX3_costByOdds_X0_countedOdds : GoodIn wsX3_costByOdds wsX0_countedOdds := goodIn_r _ [10, 11, 12, 13, 62, 63, 64, 65] (by decide +kernel) (by decide +kernel)
set_option maxRecDepth 20000 in
theorem gX3_costByOdds_X0_countedOdds : GoodIn wsX3_costByOdds (wsV RX3 151 RX0 yX0_countedOdds wsX0_countedOdds) := goodIn_app (goodIn_of _ (by decide +kernel)) ggX3_costByOdds_X0_countedOdds
set_option maxRecDepth 20000 in
theorem ggX3_costByOdds_X3_findAnswer : GoodIn wsX3_costByOdds wsX3_findAnswer := goodIn_r _ [18, 2, 19, 20, 21, 22, 23, 24, 17, 25, 26, 1, 27, 28, 29, 30, 31, 32, 33, 34, 35, 36, 37, 38, 39, 40, 41, 42, 43, 44, 45, 50, 51, 52, 53, 54, 55, 56, 57, 58, 59, 60, 61, 62, 63, 64, 65, 66, 67, 68, 69, 70] (by decide +kernel) (by decide +kernel)
set_option maxRecDepth 20000 in
theorem gX3_costByOdds_X3_findAnswer : GoodIn wsX3_costByOdds (wsV RX3 139 RX3 yX3_findAnswer wsX3_findAnswer) := goodIn_app (goodIn_of _ (by decide +kernel)) ggX3_costByOdds_X3_findAnswer
set_option maxRecDepth 20000 in
theorem ggX3_costByOdds_X3_costOf : GoodIn wsX3_costByOdds wsX3_costOf := goodIn_r _ [49, 26, 1, 27, 21, 29, 30, 31, 32, 33, 34, 35, 36, 37, 38, 39, 40, 41, 42, 43, 17, 44, 45, 50, 51, 52, 53, 54, 55, 56, 57, 58, 59, 60, 61, 62, 63, 64, 65, 66, 67, 68, 69, 70] (by decide +kernel) (by decide +kernel)
set_option maxRecDepth 20000 in
theorem gX3_costByOdds_X3_costOf : GoodIn wsX3_costByOdds (wsV RX3 190 RX3 yX3_costOf wsX3_costOf) := goodIn_app (goodIn_of _ (by decide +kernel)) ggX3_costByOdds_X3_costOf
theorem dX3_costByOdds_0 : decode cX3_costByOdds 0 = .ok (.aload_n 0, 1) := by decide +kernel
theorem dX3_costByOdds_1 : decode cX3_costByOdds 1 = .ok (.getfield 26, 3) := by decide +kernel
theorem dX3_costByOdds_4 : decode cX3_costByOdds 4 = .ok (.invokevirtual 151, 3) := by decide +kernel
theorem dX3_costByOdds_7 : decode cX3_costByOdds 7 = .ok (.ifCond .ne 6, 3) := by decide +kernel
theorem dX3_costByOdds_10 : decode cX3_costByOdds 10 = .ok (.ldc 132, 2) := by decide +kernel
theorem dX3_costByOdds_12 : decode cX3_costByOdds 12 = .ok (.ireturn, 1) := by decide +kernel
theorem dX3_costByOdds_13 : decode cX3_costByOdds 13 = .ok (.iconst 0, 1) := by decide +kernel
theorem dX3_costByOdds_14 : decode cX3_costByOdds 14 = .ok (.istore_n 2, 1) := by decide +kernel
theorem dX3_costByOdds_15 : decode cX3_costByOdds 15 = .ok (.iconst 0, 1) := by decide +kernel
theorem dX3_costByOdds_16 : decode cX3_costByOdds 16 = .ok (.istore_n 3, 1) := by decide +kernel
theorem dX3_costByOdds_17 : decode cX3_costByOdds 17 = .ok (.iload_n 3, 1) := by decide +kernel
theorem dX3_costByOdds_18 : decode cX3_costByOdds 18 = .ok (.aload_n 0, 1) := by decide +kernel
theorem dX3_costByOdds_19 : decode cX3_costByOdds 19 = .ok (.getfield 26, 3) := by decide +kernel
theorem dX3_costByOdds_22 : decode cX3_costByOdds 22 = .ok (.getfield 87, 3) := by decide +kernel
theorem dX3_costByOdds_25 : decode cX3_costByOdds 25 = .ok (.if_icmp .ge 62, 3) := by decide +kernel
theorem dX3_costByOdds_28 : decode cX3_costByOdds 28 = .ok (.aload_n 0, 1) := by decide +kernel
theorem dX3_costByOdds_29 : decode cX3_costByOdds 29 = .ok (.getfield 26, 3) := by decide +kernel
theorem dX3_costByOdds_32 : decode cX3_costByOdds 32 = .ok (.getfield 169, 3) := by decide +kernel
theorem dX3_costByOdds_35 : decode cX3_costByOdds 35 = .ok (.iload_n 3, 1) := by decide +kernel
theorem dX3_costByOdds_36 : decode cX3_costByOdds 36 = .ok (.baload, 1) := by decide +kernel
theorem dX3_costByOdds_37 : decode cX3_costByOdds 37 = .ok (.ifCond .eq 6, 3) := by decide +kernel
theorem dX3_costByOdds_40 : decode cX3_costByOdds 40 = .ok (.goto 41, 3) := by decide +kernel
theorem dX3_costByOdds_43 : decode cX3_costByOdds 43 = .ok (.aload_n 0, 1) := by decide +kernel
theorem dX3_costByOdds_44 : decode cX3_costByOdds 44 = .ok (.iload_n 1, 1) := by decide +kernel
theorem dX3_costByOdds_45 : decode cX3_costByOdds 45 = .ok (.iload_n 3, 1) := by decide +kernel
theorem dX3_costByOdds_46 : decode cX3_costByOdds 46 = .ok (.invokevirtual 139, 3) := by decide +kernel
theorem dX3_costByOdds_49 : decode cX3_costByOdds 49 = .ok (.istore 4, 2) := by decide +kernel
theorem dX3_costByOdds_51 : decode cX3_costByOdds 51 = .ok (.iload 4, 2) := by decide +kernel
theorem dX3_costByOdds_53 : decode cX3_costByOdds 53 = .ok (.ldc 132, 2) := by decide +kernel
theorem dX3_costByOdds_55 : decode cX3_costByOdds 55 = .ok (.if_icmp .ne 6, 3) := by decide +kernel
theorem dX3_costByOdds_58 : decode cX3_costByOdds 58 = .ok (.ldc 132, 2) := by decide +kernel
theorem dX3_costByOdds_60 : decode cX3_costByOdds 60 = .ok (.ireturn, 1) := by decide +kernel
theorem dX3_costByOdds_61 : decode cX3_costByOdds 61 = .ok (.iload_n 2, 1) := by decide +kernel
theorem dX3_costByOdds_62 : decode cX3_costByOdds 62 = .ok (.aload_n 0, 1) := by decide +kernel
theorem dX3_costByOdds_63 : decode cX3_costByOdds 63 = .ok (.getfield 26, 3) := by decide +kernel
theorem dX3_costByOdds_66 : decode cX3_costByOdds 66 = .ok (.getfield 173, 3) := by decide +kernel
theorem dX3_costByOdds_69 : decode cX3_costByOdds 69 = .ok (.iload_n 3, 1) := by decide +kernel
theorem dX3_costByOdds_70 : decode cX3_costByOdds 70 = .ok (.iaload, 1) := by decide +kernel
theorem dX3_costByOdds_71 : decode cX3_costByOdds 71 = .ok (.aload_n 0, 1) := by decide +kernel
theorem dX3_costByOdds_72 : decode cX3_costByOdds 72 = .ok (.iload 4, 2) := by decide +kernel
theorem dX3_costByOdds_74 : decode cX3_costByOdds 74 = .ok (.iload_n 3, 1) := by decide +kernel
theorem dX3_costByOdds_75 : decode cX3_costByOdds 75 = .ok (.invokevirtual 190, 3) := by decide +kernel
theorem dX3_costByOdds_78 : decode cX3_costByOdds 78 = .ok (.imul, 1) := by decide +kernel
theorem dX3_costByOdds_79 : decode cX3_costByOdds 79 = .ok (.iadd, 1) := by decide +kernel
theorem dX3_costByOdds_80 : decode cX3_costByOdds 80 = .ok (.istore_n 2, 1) := by decide +kernel
theorem dX3_costByOdds_81 : decode cX3_costByOdds 81 = .ok (.iinc 3 1, 3) := by decide +kernel
theorem dX3_costByOdds_84 : decode cX3_costByOdds 84 = .ok (.goto (-67), 3) := by decide +kernel
theorem dX3_costByOdds_87 : decode cX3_costByOdds 87 = .ok (.iload_n 2, 1) := by decide +kernel
theorem dX3_costByOdds_88 : decode cX3_costByOdds 88 = .ok (.ireturn, 1) := by decide +kernel
set_option maxRecDepth 20000 in
theorem ggX3_findTwoStep_X3_firstPartCount : GoodIn wsX3_findTwoStep wsX3_firstPartCount := goodIn_r _ [6, 7, 58, 59, 60, 61, 62, 63, 64, 65, 66, 67, 68, 69] (by decide +kernel) (by decide +kernel)
set_option maxRecDepth 20000 in
theorem gX3_findTwoStep_X3_firstPartCount : GoodIn wsX3_findTwoStep (wsV RX3 166 RX3 yX3_firstPartCount wsX3_firstPartCount) := goodIn_app (goodIn_of _ (by decide +kernel)) ggX3_findTwoStep_X3_firstPartCount
set_option maxRecDepth 20000 in
theorem ggX3_findTwoStep_X3_costByOdds : GoodIn wsX3_findTwoStep wsX3_costByOdds := goodIn_r _ [11, 12, 1, 13, 14, 15, 16, 17, 18, 19, 20, 21, 22, 23, 24, 25, 26, 5, 27, 28, 7, 29, 30, 31, 32, 33, 34, 35, 36, 37, 38, 39, 40, 41, 42, 43, 44, 45, 46, 47, 48, 49, 50, 51, 52, 53, 54, 55, 56, 57, 58, 59, 60, 61, 62, 63, 64, 65, 66, 67, 68, 69, 70, 71, 72, 73, 74, 75, 76, 77, 78] (by decide +kernel) (by decide +kernel)
set_option maxRecDepth 20000 in
theorem gX3_findTwoStep_X3_costByOdds : GoodIn wsX3_findTwoStep (wsV RX3 148 RX3 yX3_costByOdds wsX3_costByOdds) := goodIn_app (goodIn_of _ (by decide +kernel)) ggX3_findTwoStep_X3_costByOdds
theorem dX3_findTwoStep_0 : decode cX3_findTwoStep 0 = .ok (.ldc 132, 2) := by decide +kernel
theorem dX3_findTwoStep_2 : decode cX3_findTwoStep 2 = .ok (.istore_n 1, 1) := by decide +kernel
theorem dX3_findTwoStep_3 : decode cX3_findTwoStep 3 = .ok (.iconst 0, 1) := by decide +kernel
theorem dX3_findTwoStep_4 : decode cX3_findTwoStep 4 = .ok (.istore_n 2, 1) := by decide +kernel
theorem dX3_findTwoStep_5 : decode cX3_findTwoStep 5 = .ok (.iconst 0, 1) := by decide +kernel
theorem dX3_findTwoStep_6 : decode cX3_findTwoStep 6 = .ok (.istore_n 3, 1) := by decide +kernel
theorem dX3_findTwoStep_7 : decode cX3_findTwoStep 7 = .ok (.iload_n 3, 1) := by decide +kernel
theorem dX3_findTwoStep_8 : decode cX3_findTwoStep 8 = .ok (.aload_n 0, 1) := by decide +kernel
theorem dX3_findTwoStep_9 : decode cX3_findTwoStep 9 = .ok (.invokevirtual 166, 3) := by decide +kernel
theorem dX3_findTwoStep_12 : decode cX3_findTwoStep 12 = .ok (.if_icmp .ge 40, 3) := by decide +kernel
theorem dX3_findTwoStep_15 : decode cX3_findTwoStep 15 = .ok (.aload_n 0, 1) := by decide +kernel
theorem dX3_findTwoStep_16 : decode cX3_findTwoStep 16 = .ok (.iload_n 3, 1) := by decide +kernel
theorem dX3_findTwoStep_17 : decode cX3_findTwoStep 17 = .ok (.invokevirtual 148, 3) := by decide +kernel
theorem dX3_findTwoStep_20 : decode cX3_findTwoStep 20 = .ok (.istore 4, 2) := by decide +kernel
theorem dX3_findTwoStep_22 : decode cX3_findTwoStep 22 = .ok (.iload 4, 2) := by decide +kernel
theorem dX3_findTwoStep_24 : decode cX3_findTwoStep 24 = .ok (.ldc 132, 2) := by decide +kernel
theorem dX3_findTwoStep_26 : decode cX3_findTwoStep 26 = .ok (.if_icmp .eq 20, 3) := by decide +kernel
theorem dX3_findTwoStep_29 : decode cX3_findTwoStep 29 = .ok (.iload_n 1, 1) := by decide +kernel
theorem dX3_findTwoStep_30 : decode cX3_findTwoStep 30 = .ok (.ldc 132, 2) := by decide +kernel
theorem dX3_findTwoStep_32 : decode cX3_findTwoStep 32 = .ok (.if_icmp .eq 9, 3) := by decide +kernel
theorem dX3_findTwoStep_35 : decode cX3_findTwoStep 35 = .ok (.iload 4, 2) := by decide +kernel
theorem dX3_findTwoStep_37 : decode cX3_findTwoStep 37 = .ok (.iload_n 2, 1) := by decide +kernel
theorem dX3_findTwoStep_38 : decode cX3_findTwoStep 38 = .ok (.if_icmp .ge 8, 3) := by decide +kernel
theorem dX3_findTwoStep_41 : decode cX3_findTwoStep 41 = .ok (.iload_n 3, 1) := by decide +kernel
theorem dX3_findTwoStep_42 : decode cX3_findTwoStep 42 = .ok (.istore_n 1, 1) := by decide +kernel
theorem dX3_findTwoStep_43 : decode cX3_findTwoStep 43 = .ok (.iload 4, 2) := by decide +kernel
theorem dX3_findTwoStep_45 : decode cX3_findTwoStep 45 = .ok (.istore_n 2, 1) := by decide +kernel
theorem dX3_findTwoStep_46 : decode cX3_findTwoStep 46 = .ok (.iinc 3 1, 3) := by decide +kernel
theorem dX3_findTwoStep_49 : decode cX3_findTwoStep 49 = .ok (.goto (-42), 3) := by decide +kernel
theorem dX3_findTwoStep_52 : decode cX3_findTwoStep 52 = .ok (.iload_n 1, 1) := by decide +kernel
theorem dX3_findTwoStep_53 : decode cX3_findTwoStep 53 = .ok (.ireturn, 1) := by decide +kernel
set_option maxRecDepth 20000 in
theorem ggX3_leastCost_X3_planCount : GoodIn wsX3_leastCost wsX3_planCount := goodIn_r _ [7, 8, 9, 35, 36, 37, 38, 39, 40, 41, 42, 43, 44, 45, 46] (by decide +kernel) (by decide +kernel)
set_option maxRecDepth 20000 in
theorem gX3_leastCost_X3_planCount : GoodIn wsX3_leastCost (wsV RX3 133 RX3 yX3_planCount wsX3_planCount) := goodIn_app (goodIn_of _ (by decide +kernel)) ggX3_leastCost_X3_planCount
set_option maxRecDepth 20000 in
theorem ggX3_leastCost_X3_allHold : GoodIn wsX3_leastCost wsX3_allHold := goodIn_r _ [13, 14, 15, 16, 2, 17, 18, 19, 20, 21, 22, 23, 24, 25, 26, 27, 28, 29, 30, 31, 32, 6, 33, 34, 35, 36, 37, 38, 39, 40, 41, 42, 43, 44, 45, 46, 47, 48, 49, 50, 51, 52, 53, 54, 55] (by decide +kernel) (by decide +kernel)
set_option maxRecDepth 20000 in
theorem gX3_leastCost_X3_allHold : GoodIn wsX3_leastCost (wsV RX3 176 RX3 yX3_allHold wsX3_allHold) := goodIn_app (goodIn_of _ (by decide +kernel)) ggX3_leastCost_X3_allHold
set_option maxRecDepth 20000 in
theorem ggX3_leastCost_X3_slotOf : GoodIn wsX3_leastCost wsX3_slotOf := goodIn_r _ [33] (by decide +kernel) (by decide +kernel)
set_option maxRecDepth 20000 in
theorem gX3_leastCost_X3_slotOf : GoodIn wsX3_leastCost (va_wsS RX3 121 yX3_slotOf wsX3_slotOf) := goodIn_app (goodIn_of _ (by decide +kernel)) ggX3_leastCost_X3_slotOf
theorem dX3_leastCost_0 : decode cX3_leastCost 0 = .ok (.ldc 132, 2) := by decide +kernel
theorem dX3_leastCost_2 : decode cX3_leastCost 2 = .ok (.istore_n 2, 1) := by decide +kernel
theorem dX3_leastCost_3 : decode cX3_leastCost 3 = .ok (.iconst 0, 1) := by decide +kernel
theorem dX3_leastCost_4 : decode cX3_leastCost 4 = .ok (.istore_n 3, 1) := by decide +kernel
theorem dX3_leastCost_5 : decode cX3_leastCost 5 = .ok (.iload_n 3, 1) := by decide +kernel
theorem dX3_leastCost_6 : decode cX3_leastCost 6 = .ok (.aload_n 0, 1) := by decide +kernel
theorem dX3_leastCost_7 : decode cX3_leastCost 7 = .ok (.invokevirtual 133, 3) := by decide +kernel
theorem dX3_leastCost_10 : decode cX3_leastCost 10 = .ok (.if_icmp .ge 47, 3) := by decide +kernel
theorem dX3_leastCost_13 : decode cX3_leastCost 13 = .ok (.aload_n 0, 1) := by decide +kernel
theorem dX3_leastCost_14 : decode cX3_leastCost 14 = .ok (.iload_n 3, 1) := by decide +kernel
theorem dX3_leastCost_15 : decode cX3_leastCost 15 = .ok (.iload_n 1, 1) := by decide +kernel
theorem dX3_leastCost_16 : decode cX3_leastCost 16 = .ok (.invokevirtual 176, 3) := by decide +kernel
theorem dX3_leastCost_19 : decode cX3_leastCost 19 = .ok (.ifCond .ne 6, 3) := by decide +kernel
theorem dX3_leastCost_22 : decode cX3_leastCost 22 = .ok (.goto 29, 3) := by decide +kernel
theorem dX3_leastCost_25 : decode cX3_leastCost 25 = .ok (.aload_n 0, 1) := by decide +kernel
theorem dX3_leastCost_26 : decode cX3_leastCost 26 = .ok (.getfield 30, 3) := by decide +kernel
theorem dX3_leastCost_29 : decode cX3_leastCost 29 = .ok (.iconst (-1), 1) := by decide +kernel
theorem dX3_leastCost_30 : decode cX3_leastCost 30 = .ok (.invokestatic 121, 3) := by decide +kernel
theorem dX3_leastCost_33 : decode cX3_leastCost 33 = .ok (.iaload, 1) := by decide +kernel
theorem dX3_leastCost_34 : decode cX3_leastCost 34 = .ok (.istore 4, 2) := by decide +kernel
theorem dX3_leastCost_36 : decode cX3_leastCost 36 = .ok (.iload_n 2, 1) := by decide +kernel
theorem dX3_leastCost_37 : decode cX3_leastCost 37 = .ok (.ldc 132, 2) := by decide +kernel
theorem dX3_leastCost_39 : decode cX3_leastCost 39 = .ok (.if_icmp .eq 9, 3) := by decide +kernel
theorem dX3_leastCost_42 : decode cX3_leastCost 42 = .ok (.iload 4, 2) := by decide +kernel
theorem dX3_leastCost_44 : decode cX3_leastCost 44 = .ok (.iload_n 2, 1) := by decide +kernel
theorem dX3_leastCost_45 : decode cX3_leastCost 45 = .ok (.if_icmp .ge 6, 3) := by decide +kernel
theorem dX3_leastCost_48 : decode cX3_leastCost 48 = .ok (.iload 4, 2) := by decide +kernel
theorem dX3_leastCost_50 : decode cX3_leastCost 50 = .ok (.istore_n 2, 1) := by decide +kernel
theorem dX3_leastCost_51 : decode cX3_leastCost 51 = .ok (.iinc 3 1, 3) := by decide +kernel
theorem dX3_leastCost_54 : decode cX3_leastCost 54 = .ok (.goto (-49), 3) := by decide +kernel
theorem dX3_leastCost_57 : decode cX3_leastCost 57 = .ok (.iload_n 2, 1) := by decide +kernel
theorem dX3_leastCost_58 : decode cX3_leastCost 58 = .ok (.ireturn, 1) := by decide +kernel
set_option maxRecDepth 20000 in
theorem ggX3_fillBests_X3_leastCost : GoodIn wsX3_fillBests wsX3_leastCost := goodIn_r _ [9, 10, 11, 12, 13, 14, 8, 15, 16, 17, 18, 19, 20, 21, 22, 1, 23, 24, 25, 26, 27, 28, 29, 30, 31, 32, 33, 34, 35, 36, 37, 38, 39, 40, 41, 42, 43, 44, 45, 46, 47, 48, 49, 50, 51, 52, 53, 54, 55, 56, 57, 58, 59, 60, 61, 62] (by decide +kernel) (by decide +kernel)
set_option maxRecDepth 20000 in
theorem gX3_fillBests_X3_leastCost : GoodIn wsX3_fillBests (wsV RX3 157 RX3 yX3_leastCost wsX3_leastCost) := goodIn_app (goodIn_of _ (by decide +kernel)) ggX3_fillBests_X3_leastCost
theorem dX3_fillBests_0 : decode cX3_fillBests 0 = .ok (.iconst 0, 1) := by decide +kernel
theorem dX3_fillBests_1 : decode cX3_fillBests 1 = .ok (.istore_n 1, 1) := by decide +kernel
theorem dX3_fillBests_2 : decode cX3_fillBests 2 = .ok (.iload_n 1, 1) := by decide +kernel
theorem dX3_fillBests_3 : decode cX3_fillBests 3 = .ok (.aload_n 0, 1) := by decide +kernel
theorem dX3_fillBests_4 : decode cX3_fillBests 4 = .ok (.getfield 26, 3) := by decide +kernel
theorem dX3_fillBests_7 : decode cX3_fillBests 7 = .ok (.getfield 87, 3) := by decide +kernel
theorem dX3_fillBests_10 : decode cX3_fillBests 10 = .ok (.if_icmp .ge 32, 3) := by decide +kernel
theorem dX3_fillBests_13 : decode cX3_fillBests 13 = .ok (.aload_n 0, 1) := by decide +kernel
theorem dX3_fillBests_14 : decode cX3_fillBests 14 = .ok (.getfield 26, 3) := by decide +kernel
theorem dX3_fillBests_17 : decode cX3_fillBests 17 = .ok (.getfield 169, 3) := by decide +kernel
theorem dX3_fillBests_20 : decode cX3_fillBests 20 = .ok (.iload_n 1, 1) := by decide +kernel
theorem dX3_fillBests_21 : decode cX3_fillBests 21 = .ok (.baload, 1) := by decide +kernel
theorem dX3_fillBests_22 : decode cX3_fillBests 22 = .ok (.ifCond .ne 14, 3) := by decide +kernel
theorem dX3_fillBests_25 : decode cX3_fillBests 25 = .ok (.aload_n 0, 1) := by decide +kernel
theorem dX3_fillBests_26 : decode cX3_fillBests 26 = .ok (.getfield 34, 3) := by decide +kernel
theorem dX3_fillBests_29 : decode cX3_fillBests 29 = .ok (.iload_n 1, 1) := by decide +kernel
theorem dX3_fillBests_30 : decode cX3_fillBests 30 = .ok (.aload_n 0, 1) := by decide +kernel
theorem dX3_fillBests_31 : decode cX3_fillBests 31 = .ok (.iload_n 1, 1) := by decide +kernel
theorem dX3_fillBests_32 : decode cX3_fillBests 32 = .ok (.invokevirtual 157, 3) := by decide +kernel
theorem dX3_fillBests_35 : decode cX3_fillBests 35 = .ok (.iastore, 1) := by decide +kernel
theorem dX3_fillBests_36 : decode cX3_fillBests 36 = .ok (.iinc 1 1, 3) := by decide +kernel
theorem dX3_fillBests_39 : decode cX3_fillBests 39 = .ok (.goto (-37), 3) := by decide +kernel
theorem dX3_fillBests_42 : decode cX3_fillBests 42 = .ok (.return_, 1) := by decide +kernel
set_option maxRecDepth 20000 in
theorem ggX3_greatestRegret_X0_countedOdds : GoodIn wsX3_greatestRegret wsX0_countedOdds := goodIn_r _ [14, 15, 16, 17, 66, 67, 68, 69] (by decide +kernel) (by decide +kernel)
set_option maxRecDepth 20000 in
theorem gX3_greatestRegret_X0_countedOdds : GoodIn wsX3_greatestRegret (wsV RX3 151 RX0 yX0_countedOdds wsX0_countedOdds) := goodIn_app (goodIn_of _ (by decide +kernel)) ggX3_greatestRegret_X0_countedOdds
set_option maxRecDepth 20000 in
theorem ggX3_greatestRegret_X3_findAnswer : GoodIn wsX3_greatestRegret wsX3_findAnswer := goodIn_r _ [22, 2, 23, 24, 25, 26, 27, 28, 21, 29, 30, 1, 31, 32, 33, 34, 35, 36, 37, 38, 39, 40, 41, 42, 43, 44, 45, 46, 47, 48, 49, 54, 55, 56, 57, 58, 59, 60, 61, 62, 63, 64, 65, 66, 67, 68, 69, 70, 71, 72, 73, 74] (by decide +kernel) (by decide +kernel)
set_option maxRecDepth 20000 in
theorem gX3_greatestRegret_X3_findAnswer : GoodIn wsX3_greatestRegret (wsV RX3 139 RX3 yX3_findAnswer wsX3_findAnswer) := goodIn_app (goodIn_of _ (by decide +kernel)) ggX3_greatestRegret_X3_findAnswer
set_option maxRecDepth 20000 in
theorem ggX3_greatestRegret_X3_costOf : GoodIn wsX3_greatestRegret wsX3_costOf := goodIn_r _ [53, 30, 1, 31, 25, 33, 34, 35, 36, 37, 38, 39, 40, 41, 42, 43, 44, 45, 46, 47, 21, 48, 49, 54, 55, 56, 57, 58, 59, 60, 61, 62, 63, 64, 65, 66, 67, 68, 69, 70, 71, 72, 73, 74] (by decide +kernel) (by decide +kernel)
set_option maxRecDepth 20000 in
theorem gX3_greatestRegret_X3_costOf : GoodIn wsX3_greatestRegret (wsV RX3 190 RX3 yX3_costOf wsX3_costOf) := goodIn_app (goodIn_of _ (by decide +kernel)) ggX3_greatestRegret_X3_costOf
theorem dX3_greatestRegret_0 : decode cX3_greatestRegret 0 = .ok (.aload_n 0, 1) := by decide +kernel
theorem dX3_greatestRegret_1 : decode cX3_greatestRegret 1 = .ok (.getfield 26, 3) := by decide +kernel
theorem dX3_greatestRegret_4 : decode cX3_greatestRegret 4 = .ok (.invokevirtual 151, 3) := by decide +kernel
theorem dX3_greatestRegret_7 : decode cX3_greatestRegret 7 = .ok (.ifCond .ne 6, 3) := by decide +kernel
theorem dX3_greatestRegret_10 : decode cX3_greatestRegret 10 = .ok (.ldc 132, 2) := by decide +kernel
theorem dX3_greatestRegret_12 : decode cX3_greatestRegret 12 = .ok (.ireturn, 1) := by decide +kernel
theorem dX3_greatestRegret_13 : decode cX3_greatestRegret 13 = .ok (.iconst 0, 1) := by decide +kernel
theorem dX3_greatestRegret_14 : decode cX3_greatestRegret 14 = .ok (.istore_n 2, 1) := by decide +kernel
theorem dX3_greatestRegret_15 : decode cX3_greatestRegret 15 = .ok (.iconst 0, 1) := by decide +kernel
theorem dX3_greatestRegret_16 : decode cX3_greatestRegret 16 = .ok (.istore_n 3, 1) := by decide +kernel
theorem dX3_greatestRegret_17 : decode cX3_greatestRegret 17 = .ok (.iload_n 3, 1) := by decide +kernel
theorem dX3_greatestRegret_18 : decode cX3_greatestRegret 18 = .ok (.aload_n 0, 1) := by decide +kernel
theorem dX3_greatestRegret_19 : decode cX3_greatestRegret 19 = .ok (.getfield 26, 3) := by decide +kernel
theorem dX3_greatestRegret_22 : decode cX3_greatestRegret 22 = .ok (.getfield 87, 3) := by decide +kernel
theorem dX3_greatestRegret_25 : decode cX3_greatestRegret 25 = .ok (.if_icmp .ge 61, 3) := by decide +kernel
theorem dX3_greatestRegret_28 : decode cX3_greatestRegret 28 = .ok (.aload_n 0, 1) := by decide +kernel
theorem dX3_greatestRegret_29 : decode cX3_greatestRegret 29 = .ok (.getfield 26, 3) := by decide +kernel
theorem dX3_greatestRegret_32 : decode cX3_greatestRegret 32 = .ok (.getfield 169, 3) := by decide +kernel
theorem dX3_greatestRegret_35 : decode cX3_greatestRegret 35 = .ok (.iload_n 3, 1) := by decide +kernel
theorem dX3_greatestRegret_36 : decode cX3_greatestRegret 36 = .ok (.baload, 1) := by decide +kernel
theorem dX3_greatestRegret_37 : decode cX3_greatestRegret 37 = .ok (.ifCond .eq 6, 3) := by decide +kernel
theorem dX3_greatestRegret_40 : decode cX3_greatestRegret 40 = .ok (.goto 40, 3) := by decide +kernel
theorem dX3_greatestRegret_43 : decode cX3_greatestRegret 43 = .ok (.aload_n 0, 1) := by decide +kernel
theorem dX3_greatestRegret_44 : decode cX3_greatestRegret 44 = .ok (.iload_n 1, 1) := by decide +kernel
theorem dX3_greatestRegret_45 : decode cX3_greatestRegret 45 = .ok (.iload_n 3, 1) := by decide +kernel
theorem dX3_greatestRegret_46 : decode cX3_greatestRegret 46 = .ok (.invokevirtual 139, 3) := by decide +kernel
theorem dX3_greatestRegret_49 : decode cX3_greatestRegret 49 = .ok (.istore 4, 2) := by decide +kernel
theorem dX3_greatestRegret_51 : decode cX3_greatestRegret 51 = .ok (.iload 4, 2) := by decide +kernel
theorem dX3_greatestRegret_53 : decode cX3_greatestRegret 53 = .ok (.ldc 132, 2) := by decide +kernel
theorem dX3_greatestRegret_55 : decode cX3_greatestRegret 55 = .ok (.if_icmp .ne 6, 3) := by decide +kernel
theorem dX3_greatestRegret_58 : decode cX3_greatestRegret 58 = .ok (.ldc 132, 2) := by decide +kernel
theorem dX3_greatestRegret_60 : decode cX3_greatestRegret 60 = .ok (.ireturn, 1) := by decide +kernel
theorem dX3_greatestRegret_61 : decode cX3_greatestRegret 61 = .ok (.iload_n 2, 1) := by decide +kernel
theorem dX3_greatestRegret_62 : decode cX3_greatestRegret 62 = .ok (.aload_n 0, 1) := by decide +kernel
theorem dX3_greatestRegret_63 : decode cX3_greatestRegret 63 = .ok (.iload 4, 2) := by decide +kernel
theorem dX3_greatestRegret_65 : decode cX3_greatestRegret 65 = .ok (.iload_n 3, 1) := by decide +kernel
theorem dX3_greatestRegret_66 : decode cX3_greatestRegret 66 = .ok (.invokevirtual 190, 3) := by decide +kernel
theorem dX3_greatestRegret_69 : decode cX3_greatestRegret 69 = .ok (.aload_n 0, 1) := by decide +kernel
theorem dX3_greatestRegret_70 : decode cX3_greatestRegret 70 = .ok (.getfield 34, 3) := by decide +kernel
theorem dX3_greatestRegret_73 : decode cX3_greatestRegret 73 = .ok (.iload_n 3, 1) := by decide +kernel
theorem dX3_greatestRegret_74 : decode cX3_greatestRegret 74 = .ok (.iaload, 1) := by decide +kernel
theorem dX3_greatestRegret_75 : decode cX3_greatestRegret 75 = .ok (.isub, 1) := by decide +kernel
theorem dX3_greatestRegret_76 : decode cX3_greatestRegret 76 = .ok (.invokestatic 193, 3) := by decide +kernel
theorem dX3_greatestRegret_79 : decode cX3_greatestRegret 79 = .ok (.istore_n 2, 1) := by decide +kernel
theorem dX3_greatestRegret_80 : decode cX3_greatestRegret 80 = .ok (.iinc 3 1, 3) := by decide +kernel
theorem dX3_greatestRegret_83 : decode cX3_greatestRegret 83 = .ok (.goto (-66), 3) := by decide +kernel
theorem dX3_greatestRegret_86 : decode cX3_greatestRegret 86 = .ok (.iload_n 2, 1) := by decide +kernel
theorem dX3_greatestRegret_87 : decode cX3_greatestRegret 87 = .ok (.ireturn, 1) := by decide +kernel
set_option maxRecDepth 20000 in
theorem ggX3_partOfFraction_X3_commonDivisor : GoodIn wsX3_partOfFraction wsX3_commonDivisor := goodIn_r _ [8] (by decide +kernel) (by decide +kernel)
set_option maxRecDepth 20000 in
theorem gX3_partOfFraction_X3_commonDivisor : GoodIn wsX3_partOfFraction (va_wsS RX3 201 yX3_commonDivisor wsX3_commonDivisor) := goodIn_app (goodIn_of _ (by decide +kernel)) ggX3_partOfFraction_X3_commonDivisor
theorem dX3_partOfFraction_0 : decode cX3_partOfFraction 0 = .ok (.iload_n 0, 1) := by decide +kernel
theorem dX3_partOfFraction_1 : decode cX3_partOfFraction 1 = .ok (.invokestatic 198, 3) := by decide +kernel
theorem dX3_partOfFraction_4 : decode cX3_partOfFraction 4 = .ok (.iload_n 1, 1) := by decide +kernel
theorem dX3_partOfFraction_5 : decode cX3_partOfFraction 5 = .ok (.invokestatic 201, 3) := by decide +kernel
theorem dX3_partOfFraction_8 : decode cX3_partOfFraction 8 = .ok (.istore_n 3, 1) := by decide +kernel
theorem dX3_partOfFraction_9 : decode cX3_partOfFraction 9 = .ok (.iload_n 2, 1) := by decide +kernel
theorem dX3_partOfFraction_10 : decode cX3_partOfFraction 10 = .ok (.ifCond .ne 7, 3) := by decide +kernel
theorem dX3_partOfFraction_13 : decode cX3_partOfFraction 13 = .ok (.iload_n 0, 1) := by decide +kernel
theorem dX3_partOfFraction_14 : decode cX3_partOfFraction 14 = .ok (.goto 4, 3) := by decide +kernel
theorem dX3_partOfFraction_17 : decode cX3_partOfFraction 17 = .ok (.iload_n 1, 1) := by decide +kernel
theorem dX3_partOfFraction_18 : decode cX3_partOfFraction 18 = .ok (.istore 4, 2) := by decide +kernel
theorem dX3_partOfFraction_20 : decode cX3_partOfFraction 20 = .ok (.iload_n 3, 1) := by decide +kernel
theorem dX3_partOfFraction_21 : decode cX3_partOfFraction 21 = .ok (.iconst 1, 1) := by decide +kernel
theorem dX3_partOfFraction_22 : decode cX3_partOfFraction 22 = .ok (.if_icmp .le 10, 3) := by decide +kernel
theorem dX3_partOfFraction_25 : decode cX3_partOfFraction 25 = .ok (.iload 4, 2) := by decide +kernel
theorem dX3_partOfFraction_27 : decode cX3_partOfFraction 27 = .ok (.iload_n 3, 1) := by decide +kernel
theorem dX3_partOfFraction_28 : decode cX3_partOfFraction 28 = .ok (.idiv, 1) := by decide +kernel
theorem dX3_partOfFraction_29 : decode cX3_partOfFraction 29 = .ok (.goto 5, 3) := by decide +kernel
theorem dX3_partOfFraction_32 : decode cX3_partOfFraction 32 = .ok (.iload 4, 2) := by decide +kernel
theorem dX3_partOfFraction_34 : decode cX3_partOfFraction 34 = .ok (.ireturn, 1) := by decide +kernel
theorem dX3_commonDivisor_0 : decode cX3_commonDivisor 0 = .ok (.iload_n 0, 1) := by decide +kernel
theorem dX3_commonDivisor_1 : decode cX3_commonDivisor 1 = .ok (.istore_n 2, 1) := by decide +kernel
theorem dX3_commonDivisor_2 : decode cX3_commonDivisor 2 = .ok (.iload_n 1, 1) := by decide +kernel
theorem dX3_commonDivisor_3 : decode cX3_commonDivisor 3 = .ok (.istore_n 3, 1) := by decide +kernel
theorem dX3_commonDivisor_4 : decode cX3_commonDivisor 4 = .ok (.iconst 0, 1) := by decide +kernel
theorem dX3_commonDivisor_5 : decode cX3_commonDivisor 5 = .ok (.istore 4, 2) := by decide +kernel
theorem dX3_commonDivisor_7 : decode cX3_commonDivisor 7 = .ok (.iload 4, 2) := by decide +kernel
theorem dX3_commonDivisor_9 : decode cX3_commonDivisor 9 = .ok (.bipush 100, 2) := by decide +kernel
theorem dX3_commonDivisor_11 : decode cX3_commonDivisor 11 = .ok (.if_icmp .ge 23, 3) := by decide +kernel
theorem dX3_commonDivisor_14 : decode cX3_commonDivisor 14 = .ok (.iload_n 3, 1) := by decide +kernel
theorem dX3_commonDivisor_15 : decode cX3_commonDivisor 15 = .ok (.ifCond .eq 19, 3) := by decide +kernel
theorem dX3_commonDivisor_18 : decode cX3_commonDivisor 18 = .ok (.iload_n 2, 1) := by decide +kernel
theorem dX3_commonDivisor_19 : decode cX3_commonDivisor 19 = .ok (.iload_n 3, 1) := by decide +kernel
theorem dX3_commonDivisor_20 : decode cX3_commonDivisor 20 = .ok (.irem, 1) := by decide +kernel
theorem dX3_commonDivisor_21 : decode cX3_commonDivisor 21 = .ok (.istore 5, 2) := by decide +kernel
theorem dX3_commonDivisor_23 : decode cX3_commonDivisor 23 = .ok (.iload_n 3, 1) := by decide +kernel
theorem dX3_commonDivisor_24 : decode cX3_commonDivisor 24 = .ok (.istore_n 2, 1) := by decide +kernel
theorem dX3_commonDivisor_25 : decode cX3_commonDivisor 25 = .ok (.iload 5, 2) := by decide +kernel
theorem dX3_commonDivisor_27 : decode cX3_commonDivisor 27 = .ok (.istore_n 3, 1) := by decide +kernel
theorem dX3_commonDivisor_28 : decode cX3_commonDivisor 28 = .ok (.iinc 4 1, 3) := by decide +kernel
theorem dX3_commonDivisor_31 : decode cX3_commonDivisor 31 = .ok (.goto (-24), 3) := by decide +kernel
theorem dX3_commonDivisor_34 : decode cX3_commonDivisor 34 = .ok (.iload_n 2, 1) := by decide +kernel
theorem dX3_commonDivisor_35 : decode cX3_commonDivisor 35 = .ok (.ireturn, 1) := by decide +kernel
end
section
theorem dX4_init_0 : decode cX4_init 0 = .ok (.aload_n 0, 1) := by decide +kernel
theorem dX4_init_1 : decode cX4_init 1 = .ok (.invokespecial 1, 3) := by decide +kernel
theorem dX4_init_4 : decode cX4_init 4 = .ok (.aload_n 0, 1) := by decide +kernel
theorem dX4_init_5 : decode cX4_init 5 = .ok (.iconst 1, 1) := by decide +kernel
theorem dX4_init_6 : decode cX4_init 6 = .ok (.putfield 7, 3) := by decide +kernel
theorem dX4_init_9 : decode cX4_init 9 = .ok (.aload_n 0, 1) := by decide +kernel
theorem dX4_init_10 : decode cX4_init 10 = .ok (.bipush 12, 2) := by decide +kernel
theorem dX4_init_12 : decode cX4_init 12 = .ok (.newarray .int, 2) := by decide +kernel
theorem dX4_init_14 : decode cX4_init 14 = .ok (.putfield 13, 3) := by decide +kernel
theorem dX4_init_17 : decode cX4_init 17 = .ok (.aload_n 0, 1) := by decide +kernel
theorem dX4_init_18 : decode cX4_init 18 = .ok (.bipush 12, 2) := by decide +kernel
theorem dX4_init_20 : decode cX4_init 20 = .ok (.newarray .int, 2) := by decide +kernel
theorem dX4_init_22 : decode cX4_init 22 = .ok (.putfield 17, 3) := by decide +kernel
theorem dX4_init_25 : decode cX4_init 25 = .ok (.aload_n 0, 1) := by decide +kernel
theorem dX4_init_26 : decode cX4_init 26 = .ok (.bipush 12, 2) := by decide +kernel
theorem dX4_init_28 : decode cX4_init 28 = .ok (.newarray .int, 2) := by decide +kernel
theorem dX4_init_30 : decode cX4_init 30 = .ok (.putfield 20, 3) := by decide +kernel
theorem dX4_init_33 : decode cX4_init 33 = .ok (.aload_n 0, 1) := by decide +kernel
theorem dX4_init_34 : decode cX4_init 34 = .ok (.bipush 40, 2) := by decide +kernel
theorem dX4_init_36 : decode cX4_init 36 = .ok (.newarray .int, 2) := by decide +kernel
theorem dX4_init_38 : decode cX4_init 38 = .ok (.putfield 23, 3) := by decide +kernel
theorem dX4_init_41 : decode cX4_init 41 = .ok (.aload_n 0, 1) := by decide +kernel
theorem dX4_init_42 : decode cX4_init 42 = .ok (.bipush 40, 2) := by decide +kernel
theorem dX4_init_44 : decode cX4_init 44 = .ok (.newarray .int, 2) := by decide +kernel
theorem dX4_init_46 : decode cX4_init 46 = .ok (.putfield 26, 3) := by decide +kernel
theorem dX4_init_49 : decode cX4_init 49 = .ok (.aload_n 0, 1) := by decide +kernel
theorem dX4_init_50 : decode cX4_init 50 = .ok (.bipush 40, 2) := by decide +kernel
theorem dX4_init_52 : decode cX4_init 52 = .ok (.newarray .int, 2) := by decide +kernel
theorem dX4_init_54 : decode cX4_init 54 = .ok (.putfield 29, 3) := by decide +kernel
theorem dX4_init_57 : decode cX4_init 57 = .ok (.aload_n 0, 1) := by decide +kernel
theorem dX4_init_58 : decode cX4_init 58 = .ok (.bipush 40, 2) := by decide +kernel
theorem dX4_init_60 : decode cX4_init 60 = .ok (.newarray .int, 2) := by decide +kernel
theorem dX4_init_62 : decode cX4_init 62 = .ok (.putfield 32, 3) := by decide +kernel
theorem dX4_init_65 : decode cX4_init 65 = .ok (.aload_n 0, 1) := by decide +kernel
theorem dX4_init_66 : decode cX4_init 66 = .ok (.bipush 8, 2) := by decide +kernel
theorem dX4_init_68 : decode cX4_init 68 = .ok (.newarray .int, 2) := by decide +kernel
theorem dX4_init_70 : decode cX4_init 70 = .ok (.putfield 35, 3) := by decide +kernel
theorem dX4_init_73 : decode cX4_init 73 = .ok (.aload_n 0, 1) := by decide +kernel
theorem dX4_init_74 : decode cX4_init 74 = .ok (.bipush 8, 2) := by decide +kernel
theorem dX4_init_76 : decode cX4_init 76 = .ok (.newarray .boolean, 2) := by decide +kernel
theorem dX4_init_78 : decode cX4_init 78 = .ok (.putfield 38, 3) := by decide +kernel
theorem dX4_init_81 : decode cX4_init 81 = .ok (.aload_n 0, 1) := by decide +kernel
theorem dX4_init_82 : decode cX4_init 82 = .ok (.bipush 96, 2) := by decide +kernel
theorem dX4_init_84 : decode cX4_init 84 = .ok (.newarray .int, 2) := by decide +kernel
theorem dX4_init_86 : decode cX4_init 86 = .ok (.putfield 42, 3) := by decide +kernel
theorem dX4_init_89 : decode cX4_init 89 = .ok (.aload_n 0, 1) := by decide +kernel
theorem dX4_init_90 : decode cX4_init 90 = .ok (.bipush 12, 2) := by decide +kernel
theorem dX4_init_92 : decode cX4_init 92 = .ok (.newarray .int, 2) := by decide +kernel
theorem dX4_init_94 : decode cX4_init 94 = .ok (.putfield 45, 3) := by decide +kernel
theorem dX4_init_97 : decode cX4_init 97 = .ok (.aload_n 0, 1) := by decide +kernel
theorem dX4_init_98 : decode cX4_init 98 = .ok (.bipush 12, 2) := by decide +kernel
theorem dX4_init_100 : decode cX4_init 100 = .ok (.newarray .int, 2) := by decide +kernel
theorem dX4_init_102 : decode cX4_init 102 = .ok (.putfield 48, 3) := by decide +kernel
theorem dX4_init_105 : decode cX4_init 105 = .ok (.aload_n 0, 1) := by decide +kernel
theorem dX4_init_106 : decode cX4_init 106 = .ok (.bipush 8, 2) := by decide +kernel
theorem dX4_init_108 : decode cX4_init 108 = .ok (.newarray .int, 2) := by decide +kernel
theorem dX4_init_110 : decode cX4_init 110 = .ok (.putfield 51, 3) := by decide +kernel
theorem dX4_init_113 : decode cX4_init 113 = .ok (.return_, 1) := by decide +kernel
theorem dX4_in_0 : decode cX4_in 0 = .ok (.iload_n 0, 1) := by decide +kernel
theorem dX4_in_1 : decode cX4_in 1 = .ok (.iload_n 1, 1) := by decide +kernel
theorem dX4_in_2 : decode cX4_in 2 = .ok (.if_icmp .lt 12, 3) := by decide +kernel
theorem dX4_in_5 : decode cX4_in 5 = .ok (.iload_n 0, 1) := by decide +kernel
theorem dX4_in_6 : decode cX4_in 6 = .ok (.iload_n 2, 1) := by decide +kernel
theorem dX4_in_7 : decode cX4_in 7 = .ok (.if_icmp .gt 7, 3) := by decide +kernel
theorem dX4_in_10 : decode cX4_in 10 = .ok (.iconst 1, 1) := by decide +kernel
theorem dX4_in_11 : decode cX4_in 11 = .ok (.goto 4, 3) := by decide +kernel
theorem dX4_in_14 : decode cX4_in 14 = .ok (.iconst 0, 1) := by decide +kernel
theorem dX4_in_15 : decode cX4_in 15 = .ok (.ireturn, 1) := by decide +kernel
set_option maxRecDepth 20000 in
theorem ggX4_begin_X4_in : GoodIn wsX4_begin wsX4_in := goodIn_r _ [12] (by decide +kernel) (by decide +kernel)
set_option maxRecDepth 20000 in
theorem gX4_begin_X4_in : GoodIn wsX4_begin (va_wsS RX4 54 yX4_in wsX4_in) := goodIn_app (goodIn_of _ (by decide +kernel)) ggX4_begin_X4_in
theorem dX4_begin_0 : decode cX4_begin 0 = .ok (.iload_n 1, 1) := by decide +kernel
theorem dX4_begin_1 : decode cX4_begin 1 = .ok (.iconst 1, 1) := by decide +kernel
theorem dX4_begin_2 : decode cX4_begin 2 = .ok (.bipush 6, 2) := by decide +kernel
theorem dX4_begin_4 : decode cX4_begin 4 = .ok (.invokestatic 54, 3) := by decide +kernel
theorem dX4_begin_7 : decode cX4_begin 7 = .ok (.ifCond .eq 12, 3) := by decide +kernel
theorem dX4_begin_10 : decode cX4_begin 10 = .ok (.iload_n 2, 1) := by decide +kernel
theorem dX4_begin_11 : decode cX4_begin 11 = .ok (.iconst 0, 1) := by decide +kernel
theorem dX4_begin_12 : decode cX4_begin 12 = .ok (.iconst 4, 1) := by decide +kernel
theorem dX4_begin_13 : decode cX4_begin 13 = .ok (.invokestatic 54, 3) := by decide +kernel
theorem dX4_begin_16 : decode cX4_begin 16 = .ok (.ifCond .ne 6, 3) := by decide +kernel
theorem dX4_begin_19 : decode cX4_begin 19 = .ok (.ldc 58, 2) := by decide +kernel
theorem dX4_begin_21 : decode cX4_begin 21 = .ok (.ireturn, 1) := by decide +kernel
theorem dX4_begin_22 : decode cX4_begin 22 = .ok (.aload_n 0, 1) := by decide +kernel
theorem dX4_begin_23 : decode cX4_begin 23 = .ok (.getfield 59, 3) := by decide +kernel
theorem dX4_begin_26 : decode cX4_begin 26 = .ok (.istore_n 3, 1) := by decide +kernel
theorem dX4_begin_27 : decode cX4_begin 27 = .ok (.aload_n 0, 1) := by decide +kernel
theorem dX4_begin_28 : decode cX4_begin 28 = .ok (.iload_n 1, 1) := by decide +kernel
theorem dX4_begin_29 : decode cX4_begin 29 = .ok (.putfield 7, 3) := by decide +kernel
theorem dX4_begin_32 : decode cX4_begin 32 = .ok (.aload_n 0, 1) := by decide +kernel
theorem dX4_begin_33 : decode cX4_begin 33 = .ok (.iload_n 2, 1) := by decide +kernel
theorem dX4_begin_34 : decode cX4_begin 34 = .ok (.putfield 62, 3) := by decide +kernel
theorem dX4_begin_37 : decode cX4_begin 37 = .ok (.aload_n 0, 1) := by decide +kernel
theorem dX4_begin_38 : decode cX4_begin 38 = .ok (.iconst 0, 1) := by decide +kernel
theorem dX4_begin_39 : decode cX4_begin 39 = .ok (.putfield 65, 3) := by decide +kernel
theorem dX4_begin_42 : decode cX4_begin 42 = .ok (.aload_n 0, 1) := by decide +kernel
theorem dX4_begin_43 : decode cX4_begin 43 = .ok (.iconst 0, 1) := by decide +kernel
theorem dX4_begin_44 : decode cX4_begin 44 = .ok (.putfield 68, 3) := by decide +kernel
theorem dX4_begin_47 : decode cX4_begin 47 = .ok (.aload_n 0, 1) := by decide +kernel
theorem dX4_begin_48 : decode cX4_begin 48 = .ok (.iconst 0, 1) := by decide +kernel
theorem dX4_begin_49 : decode cX4_begin 49 = .ok (.putfield 71, 3) := by decide +kernel
theorem dX4_begin_52 : decode cX4_begin 52 = .ok (.aload_n 0, 1) := by decide +kernel
theorem dX4_begin_53 : decode cX4_begin 53 = .ok (.iconst 0, 1) := by decide +kernel
theorem dX4_begin_54 : decode cX4_begin 54 = .ok (.putfield 59, 3) := by decide +kernel
theorem dX4_begin_57 : decode cX4_begin 57 = .ok (.aload_n 0, 1) := by decide +kernel
theorem dX4_begin_58 : decode cX4_begin 58 = .ok (.iconst 0, 1) := by decide +kernel
theorem dX4_begin_59 : decode cX4_begin 59 = .ok (.putfield 74, 3) := by decide +kernel
theorem dX4_begin_62 : decode cX4_begin 62 = .ok (.iload_n 3, 1) := by decide +kernel
theorem dX4_begin_63 : decode cX4_begin 63 = .ok (.ireturn, 1) := by decide +kernel
theorem dX4_name_0 : decode cX4_name 0 = .ok (.iload_n 1, 1) := by decide +kernel
theorem dX4_name_1 : decode cX4_name 1 = .ok (.bipush (-100), 2) := by decide +kernel
theorem dX4_name_3 : decode cX4_name 3 = .ok (.if_icmp .lt 19, 3) := by decide +kernel
theorem dX4_name_6 : decode cX4_name 6 = .ok (.iload_n 3, 1) := by decide +kernel
theorem dX4_name_7 : decode cX4_name 7 = .ok (.bipush 100, 2) := by decide +kernel
theorem dX4_name_9 : decode cX4_name 9 = .ok (.if_icmp .gt 13, 3) := by decide +kernel
theorem dX4_name_12 : decode cX4_name 12 = .ok (.iload_n 1, 1) := by decide +kernel
theorem dX4_name_13 : decode cX4_name 13 = .ok (.iload_n 2, 1) := by decide +kernel
theorem dX4_name_14 : decode cX4_name 14 = .ok (.if_icmp .gt 8, 3) := by decide +kernel
theorem dX4_name_17 : decode cX4_name 17 = .ok (.iload_n 2, 1) := by decide +kernel
theorem dX4_name_18 : decode cX4_name 18 = .ok (.iload_n 3, 1) := by decide +kernel
theorem dX4_name_19 : decode cX4_name 19 = .ok (.if_icmp .le 6, 3) := by decide +kernel
theorem dX4_name_22 : decode cX4_name 22 = .ok (.ldc 58, 2) := by decide +kernel
theorem dX4_name_24 : decode cX4_name 24 = .ok (.ireturn, 1) := by decide +kernel
theorem dX4_name_25 : decode cX4_name 25 = .ok (.aload_n 0, 1) := by decide +kernel
theorem dX4_name_26 : decode cX4_name 26 = .ok (.getfield 65, 3) := by decide +kernel
theorem dX4_name_29 : decode cX4_name 29 = .ok (.bipush 12, 2) := by decide +kernel
theorem dX4_name_31 : decode cX4_name 31 = .ok (.if_icmp .ne 6, 3) := by decide +kernel
theorem dX4_name_34 : decode cX4_name 34 = .ok (.ldc 77, 2) := by decide +kernel
theorem dX4_name_36 : decode cX4_name 36 = .ok (.ireturn, 1) := by decide +kernel
theorem dX4_name_37 : decode cX4_name 37 = .ok (.aload_n 0, 1) := by decide +kernel
theorem dX4_name_38 : decode cX4_name 38 = .ok (.getfield 13, 3) := by decide +kernel
theorem dX4_name_41 : decode cX4_name 41 = .ok (.aload_n 0, 1) := by decide +kernel
theorem dX4_name_42 : decode cX4_name 42 = .ok (.getfield 65, 3) := by decide +kernel
theorem dX4_name_45 : decode cX4_name 45 = .ok (.iload_n 1, 1) := by decide +kernel
theorem dX4_name_46 : decode cX4_name 46 = .ok (.iastore, 1) := by decide +kernel
theorem dX4_name_47 : decode cX4_name 47 = .ok (.aload_n 0, 1) := by decide +kernel
theorem dX4_name_48 : decode cX4_name 48 = .ok (.getfield 17, 3) := by decide +kernel
theorem dX4_name_51 : decode cX4_name 51 = .ok (.aload_n 0, 1) := by decide +kernel
theorem dX4_name_52 : decode cX4_name 52 = .ok (.getfield 65, 3) := by decide +kernel
theorem dX4_name_55 : decode cX4_name 55 = .ok (.iload_n 2, 1) := by decide +kernel
theorem dX4_name_56 : decode cX4_name 56 = .ok (.iastore, 1) := by decide +kernel
theorem dX4_name_57 : decode cX4_name 57 = .ok (.aload_n 0, 1) := by decide +kernel
theorem dX4_name_58 : decode cX4_name 58 = .ok (.getfield 20, 3) := by decide +kernel
theorem dX4_name_61 : decode cX4_name 61 = .ok (.aload_n 0, 1) := by decide +kernel
theorem dX4_name_62 : decode cX4_name 62 = .ok (.getfield 65, 3) := by decide +kernel
theorem dX4_name_65 : decode cX4_name 65 = .ok (.iload_n 3, 1) := by decide +kernel
theorem dX4_name_66 : decode cX4_name 66 = .ok (.iastore, 1) := by decide +kernel
theorem dX4_name_67 : decode cX4_name 67 = .ok (.iconst 0, 1) := by decide +kernel
theorem dX4_name_68 : decode cX4_name 68 = .ok (.istore 4, 2) := by decide +kernel
theorem dX4_name_70 : decode cX4_name 70 = .ok (.iload 4, 2) := by decide +kernel
theorem dX4_name_72 : decode cX4_name 72 = .ok (.bipush 8, 2) := by decide +kernel
theorem dX4_name_74 : decode cX4_name 74 = .ok (.if_icmp .ge 25, 3) := by decide +kernel
theorem dX4_name_77 : decode cX4_name 77 = .ok (.aload_n 0, 1) := by decide +kernel
theorem dX4_name_78 : decode cX4_name 78 = .ok (.getfield 42, 3) := by decide +kernel
theorem dX4_name_81 : decode cX4_name 81 = .ok (.bipush 12, 2) := by decide +kernel
theorem dX4_name_83 : decode cX4_name 83 = .ok (.iload 4, 2) := by decide +kernel
theorem dX4_name_85 : decode cX4_name 85 = .ok (.imul, 1) := by decide +kernel
theorem dX4_name_86 : decode cX4_name 86 = .ok (.aload_n 0, 1) := by decide +kernel
theorem dX4_name_87 : decode cX4_name 87 = .ok (.getfield 65, 3) := by decide +kernel
theorem dX4_name_90 : decode cX4_name 90 = .ok (.iadd, 1) := by decide +kernel
theorem dX4_name_91 : decode cX4_name 91 = .ok (.iload_n 2, 1) := by decide +kernel
theorem dX4_name_92 : decode cX4_name 92 = .ok (.iastore, 1) := by decide +kernel
theorem dX4_name_93 : decode cX4_name 93 = .ok (.iinc 4 1, 3) := by decide +kernel
theorem dX4_name_96 : decode cX4_name 96 = .ok (.goto (-26), 3) := by decide +kernel
theorem dX4_name_99 : decode cX4_name 99 = .ok (.aload_n 0, 1) := by decide +kernel
theorem dX4_name_100 : decode cX4_name 100 = .ok (.dup, 1) := by decide +kernel
theorem dX4_name_101 : decode cX4_name 101 = .ok (.getfield 65, 3) := by decide +kernel
theorem dX4_name_104 : decode cX4_name 104 = .ok (.iconst 1, 1) := by decide +kernel
theorem dX4_name_105 : decode cX4_name 105 = .ok (.iadd, 1) := by decide +kernel
theorem dX4_name_106 : decode cX4_name 106 = .ok (.putfield 65, 3) := by decide +kernel
theorem dX4_name_109 : decode cX4_name 109 = .ok (.aload_n 0, 1) := by decide +kernel
theorem dX4_name_110 : decode cX4_name 110 = .ok (.getfield 65, 3) := by decide +kernel
theorem dX4_name_113 : decode cX4_name 113 = .ok (.iconst 1, 1) := by decide +kernel
theorem dX4_name_114 : decode cX4_name 114 = .ok (.isub, 1) := by decide +kernel
theorem dX4_name_115 : decode cX4_name 115 = .ok (.ireturn, 1) := by decide +kernel
set_option maxRecDepth 20000 in
theorem ggX4_budget_X4_in : GoodIn wsX4_budget wsX4_in := goodIn_r _ [6] (by decide +kernel) (by decide +kernel)
set_option maxRecDepth 20000 in
theorem gX4_budget_X4_in : GoodIn wsX4_budget (va_wsS RX4 54 yX4_in wsX4_in) := goodIn_app (goodIn_of _ (by decide +kernel)) ggX4_budget_X4_in
theorem dX4_budget_0 : decode cX4_budget 0 = .ok (.iload_n 1, 1) := by decide +kernel
theorem dX4_budget_1 : decode cX4_budget 1 = .ok (.iconst 0, 1) := by decide +kernel
theorem dX4_budget_2 : decode cX4_budget 2 = .ok (.bipush 12, 2) := by decide +kernel
theorem dX4_budget_4 : decode cX4_budget 4 = .ok (.invokestatic 54, 3) := by decide +kernel
theorem dX4_budget_7 : decode cX4_budget 7 = .ok (.ifCond .ne 6, 3) := by decide +kernel
theorem dX4_budget_10 : decode cX4_budget 10 = .ok (.ldc 58, 2) := by decide +kernel
theorem dX4_budget_12 : decode cX4_budget 12 = .ok (.ireturn, 1) := by decide +kernel
theorem dX4_budget_13 : decode cX4_budget 13 = .ok (.aload_n 0, 1) := by decide +kernel
theorem dX4_budget_14 : decode cX4_budget 14 = .ok (.getfield 68, 3) := by decide +kernel
theorem dX4_budget_17 : decode cX4_budget 17 = .ok (.istore_n 2, 1) := by decide +kernel
theorem dX4_budget_18 : decode cX4_budget 18 = .ok (.aload_n 0, 1) := by decide +kernel
theorem dX4_budget_19 : decode cX4_budget 19 = .ok (.iload_n 1, 1) := by decide +kernel
theorem dX4_budget_20 : decode cX4_budget 20 = .ok (.putfield 68, 3) := by decide +kernel
theorem dX4_budget_23 : decode cX4_budget 23 = .ok (.iload_n 2, 1) := by decide +kernel
theorem dX4_budget_24 : decode cX4_budget 24 = .ok (.ireturn, 1) := by decide +kernel
theorem dX4_row_0 : decode cX4_row 0 = .ok (.aload_n 0, 1) := by decide +kernel
theorem dX4_row_1 : decode cX4_row 1 = .ok (.getfield 71, 3) := by decide +kernel
theorem dX4_row_4 : decode cX4_row 4 = .ok (.bipush 10, 2) := by decide +kernel
theorem dX4_row_6 : decode cX4_row 6 = .ok (.if_icmp .ne 6, 3) := by decide +kernel
theorem dX4_row_9 : decode cX4_row 9 = .ok (.ldc 77, 2) := by decide +kernel
theorem dX4_row_11 : decode cX4_row 11 = .ok (.ireturn, 1) := by decide +kernel
theorem dX4_row_12 : decode cX4_row 12 = .ok (.aload_n 0, 1) := by decide +kernel
theorem dX4_row_13 : decode cX4_row 13 = .ok (.dup, 1) := by decide +kernel
theorem dX4_row_14 : decode cX4_row 14 = .ok (.getfield 71, 3) := by decide +kernel
theorem dX4_row_17 : decode cX4_row 17 = .ok (.iconst 1, 1) := by decide +kernel
theorem dX4_row_18 : decode cX4_row 18 = .ok (.iadd, 1) := by decide +kernel
theorem dX4_row_19 : decode cX4_row 19 = .ok (.putfield 71, 3) := by decide +kernel
theorem dX4_row_22 : decode cX4_row 22 = .ok (.aload_n 0, 1) := by decide +kernel
theorem dX4_row_23 : decode cX4_row 23 = .ok (.getfield 71, 3) := by decide +kernel
theorem dX4_row_26 : decode cX4_row 26 = .ok (.iconst 1, 1) := by decide +kernel
theorem dX4_row_27 : decode cX4_row 27 = .ok (.isub, 1) := by decide +kernel
theorem dX4_row_28 : decode cX4_row 28 = .ok (.ireturn, 1) := by decide +kernel
set_option maxRecDepth 20000 in
theorem ggX4_term_X4_in : GoodIn wsX4_term wsX4_in := goodIn_r _ [15] (by decide +kernel) (by decide +kernel)
set_option maxRecDepth 20000 in
theorem gX4_term_X4_in : GoodIn wsX4_term (va_wsS RX4 54 yX4_in wsX4_in) := goodIn_app (goodIn_of _ (by decide +kernel)) ggX4_term_X4_in
theorem dX4_term_0 : decode cX4_term 0 = .ok (.iload_n 1, 1) := by decide +kernel
theorem dX4_term_1 : decode cX4_term 1 = .ok (.iconst (-1), 1) := by decide +kernel
theorem dX4_term_2 : decode cX4_term 2 = .ok (.aload_n 0, 1) := by decide +kernel
theorem dX4_term_3 : decode cX4_term 3 = .ok (.getfield 71, 3) := by decide +kernel
theorem dX4_term_6 : decode cX4_term 6 = .ok (.iconst 1, 1) := by decide +kernel
theorem dX4_term_7 : decode cX4_term 7 = .ok (.isub, 1) := by decide +kernel
theorem dX4_term_8 : decode cX4_term 8 = .ok (.invokestatic 54, 3) := by decide +kernel
theorem dX4_term_11 : decode cX4_term 11 = .ok (.ifCond .eq 52, 3) := by decide +kernel
theorem dX4_term_14 : decode cX4_term 14 = .ok (.iload_n 2, 1) := by decide +kernel
theorem dX4_term_15 : decode cX4_term 15 = .ok (.iconst (-1), 1) := by decide +kernel
theorem dX4_term_16 : decode cX4_term 16 = .ok (.aload_n 0, 1) := by decide +kernel
theorem dX4_term_17 : decode cX4_term 17 = .ok (.getfield 7, 3) := by decide +kernel
theorem dX4_term_20 : decode cX4_term 20 = .ok (.aload_n 0, 1) := by decide +kernel
theorem dX4_term_21 : decode cX4_term 21 = .ok (.getfield 62, 3) := by decide +kernel
theorem dX4_term_24 : decode cX4_term 24 = .ok (.iadd, 1) := by decide +kernel
theorem dX4_term_25 : decode cX4_term 25 = .ok (.iconst 1, 1) := by decide +kernel
theorem dX4_term_26 : decode cX4_term 26 = .ok (.isub, 1) := by decide +kernel
theorem dX4_term_27 : decode cX4_term 27 = .ok (.invokestatic 54, 3) := by decide +kernel
theorem dX4_term_30 : decode cX4_term 30 = .ok (.ifCond .eq 33, 3) := by decide +kernel
theorem dX4_term_33 : decode cX4_term 33 = .ok (.iload_n 3, 1) := by decide +kernel
theorem dX4_term_34 : decode cX4_term 34 = .ok (.iconst (-1), 1) := by decide +kernel
theorem dX4_term_35 : decode cX4_term 35 = .ok (.aload_n 0, 1) := by decide +kernel
theorem dX4_term_36 : decode cX4_term 36 = .ok (.getfield 65, 3) := by decide +kernel
theorem dX4_term_39 : decode cX4_term 39 = .ok (.iconst 1, 1) := by decide +kernel
theorem dX4_term_40 : decode cX4_term 40 = .ok (.isub, 1) := by decide +kernel
theorem dX4_term_41 : decode cX4_term 41 = .ok (.invokestatic 54, 3) := by decide +kernel
theorem dX4_term_44 : decode cX4_term 44 = .ok (.ifCond .eq 19, 3) := by decide +kernel
theorem dX4_term_47 : decode cX4_term 47 = .ok (.iload 4, 2) := by decide +kernel
theorem dX4_term_49 : decode cX4_term 49 = .ok (.bipush (-20), 2) := by decide +kernel
theorem dX4_term_51 : decode cX4_term 51 = .ok (.bipush 20, 2) := by decide +kernel
theorem dX4_term_53 : decode cX4_term 53 = .ok (.invokestatic 54, 3) := by decide +kernel
theorem dX4_term_56 : decode cX4_term 56 = .ok (.ifCond .eq 7, 3) := by decide +kernel
theorem dX4_term_59 : decode cX4_term 59 = .ok (.iconst 1, 1) := by decide +kernel
theorem dX4_term_60 : decode cX4_term 60 = .ok (.goto 4, 3) := by decide +kernel
theorem dX4_term_63 : decode cX4_term 63 = .ok (.iconst 0, 1) := by decide +kernel
theorem dX4_term_64 : decode cX4_term 64 = .ok (.istore 5, 2) := by decide +kernel
theorem dX4_term_66 : decode cX4_term 66 = .ok (.iload 5, 2) := by decide +kernel
theorem dX4_term_68 : decode cX4_term 68 = .ok (.ifCond .ne 6, 3) := by decide +kernel
theorem dX4_term_71 : decode cX4_term 71 = .ok (.ldc 58, 2) := by decide +kernel
theorem dX4_term_73 : decode cX4_term 73 = .ok (.ireturn, 1) := by decide +kernel
theorem dX4_term_74 : decode cX4_term 74 = .ok (.aload_n 0, 1) := by decide +kernel
theorem dX4_term_75 : decode cX4_term 75 = .ok (.getfield 59, 3) := by decide +kernel
theorem dX4_term_78 : decode cX4_term 78 = .ok (.bipush 40, 2) := by decide +kernel
theorem dX4_term_80 : decode cX4_term 80 = .ok (.if_icmp .ne 6, 3) := by decide +kernel
theorem dX4_term_83 : decode cX4_term 83 = .ok (.ldc 77, 2) := by decide +kernel
theorem dX4_term_85 : decode cX4_term 85 = .ok (.ireturn, 1) := by decide +kernel
theorem dX4_term_86 : decode cX4_term 86 = .ok (.aload_n 0, 1) := by decide +kernel
theorem dX4_term_87 : decode cX4_term 87 = .ok (.getfield 23, 3) := by decide +kernel
theorem dX4_term_90 : decode cX4_term 90 = .ok (.aload_n 0, 1) := by decide +kernel
theorem dX4_term_91 : decode cX4_term 91 = .ok (.getfield 59, 3) := by decide +kernel
theorem dX4_term_94 : decode cX4_term 94 = .ok (.iload_n 1, 1) := by decide +kernel
theorem dX4_term_95 : decode cX4_term 95 = .ok (.iastore, 1) := by decide +kernel
theorem dX4_term_96 : decode cX4_term 96 = .ok (.aload_n 0, 1) := by decide +kernel
theorem dX4_term_97 : decode cX4_term 97 = .ok (.getfield 26, 3) := by decide +kernel
theorem dX4_term_100 : decode cX4_term 100 = .ok (.aload_n 0, 1) := by decide +kernel
theorem dX4_term_101 : decode cX4_term 101 = .ok (.getfield 59, 3) := by decide +kernel
theorem dX4_term_104 : decode cX4_term 104 = .ok (.iload_n 2, 1) := by decide +kernel
theorem dX4_term_105 : decode cX4_term 105 = .ok (.iastore, 1) := by decide +kernel
theorem dX4_term_106 : decode cX4_term 106 = .ok (.aload_n 0, 1) := by decide +kernel
theorem dX4_term_107 : decode cX4_term 107 = .ok (.getfield 29, 3) := by decide +kernel
theorem dX4_term_110 : decode cX4_term 110 = .ok (.aload_n 0, 1) := by decide +kernel
theorem dX4_term_111 : decode cX4_term 111 = .ok (.getfield 59, 3) := by decide +kernel
theorem dX4_term_114 : decode cX4_term 114 = .ok (.iload_n 3, 1) := by decide +kernel
theorem dX4_term_115 : decode cX4_term 115 = .ok (.iastore, 1) := by decide +kernel
theorem dX4_term_116 : decode cX4_term 116 = .ok (.aload_n 0, 1) := by decide +kernel
theorem dX4_term_117 : decode cX4_term 117 = .ok (.getfield 32, 3) := by decide +kernel
theorem dX4_term_120 : decode cX4_term 120 = .ok (.aload_n 0, 1) := by decide +kernel
theorem dX4_term_121 : decode cX4_term 121 = .ok (.getfield 59, 3) := by decide +kernel
theorem dX4_term_124 : decode cX4_term 124 = .ok (.iload 4, 2) := by decide +kernel
theorem dX4_term_126 : decode cX4_term 126 = .ok (.iastore, 1) := by decide +kernel
theorem dX4_term_127 : decode cX4_term 127 = .ok (.aload_n 0, 1) := by decide +kernel
theorem dX4_term_128 : decode cX4_term 128 = .ok (.dup, 1) := by decide +kernel
theorem dX4_term_129 : decode cX4_term 129 = .ok (.getfield 59, 3) := by decide +kernel
theorem dX4_term_132 : decode cX4_term 132 = .ok (.iconst 1, 1) := by decide +kernel
theorem dX4_term_133 : decode cX4_term 133 = .ok (.iadd, 1) := by decide +kernel
theorem dX4_term_134 : decode cX4_term 134 = .ok (.putfield 59, 3) := by decide +kernel
theorem dX4_term_137 : decode cX4_term 137 = .ok (.aload_n 0, 1) := by decide +kernel
theorem dX4_term_138 : decode cX4_term 138 = .ok (.getfield 59, 3) := by decide +kernel
theorem dX4_term_141 : decode cX4_term 141 = .ok (.ireturn, 1) := by decide +kernel
set_option maxRecDepth 20000 in
theorem ggX4_future_X4_in : GoodIn wsX4_future wsX4_in := goodIn_r _ [12] (by decide +kernel) (by decide +kernel)
set_option maxRecDepth 20000 in
theorem gX4_future_X4_in : GoodIn wsX4_future (va_wsS RX4 54 yX4_in wsX4_in) := goodIn_app (goodIn_of _ (by decide +kernel)) ggX4_future_X4_in
theorem dX4_future_0 : decode cX4_future 0 = .ok (.iload_n 1, 1) := by decide +kernel
theorem dX4_future_1 : decode cX4_future 1 = .ok (.iconst 1, 1) := by decide +kernel
theorem dX4_future_2 : decode cX4_future 2 = .ok (.bipush 100, 2) := by decide +kernel
theorem dX4_future_4 : decode cX4_future 4 = .ok (.invokestatic 54, 3) := by decide +kernel
theorem dX4_future_7 : decode cX4_future 7 = .ok (.ifCond .ne 6, 3) := by decide +kernel
theorem dX4_future_10 : decode cX4_future 10 = .ok (.ldc 58, 2) := by decide +kernel
theorem dX4_future_12 : decode cX4_future 12 = .ok (.ireturn, 1) := by decide +kernel
theorem dX4_future_13 : decode cX4_future 13 = .ok (.aload_n 0, 1) := by decide +kernel
theorem dX4_future_14 : decode cX4_future 14 = .ok (.getfield 74, 3) := by decide +kernel
theorem dX4_future_17 : decode cX4_future 17 = .ok (.bipush 8, 2) := by decide +kernel
theorem dX4_future_19 : decode cX4_future 19 = .ok (.if_icmp .ne 6, 3) := by decide +kernel
theorem dX4_future_22 : decode cX4_future 22 = .ok (.ldc 77, 2) := by decide +kernel
theorem dX4_future_24 : decode cX4_future 24 = .ok (.ireturn, 1) := by decide +kernel
theorem dX4_future_25 : decode cX4_future 25 = .ok (.aload_n 0, 1) := by decide +kernel
theorem dX4_future_26 : decode cX4_future 26 = .ok (.getfield 35, 3) := by decide +kernel
theorem dX4_future_29 : decode cX4_future 29 = .ok (.aload_n 0, 1) := by decide +kernel
theorem dX4_future_30 : decode cX4_future 30 = .ok (.getfield 74, 3) := by decide +kernel
theorem dX4_future_33 : decode cX4_future 33 = .ok (.iload_n 1, 1) := by decide +kernel
theorem dX4_future_34 : decode cX4_future 34 = .ok (.iastore, 1) := by decide +kernel
theorem dX4_future_35 : decode cX4_future 35 = .ok (.aload_n 0, 1) := by decide +kernel
theorem dX4_future_36 : decode cX4_future 36 = .ok (.getfield 38, 3) := by decide +kernel
theorem dX4_future_39 : decode cX4_future 39 = .ok (.aload_n 0, 1) := by decide +kernel
theorem dX4_future_40 : decode cX4_future 40 = .ok (.getfield 74, 3) := by decide +kernel
theorem dX4_future_43 : decode cX4_future 43 = .ok (.iload_n 2, 1) := by decide +kernel
theorem dX4_future_44 : decode cX4_future 44 = .ok (.bastore, 1) := by decide +kernel
theorem dX4_future_45 : decode cX4_future 45 = .ok (.iconst 0, 1) := by decide +kernel
theorem dX4_future_46 : decode cX4_future 46 = .ok (.istore_n 3, 1) := by decide +kernel
theorem dX4_future_47 : decode cX4_future 47 = .ok (.iload_n 3, 1) := by decide +kernel
theorem dX4_future_48 : decode cX4_future 48 = .ok (.aload_n 0, 1) := by decide +kernel
theorem dX4_future_49 : decode cX4_future 49 = .ok (.getfield 65, 3) := by decide +kernel
theorem dX4_future_52 : decode cX4_future 52 = .ok (.if_icmp .ge 29, 3) := by decide +kernel
theorem dX4_future_55 : decode cX4_future 55 = .ok (.aload_n 0, 1) := by decide +kernel
theorem dX4_future_56 : decode cX4_future 56 = .ok (.getfield 42, 3) := by decide +kernel
theorem dX4_future_59 : decode cX4_future 59 = .ok (.bipush 12, 2) := by decide +kernel
theorem dX4_future_61 : decode cX4_future 61 = .ok (.aload_n 0, 1) := by decide +kernel
theorem dX4_future_62 : decode cX4_future 62 = .ok (.getfield 74, 3) := by decide +kernel
theorem dX4_future_65 : decode cX4_future 65 = .ok (.imul, 1) := by decide +kernel
theorem dX4_future_66 : decode cX4_future 66 = .ok (.iload_n 3, 1) := by decide +kernel
theorem dX4_future_67 : decode cX4_future 67 = .ok (.iadd, 1) := by decide +kernel
theorem dX4_future_68 : decode cX4_future 68 = .ok (.aload_n 0, 1) := by decide +kernel
theorem dX4_future_69 : decode cX4_future 69 = .ok (.getfield 17, 3) := by decide +kernel
theorem dX4_future_72 : decode cX4_future 72 = .ok (.iload_n 3, 1) := by decide +kernel
theorem dX4_future_73 : decode cX4_future 73 = .ok (.iaload, 1) := by decide +kernel
theorem dX4_future_74 : decode cX4_future 74 = .ok (.iastore, 1) := by decide +kernel
theorem dX4_future_75 : decode cX4_future 75 = .ok (.iinc 3 1, 3) := by decide +kernel
theorem dX4_future_78 : decode cX4_future 78 = .ok (.goto (-31), 3) := by decide +kernel
theorem dX4_future_81 : decode cX4_future 81 = .ok (.aload_n 0, 1) := by decide +kernel
theorem dX4_future_82 : decode cX4_future 82 = .ok (.dup, 1) := by decide +kernel
theorem dX4_future_83 : decode cX4_future 83 = .ok (.getfield 74, 3) := by decide +kernel
theorem dX4_future_86 : decode cX4_future 86 = .ok (.iconst 1, 1) := by decide +kernel
theorem dX4_future_87 : decode cX4_future 87 = .ok (.iadd, 1) := by decide +kernel
theorem dX4_future_88 : decode cX4_future 88 = .ok (.putfield 74, 3) := by decide +kernel
theorem dX4_future_91 : decode cX4_future 91 = .ok (.aload_n 0, 1) := by decide +kernel
theorem dX4_future_92 : decode cX4_future 92 = .ok (.getfield 74, 3) := by decide +kernel
theorem dX4_future_95 : decode cX4_future 95 = .ok (.iconst 1, 1) := by decide +kernel
theorem dX4_future_96 : decode cX4_future 96 = .ok (.isub, 1) := by decide +kernel
theorem dX4_future_97 : decode cX4_future 97 = .ok (.ireturn, 1) := by decide +kernel
set_option maxRecDepth 20000 in
theorem ggX4_set_X4_in : GoodIn wsX4_set wsX4_in := goodIn_r _ [10] (by decide +kernel) (by decide +kernel)
set_option maxRecDepth 20000 in
theorem gX4_set_X4_in : GoodIn wsX4_set (va_wsS RX4 54 yX4_in wsX4_in) := goodIn_app (goodIn_of _ (by decide +kernel)) ggX4_set_X4_in
theorem dX4_set_0 : decode cX4_set 0 = .ok (.iload_n 1, 1) := by decide +kernel
theorem dX4_set_1 : decode cX4_set 1 = .ok (.iconst 0, 1) := by decide +kernel
theorem dX4_set_2 : decode cX4_set 2 = .ok (.aload_n 0, 1) := by decide +kernel
theorem dX4_set_3 : decode cX4_set 3 = .ok (.getfield 74, 3) := by decide +kernel
theorem dX4_set_6 : decode cX4_set 6 = .ok (.iconst 1, 1) := by decide +kernel
theorem dX4_set_7 : decode cX4_set 7 = .ok (.isub, 1) := by decide +kernel
theorem dX4_set_8 : decode cX4_set 8 = .ok (.invokestatic 54, 3) := by decide +kernel
theorem dX4_set_11 : decode cX4_set 11 = .ok (.ifCond .eq 36, 3) := by decide +kernel
theorem dX4_set_14 : decode cX4_set 14 = .ok (.iload_n 2, 1) := by decide +kernel
theorem dX4_set_15 : decode cX4_set 15 = .ok (.iconst 0, 1) := by decide +kernel
theorem dX4_set_16 : decode cX4_set 16 = .ok (.aload_n 0, 1) := by decide +kernel
theorem dX4_set_17 : decode cX4_set 17 = .ok (.getfield 65, 3) := by decide +kernel
theorem dX4_set_20 : decode cX4_set 20 = .ok (.iconst 1, 1) := by decide +kernel
theorem dX4_set_21 : decode cX4_set 21 = .ok (.isub, 1) := by decide +kernel
theorem dX4_set_22 : decode cX4_set 22 = .ok (.invokestatic 54, 3) := by decide +kernel
theorem dX4_set_25 : decode cX4_set 25 = .ok (.ifCond .eq 22, 3) := by decide +kernel
theorem dX4_set_28 : decode cX4_set 28 = .ok (.iload_n 3, 1) := by decide +kernel
theorem dX4_set_29 : decode cX4_set 29 = .ok (.aload_n 0, 1) := by decide +kernel
theorem dX4_set_30 : decode cX4_set 30 = .ok (.getfield 13, 3) := by decide +kernel
theorem dX4_set_33 : decode cX4_set 33 = .ok (.iload_n 2, 1) := by decide +kernel
theorem dX4_set_34 : decode cX4_set 34 = .ok (.iaload, 1) := by decide +kernel
theorem dX4_set_35 : decode cX4_set 35 = .ok (.aload_n 0, 1) := by decide +kernel
theorem dX4_set_36 : decode cX4_set 36 = .ok (.getfield 20, 3) := by decide +kernel
theorem dX4_set_39 : decode cX4_set 39 = .ok (.iload_n 2, 1) := by decide +kernel
theorem dX4_set_40 : decode cX4_set 40 = .ok (.iaload, 1) := by decide +kernel
theorem dX4_set_41 : decode cX4_set 41 = .ok (.invokestatic 54, 3) := by decide +kernel
theorem dX4_set_44 : decode cX4_set 44 = .ok (.ifCond .ne 6, 3) := by decide +kernel
theorem dX4_set_47 : decode cX4_set 47 = .ok (.ldc 58, 2) := by decide +kernel
theorem dX4_set_49 : decode cX4_set 49 = .ok (.ireturn, 1) := by decide +kernel
theorem dX4_set_50 : decode cX4_set 50 = .ok (.aload_n 0, 1) := by decide +kernel
theorem dX4_set_51 : decode cX4_set 51 = .ok (.getfield 42, 3) := by decide +kernel
theorem dX4_set_54 : decode cX4_set 54 = .ok (.bipush 12, 2) := by decide +kernel
theorem dX4_set_56 : decode cX4_set 56 = .ok (.iload_n 1, 1) := by decide +kernel
theorem dX4_set_57 : decode cX4_set 57 = .ok (.imul, 1) := by decide +kernel
theorem dX4_set_58 : decode cX4_set 58 = .ok (.iload_n 2, 1) := by decide +kernel
theorem dX4_set_59 : decode cX4_set 59 = .ok (.iadd, 1) := by decide +kernel
theorem dX4_set_60 : decode cX4_set 60 = .ok (.iaload, 1) := by decide +kernel
theorem dX4_set_61 : decode cX4_set 61 = .ok (.istore 4, 2) := by decide +kernel
theorem dX4_set_63 : decode cX4_set 63 = .ok (.aload_n 0, 1) := by decide +kernel
theorem dX4_set_64 : decode cX4_set 64 = .ok (.getfield 42, 3) := by decide +kernel
theorem dX4_set_67 : decode cX4_set 67 = .ok (.bipush 12, 2) := by decide +kernel
theorem dX4_set_69 : decode cX4_set 69 = .ok (.iload_n 1, 1) := by decide +kernel
theorem dX4_set_70 : decode cX4_set 70 = .ok (.imul, 1) := by decide +kernel
theorem dX4_set_71 : decode cX4_set 71 = .ok (.iload_n 2, 1) := by decide +kernel
theorem dX4_set_72 : decode cX4_set 72 = .ok (.iadd, 1) := by decide +kernel
theorem dX4_set_73 : decode cX4_set 73 = .ok (.iload_n 3, 1) := by decide +kernel
theorem dX4_set_74 : decode cX4_set 74 = .ok (.iastore, 1) := by decide +kernel
theorem dX4_set_75 : decode cX4_set 75 = .ok (.iload 4, 2) := by decide +kernel
theorem dX4_set_77 : decode cX4_set 77 = .ok (.ireturn, 1) := by decide +kernel
theorem dX4_counted_0 : decode cX4_counted 0 = .ok (.iconst 0, 1) := by decide +kernel
theorem dX4_counted_1 : decode cX4_counted 1 = .ok (.istore_n 1, 1) := by decide +kernel
theorem dX4_counted_2 : decode cX4_counted 2 = .ok (.iconst 0, 1) := by decide +kernel
theorem dX4_counted_3 : decode cX4_counted 3 = .ok (.istore_n 2, 1) := by decide +kernel
theorem dX4_counted_4 : decode cX4_counted 4 = .ok (.iload_n 2, 1) := by decide +kernel
theorem dX4_counted_5 : decode cX4_counted 5 = .ok (.aload_n 0, 1) := by decide +kernel
theorem dX4_counted_6 : decode cX4_counted 6 = .ok (.getfield 74, 3) := by decide +kernel
theorem dX4_counted_9 : decode cX4_counted 9 = .ok (.if_icmp .ge 26, 3) := by decide +kernel
theorem dX4_counted_12 : decode cX4_counted 12 = .ok (.iload_n 1, 1) := by decide +kernel
theorem dX4_counted_13 : decode cX4_counted 13 = .ok (.aload_n 0, 1) := by decide +kernel
theorem dX4_counted_14 : decode cX4_counted 14 = .ok (.getfield 38, 3) := by decide +kernel
theorem dX4_counted_17 : decode cX4_counted 17 = .ok (.iload_n 2, 1) := by decide +kernel
theorem dX4_counted_18 : decode cX4_counted 18 = .ok (.baload, 1) := by decide +kernel
theorem dX4_counted_19 : decode cX4_counted 19 = .ok (.ifCond .eq 7, 3) := by decide +kernel
theorem dX4_counted_22 : decode cX4_counted 22 = .ok (.iconst 0, 1) := by decide +kernel
theorem dX4_counted_23 : decode cX4_counted 23 = .ok (.goto 4, 3) := by decide +kernel
theorem dX4_counted_26 : decode cX4_counted 26 = .ok (.iconst 1, 1) := by decide +kernel
theorem dX4_counted_27 : decode cX4_counted 27 = .ok (.iadd, 1) := by decide +kernel
theorem dX4_counted_28 : decode cX4_counted 28 = .ok (.istore_n 1, 1) := by decide +kernel
theorem dX4_counted_29 : decode cX4_counted 29 = .ok (.iinc 2 1, 3) := by decide +kernel
theorem dX4_counted_32 : decode cX4_counted 32 = .ok (.goto (-28), 3) := by decide +kernel
theorem dX4_counted_35 : decode cX4_counted 35 = .ok (.iload_n 1, 1) := by decide +kernel
theorem dX4_counted_36 : decode cX4_counted 36 = .ok (.ireturn, 1) := by decide +kernel
set_option maxRecDepth 20000 in
theorem ggX4_told_X4_counted : GoodIn wsX4_told wsX4_counted := goodIn_r _ [13, 4, 14, 15, 16, 17, 18, 19, 20, 21, 22, 23, 24, 25, 26, 27, 28, 29, 30, 31, 32, 33, 34] (by decide +kernel) (by decide +kernel)
set_option maxRecDepth 20000 in
theorem gX4_told_X4_counted : GoodIn wsX4_told (wsV RX4 78 RX4 yX4_counted wsX4_counted) := goodIn_app (goodIn_of _ (by decide +kernel)) ggX4_told_X4_counted
theorem dX4_told_0 : decode cX4_told 0 = .ok (.iload_n 1, 1) := by decide +kernel
theorem dX4_told_1 : decode cX4_told 1 = .ok (.tableswitch 87 0 7 #[47, 52, 57, 62, 67, 72, 77, 82], 47) := by decide +kernel
theorem dX4_told_48 : decode cX4_told 48 = .ok (.aload_n 0, 1) := by decide +kernel
theorem dX4_told_49 : decode cX4_told 49 = .ok (.getfield 65, 3) := by decide +kernel
theorem dX4_told_52 : decode cX4_told 52 = .ok (.ireturn, 1) := by decide +kernel
theorem dX4_told_53 : decode cX4_told 53 = .ok (.aload_n 0, 1) := by decide +kernel
theorem dX4_told_54 : decode cX4_told 54 = .ok (.getfield 71, 3) := by decide +kernel
theorem dX4_told_57 : decode cX4_told 57 = .ok (.ireturn, 1) := by decide +kernel
theorem dX4_told_58 : decode cX4_told 58 = .ok (.aload_n 0, 1) := by decide +kernel
theorem dX4_told_59 : decode cX4_told 59 = .ok (.getfield 59, 3) := by decide +kernel
theorem dX4_told_62 : decode cX4_told 62 = .ok (.ireturn, 1) := by decide +kernel
theorem dX4_told_63 : decode cX4_told 63 = .ok (.aload_n 0, 1) := by decide +kernel
theorem dX4_told_64 : decode cX4_told 64 = .ok (.getfield 74, 3) := by decide +kernel
theorem dX4_told_67 : decode cX4_told 67 = .ok (.ireturn, 1) := by decide +kernel
theorem dX4_told_68 : decode cX4_told 68 = .ok (.aload_n 0, 1) := by decide +kernel
theorem dX4_told_69 : decode cX4_told 69 = .ok (.invokevirtual 78, 3) := by decide +kernel
theorem dX4_told_72 : decode cX4_told 72 = .ok (.ireturn, 1) := by decide +kernel
theorem dX4_told_73 : decode cX4_told 73 = .ok (.aload_n 0, 1) := by decide +kernel
theorem dX4_told_74 : decode cX4_told 74 = .ok (.getfield 7, 3) := by decide +kernel
theorem dX4_told_77 : decode cX4_told 77 = .ok (.ireturn, 1) := by decide +kernel
theorem dX4_told_78 : decode cX4_told 78 = .ok (.aload_n 0, 1) := by decide +kernel
theorem dX4_told_79 : decode cX4_told 79 = .ok (.getfield 62, 3) := by decide +kernel
theorem dX4_told_82 : decode cX4_told 82 = .ok (.ireturn, 1) := by decide +kernel
theorem dX4_told_83 : decode cX4_told 83 = .ok (.aload_n 0, 1) := by decide +kernel
theorem dX4_told_84 : decode cX4_told 84 = .ok (.getfield 68, 3) := by decide +kernel
theorem dX4_told_87 : decode cX4_told 87 = .ok (.ireturn, 1) := by decide +kernel
theorem dX4_told_88 : decode cX4_told 88 = .ok (.ldc 58, 2) := by decide +kernel
theorem dX4_told_90 : decode cX4_told 90 = .ok (.ireturn, 1) := by decide +kernel
set_option maxRecDepth 20000 in
theorem ggX4_isPlan_X4_in : GoodIn wsX4_isPlan wsX4_in := goodIn_r _ [6] (by decide +kernel) (by decide +kernel)
set_option maxRecDepth 20000 in
theorem gX4_isPlan_X4_in : GoodIn wsX4_isPlan (va_wsS RX4 54 yX4_in wsX4_in) := goodIn_app (goodIn_of _ (by decide +kernel)) ggX4_isPlan_X4_in
theorem dX4_isPlan_0 : decode cX4_isPlan 0 = .ok (.iload_n 1, 1) := by decide +kernel
theorem dX4_isPlan_1 : decode cX4_isPlan 1 = .ok (.iconst 0, 1) := by decide +kernel
theorem dX4_isPlan_2 : decode cX4_isPlan 2 = .ok (.iconst 1, 1) := by decide +kernel
theorem dX4_isPlan_3 : decode cX4_isPlan 3 = .ok (.aload_n 0, 1) := by decide +kernel
theorem dX4_isPlan_4 : decode cX4_isPlan 4 = .ok (.getfield 7, 3) := by decide +kernel
theorem dX4_isPlan_7 : decode cX4_isPlan 7 = .ok (.aload_n 0, 1) := by decide +kernel
theorem dX4_isPlan_8 : decode cX4_isPlan 8 = .ok (.getfield 62, 3) := by decide +kernel
theorem dX4_isPlan_11 : decode cX4_isPlan 11 = .ok (.iadd, 1) := by decide +kernel
theorem dX4_isPlan_12 : decode cX4_isPlan 12 = .ok (.ishl, 1) := by decide +kernel
theorem dX4_isPlan_13 : decode cX4_isPlan 13 = .ok (.iconst 1, 1) := by decide +kernel
theorem dX4_isPlan_14 : decode cX4_isPlan 14 = .ok (.isub, 1) := by decide +kernel
theorem dX4_isPlan_15 : decode cX4_isPlan 15 = .ok (.invokestatic 54, 3) := by decide +kernel
theorem dX4_isPlan_18 : decode cX4_isPlan 18 = .ok (.ireturn, 1) := by decide +kernel
theorem dX4_isOn_0 : decode cX4_isOn 0 = .ok (.aload_n 0, 1) := by decide +kernel
theorem dX4_isOn_1 : decode cX4_isOn 1 = .ok (.getfield 23, 3) := by decide +kernel
theorem dX4_isOn_4 : decode cX4_isOn 4 = .ok (.iload_n 1, 1) := by decide +kernel
theorem dX4_isOn_5 : decode cX4_isOn 5 = .ok (.iaload, 1) := by decide +kernel
theorem dX4_isOn_6 : decode cX4_isOn 6 = .ok (.iload_n 3, 1) := by decide +kernel
theorem dX4_isOn_7 : decode cX4_isOn 7 = .ok (.if_icmp .ne 30, 3) := by decide +kernel
theorem dX4_isOn_10 : decode cX4_isOn 10 = .ok (.aload_n 0, 1) := by decide +kernel
theorem dX4_isOn_11 : decode cX4_isOn 11 = .ok (.getfield 26, 3) := by decide +kernel
theorem dX4_isOn_14 : decode cX4_isOn 14 = .ok (.iload_n 1, 1) := by decide +kernel
theorem dX4_isOn_15 : decode cX4_isOn 15 = .ok (.iaload, 1) := by decide +kernel
theorem dX4_isOn_16 : decode cX4_isOn 16 = .ok (.ifCond .lt 17, 3) := by decide +kernel
theorem dX4_isOn_19 : decode cX4_isOn 19 = .ok (.iload_n 2, 1) := by decide +kernel
theorem dX4_isOn_20 : decode cX4_isOn 20 = .ok (.aload_n 0, 1) := by decide +kernel
theorem dX4_isOn_21 : decode cX4_isOn 21 = .ok (.getfield 26, 3) := by decide +kernel
theorem dX4_isOn_24 : decode cX4_isOn 24 = .ok (.iload_n 1, 1) := by decide +kernel
theorem dX4_isOn_25 : decode cX4_isOn 25 = .ok (.iaload, 1) := by decide +kernel
theorem dX4_isOn_26 : decode cX4_isOn 26 = .ok (.ishr, 1) := by decide +kernel
theorem dX4_isOn_27 : decode cX4_isOn 27 = .ok (.iconst 1, 1) := by decide +kernel
theorem dX4_isOn_28 : decode cX4_isOn 28 = .ok (.iand, 1) := by decide +kernel
theorem dX4_isOn_29 : decode cX4_isOn 29 = .ok (.iconst 1, 1) := by decide +kernel
theorem dX4_isOn_30 : decode cX4_isOn 30 = .ok (.if_icmp .ne 7, 3) := by decide +kernel
theorem dX4_isOn_33 : decode cX4_isOn 33 = .ok (.iconst 1, 1) := by decide +kernel
theorem dX4_isOn_34 : decode cX4_isOn 34 = .ok (.goto 4, 3) := by decide +kernel
theorem dX4_isOn_37 : decode cX4_isOn 37 = .ok (.iconst 0, 1) := by decide +kernel
theorem dX4_isOn_38 : decode cX4_isOn 38 = .ok (.ireturn, 1) := by decide +kernel
set_option maxRecDepth 20000 in
theorem ggX4_sum_X4_isOn : GoodIn wsX4_sum wsX4_isOn := goodIn_r _ [10, 11, 12, 13, 14, 15, 16, 17, 18, 19, 20, 21, 22, 23, 24, 25, 26, 27, 28, 29, 30, 31, 32] (by decide +kernel) (by decide +kernel)
set_option maxRecDepth 20000 in
theorem gX4_sum_X4_isOn : GoodIn wsX4_sum (wsV RX4 82 RX4 yX4_isOn wsX4_isOn) := goodIn_app (goodIn_of _ (by decide +kernel)) ggX4_sum_X4_isOn
theorem dX4_sum_0 : decode cX4_sum 0 = .ok (.iconst 0, 1) := by decide +kernel
theorem dX4_sum_1 : decode cX4_sum 1 = .ok (.istore 4, 2) := by decide +kernel
theorem dX4_sum_3 : decode cX4_sum 3 = .ok (.iconst 0, 1) := by decide +kernel
theorem dX4_sum_4 : decode cX4_sum 4 = .ok (.istore 5, 2) := by decide +kernel
theorem dX4_sum_6 : decode cX4_sum 6 = .ok (.iload 5, 2) := by decide +kernel
theorem dX4_sum_8 : decode cX4_sum 8 = .ok (.aload_n 0, 1) := by decide +kernel
theorem dX4_sum_9 : decode cX4_sum 9 = .ok (.getfield 59, 3) := by decide +kernel
theorem dX4_sum_12 : decode cX4_sum 12 = .ok (.if_icmp .ge 81, 3) := by decide +kernel
theorem dX4_sum_15 : decode cX4_sum 15 = .ok (.aload_n 0, 1) := by decide +kernel
theorem dX4_sum_16 : decode cX4_sum 16 = .ok (.iload 5, 2) := by decide +kernel
theorem dX4_sum_18 : decode cX4_sum 18 = .ok (.iload_n 1, 1) := by decide +kernel
theorem dX4_sum_19 : decode cX4_sum 19 = .ok (.iload_n 2, 1) := by decide +kernel
theorem dX4_sum_20 : decode cX4_sum 20 = .ok (.invokevirtual 82, 3) := by decide +kernel
theorem dX4_sum_23 : decode cX4_sum 23 = .ok (.ifCond .eq 64, 3) := by decide +kernel
theorem dX4_sum_26 : decode cX4_sum 26 = .ok (.aload_n 0, 1) := by decide +kernel
theorem dX4_sum_27 : decode cX4_sum 27 = .ok (.getfield 29, 3) := by decide +kernel
theorem dX4_sum_30 : decode cX4_sum 30 = .ok (.iload 5, 2) := by decide +kernel
theorem dX4_sum_32 : decode cX4_sum 32 = .ok (.iaload, 1) := by decide +kernel
theorem dX4_sum_33 : decode cX4_sum 33 = .ok (.istore 6, 2) := by decide +kernel
theorem dX4_sum_35 : decode cX4_sum 35 = .ok (.iload 6, 2) := by decide +kernel
theorem dX4_sum_37 : decode cX4_sum 37 = .ok (.ifCond .ge 7, 3) := by decide +kernel
theorem dX4_sum_40 : decode cX4_sum 40 = .ok (.iconst 1, 1) := by decide +kernel
theorem dX4_sum_41 : decode cX4_sum 41 = .ok (.goto 29, 3) := by decide +kernel
theorem dX4_sum_44 : decode cX4_sum 44 = .ok (.iload_n 3, 1) := by decide +kernel
theorem dX4_sum_45 : decode cX4_sum 45 = .ok (.ifCond .ge 13, 3) := by decide +kernel
theorem dX4_sum_48 : decode cX4_sum 48 = .ok (.aload_n 0, 1) := by decide +kernel
theorem dX4_sum_49 : decode cX4_sum 49 = .ok (.getfield 17, 3) := by decide +kernel
theorem dX4_sum_52 : decode cX4_sum 52 = .ok (.iload 6, 2) := by decide +kernel
theorem dX4_sum_54 : decode cX4_sum 54 = .ok (.iaload, 1) := by decide +kernel
theorem dX4_sum_55 : decode cX4_sum 55 = .ok (.goto 15, 3) := by decide +kernel
theorem dX4_sum_58 : decode cX4_sum 58 = .ok (.aload_n 0, 1) := by decide +kernel
theorem dX4_sum_59 : decode cX4_sum 59 = .ok (.getfield 42, 3) := by decide +kernel
theorem dX4_sum_62 : decode cX4_sum 62 = .ok (.bipush 12, 2) := by decide +kernel
theorem dX4_sum_64 : decode cX4_sum 64 = .ok (.iload_n 3, 1) := by decide +kernel
theorem dX4_sum_65 : decode cX4_sum 65 = .ok (.imul, 1) := by decide +kernel
theorem dX4_sum_66 : decode cX4_sum 66 = .ok (.iload 6, 2) := by decide +kernel
theorem dX4_sum_68 : decode cX4_sum 68 = .ok (.iadd, 1) := by decide +kernel
theorem dX4_sum_69 : decode cX4_sum 69 = .ok (.iaload, 1) := by decide +kernel
theorem dX4_sum_70 : decode cX4_sum 70 = .ok (.istore 7, 2) := by decide +kernel
theorem dX4_sum_72 : decode cX4_sum 72 = .ok (.iload 4, 2) := by decide +kernel
theorem dX4_sum_74 : decode cX4_sum 74 = .ok (.aload_n 0, 1) := by decide +kernel
theorem dX4_sum_75 : decode cX4_sum 75 = .ok (.getfield 32, 3) := by decide +kernel
theorem dX4_sum_78 : decode cX4_sum 78 = .ok (.iload 5, 2) := by decide +kernel
theorem dX4_sum_80 : decode cX4_sum 80 = .ok (.iaload, 1) := by decide +kernel
theorem dX4_sum_81 : decode cX4_sum 81 = .ok (.iload 7, 2) := by decide +kernel
theorem dX4_sum_83 : decode cX4_sum 83 = .ok (.imul, 1) := by decide +kernel
theorem dX4_sum_84 : decode cX4_sum 84 = .ok (.iadd, 1) := by decide +kernel
theorem dX4_sum_85 : decode cX4_sum 85 = .ok (.istore 4, 2) := by decide +kernel
theorem dX4_sum_87 : decode cX4_sum 87 = .ok (.iinc 5 1, 3) := by decide +kernel
theorem dX4_sum_90 : decode cX4_sum 90 = .ok (.goto (-84), 3) := by decide +kernel
theorem dX4_sum_93 : decode cX4_sum 93 = .ok (.iload 4, 2) := by decide +kernel
theorem dX4_sum_95 : decode cX4_sum 95 = .ok (.ireturn, 1) := by decide +kernel
set_option maxRecDepth 20000 in
theorem ggX4_comes_X4_isPlan : GoodIn wsX4_comes wsX4_isPlan := goodIn_r _ [8, 9, 10, 11, 12, 7, 13, 29, 30, 31, 32, 33, 34, 35, 36, 37, 38, 39, 40, 41, 42, 43, 44, 45, 46, 47, 48] (by decide +kernel) (by decide +kernel)
set_option maxRecDepth 20000 in
theorem gX4_comes_X4_isPlan : GoodIn wsX4_comes (wsV RX4 85 RX4 yX4_isPlan wsX4_isPlan) := goodIn_app (goodIn_of _ (by decide +kernel)) ggX4_comes_X4_isPlan
set_option maxRecDepth 20000 in
theorem ggX4_comes_X4_in : GoodIn wsX4_comes wsX4_in := goodIn_r _ [13] (by decide +kernel) (by decide +kernel)
set_option maxRecDepth 20000 in
theorem gX4_comes_X4_in : GoodIn wsX4_comes (va_wsS RX4 54 yX4_in wsX4_in) := goodIn_app (goodIn_of _ (by decide +kernel)) ggX4_comes_X4_in
set_option maxRecDepth 20000 in
theorem ggX4_comes_X4_sum : GoodIn wsX4_comes wsX4_sum := goodIn_r _ [17, 18, 19, 20, 21, 22, 23, 24, 25, 7, 26, 27, 28, 29, 30, 31, 32, 33, 34, 35, 36, 37, 38, 39, 40, 41, 42, 43, 44, 45, 46, 47, 48] (by decide +kernel) (by decide +kernel)
set_option maxRecDepth 20000 in
theorem gX4_comes_X4_sum : GoodIn wsX4_comes (wsV RX4 89 RX4 yX4_sum wsX4_sum) := goodIn_app (goodIn_of _ (by decide +kernel)) ggX4_comes_X4_sum
theorem dX4_comes_0 : decode cX4_comes 0 = .ok (.aload_n 0, 1) := by decide +kernel
theorem dX4_comes_1 : decode cX4_comes 1 = .ok (.iload_n 1, 1) := by decide +kernel
theorem dX4_comes_2 : decode cX4_comes 2 = .ok (.invokevirtual 85, 3) := by decide +kernel
theorem dX4_comes_5 : decode cX4_comes 5 = .ok (.ifCond .eq 35, 3) := by decide +kernel
theorem dX4_comes_8 : decode cX4_comes 8 = .ok (.iload_n 2, 1) := by decide +kernel
theorem dX4_comes_9 : decode cX4_comes 9 = .ok (.iconst (-1), 1) := by decide +kernel
theorem dX4_comes_10 : decode cX4_comes 10 = .ok (.aload_n 0, 1) := by decide +kernel
theorem dX4_comes_11 : decode cX4_comes 11 = .ok (.getfield 71, 3) := by decide +kernel
theorem dX4_comes_14 : decode cX4_comes 14 = .ok (.iconst 1, 1) := by decide +kernel
theorem dX4_comes_15 : decode cX4_comes 15 = .ok (.isub, 1) := by decide +kernel
theorem dX4_comes_16 : decode cX4_comes 16 = .ok (.invokestatic 54, 3) := by decide +kernel
theorem dX4_comes_19 : decode cX4_comes 19 = .ok (.ifCond .eq 21, 3) := by decide +kernel
theorem dX4_comes_22 : decode cX4_comes 22 = .ok (.iload_n 3, 1) := by decide +kernel
theorem dX4_comes_23 : decode cX4_comes 23 = .ok (.iconst (-1), 1) := by decide +kernel
theorem dX4_comes_24 : decode cX4_comes 24 = .ok (.aload_n 0, 1) := by decide +kernel
theorem dX4_comes_25 : decode cX4_comes 25 = .ok (.getfield 74, 3) := by decide +kernel
theorem dX4_comes_28 : decode cX4_comes 28 = .ok (.iconst 1, 1) := by decide +kernel
theorem dX4_comes_29 : decode cX4_comes 29 = .ok (.isub, 1) := by decide +kernel
theorem dX4_comes_30 : decode cX4_comes 30 = .ok (.invokestatic 54, 3) := by decide +kernel
theorem dX4_comes_33 : decode cX4_comes 33 = .ok (.ifCond .eq 7, 3) := by decide +kernel
theorem dX4_comes_36 : decode cX4_comes 36 = .ok (.iconst 1, 1) := by decide +kernel
theorem dX4_comes_37 : decode cX4_comes 37 = .ok (.goto 4, 3) := by decide +kernel
theorem dX4_comes_40 : decode cX4_comes 40 = .ok (.iconst 0, 1) := by decide +kernel
theorem dX4_comes_41 : decode cX4_comes 41 = .ok (.istore 4, 2) := by decide +kernel
theorem dX4_comes_43 : decode cX4_comes 43 = .ok (.iload 4, 2) := by decide +kernel
theorem dX4_comes_45 : decode cX4_comes 45 = .ok (.ifCond .eq 13, 3) := by decide +kernel
theorem dX4_comes_48 : decode cX4_comes 48 = .ok (.aload_n 0, 1) := by decide +kernel
theorem dX4_comes_49 : decode cX4_comes 49 = .ok (.iload_n 1, 1) := by decide +kernel
theorem dX4_comes_50 : decode cX4_comes 50 = .ok (.iload_n 2, 1) := by decide +kernel
theorem dX4_comes_51 : decode cX4_comes 51 = .ok (.iload_n 3, 1) := by decide +kernel
theorem dX4_comes_52 : decode cX4_comes 52 = .ok (.invokevirtual 89, 3) := by decide +kernel
theorem dX4_comes_55 : decode cX4_comes 55 = .ok (.goto 5, 3) := by decide +kernel
theorem dX4_comes_58 : decode cX4_comes 58 = .ok (.ldc 58, 2) := by decide +kernel
theorem dX4_comes_60 : decode cX4_comes 60 = .ok (.ireturn, 1) := by decide +kernel
set_option maxRecDepth 20000 in
theorem ggX4_findWorst_X4_isOn : GoodIn wsX4_findWorst wsX4_isOn := goodIn_r _ [15, 16, 17, 27, 28, 29, 30, 31, 32, 33, 34, 35, 36, 37, 38, 39, 40, 41, 42, 43, 44, 45, 46] (by decide +kernel) (by decide +kernel)
set_option maxRecDepth 20000 in
theorem gX4_findWorst_X4_isOn : GoodIn wsX4_findWorst (wsV RX4 82 RX4 yX4_isOn wsX4_isOn) := goodIn_app (goodIn_of _ (by decide +kernel)) ggX4_findWorst_X4_isOn
set_option maxRecDepth 20000 in
theorem ggX4_findWorst_X4_sum : GoodIn wsX4_findWorst wsX4_sum := goodIn_r _ [21, 2, 3, 7, 22, 4, 11, 12, 13, 14, 15, 16, 17, 27, 28, 29, 30, 31, 32, 33, 34, 35, 36, 37, 38, 39, 40, 41, 42, 43, 44, 45, 46] (by decide +kernel) (by decide +kernel)
set_option maxRecDepth 20000 in
theorem gX4_findWorst_X4_sum : GoodIn wsX4_findWorst (wsV RX4 89 RX4 yX4_sum wsX4_sum) := goodIn_app (goodIn_of _ (by decide +kernel)) ggX4_findWorst_X4_sum
set_option maxRecDepth 20000 in
theorem ggX4_findWorst_X4_isUp : GoodIn wsX4_findWorst wsX4_isUp := goodIn_r _ [26, 2, 3, 4, 11, 12, 13, 14, 15, 16, 17, 27, 28, 29, 30, 31, 32, 33, 34, 35, 36, 37, 38, 39, 40, 41, 42, 43, 44, 45, 46] (by decide +kernel) (by decide +kernel)
set_option maxRecDepth 20000 in
theorem gX4_findWorst_X4_isUp : GoodIn wsX4_findWorst (wsV RX4 93 RX4 yX4_isUp wsX4_isUp) := goodIn_app (goodIn_of _ (by decide +kernel)) ggX4_findWorst_X4_isUp
theorem dX4_findWorst_0 : decode cX4_findWorst 0 = .ok (.iconst 0, 1) := by decide +kernel
theorem dX4_findWorst_1 : decode cX4_findWorst 1 = .ok (.istore_n 3, 1) := by decide +kernel
theorem dX4_findWorst_2 : decode cX4_findWorst 2 = .ok (.iload_n 3, 1) := by decide +kernel
theorem dX4_findWorst_3 : decode cX4_findWorst 3 = .ok (.aload_n 0, 1) := by decide +kernel
theorem dX4_findWorst_4 : decode cX4_findWorst 4 = .ok (.getfield 65, 3) := by decide +kernel
theorem dX4_findWorst_7 : decode cX4_findWorst 7 = .ok (.if_icmp .ge 134, 3) := by decide +kernel
theorem dX4_findWorst_10 : decode cX4_findWorst 10 = .ok (.iconst 0, 1) := by decide +kernel
theorem dX4_findWorst_11 : decode cX4_findWorst 11 = .ok (.istore 4, 2) := by decide +kernel
theorem dX4_findWorst_13 : decode cX4_findWorst 13 = .ok (.iconst 0, 1) := by decide +kernel
theorem dX4_findWorst_14 : decode cX4_findWorst 14 = .ok (.istore 5, 2) := by decide +kernel
theorem dX4_findWorst_16 : decode cX4_findWorst 16 = .ok (.iload 5, 2) := by decide +kernel
theorem dX4_findWorst_18 : decode cX4_findWorst 18 = .ok (.aload_n 0, 1) := by decide +kernel
theorem dX4_findWorst_19 : decode cX4_findWorst 19 = .ok (.getfield 59, 3) := by decide +kernel
theorem dX4_findWorst_22 : decode cX4_findWorst 22 = .ok (.if_icmp .ge 47, 3) := by decide +kernel
theorem dX4_findWorst_25 : decode cX4_findWorst 25 = .ok (.iload 4, 2) := by decide +kernel
theorem dX4_findWorst_27 : decode cX4_findWorst 27 = .ok (.aload_n 0, 1) := by decide +kernel
theorem dX4_findWorst_28 : decode cX4_findWorst 28 = .ok (.iload 5, 2) := by decide +kernel
theorem dX4_findWorst_30 : decode cX4_findWorst 30 = .ok (.iload_n 1, 1) := by decide +kernel
theorem dX4_findWorst_31 : decode cX4_findWorst 31 = .ok (.iload_n 2, 1) := by decide +kernel
theorem dX4_findWorst_32 : decode cX4_findWorst 32 = .ok (.invokevirtual 82, 3) := by decide +kernel
theorem dX4_findWorst_35 : decode cX4_findWorst 35 = .ok (.ifCond .eq 24, 3) := by decide +kernel
theorem dX4_findWorst_38 : decode cX4_findWorst 38 = .ok (.aload_n 0, 1) := by decide +kernel
theorem dX4_findWorst_39 : decode cX4_findWorst 39 = .ok (.getfield 29, 3) := by decide +kernel
theorem dX4_findWorst_42 : decode cX4_findWorst 42 = .ok (.iload 5, 2) := by decide +kernel
theorem dX4_findWorst_44 : decode cX4_findWorst 44 = .ok (.iaload, 1) := by decide +kernel
theorem dX4_findWorst_45 : decode cX4_findWorst 45 = .ok (.iload_n 3, 1) := by decide +kernel
theorem dX4_findWorst_46 : decode cX4_findWorst 46 = .ok (.if_icmp .ne 13, 3) := by decide +kernel
theorem dX4_findWorst_49 : decode cX4_findWorst 49 = .ok (.aload_n 0, 1) := by decide +kernel
theorem dX4_findWorst_50 : decode cX4_findWorst 50 = .ok (.getfield 32, 3) := by decide +kernel
theorem dX4_findWorst_53 : decode cX4_findWorst 53 = .ok (.iload 5, 2) := by decide +kernel
theorem dX4_findWorst_55 : decode cX4_findWorst 55 = .ok (.iaload, 1) := by decide +kernel
theorem dX4_findWorst_56 : decode cX4_findWorst 56 = .ok (.goto 4, 3) := by decide +kernel
theorem dX4_findWorst_59 : decode cX4_findWorst 59 = .ok (.iconst 0, 1) := by decide +kernel
theorem dX4_findWorst_60 : decode cX4_findWorst 60 = .ok (.iadd, 1) := by decide +kernel
theorem dX4_findWorst_61 : decode cX4_findWorst 61 = .ok (.istore 4, 2) := by decide +kernel
theorem dX4_findWorst_63 : decode cX4_findWorst 63 = .ok (.iinc 5 1, 3) := by decide +kernel
theorem dX4_findWorst_66 : decode cX4_findWorst 66 = .ok (.goto (-50), 3) := by decide +kernel
theorem dX4_findWorst_69 : decode cX4_findWorst 69 = .ok (.iload 4, 2) := by decide +kernel
theorem dX4_findWorst_71 : decode cX4_findWorst 71 = .ok (.ifCond .le 12, 3) := by decide +kernel
theorem dX4_findWorst_74 : decode cX4_findWorst 74 = .ok (.aload_n 0, 1) := by decide +kernel
theorem dX4_findWorst_75 : decode cX4_findWorst 75 = .ok (.getfield 20, 3) := by decide +kernel
theorem dX4_findWorst_78 : decode cX4_findWorst 78 = .ok (.iload_n 3, 1) := by decide +kernel
theorem dX4_findWorst_79 : decode cX4_findWorst 79 = .ok (.iaload, 1) := by decide +kernel
theorem dX4_findWorst_80 : decode cX4_findWorst 80 = .ok (.goto 23, 3) := by decide +kernel
theorem dX4_findWorst_83 : decode cX4_findWorst 83 = .ok (.iload 4, 2) := by decide +kernel
theorem dX4_findWorst_85 : decode cX4_findWorst 85 = .ok (.ifCond .ge 12, 3) := by decide +kernel
theorem dX4_findWorst_88 : decode cX4_findWorst 88 = .ok (.aload_n 0, 1) := by decide +kernel
theorem dX4_findWorst_89 : decode cX4_findWorst 89 = .ok (.getfield 13, 3) := by decide +kernel
theorem dX4_findWorst_92 : decode cX4_findWorst 92 = .ok (.iload_n 3, 1) := by decide +kernel
theorem dX4_findWorst_93 : decode cX4_findWorst 93 = .ok (.iaload, 1) := by decide +kernel
theorem dX4_findWorst_94 : decode cX4_findWorst 94 = .ok (.goto 9, 3) := by decide +kernel
theorem dX4_findWorst_97 : decode cX4_findWorst 97 = .ok (.aload_n 0, 1) := by decide +kernel
theorem dX4_findWorst_98 : decode cX4_findWorst 98 = .ok (.getfield 17, 3) := by decide +kernel
theorem dX4_findWorst_101 : decode cX4_findWorst 101 = .ok (.iload_n 3, 1) := by decide +kernel
theorem dX4_findWorst_102 : decode cX4_findWorst 102 = .ok (.iaload, 1) := by decide +kernel
theorem dX4_findWorst_103 : decode cX4_findWorst 103 = .ok (.istore 5, 2) := by decide +kernel
theorem dX4_findWorst_105 : decode cX4_findWorst 105 = .ok (.aload_n 0, 1) := by decide +kernel
theorem dX4_findWorst_106 : decode cX4_findWorst 106 = .ok (.getfield 45, 3) := by decide +kernel
theorem dX4_findWorst_109 : decode cX4_findWorst 109 = .ok (.iload_n 3, 1) := by decide +kernel
theorem dX4_findWorst_110 : decode cX4_findWorst 110 = .ok (.iload 4, 2) := by decide +kernel
theorem dX4_findWorst_112 : decode cX4_findWorst 112 = .ok (.iload 5, 2) := by decide +kernel
theorem dX4_findWorst_114 : decode cX4_findWorst 114 = .ok (.aload_n 0, 1) := by decide +kernel
theorem dX4_findWorst_115 : decode cX4_findWorst 115 = .ok (.getfield 17, 3) := by decide +kernel
theorem dX4_findWorst_118 : decode cX4_findWorst 118 = .ok (.iload_n 3, 1) := by decide +kernel
theorem dX4_findWorst_119 : decode cX4_findWorst 119 = .ok (.iaload, 1) := by decide +kernel
theorem dX4_findWorst_120 : decode cX4_findWorst 120 = .ok (.isub, 1) := by decide +kernel
theorem dX4_findWorst_121 : decode cX4_findWorst 121 = .ok (.imul, 1) := by decide +kernel
theorem dX4_findWorst_122 : decode cX4_findWorst 122 = .ok (.iastore, 1) := by decide +kernel
theorem dX4_findWorst_123 : decode cX4_findWorst 123 = .ok (.aload_n 0, 1) := by decide +kernel
theorem dX4_findWorst_124 : decode cX4_findWorst 124 = .ok (.getfield 48, 3) := by decide +kernel
theorem dX4_findWorst_127 : decode cX4_findWorst 127 = .ok (.iload_n 3, 1) := by decide +kernel
theorem dX4_findWorst_128 : decode cX4_findWorst 128 = .ok (.aload_n 0, 1) := by decide +kernel
theorem dX4_findWorst_129 : decode cX4_findWorst 129 = .ok (.getfield 17, 3) := by decide +kernel
theorem dX4_findWorst_132 : decode cX4_findWorst 132 = .ok (.iload_n 3, 1) := by decide +kernel
theorem dX4_findWorst_133 : decode cX4_findWorst 133 = .ok (.iaload, 1) := by decide +kernel
theorem dX4_findWorst_134 : decode cX4_findWorst 134 = .ok (.iastore, 1) := by decide +kernel
theorem dX4_findWorst_135 : decode cX4_findWorst 135 = .ok (.iinc 3 1, 3) := by decide +kernel
theorem dX4_findWorst_138 : decode cX4_findWorst 138 = .ok (.goto (-136), 3) := by decide +kernel
theorem dX4_findWorst_141 : decode cX4_findWorst 141 = .ok (.aload_n 0, 1) := by decide +kernel
theorem dX4_findWorst_142 : decode cX4_findWorst 142 = .ok (.iload_n 1, 1) := by decide +kernel
theorem dX4_findWorst_143 : decode cX4_findWorst 143 = .ok (.iload_n 2, 1) := by decide +kernel
theorem dX4_findWorst_144 : decode cX4_findWorst 144 = .ok (.iconst (-1), 1) := by decide +kernel
theorem dX4_findWorst_145 : decode cX4_findWorst 145 = .ok (.invokevirtual 89, 3) := by decide +kernel
theorem dX4_findWorst_148 : decode cX4_findWorst 148 = .ok (.istore_n 3, 1) := by decide +kernel
theorem dX4_findWorst_149 : decode cX4_findWorst 149 = .ok (.iconst 0, 1) := by decide +kernel
theorem dX4_findWorst_150 : decode cX4_findWorst 150 = .ok (.istore 4, 2) := by decide +kernel
theorem dX4_findWorst_152 : decode cX4_findWorst 152 = .ok (.iload 4, 2) := by decide +kernel
theorem dX4_findWorst_154 : decode cX4_findWorst 154 = .ok (.aload_n 0, 1) := by decide +kernel
theorem dX4_findWorst_155 : decode cX4_findWorst 155 = .ok (.getfield 68, 3) := by decide +kernel
theorem dX4_findWorst_158 : decode cX4_findWorst 158 = .ok (.if_icmp .ge 129, 3) := by decide +kernel
theorem dX4_findWorst_161 : decode cX4_findWorst 161 = .ok (.iconst (-1), 1) := by decide +kernel
theorem dX4_findWorst_162 : decode cX4_findWorst 162 = .ok (.istore 5, 2) := by decide +kernel
theorem dX4_findWorst_164 : decode cX4_findWorst 164 = .ok (.iconst 0, 1) := by decide +kernel
theorem dX4_findWorst_165 : decode cX4_findWorst 165 = .ok (.istore 6, 2) := by decide +kernel
theorem dX4_findWorst_167 : decode cX4_findWorst 167 = .ok (.iload 6, 2) := by decide +kernel
theorem dX4_findWorst_169 : decode cX4_findWorst 169 = .ok (.aload_n 0, 1) := by decide +kernel
theorem dX4_findWorst_170 : decode cX4_findWorst 170 = .ok (.getfield 65, 3) := by decide +kernel
theorem dX4_findWorst_173 : decode cX4_findWorst 173 = .ok (.if_icmp .ge 50, 3) := by decide +kernel
theorem dX4_findWorst_176 : decode cX4_findWorst 176 = .ok (.aload_n 0, 1) := by decide +kernel
theorem dX4_findWorst_177 : decode cX4_findWorst 177 = .ok (.getfield 45, 3) := by decide +kernel
theorem dX4_findWorst_180 : decode cX4_findWorst 180 = .ok (.iload 6, 2) := by decide +kernel
theorem dX4_findWorst_182 : decode cX4_findWorst 182 = .ok (.iaload, 1) := by decide +kernel
theorem dX4_findWorst_183 : decode cX4_findWorst 183 = .ok (.ifCond .le 30, 3) := by decide +kernel
theorem dX4_findWorst_186 : decode cX4_findWorst 186 = .ok (.iload 5, 2) := by decide +kernel
theorem dX4_findWorst_188 : decode cX4_findWorst 188 = .ok (.ifCond .lt 20, 3) := by decide +kernel
theorem dX4_findWorst_191 : decode cX4_findWorst 191 = .ok (.aload_n 0, 1) := by decide +kernel
theorem dX4_findWorst_192 : decode cX4_findWorst 192 = .ok (.getfield 45, 3) := by decide +kernel
theorem dX4_findWorst_195 : decode cX4_findWorst 195 = .ok (.iload 6, 2) := by decide +kernel
end
section
theorem dX4_findWorst_197 : decode cX4_findWorst 197 = .ok (.iaload, 1) := by decide +kernel
theorem dX4_findWorst_198 : decode cX4_findWorst 198 = .ok (.aload_n 0, 1) := by decide +kernel
theorem dX4_findWorst_199 : decode cX4_findWorst 199 = .ok (.getfield 45, 3) := by decide +kernel
theorem dX4_findWorst_202 : decode cX4_findWorst 202 = .ok (.iload 5, 2) := by decide +kernel
theorem dX4_findWorst_204 : decode cX4_findWorst 204 = .ok (.iaload, 1) := by decide +kernel
theorem dX4_findWorst_205 : decode cX4_findWorst 205 = .ok (.if_icmp .le 8, 3) := by decide +kernel
theorem dX4_findWorst_208 : decode cX4_findWorst 208 = .ok (.iload 6, 2) := by decide +kernel
theorem dX4_findWorst_210 : decode cX4_findWorst 210 = .ok (.goto 5, 3) := by decide +kernel
theorem dX4_findWorst_213 : decode cX4_findWorst 213 = .ok (.iload 5, 2) := by decide +kernel
theorem dX4_findWorst_215 : decode cX4_findWorst 215 = .ok (.istore 5, 2) := by decide +kernel
theorem dX4_findWorst_217 : decode cX4_findWorst 217 = .ok (.iinc 6 1, 3) := by decide +kernel
theorem dX4_findWorst_220 : decode cX4_findWorst 220 = .ok (.goto (-53), 3) := by decide +kernel
theorem dX4_findWorst_223 : decode cX4_findWorst 223 = .ok (.iload 5, 2) := by decide +kernel
theorem dX4_findWorst_225 : decode cX4_findWorst 225 = .ok (.ifCond .lt 56, 3) := by decide +kernel
theorem dX4_findWorst_228 : decode cX4_findWorst 228 = .ok (.iload_n 3, 1) := by decide +kernel
theorem dX4_findWorst_229 : decode cX4_findWorst 229 = .ok (.aload_n 0, 1) := by decide +kernel
theorem dX4_findWorst_230 : decode cX4_findWorst 230 = .ok (.getfield 45, 3) := by decide +kernel
theorem dX4_findWorst_233 : decode cX4_findWorst 233 = .ok (.iload 5, 2) := by decide +kernel
theorem dX4_findWorst_235 : decode cX4_findWorst 235 = .ok (.iaload, 1) := by decide +kernel
theorem dX4_findWorst_236 : decode cX4_findWorst 236 = .ok (.iadd, 1) := by decide +kernel
theorem dX4_findWorst_237 : decode cX4_findWorst 237 = .ok (.istore_n 3, 1) := by decide +kernel
theorem dX4_findWorst_238 : decode cX4_findWorst 238 = .ok (.aload_n 0, 1) := by decide +kernel
theorem dX4_findWorst_239 : decode cX4_findWorst 239 = .ok (.getfield 45, 3) := by decide +kernel
theorem dX4_findWorst_242 : decode cX4_findWorst 242 = .ok (.iload 5, 2) := by decide +kernel
theorem dX4_findWorst_244 : decode cX4_findWorst 244 = .ok (.iconst 0, 1) := by decide +kernel
theorem dX4_findWorst_245 : decode cX4_findWorst 245 = .ok (.iastore, 1) := by decide +kernel
theorem dX4_findWorst_246 : decode cX4_findWorst 246 = .ok (.aload_n 0, 1) := by decide +kernel
theorem dX4_findWorst_247 : decode cX4_findWorst 247 = .ok (.getfield 48, 3) := by decide +kernel
theorem dX4_findWorst_250 : decode cX4_findWorst 250 = .ok (.iload 5, 2) := by decide +kernel
theorem dX4_findWorst_252 : decode cX4_findWorst 252 = .ok (.aload_n 0, 1) := by decide +kernel
theorem dX4_findWorst_253 : decode cX4_findWorst 253 = .ok (.iload_n 1, 1) := by decide +kernel
theorem dX4_findWorst_254 : decode cX4_findWorst 254 = .ok (.iload_n 2, 1) := by decide +kernel
theorem dX4_findWorst_255 : decode cX4_findWorst 255 = .ok (.iload 5, 2) := by decide +kernel
theorem dX4_findWorst_257 : decode cX4_findWorst 257 = .ok (.invokevirtual 93, 3) := by decide +kernel
theorem dX4_findWorst_260 : decode cX4_findWorst 260 = .ok (.ifCond .eq 13, 3) := by decide +kernel
theorem dX4_findWorst_263 : decode cX4_findWorst 263 = .ok (.aload_n 0, 1) := by decide +kernel
theorem dX4_findWorst_264 : decode cX4_findWorst 264 = .ok (.getfield 20, 3) := by decide +kernel
theorem dX4_findWorst_267 : decode cX4_findWorst 267 = .ok (.iload 5, 2) := by decide +kernel
theorem dX4_findWorst_269 : decode cX4_findWorst 269 = .ok (.iaload, 1) := by decide +kernel
theorem dX4_findWorst_270 : decode cX4_findWorst 270 = .ok (.goto 10, 3) := by decide +kernel
theorem dX4_findWorst_273 : decode cX4_findWorst 273 = .ok (.aload_n 0, 1) := by decide +kernel
theorem dX4_findWorst_274 : decode cX4_findWorst 274 = .ok (.getfield 13, 3) := by decide +kernel
theorem dX4_findWorst_277 : decode cX4_findWorst 277 = .ok (.iload 5, 2) := by decide +kernel
theorem dX4_findWorst_279 : decode cX4_findWorst 279 = .ok (.iaload, 1) := by decide +kernel
theorem dX4_findWorst_280 : decode cX4_findWorst 280 = .ok (.iastore, 1) := by decide +kernel
theorem dX4_findWorst_281 : decode cX4_findWorst 281 = .ok (.iinc 4 1, 3) := by decide +kernel
theorem dX4_findWorst_284 : decode cX4_findWorst 284 = .ok (.goto (-132), 3) := by decide +kernel
theorem dX4_findWorst_287 : decode cX4_findWorst 287 = .ok (.iload_n 3, 1) := by decide +kernel
theorem dX4_findWorst_288 : decode cX4_findWorst 288 = .ok (.ireturn, 1) := by decide +kernel
set_option maxRecDepth 20000 in
theorem ggX4_isUp_X4_isOn : GoodIn wsX4_isUp wsX4_isOn := goodIn_r _ [8, 9, 10, 11, 12, 13, 14, 15, 16, 17, 18, 19, 20, 21, 22, 23, 24, 25, 26, 27, 28, 29, 30] (by decide +kernel) (by decide +kernel)
set_option maxRecDepth 20000 in
theorem gX4_isUp_X4_isOn : GoodIn wsX4_isUp (wsV RX4 82 RX4 yX4_isOn wsX4_isOn) := goodIn_app (goodIn_of _ (by decide +kernel)) ggX4_isUp_X4_isOn
theorem dX4_isUp_0 : decode cX4_isUp 0 = .ok (.iconst 0, 1) := by decide +kernel
theorem dX4_isUp_1 : decode cX4_isUp 1 = .ok (.istore 4, 2) := by decide +kernel
theorem dX4_isUp_3 : decode cX4_isUp 3 = .ok (.iconst 0, 1) := by decide +kernel
theorem dX4_isUp_4 : decode cX4_isUp 4 = .ok (.istore 5, 2) := by decide +kernel
theorem dX4_isUp_6 : decode cX4_isUp 6 = .ok (.iload 5, 2) := by decide +kernel
theorem dX4_isUp_8 : decode cX4_isUp 8 = .ok (.aload_n 0, 1) := by decide +kernel
theorem dX4_isUp_9 : decode cX4_isUp 9 = .ok (.getfield 59, 3) := by decide +kernel
theorem dX4_isUp_12 : decode cX4_isUp 12 = .ok (.if_icmp .ge 47, 3) := by decide +kernel
theorem dX4_isUp_15 : decode cX4_isUp 15 = .ok (.iload 4, 2) := by decide +kernel
theorem dX4_isUp_17 : decode cX4_isUp 17 = .ok (.aload_n 0, 1) := by decide +kernel
theorem dX4_isUp_18 : decode cX4_isUp 18 = .ok (.iload 5, 2) := by decide +kernel
theorem dX4_isUp_20 : decode cX4_isUp 20 = .ok (.iload_n 1, 1) := by decide +kernel
theorem dX4_isUp_21 : decode cX4_isUp 21 = .ok (.iload_n 2, 1) := by decide +kernel
theorem dX4_isUp_22 : decode cX4_isUp 22 = .ok (.invokevirtual 82, 3) := by decide +kernel
theorem dX4_isUp_25 : decode cX4_isUp 25 = .ok (.ifCond .eq 24, 3) := by decide +kernel
theorem dX4_isUp_28 : decode cX4_isUp 28 = .ok (.aload_n 0, 1) := by decide +kernel
theorem dX4_isUp_29 : decode cX4_isUp 29 = .ok (.getfield 29, 3) := by decide +kernel
theorem dX4_isUp_32 : decode cX4_isUp 32 = .ok (.iload 5, 2) := by decide +kernel
theorem dX4_isUp_34 : decode cX4_isUp 34 = .ok (.iaload, 1) := by decide +kernel
theorem dX4_isUp_35 : decode cX4_isUp 35 = .ok (.iload_n 3, 1) := by decide +kernel
theorem dX4_isUp_36 : decode cX4_isUp 36 = .ok (.if_icmp .ne 13, 3) := by decide +kernel
theorem dX4_isUp_39 : decode cX4_isUp 39 = .ok (.aload_n 0, 1) := by decide +kernel
theorem dX4_isUp_40 : decode cX4_isUp 40 = .ok (.getfield 32, 3) := by decide +kernel
theorem dX4_isUp_43 : decode cX4_isUp 43 = .ok (.iload 5, 2) := by decide +kernel
theorem dX4_isUp_45 : decode cX4_isUp 45 = .ok (.iaload, 1) := by decide +kernel
theorem dX4_isUp_46 : decode cX4_isUp 46 = .ok (.goto 4, 3) := by decide +kernel
theorem dX4_isUp_49 : decode cX4_isUp 49 = .ok (.iconst 0, 1) := by decide +kernel
theorem dX4_isUp_50 : decode cX4_isUp 50 = .ok (.iadd, 1) := by decide +kernel
theorem dX4_isUp_51 : decode cX4_isUp 51 = .ok (.istore 4, 2) := by decide +kernel
theorem dX4_isUp_53 : decode cX4_isUp 53 = .ok (.iinc 5 1, 3) := by decide +kernel
theorem dX4_isUp_56 : decode cX4_isUp 56 = .ok (.goto (-50), 3) := by decide +kernel
theorem dX4_isUp_59 : decode cX4_isUp 59 = .ok (.iload 4, 2) := by decide +kernel
theorem dX4_isUp_61 : decode cX4_isUp 61 = .ok (.ifCond .le 7, 3) := by decide +kernel
theorem dX4_isUp_64 : decode cX4_isUp 64 = .ok (.iconst 1, 1) := by decide +kernel
theorem dX4_isUp_65 : decode cX4_isUp 65 = .ok (.goto 4, 3) := by decide +kernel
theorem dX4_isUp_68 : decode cX4_isUp 68 = .ok (.iconst 0, 1) := by decide +kernel
theorem dX4_isUp_69 : decode cX4_isUp 69 = .ok (.ireturn, 1) := by decide +kernel
set_option maxRecDepth 20000 in
theorem ggX4_worst_X4_isPlan : GoodIn wsX4_worst wsX4_isPlan := goodIn_r _ [7, 8, 9, 10, 11, 6, 12, 42, 43, 44, 45, 46, 47, 48, 49, 50, 51, 52, 53, 54, 55, 56, 57, 58, 59, 60, 61] (by decide +kernel) (by decide +kernel)
set_option maxRecDepth 20000 in
theorem gX4_worst_X4_isPlan : GoodIn wsX4_worst (wsV RX4 85 RX4 yX4_isPlan wsX4_isPlan) := goodIn_app (goodIn_of _ (by decide +kernel)) ggX4_worst_X4_isPlan
set_option maxRecDepth 20000 in
theorem ggX4_worst_X4_in : GoodIn wsX4_worst wsX4_in := goodIn_r _ [12] (by decide +kernel) (by decide +kernel)
set_option maxRecDepth 20000 in
theorem gX4_worst_X4_in : GoodIn wsX4_worst (va_wsS RX4 54 yX4_in wsX4_in) := goodIn_app (goodIn_of _ (by decide +kernel)) ggX4_worst_X4_in
set_option maxRecDepth 20000 in
theorem ggX4_worst_X4_findWorst : GoodIn wsX4_worst wsX4_findWorst := goodIn_r _ [16, 17, 18, 19, 20, 21, 22, 23, 24, 25, 26, 27, 28, 29, 6, 30, 31, 32, 33, 34, 35, 36, 37, 38, 39, 40, 41, 42, 43, 44, 45, 46, 47, 48, 49, 50, 51, 52, 53, 54, 55, 56, 57, 58, 59, 60, 61] (by decide +kernel) (by decide +kernel)
set_option maxRecDepth 20000 in
theorem gX4_worst_X4_findWorst : GoodIn wsX4_worst (wsV RX4 96 RX4 yX4_findWorst wsX4_findWorst) := goodIn_app (goodIn_of _ (by decide +kernel)) ggX4_worst_X4_findWorst
theorem dX4_worst_0 : decode cX4_worst 0 = .ok (.aload_n 0, 1) := by decide +kernel
theorem dX4_worst_1 : decode cX4_worst 1 = .ok (.iload_n 1, 1) := by decide +kernel
theorem dX4_worst_2 : decode cX4_worst 2 = .ok (.invokevirtual 85, 3) := by decide +kernel
theorem dX4_worst_5 : decode cX4_worst 5 = .ok (.ifCond .eq 26, 3) := by decide +kernel
theorem dX4_worst_8 : decode cX4_worst 8 = .ok (.iload_n 2, 1) := by decide +kernel
theorem dX4_worst_9 : decode cX4_worst 9 = .ok (.iconst (-1), 1) := by decide +kernel
theorem dX4_worst_10 : decode cX4_worst 10 = .ok (.aload_n 0, 1) := by decide +kernel
theorem dX4_worst_11 : decode cX4_worst 11 = .ok (.getfield 71, 3) := by decide +kernel
theorem dX4_worst_14 : decode cX4_worst 14 = .ok (.iconst 1, 1) := by decide +kernel
theorem dX4_worst_15 : decode cX4_worst 15 = .ok (.isub, 1) := by decide +kernel
theorem dX4_worst_16 : decode cX4_worst 16 = .ok (.invokestatic 54, 3) := by decide +kernel
theorem dX4_worst_19 : decode cX4_worst 19 = .ok (.ifCond .eq 12, 3) := by decide +kernel
theorem dX4_worst_22 : decode cX4_worst 22 = .ok (.aload_n 0, 1) := by decide +kernel
theorem dX4_worst_23 : decode cX4_worst 23 = .ok (.iload_n 1, 1) := by decide +kernel
theorem dX4_worst_24 : decode cX4_worst 24 = .ok (.iload_n 2, 1) := by decide +kernel
theorem dX4_worst_25 : decode cX4_worst 25 = .ok (.invokevirtual 96, 3) := by decide +kernel
theorem dX4_worst_28 : decode cX4_worst 28 = .ok (.goto 5, 3) := by decide +kernel
theorem dX4_worst_31 : decode cX4_worst 31 = .ok (.ldc 58, 2) := by decide +kernel
theorem dX4_worst_33 : decode cX4_worst 33 = .ok (.ireturn, 1) := by decide +kernel
set_option maxRecDepth 20000 in
theorem ggX4_worstName_X4_isPlan : GoodIn wsX4_worstName wsX4_isPlan := goodIn_r _ [9, 10, 11, 12, 13, 8, 14, 42, 43, 44, 45, 46, 47, 48, 49, 50, 51, 52, 53, 54, 55, 56, 57, 58, 59, 60, 61] (by decide +kernel) (by decide +kernel)
set_option maxRecDepth 20000 in
theorem gX4_worstName_X4_isPlan : GoodIn wsX4_worstName (wsV RX4 85 RX4 yX4_isPlan wsX4_isPlan) := goodIn_app (goodIn_of _ (by decide +kernel)) ggX4_worstName_X4_isPlan
set_option maxRecDepth 20000 in
theorem ggX4_worstName_X4_in : GoodIn wsX4_worstName wsX4_in := goodIn_r _ [14] (by decide +kernel) (by decide +kernel)
set_option maxRecDepth 20000 in
theorem gX4_worstName_X4_in : GoodIn wsX4_worstName (va_wsS RX4 54 yX4_in wsX4_in) := goodIn_app (goodIn_of _ (by decide +kernel)) ggX4_worstName_X4_in
set_option maxRecDepth 20000 in
theorem ggX4_worstName_X4_findWorst : GoodIn wsX4_worstName wsX4_findWorst := goodIn_r _ [18, 2, 19, 20, 21, 22, 23, 24, 25, 4, 26, 27, 28, 29, 8, 30, 31, 32, 33, 34, 35, 36, 37, 38, 39, 40, 41, 42, 43, 44, 45, 46, 47, 48, 49, 50, 51, 52, 53, 54, 55, 56, 57, 58, 59, 60, 61] (by decide +kernel) (by decide +kernel)
set_option maxRecDepth 20000 in
theorem gX4_worstName_X4_findWorst : GoodIn wsX4_worstName (wsV RX4 96 RX4 yX4_findWorst wsX4_findWorst) := goodIn_app (goodIn_of _ (by decide +kernel)) ggX4_worstName_X4_findWorst
theorem dX4_worstName_0 : decode cX4_worstName 0 = .ok (.aload_n 0, 1) := by decide +kernel
theorem dX4_worstName_1 : decode cX4_worstName 1 = .ok (.iload_n 1, 1) := by decide +kernel
theorem dX4_worstName_2 : decode cX4_worstName 2 = .ok (.invokevirtual 85, 3) := by decide +kernel
theorem dX4_worstName_5 : decode cX4_worstName 5 = .ok (.ifCond .eq 31, 3) := by decide +kernel
theorem dX4_worstName_8 : decode cX4_worstName 8 = .ok (.iload_n 2, 1) := by decide +kernel
theorem dX4_worstName_9 : decode cX4_worstName 9 = .ok (.iconst (-1), 1) := by decide +kernel
theorem dX4_worstName_10 : decode cX4_worstName 10 = .ok (.aload_n 0, 1) := by decide +kernel
theorem dX4_worstName_11 : decode cX4_worstName 11 = .ok (.getfield 71, 3) := by decide +kernel
theorem dX4_worstName_14 : decode cX4_worstName 14 = .ok (.iconst 1, 1) := by decide +kernel
theorem dX4_worstName_15 : decode cX4_worstName 15 = .ok (.isub, 1) := by decide +kernel
theorem dX4_worstName_16 : decode cX4_worstName 16 = .ok (.invokestatic 54, 3) := by decide +kernel
theorem dX4_worstName_19 : decode cX4_worstName 19 = .ok (.ifCond .eq 17, 3) := by decide +kernel
theorem dX4_worstName_22 : decode cX4_worstName 22 = .ok (.iload_n 3, 1) := by decide +kernel
theorem dX4_worstName_23 : decode cX4_worstName 23 = .ok (.iconst 0, 1) := by decide +kernel
theorem dX4_worstName_24 : decode cX4_worstName 24 = .ok (.aload_n 0, 1) := by decide +kernel
theorem dX4_worstName_25 : decode cX4_worstName 25 = .ok (.getfield 65, 3) := by decide +kernel
theorem dX4_worstName_28 : decode cX4_worstName 28 = .ok (.iconst 1, 1) := by decide +kernel
theorem dX4_worstName_29 : decode cX4_worstName 29 = .ok (.isub, 1) := by decide +kernel
theorem dX4_worstName_30 : decode cX4_worstName 30 = .ok (.invokestatic 54, 3) := by decide +kernel
theorem dX4_worstName_33 : decode cX4_worstName 33 = .ok (.ifCond .ne 6, 3) := by decide +kernel
theorem dX4_worstName_36 : decode cX4_worstName 36 = .ok (.ldc 58, 2) := by decide +kernel
theorem dX4_worstName_38 : decode cX4_worstName 38 = .ok (.ireturn, 1) := by decide +kernel
theorem dX4_worstName_39 : decode cX4_worstName 39 = .ok (.aload_n 0, 1) := by decide +kernel
theorem dX4_worstName_40 : decode cX4_worstName 40 = .ok (.iload_n 1, 1) := by decide +kernel
theorem dX4_worstName_41 : decode cX4_worstName 41 = .ok (.iload_n 2, 1) := by decide +kernel
theorem dX4_worstName_42 : decode cX4_worstName 42 = .ok (.invokevirtual 96, 3) := by decide +kernel
theorem dX4_worstName_45 : decode cX4_worstName 45 = .ok (.istore 4, 2) := by decide +kernel
theorem dX4_worstName_47 : decode cX4_worstName 47 = .ok (.aload_n 0, 1) := by decide +kernel
theorem dX4_worstName_48 : decode cX4_worstName 48 = .ok (.getfield 48, 3) := by decide +kernel
theorem dX4_worstName_51 : decode cX4_worstName 51 = .ok (.iload_n 3, 1) := by decide +kernel
theorem dX4_worstName_52 : decode cX4_worstName 52 = .ok (.iaload, 1) := by decide +kernel
theorem dX4_worstName_53 : decode cX4_worstName 53 = .ok (.ireturn, 1) := by decide +kernel
set_option maxRecDepth 20000 in
theorem ggX4_breaks_X4_isPlan : GoodIn wsX4_breaks wsX4_isPlan := goodIn_r _ [8, 9, 10, 11, 12, 7, 13, 43, 44, 45, 46, 47, 48, 49, 50, 51, 52, 53, 54, 55, 56, 57, 58, 59, 60, 61, 62] (by decide +kernel) (by decide +kernel)
set_option maxRecDepth 20000 in
theorem gX4_breaks_X4_isPlan : GoodIn wsX4_breaks (wsV RX4 85 RX4 yX4_isPlan wsX4_isPlan) := goodIn_app (goodIn_of _ (by decide +kernel)) ggX4_breaks_X4_isPlan
set_option maxRecDepth 20000 in
theorem ggX4_breaks_X4_findWorst : GoodIn wsX4_breaks wsX4_findWorst := goodIn_r _ [17, 18, 19, 20, 21, 22, 23, 24, 25, 26, 27, 28, 29, 30, 7, 31, 32, 33, 34, 35, 36, 37, 38, 39, 40, 41, 42, 43, 44, 45, 46, 47, 48, 49, 50, 51, 52, 53, 54, 55, 56, 57, 58, 59, 60, 61, 62] (by decide +kernel) (by decide +kernel)
set_option maxRecDepth 20000 in
theorem gX4_breaks_X4_findWorst : GoodIn wsX4_breaks (wsV RX4 96 RX4 yX4_findWorst wsX4_findWorst) := goodIn_app (goodIn_of _ (by decide +kernel)) ggX4_breaks_X4_findWorst
theorem dX4_breaks_0 : decode cX4_breaks 0 = .ok (.aload_n 0, 1) := by decide +kernel
theorem dX4_breaks_1 : decode cX4_breaks 1 = .ok (.iload_n 1, 1) := by decide +kernel
theorem dX4_breaks_2 : decode cX4_breaks 2 = .ok (.invokevirtual 85, 3) := by decide +kernel
theorem dX4_breaks_5 : decode cX4_breaks 5 = .ok (.ifCond .ne 6, 3) := by decide +kernel
theorem dX4_breaks_8 : decode cX4_breaks 8 = .ok (.ldc 58, 2) := by decide +kernel
theorem dX4_breaks_10 : decode cX4_breaks 10 = .ok (.ireturn, 1) := by decide +kernel
theorem dX4_breaks_11 : decode cX4_breaks 11 = .ok (.iconst 0, 1) := by decide +kernel
theorem dX4_breaks_12 : decode cX4_breaks 12 = .ok (.istore_n 2, 1) := by decide +kernel
theorem dX4_breaks_13 : decode cX4_breaks 13 = .ok (.iload_n 2, 1) := by decide +kernel
theorem dX4_breaks_14 : decode cX4_breaks 14 = .ok (.aload_n 0, 1) := by decide +kernel
theorem dX4_breaks_15 : decode cX4_breaks 15 = .ok (.getfield 71, 3) := by decide +kernel
theorem dX4_breaks_18 : decode cX4_breaks 18 = .ok (.if_icmp .ge 20, 3) := by decide +kernel
theorem dX4_breaks_21 : decode cX4_breaks 21 = .ok (.aload_n 0, 1) := by decide +kernel
theorem dX4_breaks_22 : decode cX4_breaks 22 = .ok (.iload_n 1, 1) := by decide +kernel
theorem dX4_breaks_23 : decode cX4_breaks 23 = .ok (.iload_n 2, 1) := by decide +kernel
theorem dX4_breaks_24 : decode cX4_breaks 24 = .ok (.invokevirtual 96, 3) := by decide +kernel
theorem dX4_breaks_27 : decode cX4_breaks 27 = .ok (.ifCond .le 5, 3) := by decide +kernel
theorem dX4_breaks_30 : decode cX4_breaks 30 = .ok (.iload_n 2, 1) := by decide +kernel
theorem dX4_breaks_31 : decode cX4_breaks 31 = .ok (.ireturn, 1) := by decide +kernel
theorem dX4_breaks_32 : decode cX4_breaks 32 = .ok (.iinc 2 1, 3) := by decide +kernel
theorem dX4_breaks_35 : decode cX4_breaks 35 = .ok (.goto (-22), 3) := by decide +kernel
theorem dX4_breaks_38 : decode cX4_breaks 38 = .ok (.ldc 100, 2) := by decide +kernel
theorem dX4_breaks_40 : decode cX4_breaks 40 = .ok (.ireturn, 1) := by decide +kernel
set_option maxRecDepth 20000 in
theorem ggX4_safest_X4_breaks : GoodIn wsX4_safest wsX4_breaks := goodIn_r _ [8, 9, 10, 1, 11, 12, 13, 7, 14, 2, 3, 15, 16, 17, 18, 19, 20, 21, 22, 23, 24, 25, 26, 27, 28, 29, 30, 31, 32, 33, 34, 35, 36, 37, 38, 39, 40, 41, 42, 43, 44, 45, 46, 47, 48, 49, 50, 51, 52, 53, 54, 55, 56, 57, 58, 59, 60, 61, 62, 63, 64, 65, 66] (by decide +kernel) (by decide +kernel)
set_option maxRecDepth 20000 in
theorem gX4_safest_X4_breaks : GoodIn wsX4_safest (wsV RX4 101 RX4 yX4_breaks wsX4_breaks) := goodIn_app (goodIn_of _ (by decide +kernel)) ggX4_safest_X4_breaks
set_option maxRecDepth 20000 in
theorem ggX4_safest_X4_findWorst : GoodIn wsX4_safest wsX4_findWorst := goodIn_r _ [21, 22, 23, 24, 25, 26, 27, 28, 29, 30, 31, 32, 33, 34, 7, 35, 36, 37, 38, 39, 40, 41, 42, 43, 44, 45, 46, 47, 48, 49, 50, 51, 52, 53, 54, 55, 56, 57, 58, 59, 60, 61, 62, 63, 64, 65, 66] (by decide +kernel) (by decide +kernel)
set_option maxRecDepth 20000 in
theorem gX4_safest_X4_findWorst : GoodIn wsX4_safest (wsV RX4 96 RX4 yX4_findWorst wsX4_findWorst) := goodIn_app (goodIn_of _ (by decide +kernel)) ggX4_safest_X4_findWorst
theorem dX4_safest_0 : decode cX4_safest 0 = .ok (.ldc 100, 2) := by decide +kernel
theorem dX4_safest_2 : decode cX4_safest 2 = .ok (.istore_n 1, 1) := by decide +kernel
theorem dX4_safest_3 : decode cX4_safest 3 = .ok (.iconst 0, 1) := by decide +kernel
theorem dX4_safest_4 : decode cX4_safest 4 = .ok (.istore_n 2, 1) := by decide +kernel
theorem dX4_safest_5 : decode cX4_safest 5 = .ok (.iconst 0, 1) := by decide +kernel
theorem dX4_safest_6 : decode cX4_safest 6 = .ok (.istore_n 3, 1) := by decide +kernel
theorem dX4_safest_7 : decode cX4_safest 7 = .ok (.iload_n 3, 1) := by decide +kernel
theorem dX4_safest_8 : decode cX4_safest 8 = .ok (.iconst 1, 1) := by decide +kernel
theorem dX4_safest_9 : decode cX4_safest 9 = .ok (.aload_n 0, 1) := by decide +kernel
theorem dX4_safest_10 : decode cX4_safest 10 = .ok (.getfield 7, 3) := by decide +kernel
theorem dX4_safest_13 : decode cX4_safest 13 = .ok (.aload_n 0, 1) := by decide +kernel
theorem dX4_safest_14 : decode cX4_safest 14 = .ok (.getfield 62, 3) := by decide +kernel
theorem dX4_safest_17 : decode cX4_safest 17 = .ok (.iadd, 1) := by decide +kernel
theorem dX4_safest_18 : decode cX4_safest 18 = .ok (.ishl, 1) := by decide +kernel
theorem dX4_safest_19 : decode cX4_safest 19 = .ok (.if_icmp .ge 69, 3) := by decide +kernel
theorem dX4_safest_22 : decode cX4_safest 22 = .ok (.aload_n 0, 1) := by decide +kernel
theorem dX4_safest_23 : decode cX4_safest 23 = .ok (.iload_n 3, 1) := by decide +kernel
theorem dX4_safest_24 : decode cX4_safest 24 = .ok (.invokevirtual 101, 3) := by decide +kernel
theorem dX4_safest_27 : decode cX4_safest 27 = .ok (.ldc 100, 2) := by decide +kernel
theorem dX4_safest_29 : decode cX4_safest 29 = .ok (.if_icmp .ne 53, 3) := by decide +kernel
theorem dX4_safest_32 : decode cX4_safest 32 = .ok (.aload_n 0, 1) := by decide +kernel
theorem dX4_safest_33 : decode cX4_safest 33 = .ok (.iload_n 3, 1) := by decide +kernel
theorem dX4_safest_34 : decode cX4_safest 34 = .ok (.iconst (-1), 1) := by decide +kernel
theorem dX4_safest_35 : decode cX4_safest 35 = .ok (.invokevirtual 96, 3) := by decide +kernel
theorem dX4_safest_38 : decode cX4_safest 38 = .ok (.istore 4, 2) := by decide +kernel
theorem dX4_safest_40 : decode cX4_safest 40 = .ok (.iload_n 1, 1) := by decide +kernel
theorem dX4_safest_41 : decode cX4_safest 41 = .ok (.ldc 100, 2) := by decide +kernel
theorem dX4_safest_43 : decode cX4_safest 43 = .ok (.if_icmp .eq 9, 3) := by decide +kernel
theorem dX4_safest_46 : decode cX4_safest 46 = .ok (.iload 4, 2) := by decide +kernel
theorem dX4_safest_48 : decode cX4_safest 48 = .ok (.iload_n 2, 1) := by decide +kernel
theorem dX4_safest_49 : decode cX4_safest 49 = .ok (.if_icmp .ge 7, 3) := by decide +kernel
theorem dX4_safest_52 : decode cX4_safest 52 = .ok (.iconst 1, 1) := by decide +kernel
theorem dX4_safest_53 : decode cX4_safest 53 = .ok (.goto 4, 3) := by decide +kernel
theorem dX4_safest_56 : decode cX4_safest 56 = .ok (.iconst 0, 1) := by decide +kernel
theorem dX4_safest_57 : decode cX4_safest 57 = .ok (.istore 5, 2) := by decide +kernel
theorem dX4_safest_59 : decode cX4_safest 59 = .ok (.iload 5, 2) := by decide +kernel
theorem dX4_safest_61 : decode cX4_safest 61 = .ok (.ifCond .eq 7, 3) := by decide +kernel
theorem dX4_safest_64 : decode cX4_safest 64 = .ok (.iload_n 3, 1) := by decide +kernel
theorem dX4_safest_65 : decode cX4_safest 65 = .ok (.goto 4, 3) := by decide +kernel
theorem dX4_safest_68 : decode cX4_safest 68 = .ok (.iload_n 1, 1) := by decide +kernel
theorem dX4_safest_69 : decode cX4_safest 69 = .ok (.istore_n 1, 1) := by decide +kernel
theorem dX4_safest_70 : decode cX4_safest 70 = .ok (.iload 5, 2) := by decide +kernel
theorem dX4_safest_72 : decode cX4_safest 72 = .ok (.ifCond .eq 8, 3) := by decide +kernel
theorem dX4_safest_75 : decode cX4_safest 75 = .ok (.iload 4, 2) := by decide +kernel
theorem dX4_safest_77 : decode cX4_safest 77 = .ok (.goto 4, 3) := by decide +kernel
theorem dX4_safest_80 : decode cX4_safest 80 = .ok (.iload_n 2, 1) := by decide +kernel
theorem dX4_safest_81 : decode cX4_safest 81 = .ok (.istore_n 2, 1) := by decide +kernel
theorem dX4_safest_82 : decode cX4_safest 82 = .ok (.iinc 3 1, 3) := by decide +kernel
theorem dX4_safest_85 : decode cX4_safest 85 = .ok (.goto (-78), 3) := by decide +kernel
theorem dX4_safest_88 : decode cX4_safest 88 = .ok (.iload_n 1, 1) := by decide +kernel
theorem dX4_safest_89 : decode cX4_safest 89 = .ok (.ireturn, 1) := by decide +kernel
set_option maxRecDepth 20000 in
theorem ggX4_holds_X4_sum : GoodIn wsX4_holds wsX4_sum := goodIn_r _ [6, 7, 8, 9, 10, 11, 12, 13, 14, 5, 15, 16, 17, 18, 19, 20, 21, 22, 23, 24, 25, 26, 27, 28, 29, 30, 31, 32, 33, 34, 35, 36, 37] (by decide +kernel) (by decide +kernel)
set_option maxRecDepth 20000 in
theorem gX4_holds_X4_sum : GoodIn wsX4_holds (wsV RX4 89 RX4 yX4_sum wsX4_sum) := goodIn_app (goodIn_of _ (by decide +kernel)) ggX4_holds_X4_sum
theorem dX4_holds_0 : decode cX4_holds 0 = .ok (.iconst 0, 1) := by decide +kernel
theorem dX4_holds_1 : decode cX4_holds 1 = .ok (.istore_n 3, 1) := by decide +kernel
theorem dX4_holds_2 : decode cX4_holds 2 = .ok (.iload_n 3, 1) := by decide +kernel
theorem dX4_holds_3 : decode cX4_holds 3 = .ok (.aload_n 0, 1) := by decide +kernel
theorem dX4_holds_4 : decode cX4_holds 4 = .ok (.getfield 71, 3) := by decide +kernel
theorem dX4_holds_7 : decode cX4_holds 7 = .ok (.if_icmp .ge 21, 3) := by decide +kernel
theorem dX4_holds_10 : decode cX4_holds 10 = .ok (.aload_n 0, 1) := by decide +kernel
theorem dX4_holds_11 : decode cX4_holds 11 = .ok (.iload_n 1, 1) := by decide +kernel
theorem dX4_holds_12 : decode cX4_holds 12 = .ok (.iload_n 3, 1) := by decide +kernel
theorem dX4_holds_13 : decode cX4_holds 13 = .ok (.iload_n 2, 1) := by decide +kernel
theorem dX4_holds_14 : decode cX4_holds 14 = .ok (.invokevirtual 89, 3) := by decide +kernel
theorem dX4_holds_17 : decode cX4_holds 17 = .ok (.ifCond .le 5, 3) := by decide +kernel
theorem dX4_holds_20 : decode cX4_holds 20 = .ok (.iconst 0, 1) := by decide +kernel
theorem dX4_holds_21 : decode cX4_holds 21 = .ok (.ireturn, 1) := by decide +kernel
theorem dX4_holds_22 : decode cX4_holds 22 = .ok (.iinc 3 1, 3) := by decide +kernel
theorem dX4_holds_25 : decode cX4_holds 25 = .ok (.goto (-23), 3) := by decide +kernel
theorem dX4_holds_28 : decode cX4_holds 28 = .ok (.iconst 1, 1) := by decide +kernel
theorem dX4_holds_29 : decode cX4_holds 29 = .ok (.ireturn, 1) := by decide +kernel
set_option maxRecDepth 20000 in
theorem ggX4_answerTo_X4_holds : GoodIn wsX4_answerTo wsX4_holds := goodIn_r _ [8, 9, 10, 11, 12, 7, 13, 14, 15, 16, 17, 18, 19, 20, 21, 22, 23, 24, 25, 26, 27, 28, 29, 30, 31, 32, 33, 34, 35, 36, 37, 38, 39, 40, 41, 42, 43, 44] (by decide +kernel) (by decide +kernel)
set_option maxRecDepth 20000 in
theorem gX4_answerTo_X4_holds : GoodIn wsX4_answerTo (wsV RX4 105 RX4 yX4_holds wsX4_holds) := goodIn_app (goodIn_of _ (by decide +kernel)) ggX4_answerTo_X4_holds
set_option maxRecDepth 20000 in
theorem ggX4_answerTo_X4_sum : GoodIn wsX4_answerTo wsX4_sum := goodIn_r _ [13, 14, 15, 16, 17, 18, 19, 20, 21, 7, 22, 23, 24, 25, 26, 27, 28, 29, 30, 31, 32, 33, 34, 35, 36, 37, 38, 39, 40, 41, 42, 43, 44] (by decide +kernel) (by decide +kernel)
set_option maxRecDepth 20000 in
theorem gX4_answerTo_X4_sum : GoodIn wsX4_answerTo (wsV RX4 89 RX4 yX4_sum wsX4_sum) := goodIn_app (goodIn_of _ (by decide +kernel)) ggX4_answerTo_X4_sum
theorem dX4_answerTo_0 : decode cX4_answerTo 0 = .ok (.ldc 100, 2) := by decide +kernel
theorem dX4_answerTo_2 : decode cX4_answerTo 2 = .ok (.istore_n 3, 1) := by decide +kernel
theorem dX4_answerTo_3 : decode cX4_answerTo 3 = .ok (.iconst 0, 1) := by decide +kernel
theorem dX4_answerTo_4 : decode cX4_answerTo 4 = .ok (.istore 4, 2) := by decide +kernel
theorem dX4_answerTo_6 : decode cX4_answerTo 6 = .ok (.iconst 0, 1) := by decide +kernel
theorem dX4_answerTo_7 : decode cX4_answerTo 7 = .ok (.istore 5, 2) := by decide +kernel
theorem dX4_answerTo_9 : decode cX4_answerTo 9 = .ok (.iload 5, 2) := by decide +kernel
theorem dX4_answerTo_11 : decode cX4_answerTo 11 = .ok (.iconst 1, 1) := by decide +kernel
theorem dX4_answerTo_12 : decode cX4_answerTo 12 = .ok (.aload_n 0, 1) := by decide +kernel
theorem dX4_answerTo_13 : decode cX4_answerTo 13 = .ok (.getfield 62, 3) := by decide +kernel
theorem dX4_answerTo_16 : decode cX4_answerTo 16 = .ok (.ishl, 1) := by decide +kernel
theorem dX4_answerTo_17 : decode cX4_answerTo 17 = .ok (.if_icmp .ge 86, 3) := by decide +kernel
theorem dX4_answerTo_20 : decode cX4_answerTo 20 = .ok (.iload_n 1, 1) := by decide +kernel
theorem dX4_answerTo_21 : decode cX4_answerTo 21 = .ok (.iload 5, 2) := by decide +kernel
theorem dX4_answerTo_23 : decode cX4_answerTo 23 = .ok (.aload_n 0, 1) := by decide +kernel
theorem dX4_answerTo_24 : decode cX4_answerTo 24 = .ok (.getfield 7, 3) := by decide +kernel
theorem dX4_answerTo_27 : decode cX4_answerTo 27 = .ok (.ishl, 1) := by decide +kernel
theorem dX4_answerTo_28 : decode cX4_answerTo 28 = .ok (.ior, 1) := by decide +kernel
theorem dX4_answerTo_29 : decode cX4_answerTo 29 = .ok (.istore 6, 2) := by decide +kernel
theorem dX4_answerTo_31 : decode cX4_answerTo 31 = .ok (.aload_n 0, 1) := by decide +kernel
theorem dX4_answerTo_32 : decode cX4_answerTo 32 = .ok (.iload 6, 2) := by decide +kernel
theorem dX4_answerTo_34 : decode cX4_answerTo 34 = .ok (.iload_n 2, 1) := by decide +kernel
theorem dX4_answerTo_35 : decode cX4_answerTo 35 = .ok (.invokevirtual 105, 3) := by decide +kernel
theorem dX4_answerTo_38 : decode cX4_answerTo 38 = .ok (.ifCond .eq 59, 3) := by decide +kernel
theorem dX4_answerTo_41 : decode cX4_answerTo 41 = .ok (.aload_n 0, 1) := by decide +kernel
theorem dX4_answerTo_42 : decode cX4_answerTo 42 = .ok (.iload 6, 2) := by decide +kernel
theorem dX4_answerTo_44 : decode cX4_answerTo 44 = .ok (.iconst (-1), 1) := by decide +kernel
theorem dX4_answerTo_45 : decode cX4_answerTo 45 = .ok (.iload_n 2, 1) := by decide +kernel
theorem dX4_answerTo_46 : decode cX4_answerTo 46 = .ok (.invokevirtual 89, 3) := by decide +kernel
theorem dX4_answerTo_49 : decode cX4_answerTo 49 = .ok (.istore 7, 2) := by decide +kernel
theorem dX4_answerTo_51 : decode cX4_answerTo 51 = .ok (.iload_n 3, 1) := by decide +kernel
theorem dX4_answerTo_52 : decode cX4_answerTo 52 = .ok (.ldc 100, 2) := by decide +kernel
theorem dX4_answerTo_54 : decode cX4_answerTo 54 = .ok (.if_icmp .eq 10, 3) := by decide +kernel
theorem dX4_answerTo_57 : decode cX4_answerTo 57 = .ok (.iload 7, 2) := by decide +kernel
theorem dX4_answerTo_59 : decode cX4_answerTo 59 = .ok (.iload 4, 2) := by decide +kernel
theorem dX4_answerTo_61 : decode cX4_answerTo 61 = .ok (.if_icmp .ge 7, 3) := by decide +kernel
theorem dX4_answerTo_64 : decode cX4_answerTo 64 = .ok (.iconst 1, 1) := by decide +kernel
theorem dX4_answerTo_65 : decode cX4_answerTo 65 = .ok (.goto 4, 3) := by decide +kernel
theorem dX4_answerTo_68 : decode cX4_answerTo 68 = .ok (.iconst 0, 1) := by decide +kernel
theorem dX4_answerTo_69 : decode cX4_answerTo 69 = .ok (.istore 8, 2) := by decide +kernel
theorem dX4_answerTo_71 : decode cX4_answerTo 71 = .ok (.iload 8, 2) := by decide +kernel
theorem dX4_answerTo_73 : decode cX4_answerTo 73 = .ok (.ifCond .eq 8, 3) := by decide +kernel
theorem dX4_answerTo_76 : decode cX4_answerTo 76 = .ok (.iload 6, 2) := by decide +kernel
theorem dX4_answerTo_78 : decode cX4_answerTo 78 = .ok (.goto 4, 3) := by decide +kernel
theorem dX4_answerTo_81 : decode cX4_answerTo 81 = .ok (.iload_n 3, 1) := by decide +kernel
theorem dX4_answerTo_82 : decode cX4_answerTo 82 = .ok (.istore_n 3, 1) := by decide +kernel
theorem dX4_answerTo_83 : decode cX4_answerTo 83 = .ok (.iload 8, 2) := by decide +kernel
theorem dX4_answerTo_85 : decode cX4_answerTo 85 = .ok (.ifCond .eq 8, 3) := by decide +kernel
theorem dX4_answerTo_88 : decode cX4_answerTo 88 = .ok (.iload 7, 2) := by decide +kernel
theorem dX4_answerTo_90 : decode cX4_answerTo 90 = .ok (.goto 5, 3) := by decide +kernel
theorem dX4_answerTo_93 : decode cX4_answerTo 93 = .ok (.iload 4, 2) := by decide +kernel
theorem dX4_answerTo_95 : decode cX4_answerTo 95 = .ok (.istore 4, 2) := by decide +kernel
theorem dX4_answerTo_97 : decode cX4_answerTo 97 = .ok (.iinc 5 1, 3) := by decide +kernel
theorem dX4_answerTo_100 : decode cX4_answerTo 100 = .ok (.goto (-91), 3) := by decide +kernel
theorem dX4_answerTo_103 : decode cX4_answerTo 103 = .ok (.iload_n 3, 1) := by decide +kernel
theorem dX4_answerTo_104 : decode cX4_answerTo 104 = .ok (.ireturn, 1) := by decide +kernel
set_option maxRecDepth 20000 in
theorem ggX4_isFirst_X4_in : GoodIn wsX4_isFirst wsX4_in := goodIn_r _ [5] (by decide +kernel) (by decide +kernel)
set_option maxRecDepth 20000 in
theorem gX4_isFirst_X4_in : GoodIn wsX4_isFirst (va_wsS RX4 54 yX4_in wsX4_in) := goodIn_app (goodIn_of _ (by decide +kernel)) ggX4_isFirst_X4_in
theorem dX4_isFirst_0 : decode cX4_isFirst 0 = .ok (.iload_n 1, 1) := by decide +kernel
theorem dX4_isFirst_1 : decode cX4_isFirst 1 = .ok (.iconst 0, 1) := by decide +kernel
theorem dX4_isFirst_2 : decode cX4_isFirst 2 = .ok (.iconst 1, 1) := by decide +kernel
theorem dX4_isFirst_3 : decode cX4_isFirst 3 = .ok (.aload_n 0, 1) := by decide +kernel
theorem dX4_isFirst_4 : decode cX4_isFirst 4 = .ok (.getfield 7, 3) := by decide +kernel
theorem dX4_isFirst_7 : decode cX4_isFirst 7 = .ok (.ishl, 1) := by decide +kernel
theorem dX4_isFirst_8 : decode cX4_isFirst 8 = .ok (.iconst 1, 1) := by decide +kernel
theorem dX4_isFirst_9 : decode cX4_isFirst 9 = .ok (.isub, 1) := by decide +kernel
theorem dX4_isFirst_10 : decode cX4_isFirst 10 = .ok (.invokestatic 54, 3) := by decide +kernel
theorem dX4_isFirst_13 : decode cX4_isFirst 13 = .ok (.ireturn, 1) := by decide +kernel
set_option maxRecDepth 20000 in
theorem ggX4_answer_X4_isFirst : GoodIn wsX4_answer wsX4_isFirst := goodIn_r _ [7, 8, 9, 10, 6, 11, 38, 39, 40, 41, 42, 43, 44, 45, 46, 47, 48, 49, 50, 51, 52, 53, 54, 55, 56, 57] (by decide +kernel) (by decide +kernel)
set_option maxRecDepth 20000 in
theorem gX4_answer_X4_isFirst : GoodIn wsX4_answer (wsV RX4 109 RX4 yX4_isFirst wsX4_isFirst) := goodIn_app (goodIn_of _ (by decide +kernel)) ggX4_answer_X4_isFirst
set_option maxRecDepth 20000 in
theorem ggX4_answer_X4_in : GoodIn wsX4_answer wsX4_in := goodIn_r _ [11] (by decide +kernel) (by decide +kernel)
set_option maxRecDepth 20000 in
theorem gX4_answer_X4_in : GoodIn wsX4_answer (va_wsS RX4 54 yX4_in wsX4_in) := goodIn_app (goodIn_of _ (by decide +kernel)) ggX4_answer_X4_in
set_option maxRecDepth 20000 in
theorem ggX4_answer_X4_answerTo : GoodIn wsX4_answer wsX4_answerTo := goodIn_r _ [15, 16, 17, 8, 18, 19, 20, 6, 21, 22, 23, 24, 25, 26, 27, 28, 29, 30, 31, 32, 33, 34, 35, 36, 37, 38, 39, 40, 41, 42, 43, 44, 45, 46, 47, 48, 49, 50, 51, 52, 53, 54, 55, 56, 57] (by decide +kernel) (by decide +kernel)
set_option maxRecDepth 20000 in
theorem gX4_answer_X4_answerTo : GoodIn wsX4_answer (wsV RX4 112 RX4 yX4_answerTo wsX4_answerTo) := goodIn_app (goodIn_of _ (by decide +kernel)) ggX4_answer_X4_answerTo
theorem dX4_answer_0 : decode cX4_answer 0 = .ok (.aload_n 0, 1) := by decide +kernel
theorem dX4_answer_1 : decode cX4_answer 1 = .ok (.iload_n 1, 1) := by decide +kernel
theorem dX4_answer_2 : decode cX4_answer 2 = .ok (.invokevirtual 109, 3) := by decide +kernel
theorem dX4_answer_5 : decode cX4_answer 5 = .ok (.ifCond .eq 26, 3) := by decide +kernel
theorem dX4_answer_8 : decode cX4_answer 8 = .ok (.iload_n 2, 1) := by decide +kernel
theorem dX4_answer_9 : decode cX4_answer 9 = .ok (.iconst 0, 1) := by decide +kernel
theorem dX4_answer_10 : decode cX4_answer 10 = .ok (.aload_n 0, 1) := by decide +kernel
theorem dX4_answer_11 : decode cX4_answer 11 = .ok (.getfield 74, 3) := by decide +kernel
theorem dX4_answer_14 : decode cX4_answer 14 = .ok (.iconst 1, 1) := by decide +kernel
theorem dX4_answer_15 : decode cX4_answer 15 = .ok (.isub, 1) := by decide +kernel
theorem dX4_answer_16 : decode cX4_answer 16 = .ok (.invokestatic 54, 3) := by decide +kernel
theorem dX4_answer_19 : decode cX4_answer 19 = .ok (.ifCond .eq 12, 3) := by decide +kernel
theorem dX4_answer_22 : decode cX4_answer 22 = .ok (.aload_n 0, 1) := by decide +kernel
theorem dX4_answer_23 : decode cX4_answer 23 = .ok (.iload_n 1, 1) := by decide +kernel
theorem dX4_answer_24 : decode cX4_answer 24 = .ok (.iload_n 2, 1) := by decide +kernel
theorem dX4_answer_25 : decode cX4_answer 25 = .ok (.invokevirtual 112, 3) := by decide +kernel
theorem dX4_answer_28 : decode cX4_answer 28 = .ok (.goto 5, 3) := by decide +kernel
theorem dX4_answer_31 : decode cX4_answer 31 = .ok (.ldc 58, 2) := by decide +kernel
theorem dX4_answer_33 : decode cX4_answer 33 = .ok (.ireturn, 1) := by decide +kernel
theorem dX4_allOdds_0 : decode cX4_allOdds 0 = .ok (.iconst 0, 1) := by decide +kernel
theorem dX4_allOdds_1 : decode cX4_allOdds 1 = .ok (.istore_n 1, 1) := by decide +kernel
theorem dX4_allOdds_2 : decode cX4_allOdds 2 = .ok (.iconst 0, 1) := by decide +kernel
theorem dX4_allOdds_3 : decode cX4_allOdds 3 = .ok (.istore_n 2, 1) := by decide +kernel
theorem dX4_allOdds_4 : decode cX4_allOdds 4 = .ok (.iload_n 2, 1) := by decide +kernel
theorem dX4_allOdds_5 : decode cX4_allOdds 5 = .ok (.aload_n 0, 1) := by decide +kernel
theorem dX4_allOdds_6 : decode cX4_allOdds 6 = .ok (.getfield 74, 3) := by decide +kernel
theorem dX4_allOdds_9 : decode cX4_allOdds 9 = .ok (.if_icmp .ge 31, 3) := by decide +kernel
theorem dX4_allOdds_12 : decode cX4_allOdds 12 = .ok (.iload_n 1, 1) := by decide +kernel
theorem dX4_allOdds_13 : decode cX4_allOdds 13 = .ok (.aload_n 0, 1) := by decide +kernel
theorem dX4_allOdds_14 : decode cX4_allOdds 14 = .ok (.getfield 38, 3) := by decide +kernel
theorem dX4_allOdds_17 : decode cX4_allOdds 17 = .ok (.iload_n 2, 1) := by decide +kernel
theorem dX4_allOdds_18 : decode cX4_allOdds 18 = .ok (.baload, 1) := by decide +kernel
theorem dX4_allOdds_19 : decode cX4_allOdds 19 = .ok (.ifCond .eq 7, 3) := by decide +kernel
theorem dX4_allOdds_22 : decode cX4_allOdds 22 = .ok (.iconst 0, 1) := by decide +kernel
theorem dX4_allOdds_23 : decode cX4_allOdds 23 = .ok (.goto 9, 3) := by decide +kernel
theorem dX4_allOdds_26 : decode cX4_allOdds 26 = .ok (.aload_n 0, 1) := by decide +kernel
theorem dX4_allOdds_27 : decode cX4_allOdds 27 = .ok (.getfield 35, 3) := by decide +kernel
theorem dX4_allOdds_30 : decode cX4_allOdds 30 = .ok (.iload_n 2, 1) := by decide +kernel
theorem dX4_allOdds_31 : decode cX4_allOdds 31 = .ok (.iaload, 1) := by decide +kernel
theorem dX4_allOdds_32 : decode cX4_allOdds 32 = .ok (.iadd, 1) := by decide +kernel
theorem dX4_allOdds_33 : decode cX4_allOdds 33 = .ok (.istore_n 1, 1) := by decide +kernel
theorem dX4_allOdds_34 : decode cX4_allOdds 34 = .ok (.iinc 2 1, 3) := by decide +kernel
theorem dX4_allOdds_37 : decode cX4_allOdds 37 = .ok (.goto (-33), 3) := by decide +kernel
theorem dX4_allOdds_40 : decode cX4_allOdds 40 = .ok (.iload_n 1, 1) := by decide +kernel
theorem dX4_allOdds_41 : decode cX4_allOdds 41 = .ok (.ireturn, 1) := by decide +kernel
set_option maxRecDepth 20000 in
theorem ggX4_total_X4_answerTo : GoodIn wsX4_total wsX4_answerTo := goodIn_r _ [9, 3, 10, 11, 12, 13, 14, 8, 15, 16, 17, 18, 19, 20, 21, 22, 23, 24, 25, 26, 27, 28, 29, 30, 31, 32, 33, 34, 35, 36, 37, 38, 39, 40, 41, 42, 43, 44, 45, 46, 47, 48, 49, 50, 51] (by decide +kernel) (by decide +kernel)
set_option maxRecDepth 20000 in
theorem gX4_total_X4_answerTo : GoodIn wsX4_total (wsV RX4 112 RX4 yX4_answerTo wsX4_answerTo) := goodIn_app (goodIn_of _ (by decide +kernel)) ggX4_total_X4_answerTo
set_option maxRecDepth 20000 in
theorem ggX4_total_X4_sum : GoodIn wsX4_total wsX4_sum := goodIn_r _ [20, 21, 22, 23, 24, 25, 26, 27, 28, 8, 29, 30, 31, 32, 33, 34, 35, 36, 37, 38, 39, 40, 41, 42, 43, 44, 45, 46, 47, 48, 49, 50, 51] (by decide +kernel) (by decide +kernel)
set_option maxRecDepth 20000 in
theorem gX4_total_X4_sum : GoodIn wsX4_total (wsV RX4 89 RX4 yX4_sum wsX4_sum) := goodIn_app (goodIn_of _ (by decide +kernel)) ggX4_total_X4_sum
theorem dX4_total_0 : decode cX4_total 0 = .ok (.iconst 0, 1) := by decide +kernel
theorem dX4_total_1 : decode cX4_total 1 = .ok (.istore_n 2, 1) := by decide +kernel
theorem dX4_total_2 : decode cX4_total 2 = .ok (.iconst 0, 1) := by decide +kernel
theorem dX4_total_3 : decode cX4_total 3 = .ok (.istore_n 3, 1) := by decide +kernel
theorem dX4_total_4 : decode cX4_total 4 = .ok (.iload_n 3, 1) := by decide +kernel
theorem dX4_total_5 : decode cX4_total 5 = .ok (.aload_n 0, 1) := by decide +kernel
theorem dX4_total_6 : decode cX4_total 6 = .ok (.getfield 74, 3) := by decide +kernel
theorem dX4_total_9 : decode cX4_total 9 = .ok (.if_icmp .ge 54, 3) := by decide +kernel
theorem dX4_total_12 : decode cX4_total 12 = .ok (.aload_n 0, 1) := by decide +kernel
theorem dX4_total_13 : decode cX4_total 13 = .ok (.getfield 38, 3) := by decide +kernel
theorem dX4_total_16 : decode cX4_total 16 = .ok (.iload_n 3, 1) := by decide +kernel
theorem dX4_total_17 : decode cX4_total 17 = .ok (.baload, 1) := by decide +kernel
theorem dX4_total_18 : decode cX4_total 18 = .ok (.ifCond .ne 39, 3) := by decide +kernel
theorem dX4_total_21 : decode cX4_total 21 = .ok (.aload_n 0, 1) := by decide +kernel
theorem dX4_total_22 : decode cX4_total 22 = .ok (.iload_n 1, 1) := by decide +kernel
theorem dX4_total_23 : decode cX4_total 23 = .ok (.iload_n 3, 1) := by decide +kernel
theorem dX4_total_24 : decode cX4_total 24 = .ok (.invokevirtual 112, 3) := by decide +kernel
theorem dX4_total_27 : decode cX4_total 27 = .ok (.istore 4, 2) := by decide +kernel
theorem dX4_total_29 : decode cX4_total 29 = .ok (.iload 4, 2) := by decide +kernel
theorem dX4_total_31 : decode cX4_total 31 = .ok (.ldc 100, 2) := by decide +kernel
theorem dX4_total_33 : decode cX4_total 33 = .ok (.if_icmp .ne 6, 3) := by decide +kernel
theorem dX4_total_36 : decode cX4_total 36 = .ok (.ldc 100, 2) := by decide +kernel
theorem dX4_total_38 : decode cX4_total 38 = .ok (.ireturn, 1) := by decide +kernel
theorem dX4_total_39 : decode cX4_total 39 = .ok (.iload_n 2, 1) := by decide +kernel
theorem dX4_total_40 : decode cX4_total 40 = .ok (.aload_n 0, 1) := by decide +kernel
theorem dX4_total_41 : decode cX4_total 41 = .ok (.getfield 35, 3) := by decide +kernel
theorem dX4_total_44 : decode cX4_total 44 = .ok (.iload_n 3, 1) := by decide +kernel
theorem dX4_total_45 : decode cX4_total 45 = .ok (.iaload, 1) := by decide +kernel
theorem dX4_total_46 : decode cX4_total 46 = .ok (.aload_n 0, 1) := by decide +kernel
theorem dX4_total_47 : decode cX4_total 47 = .ok (.iload 4, 2) := by decide +kernel
theorem dX4_total_49 : decode cX4_total 49 = .ok (.iconst (-1), 1) := by decide +kernel
theorem dX4_total_50 : decode cX4_total 50 = .ok (.iload_n 3, 1) := by decide +kernel
theorem dX4_total_51 : decode cX4_total 51 = .ok (.invokevirtual 89, 3) := by decide +kernel
theorem dX4_total_54 : decode cX4_total 54 = .ok (.imul, 1) := by decide +kernel
theorem dX4_total_55 : decode cX4_total 55 = .ok (.iadd, 1) := by decide +kernel
theorem dX4_total_56 : decode cX4_total 56 = .ok (.istore_n 2, 1) := by decide +kernel
theorem dX4_total_57 : decode cX4_total 57 = .ok (.iinc 3 1, 3) := by decide +kernel
theorem dX4_total_60 : decode cX4_total 60 = .ok (.goto (-56), 3) := by decide +kernel
theorem dX4_total_63 : decode cX4_total 63 = .ok (.iload_n 2, 1) := by decide +kernel
theorem dX4_total_64 : decode cX4_total 64 = .ok (.ireturn, 1) := by decide +kernel
set_option maxRecDepth 20000 in
theorem ggX4_twoStep_X4_counted : GoodIn wsX4_twoStep wsX4_counted := goodIn_r _ [7, 8, 9, 40, 41, 42, 43, 44, 45, 46, 47, 48, 49, 50, 51, 52, 53, 54, 55, 56, 57, 58, 59] (by decide +kernel) (by decide +kernel)
set_option maxRecDepth 20000 in
theorem gX4_twoStep_X4_counted : GoodIn wsX4_twoStep (wsV RX4 78 RX4 yX4_counted wsX4_counted) := goodIn_app (goodIn_of _ (by decide +kernel)) ggX4_twoStep_X4_counted
set_option maxRecDepth 20000 in
theorem ggX4_twoStep_X4_total : GoodIn wsX4_twoStep wsX4_total := goodIn_r _ [13, 8, 9, 1, 14, 15, 16, 17, 6, 18, 19, 2, 20, 21, 22, 23, 24, 25, 26, 27, 28, 29, 30, 31, 32, 33, 34, 35, 36, 37, 38, 39, 40, 41, 42, 43, 44, 45, 46, 47, 48, 49, 50, 51, 52, 53, 54, 55, 56, 57, 58, 59] (by decide +kernel) (by decide +kernel)
set_option maxRecDepth 20000 in
theorem gX4_twoStep_X4_total : GoodIn wsX4_twoStep (wsV RX4 115 RX4 yX4_total wsX4_total) := goodIn_app (goodIn_of _ (by decide +kernel)) ggX4_twoStep_X4_total
theorem dX4_twoStep_0 : decode cX4_twoStep 0 = .ok (.ldc 100, 2) := by decide +kernel
theorem dX4_twoStep_2 : decode cX4_twoStep 2 = .ok (.istore_n 1, 1) := by decide +kernel
theorem dX4_twoStep_3 : decode cX4_twoStep 3 = .ok (.iconst 0, 1) := by decide +kernel
theorem dX4_twoStep_4 : decode cX4_twoStep 4 = .ok (.istore_n 2, 1) := by decide +kernel
theorem dX4_twoStep_5 : decode cX4_twoStep 5 = .ok (.iconst 0, 1) := by decide +kernel
theorem dX4_twoStep_6 : decode cX4_twoStep 6 = .ok (.istore_n 3, 1) := by decide +kernel
theorem dX4_twoStep_7 : decode cX4_twoStep 7 = .ok (.iload_n 3, 1) := by decide +kernel
theorem dX4_twoStep_8 : decode cX4_twoStep 8 = .ok (.iconst 1, 1) := by decide +kernel
theorem dX4_twoStep_9 : decode cX4_twoStep 9 = .ok (.aload_n 0, 1) := by decide +kernel
theorem dX4_twoStep_10 : decode cX4_twoStep 10 = .ok (.getfield 7, 3) := by decide +kernel
theorem dX4_twoStep_13 : decode cX4_twoStep 13 = .ok (.ishl, 1) := by decide +kernel
theorem dX4_twoStep_14 : decode cX4_twoStep 14 = .ok (.if_icmp .ge 72, 3) := by decide +kernel
theorem dX4_twoStep_17 : decode cX4_twoStep 17 = .ok (.aload_n 0, 1) := by decide +kernel
theorem dX4_twoStep_18 : decode cX4_twoStep 18 = .ok (.invokevirtual 78, 3) := by decide +kernel
theorem dX4_twoStep_21 : decode cX4_twoStep 21 = .ok (.ifCond .le 65, 3) := by decide +kernel
theorem dX4_twoStep_24 : decode cX4_twoStep 24 = .ok (.aload_n 0, 1) := by decide +kernel
theorem dX4_twoStep_25 : decode cX4_twoStep 25 = .ok (.iload_n 3, 1) := by decide +kernel
theorem dX4_twoStep_26 : decode cX4_twoStep 26 = .ok (.invokevirtual 115, 3) := by decide +kernel
theorem dX4_twoStep_29 : decode cX4_twoStep 29 = .ok (.istore 4, 2) := by decide +kernel
theorem dX4_twoStep_31 : decode cX4_twoStep 31 = .ok (.iload 4, 2) := by decide +kernel
theorem dX4_twoStep_33 : decode cX4_twoStep 33 = .ok (.ldc 100, 2) := by decide +kernel
theorem dX4_twoStep_35 : decode cX4_twoStep 35 = .ok (.if_icmp .eq 19, 3) := by decide +kernel
theorem dX4_twoStep_38 : decode cX4_twoStep 38 = .ok (.iload_n 1, 1) := by decide +kernel
theorem dX4_twoStep_39 : decode cX4_twoStep 39 = .ok (.ldc 100, 2) := by decide +kernel
theorem dX4_twoStep_41 : decode cX4_twoStep 41 = .ok (.if_icmp .eq 9, 3) := by decide +kernel
theorem dX4_twoStep_44 : decode cX4_twoStep 44 = .ok (.iload 4, 2) := by decide +kernel
theorem dX4_twoStep_46 : decode cX4_twoStep 46 = .ok (.iload_n 2, 1) := by decide +kernel
theorem dX4_twoStep_47 : decode cX4_twoStep 47 = .ok (.if_icmp .ge 7, 3) := by decide +kernel
theorem dX4_twoStep_50 : decode cX4_twoStep 50 = .ok (.iconst 1, 1) := by decide +kernel
theorem dX4_twoStep_51 : decode cX4_twoStep 51 = .ok (.goto 4, 3) := by decide +kernel
theorem dX4_twoStep_54 : decode cX4_twoStep 54 = .ok (.iconst 0, 1) := by decide +kernel
theorem dX4_twoStep_55 : decode cX4_twoStep 55 = .ok (.istore 5, 2) := by decide +kernel
theorem dX4_twoStep_57 : decode cX4_twoStep 57 = .ok (.iload 5, 2) := by decide +kernel
theorem dX4_twoStep_59 : decode cX4_twoStep 59 = .ok (.ifCond .eq 7, 3) := by decide +kernel
theorem dX4_twoStep_62 : decode cX4_twoStep 62 = .ok (.iload_n 3, 1) := by decide +kernel
theorem dX4_twoStep_63 : decode cX4_twoStep 63 = .ok (.goto 4, 3) := by decide +kernel
theorem dX4_twoStep_66 : decode cX4_twoStep 66 = .ok (.iload_n 1, 1) := by decide +kernel
theorem dX4_twoStep_67 : decode cX4_twoStep 67 = .ok (.istore_n 1, 1) := by decide +kernel
theorem dX4_twoStep_68 : decode cX4_twoStep 68 = .ok (.iload 5, 2) := by decide +kernel
theorem dX4_twoStep_70 : decode cX4_twoStep 70 = .ok (.ifCond .eq 8, 3) := by decide +kernel
theorem dX4_twoStep_73 : decode cX4_twoStep 73 = .ok (.iload 4, 2) := by decide +kernel
theorem dX4_twoStep_75 : decode cX4_twoStep 75 = .ok (.goto 4, 3) := by decide +kernel
theorem dX4_twoStep_78 : decode cX4_twoStep 78 = .ok (.iload_n 2, 1) := by decide +kernel
theorem dX4_twoStep_79 : decode cX4_twoStep 79 = .ok (.istore_n 2, 1) := by decide +kernel
theorem dX4_twoStep_80 : decode cX4_twoStep 80 = .ok (.iinc 3 1, 3) := by decide +kernel
theorem dX4_twoStep_83 : decode cX4_twoStep 83 = .ok (.goto (-76), 3) := by decide +kernel
theorem dX4_twoStep_86 : decode cX4_twoStep 86 = .ok (.iload_n 1, 1) := by decide +kernel
theorem dX4_twoStep_87 : decode cX4_twoStep 87 = .ok (.ireturn, 1) := by decide +kernel
theorem dX4_lowest_0 : decode cX4_lowest 0 = .ok (.iload_n 0, 1) := by decide +kernel
theorem dX4_lowest_1 : decode cX4_lowest 1 = .ok (.ifCond .ge 8, 3) := by decide +kernel
theorem dX4_lowest_4 : decode cX4_lowest 4 = .ok (.iload_n 0, 1) := by decide +kernel
theorem dX4_lowest_5 : decode cX4_lowest 5 = .ok (.ineg, 1) := by decide +kernel
theorem dX4_lowest_6 : decode cX4_lowest 6 = .ok (.goto 4, 3) := by decide +kernel
theorem dX4_lowest_9 : decode cX4_lowest 9 = .ok (.iload_n 0, 1) := by decide +kernel
theorem dX4_lowest_10 : decode cX4_lowest 10 = .ok (.istore_n 3, 1) := by decide +kernel
theorem dX4_lowest_11 : decode cX4_lowest 11 = .ok (.iload_n 1, 1) := by decide +kernel
theorem dX4_lowest_12 : decode cX4_lowest 12 = .ok (.istore 4, 2) := by decide +kernel
theorem dX4_lowest_14 : decode cX4_lowest 14 = .ok (.iload 4, 2) := by decide +kernel
theorem dX4_lowest_16 : decode cX4_lowest 16 = .ok (.ifCond .eq 19, 3) := by decide +kernel
theorem dX4_lowest_19 : decode cX4_lowest 19 = .ok (.iload_n 3, 1) := by decide +kernel
theorem dX4_lowest_20 : decode cX4_lowest 20 = .ok (.iload 4, 2) := by decide +kernel
theorem dX4_lowest_22 : decode cX4_lowest 22 = .ok (.irem, 1) := by decide +kernel
theorem dX4_lowest_23 : decode cX4_lowest 23 = .ok (.istore 5, 2) := by decide +kernel
theorem dX4_lowest_25 : decode cX4_lowest 25 = .ok (.iload 4, 2) := by decide +kernel
theorem dX4_lowest_27 : decode cX4_lowest 27 = .ok (.istore_n 3, 1) := by decide +kernel
theorem dX4_lowest_28 : decode cX4_lowest 28 = .ok (.iload 5, 2) := by decide +kernel
theorem dX4_lowest_30 : decode cX4_lowest 30 = .ok (.istore 4, 2) := by decide +kernel
theorem dX4_lowest_32 : decode cX4_lowest 32 = .ok (.goto (-18), 3) := by decide +kernel
theorem dX4_lowest_35 : decode cX4_lowest 35 = .ok (.iload_n 2, 1) := by decide +kernel
theorem dX4_lowest_36 : decode cX4_lowest 36 = .ok (.ifCond .ne 7, 3) := by decide +kernel
theorem dX4_lowest_39 : decode cX4_lowest 39 = .ok (.iload_n 0, 1) := by decide +kernel
theorem dX4_lowest_40 : decode cX4_lowest 40 = .ok (.goto 4, 3) := by decide +kernel
theorem dX4_lowest_43 : decode cX4_lowest 43 = .ok (.iload_n 1, 1) := by decide +kernel
theorem dX4_lowest_44 : decode cX4_lowest 44 = .ok (.iload_n 3, 1) := by decide +kernel
theorem dX4_lowest_45 : decode cX4_lowest 45 = .ok (.idiv, 1) := by decide +kernel
theorem dX4_lowest_46 : decode cX4_lowest 46 = .ok (.ireturn, 1) := by decide +kernel
set_option maxRecDepth 20000 in
theorem ggX4_mean_X4_isFirst : GoodIn wsX4_mean wsX4_isFirst := goodIn_r _ [7, 8, 9, 10, 6, 11, 55, 56, 57, 58, 59, 60, 61, 62, 63, 64, 65, 66, 67, 68, 69, 70, 71, 72, 73, 74] (by decide +kernel) (by decide +kernel)
set_option maxRecDepth 20000 in
theorem gX4_mean_X4_isFirst : GoodIn wsX4_mean (wsV RX4 109 RX4 yX4_isFirst wsX4_isFirst) := goodIn_app (goodIn_of _ (by decide +kernel)) ggX4_mean_X4_isFirst
set_option maxRecDepth 20000 in
theorem ggX4_mean_X4_in : GoodIn wsX4_mean wsX4_in := goodIn_r _ [11] (by decide +kernel) (by decide +kernel)
set_option maxRecDepth 20000 in
theorem gX4_mean_X4_in : GoodIn wsX4_mean (va_wsS RX4 54 yX4_in wsX4_in) := goodIn_app (goodIn_of _ (by decide +kernel)) ggX4_mean_X4_in
set_option maxRecDepth 20000 in
theorem ggX4_mean_X4_counted : GoodIn wsX4_mean wsX4_counted := goodIn_r _ [15, 16, 17, 55, 56, 57, 58, 59, 60, 61, 62, 63, 64, 65, 66, 67, 68, 69, 70, 71, 72, 73, 74] (by decide +kernel) (by decide +kernel)
set_option maxRecDepth 20000 in
theorem gX4_mean_X4_counted : GoodIn wsX4_mean (wsV RX4 78 RX4 yX4_counted wsX4_counted) := goodIn_app (goodIn_of _ (by decide +kernel)) ggX4_mean_X4_counted
set_option maxRecDepth 20000 in
theorem ggX4_mean_X4_total : GoodIn wsX4_mean wsX4_total := goodIn_r _ [21, 16, 17, 2, 22, 23, 24, 25, 6, 26, 27, 8, 28, 29, 30, 31, 32, 33, 34, 35, 36, 37, 38, 39, 40, 41, 42, 43, 44, 45, 46, 47, 55, 56, 57, 58, 59, 60, 61, 62, 63, 64, 65, 66, 67, 68, 69, 70, 71, 72, 73, 74] (by decide +kernel) (by decide +kernel)
set_option maxRecDepth 20000 in
theorem gX4_mean_X4_total : GoodIn wsX4_mean (wsV RX4 115 RX4 yX4_total wsX4_total) := goodIn_app (goodIn_of _ (by decide +kernel)) ggX4_mean_X4_total
set_option maxRecDepth 20000 in
theorem ggX4_mean_X4_allOdds : GoodIn wsX4_mean wsX4_allOdds := goodIn_r _ [51, 16, 17, 22, 55, 56, 57, 58, 59, 60, 61, 62, 63, 64, 65, 66, 67, 68, 69, 70, 71, 72, 73, 74] (by decide +kernel) (by decide +kernel)
set_option maxRecDepth 20000 in
theorem gX4_mean_X4_allOdds : GoodIn wsX4_mean (wsV RX4 118 RX4 yX4_allOdds wsX4_allOdds) := goodIn_app (goodIn_of _ (by decide +kernel)) ggX4_mean_X4_allOdds
set_option maxRecDepth 20000 in
theorem ggX4_mean_X4_lowest : GoodIn wsX4_mean wsX4_lowest := goodIn_r _ [54] (by decide +kernel) (by decide +kernel)
set_option maxRecDepth 20000 in
theorem gX4_mean_X4_lowest : GoodIn wsX4_mean (va_wsS RX4 121 yX4_lowest wsX4_lowest) := goodIn_app (goodIn_of _ (by decide +kernel)) ggX4_mean_X4_lowest
theorem dX4_mean_0 : decode cX4_mean 0 = .ok (.aload_n 0, 1) := by decide +kernel
theorem dX4_mean_1 : decode cX4_mean 1 = .ok (.iload_n 1, 1) := by decide +kernel
theorem dX4_mean_2 : decode cX4_mean 2 = .ok (.invokevirtual 109, 3) := by decide +kernel
theorem dX4_mean_5 : decode cX4_mean 5 = .ok (.ifCond .eq 12, 3) := by decide +kernel
theorem dX4_mean_8 : decode cX4_mean 8 = .ok (.iload_n 2, 1) := by decide +kernel
theorem dX4_mean_9 : decode cX4_mean 9 = .ok (.iconst 0, 1) := by decide +kernel
theorem dX4_mean_10 : decode cX4_mean 10 = .ok (.iconst 1, 1) := by decide +kernel
theorem dX4_mean_11 : decode cX4_mean 11 = .ok (.invokestatic 54, 3) := by decide +kernel
theorem dX4_mean_14 : decode cX4_mean 14 = .ok (.ifCond .ne 6, 3) := by decide +kernel
theorem dX4_mean_17 : decode cX4_mean 17 = .ok (.ldc 58, 2) := by decide +kernel
theorem dX4_mean_19 : decode cX4_mean 19 = .ok (.ireturn, 1) := by decide +kernel
theorem dX4_mean_20 : decode cX4_mean 20 = .ok (.aload_n 0, 1) := by decide +kernel
theorem dX4_mean_21 : decode cX4_mean 21 = .ok (.invokevirtual 78, 3) := by decide +kernel
theorem dX4_mean_24 : decode cX4_mean 24 = .ok (.ifCond .ne 8, 3) := by decide +kernel
theorem dX4_mean_27 : decode cX4_mean 27 = .ok (.ldc 100, 2) := by decide +kernel
theorem dX4_mean_29 : decode cX4_mean 29 = .ok (.goto 8, 3) := by decide +kernel
theorem dX4_mean_32 : decode cX4_mean 32 = .ok (.aload_n 0, 1) := by decide +kernel
theorem dX4_mean_33 : decode cX4_mean 33 = .ok (.iload_n 1, 1) := by decide +kernel
theorem dX4_mean_34 : decode cX4_mean 34 = .ok (.invokevirtual 115, 3) := by decide +kernel
theorem dX4_mean_37 : decode cX4_mean 37 = .ok (.istore_n 3, 1) := by decide +kernel
theorem dX4_mean_38 : decode cX4_mean 38 = .ok (.iload_n 3, 1) := by decide +kernel
theorem dX4_mean_39 : decode cX4_mean 39 = .ok (.ldc 100, 2) := by decide +kernel
theorem dX4_mean_41 : decode cX4_mean 41 = .ok (.if_icmp .ne 8, 3) := by decide +kernel
theorem dX4_mean_44 : decode cX4_mean 44 = .ok (.ldc 100, 2) := by decide +kernel
theorem dX4_mean_46 : decode cX4_mean 46 = .ok (.goto 12, 3) := by decide +kernel
theorem dX4_mean_49 : decode cX4_mean 49 = .ok (.iload_n 3, 1) := by decide +kernel
theorem dX4_mean_50 : decode cX4_mean 50 = .ok (.aload_n 0, 1) := by decide +kernel
theorem dX4_mean_51 : decode cX4_mean 51 = .ok (.invokevirtual 118, 3) := by decide +kernel
theorem dX4_mean_54 : decode cX4_mean 54 = .ok (.iload_n 2, 1) := by decide +kernel
theorem dX4_mean_55 : decode cX4_mean 55 = .ok (.invokestatic 121, 3) := by decide +kernel
theorem dX4_mean_58 : decode cX4_mean 58 = .ok (.ireturn, 1) := by decide +kernel
set_option maxRecDepth 20000 in
theorem ggX4_bestOf_X4_answerTo : GoodIn wsX4_bestOf wsX4_answerTo := goodIn_r _ [7, 1, 8, 2, 9, 10, 11, 6, 12, 13, 14, 15, 16, 17, 18, 19, 20, 21, 22, 23, 24, 25, 26, 27, 28, 29, 30, 31, 32, 33, 34, 35, 36, 37, 38, 39, 40, 41, 42, 43, 44, 45, 46, 47, 48] (by decide +kernel) (by decide +kernel)
set_option maxRecDepth 20000 in
theorem gX4_bestOf_X4_answerTo : GoodIn wsX4_bestOf (wsV RX4 112 RX4 yX4_answerTo wsX4_answerTo) := goodIn_app (goodIn_of _ (by decide +kernel)) ggX4_bestOf_X4_answerTo
set_option maxRecDepth 20000 in
theorem ggX4_bestOf_X4_sum : GoodIn wsX4_bestOf wsX4_sum := goodIn_r _ [17, 18, 19, 20, 21, 22, 23, 24, 25, 6, 26, 27, 28, 29, 30, 31, 32, 33, 34, 35, 36, 37, 38, 39, 40, 41, 42, 43, 44, 45, 46, 47, 48] (by decide +kernel) (by decide +kernel)
set_option maxRecDepth 20000 in
theorem gX4_bestOf_X4_sum : GoodIn wsX4_bestOf (wsV RX4 89 RX4 yX4_sum wsX4_sum) := goodIn_app (goodIn_of _ (by decide +kernel)) ggX4_bestOf_X4_sum
theorem dX4_bestOf_0 : decode cX4_bestOf 0 = .ok (.ldc 100, 2) := by decide +kernel
theorem dX4_bestOf_2 : decode cX4_bestOf 2 = .ok (.istore_n 2, 1) := by decide +kernel
theorem dX4_bestOf_3 : decode cX4_bestOf 3 = .ok (.iconst 0, 1) := by decide +kernel
theorem dX4_bestOf_4 : decode cX4_bestOf 4 = .ok (.istore_n 3, 1) := by decide +kernel
theorem dX4_bestOf_5 : decode cX4_bestOf 5 = .ok (.iload_n 3, 1) := by decide +kernel
theorem dX4_bestOf_6 : decode cX4_bestOf 6 = .ok (.iconst 1, 1) := by decide +kernel
theorem dX4_bestOf_7 : decode cX4_bestOf 7 = .ok (.aload_n 0, 1) := by decide +kernel
theorem dX4_bestOf_8 : decode cX4_bestOf 8 = .ok (.getfield 7, 3) := by decide +kernel
theorem dX4_bestOf_11 : decode cX4_bestOf 11 = .ok (.ishl, 1) := by decide +kernel
theorem dX4_bestOf_12 : decode cX4_bestOf 12 = .ok (.if_icmp .ge 64, 3) := by decide +kernel
theorem dX4_bestOf_15 : decode cX4_bestOf 15 = .ok (.aload_n 0, 1) := by decide +kernel
theorem dX4_bestOf_16 : decode cX4_bestOf 16 = .ok (.iload_n 3, 1) := by decide +kernel
theorem dX4_bestOf_17 : decode cX4_bestOf 17 = .ok (.iload_n 1, 1) := by decide +kernel
theorem dX4_bestOf_18 : decode cX4_bestOf 18 = .ok (.invokevirtual 112, 3) := by decide +kernel
theorem dX4_bestOf_21 : decode cX4_bestOf 21 = .ok (.istore 4, 2) := by decide +kernel
theorem dX4_bestOf_23 : decode cX4_bestOf 23 = .ok (.iload 4, 2) := by decide +kernel
theorem dX4_bestOf_25 : decode cX4_bestOf 25 = .ok (.ldc 100, 2) := by decide +kernel
theorem dX4_bestOf_27 : decode cX4_bestOf 27 = .ok (.if_icmp .ne 7, 3) := by decide +kernel
theorem dX4_bestOf_30 : decode cX4_bestOf 30 = .ok (.iconst 0, 1) := by decide +kernel
theorem dX4_bestOf_31 : decode cX4_bestOf 31 = .ok (.goto 11, 3) := by decide +kernel
theorem dX4_bestOf_34 : decode cX4_bestOf 34 = .ok (.aload_n 0, 1) := by decide +kernel
theorem dX4_bestOf_35 : decode cX4_bestOf 35 = .ok (.iload 4, 2) := by decide +kernel
theorem dX4_bestOf_37 : decode cX4_bestOf 37 = .ok (.iconst (-1), 1) := by decide +kernel
theorem dX4_bestOf_38 : decode cX4_bestOf 38 = .ok (.iload_n 1, 1) := by decide +kernel
theorem dX4_bestOf_39 : decode cX4_bestOf 39 = .ok (.invokevirtual 89, 3) := by decide +kernel
theorem dX4_bestOf_42 : decode cX4_bestOf 42 = .ok (.istore 5, 2) := by decide +kernel
theorem dX4_bestOf_44 : decode cX4_bestOf 44 = .ok (.iload 4, 2) := by decide +kernel
theorem dX4_bestOf_46 : decode cX4_bestOf 46 = .ok (.ldc 100, 2) := by decide +kernel
theorem dX4_bestOf_48 : decode cX4_bestOf 48 = .ok (.if_icmp .eq 20, 3) := by decide +kernel
theorem dX4_bestOf_51 : decode cX4_bestOf 51 = .ok (.iload_n 2, 1) := by decide +kernel
theorem dX4_bestOf_52 : decode cX4_bestOf 52 = .ok (.ldc 100, 2) := by decide +kernel
theorem dX4_bestOf_54 : decode cX4_bestOf 54 = .ok (.if_icmp .eq 9, 3) := by decide +kernel
theorem dX4_bestOf_57 : decode cX4_bestOf 57 = .ok (.iload 5, 2) := by decide +kernel
theorem dX4_bestOf_59 : decode cX4_bestOf 59 = .ok (.iload_n 2, 1) := by decide +kernel
theorem dX4_bestOf_60 : decode cX4_bestOf 60 = .ok (.if_icmp .ge 8, 3) := by decide +kernel
theorem dX4_bestOf_63 : decode cX4_bestOf 63 = .ok (.iload 5, 2) := by decide +kernel
theorem dX4_bestOf_65 : decode cX4_bestOf 65 = .ok (.goto 4, 3) := by decide +kernel
theorem dX4_bestOf_68 : decode cX4_bestOf 68 = .ok (.iload_n 2, 1) := by decide +kernel
theorem dX4_bestOf_69 : decode cX4_bestOf 69 = .ok (.istore_n 2, 1) := by decide +kernel
theorem dX4_bestOf_70 : decode cX4_bestOf 70 = .ok (.iinc 3 1, 3) := by decide +kernel
theorem dX4_bestOf_73 : decode cX4_bestOf 73 = .ok (.goto (-68), 3) := by decide +kernel
theorem dX4_bestOf_76 : decode cX4_bestOf 76 = .ok (.iload_n 2, 1) := by decide +kernel
theorem dX4_bestOf_77 : decode cX4_bestOf 77 = .ok (.ireturn, 1) := by decide +kernel
set_option maxRecDepth 20000 in
theorem ggX4_best_X4_in : GoodIn wsX4_best wsX4_in := goodIn_r _ [6] (by decide +kernel) (by decide +kernel)
set_option maxRecDepth 20000 in
theorem gX4_best_X4_in : GoodIn wsX4_best (va_wsS RX4 54 yX4_in wsX4_in) := goodIn_app (goodIn_of _ (by decide +kernel)) ggX4_best_X4_in
set_option maxRecDepth 20000 in
theorem ggX4_best_X4_bestOf : GoodIn wsX4_best wsX4_bestOf := goodIn_r _ [10, 11, 12, 13, 14, 15, 5, 16, 17, 18, 19, 20, 21, 22, 23, 24, 25, 26, 27, 28, 29, 30, 31, 32, 33, 34, 35, 36, 37, 38, 39, 40, 41, 42, 43, 44, 45, 46, 47, 48, 49, 50, 51, 52, 53, 54, 55, 56, 57] (by decide +kernel) (by decide +kernel)
set_option maxRecDepth 20000 in
theorem gX4_best_X4_bestOf : GoodIn wsX4_best (wsV RX4 124 RX4 yX4_bestOf wsX4_bestOf) := goodIn_app (goodIn_of _ (by decide +kernel)) ggX4_best_X4_bestOf
theorem dX4_best_0 : decode cX4_best 0 = .ok (.iload_n 1, 1) := by decide +kernel
theorem dX4_best_1 : decode cX4_best 1 = .ok (.iconst 0, 1) := by decide +kernel
theorem dX4_best_2 : decode cX4_best 2 = .ok (.aload_n 0, 1) := by decide +kernel
theorem dX4_best_3 : decode cX4_best 3 = .ok (.getfield 74, 3) := by decide +kernel
theorem dX4_best_6 : decode cX4_best 6 = .ok (.iconst 1, 1) := by decide +kernel
theorem dX4_best_7 : decode cX4_best 7 = .ok (.isub, 1) := by decide +kernel
theorem dX4_best_8 : decode cX4_best 8 = .ok (.invokestatic 54, 3) := by decide +kernel
theorem dX4_best_11 : decode cX4_best 11 = .ok (.ifCond .eq 11, 3) := by decide +kernel
theorem dX4_best_14 : decode cX4_best 14 = .ok (.aload_n 0, 1) := by decide +kernel
theorem dX4_best_15 : decode cX4_best 15 = .ok (.iload_n 1, 1) := by decide +kernel
theorem dX4_best_16 : decode cX4_best 16 = .ok (.invokevirtual 124, 3) := by decide +kernel
theorem dX4_best_19 : decode cX4_best 19 = .ok (.goto 5, 3) := by decide +kernel
theorem dX4_best_22 : decode cX4_best 22 = .ok (.ldc 58, 2) := by decide +kernel
theorem dX4_best_24 : decode cX4_best 24 = .ok (.ireturn, 1) := by decide +kernel
set_option maxRecDepth 20000 in
theorem ggX4_findBests_X4_bestOf : GoodIn wsX4_findBests wsX4_bestOf := goodIn_r _ [7, 8, 9, 10, 11, 12, 6, 13, 14, 15, 16, 17, 18, 19, 20, 21, 22, 23, 24, 25, 26, 27, 28, 29, 30, 31, 32, 33, 34, 35, 36, 37, 38, 39, 40, 41, 42, 43, 44, 45, 46, 47, 48, 49, 50, 51, 52, 53, 54] (by decide +kernel) (by decide +kernel)
set_option maxRecDepth 20000 in
theorem gX4_findBests_X4_bestOf : GoodIn wsX4_findBests (wsV RX4 124 RX4 yX4_bestOf wsX4_bestOf) := goodIn_app (goodIn_of _ (by decide +kernel)) ggX4_findBests_X4_bestOf
theorem dX4_findBests_0 : decode cX4_findBests 0 = .ok (.iconst 0, 1) := by decide +kernel
theorem dX4_findBests_1 : decode cX4_findBests 1 = .ok (.istore_n 1, 1) := by decide +kernel
theorem dX4_findBests_2 : decode cX4_findBests 2 = .ok (.iload_n 1, 1) := by decide +kernel
theorem dX4_findBests_3 : decode cX4_findBests 3 = .ok (.aload_n 0, 1) := by decide +kernel
theorem dX4_findBests_4 : decode cX4_findBests 4 = .ok (.getfield 74, 3) := by decide +kernel
theorem dX4_findBests_7 : decode cX4_findBests 7 = .ok (.if_icmp .ge 20, 3) := by decide +kernel
theorem dX4_findBests_10 : decode cX4_findBests 10 = .ok (.aload_n 0, 1) := by decide +kernel
theorem dX4_findBests_11 : decode cX4_findBests 11 = .ok (.getfield 51, 3) := by decide +kernel
theorem dX4_findBests_14 : decode cX4_findBests 14 = .ok (.iload_n 1, 1) := by decide +kernel
theorem dX4_findBests_15 : decode cX4_findBests 15 = .ok (.aload_n 0, 1) := by decide +kernel
theorem dX4_findBests_16 : decode cX4_findBests 16 = .ok (.iload_n 1, 1) := by decide +kernel
theorem dX4_findBests_17 : decode cX4_findBests 17 = .ok (.invokevirtual 124, 3) := by decide +kernel
theorem dX4_findBests_20 : decode cX4_findBests 20 = .ok (.iastore, 1) := by decide +kernel
theorem dX4_findBests_21 : decode cX4_findBests 21 = .ok (.iinc 1 1, 3) := by decide +kernel
theorem dX4_findBests_24 : decode cX4_findBests 24 = .ok (.goto (-22), 3) := by decide +kernel
theorem dX4_findBests_27 : decode cX4_findBests 27 = .ok (.return_, 1) := by decide +kernel
set_option maxRecDepth 20000 in
theorem ggX4_regretOf_X4_counted : GoodIn wsX4_regretOf wsX4_counted := goodIn_r _ [9, 2, 3, 41, 42, 43, 44, 45, 46, 47, 48, 49, 50, 51, 52, 53, 54, 55, 56, 57, 58, 59, 60] (by decide +kernel) (by decide +kernel)
set_option maxRecDepth 20000 in
theorem gX4_regretOf_X4_counted : GoodIn wsX4_regretOf (wsV RX4 78 RX4 yX4_counted wsX4_counted) := goodIn_app (goodIn_of _ (by decide +kernel)) ggX4_regretOf_X4_counted
set_option maxRecDepth 20000 in
theorem ggX4_regretOf_X4_total : GoodIn wsX4_regretOf wsX4_total := goodIn_r _ [13, 2, 3, 1, 14, 15, 16, 17, 8, 18, 19, 20, 21, 22, 23, 24, 25, 26, 27, 28, 29, 30, 31, 32, 33, 34, 35, 36, 37, 38, 39, 40, 41, 42, 43, 44, 45, 46, 47, 48, 49, 50, 51, 52, 53, 54, 55, 56, 57, 58, 59, 60] (by decide +kernel) (by decide +kernel)
set_option maxRecDepth 20000 in
theorem gX4_regretOf_X4_total : GoodIn wsX4_regretOf (wsV RX4 115 RX4 yX4_total wsX4_total) := goodIn_app (goodIn_of _ (by decide +kernel)) ggX4_regretOf_X4_total
set_option maxRecDepth 20000 in
theorem ggX4_regretOf_X4_answerTo : GoodIn wsX4_regretOf wsX4_answerTo := goodIn_r _ [18, 1, 19, 20, 21, 22, 23, 8, 24, 25, 26, 27, 28, 29, 30, 31, 32, 33, 34, 35, 36, 37, 38, 39, 40, 41, 42, 43, 44, 45, 46, 47, 48, 49, 50, 51, 52, 53, 54, 55, 56, 57, 58, 59, 60] (by decide +kernel) (by decide +kernel)
set_option maxRecDepth 20000 in
theorem gX4_regretOf_X4_answerTo : GoodIn wsX4_regretOf (wsV RX4 112 RX4 yX4_answerTo wsX4_answerTo) := goodIn_app (goodIn_of _ (by decide +kernel)) ggX4_regretOf_X4_answerTo
set_option maxRecDepth 20000 in
theorem ggX4_regretOf_X4_sum : GoodIn wsX4_regretOf wsX4_sum := goodIn_r _ [29, 30, 31, 32, 33, 34, 35, 36, 37, 8, 38, 39, 40, 41, 42, 43, 44, 45, 46, 47, 48, 49, 50, 51, 52, 53, 54, 55, 56, 57, 58, 59, 60] (by decide +kernel) (by decide +kernel)
set_option maxRecDepth 20000 in
theorem gX4_regretOf_X4_sum : GoodIn wsX4_regretOf (wsV RX4 89 RX4 yX4_sum wsX4_sum) := goodIn_app (goodIn_of _ (by decide +kernel)) ggX4_regretOf_X4_sum
theorem dX4_regretOf_0 : decode cX4_regretOf 0 = .ok (.aload_n 0, 1) := by decide +kernel
theorem dX4_regretOf_1 : decode cX4_regretOf 1 = .ok (.invokevirtual 78, 3) := by decide +kernel
theorem dX4_regretOf_4 : decode cX4_regretOf 4 = .ok (.ifCond .eq 13, 3) := by decide +kernel
theorem dX4_regretOf_7 : decode cX4_regretOf 7 = .ok (.aload_n 0, 1) := by decide +kernel
theorem dX4_regretOf_8 : decode cX4_regretOf 8 = .ok (.iload_n 1, 1) := by decide +kernel
theorem dX4_regretOf_9 : decode cX4_regretOf 9 = .ok (.invokevirtual 115, 3) := by decide +kernel
theorem dX4_regretOf_12 : decode cX4_regretOf 12 = .ok (.ldc 100, 2) := by decide +kernel
theorem dX4_regretOf_14 : decode cX4_regretOf 14 = .ok (.if_icmp .ne 6, 3) := by decide +kernel
theorem dX4_regretOf_17 : decode cX4_regretOf 17 = .ok (.ldc 100, 2) := by decide +kernel
theorem dX4_regretOf_19 : decode cX4_regretOf 19 = .ok (.ireturn, 1) := by decide +kernel
theorem dX4_regretOf_20 : decode cX4_regretOf 20 = .ok (.iconst 0, 1) := by decide +kernel
theorem dX4_regretOf_21 : decode cX4_regretOf 21 = .ok (.istore_n 2, 1) := by decide +kernel
theorem dX4_regretOf_22 : decode cX4_regretOf 22 = .ok (.iconst 0, 1) := by decide +kernel
theorem dX4_regretOf_23 : decode cX4_regretOf 23 = .ok (.istore_n 3, 1) := by decide +kernel
theorem dX4_regretOf_24 : decode cX4_regretOf 24 = .ok (.iload_n 3, 1) := by decide +kernel
theorem dX4_regretOf_25 : decode cX4_regretOf 25 = .ok (.aload_n 0, 1) := by decide +kernel
theorem dX4_regretOf_26 : decode cX4_regretOf 26 = .ok (.getfield 74, 3) := by decide +kernel
theorem dX4_regretOf_29 : decode cX4_regretOf 29 = .ok (.if_icmp .ge 56, 3) := by decide +kernel
theorem dX4_regretOf_32 : decode cX4_regretOf 32 = .ok (.aload_n 0, 1) := by decide +kernel
theorem dX4_regretOf_33 : decode cX4_regretOf 33 = .ok (.getfield 38, 3) := by decide +kernel
theorem dX4_regretOf_36 : decode cX4_regretOf 36 = .ok (.iload_n 3, 1) := by decide +kernel
theorem dX4_regretOf_37 : decode cX4_regretOf 37 = .ok (.baload, 1) := by decide +kernel
theorem dX4_regretOf_38 : decode cX4_regretOf 38 = .ok (.ifCond .eq 7, 3) := by decide +kernel
theorem dX4_regretOf_41 : decode cX4_regretOf 41 = .ok (.iconst 0, 1) := by decide +kernel
theorem dX4_regretOf_42 : decode cX4_regretOf 42 = .ok (.goto 22, 3) := by decide +kernel
theorem dX4_regretOf_45 : decode cX4_regretOf 45 = .ok (.aload_n 0, 1) := by decide +kernel
theorem dX4_regretOf_46 : decode cX4_regretOf 46 = .ok (.aload_n 0, 1) := by decide +kernel
theorem dX4_regretOf_47 : decode cX4_regretOf 47 = .ok (.iload_n 1, 1) := by decide +kernel
theorem dX4_regretOf_48 : decode cX4_regretOf 48 = .ok (.iload_n 3, 1) := by decide +kernel
theorem dX4_regretOf_49 : decode cX4_regretOf 49 = .ok (.invokevirtual 112, 3) := by decide +kernel
theorem dX4_regretOf_52 : decode cX4_regretOf 52 = .ok (.iconst (-1), 1) := by decide +kernel
theorem dX4_regretOf_53 : decode cX4_regretOf 53 = .ok (.iload_n 3, 1) := by decide +kernel
theorem dX4_regretOf_54 : decode cX4_regretOf 54 = .ok (.invokevirtual 89, 3) := by decide +kernel
theorem dX4_regretOf_57 : decode cX4_regretOf 57 = .ok (.aload_n 0, 1) := by decide +kernel
theorem dX4_regretOf_58 : decode cX4_regretOf 58 = .ok (.getfield 51, 3) := by decide +kernel
theorem dX4_regretOf_61 : decode cX4_regretOf 61 = .ok (.iload_n 3, 1) := by decide +kernel
theorem dX4_regretOf_62 : decode cX4_regretOf 62 = .ok (.iaload, 1) := by decide +kernel
theorem dX4_regretOf_63 : decode cX4_regretOf 63 = .ok (.isub, 1) := by decide +kernel
theorem dX4_regretOf_64 : decode cX4_regretOf 64 = .ok (.istore 4, 2) := by decide +kernel
theorem dX4_regretOf_66 : decode cX4_regretOf 66 = .ok (.iload 4, 2) := by decide +kernel
theorem dX4_regretOf_68 : decode cX4_regretOf 68 = .ok (.iload_n 2, 1) := by decide +kernel
theorem dX4_regretOf_69 : decode cX4_regretOf 69 = .ok (.if_icmp .le 8, 3) := by decide +kernel
theorem dX4_regretOf_72 : decode cX4_regretOf 72 = .ok (.iload 4, 2) := by decide +kernel
theorem dX4_regretOf_74 : decode cX4_regretOf 74 = .ok (.goto 4, 3) := by decide +kernel
theorem dX4_regretOf_77 : decode cX4_regretOf 77 = .ok (.iload_n 2, 1) := by decide +kernel
theorem dX4_regretOf_78 : decode cX4_regretOf 78 = .ok (.istore_n 2, 1) := by decide +kernel
theorem dX4_regretOf_79 : decode cX4_regretOf 79 = .ok (.iinc 3 1, 3) := by decide +kernel
theorem dX4_regretOf_82 : decode cX4_regretOf 82 = .ok (.goto (-58), 3) := by decide +kernel
theorem dX4_regretOf_85 : decode cX4_regretOf 85 = .ok (.iload_n 2, 1) := by decide +kernel
theorem dX4_regretOf_86 : decode cX4_regretOf 86 = .ok (.ireturn, 1) := by decide +kernel
set_option maxRecDepth 20000 in
theorem ggX4_regret_X4_isFirst : GoodIn wsX4_regret wsX4_isFirst := goodIn_r _ [6, 7, 8, 9, 5, 10, 61, 62, 63, 64, 65, 66, 67, 68, 69, 70, 71, 72, 73, 74, 75, 76, 77, 78, 79, 80] (by decide +kernel) (by decide +kernel)
set_option maxRecDepth 20000 in
theorem gX4_regret_X4_isFirst : GoodIn wsX4_regret (wsV RX4 109 RX4 yX4_isFirst wsX4_isFirst) := goodIn_app (goodIn_of _ (by decide +kernel)) ggX4_regret_X4_isFirst
set_option maxRecDepth 20000 in
theorem ggX4_regret_X4_findBests : GoodIn wsX4_regret wsX4_findBests := goodIn_r _ [14, 15, 16, 17, 18, 19, 5, 20, 21, 7, 22, 23, 24, 25, 26, 27, 28, 29, 30, 31, 32, 33, 34, 35, 36, 37, 38, 39, 40, 41, 42, 43, 44, 45, 46, 61, 62, 63, 64, 65, 66, 67, 68, 69, 70, 71, 72, 73, 74, 75, 76, 77, 78, 79, 80] (by decide +kernel) (by decide +kernel)
set_option maxRecDepth 20000 in
theorem gX4_regret_X4_findBests : GoodIn wsX4_regret (wsV RX4 127 RX4 yX4_findBests wsX4_findBests) := goodIn_app (goodIn_of _ (by decide +kernel)) ggX4_regret_X4_findBests
set_option maxRecDepth 20000 in
theorem ggX4_regret_X4_regretOf : GoodIn wsX4_regret wsX4_regretOf := goodIn_r _ [50, 21, 15, 51, 16, 52, 53, 54, 5, 55, 56, 57, 58, 59, 60, 22, 23, 24, 25, 26, 7, 27, 28, 29, 30, 31, 32, 33, 34, 35, 36, 37, 38, 39, 40, 41, 42, 43, 44, 45, 46, 61, 62, 63, 64, 65, 66, 67, 68, 69, 70, 71, 72, 73, 74, 75, 76, 77, 78, 79, 80] (by decide +kernel) (by decide +kernel)
set_option maxRecDepth 20000 in
theorem gX4_regret_X4_regretOf : GoodIn wsX4_regret (wsV RX4 130 RX4 yX4_regretOf wsX4_regretOf) := goodIn_app (goodIn_of _ (by decide +kernel)) ggX4_regret_X4_regretOf
theorem dX4_regret_0 : decode cX4_regret 0 = .ok (.aload_n 0, 1) := by decide +kernel
theorem dX4_regret_1 : decode cX4_regret 1 = .ok (.iload_n 1, 1) := by decide +kernel
theorem dX4_regret_2 : decode cX4_regret 2 = .ok (.invokevirtual 109, 3) := by decide +kernel
theorem dX4_regret_5 : decode cX4_regret 5 = .ok (.ifCond .ne 6, 3) := by decide +kernel
theorem dX4_regret_8 : decode cX4_regret 8 = .ok (.ldc 58, 2) := by decide +kernel
theorem dX4_regret_10 : decode cX4_regret 10 = .ok (.ireturn, 1) := by decide +kernel
theorem dX4_regret_11 : decode cX4_regret 11 = .ok (.aload_n 0, 1) := by decide +kernel
theorem dX4_regret_12 : decode cX4_regret 12 = .ok (.invokevirtual 127, 3) := by decide +kernel
theorem dX4_regret_15 : decode cX4_regret 15 = .ok (.aload_n 0, 1) := by decide +kernel
theorem dX4_regret_16 : decode cX4_regret 16 = .ok (.iload_n 1, 1) := by decide +kernel
end
section
theorem dX4_regret_17 : decode cX4_regret 17 = .ok (.invokevirtual 130, 3) := by decide +kernel
theorem dX4_regret_20 : decode cX4_regret 20 = .ok (.ireturn, 1) := by decide +kernel
set_option maxRecDepth 20000 in
theorem ggX4_calmest_X4_findBests : GoodIn wsX4_calmest wsX4_findBests := goodIn_r _ [7, 8, 9, 10, 11, 12, 6, 13, 1, 2, 14, 15, 16, 17, 18, 19, 20, 21, 22, 23, 24, 25, 26, 27, 28, 29, 30, 31, 32, 33, 34, 35, 36, 37, 38, 53, 54, 55, 56, 57, 58, 59, 60, 61, 62, 63, 64, 65, 66, 67, 68, 69, 70, 71, 72] (by decide +kernel) (by decide +kernel)
set_option maxRecDepth 20000 in
theorem gX4_calmest_X4_findBests : GoodIn wsX4_calmest (wsV RX4 127 RX4 yX4_findBests wsX4_findBests) := goodIn_app (goodIn_of _ (by decide +kernel)) ggX4_calmest_X4_findBests
set_option maxRecDepth 20000 in
theorem ggX4_calmest_X4_regretOf : GoodIn wsX4_calmest wsX4_regretOf := goodIn_r _ [42, 1, 8, 43, 9, 44, 45, 46, 6, 47, 48, 49, 50, 51, 52, 14, 15, 16, 17, 18, 2, 19, 20, 21, 22, 23, 24, 25, 26, 27, 28, 29, 30, 31, 32, 33, 34, 35, 36, 37, 38, 53, 54, 55, 56, 57, 58, 59, 60, 61, 62, 63, 64, 65, 66, 67, 68, 69, 70, 71, 72] (by decide +kernel) (by decide +kernel)
set_option maxRecDepth 20000 in
theorem gX4_calmest_X4_regretOf : GoodIn wsX4_calmest (wsV RX4 130 RX4 yX4_regretOf wsX4_regretOf) := goodIn_app (goodIn_of _ (by decide +kernel)) ggX4_calmest_X4_regretOf
theorem dX4_calmest_0 : decode cX4_calmest 0 = .ok (.aload_n 0, 1) := by decide +kernel
theorem dX4_calmest_1 : decode cX4_calmest 1 = .ok (.invokevirtual 127, 3) := by decide +kernel
theorem dX4_calmest_4 : decode cX4_calmest 4 = .ok (.ldc 100, 2) := by decide +kernel
theorem dX4_calmest_6 : decode cX4_calmest 6 = .ok (.istore_n 1, 1) := by decide +kernel
theorem dX4_calmest_7 : decode cX4_calmest 7 = .ok (.iconst 0, 1) := by decide +kernel
theorem dX4_calmest_8 : decode cX4_calmest 8 = .ok (.istore_n 2, 1) := by decide +kernel
theorem dX4_calmest_9 : decode cX4_calmest 9 = .ok (.iconst 0, 1) := by decide +kernel
theorem dX4_calmest_10 : decode cX4_calmest 10 = .ok (.istore_n 3, 1) := by decide +kernel
theorem dX4_calmest_11 : decode cX4_calmest 11 = .ok (.iload_n 3, 1) := by decide +kernel
theorem dX4_calmest_12 : decode cX4_calmest 12 = .ok (.iconst 1, 1) := by decide +kernel
theorem dX4_calmest_13 : decode cX4_calmest 13 = .ok (.aload_n 0, 1) := by decide +kernel
theorem dX4_calmest_14 : decode cX4_calmest 14 = .ok (.getfield 7, 3) := by decide +kernel
theorem dX4_calmest_17 : decode cX4_calmest 17 = .ok (.ishl, 1) := by decide +kernel
theorem dX4_calmest_18 : decode cX4_calmest 18 = .ok (.if_icmp .ge 65, 3) := by decide +kernel
theorem dX4_calmest_21 : decode cX4_calmest 21 = .ok (.aload_n 0, 1) := by decide +kernel
theorem dX4_calmest_22 : decode cX4_calmest 22 = .ok (.iload_n 3, 1) := by decide +kernel
theorem dX4_calmest_23 : decode cX4_calmest 23 = .ok (.invokevirtual 130, 3) := by decide +kernel
theorem dX4_calmest_26 : decode cX4_calmest 26 = .ok (.istore 4, 2) := by decide +kernel
theorem dX4_calmest_28 : decode cX4_calmest 28 = .ok (.iload 4, 2) := by decide +kernel
theorem dX4_calmest_30 : decode cX4_calmest 30 = .ok (.ldc 100, 2) := by decide +kernel
theorem dX4_calmest_32 : decode cX4_calmest 32 = .ok (.if_icmp .eq 19, 3) := by decide +kernel
theorem dX4_calmest_35 : decode cX4_calmest 35 = .ok (.iload_n 1, 1) := by decide +kernel
theorem dX4_calmest_36 : decode cX4_calmest 36 = .ok (.ldc 100, 2) := by decide +kernel
theorem dX4_calmest_38 : decode cX4_calmest 38 = .ok (.if_icmp .eq 9, 3) := by decide +kernel
theorem dX4_calmest_41 : decode cX4_calmest 41 = .ok (.iload 4, 2) := by decide +kernel
theorem dX4_calmest_43 : decode cX4_calmest 43 = .ok (.iload_n 2, 1) := by decide +kernel
theorem dX4_calmest_44 : decode cX4_calmest 44 = .ok (.if_icmp .ge 7, 3) := by decide +kernel
theorem dX4_calmest_47 : decode cX4_calmest 47 = .ok (.iconst 1, 1) := by decide +kernel
theorem dX4_calmest_48 : decode cX4_calmest 48 = .ok (.goto 4, 3) := by decide +kernel
theorem dX4_calmest_51 : decode cX4_calmest 51 = .ok (.iconst 0, 1) := by decide +kernel
theorem dX4_calmest_52 : decode cX4_calmest 52 = .ok (.istore 5, 2) := by decide +kernel
theorem dX4_calmest_54 : decode cX4_calmest 54 = .ok (.iload 5, 2) := by decide +kernel
theorem dX4_calmest_56 : decode cX4_calmest 56 = .ok (.ifCond .eq 7, 3) := by decide +kernel
theorem dX4_calmest_59 : decode cX4_calmest 59 = .ok (.iload_n 3, 1) := by decide +kernel
theorem dX4_calmest_60 : decode cX4_calmest 60 = .ok (.goto 4, 3) := by decide +kernel
theorem dX4_calmest_63 : decode cX4_calmest 63 = .ok (.iload_n 1, 1) := by decide +kernel
theorem dX4_calmest_64 : decode cX4_calmest 64 = .ok (.istore_n 1, 1) := by decide +kernel
theorem dX4_calmest_65 : decode cX4_calmest 65 = .ok (.iload 5, 2) := by decide +kernel
theorem dX4_calmest_67 : decode cX4_calmest 67 = .ok (.ifCond .eq 8, 3) := by decide +kernel
theorem dX4_calmest_70 : decode cX4_calmest 70 = .ok (.iload 4, 2) := by decide +kernel
theorem dX4_calmest_72 : decode cX4_calmest 72 = .ok (.goto 4, 3) := by decide +kernel
theorem dX4_calmest_75 : decode cX4_calmest 75 = .ok (.iload_n 2, 1) := by decide +kernel
theorem dX4_calmest_76 : decode cX4_calmest 76 = .ok (.istore_n 2, 1) := by decide +kernel
theorem dX4_calmest_77 : decode cX4_calmest 77 = .ok (.iinc 3 1, 3) := by decide +kernel
theorem dX4_calmest_80 : decode cX4_calmest 80 = .ok (.goto (-69), 3) := by decide +kernel
theorem dX4_calmest_83 : decode cX4_calmest 83 = .ok (.iload_n 1, 1) := by decide +kernel
theorem dX4_calmest_84 : decode cX4_calmest 84 = .ok (.ireturn, 1) := by decide +kernel
set_option maxRecDepth 20000 in
theorem ggX4_waiting_X4_in : GoodIn wsX4_waiting wsX4_in := goodIn_r _ [10] (by decide +kernel) (by decide +kernel)
set_option maxRecDepth 20000 in
theorem gX4_waiting_X4_in : GoodIn wsX4_waiting (va_wsS RX4 54 yX4_in wsX4_in) := goodIn_app (goodIn_of _ (by decide +kernel)) ggX4_waiting_X4_in
set_option maxRecDepth 20000 in
theorem ggX4_waiting_X4_twoStep : GoodIn wsX4_waiting wsX4_twoStep := goodIn_r _ [14, 2, 15, 16, 17, 18, 9, 19, 3, 4, 20, 21, 22, 23, 5, 24, 25, 26, 27, 28, 29, 30, 31, 32, 33, 34, 35, 36, 37, 38, 39, 40, 41, 42, 43, 44, 45, 46, 47, 48, 64, 65, 66, 67, 68, 69, 70, 71, 72, 73, 74, 75, 76, 77, 78, 79, 80, 81, 82, 83] (by decide +kernel) (by decide +kernel)
set_option maxRecDepth 20000 in
theorem gX4_waiting_X4_twoStep : GoodIn wsX4_waiting (wsV RX4 133 RX4 yX4_twoStep wsX4_twoStep) := goodIn_app (goodIn_of _ (by decide +kernel)) ggX4_waiting_X4_twoStep
set_option maxRecDepth 20000 in
theorem ggX4_waiting_X4_findBests : GoodIn wsX4_waiting wsX4_findBests := goodIn_r _ [52, 3, 6, 53, 54, 55, 9, 56, 2, 15, 24, 25, 26, 27, 28, 29, 30, 31, 32, 33, 34, 35, 36, 37, 38, 39, 40, 41, 42, 43, 44, 45, 46, 47, 48, 64, 65, 66, 67, 68, 69, 70, 71, 72, 73, 74, 75, 76, 77, 78, 79, 80, 81, 82, 83] (by decide +kernel) (by decide +kernel)
set_option maxRecDepth 20000 in
theorem gX4_waiting_X4_findBests : GoodIn wsX4_waiting (wsV RX4 127 RX4 yX4_findBests wsX4_findBests) := goodIn_app (goodIn_of _ (by decide +kernel)) ggX4_waiting_X4_findBests
set_option maxRecDepth 20000 in
theorem ggX4_waiting_X4_total : GoodIn wsX4_waiting wsX4_total := goodIn_r _ [23, 3, 4, 2, 5, 24, 25, 26, 9, 27, 28, 15, 29, 30, 31, 32, 33, 34, 35, 36, 37, 38, 39, 40, 41, 42, 43, 44, 45, 46, 47, 48, 64, 65, 66, 67, 68, 69, 70, 71, 72, 73, 74, 75, 76, 77, 78, 79, 80, 81, 82, 83] (by decide +kernel) (by decide +kernel)
set_option maxRecDepth 20000 in
theorem gX4_waiting_X4_total : GoodIn wsX4_waiting (wsV RX4 115 RX4 yX4_total wsX4_total) := goodIn_app (goodIn_of _ (by decide +kernel)) ggX4_waiting_X4_total
set_option maxRecDepth 20000 in
theorem ggX4_waiting_X4_allOdds : GoodIn wsX4_waiting wsX4_allOdds := goodIn_r _ [60, 3, 4, 5, 64, 65, 66, 67, 68, 69, 70, 71, 72, 73, 74, 75, 76, 77, 78, 79, 80, 81, 82, 83] (by decide +kernel) (by decide +kernel)
set_option maxRecDepth 20000 in
theorem gX4_waiting_X4_allOdds : GoodIn wsX4_waiting (wsV RX4 118 RX4 yX4_allOdds wsX4_allOdds) := goodIn_app (goodIn_of _ (by decide +kernel)) ggX4_waiting_X4_allOdds
set_option maxRecDepth 20000 in
theorem ggX4_waiting_X4_lowest : GoodIn wsX4_waiting wsX4_lowest := goodIn_r _ [63] (by decide +kernel) (by decide +kernel)
set_option maxRecDepth 20000 in
theorem gX4_waiting_X4_lowest : GoodIn wsX4_waiting (va_wsS RX4 121 yX4_lowest wsX4_lowest) := goodIn_app (goodIn_of _ (by decide +kernel)) ggX4_waiting_X4_lowest
theorem dX4_waiting_0 : decode cX4_waiting 0 = .ok (.iload_n 1, 1) := by decide +kernel
theorem dX4_waiting_1 : decode cX4_waiting 1 = .ok (.iconst 0, 1) := by decide +kernel
theorem dX4_waiting_2 : decode cX4_waiting 2 = .ok (.iconst 1, 1) := by decide +kernel
theorem dX4_waiting_3 : decode cX4_waiting 3 = .ok (.invokestatic 54, 3) := by decide +kernel
theorem dX4_waiting_6 : decode cX4_waiting 6 = .ok (.ifCond .ne 6, 3) := by decide +kernel
theorem dX4_waiting_9 : decode cX4_waiting 9 = .ok (.ldc 58, 2) := by decide +kernel
theorem dX4_waiting_11 : decode cX4_waiting 11 = .ok (.ireturn, 1) := by decide +kernel
theorem dX4_waiting_12 : decode cX4_waiting 12 = .ok (.aload_n 0, 1) := by decide +kernel
theorem dX4_waiting_13 : decode cX4_waiting 13 = .ok (.invokevirtual 133, 3) := by decide +kernel
theorem dX4_waiting_16 : decode cX4_waiting 16 = .ok (.istore_n 2, 1) := by decide +kernel
theorem dX4_waiting_17 : decode cX4_waiting 17 = .ok (.iload_n 2, 1) := by decide +kernel
theorem dX4_waiting_18 : decode cX4_waiting 18 = .ok (.ldc 100, 2) := by decide +kernel
theorem dX4_waiting_20 : decode cX4_waiting 20 = .ok (.if_icmp .ne 6, 3) := by decide +kernel
theorem dX4_waiting_23 : decode cX4_waiting 23 = .ok (.ldc 100, 2) := by decide +kernel
theorem dX4_waiting_25 : decode cX4_waiting 25 = .ok (.ireturn, 1) := by decide +kernel
theorem dX4_waiting_26 : decode cX4_waiting 26 = .ok (.aload_n 0, 1) := by decide +kernel
theorem dX4_waiting_27 : decode cX4_waiting 27 = .ok (.invokevirtual 127, 3) := by decide +kernel
theorem dX4_waiting_30 : decode cX4_waiting 30 = .ok (.aload_n 0, 1) := by decide +kernel
theorem dX4_waiting_31 : decode cX4_waiting 31 = .ok (.iload_n 2, 1) := by decide +kernel
theorem dX4_waiting_32 : decode cX4_waiting 32 = .ok (.invokevirtual 115, 3) := by decide +kernel
theorem dX4_waiting_35 : decode cX4_waiting 35 = .ok (.istore_n 3, 1) := by decide +kernel
theorem dX4_waiting_36 : decode cX4_waiting 36 = .ok (.iconst 0, 1) := by decide +kernel
theorem dX4_waiting_37 : decode cX4_waiting 37 = .ok (.istore 4, 2) := by decide +kernel
theorem dX4_waiting_39 : decode cX4_waiting 39 = .ok (.iload 4, 2) := by decide +kernel
theorem dX4_waiting_41 : decode cX4_waiting 41 = .ok (.aload_n 0, 1) := by decide +kernel
theorem dX4_waiting_42 : decode cX4_waiting 42 = .ok (.getfield 74, 3) := by decide +kernel
theorem dX4_waiting_45 : decode cX4_waiting 45 = .ok (.if_icmp .ge 41, 3) := by decide +kernel
theorem dX4_waiting_48 : decode cX4_waiting 48 = .ok (.iload_n 3, 1) := by decide +kernel
theorem dX4_waiting_49 : decode cX4_waiting 49 = .ok (.aload_n 0, 1) := by decide +kernel
theorem dX4_waiting_50 : decode cX4_waiting 50 = .ok (.getfield 38, 3) := by decide +kernel
theorem dX4_waiting_53 : decode cX4_waiting 53 = .ok (.iload 4, 2) := by decide +kernel
theorem dX4_waiting_55 : decode cX4_waiting 55 = .ok (.baload, 1) := by decide +kernel
theorem dX4_waiting_56 : decode cX4_waiting 56 = .ok (.ifCond .eq 7, 3) := by decide +kernel
theorem dX4_waiting_59 : decode cX4_waiting 59 = .ok (.iconst 0, 1) := by decide +kernel
theorem dX4_waiting_60 : decode cX4_waiting 60 = .ok (.goto 18, 3) := by decide +kernel
theorem dX4_waiting_63 : decode cX4_waiting 63 = .ok (.aload_n 0, 1) := by decide +kernel
theorem dX4_waiting_64 : decode cX4_waiting 64 = .ok (.getfield 35, 3) := by decide +kernel
theorem dX4_waiting_67 : decode cX4_waiting 67 = .ok (.iload 4, 2) := by decide +kernel
theorem dX4_waiting_69 : decode cX4_waiting 69 = .ok (.iaload, 1) := by decide +kernel
theorem dX4_waiting_70 : decode cX4_waiting 70 = .ok (.aload_n 0, 1) := by decide +kernel
theorem dX4_waiting_71 : decode cX4_waiting 71 = .ok (.getfield 51, 3) := by decide +kernel
theorem dX4_waiting_74 : decode cX4_waiting 74 = .ok (.iload 4, 2) := by decide +kernel
theorem dX4_waiting_76 : decode cX4_waiting 76 = .ok (.iaload, 1) := by decide +kernel
theorem dX4_waiting_77 : decode cX4_waiting 77 = .ok (.imul, 1) := by decide +kernel
theorem dX4_waiting_78 : decode cX4_waiting 78 = .ok (.isub, 1) := by decide +kernel
theorem dX4_waiting_79 : decode cX4_waiting 79 = .ok (.istore_n 3, 1) := by decide +kernel
theorem dX4_waiting_80 : decode cX4_waiting 80 = .ok (.iinc 4 1, 3) := by decide +kernel
theorem dX4_waiting_83 : decode cX4_waiting 83 = .ok (.goto (-44), 3) := by decide +kernel
theorem dX4_waiting_86 : decode cX4_waiting 86 = .ok (.iload_n 3, 1) := by decide +kernel
theorem dX4_waiting_87 : decode cX4_waiting 87 = .ok (.aload_n 0, 1) := by decide +kernel
theorem dX4_waiting_88 : decode cX4_waiting 88 = .ok (.invokevirtual 118, 3) := by decide +kernel
theorem dX4_waiting_91 : decode cX4_waiting 91 = .ok (.iload_n 1, 1) := by decide +kernel
theorem dX4_waiting_92 : decode cX4_waiting 92 = .ok (.invokestatic 121, 3) := by decide +kernel
theorem dX4_waiting_95 : decode cX4_waiting 95 = .ok (.ireturn, 1) := by decide +kernel
set_option maxRecDepth 20000 in
theorem ggX4_chance_X4_isPlan : GoodIn wsX4_chance wsX4_isPlan := goodIn_r _ [10, 11, 12, 13, 14, 9, 15, 47, 48, 49, 50, 51, 52, 53, 54, 55, 56, 57, 58, 59, 60, 61, 62, 63, 64, 65, 66] (by decide +kernel) (by decide +kernel)
set_option maxRecDepth 20000 in
theorem gX4_chance_X4_isPlan : GoodIn wsX4_chance (wsV RX4 85 RX4 yX4_isPlan wsX4_isPlan) := goodIn_app (goodIn_of _ (by decide +kernel)) ggX4_chance_X4_isPlan
set_option maxRecDepth 20000 in
theorem ggX4_chance_X4_in : GoodIn wsX4_chance wsX4_in := goodIn_r _ [15] (by decide +kernel) (by decide +kernel)
set_option maxRecDepth 20000 in
theorem gX4_chance_X4_in : GoodIn wsX4_chance (va_wsS RX4 54 yX4_in wsX4_in) := goodIn_app (goodIn_of _ (by decide +kernel)) ggX4_chance_X4_in
set_option maxRecDepth 20000 in
theorem ggX4_chance_X4_counted : GoodIn wsX4_chance wsX4_counted := goodIn_r _ [19, 3, 4, 47, 48, 49, 50, 51, 52, 53, 54, 55, 56, 57, 58, 59, 60, 61, 62, 63, 64, 65, 66] (by decide +kernel) (by decide +kernel)
set_option maxRecDepth 20000 in
theorem gX4_chance_X4_counted : GoodIn wsX4_chance (wsV RX4 78 RX4 yX4_counted wsX4_counted) := goodIn_app (goodIn_of _ (by decide +kernel)) ggX4_chance_X4_counted
set_option maxRecDepth 20000 in
theorem ggX4_chance_X4_holds : GoodIn wsX4_chance wsX4_holds := goodIn_r _ [23, 24, 25, 26, 27, 9, 28, 29, 30, 31, 32, 33, 34, 35, 36, 37, 38, 39, 47, 48, 49, 50, 51, 52, 53, 54, 55, 56, 57, 58, 59, 60, 61, 62, 63, 64, 65, 66] (by decide +kernel) (by decide +kernel)
set_option maxRecDepth 20000 in
theorem gX4_chance_X4_holds : GoodIn wsX4_chance (wsV RX4 105 RX4 yX4_holds wsX4_holds) := goodIn_app (goodIn_of _ (by decide +kernel)) ggX4_chance_X4_holds
set_option maxRecDepth 20000 in
theorem ggX4_chance_X4_allOdds : GoodIn wsX4_chance wsX4_allOdds := goodIn_r _ [43, 3, 4, 5, 47, 48, 49, 50, 51, 52, 53, 54, 55, 56, 57, 58, 59, 60, 61, 62, 63, 64, 65, 66] (by decide +kernel) (by decide +kernel)
set_option maxRecDepth 20000 in
theorem gX4_chance_X4_allOdds : GoodIn wsX4_chance (wsV RX4 118 RX4 yX4_allOdds wsX4_allOdds) := goodIn_app (goodIn_of _ (by decide +kernel)) ggX4_chance_X4_allOdds
set_option maxRecDepth 20000 in
theorem ggX4_chance_X4_lowest : GoodIn wsX4_chance wsX4_lowest := goodIn_r _ [46] (by decide +kernel) (by decide +kernel)
set_option maxRecDepth 20000 in
theorem gX4_chance_X4_lowest : GoodIn wsX4_chance (va_wsS RX4 121 yX4_lowest wsX4_lowest) := goodIn_app (goodIn_of _ (by decide +kernel)) ggX4_chance_X4_lowest
theorem dX4_chance_0 : decode cX4_chance 0 = .ok (.aload_n 0, 1) := by decide +kernel
theorem dX4_chance_1 : decode cX4_chance 1 = .ok (.iload_n 1, 1) := by decide +kernel
theorem dX4_chance_2 : decode cX4_chance 2 = .ok (.invokevirtual 85, 3) := by decide +kernel
theorem dX4_chance_5 : decode cX4_chance 5 = .ok (.ifCond .eq 12, 3) := by decide +kernel
theorem dX4_chance_8 : decode cX4_chance 8 = .ok (.iload_n 2, 1) := by decide +kernel
theorem dX4_chance_9 : decode cX4_chance 9 = .ok (.iconst 0, 1) := by decide +kernel
theorem dX4_chance_10 : decode cX4_chance 10 = .ok (.iconst 1, 1) := by decide +kernel
theorem dX4_chance_11 : decode cX4_chance 11 = .ok (.invokestatic 54, 3) := by decide +kernel
theorem dX4_chance_14 : decode cX4_chance 14 = .ok (.ifCond .ne 6, 3) := by decide +kernel
theorem dX4_chance_17 : decode cX4_chance 17 = .ok (.ldc 58, 2) := by decide +kernel
theorem dX4_chance_19 : decode cX4_chance 19 = .ok (.ireturn, 1) := by decide +kernel
theorem dX4_chance_20 : decode cX4_chance 20 = .ok (.aload_n 0, 1) := by decide +kernel
theorem dX4_chance_21 : decode cX4_chance 21 = .ok (.invokevirtual 78, 3) := by decide +kernel
theorem dX4_chance_24 : decode cX4_chance 24 = .ok (.ifCond .ne 6, 3) := by decide +kernel
theorem dX4_chance_27 : decode cX4_chance 27 = .ok (.ldc 100, 2) := by decide +kernel
theorem dX4_chance_29 : decode cX4_chance 29 = .ok (.ireturn, 1) := by decide +kernel
theorem dX4_chance_30 : decode cX4_chance 30 = .ok (.iconst 0, 1) := by decide +kernel
theorem dX4_chance_31 : decode cX4_chance 31 = .ok (.istore_n 3, 1) := by decide +kernel
theorem dX4_chance_32 : decode cX4_chance 32 = .ok (.iconst 0, 1) := by decide +kernel
theorem dX4_chance_33 : decode cX4_chance 33 = .ok (.istore 4, 2) := by decide +kernel
theorem dX4_chance_35 : decode cX4_chance 35 = .ok (.iload 4, 2) := by decide +kernel
theorem dX4_chance_37 : decode cX4_chance 37 = .ok (.aload_n 0, 1) := by decide +kernel
theorem dX4_chance_38 : decode cX4_chance 38 = .ok (.getfield 74, 3) := by decide +kernel
theorem dX4_chance_41 : decode cX4_chance 41 = .ok (.if_icmp .ge 43, 3) := by decide +kernel
theorem dX4_chance_44 : decode cX4_chance 44 = .ok (.iload_n 3, 1) := by decide +kernel
theorem dX4_chance_45 : decode cX4_chance 45 = .ok (.aload_n 0, 1) := by decide +kernel
theorem dX4_chance_46 : decode cX4_chance 46 = .ok (.getfield 38, 3) := by decide +kernel
theorem dX4_chance_49 : decode cX4_chance 49 = .ok (.iload 4, 2) := by decide +kernel
theorem dX4_chance_51 : decode cX4_chance 51 = .ok (.baload, 1) := by decide +kernel
theorem dX4_chance_52 : decode cX4_chance 52 = .ok (.ifCond .ne 23, 3) := by decide +kernel
theorem dX4_chance_55 : decode cX4_chance 55 = .ok (.aload_n 0, 1) := by decide +kernel
theorem dX4_chance_56 : decode cX4_chance 56 = .ok (.iload_n 1, 1) := by decide +kernel
theorem dX4_chance_57 : decode cX4_chance 57 = .ok (.iload 4, 2) := by decide +kernel
theorem dX4_chance_59 : decode cX4_chance 59 = .ok (.invokevirtual 105, 3) := by decide +kernel
theorem dX4_chance_62 : decode cX4_chance 62 = .ok (.ifCond .eq 13, 3) := by decide +kernel
theorem dX4_chance_65 : decode cX4_chance 65 = .ok (.aload_n 0, 1) := by decide +kernel
theorem dX4_chance_66 : decode cX4_chance 66 = .ok (.getfield 35, 3) := by decide +kernel
theorem dX4_chance_69 : decode cX4_chance 69 = .ok (.iload 4, 2) := by decide +kernel
theorem dX4_chance_71 : decode cX4_chance 71 = .ok (.iaload, 1) := by decide +kernel
theorem dX4_chance_72 : decode cX4_chance 72 = .ok (.goto 4, 3) := by decide +kernel
theorem dX4_chance_75 : decode cX4_chance 75 = .ok (.iconst 0, 1) := by decide +kernel
theorem dX4_chance_76 : decode cX4_chance 76 = .ok (.iadd, 1) := by decide +kernel
theorem dX4_chance_77 : decode cX4_chance 77 = .ok (.istore_n 3, 1) := by decide +kernel
theorem dX4_chance_78 : decode cX4_chance 78 = .ok (.iinc 4 1, 3) := by decide +kernel
theorem dX4_chance_81 : decode cX4_chance 81 = .ok (.goto (-46), 3) := by decide +kernel
theorem dX4_chance_84 : decode cX4_chance 84 = .ok (.iload_n 3, 1) := by decide +kernel
theorem dX4_chance_85 : decode cX4_chance 85 = .ok (.aload_n 0, 1) := by decide +kernel
theorem dX4_chance_86 : decode cX4_chance 86 = .ok (.invokevirtual 118, 3) := by decide +kernel
theorem dX4_chance_89 : decode cX4_chance 89 = .ok (.iload_n 2, 1) := by decide +kernel
theorem dX4_chance_90 : decode cX4_chance 90 = .ok (.invokestatic 121, 3) := by decide +kernel
theorem dX4_chance_93 : decode cX4_chance 93 = .ok (.ireturn, 1) := by decide +kernel
end
section
theorem pd_X0_add : yX0_add.cls = RX0 ∧ yX0_add.cls ≠ "java/lang/invoke/MethodHandle" ∧ yX0_add.cls ≠ "java/lang/invoke/VarHandle" ∧ (parseMethodDescriptor yX0_add.desc).map (fun d => d.parameters.length) = some 3 := by decide +kernel
theorem pd_X0_putInAll : yX0_putInAll.cls = RX0 ∧ yX0_putInAll.cls ≠ "java/lang/invoke/MethodHandle" ∧ yX0_putInAll.cls ≠ "java/lang/invoke/VarHandle" ∧ (parseMethodDescriptor yX0_putInAll.desc).map (fun d => d.parameters.length) = some 2 := by decide +kernel
theorem pd_X0_countCounted : yX0_countCounted.cls = RX0 ∧ yX0_countCounted.cls ≠ "java/lang/invoke/MethodHandle" ∧ yX0_countCounted.cls ≠ "java/lang/invoke/VarHandle" ∧ (parseMethodDescriptor yX0_countCounted.desc).map (fun d => d.parameters.length) = some 0 := by decide +kernel
theorem pd_X0_countedOdds : yX0_countedOdds.cls = RX0 ∧ yX0_countedOdds.cls ≠ "java/lang/invoke/MethodHandle" ∧ yX0_countedOdds.cls ≠ "java/lang/invoke/VarHandle" ∧ (parseMethodDescriptor yX0_countedOdds.desc).map (fun d => d.parameters.length) = some 0 := by decide +kernel
theorem pd_X1_add : yX1_add.cls = RX1 ∧ yX1_add.cls ≠ "java/lang/invoke/MethodHandle" ∧ yX1_add.cls ≠ "java/lang/invoke/VarHandle" ∧ (parseMethodDescriptor yX1_add.desc).map (fun d => d.parameters.length) = some 3 := by decide +kernel
theorem pd_X2_add : yX2_add.cls = RX2 ∧ yX2_add.cls ≠ "java/lang/invoke/MethodHandle" ∧ yX2_add.cls ≠ "java/lang/invoke/VarHandle" ∧ (parseMethodDescriptor yX2_add.desc).map (fun d => d.parameters.length) = some 4 := by decide +kernel
theorem pd_X2_isTaken : yX2_isTaken.cls = RX2 ∧ yX2_isTaken.cls ≠ "java/lang/invoke/MethodHandle" ∧ yX2_isTaken.cls ≠ "java/lang/invoke/VarHandle" ∧ (parseMethodDescriptor yX2_isTaken.desc).map (fun d => d.parameters.length) = some 2 := by decide +kernel
theorem pd_X3_slotOf : yX3_slotOf.cls ≠ "java/lang/invoke/MethodHandle" ∧ yX3_slotOf.cls ≠ "java/lang/invoke/VarHandle" ∧ (parseMethodDescriptor yX3_slotOf.desc).map (fun d => d.parameters.length) = some 1 := by decide +kernel
theorem pd_X2_sumUp : yX2_sumUp.cls = RX2 ∧ yX2_sumUp.cls ≠ "java/lang/invoke/MethodHandle" ∧ yX2_sumUp.cls ≠ "java/lang/invoke/VarHandle" ∧ (parseMethodDescriptor yX2_sumUp.desc).map (fun d => d.parameters.length) = some 3 := by decide +kernel
theorem pd_X2_weigh : yX2_weigh.cls = RX2 ∧ yX2_weigh.cls ≠ "java/lang/invoke/MethodHandle" ∧ yX2_weigh.cls ≠ "java/lang/invoke/VarHandle" ∧ (parseMethodDescriptor yX2_weigh.desc).map (fun d => d.parameters.length) = some 3 := by decide +kernel
theorem pd_X3_startAnew : yX3_startAnew.cls = RX3 ∧ yX3_startAnew.cls ≠ "java/lang/invoke/MethodHandle" ∧ yX3_startAnew.cls ≠ "java/lang/invoke/VarHandle" ∧ (parseMethodDescriptor yX3_startAnew.desc).map (fun d => d.parameters.length) = some 2 := by decide +kernel
theorem pd_X3_isWithin : yX3_isWithin.cls ≠ "java/lang/invoke/MethodHandle" ∧ yX3_isWithin.cls ≠ "java/lang/invoke/VarHandle" ∧ (parseMethodDescriptor yX3_isWithin.desc).map (fun d => d.parameters.length) = some 3 := by decide +kernel
theorem pd_X3_begin : yX3_begin.cls = RX3 ∧ yX3_begin.cls ≠ "java/lang/invoke/MethodHandle" ∧ yX3_begin.cls ≠ "java/lang/invoke/VarHandle" ∧ (parseMethodDescriptor yX3_begin.desc).map (fun d => d.parameters.length) = some 2 := by decide +kernel
theorem pd_X3_name : yX3_name.cls = RX3 ∧ yX3_name.cls ≠ "java/lang/invoke/MethodHandle" ∧ yX3_name.cls ≠ "java/lang/invoke/VarHandle" ∧ (parseMethodDescriptor yX3_name.desc).map (fun d => d.parameters.length) = some 3 := by decide +kernel
theorem pd_X3_budget : yX3_budget.cls = RX3 ∧ yX3_budget.cls ≠ "java/lang/invoke/MethodHandle" ∧ yX3_budget.cls ≠ "java/lang/invoke/VarHandle" ∧ (parseMethodDescriptor yX3_budget.desc).map (fun d => d.parameters.length) = some 1 := by decide +kernel
theorem pd_X3_row : yX3_row.cls = RX3 ∧ yX3_row.cls ≠ "java/lang/invoke/MethodHandle" ∧ yX3_row.cls ≠ "java/lang/invoke/VarHandle" ∧ (parseMethodDescriptor yX3_row.desc).map (fun d => d.parameters.length) = some 0 := by decide +kernel
theorem pd_X3_isRowOrCost : yX3_isRowOrCost.cls = RX3 ∧ yX3_isRowOrCost.cls ≠ "java/lang/invoke/MethodHandle" ∧ yX3_isRowOrCost.cls ≠ "java/lang/invoke/VarHandle" ∧ (parseMethodDescriptor yX3_isRowOrCost.desc).map (fun d => d.parameters.length) = some 1 := by decide +kernel
theorem pd_X3_term : yX3_term.cls = RX3 ∧ yX3_term.cls ≠ "java/lang/invoke/MethodHandle" ∧ yX3_term.cls ≠ "java/lang/invoke/VarHandle" ∧ (parseMethodDescriptor yX3_term.desc).map (fun d => d.parameters.length) = some 4 := by decide +kernel
theorem pd_X3_future : yX3_future.cls = RX3 ∧ yX3_future.cls ≠ "java/lang/invoke/MethodHandle" ∧ yX3_future.cls ≠ "java/lang/invoke/VarHandle" ∧ (parseMethodDescriptor yX3_future.desc).map (fun d => d.parameters.length) = some 2 := by decide +kernel
theorem pd_X3_isListed : yX3_isListed.cls = RX3 ∧ yX3_isListed.cls ≠ "java/lang/invoke/MethodHandle" ∧ yX3_isListed.cls ≠ "java/lang/invoke/VarHandle" ∧ (parseMethodDescriptor yX3_isListed.desc).map (fun d => d.parameters.length) = some 1 := by decide +kernel
theorem pd_X3_isName : yX3_isName.cls = RX3 ∧ yX3_isName.cls ≠ "java/lang/invoke/MethodHandle" ∧ yX3_isName.cls ≠ "java/lang/invoke/VarHandle" ∧ (parseMethodDescriptor yX3_isName.desc).map (fun d => d.parameters.length) = some 1 := by decide +kernel
theorem pd_X3_set : yX3_set.cls = RX3 ∧ yX3_set.cls ≠ "java/lang/invoke/MethodHandle" ∧ yX3_set.cls ≠ "java/lang/invoke/VarHandle" ∧ (parseMethodDescriptor yX3_set.desc).map (fun d => d.parameters.length) = some 3 := by decide +kernel
theorem pd_X3_told : yX3_told.cls = RX3 ∧ yX3_told.cls ≠ "java/lang/invoke/MethodHandle" ∧ yX3_told.cls ≠ "java/lang/invoke/VarHandle" ∧ (parseMethodDescriptor yX3_told.desc).map (fun d => d.parameters.length) = some 1 := by decide +kernel
theorem pd_X3_planCount : yX3_planCount.cls = RX3 ∧ yX3_planCount.cls ≠ "java/lang/invoke/MethodHandle" ∧ yX3_planCount.cls ≠ "java/lang/invoke/VarHandle" ∧ (parseMethodDescriptor yX3_planCount.desc).map (fun d => d.parameters.length) = some 0 := by decide +kernel
theorem pd_X3_isPlan : yX3_isPlan.cls = RX3 ∧ yX3_isPlan.cls ≠ "java/lang/invoke/MethodHandle" ∧ yX3_isPlan.cls ≠ "java/lang/invoke/VarHandle" ∧ (parseMethodDescriptor yX3_isPlan.desc).map (fun d => d.parameters.length) = some 1 := by decide +kernel
theorem pd_X3_comes : yX3_comes.cls = RX3 ∧ yX3_comes.cls ≠ "java/lang/invoke/MethodHandle" ∧ yX3_comes.cls ≠ "java/lang/invoke/VarHandle" ∧ (parseMethodDescriptor yX3_comes.desc).map (fun d => d.parameters.length) = some 3 := by decide +kernel
theorem pd_X3_worstOf : yX3_worstOf.cls = RX3 ∧ yX3_worstOf.cls ≠ "java/lang/invoke/MethodHandle" ∧ yX3_worstOf.cls ≠ "java/lang/invoke/VarHandle" ∧ (parseMethodDescriptor yX3_worstOf.desc).map (fun d => d.parameters.length) = some 1 := by decide +kernel
theorem pd_X3_greatestGain : yX3_greatestGain.cls = RX3 ∧ yX3_greatestGain.cls ≠ "java/lang/invoke/MethodHandle" ∧ yX3_greatestGain.cls ≠ "java/lang/invoke/VarHandle" ∧ (parseMethodDescriptor yX3_greatestGain.desc).map (fun d => d.parameters.length) = some 0 := by decide +kernel
theorem pd_X3_findWorst : yX3_findWorst.cls = RX3 ∧ yX3_findWorst.cls ≠ "java/lang/invoke/MethodHandle" ∧ yX3_findWorst.cls ≠ "java/lang/invoke/VarHandle" ∧ (parseMethodDescriptor yX3_findWorst.desc).map (fun d => d.parameters.length) = some 2 := by decide +kernel
theorem pd_X3_worst : yX3_worst.cls = RX3 ∧ yX3_worst.cls ≠ "java/lang/invoke/MethodHandle" ∧ yX3_worst.cls ≠ "java/lang/invoke/VarHandle" ∧ (parseMethodDescriptor yX3_worst.desc).map (fun d => d.parameters.length) = some 2 := by decide +kernel
theorem pd_X3_worstName : yX3_worstName.cls = RX3 ∧ yX3_worstName.cls ≠ "java/lang/invoke/MethodHandle" ∧ yX3_worstName.cls ≠ "java/lang/invoke/VarHandle" ∧ (parseMethodDescriptor yX3_worstName.desc).map (fun d => d.parameters.length) = some 3 := by decide +kernel
theorem pd_X3_firstBroken : yX3_firstBroken.cls = RX3 ∧ yX3_firstBroken.cls ≠ "java/lang/invoke/MethodHandle" ∧ yX3_firstBroken.cls ≠ "java/lang/invoke/VarHandle" ∧ (parseMethodDescriptor yX3_firstBroken.desc).map (fun d => d.parameters.length) = some 1 := by decide +kernel
theorem pd_X3_breaks : yX3_breaks.cls = RX3 ∧ yX3_breaks.cls ≠ "java/lang/invoke/MethodHandle" ∧ yX3_breaks.cls ≠ "java/lang/invoke/VarHandle" ∧ (parseMethodDescriptor yX3_breaks.desc).map (fun d => d.parameters.length) = some 1 := by decide +kernel
theorem pd_X3_safest : yX3_safest.cls = RX3 ∧ yX3_safest.cls ≠ "java/lang/invoke/MethodHandle" ∧ yX3_safest.cls ≠ "java/lang/invoke/VarHandle" ∧ (parseMethodDescriptor yX3_safest.desc).map (fun d => d.parameters.length) = some 0 := by decide +kernel
theorem pd_X3_firstPartCount : yX3_firstPartCount.cls = RX3 ∧ yX3_firstPartCount.cls ≠ "java/lang/invoke/MethodHandle" ∧ yX3_firstPartCount.cls ≠ "java/lang/invoke/VarHandle" ∧ (parseMethodDescriptor yX3_firstPartCount.desc).map (fun d => d.parameters.length) = some 0 := by decide +kernel
theorem pd_X3_isFirstPart : yX3_isFirstPart.cls = RX3 ∧ yX3_isFirstPart.cls ≠ "java/lang/invoke/MethodHandle" ∧ yX3_isFirstPart.cls ≠ "java/lang/invoke/VarHandle" ∧ (parseMethodDescriptor yX3_isFirstPart.desc).map (fun d => d.parameters.length) = some 1 := by decide +kernel
theorem pd_X3_allHold : yX3_allHold.cls = RX3 ∧ yX3_allHold.cls ≠ "java/lang/invoke/MethodHandle" ∧ yX3_allHold.cls ≠ "java/lang/invoke/VarHandle" ∧ (parseMethodDescriptor yX3_allHold.desc).map (fun d => d.parameters.length) = some 2 := by decide +kernel
theorem pd_X3_findAnswer : yX3_findAnswer.cls = RX3 ∧ yX3_findAnswer.cls ≠ "java/lang/invoke/MethodHandle" ∧ yX3_findAnswer.cls ≠ "java/lang/invoke/VarHandle" ∧ (parseMethodDescriptor yX3_findAnswer.desc).map (fun d => d.parameters.length) = some 2 := by decide +kernel
theorem pd_X3_answer : yX3_answer.cls = RX3 ∧ yX3_answer.cls ≠ "java/lang/invoke/MethodHandle" ∧ yX3_answer.cls ≠ "java/lang/invoke/VarHandle" ∧ (parseMethodDescriptor yX3_answer.desc).map (fun d => d.parameters.length) = some 2 := by decide +kernel
theorem pd_X3_costOf : yX3_costOf.cls = RX3 ∧ yX3_costOf.cls ≠ "java/lang/invoke/MethodHandle" ∧ yX3_costOf.cls ≠ "java/lang/invoke/VarHandle" ∧ (parseMethodDescriptor yX3_costOf.desc).map (fun d => d.parameters.length) = some 2 := by decide +kernel
theorem pd_X3_costByOdds : yX3_costByOdds.cls = RX3 ∧ yX3_costByOdds.cls ≠ "java/lang/invoke/MethodHandle" ∧ yX3_costByOdds.cls ≠ "java/lang/invoke/VarHandle" ∧ (parseMethodDescriptor yX3_costByOdds.desc).map (fun d => d.parameters.length) = some 1 := by decide +kernel
theorem pd_X3_findTwoStep : yX3_findTwoStep.cls = RX3 ∧ yX3_findTwoStep.cls ≠ "java/lang/invoke/MethodHandle" ∧ yX3_findTwoStep.cls ≠ "java/lang/invoke/VarHandle" ∧ (parseMethodDescriptor yX3_findTwoStep.desc).map (fun d => d.parameters.length) = some 0 := by decide +kernel
theorem pd_X3_twoStep : yX3_twoStep.cls = RX3 ∧ yX3_twoStep.cls ≠ "java/lang/invoke/MethodHandle" ∧ yX3_twoStep.cls ≠ "java/lang/invoke/VarHandle" ∧ (parseMethodDescriptor yX3_twoStep.desc).map (fun d => d.parameters.length) = some 0 := by decide +kernel
theorem pd_X3_isPart : yX3_isPart.cls ≠ "java/lang/invoke/MethodHandle" ∧ yX3_isPart.cls ≠ "java/lang/invoke/VarHandle" ∧ (parseMethodDescriptor yX3_isPart.desc).map (fun d => d.parameters.length) = some 1 := by decide +kernel
theorem pd_X3_commonDivisor : yX3_commonDivisor.cls ≠ "java/lang/invoke/MethodHandle" ∧ yX3_commonDivisor.cls ≠ "java/lang/invoke/VarHandle" ∧ (parseMethodDescriptor yX3_commonDivisor.desc).map (fun d => d.parameters.length) = some 2 := by decide +kernel
theorem pd_X3_partOfFraction : yX3_partOfFraction.cls ≠ "java/lang/invoke/MethodHandle" ∧ yX3_partOfFraction.cls ≠ "java/lang/invoke/VarHandle" ∧ (parseMethodDescriptor yX3_partOfFraction.desc).map (fun d => d.parameters.length) = some 3 := by decide +kernel
theorem pd_X3_mean : yX3_mean.cls = RX3 ∧ yX3_mean.cls ≠ "java/lang/invoke/MethodHandle" ∧ yX3_mean.cls ≠ "java/lang/invoke/VarHandle" ∧ (parseMethodDescriptor yX3_mean.desc).map (fun d => d.parameters.length) = some 2 := by decide +kernel
theorem pd_X3_leastCost : yX3_leastCost.cls = RX3 ∧ yX3_leastCost.cls ≠ "java/lang/invoke/MethodHandle" ∧ yX3_leastCost.cls ≠ "java/lang/invoke/VarHandle" ∧ (parseMethodDescriptor yX3_leastCost.desc).map (fun d => d.parameters.length) = some 1 := by decide +kernel
theorem pd_X3_best : yX3_best.cls = RX3 ∧ yX3_best.cls ≠ "java/lang/invoke/MethodHandle" ∧ yX3_best.cls ≠ "java/lang/invoke/VarHandle" ∧ (parseMethodDescriptor yX3_best.desc).map (fun d => d.parameters.length) = some 1 := by decide +kernel
theorem pd_X3_fillBests : yX3_fillBests.cls = RX3 ∧ yX3_fillBests.cls ≠ "java/lang/invoke/MethodHandle" ∧ yX3_fillBests.cls ≠ "java/lang/invoke/VarHandle" ∧ (parseMethodDescriptor yX3_fillBests.desc).map (fun d => d.parameters.length) = some 0 := by decide +kernel
theorem pd_X3_greatestRegret : yX3_greatestRegret.cls = RX3 ∧ yX3_greatestRegret.cls ≠ "java/lang/invoke/MethodHandle" ∧ yX3_greatestRegret.cls ≠ "java/lang/invoke/VarHandle" ∧ (parseMethodDescriptor yX3_greatestRegret.desc).map (fun d => d.parameters.length) = some 1 := by decide +kernel
theorem pd_X3_regret : yX3_regret.cls = RX3 ∧ yX3_regret.cls ≠ "java/lang/invoke/MethodHandle" ∧ yX3_regret.cls ≠ "java/lang/invoke/VarHandle" ∧ (parseMethodDescriptor yX3_regret.desc).map (fun d => d.parameters.length) = some 1 := by decide +kernel
theorem pd_X3_calmest : yX3_calmest.cls = RX3 ∧ yX3_calmest.cls ≠ "java/lang/invoke/MethodHandle" ∧ yX3_calmest.cls ≠ "java/lang/invoke/VarHandle" ∧ (parseMethodDescriptor yX3_calmest.desc).map (fun d => d.parameters.length) = some 0 := by decide +kernel
theorem pd_X3_waiting : yX3_waiting.cls = RX3 ∧ yX3_waiting.cls ≠ "java/lang/invoke/MethodHandle" ∧ yX3_waiting.cls ≠ "java/lang/invoke/VarHandle" ∧ (parseMethodDescriptor yX3_waiting.desc).map (fun d => d.parameters.length) = some 1 := by decide +kernel
theorem pd_X3_chance : yX3_chance.cls = RX3 ∧ yX3_chance.cls ≠ "java/lang/invoke/MethodHandle" ∧ yX3_chance.cls ≠ "java/lang/invoke/VarHandle" ∧ (parseMethodDescriptor yX3_chance.desc).map (fun d => d.parameters.length) = some 2 := by decide +kernel
theorem pd_X4_in : yX4_in.cls ≠ "java/lang/invoke/MethodHandle" ∧ yX4_in.cls ≠ "java/lang/invoke/VarHandle" ∧ (parseMethodDescriptor yX4_in.desc).map (fun d => d.parameters.length) = some 3 := by decide +kernel
theorem pd_X4_begin : yX4_begin.cls = RX4 ∧ yX4_begin.cls ≠ "java/lang/invoke/MethodHandle" ∧ yX4_begin.cls ≠ "java/lang/invoke/VarHandle" ∧ (parseMethodDescriptor yX4_begin.desc).map (fun d => d.parameters.length) = some 2 := by decide +kernel
theorem pd_X4_name : yX4_name.cls = RX4 ∧ yX4_name.cls ≠ "java/lang/invoke/MethodHandle" ∧ yX4_name.cls ≠ "java/lang/invoke/VarHandle" ∧ (parseMethodDescriptor yX4_name.desc).map (fun d => d.parameters.length) = some 3 := by decide +kernel
theorem pd_X4_budget : yX4_budget.cls = RX4 ∧ yX4_budget.cls ≠ "java/lang/invoke/MethodHandle" ∧ yX4_budget.cls ≠ "java/lang/invoke/VarHandle" ∧ (parseMethodDescriptor yX4_budget.desc).map (fun d => d.parameters.length) = some 1 := by decide +kernel
theorem pd_X4_row : yX4_row.cls = RX4 ∧ yX4_row.cls ≠ "java/lang/invoke/MethodHandle" ∧ yX4_row.cls ≠ "java/lang/invoke/VarHandle" ∧ (parseMethodDescriptor yX4_row.desc).map (fun d => d.parameters.length) = some 0 := by decide +kernel
theorem pd_X4_term : yX4_term.cls = RX4 ∧ yX4_term.cls ≠ "java/lang/invoke/MethodHandle" ∧ yX4_term.cls ≠ "java/lang/invoke/VarHandle" ∧ (parseMethodDescriptor yX4_term.desc).map (fun d => d.parameters.length) = some 4 := by decide +kernel
theorem pd_X4_future : yX4_future.cls = RX4 ∧ yX4_future.cls ≠ "java/lang/invoke/MethodHandle" ∧ yX4_future.cls ≠ "java/lang/invoke/VarHandle" ∧ (parseMethodDescriptor yX4_future.desc).map (fun d => d.parameters.length) = some 2 := by decide +kernel
theorem pd_X4_set : yX4_set.cls = RX4 ∧ yX4_set.cls ≠ "java/lang/invoke/MethodHandle" ∧ yX4_set.cls ≠ "java/lang/invoke/VarHandle" ∧ (parseMethodDescriptor yX4_set.desc).map (fun d => d.parameters.length) = some 3 := by decide +kernel
theorem pd_X4_counted : yX4_counted.cls = RX4 ∧ yX4_counted.cls ≠ "java/lang/invoke/MethodHandle" ∧ yX4_counted.cls ≠ "java/lang/invoke/VarHandle" ∧ (parseMethodDescriptor yX4_counted.desc).map (fun d => d.parameters.length) = some 0 := by decide +kernel
theorem pd_X4_told : yX4_told.cls = RX4 ∧ yX4_told.cls ≠ "java/lang/invoke/MethodHandle" ∧ yX4_told.cls ≠ "java/lang/invoke/VarHandle" ∧ (parseMethodDescriptor yX4_told.desc).map (fun d => d.parameters.length) = some 1 := by decide +kernel
theorem pd_X4_isPlan : yX4_isPlan.cls = RX4 ∧ yX4_isPlan.cls ≠ "java/lang/invoke/MethodHandle" ∧ yX4_isPlan.cls ≠ "java/lang/invoke/VarHandle" ∧ (parseMethodDescriptor yX4_isPlan.desc).map (fun d => d.parameters.length) = some 1 := by decide +kernel
theorem pd_X4_isOn : yX4_isOn.cls = RX4 ∧ yX4_isOn.cls ≠ "java/lang/invoke/MethodHandle" ∧ yX4_isOn.cls ≠ "java/lang/invoke/VarHandle" ∧ (parseMethodDescriptor yX4_isOn.desc).map (fun d => d.parameters.length) = some 3 := by decide +kernel
theorem pd_X4_sum : yX4_sum.cls = RX4 ∧ yX4_sum.cls ≠ "java/lang/invoke/MethodHandle" ∧ yX4_sum.cls ≠ "java/lang/invoke/VarHandle" ∧ (parseMethodDescriptor yX4_sum.desc).map (fun d => d.parameters.length) = some 3 := by decide +kernel
theorem pd_X4_comes : yX4_comes.cls = RX4 ∧ yX4_comes.cls ≠ "java/lang/invoke/MethodHandle" ∧ yX4_comes.cls ≠ "java/lang/invoke/VarHandle" ∧ (parseMethodDescriptor yX4_comes.desc).map (fun d => d.parameters.length) = some 3 := by decide +kernel
theorem pd_X4_isUp : yX4_isUp.cls = RX4 ∧ yX4_isUp.cls ≠ "java/lang/invoke/MethodHandle" ∧ yX4_isUp.cls ≠ "java/lang/invoke/VarHandle" ∧ (parseMethodDescriptor yX4_isUp.desc).map (fun d => d.parameters.length) = some 3 := by decide +kernel
theorem pd_X4_findWorst : yX4_findWorst.cls = RX4 ∧ yX4_findWorst.cls ≠ "java/lang/invoke/MethodHandle" ∧ yX4_findWorst.cls ≠ "java/lang/invoke/VarHandle" ∧ (parseMethodDescriptor yX4_findWorst.desc).map (fun d => d.parameters.length) = some 2 := by decide +kernel
theorem pd_X4_worst : yX4_worst.cls = RX4 ∧ yX4_worst.cls ≠ "java/lang/invoke/MethodHandle" ∧ yX4_worst.cls ≠ "java/lang/invoke/VarHandle" ∧ (parseMethodDescriptor yX4_worst.desc).map (fun d => d.parameters.length) = some 2 := by decide +kernel
theorem pd_X4_worstName : yX4_worstName.cls = RX4 ∧ yX4_worstName.cls ≠ "java/lang/invoke/MethodHandle" ∧ yX4_worstName.cls ≠ "java/lang/invoke/VarHandle" ∧ (parseMethodDescriptor yX4_worstName.desc).map (fun d => d.parameters.length) = some 3 := by decide +kernel
theorem pd_X4_breaks : yX4_breaks.cls = RX4 ∧ yX4_breaks.cls ≠ "java/lang/invoke/MethodHandle" ∧ yX4_breaks.cls ≠ "java/lang/invoke/VarHandle" ∧ (parseMethodDescriptor yX4_breaks.desc).map (fun d => d.parameters.length) = some 1 := by decide +kernel
theorem pd_X4_safest : yX4_safest.cls = RX4 ∧ yX4_safest.cls ≠ "java/lang/invoke/MethodHandle" ∧ yX4_safest.cls ≠ "java/lang/invoke/VarHandle" ∧ (parseMethodDescriptor yX4_safest.desc).map (fun d => d.parameters.length) = some 0 := by decide +kernel
theorem pd_X4_holds : yX4_holds.cls = RX4 ∧ yX4_holds.cls ≠ "java/lang/invoke/MethodHandle" ∧ yX4_holds.cls ≠ "java/lang/invoke/VarHandle" ∧ (parseMethodDescriptor yX4_holds.desc).map (fun d => d.parameters.length) = some 2 := by decide +kernel
theorem pd_X4_answerTo : yX4_answerTo.cls = RX4 ∧ yX4_answerTo.cls ≠ "java/lang/invoke/MethodHandle" ∧ yX4_answerTo.cls ≠ "java/lang/invoke/VarHandle" ∧ (parseMethodDescriptor yX4_answerTo.desc).map (fun d => d.parameters.length) = some 2 := by decide +kernel
theorem pd_X4_isFirst : yX4_isFirst.cls = RX4 ∧ yX4_isFirst.cls ≠ "java/lang/invoke/MethodHandle" ∧ yX4_isFirst.cls ≠ "java/lang/invoke/VarHandle" ∧ (parseMethodDescriptor yX4_isFirst.desc).map (fun d => d.parameters.length) = some 1 := by decide +kernel
theorem pd_X4_answer : yX4_answer.cls = RX4 ∧ yX4_answer.cls ≠ "java/lang/invoke/MethodHandle" ∧ yX4_answer.cls ≠ "java/lang/invoke/VarHandle" ∧ (parseMethodDescriptor yX4_answer.desc).map (fun d => d.parameters.length) = some 2 := by decide +kernel
theorem pd_X4_allOdds : yX4_allOdds.cls = RX4 ∧ yX4_allOdds.cls ≠ "java/lang/invoke/MethodHandle" ∧ yX4_allOdds.cls ≠ "java/lang/invoke/VarHandle" ∧ (parseMethodDescriptor yX4_allOdds.desc).map (fun d => d.parameters.length) = some 0 := by decide +kernel
theorem pd_X4_total : yX4_total.cls = RX4 ∧ yX4_total.cls ≠ "java/lang/invoke/MethodHandle" ∧ yX4_total.cls ≠ "java/lang/invoke/VarHandle" ∧ (parseMethodDescriptor yX4_total.desc).map (fun d => d.parameters.length) = some 1 := by decide +kernel
theorem pd_X4_twoStep : yX4_twoStep.cls = RX4 ∧ yX4_twoStep.cls ≠ "java/lang/invoke/MethodHandle" ∧ yX4_twoStep.cls ≠ "java/lang/invoke/VarHandle" ∧ (parseMethodDescriptor yX4_twoStep.desc).map (fun d => d.parameters.length) = some 0 := by decide +kernel
theorem pd_X4_lowest : yX4_lowest.cls ≠ "java/lang/invoke/MethodHandle" ∧ yX4_lowest.cls ≠ "java/lang/invoke/VarHandle" ∧ (parseMethodDescriptor yX4_lowest.desc).map (fun d => d.parameters.length) = some 3 := by decide +kernel
theorem pd_X4_mean : yX4_mean.cls = RX4 ∧ yX4_mean.cls ≠ "java/lang/invoke/MethodHandle" ∧ yX4_mean.cls ≠ "java/lang/invoke/VarHandle" ∧ (parseMethodDescriptor yX4_mean.desc).map (fun d => d.parameters.length) = some 2 := by decide +kernel
theorem pd_X4_bestOf : yX4_bestOf.cls = RX4 ∧ yX4_bestOf.cls ≠ "java/lang/invoke/MethodHandle" ∧ yX4_bestOf.cls ≠ "java/lang/invoke/VarHandle" ∧ (parseMethodDescriptor yX4_bestOf.desc).map (fun d => d.parameters.length) = some 1 := by decide +kernel
theorem pd_X4_best : yX4_best.cls = RX4 ∧ yX4_best.cls ≠ "java/lang/invoke/MethodHandle" ∧ yX4_best.cls ≠ "java/lang/invoke/VarHandle" ∧ (parseMethodDescriptor yX4_best.desc).map (fun d => d.parameters.length) = some 1 := by decide +kernel
theorem pd_X4_findBests : yX4_findBests.cls = RX4 ∧ yX4_findBests.cls ≠ "java/lang/invoke/MethodHandle" ∧ yX4_findBests.cls ≠ "java/lang/invoke/VarHandle" ∧ (parseMethodDescriptor yX4_findBests.desc).map (fun d => d.parameters.length) = some 0 := by decide +kernel
theorem pd_X4_regretOf : yX4_regretOf.cls = RX4 ∧ yX4_regretOf.cls ≠ "java/lang/invoke/MethodHandle" ∧ yX4_regretOf.cls ≠ "java/lang/invoke/VarHandle" ∧ (parseMethodDescriptor yX4_regretOf.desc).map (fun d => d.parameters.length) = some 1 := by decide +kernel
theorem pd_X4_regret : yX4_regret.cls = RX4 ∧ yX4_regret.cls ≠ "java/lang/invoke/MethodHandle" ∧ yX4_regret.cls ≠ "java/lang/invoke/VarHandle" ∧ (parseMethodDescriptor yX4_regret.desc).map (fun d => d.parameters.length) = some 1 := by decide +kernel
theorem pd_X4_calmest : yX4_calmest.cls = RX4 ∧ yX4_calmest.cls ≠ "java/lang/invoke/MethodHandle" ∧ yX4_calmest.cls ≠ "java/lang/invoke/VarHandle" ∧ (parseMethodDescriptor yX4_calmest.desc).map (fun d => d.parameters.length) = some 0 := by decide +kernel
theorem pd_X4_waiting : yX4_waiting.cls = RX4 ∧ yX4_waiting.cls ≠ "java/lang/invoke/MethodHandle" ∧ yX4_waiting.cls ≠ "java/lang/invoke/VarHandle" ∧ (parseMethodDescriptor yX4_waiting.desc).map (fun d => d.parameters.length) = some 1 := by decide +kernel
theorem pd_X4_chance : yX4_chance.cls = RX4 ∧ yX4_chance.cls ≠ "java/lang/invoke/MethodHandle" ∧ yX4_chance.cls ≠ "java/lang/invoke/VarHandle" ∧ (parseMethodDescriptor yX4_chance.desc).map (fun d => d.parameters.length) = some 2 := by decide +kernel
def bI (b : Bool) : Int32 := if b then 1 else 0
theorem bI_0 {b : Bool} : bI b = 0 ↔ b = false := by cases b <;> decide
theorem bI_n0 {b : Bool} : ¬ bI b = 0 ↔ b = true := by cases b <;> decide
theorem bI_t : bI true = 1 := rfl
theorem bI_f : bI false = 0 := rfl
def inW (n lo hi : Int32) : Bool := decide (lo ≤ n) && decide (n ≤ hi)
theorem inW_f1 {n lo hi : Int32} (h : n < lo) : inW n lo hi = false := by
  unfold inW; rw [decide_eq_false (Int32.not_le.mpr h)]; rfl
theorem inW_f2 {n lo hi : Int32} (h : hi < n) : inW n lo hi = false := by
  unfold inW; rw [decide_eq_false (p := n ≤ hi) (Int32.not_le.mpr h), Bool.and_false]
theorem inW_t {n lo hi : Int32} (h : ¬ n < lo) (h2 : ¬ hi < n) : inW n lo hi = true := by
  unfold inW; rw [decide_eq_true (Int32.not_lt.mp h), decide_eq_true (Int32.not_lt.mp h2)]; rfl
def pcF (f s : Nat) : Int32 := (1 : Int32) <<< ((nI f + nI s) &&& 31)
def fcF (f : Nat) : Int32 := (1 : Int32) <<< (nI f &&& 31)
set_option maxHeartbeats 4000000 in
set_option maxRecDepth 100000 in
theorem c_X3_isWithin {l : Launch} {D : va_G} {cI cZ cQ : ClassId} {ad : Nat → Nat} {np : Nat} {x : Nat → Nat} {g : Nat → Nat → Int32} {n lo hi : Int32} : Cn l D cI cZ cQ ad np 0 yX3_isWithin wsX3_isWithin [.int n, .int lo, .int hi] x g (rp (bI (inW n lo hi)) x g) := by
  refine cn_of (own := RX3) (by decide) rfl rfl (by simp [Value.category]) (Nat.le_of_ble_eq_true rfl) ?_
  intro p e s m args below meth c A Q C HR HV
  refine j_iload_n C dX3_isWithin_0 rfl ?_
  refine j_iload_n C dX3_isWithin_1 rfl ?_
  refine j_icmp_gt C 14 dX3_isWithin_2 (by decide) (fun hc2 => ?_) (fun hc2 => ?_)
  · refine j_iconst (v := 0) C dX3_isWithin_14 rfl ?_
    exact HR _ _ _ _ _ _ rfl rfl dX3_isWithin_15 ⟨_, rfl, by first | (rw [inW_f1 hc2]; rfl) | (rw [inW_f2 hc7]; rfl) | (rw [inW_t hc2 hc7]; rfl), rfl, rfl⟩
  · refine j_iload_n C dX3_isWithin_5 rfl ?_
    refine j_iload_n C dX3_isWithin_6 rfl ?_
    refine j_icmp_gt C 14 dX3_isWithin_7 (by decide) (fun hc7 => ?_) (fun hc7 => ?_)
    · refine j_iconst (v := 0) C dX3_isWithin_14 rfl ?_
      exact HR _ _ _ _ _ _ rfl rfl dX3_isWithin_15 ⟨_, rfl, by first | (rw [inW_f1 hc2]; rfl) | (rw [inW_f2 hc7]; rfl) | (rw [inW_t hc2 hc7]; rfl), rfl, rfl⟩
    · refine j_iconst (v := 1) C dX3_isWithin_10 rfl ?_
      refine j_goto C 15 dX3_isWithin_11 (by decide) ?_
      exact HR _ _ _ _ _ _ rfl rfl dX3_isWithin_15 ⟨_, rfl, by first | (rw [inW_f1 hc2]; rfl) | (rw [inW_f2 hc7]; rfl) | (rw [inW_t hc2 hc7]; rfl), rfl, rfl⟩
set_option maxHeartbeats 4000000 in
set_option maxRecDepth 100000 in
theorem c_X4_in {l : Launch} {D : va_G} {cI cZ cQ : ClassId} {ad : Nat → Nat} {np : Nat} {x : Nat → Nat} {g : Nat → Nat → Int32} {n lo hi : Int32} : Cn l D cI cZ cQ ad np 0 yX4_in wsX4_in [.int n, .int lo, .int hi] x g (rp (bI (inW n lo hi)) x g) := by
  refine cn_of (own := RX4) (by decide) rfl rfl (by simp [Value.category]) (Nat.le_of_ble_eq_true rfl) ?_
  intro p e s m args below meth c A Q C HR HV
  refine j_iload_n C dX4_in_0 rfl ?_
  refine j_iload_n C dX4_in_1 rfl ?_
  refine j_icmp_lt C 14 dX4_in_2 (by decide) (fun hc2 => ?_) (fun hc2 => ?_)
  · refine j_iconst (v := 0) C dX4_in_14 rfl ?_
    exact HR _ _ _ _ _ _ rfl rfl dX4_in_15 ⟨_, rfl, by first | (rw [inW_f1 hc2]; rfl) | (rw [inW_f2 hc7]; rfl) | (rw [inW_t hc2 hc7]; rfl), rfl, rfl⟩
  · refine j_iload_n C dX4_in_5 rfl ?_
    refine j_iload_n C dX4_in_6 rfl ?_
    refine j_icmp_gt C 14 dX4_in_7 (by decide) (fun hc7 => ?_) (fun hc7 => ?_)
    · refine j_iconst (v := 0) C dX4_in_14 rfl ?_
      exact HR _ _ _ _ _ _ rfl rfl dX4_in_15 ⟨_, rfl, by first | (rw [inW_f1 hc2]; rfl) | (rw [inW_f2 hc7]; rfl) | (rw [inW_t hc2 hc7]; rfl), rfl, rfl⟩
    · refine j_iconst (v := 1) C dX4_in_10 rfl ?_
      refine j_goto C 15 dX4_in_11 (by decide) ?_
      exact HR _ _ _ _ _ _ rfl rfl dX4_in_15 ⟨_, rfl, by first | (rw [inW_f1 hc2]; rfl) | (rw [inW_f2 hc7]; rfl) | (rw [inW_t hc2 hc7]; rfl), rfl, rfl⟩
set_option maxHeartbeats 4000000 in
set_option maxRecDepth 100000 in
theorem c_X3_slotOf {l : Launch} {D : va_G} {cI cZ cQ : ClassId} {ad : Nat → Nat} {np : Nat} {x : Nat → Nat} {g : Nat → Nat → Int32} {n : Int32} : Cn l D cI cZ cQ ad np 0 yX3_slotOf wsX3_slotOf [.int n] x g (rp (n - (-1)) x g) := by
  refine cn_of (own := RX3) (by decide) rfl rfl (by simp [Value.category]) (Nat.le_of_ble_eq_true rfl) ?_
  intro p e s m args below meth c A Q C HR HV
  refine j_iload_n C dX3_slotOf_0 rfl ?_
  refine j_iconst (v := (-1)) C dX3_slotOf_1 rfl ?_
  refine j_isub C dX3_slotOf_2 ?_
  exact HR _ _ _ _ _ _ rfl rfl dX3_slotOf_3 ⟨_, rfl, rfl, rfl, rfl⟩
theorem n_X3_planCount_X3 : ∀ w ∈ wsX30, w ∈ wsX3_planCount := by decide +kernel
set_option maxHeartbeats 4000000 in
set_option maxRecDepth 100000 in
theorem c_X3_planCount {l : Launch} {D : va_G} {cI cZ cQ : ClassId} {ad : Nat → Nat} {np : Nat} {x : Nat → Nat} {g : Nat → Nat → Int32} (hnp : 27 ≤ np)  : Cn l D cI cZ cQ ad np 0 yX3_planCount wsX3_planCount [.ref (ad 0)] x g (rp (pcF (x 1) (x 2)) x g) := by
  refine cn_of (own := RX3) (by decide) rfl rfl (by simp [Value.category]) (Nat.le_of_ble_eq_true rfl) ?_
  intro p e s m args below meth c A Q C HR HV
  refine j_iconst (v := 1) C dX3_planCount_0 rfl ?_
  refine j_aload_n C dX3_planCount_1 rfl ?_
  refine jg_X3_firstCount C dX3_planCount_2 n_X3_planCount_X3 (by decide +kernel) (Nat.lt_of_lt_of_le (by decide) hnp) ?_
  refine j_aload_n C dX3_planCount_5 rfl ?_
  refine jg_X3_secondCount C dX3_planCount_6 n_X3_planCount_X3 (by decide +kernel) (Nat.lt_of_lt_of_le (by decide) hnp) ?_
  refine j_iadd C dX3_planCount_9 ?_
  refine j_ishl C dX3_planCount_10 ?_
  exact HR _ _ _ _ _ _ rfl rfl dX3_planCount_11 ⟨_, rfl, rfl, rfl, rfl⟩
theorem n_X3_firstPartCount_X3 : ∀ w ∈ wsX30, w ∈ wsX3_firstPartCount := by decide +kernel
set_option maxHeartbeats 4000000 in
set_option maxRecDepth 100000 in
theorem c_X3_firstPartCount {l : Launch} {D : va_G} {cI cZ cQ : ClassId} {ad : Nat → Nat} {np : Nat} {x : Nat → Nat} {g : Nat → Nat → Int32} (hnp : 27 ≤ np)  : Cn l D cI cZ cQ ad np 0 yX3_firstPartCount wsX3_firstPartCount [.ref (ad 0)] x g (rp (fcF (x 1)) x g) := by
  refine cn_of (own := RX3) (by decide) rfl rfl (by simp [Value.category]) (Nat.le_of_ble_eq_true rfl) ?_
  intro p e s m args below meth c A Q C HR HV
  refine j_iconst (v := 1) C dX3_firstPartCount_0 rfl ?_
  refine j_aload_n C dX3_firstPartCount_1 rfl ?_
  refine jg_X3_firstCount C dX3_firstPartCount_2 n_X3_firstPartCount_X3 (by decide +kernel) (Nat.lt_of_lt_of_le (by decide) hnp) ?_
  refine j_ishl C dX3_firstPartCount_5 ?_
  exact HR _ _ _ _ _ _ rfl rfl dX3_firstPartCount_6 ⟨_, rfl, rfl, rfl, rfl⟩
set_option maxHeartbeats 4000000 in
set_option maxRecDepth 100000 in
theorem c_X3_isPlan {l : Launch} {D : va_G} {cI cZ cQ : ClassId} {ad : Nat → Nat} {np : Nat} {x : Nat → Nat} {g : Nat → Nat → Int32} (hnp : 27 ≤ np) {n : Int32} : Cn l D cI cZ cQ ad np 1 yX3_isPlan wsX3_isPlan [.ref (ad 0), .int n] x g (rp (bI (inW n 0 (pcF (x 1) (x 2) - 1))) x g) := by
  refine cn_of (own := RX3) (by decide) rfl rfl (by simp [Value.category]) (Nat.le_of_ble_eq_true rfl) ?_
  intro p e s m args below meth c A Q C HR HV
  refine j_iload_n C dX3_isPlan_0 rfl ?_
  refine j_iconst (v := 0) C dX3_isPlan_1 rfl ?_
  refine j_aload_n C dX3_isPlan_2 rfl ?_
  refine jVp0 (ci := 3) C dX3_isPlan_3 gX3_isPlan_X3_planCount rfl pd_X3_planCount ⟨by decide, by decide⟩ (Nat.lt_of_lt_of_le (by decide) hnp) rfl rfl rfl (Nat.le_of_ble_eq_true rfl) (c_X3_planCount hnp) ?_
  refine j_iconst (v := 1) C dX3_isPlan_6 rfl ?_
  refine j_isub C dX3_isPlan_7 ?_
  refine jSp3 C dX3_isPlan_8 gX3_isPlan_X3_isWithin rfl pd_X3_isWithin ⟨by decide, by decide⟩ (Nat.le_of_ble_eq_true rfl) c_X3_isWithin ?_
  exact HR _ _ _ _ _ _ rfl (by unfold bI; split <;> rfl) dX3_isPlan_11 ⟨_, rfl, rfl, rfl, rfl⟩
set_option maxHeartbeats 4000000 in
set_option maxRecDepth 100000 in
theorem c_X3_isFirstPart {l : Launch} {D : va_G} {cI cZ cQ : ClassId} {ad : Nat → Nat} {np : Nat} {x : Nat → Nat} {g : Nat → Nat → Int32} (hnp : 27 ≤ np) {n : Int32} : Cn l D cI cZ cQ ad np 1 yX3_isFirstPart wsX3_isFirstPart [.ref (ad 0), .int n] x g (rp (bI (inW n 0 (fcF (x 1) - 1))) x g) := by
  refine cn_of (own := RX3) (by decide) rfl rfl (by simp [Value.category]) (Nat.le_of_ble_eq_true rfl) ?_
  intro p e s m args below meth c A Q C HR HV
  refine j_iload_n C dX3_isFirstPart_0 rfl ?_
  refine j_iconst (v := 0) C dX3_isFirstPart_1 rfl ?_
  refine j_aload_n C dX3_isFirstPart_2 rfl ?_
  refine jVp0 (ci := 3) C dX3_isFirstPart_3 gX3_isFirstPart_X3_firstPartCount rfl pd_X3_firstPartCount ⟨by decide, by decide⟩ (Nat.lt_of_lt_of_le (by decide) hnp) rfl rfl rfl (Nat.le_of_ble_eq_true rfl) (c_X3_firstPartCount hnp) ?_
  refine j_iconst (v := 1) C dX3_isFirstPart_6 rfl ?_
  refine j_isub C dX3_isFirstPart_7 ?_
  refine jSp3 C dX3_isFirstPart_8 gX3_isFirstPart_X3_isWithin rfl pd_X3_isWithin ⟨by decide, by decide⟩ (Nat.le_of_ble_eq_true rfl) c_X3_isWithin ?_
  exact HR _ _ _ _ _ _ rfl (by unfold bI; split <;> rfl) dX3_isFirstPart_11 ⟨_, rfl, rfl, rfl, rfl⟩
theorem n_X3_isRowOrCost_X3 : ∀ w ∈ wsX30, w ∈ wsX3_isRowOrCost := by decide +kernel
set_option maxHeartbeats 4000000 in
set_option maxRecDepth 100000 in
theorem c_X3_isRowOrCost {l : Launch} {D : va_G} {cI cZ cQ : ClassId} {ad : Nat → Nat} {np : Nat} {x : Nat → Nat} {g : Nat → Nat → Int32} (hnp : 27 ≤ np) {n : Int32} : Cn l D cI cZ cQ ad np 1 yX3_isRowOrCost wsX3_isRowOrCost [.ref (ad 0), .int n] x g (rp (bI (inW n (-1) (nI (x 0) - 1))) x g) := by
  refine cn_of (own := RX3) (by decide) rfl rfl (by simp [Value.category]) (Nat.le_of_ble_eq_true rfl) ?_
  intro p e s m args below meth c A Q C HR HV
  refine j_iload_n C dX3_isRowOrCost_0 rfl ?_
  refine j_iconst (v := (-1)) C dX3_isRowOrCost_1 rfl ?_
  refine j_aload_n C dX3_isRowOrCost_2 rfl ?_
  refine jg_X3_rowCount C dX3_isRowOrCost_3 n_X3_isRowOrCost_X3 (by decide +kernel) (Nat.lt_of_lt_of_le (by decide) hnp) ?_
  refine j_iconst (v := 1) C dX3_isRowOrCost_6 rfl ?_
  refine j_isub C dX3_isRowOrCost_7 ?_
  refine jSp3 C dX3_isRowOrCost_8 gX3_isRowOrCost_X3_isWithin rfl pd_X3_isWithin ⟨by decide, by decide⟩ (Nat.le_of_ble_eq_true rfl) c_X3_isWithin ?_
  exact HR _ _ _ _ _ _ rfl (by unfold bI; split <;> rfl) dX3_isRowOrCost_11 ⟨_, rfl, rfl, rfl, rfl⟩
theorem n_X3_isName_X1 : ∀ w ∈ wsX10, w ∈ wsX3_isName := by decide +kernel
theorem n_X3_isName_X3 : ∀ w ∈ wsX30, w ∈ wsX3_isName := by decide +kernel
set_option maxHeartbeats 4000000 in
set_option maxRecDepth 100000 in
theorem c_X3_isName {l : Launch} {D : va_G} {cI cZ cQ : ClassId} {ad : Nat → Nat} {np : Nat} {x : Nat → Nat} {g : Nat → Nat → Int32} (hnp : 27 ≤ np) {n : Int32} : Cn l D cI cZ cQ ad np 1 yX3_isName wsX3_isName [.ref (ad 0), .int n] x g (rp (bI (inW n 0 (nI (x 4) - 1))) x g) := by
  refine cn_of (own := RX3) (by decide) rfl rfl (by simp [Value.category]) (Nat.le_of_ble_eq_true rfl) ?_
  intro p e s m args below meth c A Q C HR HV
  refine j_iload_n C dX3_isName_0 rfl ?_
  refine j_iconst (v := 0) C dX3_isName_1 rfl ?_
  refine j_aload_n C dX3_isName_2 rfl ?_
  refine jg_X3_names C dX3_isName_3 n_X3_isName_X3 (by decide +kernel) (Nat.lt_of_lt_of_le (by decide) hnp) ?_
  refine jg_X1_count C dX3_isName_6 n_X3_isName_X1 (by decide +kernel) (Nat.lt_of_lt_of_le (by decide) hnp) ?_
  refine j_iconst (v := 1) C dX3_isName_9 rfl ?_
  refine j_isub C dX3_isName_10 ?_
  refine jSp3 C dX3_isName_11 gX3_isName_X3_isWithin rfl pd_X3_isWithin ⟨by decide, by decide⟩ (Nat.le_of_ble_eq_true rfl) c_X3_isWithin ?_
  exact HR _ _ _ _ _ _ rfl (by unfold bI; split <;> rfl) dX3_isName_14 ⟨_, rfl, rfl, rfl, rfl⟩
theorem n_X3_isListed_X0 : ∀ w ∈ wsX00, w ∈ wsX3_isListed := by decide +kernel
theorem n_X3_isListed_X3 : ∀ w ∈ wsX30, w ∈ wsX3_isListed := by decide +kernel
set_option maxHeartbeats 4000000 in
set_option maxRecDepth 100000 in
theorem c_X3_isListed {l : Launch} {D : va_G} {cI cZ cQ : ClassId} {ad : Nat → Nat} {np : Nat} {x : Nat → Nat} {g : Nat → Nat → Int32} (hnp : 27 ≤ np) {n : Int32} : Cn l D cI cZ cQ ad np 1 yX3_isListed wsX3_isListed [.ref (ad 0), .int n] x g (rp (bI (inW n 0 (nI (x 6) - 1))) x g) := by
  refine cn_of (own := RX3) (by decide) rfl rfl (by simp [Value.category]) (Nat.le_of_ble_eq_true rfl) ?_
  intro p e s m args below meth c A Q C HR HV
  refine j_iload_n C dX3_isListed_0 rfl ?_
  refine j_iconst (v := 0) C dX3_isListed_1 rfl ?_
  refine j_aload_n C dX3_isListed_2 rfl ?_
  refine jg_X3_listed C dX3_isListed_3 n_X3_isListed_X3 (by decide +kernel) (Nat.lt_of_lt_of_le (by decide) hnp) ?_
  refine jg_X0_count C dX3_isListed_6 n_X3_isListed_X0 (by decide +kernel) (Nat.lt_of_lt_of_le (by decide) hnp) ?_
  refine j_iconst (v := 1) C dX3_isListed_9 rfl ?_
  refine j_isub C dX3_isListed_10 ?_
  refine jSp3 C dX3_isListed_11 gX3_isListed_X3_isWithin rfl pd_X3_isWithin ⟨by decide, by decide⟩ (Nat.le_of_ble_eq_true rfl) c_X3_isWithin ?_
  exact HR _ _ _ _ _ _ rfl (by unfold bI; split <;> rfl) dX3_isListed_14 ⟨_, rfl, rfl, rfl, rfl⟩
set_option maxHeartbeats 4000000 in
set_option maxRecDepth 100000 in
theorem c_X3_isPart {l : Launch} {D : va_G} {cI cZ cQ : ClassId} {ad : Nat → Nat} {np : Nat} {x : Nat → Nat} {g : Nat → Nat → Int32} {n : Int32} : Cn l D cI cZ cQ ad np 1 yX3_isPart wsX3_isPart [.int n] x g (rp (bI (inW n 0 1)) x g) := by
  refine cn_of (own := RX3) (by decide) rfl rfl (by simp [Value.category]) (Nat.le_of_ble_eq_true rfl) ?_
  intro p e s m args below meth c A Q C HR HV
  refine j_iload_n C dX3_isPart_0 rfl ?_
  refine j_iconst (v := 0) C dX3_isPart_1 rfl ?_
  refine j_iconst (v := 1) C dX3_isPart_2 rfl ?_
  refine jSp3 C dX3_isPart_3 gX3_isPart_X3_isWithin rfl pd_X3_isWithin ⟨by decide, by decide⟩ (Nat.le_of_ble_eq_true rfl) c_X3_isWithin ?_
  exact HR _ _ _ _ _ _ rfl (by unfold bI; split <;> rfl) dX3_isPart_6 ⟨_, rfl, rfl, rfl, rfl⟩
theorem n_X4_isPlan_X4 : ∀ w ∈ wsX40, w ∈ wsX4_isPlan := by decide +kernel
set_option maxHeartbeats 4000000 in
set_option maxRecDepth 100000 in
theorem c_X4_isPlan {l : Launch} {D : va_G} {cI cZ cQ : ClassId} {ad : Nat → Nat} {np : Nat} {x : Nat → Nat} {g : Nat → Nat → Int32} (hnp : 41 ≤ np) {n : Int32} : Cn l D cI cZ cQ ad np 1 yX4_isPlan wsX4_isPlan [.ref (ad 27), .int n] x g (rp (bI (inW n 0 (pcF (x 7) (x 8) - 1))) x g) := by
  refine cn_of (own := RX4) (by decide) rfl rfl (by simp [Value.category]) (Nat.le_of_ble_eq_true rfl) ?_
  intro p e s m args below meth c A Q C HR HV
  refine j_iload_n C dX4_isPlan_0 rfl ?_
  refine j_iconst (v := 0) C dX4_isPlan_1 rfl ?_
  refine j_iconst (v := 1) C dX4_isPlan_2 rfl ?_
  refine j_aload_n C dX4_isPlan_3 rfl ?_
  refine jg_X4_firsts C dX4_isPlan_4 n_X4_isPlan_X4 (by decide +kernel) (Nat.lt_of_lt_of_le (by decide) hnp) ?_
  refine j_aload_n C dX4_isPlan_7 rfl ?_
  refine jg_X4_seconds C dX4_isPlan_8 n_X4_isPlan_X4 (by decide +kernel) (Nat.lt_of_lt_of_le (by decide) hnp) ?_
  refine j_iadd C dX4_isPlan_11 ?_
  refine j_ishl C dX4_isPlan_12 ?_
  refine j_iconst (v := 1) C dX4_isPlan_13 rfl ?_
  refine j_isub C dX4_isPlan_14 ?_
  refine jSp3 C dX4_isPlan_15 gX4_isPlan_X4_in rfl pd_X4_in ⟨by decide, by decide⟩ (Nat.le_of_ble_eq_true rfl) c_X4_in ?_
  exact HR _ _ _ _ _ _ rfl (by unfold bI; split <;> rfl) dX4_isPlan_18 ⟨_, rfl, rfl, rfl, rfl⟩
theorem n_X4_isFirst_X4 : ∀ w ∈ wsX40, w ∈ wsX4_isFirst := by decide +kernel
set_option maxHeartbeats 4000000 in
set_option maxRecDepth 100000 in
theorem c_X4_isFirst {l : Launch} {D : va_G} {cI cZ cQ : ClassId} {ad : Nat → Nat} {np : Nat} {x : Nat → Nat} {g : Nat → Nat → Int32} (hnp : 41 ≤ np) {n : Int32} : Cn l D cI cZ cQ ad np 1 yX4_isFirst wsX4_isFirst [.ref (ad 27), .int n] x g (rp (bI (inW n 0 (fcF (x 7) - 1))) x g) := by
  refine cn_of (own := RX4) (by decide) rfl rfl (by simp [Value.category]) (Nat.le_of_ble_eq_true rfl) ?_
  intro p e s m args below meth c A Q C HR HV
  refine j_iload_n C dX4_isFirst_0 rfl ?_
  refine j_iconst (v := 0) C dX4_isFirst_1 rfl ?_
  refine j_iconst (v := 1) C dX4_isFirst_2 rfl ?_
  refine j_aload_n C dX4_isFirst_3 rfl ?_
  refine jg_X4_firsts C dX4_isFirst_4 n_X4_isFirst_X4 (by decide +kernel) (Nat.lt_of_lt_of_le (by decide) hnp) ?_
  refine j_ishl C dX4_isFirst_7 ?_
  refine j_iconst (v := 1) C dX4_isFirst_8 rfl ?_
  refine j_isub C dX4_isFirst_9 ?_
  refine jSp3 C dX4_isFirst_10 gX4_isFirst_X4_in rfl pd_X4_in ⟨by decide, by decide⟩ (Nat.le_of_ble_eq_true rfl) c_X4_in ?_
  exact HR _ _ _ _ _ _ rfl (by unfold bI; split <;> rfl) dX4_isFirst_13 ⟨_, rfl, rfl, rfl, rfl⟩
end
section
/-- the problem: a the counts (rows, F, S, budget, names, terms, futures), b the rows 9..17 as FutureSets holds them, nu the numbers of listed futures -/
def RX (x : Nat → Nat) (g : Nat → Nat → Int32) (a : Nat → Nat) (b nu : Nat → Nat → Int32) : Prop := (∀ k, k < 7 → x k = a k) ∧ (∀ k, 9 ≤ k → k ≤ 17 → g k = b k) ∧ ∀ i, i < 8 → g (19 + i) = nu i
def RM (x : Nat → Nat) (g : Nat → Nat → Int32) (a : Nat → Nat) (b nu : Nat → Nat → Int32) : Prop := (x 11 = a 0 ∧ x 7 = a 1 ∧ x 8 = a 2 ∧ x 10 = a 3 ∧ x 9 = a 4 ∧ x 12 = a 5 ∧ x 13 = a 6) ∧ (∀ k, 9 ≤ k → k ≤ 17 → g (k + 19) = b k) ∧ ∀ i, i < a 6 → ∀ j, j < a 4 → g 37 (12 * i + j) = nu i j
def Sx (g g' : Nat → Nat → Int32) : Prop := ∀ k, k < 4 ∨ 8 < k → g' k = g k
def Sm (g g' : Nat → Nat → Int32) : Prop := ∀ k, k < 38 ∨ 40 < k → g' k = g k
theorem Sx.rf {g : Nat → Nat → Int32} : Sx g g := fun _ _ => rfl
theorem Sm.rf {g : Nat → Nat → Int32} : Sm g g := fun _ _ => rfl
theorem Sx.tr {g g' g2 : Nat → Nat → Int32} (h : Sx g g') (h2 : Sx g' g2) : Sx g g2 := fun k hk => (h2 k hk).trans (h k hk)
theorem Sm.tr {g g' g2 : Nat → Nat → Int32} (h : Sm g g') (h2 : Sm g' g2) : Sm g g2 := fun k hk => (h2 k hk).trans (h k hk)
theorem Sx.up {g g' : Nat → Nat → Int32} {k : Nat} {f : Nat → Int32} (h : Sx g g') (hk : 4 ≤ k ∧ k ≤ 8) : Sx g (va_up g' k f) := fun j hj => by
  rw [← h j hj]; simp only [va_up]; rw [if_neg (by omega)]
theorem Sm.up {g g' : Nat → Nat → Int32} {k : Nat} {f : Nat → Int32} (h : Sm g g') (hk : 38 ≤ k ∧ k ≤ 40) : Sm g (va_up g' k f) := fun j hj => by
  rw [← h j hj]; simp only [va_up]; rw [if_neg (by omega)]
theorem RX.sx {x : Nat → Nat} {g g' : Nat → Nat → Int32} {a : Nat → Nat} {b nu : Nat → Nat → Int32} (h : RX x g a b nu) (hs : Sx g g') : RX x g' a b nu := ⟨h.1, fun k h1 h2 => (hs k (by omega)).trans (h.2.1 k h1 h2), fun i hi => (hs _ (by omega)).trans (h.2.2 i hi)⟩
theorem RX.sm {x : Nat → Nat} {g g' : Nat → Nat → Int32} {a : Nat → Nat} {b nu : Nat → Nat → Int32} (h : RX x g a b nu) (hs : Sm g g') : RX x g' a b nu := ⟨h.1, fun k h1 h2 => (hs k (by omega)).trans (h.2.1 k h1 h2), fun i hi => (hs _ (by omega)).trans (h.2.2 i hi)⟩
theorem RM.sm {x : Nat → Nat} {g g' : Nat → Nat → Int32} {a : Nat → Nat} {b nu : Nat → Nat → Int32} (h : RM x g a b nu) (hs : Sm g g') : RM x g' a b nu := ⟨h.1, fun k h1 h2 => (hs _ (by omega)).trans (h.2.1 k h1 h2), fun i hi j hj => by rw [hs 37 (by omega)]; exact h.2.2 i hi j hj⟩
theorem RM.sx {x : Nat → Nat} {g g' : Nat → Nat → Int32} {a : Nat → Nat} {b nu : Nat → Nat → Int32} (h : RM x g a b nu) (hs : Sx g g') : RM x g' a b nu := ⟨h.1, fun k h1 h2 => (hs _ (by omega)).trans (h.2.1 k h1 h2), fun i hi j hj => by rw [hs 37 (by omega)]; exact h.2.2 i hi j hj⟩
def WF (a : Nat → Nat) (b nu : Nat → Nat → Int32) : Prop := (a 0 ≤ 10 ∧ (1 ≤ a 1 ∧ a 1 ≤ 6) ∧ a 2 ≤ 4 ∧ a 3 ≤ 12 ∧ a 4 ≤ 12 ∧ a 5 ≤ 40 ∧ a 6 ≤ 8) ∧
  (∀ t, t < a 5 → (∃ r, r ≤ a 0 ∧ b 12 t = nI r - 1) ∧ (b 13 t = -1 ∨ ∃ j, j < a 1 + a 2 ∧ b 13 t = nI j) ∧ (b 14 t = -1 ∨ ∃ n, n < a 4 ∧ b 14 t = nI n) ∧ -20 ≤ (b 15 t).toInt ∧ (b 15 t).toInt ≤ 20) ∧
  (∀ n, n < a 4 → -100 ≤ (b 9 n).toInt ∧ (b 9 n).toInt ≤ (b 10 n).toInt ∧ (b 10 n).toInt ≤ (b 11 n).toInt ∧ (b 11 n).toInt ≤ 100) ∧
  ∀ i, i < a 6 → 1 ≤ (b 16 i).toInt ∧ (b 16 i).toInt ≤ 100 ∧ (b 17 i = 0 ∨ b 17 i = 1) ∧ ∀ n, n < a 4 → -100 ≤ (nu i n).toInt ∧ (nu i n).toInt ≤ 100
theorem inW_ix {n : Int32} {k : Nat} (hk : k < 2 ^ 30) (h : inW n 0 (nI k - 1) = true) : ∃ j, j < k ∧ n = nI j := by
  simp only [inW, Bool.and_eq_true, decide_eq_true_eq] at h
  obtain ⟨h1, h2⟩ := h
  have h0 : ¬ n < 0 := by
    rw [Int32.lt_iff_toInt_lt]; rw [Int32.le_iff_toInt_le] at h1; omega
  obtain ⟨j, hj, rfl⟩ := nI_of h0
  refine ⟨j, ?_, rfl⟩
  cases k with
  | zero =>
    exfalso
    rw [Int32.le_iff_toInt_le, nI_toInt hj] at h2
    have : (nI 0 - 1 : Int32).toInt = -1 := by decide
    omega
  | succ k =>
    rw [nI_pred] at h2
    have := (nI_leI hj (by omega)).mp h2
    omega
theorem inW_no {n : Int32} {k : Nat} (hk : k < 2 ^ 30) (j : Nat) (hj : j < k) (h : n = nI j) : inW n 0 (nI k - 1) = true := by
  subst h
  cases k with
  | zero => omega
  | succ k =>
    rw [nI_pred]
    simp only [inW, Bool.and_eq_true, decide_eq_true_eq]
    exact ⟨nI_pos' (by omega), (nI_leI (by omega) (by omega)).mpr (by omega)⟩
/-- counted futures, their odds -/
def cntF (b : Nat → Nat → Int32) : Nat → Int32
  | 0 => 0
  | i + 1 => if b 17 i = 0 then cntF b i + 1 else cntF b i
def odsF (b : Nat → Nat → Int32) : Nat → Int32
  | 0 => 0
  | i + 1 => if b 17 i = 0 then odsF b i + b 16 i else odsF b i
/-- whether a term is taken, is of a row; what it comes to -/
def tkF (b : Nat → Nat → Int32) (plan : Int32) (t : Nat) : Bool := decide (b 13 t < 0) || decide ((plan >>> (b 13 t &&& 31)) &&& 1 = 1)
def onF (b : Nat → Nat → Int32) (plan row : Int32) (t : Nat) : Bool := decide (b 12 t = row) && tkF b plan t
def vaF (b : Nat → Nat → Int32) (num : Nat → Int32) (t : Nat) : Int32 := if b 14 t < 0 then 1 else num (b 14 t).toNatClampNeg
def sumF (b : Nat → Nat → Int32) (num : Nat → Int32) (plan row : Int32) : Nat → Int32
  | 0 => 0
  | t + 1 => if onF b plan row t then sumF b num plan row t + b 15 t * vaF b num t else sumF b num plan row t
/-- what a call puts into numbers -/
def piF (g : Nat → Nat → Int32) (c n : Nat) (v : Int32) : Nat → Nat → Int32 := fun k => if 19 ≤ k ∧ k < 19 + c then upd (g k) n v else g k
theorem piF_0 {g : Nat → Nat → Int32} {n : Nat} {v : Int32} : piF g 0 n v = g := by
  funext k; simp only [piF]; rw [if_neg (by omega)]
theorem piF_s {g : Nat → Nat → Int32} {c n : Nat} {v : Int32} : va_up (piF g c n v) (19 + c) (upd (piF g c n v (19 + c)) n v) = piF g (c + 1) n v := by
  funext k
  by_cases hk : k = 19 + c
  · subst hk
    simp only [va_up, piF]
    rw [if_pos trivial, if_neg (by omega), if_pos (by omega)]
  · simp only [va_up, piF]
    rw [if_neg hk]
    by_cases h2 : 19 ≤ k ∧ k < 19 + c
    · rw [if_pos h2, if_pos (by omega)]
    · rw [if_neg h2, if_neg (by omega)]
theorem piF_off {g : Nat → Nat → Int32} {c n k : Nat} {v : Int32} (h : k < 19 ∨ 19 + c ≤ k) : piF g c n v k = g k := by
  simp only [piF]; rw [if_neg (by omega)]
/-- a row's first n places out of another -/
def cpF (f h : Nat → Int32) (n : Nat) : Nat → Int32 := fun k => if k < n then h k else f k
theorem cpF_0 {f h : Nat → Int32} : cpF f h 0 = f := by funext k; simp [cpF]
theorem cpF_s {f h : Nat → Int32} {n : Nat} : upd (cpF f h n) n (h n) = cpF f h (n + 1) := by
  funext k
  by_cases hk : k = n
  · subst hk; simp [upd, cpF]
  · simp only [upd, cpF, if_neg hk]
    by_cases h2 : k < n
    · rw [if_pos h2, if_pos (by omega)]
    · rw [if_neg h2, if_neg (by omega)]
theorem va_uu {α : Type} (f : Nat → α) (k : Nat) (v w : α) : va_up (va_up f k v) k w = va_up f k w := bx_uu f k v w
theorem va_us {α : Type} (f : Nat → α) (k : Nat) (v : α) : va_up f k v k = v := by simp [va_up]
theorem va_un {α : Type} (f : Nat → α) (k j : Nat) (v : α) (h : j ≠ k) : va_up f k v j = f j := by simp [va_up, h]
theorem va_id {α : Type} (f : Nat → α) (k : Nat) : va_up f k (f k) = f := by
  funext j; by_cases h : j = k
  · subst h; simp [va_up]
  · simp [va_up, h]
theorem isI_row {i : Nat} (h : i < 8) : isI (19 + i) = true := by
  have : ∀ i, i < 8 → isI (19 + i) = true := by decide
  exact this i h
theorem LN_row {i : Nat} (h : i < 8) : LN (19 + i) = 12 := by
  have : ∀ i, i < 8 → LN (19 + i) = 12 := by decide
  exact this i h
end
section
theorem n_X0_putInAll_X0 : ∀ w ∈ wsX00, w ∈ wsX0_putInAll := by decide +kernel
set_option maxHeartbeats 4000000 in
set_option maxRecDepth 100000 in
theorem c_X0_putInAll {l : Launch} {D : va_G} {cI cZ cQ : ClassId} {ad : Nat → Nat} {np : Nat} {x : Nat → Nat} {g : Nat → Nat → Int32} (hnp : 27 ≤ np) {n0 : Nat} {v : Int32} (hn : n0 < 12) (h6 : x 6 ≤ 8) : Cn l D cI cZ cQ ad np 0 yX0_putInAll wsX0_putInAll [.ref (ad 3), .int (nI n0), .int v] x g (rv (fun x' g' => x' = x ∧ g' = piF g (x 6) n0 v)) := by
  refine cn_of (own := RX0) (by decide) rfl rfl (by simp [Value.category]) (Nat.le_of_ble_eq_true rfl) ?_
  intro p e s m args below meth c A Q C HR HV
  have hL : ∀ (n : Nat) (i : Nat), i ≤ x 6 → x 6 - i < n → J p l e (Rm 0) s m args below meth c 0 0 D cI cZ cQ ad np A 4 Q x (piF g i n0 v) 2 [some (.ref (ad 3)), some (.int (nI n0)), some (.int v), some (.int (nI i))] [] := by
    intro n
    induction n with
    | zero => intros; omega
    | succ n ih =>
      intro i h1 h2
      refine j_iload_n C dX0_putInAll_2 rfl ?_
      refine j_aload_n C dX0_putInAll_3 rfl ?_
      refine jg_X0_count C dX0_putInAll_4 n_X0_putInAll_X0 (by decide +kernel) (Nat.lt_of_lt_of_le (by decide) hnp) ?_
      refine j_icmp_ge C 25 dX0_putInAll_7 (by decide) (fun hc => ?_) (fun hc => ?_)
      · have he : i = x 6 := by have := (nI_leI (by omega) (by omega)).mp hc; omega
        subst he
        exact HV _ _ _ _ rfl dX0_putInAll_25 ⟨rfl, rfl, rfl⟩
      · have hlt : i < x 6 := by have := mt (nI_leI (by omega) (by omega)).mpr hc; omega
        refine j_aload_n C dX0_putInAll_10 rfl ?_
        refine jg_X0_numbers C dX0_putInAll_11 n_X0_putInAll_X0 (by decide +kernel) (Nat.lt_of_lt_of_le (by decide) hnp) ?_
        refine j_iload_n C dX0_putInAll_14 rfl ?_
        refine j_aald C i dX0_putInAll_15 (Nat.lt_of_lt_of_le (by decide) hnp) rfl (by omega) ?_
        refine j_iload_n C dX0_putInAll_16 rfl ?_
        refine j_iload_n C dX0_putInAll_17 rfl ?_
        refine j_iast C n0 dX0_putInAll_18 (by omega) (isI_row (by omega)) rfl (by rw [LN_row (by omega)]; exact hn) ?_
        rw [piF_s]
        refine j_iincN (n := 1) C dX0_putInAll_19 rfl (by decide) ?_
        refine j_goto C 2 dX0_putInAll_22 (by decide) ?_
        exact ih (i + 1) (by omega) (by omega)
  refine j_iconst (v := 0) C dX0_putInAll_0 rfl ?_
  refine j_istore_n C dX0_putInAll_1 (by decide) ?_
  have hL0 := hL (x 6 + 1) 0 (by omega) (by omega)
  rw [piF_0] at hL0
  exact hL0
theorem n_X0_countCounted_X0 : ∀ w ∈ wsX00, w ∈ wsX0_countCounted := by decide +kernel
set_option maxHeartbeats 4000000 in
set_option maxRecDepth 100000 in
theorem c_X0_countCounted {l : Launch} {D : va_G} {cI cZ cQ : ClassId} {ad : Nat → Nat} {np : Nat} {x : Nat → Nat} {g : Nat → Nat → Int32} (hnp : 27 ≤ np) {b : Nat → Nat → Int32} (hb : g 17 = b 17) (h6 : x 6 ≤ 8) : Cn l D cI cZ cQ ad np 0 yX0_countCounted wsX0_countCounted [.ref (ad 3)] x g (rp (cntF b (x 6)) x g) := by
  refine cn_of (own := RX0) (by decide) rfl rfl (by simp [Value.category]) (Nat.le_of_ble_eq_true rfl) ?_
  intro p e s m args below meth c A Q C HR HV
  have hL : ∀ (n : Nat) (i : Nat) (r : Int32), i ≤ x 6 → x 6 - i < n → r = cntF b i → J p l e (Rm 0) s m args below meth c 0 0 D cI cZ cQ ad np A 3 Q x g 4 [some (.ref (ad 3)), some (.int r), some (.int (nI i))] [] := by
    intro n
    induction n with
    | zero => intros; omega
    | succ n ih =>
      intro i r h1 h2 hr
      refine j_iload_n C dX0_countCounted_4 rfl ?_
      refine j_aload_n C dX0_countCounted_5 rfl ?_
      refine jg_X0_count C dX0_countCounted_6 n_X0_countCounted_X0 (by decide +kernel) (Nat.lt_of_lt_of_le (by decide) hnp) ?_
      refine j_icmp_ge C 30 dX0_countCounted_9 (by decide) (fun hc => ?_) (fun hc => ?_)
      · have he : i = x 6 := by have := (nI_leI (by omega) (by omega)).mp hc; omega
        subst he
        refine j_iload_n C dX0_countCounted_30 rfl ?_
        exact HR _ _ _ _ _ _ rfl rfl dX0_countCounted_31 ⟨_, rfl, hr, rfl, rfl⟩
      · have hlt : i < x 6 := by have := mt (nI_leI (by omega) (by omega)).mpr hc; omega
        refine j_aload_n C dX0_countCounted_12 rfl ?_
        refine jg_X0_kept C dX0_countCounted_13 n_X0_countCounted_X0 (by decide +kernel) (Nat.lt_of_lt_of_le (by decide) hnp) ?_
        refine j_iload_n C dX0_countCounted_16 rfl ?_
        refine j_zald C _ dX0_countCounted_17 (Nat.lt_of_lt_of_le (by decide) hnp) (Or.inl rfl) rfl (by omega) ?_
        refine j_if_ne C 24 dX0_countCounted_18 (by decide) (fun hc18 => ?_) (fun hc18 => ?_)
        · refine j_iincN (n := 1) C dX0_countCounted_24 rfl (by decide) ?_
          refine j_goto C 4 dX0_countCounted_27 (by decide) ?_
          first
          | exact ih (i + 1) _ (by omega) (by omega) (by simp only [cntF]; rw [if_pos (by rw [← hb]; exact hc18), hr]; rfl)
          | exact ih (i + 1) _ (by omega) (by omega) (by simp only [cntF]; rw [if_neg (by rw [← hb]; exact hc18), hr])
        · refine j_iinc C dX0_countCounted_21 rfl rfl (by decide) ?_
          refine j_iincN (n := 1) C dX0_countCounted_24 rfl (by decide) ?_
          refine j_goto C 4 dX0_countCounted_27 (by decide) ?_
          first
          | exact ih (i + 1) _ (by omega) (by omega) (by simp only [cntF]; rw [if_pos (by rw [← hb]; exact hc18), hr]; rfl)
          | exact ih (i + 1) _ (by omega) (by omega) (by simp only [cntF]; rw [if_neg (by rw [← hb]; exact hc18), hr])
  refine j_iconst (v := 0) C dX0_countCounted_0 rfl ?_
  refine j_istore_n C dX0_countCounted_1 (by decide) ?_
  refine j_iconst (v := 0) C dX0_countCounted_2 rfl ?_
  refine j_istore_n C dX0_countCounted_3 (by decide) ?_
  exact hL (x 6 + 1) 0 _ (by omega) (by omega) rfl
theorem n_X0_countedOdds_X0 : ∀ w ∈ wsX00, w ∈ wsX0_countedOdds := by decide +kernel
set_option maxHeartbeats 4000000 in
set_option maxRecDepth 100000 in
theorem c_X0_countedOdds {l : Launch} {D : va_G} {cI cZ cQ : ClassId} {ad : Nat → Nat} {np : Nat} {x : Nat → Nat} {g : Nat → Nat → Int32} (hnp : 27 ≤ np) {b : Nat → Nat → Int32} (hb : g 17 = b 17) (hb2 : g 16 = b 16) (h6 : x 6 ≤ 8) : Cn l D cI cZ cQ ad np 0 yX0_countedOdds wsX0_countedOdds [.ref (ad 3)] x g (rp (odsF b (x 6)) x g) := by
  refine cn_of (own := RX0) (by decide) rfl rfl (by simp [Value.category]) (Nat.le_of_ble_eq_true rfl) ?_
  intro p e s m args below meth c A Q C HR HV
  have hL : ∀ (n : Nat) (i : Nat) (r : Int32), i ≤ x 6 → x 6 - i < n → r = odsF b i → J p l e (Rm 0) s m args below meth c 0 0 D cI cZ cQ ad np A 3 Q x g 4 [some (.ref (ad 3)), some (.int r), some (.int (nI i))] [] := by
    intro n
    induction n with
    | zero => intros; omega
    | succ n ih =>
      intro i r h1 h2 hr
      refine j_iload_n C dX0_countedOdds_4 rfl ?_
      refine j_aload_n C dX0_countedOdds_5 rfl ?_
      refine jg_X0_count C dX0_countedOdds_6 n_X0_countedOdds_X0 (by decide +kernel) (Nat.lt_of_lt_of_le (by decide) hnp) ?_
      refine j_icmp_ge C 36 dX0_countedOdds_9 (by decide) (fun hc => ?_) (fun hc => ?_)
      · have he : i = x 6 := by have := (nI_leI (by omega) (by omega)).mp hc; omega
        subst he
        refine j_iload_n C dX0_countedOdds_36 rfl ?_
        exact HR _ _ _ _ _ _ rfl rfl dX0_countedOdds_37 ⟨_, rfl, hr, rfl, rfl⟩
      · have hlt : i < x 6 := by have := mt (nI_leI (by omega) (by omega)).mpr hc; omega
        refine j_aload_n C dX0_countedOdds_12 rfl ?_
        refine jg_X0_kept C dX0_countedOdds_13 n_X0_countedOdds_X0 (by decide +kernel) (Nat.lt_of_lt_of_le (by decide) hnp) ?_
        refine j_iload_n C dX0_countedOdds_16 rfl ?_
        refine j_zald C _ dX0_countedOdds_17 (Nat.lt_of_lt_of_le (by decide) hnp) (Or.inl rfl) rfl (by omega) ?_
        refine j_if_ne C 30 dX0_countedOdds_18 (by decide) (fun hc18 => ?_) (fun hc18 => ?_)
        · refine j_iincN (n := 1) C dX0_countedOdds_30 rfl (by decide) ?_
          refine j_goto C 4 dX0_countedOdds_33 (by decide) ?_
          first
          | exact ih (i + 1) _ (by omega) (by omega) (by simp only [odsF]; rw [if_pos (by rw [← hb]; exact hc18), hr, ← hb2])
          | exact ih (i + 1) _ (by omega) (by omega) (by simp only [odsF]; rw [if_neg (by rw [← hb]; exact hc18), hr])
        · refine j_iload_n C dX0_countedOdds_21 rfl ?_
          refine j_aload_n C dX0_countedOdds_22 rfl ?_
          refine jg_X0_odds C dX0_countedOdds_23 n_X0_countedOdds_X0 (by decide +kernel) (Nat.lt_of_lt_of_le (by decide) hnp) ?_
          refine j_iload_n C dX0_countedOdds_26 rfl ?_
          refine j_iald C _ dX0_countedOdds_27 (Nat.lt_of_lt_of_le (by decide) hnp) rfl rfl (show _ < 8 by omega) ?_
          refine j_iadd C dX0_countedOdds_28 ?_
          refine j_istore_n C dX0_countedOdds_29 (by decide) ?_
          refine j_iincN (n := 1) C dX0_countedOdds_30 rfl (by decide) ?_
          refine j_goto C 4 dX0_countedOdds_33 (by decide) ?_
          first
          | exact ih (i + 1) _ (by omega) (by omega) (by simp only [odsF]; rw [if_pos (by rw [← hb]; exact hc18), hr, ← hb2])
          | exact ih (i + 1) _ (by omega) (by omega) (by simp only [odsF]; rw [if_neg (by rw [← hb]; exact hc18), hr])
  refine j_iconst (v := 0) C dX0_countedOdds_0 rfl ?_
  refine j_istore_n C dX0_countedOdds_1 (by decide) ?_
  refine j_iconst (v := 0) C dX0_countedOdds_2 rfl ?_
  refine j_istore_n C dX0_countedOdds_3 (by decide) ?_
  exact hL (x 6 + 1) 0 _ (by omega) (by omega) rfl
theorem n_X0_add_X0 : ∀ w ∈ wsX00, w ∈ wsX0_add := by decide +kernel
theorem n_X0_add_X1 : ∀ w ∈ wsX10, w ∈ wsX0_add := by decide +kernel
set_option maxHeartbeats 4000000 in
set_option maxRecDepth 100000 in
theorem c_X0_add {l : Launch} {D : va_G} {cI cZ cQ : ClassId} {ad : Nat → Nat} {np : Nat} {x : Nat → Nat} {g : Nat → Nat → Int32} (hnp : 27 ≤ np) {od kp : Int32} (hkp : vp_nar .boolean kp = kp) (h6 : x 6 < 8) (h4 : x 4 ≤ 12) : Cn l D cI cZ cQ ad np 0 yX0_add wsX0_add [.ref (ad 3), .int od, .int kp, .ref (ad 1)] x g (rp (nI (x 6)) (va_up x 6 (x 6 + 1)) (va_up (va_up (va_up g 16 (upd (g 16) (x 6) od)) 17 (upd (g 17) (x 6) kp)) (19 + x 6) (cpF (g (19 + x 6)) (g 10) (x 4)))) := by
  refine cn_of (own := RX0) (by decide) rfl rfl (by simp [Value.category]) (Nat.le_of_ble_eq_true rfl) ?_
  intro p e s m args below meth c A Q C HR HV
  have hL : ∀ (n : Nat) (i : Nat), i ≤ x 4 → x 4 - i < n → J p l e (Rm 0) s m args below meth c 0 0 D cI cZ cQ ad np A 5 Q x (va_up (va_up (va_up g 16 (upd (g 16) (x 6) od)) 17 (upd (g 17) (x 6) kp)) (19 + x 6) (cpF (g (19 + x 6)) (g 10) i)) 23 [some (.ref (ad 3)), some (.int od), some (.int kp), some (.ref (ad 1)), some (.int (nI i))] [] := by
    intro n
    induction n with
    | zero => intros; omega
    | succ n ih =>
      intro i h1 h2
      refine j_iload C dX0_add_23 rfl ?_
      refine j_aload_n C dX0_add_25 rfl ?_
      refine jg_X1_count C dX0_add_26 n_X0_add_X1 (by decide +kernel) (Nat.lt_of_lt_of_le (by decide) hnp) ?_
      refine j_icmp_ge C 57 dX0_add_29 (by decide) (fun hc => ?_) (fun hc => ?_)
      · have he : i = x 4 := by have := (nI_leI (by omega) (by omega)).mp hc; omega
        subst he
        refine j_aload_n C dX0_add_57 rfl ?_
        refine j_dup C dX0_add_58 rfl ?_
        refine jg_X0_count C dX0_add_59 n_X0_add_X0 (by decide +kernel) (Nat.lt_of_lt_of_le (by decide) hnp) ?_
        refine j_iconst (v := 1) C dX0_add_62 rfl ?_
        refine j_iadd C dX0_add_63 ?_
        refine jp_X0_count C (x 6 + 1) dX0_add_64 n_X0_add_X0 (by decide +kernel) (Nat.lt_of_lt_of_le (by decide) hnp) (nI_1 (x 6)) ?_
        refine j_aload_n C dX0_add_67 rfl ?_
        refine jg_X0_count C dX0_add_68 n_X0_add_X0 (by decide +kernel) (Nat.lt_of_lt_of_le (by decide) hnp) ?_
        refine j_iconst (v := 1) C dX0_add_71 rfl ?_
        refine j_isub C dX0_add_72 ?_
        rw [va_us, nI_pred]
        exact HR _ _ _ _ _ _ rfl rfl dX0_add_73 ⟨_, rfl, rfl, rfl, rfl⟩
      · have hlt : i < x 4 := by have := mt (nI_leI (by omega) (by omega)).mpr hc; omega
        refine j_aload_n C dX0_add_32 rfl ?_
        refine jg_X0_numbers C dX0_add_33 n_X0_add_X0 (by decide +kernel) (Nat.lt_of_lt_of_le (by decide) hnp) ?_
        refine j_aload_n C dX0_add_36 rfl ?_
        refine jg_X0_count C dX0_add_37 n_X0_add_X0 (by decide +kernel) (Nat.lt_of_lt_of_le (by decide) hnp) ?_
        refine j_aald C (x 6) dX0_add_40 (Nat.lt_of_lt_of_le (by decide) hnp) rfl (by omega) ?_
        refine j_iload C dX0_add_41 rfl ?_
        refine j_aload_n C dX0_add_43 rfl ?_
        refine jg_X1_usual C dX0_add_44 n_X0_add_X1 (by decide +kernel) (Nat.lt_of_lt_of_le (by decide) hnp) ?_
        refine j_iload C dX0_add_47 rfl ?_
        refine j_iald C i dX0_add_49 (Nat.lt_of_lt_of_le (by decide) hnp) rfl rfl (show _ < 12 by omega) ?_
        refine j_iast C i dX0_add_50 (by omega) (isI_row (by omega)) rfl (by rw [LN_row (by omega)]; omega) ?_
        rw [va_us, va_uu, va_un _ _ 10 _ (by omega), va_un _ 17 10 _ (by decide), va_un _ 16 10 _ (by decide), cpF_s]
        refine j_iincN (n := 1) C dX0_add_51 rfl (by decide) ?_
        refine j_goto C 23 dX0_add_54 (by decide) ?_
        exact ih (i + 1) (by omega) (by omega)
  refine j_aload_n C dX0_add_0 rfl ?_
  refine jg_X0_odds C dX0_add_1 n_X0_add_X0 (by decide +kernel) (Nat.lt_of_lt_of_le (by decide) hnp) ?_
  refine j_aload_n C dX0_add_4 rfl ?_
  refine jg_X0_count C dX0_add_5 n_X0_add_X0 (by decide +kernel) (Nat.lt_of_lt_of_le (by decide) hnp) ?_
  refine j_iload_n C dX0_add_8 rfl ?_
  refine j_iast C _ dX0_add_9 (Nat.lt_of_lt_of_le (by decide) hnp) rfl rfl (show _ < 8 by omega) ?_
  refine j_aload_n C dX0_add_10 rfl ?_
  refine jg_X0_kept C dX0_add_11 n_X0_add_X0 (by decide +kernel) (Nat.lt_of_lt_of_le (by decide) hnp) ?_
  refine j_aload_n C dX0_add_14 rfl ?_
  refine jg_X0_count C dX0_add_15 n_X0_add_X0 (by decide +kernel) (Nat.lt_of_lt_of_le (by decide) hnp) ?_
  refine j_iload_n C dX0_add_18 rfl ?_
  refine j_zast C _ dX0_add_19 (Nat.lt_of_lt_of_le (by decide) hnp) (Or.inl rfl) rfl (by omega) hkp ?_
  refine j_iconst (v := 0) C dX0_add_20 rfl ?_
  refine j_istore C dX0_add_21 (by decide) ?_
  have hL0 := hL (x 4 + 1) 0 (by omega) (by omega)
  rw [cpF_0, show g (19 + x 6) = (va_up (va_up g 16 (upd (g 16) (x 6) od)) 17 (upd (g 17) (x 6) kp)) (19 + x 6) by rw [va_un _ _ _ _ (by omega), va_un _ _ _ _ (by omega)], va_id] at hL0
  rw [va_un _ 16 17 _ (by decide)]
  exact hL0
theorem n_X1_add_X1 : ∀ w ∈ wsX10, w ∈ wsX1_add := by decide +kernel
set_option maxHeartbeats 4000000 in
set_option maxRecDepth 100000 in
theorem c_X1_add {l : Launch} {D : va_G} {cI cZ cQ : ClassId} {ad : Nat → Nat} {np : Nat} {x : Nat → Nat} {g : Nat → Nat → Int32} (hnp : 27 ≤ np) {lo us hi : Int32} (h4 : x 4 < 12) : Cn l D cI cZ cQ ad np 0 yX1_add wsX1_add [.ref (ad 1), .int lo, .int us, .int hi] x g (rp (nI (x 4)) (va_up x 4 (x 4 + 1)) (va_up (va_up (va_up g 9 (upd (g 9) (x 4) lo)) 10 (upd (g 10) (x 4) us)) 11 (upd (g 11) (x 4) hi))) := by
  refine cn_of (own := RX1) (by decide) rfl rfl (by simp [Value.category]) (Nat.le_of_ble_eq_true rfl) ?_
  intro p e s m args below meth c A Q C HR HV
  refine j_aload_n C dX1_add_0 rfl ?_
  refine jg_X1_least C dX1_add_1 n_X1_add_X1 (by decide +kernel) (Nat.lt_of_lt_of_le (by decide) hnp) ?_
  refine j_aload_n C dX1_add_4 rfl ?_
  refine jg_X1_count C dX1_add_5 n_X1_add_X1 (by decide +kernel) (Nat.lt_of_lt_of_le (by decide) hnp) ?_
  refine j_iload_n C dX1_add_8 rfl ?_
  refine j_iast C _ dX1_add_9 (Nat.lt_of_lt_of_le (by decide) hnp) rfl rfl (show _ < 12 by omega) ?_
  refine j_aload_n C dX1_add_10 rfl ?_
  refine jg_X1_usual C dX1_add_11 n_X1_add_X1 (by decide +kernel) (Nat.lt_of_lt_of_le (by decide) hnp) ?_
  refine j_aload_n C dX1_add_14 rfl ?_
  refine jg_X1_count C dX1_add_15 n_X1_add_X1 (by decide +kernel) (Nat.lt_of_lt_of_le (by decide) hnp) ?_
  refine j_iload_n C dX1_add_18 rfl ?_
  refine j_iast C _ dX1_add_19 (Nat.lt_of_lt_of_le (by decide) hnp) rfl rfl (show _ < 12 by omega) ?_
  refine j_aload_n C dX1_add_20 rfl ?_
  refine jg_X1_greatest C dX1_add_21 n_X1_add_X1 (by decide +kernel) (Nat.lt_of_lt_of_le (by decide) hnp) ?_
  refine j_aload_n C dX1_add_24 rfl ?_
  refine jg_X1_count C dX1_add_25 n_X1_add_X1 (by decide +kernel) (Nat.lt_of_lt_of_le (by decide) hnp) ?_
  refine j_iload_n C dX1_add_28 rfl ?_
  refine j_iast C _ dX1_add_29 (Nat.lt_of_lt_of_le (by decide) hnp) rfl rfl (show _ < 12 by omega) ?_
  refine j_aload_n C dX1_add_30 rfl ?_
  refine j_dup C dX1_add_31 rfl ?_
  refine jg_X1_count C dX1_add_32 n_X1_add_X1 (by decide +kernel) (Nat.lt_of_lt_of_le (by decide) hnp) ?_
  refine j_iconst (v := 1) C dX1_add_35 rfl ?_
  refine j_iadd C dX1_add_36 ?_
  refine jp_X1_count C (x 4 + 1) dX1_add_37 n_X1_add_X1 (by decide +kernel) (Nat.lt_of_lt_of_le (by decide) hnp) (nI_1 (x 4)) ?_
  refine j_aload_n C dX1_add_40 rfl ?_
  refine jg_X1_count C dX1_add_41 n_X1_add_X1 (by decide +kernel) (Nat.lt_of_lt_of_le (by decide) hnp) ?_
  refine j_iconst (v := 1) C dX1_add_44 rfl ?_
  refine j_isub C dX1_add_45 ?_
  rw [va_us, nI_pred, va_un _ 9 10 _ (by decide), va_un _ 10 11 _ (by decide), va_un _ 9 11 _ (by decide)]
  exact HR _ _ _ _ _ _ rfl rfl dX1_add_46 ⟨_, rfl, rfl, rfl, rfl⟩
theorem n_X2_add_X2 : ∀ w ∈ wsX20, w ∈ wsX2_add := by decide +kernel
set_option maxHeartbeats 4000000 in
set_option maxRecDepth 100000 in
theorem c_X2_add {l : Launch} {D : va_G} {cI cZ cQ : ClassId} {ad : Nat → Nat} {np : Nat} {x : Nat → Nat} {g : Nat → Nat → Int32} (hnp : 27 ≤ np) {rw ch nm fc : Int32} (h5 : x 5 < 40) : Cn l D cI cZ cQ ad np 0 yX2_add wsX2_add [.ref (ad 2), .int rw, .int ch, .int nm, .int fc] x g (rp (nI (x 5 + 1)) (va_up x 5 (x 5 + 1)) (va_up (va_up (va_up (va_up g 12 (upd (g 12) (x 5) rw)) 13 (upd (g 13) (x 5) ch)) 14 (upd (g 14) (x 5) nm)) 15 (upd (g 15) (x 5) fc))) := by
  refine cn_of (own := RX2) (by decide) rfl rfl (by simp [Value.category]) (Nat.le_of_ble_eq_true rfl) ?_
  intro p e s m args below meth c A Q C HR HV
  refine j_aload_n C dX2_add_0 rfl ?_
  refine jg_X2_rowOf C dX2_add_1 n_X2_add_X2 (by decide +kernel) (Nat.lt_of_lt_of_le (by decide) hnp) ?_
  refine j_aload_n C dX2_add_4 rfl ?_
  refine jg_X2_count C dX2_add_5 n_X2_add_X2 (by decide +kernel) (Nat.lt_of_lt_of_le (by decide) hnp) ?_
  refine j_iload_n C dX2_add_8 rfl ?_
  refine j_iast C _ dX2_add_9 (Nat.lt_of_lt_of_le (by decide) hnp) rfl rfl (show _ < 40 by omega) ?_
  refine j_aload_n C dX2_add_10 rfl ?_
  refine jg_X2_choiceOf C dX2_add_11 n_X2_add_X2 (by decide +kernel) (Nat.lt_of_lt_of_le (by decide) hnp) ?_
  refine j_aload_n C dX2_add_14 rfl ?_
  refine jg_X2_count C dX2_add_15 n_X2_add_X2 (by decide +kernel) (Nat.lt_of_lt_of_le (by decide) hnp) ?_
  refine j_iload_n C dX2_add_18 rfl ?_
  refine j_iast C _ dX2_add_19 (Nat.lt_of_lt_of_le (by decide) hnp) rfl rfl (show _ < 40 by omega) ?_
  refine j_aload_n C dX2_add_20 rfl ?_
  refine jg_X2_nameOf C dX2_add_21 n_X2_add_X2 (by decide +kernel) (Nat.lt_of_lt_of_le (by decide) hnp) ?_
  refine j_aload_n C dX2_add_24 rfl ?_
  refine jg_X2_count C dX2_add_25 n_X2_add_X2 (by decide +kernel) (Nat.lt_of_lt_of_le (by decide) hnp) ?_
  refine j_iload_n C dX2_add_28 rfl ?_
  refine j_iast C _ dX2_add_29 (Nat.lt_of_lt_of_le (by decide) hnp) rfl rfl (show _ < 40 by omega) ?_
  refine j_aload_n C dX2_add_30 rfl ?_
  refine jg_X2_factorOf C dX2_add_31 n_X2_add_X2 (by decide +kernel) (Nat.lt_of_lt_of_le (by decide) hnp) ?_
  refine j_aload_n C dX2_add_34 rfl ?_
  refine jg_X2_count C dX2_add_35 n_X2_add_X2 (by decide +kernel) (Nat.lt_of_lt_of_le (by decide) hnp) ?_
  refine j_iload C dX2_add_38 rfl ?_
  refine j_iast C _ dX2_add_40 (Nat.lt_of_lt_of_le (by decide) hnp) rfl rfl (show _ < 40 by omega) ?_
  refine j_aload_n C dX2_add_41 rfl ?_
  refine j_dup C dX2_add_42 rfl ?_
  refine jg_X2_count C dX2_add_43 n_X2_add_X2 (by decide +kernel) (Nat.lt_of_lt_of_le (by decide) hnp) ?_
  refine j_iconst (v := 1) C dX2_add_46 rfl ?_
  refine j_iadd C dX2_add_47 ?_
  refine jp_X2_count C (x 5 + 1) dX2_add_48 n_X2_add_X2 (by decide +kernel) (Nat.lt_of_lt_of_le (by decide) hnp) (nI_1 (x 5)) ?_
  refine j_aload_n C dX2_add_51 rfl ?_
  refine jg_X2_count C dX2_add_52 n_X2_add_X2 (by decide +kernel) (Nat.lt_of_lt_of_le (by decide) hnp) ?_
  rw [va_us, va_un _ 12 13 _ (by decide), va_un _ 13 14 _ (by decide), va_un _ 12 14 _ (by decide), va_un _ 14 15 _ (by decide), va_un _ 13 15 _ (by decide), va_un _ 12 15 _ (by decide)]
  exact HR _ _ _ _ _ _ rfl rfl dX2_add_55 ⟨_, rfl, rfl, rfl, rfl⟩
theorem n_X2_isTaken_X2 : ∀ w ∈ wsX20, w ∈ wsX2_isTaken := by decide +kernel
set_option maxHeartbeats 4000000 in
set_option maxRecDepth 100000 in
theorem c_X2_isTaken {l : Launch} {D : va_G} {cI cZ cQ : ClassId} {ad : Nat → Nat} {np : Nat} {x : Nat → Nat} {g : Nat → Nat → Int32} (hnp : 27 ≤ np) {b : Nat → Nat → Int32} {i : Nat} {plan : Int32} (hb : g 13 = b 13) (hi : i < 40) (hch : b 13 i = -1 ∨ ¬ b 13 i < 0) : Cn l D cI cZ cQ ad np 0 yX2_isTaken wsX2_isTaken [.ref (ad 2), .int (nI i), .int plan] x g (rp (bI (tkF b plan i)) x g) := by
  refine cn_of (own := RX2) (by decide) rfl rfl (by simp [Value.category]) (Nat.le_of_ble_eq_true rfl) ?_
  intro p e s m args below meth c A Q C HR HV
  refine j_aload_n C dX2_isTaken_0 rfl ?_
  refine jg_X2_choiceOf C dX2_isTaken_1 n_X2_isTaken_X2 (by decide +kernel) (Nat.lt_of_lt_of_le (by decide) hnp) ?_
  refine j_iload_n C dX2_isTaken_4 rfl ?_
  refine j_iald C i dX2_isTaken_5 (Nat.lt_of_lt_of_le (by decide) hnp) rfl rfl (show _ < 40 by omega) ?_
  refine j_iconst (v := (-1)) C dX2_isTaken_6 rfl ?_
  refine j_icmp_eq C 24 dX2_isTaken_7 (by decide) (fun hc7 => ?_) (fun hc7 => ?_)
  · refine j_iconst (v := 1) C dX2_isTaken_24 rfl ?_
    refine j_goto C 29 dX2_isTaken_25 (by decide) ?_
    exact HR _ _ _ _ _ _ rfl rfl dX2_isTaken_29 ⟨_, rfl, by simp only [tkF, ← hb]; simp_all [bI], rfl, rfl⟩
  · refine j_iload_n C dX2_isTaken_10 rfl ?_
    refine j_aload_n C dX2_isTaken_11 rfl ?_
    refine jg_X2_choiceOf C dX2_isTaken_12 n_X2_isTaken_X2 (by decide +kernel) (Nat.lt_of_lt_of_le (by decide) hnp) ?_
    refine j_iload_n C dX2_isTaken_15 rfl ?_
    refine j_iald C i dX2_isTaken_16 (Nat.lt_of_lt_of_le (by decide) hnp) rfl rfl (show _ < 40 by omega) ?_
    refine j_ishr C dX2_isTaken_17 ?_
    refine j_iconst (v := 1) C dX2_isTaken_18 rfl ?_
    refine j_iand C dX2_isTaken_19 ?_
    refine j_iconst (v := 1) C dX2_isTaken_20 rfl ?_
    refine j_icmp_ne C 28 dX2_isTaken_21 (by decide) (fun hc21 => ?_) (fun hc21 => ?_)
    · refine j_iconst (v := 0) C dX2_isTaken_28 rfl ?_
      exact HR _ _ _ _ _ _ rfl rfl dX2_isTaken_29 ⟨_, rfl, by simp only [tkF, ← hb]; simp_all [bI], rfl, rfl⟩
    · refine j_iconst (v := 1) C dX2_isTaken_24 rfl ?_
      refine j_goto C 29 dX2_isTaken_25 (by decide) ?_
      exact HR _ _ _ _ _ _ rfl rfl dX2_isTaken_29 ⟨_, rfl, by simp only [tkF, ← hb]; simp_all [bI], rfl, rfl⟩
end
section
section JD
variable {p : Program} {l : Launch} {e : Env} {R : Room} {s : State} {m : MethodId} {args : Array Value} {below : List Frame} {meth : Method} {c : Code} {kc ks : Nat} {Q : State → Prop}
variable {cc : ByteArray} {nL : Nat} {own : String} {Ts : List Cond} {D : va_G} {cI cZ cQ : ClassId} {ad : Nat → Nat} {np : Nat} {A : Nat → Prop}
variable {x x' : Nat → Nat} {g g' : Nat → Nat → Int32} {pc tgt : Nat} {ls : List (Option Value)} {st : List Value}
theorem lz_drop {ls : List (Option Value)} {k : Nat} {q : Nat × Value} (h : q ∈ lz (ls.set k none)) : q ∈ lz ls := by
  obtain ⟨h1, h2⟩ := lz_mem.mp h
  refine lz_mem.mpr ⟨?_, h2⟩
  by_cases hk : q.1 = k
  · rw [hk] at h1
    have hl := (List.getElem?_eq_some_iff.mp h1).1
    rw [List.length_set] at hl
    rw [List.getElem?_set_self hl] at h1
    cases h1
  · rwa [List.getElem?_set_ne (Ne.symm hk)] at h1
theorem j_drop (k : Nat) (K : J p l e R s m args below meth c kc ks D cI cZ cQ ad np A nL Q x g (pc) (ls.set k none) (st)) : J p l e R s m args below meth c kc ks D cI cZ cQ ad np A nL Q x g (pc) (ls) (st) := fun H locs la hP hS hv => K H locs la hP hS ⟨hv.1, hv.2.1, fun q hq => hv.2.2 q (lz_drop hq)⟩
theorem j_eqi {u v : Int32} (h : u = v) (K : J p l e R s m args below meth c kc ks D cI cZ cQ ad np A nL Q x g (pc) (ls) (.int v :: st)) : J p l e R s m args below meth c kc ks D cI cZ cQ ad np A nL Q x g (pc) (ls) (.int u :: st) := h ▸ K
end JD
theorem slot_eq (r : Nat) : nI r - 1 - (-1) = nI r := by
  have h : ∀ u : Int32, u - 1 - (-1) = u := by intro u; grind
  exact h _
theorem sub1_inj {r q : Nat} (hr : r < 2 ^ 31) (hq : q < 2 ^ 31) (h : nI r - 1 = nI q - 1) : r = q := by
  have h2 : nI r = nI q := by rw [← slot_eq r, ← slot_eq q, h]
  exact (nI_eq hr hq).mp h2
theorem zF_s {f : Nat → Int32} {n : Nat} : upd (cpF f (fun _ => 0) n) n 0 = cpF f (fun _ => 0) (n + 1) := cpF_s
theorem sumF_on {b : Nat → Nat → Int32} {num f : Nat → Int32} {plan v : Int32} {t r R : Nat} (hr : b 12 t = nI r - 1) (ht : tkF b plan t = true) (hv : v = vaF b num t) (h : ∀ q, q ≤ R → f q = sumF b num plan (nI q - 1) t) (hr2 : r ≤ R) (hR : R ≤ 10) : ∀ q, q ≤ R → upd f r (f r + b 15 t * v) q = sumF b num plan (nI q - 1) (t + 1) := by
  intro q hq
  simp only [sumF, onF, ht, Bool.and_true, decide_eq_true_eq]
  by_cases hqr : q = r
  · subst hqr
    rw [if_pos hr, ← h q hq, hv]
    simp [upd]
  · rw [if_neg (fun e => hqr (sub1_inj (by omega) (by omega) (e.symm.trans hr)).symm.symm)]
    simp only [upd]
    rw [if_neg hqr]
    exact h q hq
theorem sumF_off {b : Nat → Nat → Int32} {num f : Nat → Int32} {plan : Int32} {t R : Nat} (ht : tkF b plan t = false) (h : ∀ q, q ≤ R → f q = sumF b num plan (nI q - 1) t) : ∀ q, q ≤ R → f q = sumF b num plan (nI q - 1) (t + 1) := by
  intro q hq
  simp only [sumF, onF, ht, Bool.and_false]
  exact h q hq
/-- a name's factors together, and those without a name -/
def wF (b : Nat → Nat → Int32) (plan row : Int32) (n : Nat) : Nat → Int32
  | 0 => 0
  | t + 1 => if onF b plan row t && decide (b 14 t = nI n) then wF b plan row n t + b 15 t else wF b plan row n t
def baF (b : Nat → Nat → Int32) (plan row : Int32) : Nat → Int32
  | 0 => 0
  | t + 1 => if onF b plan row t && decide (b 14 t < 0) then baF b plan row t + b 15 t else baF b plan row t
theorem n_X2_sumUp_X2 : ∀ w ∈ wsX20, w ∈ wsX2_sumUp := by decide +kernel
set_option maxHeartbeats 4000000 in
set_option maxRecDepth 100000 in
theorem c_X2_sumUp {l : Launch} {D : va_G} {cI cZ cQ : ClassId} {ad : Nat → Nat} {np : Nat} {x : Nat → Nat} {g : Nat → Nat → Int32} (hnp : 27 ≤ np) {a : Nat → Nat} {b nu : Nat → Nat → Int32} (hX : RX x g a b nu) (hW : WF a b nu) {num : Nat → Int32} {plan : Int32} {k : Nat} (hk : k < np) (hkI : isI k = true) (hkL : LN k = 12) (hk4 : k ≠ 4) (hnum : g k = num) : Cn l D cI cZ cQ ad np 1 yX2_sumUp wsX2_sumUp [.ref (ad 2), .int plan, .ref (ad k), .ref (ad 4)] x g (rv (fun x' g' => x' = x ∧ ∃ f, g' = va_up g 4 f ∧ ∀ q, q ≤ a 0 → f q = sumF b num plan (nI q - 1) (a 5))) := by
  refine cn_of (own := RX2) (by decide) rfl rfl (by simp [Value.category]) (Nat.le_of_ble_eq_true rfl) ?_
  intro p e s m args below meth c A Q C HR HV
  obtain ⟨hx, hg, hnu⟩ := id hX
  obtain ⟨⟨w0, ⟨w1, w1'⟩, w2, w3, w4, w5, w6⟩, wt, wn, wq⟩ := id hW
  have e0 := hx 0 (by decide)
  have e1 := hx 1 (by decide)
  have e2 := hx 2 (by decide)
  have e3 := hx 3 (by decide)
  have e4 := hx 4 (by decide)
  have e5 := hx 5 (by decide)
  have e6 := hx 6 (by decide)
  have b9 := hg 9 (by decide) (by decide)
  have b10 := hg 10 (by decide) (by decide)
  have b11 := hg 11 (by decide) (by decide)
  have b12 := hg 12 (by decide) (by decide)
  have b13 := hg 13 (by decide) (by decide)
  have b14 := hg 14 (by decide) (by decide)
  have b15 := hg 15 (by decide) (by decide)
  have b16 := hg 16 (by decide) (by decide)
  have b17 := hg 17 (by decide) (by decide)
  have hL2 : ∀ (n : Nat) (i : Nat) (f : Nat → Int32), i ≤ a 5 → a 5 - i < n → (∀ q, q ≤ a 0 → f q = sumF b num plan (nI q - 1) i) → J p l e (Rm 1) s m args below meth c 0 0 D cI cZ cQ ad np A 6 Q x (va_up g 4 f) 24 [some (.ref (ad 2)), some (.int plan), some (.ref (ad k)), some (.ref (ad 4)), some (.int (nI i)), none] [] := by
    intro n
    induction n with
    | zero => intros; omega
    | succ n ih =>
      intro i f h1 h2 hf
      refine j_iload C dX2_sumUp_24 rfl ?_
      refine j_aload_n C dX2_sumUp_26 rfl ?_
      refine jg_X2_count C dX2_sumUp_27 n_X2_sumUp_X2 (by decide +kernel) (Nat.lt_of_lt_of_le (by decide) hnp) ?_
      refine j_icmp_ge C 103 dX2_sumUp_30 (by decide) (fun hc => ?_) (fun hc => ?_)
      · have he : i = a 5 := by have := (nI_leI (by omega) (by omega)).mp hc; omega
        subst he
        exact HV _ _ _ _ rfl dX2_sumUp_103 ⟨rfl, rfl, f, rfl, hf⟩
      · have hlt : i < a 5 := by have := mt (nI_leI (by omega) (by omega)).mpr hc; omega
        obtain ⟨⟨r, hr1, hr⟩, hch, hnm, hf1, hf2⟩ := wt i hlt
        have hch2 : b 13 i = -1 ∨ ¬ b 13 i < 0 := hch.imp_right (fun ⟨j, hj, e⟩ => by rw [e]; exact nI_pos (by omega))
        have hnm2 : b 14 i = -1 ∨ ¬ b 14 i < 0 := hnm.imp_right (fun ⟨j, hj, e⟩ => by rw [e]; exact nI_pos (by omega))
        refine j_aload_n C dX2_sumUp_33 rfl ?_
        refine j_iload C dX2_sumUp_34 rfl ?_
        refine j_iload_n C dX2_sumUp_36 rfl ?_
        refine jVp2 (ci := 2) C dX2_sumUp_37 gX2_sumUp_X2_isTaken rfl pd_X2_isTaken ⟨by decide, by decide⟩ (Nat.lt_of_lt_of_le (by decide) hnp) rfl rfl rfl (Nat.le_of_ble_eq_true rfl) (c_X2_isTaken hnp ((va_un _ 4 13 _ (by decide)).trans b13) (by omega) hch2) ?_
        refine j_if_ne C 46 dX2_sumUp_40 (by decide) (fun hc40 => ?_) (fun hc40 => ?_)
        · have hM : ∀ (v : Int32), v = vaF b num i → J p l e (Rm 1) s m args below meth c 0 0 D cI cZ cQ ad np A 6 Q x (va_up g 4 f) 70 [some (.ref (ad 2)), some (.int plan), some (.ref (ad k)), some (.ref (ad 4)), some (.int (nI i)), none] [.int v] := by
            intro v hv
            refine j_istore C dX2_sumUp_70 (by decide) ?_
            refine j_aload_n C dX2_sumUp_72 rfl ?_
            refine j_aload_n C dX2_sumUp_73 rfl ?_
            refine jg_X2_rowOf C dX2_sumUp_74 n_X2_sumUp_X2 (by decide +kernel) (Nat.lt_of_lt_of_le (by decide) hnp) ?_
            refine j_iload C dX2_sumUp_77 rfl ?_
            refine j_iald C i dX2_sumUp_79 (Nat.lt_of_lt_of_le (by decide) hnp) rfl rfl (show _ < 40 by omega) ?_
            rw [va_un _ 4 12 _ (by decide), b12]
            refine jNp1 C dX2_sumUp_80 gX2_sumUp_X3_slotOf_n32 (by decide +kernel) (by decide +kernel) rfl pd_X3_slotOf ⟨by decide, by decide⟩ (Nat.le_of_ble_eq_true rfl) c_X3_slotOf ?_
            refine j_dup2 C dX2_sumUp_83 rfl rfl ?_
            refine j_iald C r dX2_sumUp_84 (Nat.lt_of_lt_of_le (by decide) hnp) rfl (by rw [hr]; exact slot_eq r) (show _ < 11 by omega) ?_
            rw [va_us]
            refine j_aload_n C dX2_sumUp_85 rfl ?_
            refine jg_X2_factorOf C dX2_sumUp_86 n_X2_sumUp_X2 (by decide +kernel) (Nat.lt_of_lt_of_le (by decide) hnp) ?_
            refine j_iload C dX2_sumUp_89 rfl ?_
            refine j_iald C i dX2_sumUp_91 (Nat.lt_of_lt_of_le (by decide) hnp) rfl rfl (show _ < 40 by omega) ?_
            rw [va_un _ 4 15 _ (by decide), b15]
            refine j_iload C dX2_sumUp_92 rfl ?_
            refine j_imul C dX2_sumUp_94 ?_
            refine j_iadd C dX2_sumUp_95 ?_
            refine j_iast C r dX2_sumUp_96 (Nat.lt_of_lt_of_le (by decide) hnp) rfl (by rw [hr]; exact slot_eq r) (show _ < 11 by omega) ?_
            rw [va_us, va_uu]
            refine j_iincN (n := 1) C dX2_sumUp_97 rfl (by decide) ?_
            refine j_goto C 24 dX2_sumUp_100 (by decide) ?_
            refine j_drop 5 ?_
            exact ih (i + 1) _ (by omega) (by omega) (sumF_on hr (bI_n0.mp hc40) hv hf hr1 w0)
          refine j_aload_n C dX2_sumUp_46 rfl ?_
          refine jg_X2_nameOf C dX2_sumUp_47 n_X2_sumUp_X2 (by decide +kernel) (Nat.lt_of_lt_of_le (by decide) hnp) ?_
          refine j_iload C dX2_sumUp_50 rfl ?_
          refine j_iald C i dX2_sumUp_52 (Nat.lt_of_lt_of_le (by decide) hnp) rfl rfl (show _ < 40 by omega) ?_
          rw [va_un _ 4 14 _ (by decide), b14]
          refine j_iconst (v := (-1)) C dX2_sumUp_53 rfl ?_
          refine j_icmp_ne C 61 dX2_sumUp_54 (by decide) (fun hc54 => ?_) (fun hc54 => ?_)
          · obtain ⟨nn, hn1, hnn⟩ := hnm.resolve_left hc54
            refine j_aload_n C dX2_sumUp_61 rfl ?_
            refine j_aload_n C dX2_sumUp_62 rfl ?_
            refine jg_X2_nameOf C dX2_sumUp_63 n_X2_sumUp_X2 (by decide +kernel) (Nat.lt_of_lt_of_le (by decide) hnp) ?_
            refine j_iload C dX2_sumUp_66 rfl ?_
            refine j_iald C i dX2_sumUp_68 (Nat.lt_of_lt_of_le (by decide) hnp) rfl rfl (show _ < 40 by omega) ?_
            rw [va_un _ 4 14 _ (by decide), b14]
            refine j_iald C nn dX2_sumUp_69 hk hkI hnn (by rw [hkL]; omega) ?_
            rw [va_un _ 4 k _ hk4, hnum]
            first
            | exact hM _ (by simp only [vaF]; rw [if_pos (by rw [hc54]; decide)])
            | exact hM _ (by simp only [vaF]; rw [if_neg (hnm2.resolve_left hc54), hnn, nI_clamp (by omega)])
          · refine j_iconst (v := 1) C dX2_sumUp_57 rfl ?_
            refine j_goto C 70 dX2_sumUp_58 (by decide) ?_
            first
            | exact hM _ (by simp only [vaF]; rw [if_pos (by rw [hc54]; decide)])
            | exact hM _ (by simp only [vaF]; rw [if_neg (hnm2.resolve_left hc54), hnn, nI_clamp (by omega)])
        · refine j_goto C 97 dX2_sumUp_43 (by decide) ?_
          refine j_iincN (n := 1) C dX2_sumUp_97 rfl (by decide) ?_
          refine j_goto C 24 dX2_sumUp_100 (by decide) ?_
          exact ih (i + 1) _ (by omega) (by omega) (sumF_off (bI_0.mp hc40) hf)
  have hL1 : ∀ (n : Nat) (i : Nat), i ≤ 11 → 11 - i < n → J p l e (Rm 1) s m args below meth c 0 0 D cI cZ cQ ad np A 6 Q x (va_up g 4 (cpF (g 4) (fun _ => 0) i)) 3 [some (.ref (ad 2)), some (.int plan), some (.ref (ad k)), some (.ref (ad 4)), some (.int (nI i)), none] [] := by
    intro n
    induction n with
    | zero => intros; omega
    | succ n ih =>
      intro i h1 h2
      refine j_iload C dX2_sumUp_3 rfl ?_
      refine j_aload_n C dX2_sumUp_5 rfl ?_
      refine j_alen (v := nI 11) C dX2_sumUp_6 (Nat.lt_of_lt_of_le (by decide) hnp) rfl rfl ?_
      refine j_icmp_ge C 21 dX2_sumUp_7 (by decide) (fun hc => ?_) (fun hc => ?_)
      · have he : i = 11 := by have := (nI_leI (by omega) (by omega)).mp hc; omega
        subst he
        refine j_iconst (v := 0) C dX2_sumUp_21 rfl ?_
        refine j_istore C dX2_sumUp_22 (by decide) ?_
        exact hL2 (a 5 + 1) 0 _ (by omega) (by omega) (fun q hq => by simp only [cpF]; rw [if_pos (by omega)]; rfl)
      · have hlt : i < 11 := by have := mt (nI_leI (by omega) (by omega)).mpr hc; omega
        refine j_aload_n C dX2_sumUp_10 rfl ?_
        refine j_iload C dX2_sumUp_11 rfl ?_
        refine j_iconst (v := 0) C dX2_sumUp_13 rfl ?_
        refine j_iast C i dX2_sumUp_14 (Nat.lt_of_lt_of_le (by decide) hnp) rfl rfl (show _ < 11 by omega) ?_
        rw [va_us, va_uu, zF_s]
        refine j_iincN (n := 1) C dX2_sumUp_15 rfl (by decide) ?_
        refine j_goto C 3 dX2_sumUp_18 (by decide) ?_
        exact ih (i + 1) (by omega) (by omega)
  refine j_iconst (v := 0) C dX2_sumUp_0 rfl ?_
  refine j_istore C dX2_sumUp_1 (by decide) ?_
  have hL0 := hL1 12 0 (by omega) (by omega)
  rw [cpF_0, va_id] at hL0
  exact hL0
end
section
theorem on_off {b : Nat → Nat → Int32} {plan row : Int32} {t : Nat} (h : ¬ b 12 t = row) : onF b plan row t = false := by simp [onF, h]
theorem on_ntk {b : Nat → Nat → Int32} {plan row : Int32} {t : Nat} (h : tkF b plan t = false) : onF b plan row t = false := by simp [onF, h]
theorem on_on {b : Nat → Nat → Int32} {plan row : Int32} {t : Nat} (h1 : b 12 t = row) (h : tkF b plan t = true) : onF b plan row t = true := by simp [onF, h, h1]
theorem baF_off {b : Nat → Nat → Int32} {plan row v : Int32} {t : Nat} (h : onF b plan row t = false) (hv : v = baF b plan row t) : v = baF b plan row (t + 1) := by simp [baF, h, hv]
theorem wF_off {b : Nat → Nat → Int32} {plan row : Int32} {f : Nat → Int32} {t N : Nat} (h : onF b plan row t = false) (hf : ∀ n, n < N → f n = wF b plan row n t) : ∀ n, n < N → f n = wF b plan row n (t + 1) := fun n hn => by simp [wF, h, hf n hn]
theorem wF_no {b : Nat → Nat → Int32} {plan row : Int32} {f : Nat → Int32} {t N : Nat} (h : b 14 t < 0) (hN : N < 2 ^ 31) (hf : ∀ n, n < N → f n = wF b plan row n t) : ∀ n, n < N → f n = wF b plan row n (t + 1) := fun n hn => by
  have : ¬ b 14 t = nI n := fun e => nI_pos (n := n) (by omega) (e ▸ h)
  simp [wF, this, hf n hn]
theorem wF_on {b : Nat → Nat → Int32} {plan row : Int32} {f : Nat → Int32} {t N k : Nat} (h : onF b plan row t = true) (hk : b 14 t = nI k) (hkN : k < N) (hN : N < 2 ^ 31) (hf : ∀ n, n < N → f n = wF b plan row n t) : ∀ n, n < N → upd f k (f k + b 15 t) n = wF b plan row n (t + 1) := fun n hn => by
  simp only [wF, h, hk, Bool.true_and, decide_eq_true_eq]
  by_cases e : n = k
  · subst e
    rw [if_pos rfl, ← hf n hn]
    simp [upd]
  · rw [if_neg (fun q => e ((nI_eq (by omega) (by omega)).mp q).symm)]
    simp only [upd]
    rw [if_neg e]
    exact hf n hn
theorem m1_lt : (-1 : Int32) < 0 := by decide
theorem n_X2_weigh_X2 : ∀ w ∈ wsX20, w ∈ wsX2_weigh := by decide +kernel
set_option maxHeartbeats 4000000 in
set_option maxRecDepth 100000 in
theorem c_X2_weigh {l : Launch} {D : va_G} {cI cZ cQ : ClassId} {ad : Nat → Nat} {np : Nat} {x : Nat → Nat} {g : Nat → Nat → Int32} (hnp : 27 ≤ np) {a : Nat → Nat} {b nu : Nat → Nat → Int32} (hX : RX x g a b nu) (hW : WF a b nu) {plan row : Int32} : Cn l D cI cZ cQ ad np 1 yX2_weigh wsX2_weigh [.ref (ad 2), .int plan, .int row, .ref (ad 6)] x g (ri (fun r x' g' => r = baF b plan row (a 5) ∧ x' = x ∧ ∃ f, g' = va_up g 6 f ∧ ∀ n, n < a 4 → f n = wF b plan row n (a 5))) := by
  refine cn_of (own := RX2) (by decide) rfl rfl (by simp [Value.category]) (Nat.le_of_ble_eq_true rfl) ?_
  intro p e s m args below meth c A Q C HR HV
  obtain ⟨hx, hg, hnu⟩ := id hX
  obtain ⟨⟨w0, ⟨w1, w1'⟩, w2, w3, w4, w5, w6⟩, wt, wn, wq⟩ := id hW
  have e0 := hx 0 (by decide)
  have e1 := hx 1 (by decide)
  have e2 := hx 2 (by decide)
  have e3 := hx 3 (by decide)
  have e4 := hx 4 (by decide)
  have e5 := hx 5 (by decide)
  have e6 := hx 6 (by decide)
  have b9 := hg 9 (by decide) (by decide)
  have b10 := hg 10 (by decide) (by decide)
  have b11 := hg 11 (by decide) (by decide)
  have b12 := hg 12 (by decide) (by decide)
  have b13 := hg 13 (by decide) (by decide)
  have b14 := hg 14 (by decide) (by decide)
  have b15 := hg 15 (by decide) (by decide)
  have b16 := hg 16 (by decide) (by decide)
  have b17 := hg 17 (by decide) (by decide)
  have hL2 : ∀ (n : Nat) (i : Nat) (v : Int32) (f : Nat → Int32), i ≤ a 5 → a 5 - i < n → v = baF b plan row i → (∀ n, n < a 4 → f n = wF b plan row n i) → J p l e (Rm 1) s m args below meth c 0 0 D cI cZ cQ ad np A 6 Q x (va_up g 6 f) 27 [some (.ref (ad 2)), some (.int plan), some (.int row), some (.ref (ad 6)), some (.int v), some (.int (nI i))] [] := by
    intro n
    induction n with
    | zero => intros; omega
    | succ n ih =>
      intro i v f h1 h2 hv hf
      refine j_iload C dX2_weigh_27 rfl ?_
      refine j_aload_n C dX2_weigh_29 rfl ?_
      refine jg_X2_count C dX2_weigh_30 n_X2_weigh_X2 (by decide +kernel) (Nat.lt_of_lt_of_le (by decide) hnp) ?_
      refine j_icmp_ge C 111 dX2_weigh_33 (by decide) (fun hc => ?_) (fun hc => ?_)
      · have he : i = a 5 := by have := (nI_leI (by omega) (by omega)).mp hc; omega
        subst he
        refine j_iload C dX2_weigh_111 rfl ?_
        exact HR _ _ _ _ _ _ rfl rfl dX2_weigh_113 ⟨_, rfl, hv, rfl, f, rfl, hf⟩
      · have hlt : i < a 5 := by have := mt (nI_leI (by omega) (by omega)).mpr hc; omega
        obtain ⟨⟨r, hr1, hr⟩, hch, hnm, hf1, hf2⟩ := wt i hlt
        have hch2 : b 13 i = -1 ∨ ¬ b 13 i < 0 := hch.imp_right (fun ⟨j, hj, e⟩ => by rw [e]; exact nI_pos (by omega))
        have hnm2 : b 14 i = -1 ∨ ¬ b 14 i < 0 := hnm.imp_right (fun ⟨j, hj, e⟩ => by rw [e]; exact nI_pos (by omega))
        refine j_aload_n C dX2_weigh_36 rfl ?_
        refine jg_X2_rowOf C dX2_weigh_37 n_X2_weigh_X2 (by decide +kernel) (Nat.lt_of_lt_of_le (by decide) hnp) ?_
        refine j_iload C dX2_weigh_40 rfl ?_
        refine j_iald C i dX2_weigh_42 (Nat.lt_of_lt_of_le (by decide) hnp) rfl rfl (show _ < 40 by omega) ?_
        rw [va_un _ 6 12 _ (by decide), b12]
        refine j_iload_n C dX2_weigh_43 rfl ?_
        refine j_icmp_ne C 105 dX2_weigh_44 (by decide) (fun hc44 => ?_) (fun hc44 => ?_)
        · refine j_iincN (n := 1) C dX2_weigh_105 rfl (by decide) ?_
          refine j_goto C 27 dX2_weigh_108 (by decide) ?_
          first
          | exact ih (i + 1) _ _ (by omega) (by omega) (baF_off (on_off hc44) hv) (wF_off (on_off hc44) hf)
          | exact ih (i + 1) _ _ (by omega) (by omega) (baF_off (on_ntk (bI_0.mp hc54)) hv) (wF_off (on_ntk (bI_0.mp hc54)) hf)
          | exact ih (i + 1) _ _ (by omega) (by omega) (by simp only [baF]; rw [on_on hc44 (bI_n0.mp hc54), if_pos (by rw [hc68]; decide), hv]) (wF_no (by rw [hc68]; decide) (by omega) hf)
          | exact ih (i + 1) _ _ (by omega) (by omega) (by simp only [baF]; rw [on_on hc44 (bI_n0.mp hc54), decide_eq_false (hnm2.resolve_left hc68), hv]; rfl) (wF_on (on_on hc44 (bI_n0.mp hc54)) hnn hn1 (by omega) hf)
        · refine j_aload_n C dX2_weigh_47 rfl ?_
          refine j_iload C dX2_weigh_48 rfl ?_
          refine j_iload_n C dX2_weigh_50 rfl ?_
          refine jVp2 (ci := 2) C dX2_weigh_51 gX2_weigh_X2_isTaken rfl pd_X2_isTaken ⟨by decide, by decide⟩ (Nat.lt_of_lt_of_le (by decide) hnp) rfl rfl rfl (Nat.le_of_ble_eq_true rfl) (c_X2_isTaken hnp ((va_un _ 6 13 _ (by decide)).trans b13) (by omega) hch2) ?_
          refine j_if_ne C 60 dX2_weigh_54 (by decide) (fun hc54 => ?_) (fun hc54 => ?_)
          · refine j_aload_n C dX2_weigh_60 rfl ?_
            refine jg_X2_nameOf C dX2_weigh_61 n_X2_weigh_X2 (by decide +kernel) (Nat.lt_of_lt_of_le (by decide) hnp) ?_
            refine j_iload C dX2_weigh_64 rfl ?_
            refine j_iald C i dX2_weigh_66 (Nat.lt_of_lt_of_le (by decide) hnp) rfl rfl (show _ < 40 by omega) ?_
            rw [va_un _ 6 14 _ (by decide), b14]
            refine j_iconst (v := (-1)) C dX2_weigh_67 rfl ?_
            refine j_icmp_ne C 86 dX2_weigh_68 (by decide) (fun hc68 => ?_) (fun hc68 => ?_)
            · obtain ⟨nn, hn1, hnn⟩ := hnm.resolve_left hc68
              refine j_aload_n C dX2_weigh_86 rfl ?_
              refine j_aload_n C dX2_weigh_87 rfl ?_
              refine jg_X2_nameOf C dX2_weigh_88 n_X2_weigh_X2 (by decide +kernel) (Nat.lt_of_lt_of_le (by decide) hnp) ?_
              refine j_iload C dX2_weigh_91 rfl ?_
              refine j_iald C i dX2_weigh_93 (Nat.lt_of_lt_of_le (by decide) hnp) rfl rfl (show _ < 40 by omega) ?_
              rw [va_un _ 6 14 _ (by decide), b14]
              refine j_dup2 C dX2_weigh_94 rfl rfl ?_
              refine j_iald C nn dX2_weigh_95 (Nat.lt_of_lt_of_le (by decide) hnp) rfl hnn (show _ < 12 by omega) ?_
              rw [va_us]
              refine j_aload_n C dX2_weigh_96 rfl ?_
              refine jg_X2_factorOf C dX2_weigh_97 n_X2_weigh_X2 (by decide +kernel) (Nat.lt_of_lt_of_le (by decide) hnp) ?_
              refine j_iload C dX2_weigh_100 rfl ?_
              refine j_iald C i dX2_weigh_102 (Nat.lt_of_lt_of_le (by decide) hnp) rfl rfl (show _ < 40 by omega) ?_
              rw [va_un _ 6 15 _ (by decide), b15]
              refine j_iadd C dX2_weigh_103 ?_
              refine j_iast C nn dX2_weigh_104 (Nat.lt_of_lt_of_le (by decide) hnp) rfl hnn (show _ < 12 by omega) ?_
              rw [va_us, va_uu]
              refine j_iincN (n := 1) C dX2_weigh_105 rfl (by decide) ?_
              refine j_goto C 27 dX2_weigh_108 (by decide) ?_
              first
              | exact ih (i + 1) _ _ (by omega) (by omega) (baF_off (on_off hc44) hv) (wF_off (on_off hc44) hf)
              | exact ih (i + 1) _ _ (by omega) (by omega) (baF_off (on_ntk (bI_0.mp hc54)) hv) (wF_off (on_ntk (bI_0.mp hc54)) hf)
              | exact ih (i + 1) _ _ (by omega) (by omega) (by simp only [baF]; rw [on_on hc44 (bI_n0.mp hc54), if_pos (by rw [hc68]; decide), hv]) (wF_no (by rw [hc68]; decide) (by omega) hf)
              | exact ih (i + 1) _ _ (by omega) (by omega) (by simp only [baF]; rw [on_on hc44 (bI_n0.mp hc54), decide_eq_false (hnm2.resolve_left hc68), hv]; rfl) (wF_on (on_on hc44 (bI_n0.mp hc54)) hnn hn1 (by omega) hf)
            · refine j_iload C dX2_weigh_71 rfl ?_
              refine j_aload_n C dX2_weigh_73 rfl ?_
              refine jg_X2_factorOf C dX2_weigh_74 n_X2_weigh_X2 (by decide +kernel) (Nat.lt_of_lt_of_le (by decide) hnp) ?_
              refine j_iload C dX2_weigh_77 rfl ?_
              refine j_iald C i dX2_weigh_79 (Nat.lt_of_lt_of_le (by decide) hnp) rfl rfl (show _ < 40 by omega) ?_
              rw [va_un _ 6 15 _ (by decide), b15]
              refine j_iadd C dX2_weigh_80 ?_
              refine j_istore C dX2_weigh_81 (by decide) ?_
              refine j_goto C 105 dX2_weigh_83 (by decide) ?_
              refine j_iincN (n := 1) C dX2_weigh_105 rfl (by decide) ?_
              refine j_goto C 27 dX2_weigh_108 (by decide) ?_
              first
              | exact ih (i + 1) _ _ (by omega) (by omega) (baF_off (on_off hc44) hv) (wF_off (on_off hc44) hf)
              | exact ih (i + 1) _ _ (by omega) (by omega) (baF_off (on_ntk (bI_0.mp hc54)) hv) (wF_off (on_ntk (bI_0.mp hc54)) hf)
              | exact ih (i + 1) _ _ (by omega) (by omega) (by simp only [baF]; rw [on_on hc44 (bI_n0.mp hc54), if_pos (by rw [hc68]; decide), hv]) (wF_no (by rw [hc68]; decide) (by omega) hf)
              | exact ih (i + 1) _ _ (by omega) (by omega) (by simp only [baF]; rw [on_on hc44 (bI_n0.mp hc54), decide_eq_false (hnm2.resolve_left hc68), hv]; rfl) (wF_on (on_on hc44 (bI_n0.mp hc54)) hnn hn1 (by omega) hf)
          · refine j_goto C 105 dX2_weigh_57 (by decide) ?_
            refine j_iincN (n := 1) C dX2_weigh_105 rfl (by decide) ?_
            refine j_goto C 27 dX2_weigh_108 (by decide) ?_
            first
            | exact ih (i + 1) _ _ (by omega) (by omega) (baF_off (on_off hc44) hv) (wF_off (on_off hc44) hf)
            | exact ih (i + 1) _ _ (by omega) (by omega) (baF_off (on_ntk (bI_0.mp hc54)) hv) (wF_off (on_ntk (bI_0.mp hc54)) hf)
            | exact ih (i + 1) _ _ (by omega) (by omega) (by simp only [baF]; rw [on_on hc44 (bI_n0.mp hc54), if_pos (by rw [hc68]; decide), hv]) (wF_no (by rw [hc68]; decide) (by omega) hf)
            | exact ih (i + 1) _ _ (by omega) (by omega) (by simp only [baF]; rw [on_on hc44 (bI_n0.mp hc54), decide_eq_false (hnm2.resolve_left hc68), hv]; rfl) (wF_on (on_on hc44 (bI_n0.mp hc54)) hnn hn1 (by omega) hf)
  have hL1 : ∀ (n : Nat) (i : Nat), i ≤ 12 → 12 - i < n → J p l e (Rm 1) s m args below meth c 0 0 D cI cZ cQ ad np A 6 Q x (va_up g 6 (cpF (g 6) (fun _ => 0) i)) 3 [some (.ref (ad 2)), some (.int plan), some (.int row), some (.ref (ad 6)), some (.int (nI i)), none] [] := by
    intro n
    induction n with
    | zero => intros; omega
    | succ n ih =>
      intro i h1 h2
      refine j_iload C dX2_weigh_3 rfl ?_
      refine j_aload_n C dX2_weigh_5 rfl ?_
      refine j_alen (v := nI 12) C dX2_weigh_6 (Nat.lt_of_lt_of_le (by decide) hnp) rfl rfl ?_
      refine j_icmp_ge C 21 dX2_weigh_7 (by decide) (fun hc => ?_) (fun hc => ?_)
      · have he : i = 12 := by have := (nI_leI (by omega) (by omega)).mp hc; omega
        subst he
        refine j_iconst (v := 0) C dX2_weigh_21 rfl ?_
        refine j_istore C dX2_weigh_22 (by decide) ?_
        refine j_iconst (v := 0) C dX2_weigh_24 rfl ?_
        refine j_istore C dX2_weigh_25 (by decide) ?_
        exact hL2 (a 5 + 1) 0 _ _ (by omega) (by omega) rfl (fun q hq => by simp only [cpF]; rw [if_pos (by omega)]; rfl)
      · have hlt : i < 12 := by have := mt (nI_leI (by omega) (by omega)).mpr hc; omega
        refine j_aload_n C dX2_weigh_10 rfl ?_
        refine j_iload C dX2_weigh_11 rfl ?_
        refine j_iconst (v := 0) C dX2_weigh_13 rfl ?_
        refine j_iast C i dX2_weigh_14 (Nat.lt_of_lt_of_le (by decide) hnp) rfl rfl (show _ < 12 by omega) ?_
        rw [va_us, va_uu, zF_s]
        refine j_iincN (n := 1) C dX2_weigh_15 rfl (by decide) ?_
        refine j_goto C 3 dX2_weigh_18 (by decide) ?_
        exact ih (i + 1) (by omega) (by omega)
  refine j_iconst (v := 0) C dX2_weigh_0 rfl ?_
  refine j_istore C dX2_weigh_1 (by decide) ?_
  have hL0 := hL1 13 0 (by omega) (by omega)
  rw [cpF_0, va_id] at hL0
  exact hL0
theorem n_X4_counted_X4 : ∀ w ∈ wsX40, w ∈ wsX4_counted := by decide +kernel
set_option maxHeartbeats 4000000 in
set_option maxRecDepth 100000 in
theorem c_X4_counted {l : Launch} {D : va_G} {cI cZ cQ : ClassId} {ad : Nat → Nat} {np : Nat} {x : Nat → Nat} {g : Nat → Nat → Int32} (hnp : 41 ≤ np) {a : Nat → Nat} {b nu : Nat → Nat → Int32} (hM : RM x g a b nu) (hW : WF a b nu) : Cn l D cI cZ cQ ad np 0 yX4_counted wsX4_counted [.ref (ad 27)] x g (rp (cntF b (a 6)) x g) := by
  refine cn_of (own := RX4) (by decide) rfl rfl (by simp [Value.category]) (Nat.le_of_ble_eq_true rfl) ?_
  intro p e s m args below meth c A Q C HR HV
  obtain ⟨⟨e0, e1, e2, e3, e4, e5, e6⟩, hg, hnu⟩ := id hM
  obtain ⟨⟨w0, ⟨w1, w1'⟩, w2, w3, w4, w5, w6⟩, wt, wn, wq⟩ := id hW
  have b9 : g 28 = b 9 := hg 9 (by decide) (by decide)
  have b10 : g 29 = b 10 := hg 10 (by decide) (by decide)
  have b11 : g 30 = b 11 := hg 11 (by decide) (by decide)
  have b12 : g 31 = b 12 := hg 12 (by decide) (by decide)
  have b13 : g 32 = b 13 := hg 13 (by decide) (by decide)
  have b14 : g 33 = b 14 := hg 14 (by decide) (by decide)
  have b15 : g 34 = b 15 := hg 15 (by decide) (by decide)
  have b16 : g 35 = b 16 := hg 16 (by decide) (by decide)
  have b17 : g 36 = b 17 := hg 17 (by decide) (by decide)
  have hL : ∀ (n : Nat) (i : Nat) (r : Int32), i ≤ a 6 → a 6 - i < n → r = cntF b i → J p l e (Rm 0) s m args below meth c 0 0 D cI cZ cQ ad np A 3 Q x g 4 [some (.ref (ad 27)), some (.int r), some (.int (nI i))] [] := by
    intro n
    induction n with
    | zero => intros; omega
    | succ n ih =>
      intro i r h1 h2 hr
      refine j_iload_n C dX4_counted_4 rfl ?_
      refine j_aload_n C dX4_counted_5 rfl ?_
      refine jg_X4_futures C dX4_counted_6 n_X4_counted_X4 (by decide +kernel) (Nat.lt_of_lt_of_le (by decide) hnp) ?_
      refine j_icmp_ge C 35 dX4_counted_9 (by decide) (fun hc => ?_) (fun hc => ?_)
      · have he : i = a 6 := by have := (nI_leI (by omega) (by omega)).mp hc; omega
        subst he
        refine j_iload_n C dX4_counted_35 rfl ?_
        exact HR _ _ _ _ _ _ rfl rfl dX4_counted_36 ⟨_, rfl, hr, rfl, rfl⟩
      · have hlt : i < a 6 := by have := mt (nI_leI (by omega) (by omega)).mpr hc; omega
        refine j_iload_n C dX4_counted_12 rfl ?_
        refine j_aload_n C dX4_counted_13 rfl ?_
        refine jg_X4_kept C dX4_counted_14 n_X4_counted_X4 (by decide +kernel) (Nat.lt_of_lt_of_le (by decide) hnp) ?_
        refine j_iload_n C dX4_counted_17 rfl ?_
        refine j_zald C _ dX4_counted_18 (Nat.lt_of_lt_of_le (by decide) hnp) (Or.inr rfl) rfl (by omega) ?_
        rw [b17]
        refine j_if_eq C 26 dX4_counted_19 (by decide) (fun hc19 => ?_) (fun hc19 => ?_)
        · refine j_iconst (v := 1) C dX4_counted_26 rfl ?_
          refine j_iadd C dX4_counted_27 ?_
          refine j_istore_n C dX4_counted_28 (by decide) ?_
          refine j_iincN (n := 1) C dX4_counted_29 rfl (by decide) ?_
          refine j_goto C 4 dX4_counted_32 (by decide) ?_
          first
          | exact ih (i + 1) _ (by omega) (by omega) (by simp only [cntF]; rw [if_pos hc19, hr])
          | exact ih (i + 1) _ (by omega) (by omega) (by simp only [cntF]; rw [if_neg hc19, hr, Int32.add_zero])
        · refine j_iconst (v := 0) C dX4_counted_22 rfl ?_
          refine j_goto C 27 dX4_counted_23 (by decide) ?_
          refine j_iadd C dX4_counted_27 ?_
          refine j_istore_n C dX4_counted_28 (by decide) ?_
          refine j_iincN (n := 1) C dX4_counted_29 rfl (by decide) ?_
          refine j_goto C 4 dX4_counted_32 (by decide) ?_
          first
          | exact ih (i + 1) _ (by omega) (by omega) (by simp only [cntF]; rw [if_pos hc19, hr])
          | exact ih (i + 1) _ (by omega) (by omega) (by simp only [cntF]; rw [if_neg hc19, hr, Int32.add_zero])
  refine j_iconst (v := 0) C dX4_counted_0 rfl ?_
  refine j_istore_n C dX4_counted_1 (by decide) ?_
  refine j_iconst (v := 0) C dX4_counted_2 rfl ?_
  refine j_istore_n C dX4_counted_3 (by decide) ?_
  exact hL (a 6 + 1) 0 _ (by omega) (by omega) rfl
theorem n_X4_allOdds_X4 : ∀ w ∈ wsX40, w ∈ wsX4_allOdds := by decide +kernel
set_option maxHeartbeats 4000000 in
set_option maxRecDepth 100000 in
theorem c_X4_allOdds {l : Launch} {D : va_G} {cI cZ cQ : ClassId} {ad : Nat → Nat} {np : Nat} {x : Nat → Nat} {g : Nat → Nat → Int32} (hnp : 41 ≤ np) {a : Nat → Nat} {b nu : Nat → Nat → Int32} (hM : RM x g a b nu) (hW : WF a b nu) : Cn l D cI cZ cQ ad np 0 yX4_allOdds wsX4_allOdds [.ref (ad 27)] x g (rp (odsF b (a 6)) x g) := by
  refine cn_of (own := RX4) (by decide) rfl rfl (by simp [Value.category]) (Nat.le_of_ble_eq_true rfl) ?_
  intro p e s m args below meth c A Q C HR HV
  obtain ⟨⟨e0, e1, e2, e3, e4, e5, e6⟩, hg, hnu⟩ := id hM
  obtain ⟨⟨w0, ⟨w1, w1'⟩, w2, w3, w4, w5, w6⟩, wt, wn, wq⟩ := id hW
  have b9 : g 28 = b 9 := hg 9 (by decide) (by decide)
  have b10 : g 29 = b 10 := hg 10 (by decide) (by decide)
  have b11 : g 30 = b 11 := hg 11 (by decide) (by decide)
  have b12 : g 31 = b 12 := hg 12 (by decide) (by decide)
  have b13 : g 32 = b 13 := hg 13 (by decide) (by decide)
  have b14 : g 33 = b 14 := hg 14 (by decide) (by decide)
  have b15 : g 34 = b 15 := hg 15 (by decide) (by decide)
  have b16 : g 35 = b 16 := hg 16 (by decide) (by decide)
  have b17 : g 36 = b 17 := hg 17 (by decide) (by decide)
  have hL : ∀ (n : Nat) (i : Nat) (r : Int32), i ≤ a 6 → a 6 - i < n → r = odsF b i → J p l e (Rm 0) s m args below meth c 0 0 D cI cZ cQ ad np A 3 Q x g 4 [some (.ref (ad 27)), some (.int r), some (.int (nI i))] [] := by
    intro n
    induction n with
    | zero => intros; omega
    | succ n ih =>
      intro i r h1 h2 hr
      refine j_iload_n C dX4_allOdds_4 rfl ?_
      refine j_aload_n C dX4_allOdds_5 rfl ?_
      refine jg_X4_futures C dX4_allOdds_6 n_X4_allOdds_X4 (by decide +kernel) (Nat.lt_of_lt_of_le (by decide) hnp) ?_
      refine j_icmp_ge C 40 dX4_allOdds_9 (by decide) (fun hc => ?_) (fun hc => ?_)
      · have he : i = a 6 := by have := (nI_leI (by omega) (by omega)).mp hc; omega
        subst he
        refine j_iload_n C dX4_allOdds_40 rfl ?_
        exact HR _ _ _ _ _ _ rfl rfl dX4_allOdds_41 ⟨_, rfl, hr, rfl, rfl⟩
      · have hlt : i < a 6 := by have := mt (nI_leI (by omega) (by omega)).mpr hc; omega
        refine j_iload_n C dX4_allOdds_12 rfl ?_
        refine j_aload_n C dX4_allOdds_13 rfl ?_
        refine jg_X4_kept C dX4_allOdds_14 n_X4_allOdds_X4 (by decide +kernel) (Nat.lt_of_lt_of_le (by decide) hnp) ?_
        refine j_iload_n C dX4_allOdds_17 rfl ?_
        refine j_zald C _ dX4_allOdds_18 (Nat.lt_of_lt_of_le (by decide) hnp) (Or.inr rfl) rfl (by omega) ?_
        rw [b17]
        refine j_if_eq C 26 dX4_allOdds_19 (by decide) (fun hc19 => ?_) (fun hc19 => ?_)
        · refine j_aload_n C dX4_allOdds_26 rfl ?_
          refine jg_X4_odds C dX4_allOdds_27 n_X4_allOdds_X4 (by decide +kernel) (Nat.lt_of_lt_of_le (by decide) hnp) ?_
          refine j_iload_n C dX4_allOdds_30 rfl ?_
          refine j_iald C _ dX4_allOdds_31 (Nat.lt_of_lt_of_le (by decide) hnp) rfl rfl (show _ < 8 by omega) ?_
          rw [b16]
          refine j_iadd C dX4_allOdds_32 ?_
          refine j_istore_n C dX4_allOdds_33 (by decide) ?_
          refine j_iincN (n := 1) C dX4_allOdds_34 rfl (by decide) ?_
          refine j_goto C 4 dX4_allOdds_37 (by decide) ?_
          first
          | exact ih (i + 1) _ (by omega) (by omega) (by simp only [odsF]; rw [if_pos hc19, hr])
          | exact ih (i + 1) _ (by omega) (by omega) (by simp only [odsF]; rw [if_neg hc19, hr, Int32.add_zero])
        · refine j_iconst (v := 0) C dX4_allOdds_22 rfl ?_
          refine j_goto C 32 dX4_allOdds_23 (by decide) ?_
          refine j_iadd C dX4_allOdds_32 ?_
          refine j_istore_n C dX4_allOdds_33 (by decide) ?_
          refine j_iincN (n := 1) C dX4_allOdds_34 rfl (by decide) ?_
          refine j_goto C 4 dX4_allOdds_37 (by decide) ?_
          first
          | exact ih (i + 1) _ (by omega) (by omega) (by simp only [odsF]; rw [if_pos hc19, hr])
          | exact ih (i + 1) _ (by omega) (by omega) (by simp only [odsF]; rw [if_neg hc19, hr, Int32.add_zero])
  refine j_iconst (v := 0) C dX4_allOdds_0 rfl ?_
  refine j_istore_n C dX4_allOdds_1 (by decide) ?_
  refine j_iconst (v := 0) C dX4_allOdds_2 rfl ?_
  refine j_istore_n C dX4_allOdds_3 (by decide) ?_
  exact hL (a 6 + 1) 0 _ (by omega) (by omega) rfl
theorem n_X4_isOn_X4 : ∀ w ∈ wsX40, w ∈ wsX4_isOn := by decide +kernel
set_option maxHeartbeats 4000000 in
set_option maxRecDepth 100000 in
theorem c_X4_isOn {l : Launch} {D : va_G} {cI cZ cQ : ClassId} {ad : Nat → Nat} {np : Nat} {x : Nat → Nat} {g : Nat → Nat → Int32} (hnp : 41 ≤ np) {b : Nat → Nat → Int32} {i : Nat} {plan row : Int32} (b12 : g 31 = b 12) (b13 : g 32 = b 13) (hi : i < 40) : Cn l D cI cZ cQ ad np 0 yX4_isOn wsX4_isOn [.ref (ad 27), .int (nI i), .int plan, .int row] x g (rp (bI (onF b plan row i)) x g) := by
  refine cn_of (own := RX4) (by decide) rfl rfl (by simp [Value.category]) (Nat.le_of_ble_eq_true rfl) ?_
  intro p e s m args below meth c A Q C HR HV
  refine j_aload_n C dX4_isOn_0 rfl ?_
  refine jg_X4_termRow C dX4_isOn_1 n_X4_isOn_X4 (by decide +kernel) (Nat.lt_of_lt_of_le (by decide) hnp) ?_
  refine j_iload_n C dX4_isOn_4 rfl ?_
  refine j_iald C i dX4_isOn_5 (Nat.lt_of_lt_of_le (by decide) hnp) rfl rfl (show _ < 40 by omega) ?_
  rw [b12]
  refine j_iload_n C dX4_isOn_6 rfl ?_
  refine j_icmp_ne C 37 dX4_isOn_7 (by decide) (fun hc7 => ?_) (fun hc7 => ?_)
  · refine j_iconst (v := 0) C dX4_isOn_37 rfl ?_
    exact HR _ _ _ _ _ _ rfl rfl dX4_isOn_38 ⟨_, rfl, by simp_all [onF, tkF, bI], rfl, rfl⟩
  · refine j_aload_n C dX4_isOn_10 rfl ?_
    refine jg_X4_termChoice C dX4_isOn_11 n_X4_isOn_X4 (by decide +kernel) (Nat.lt_of_lt_of_le (by decide) hnp) ?_
    refine j_iload_n C dX4_isOn_14 rfl ?_
    refine j_iald C i dX4_isOn_15 (Nat.lt_of_lt_of_le (by decide) hnp) rfl rfl (show _ < 40 by omega) ?_
    rw [b13]
    refine j_if_lt C 33 dX4_isOn_16 (by decide) (fun hc16 => ?_) (fun hc16 => ?_)
    · refine j_iconst (v := 1) C dX4_isOn_33 rfl ?_
      refine j_goto C 38 dX4_isOn_34 (by decide) ?_
      exact HR _ _ _ _ _ _ rfl rfl dX4_isOn_38 ⟨_, rfl, by simp_all [onF, tkF, bI], rfl, rfl⟩
    · refine j_iload_n C dX4_isOn_19 rfl ?_
      refine j_aload_n C dX4_isOn_20 rfl ?_
      refine jg_X4_termChoice C dX4_isOn_21 n_X4_isOn_X4 (by decide +kernel) (Nat.lt_of_lt_of_le (by decide) hnp) ?_
      refine j_iload_n C dX4_isOn_24 rfl ?_
      refine j_iald C i dX4_isOn_25 (Nat.lt_of_lt_of_le (by decide) hnp) rfl rfl (show _ < 40 by omega) ?_
      rw [b13]
      refine j_ishr C dX4_isOn_26 ?_
      refine j_iconst (v := 1) C dX4_isOn_27 rfl ?_
      refine j_iand C dX4_isOn_28 ?_
      refine j_iconst (v := 1) C dX4_isOn_29 rfl ?_
      refine j_icmp_ne C 37 dX4_isOn_30 (by decide) (fun hc30 => ?_) (fun hc30 => ?_)
      · refine j_iconst (v := 0) C dX4_isOn_37 rfl ?_
        exact HR _ _ _ _ _ _ rfl rfl dX4_isOn_38 ⟨_, rfl, by simp_all [onF, tkF, bI], rfl, rfl⟩
      · refine j_iconst (v := 1) C dX4_isOn_33 rfl ?_
        refine j_goto C 38 dX4_isOn_34 (by decide) ?_
        exact HR _ _ _ _ _ _ rfl rfl dX4_isOn_38 ⟨_, rfl, by simp_all [onF, tkF, bI], rfl, rfl⟩
theorem ix12 (i n : Nat) : (12 : Int32) * nI i + nI n = nI (12 * i + n) := by
  rw [show (12 : Int32) = nI 12 from rfl, pk_mul, nI_add]
theorem n_X4_sum_X4 : ∀ w ∈ wsX40, w ∈ wsX4_sum := by decide +kernel
set_option maxHeartbeats 4000000 in
set_option maxRecDepth 100000 in
theorem c_X4_sum {l : Launch} {D : va_G} {cI cZ cQ : ClassId} {ad : Nat → Nat} {np : Nat} {x : Nat → Nat} {g : Nat → Nat → Int32} (hnp : 41 ≤ np) {a : Nat → Nat} {b nu : Nat → Nat → Int32} (hM : RM x g a b nu) (hW : WF a b nu) {num : Nat → Int32} {plan row fu : Int32} (hfu : (fu < 0 ∧ num = b 10) ∨ ∃ i, i < a 6 ∧ fu = nI i ∧ num = nu i) : Cn l D cI cZ cQ ad np 1 yX4_sum wsX4_sum [.ref (ad 27), .int plan, .int row, .int fu] x g (rp (sumF b num plan row (a 5)) x g) := by
  refine cn_of (own := RX4) (by decide) rfl rfl (by simp [Value.category]) (Nat.le_of_ble_eq_true rfl) ?_
  intro p e s m args below meth c A Q C HR HV
  obtain ⟨⟨e0, e1, e2, e3, e4, e5, e6⟩, hg, hnu⟩ := id hM
  obtain ⟨⟨w0, ⟨w1, w1'⟩, w2, w3, w4, w5, w6⟩, wt, wn, wq⟩ := id hW
  have b9 : g 28 = b 9 := hg 9 (by decide) (by decide)
  have b10 : g 29 = b 10 := hg 10 (by decide) (by decide)
  have b11 : g 30 = b 11 := hg 11 (by decide) (by decide)
  have b12 : g 31 = b 12 := hg 12 (by decide) (by decide)
  have b13 : g 32 = b 13 := hg 13 (by decide) (by decide)
  have b14 : g 33 = b 14 := hg 14 (by decide) (by decide)
  have b15 : g 34 = b 15 := hg 15 (by decide) (by decide)
  have b16 : g 35 = b 16 := hg 16 (by decide) (by decide)
  have b17 : g 36 = b 17 := hg 17 (by decide) (by decide)
  have hL : ∀ (n : Nat) (i : Nat) (ac : Int32), i ≤ a 5 → a 5 - i < n → ac = sumF b num plan row i → J p l e (Rm 1) s m args below meth c 0 0 D cI cZ cQ ad np A 8 Q x g 6 [some (.ref (ad 27)), some (.int plan), some (.int row), some (.int fu), some (.int ac), some (.int (nI i)), none, none] [] := by
    intro n
    induction n with
    | zero => intros; omega
    | succ n ih =>
      intro i ac h1 h2 hr2
      refine j_iload C dX4_sum_6 rfl ?_
      refine j_aload_n C dX4_sum_8 rfl ?_
      refine jg_X4_terms C dX4_sum_9 n_X4_sum_X4 (by decide +kernel) (Nat.lt_of_lt_of_le (by decide) hnp) ?_
      refine j_icmp_ge C 93 dX4_sum_12 (by decide) (fun hc => ?_) (fun hc => ?_)
      · have he : i = a 5 := by have := (nI_leI (by omega) (by omega)).mp hc; omega
        subst he
        refine j_iload C dX4_sum_93 rfl ?_
        exact HR _ _ _ _ _ _ rfl rfl dX4_sum_95 ⟨_, rfl, hr2, rfl, rfl⟩
      · have hlt : i < a 5 := by have := mt (nI_leI (by omega) (by omega)).mpr hc; omega
        obtain ⟨⟨r, hr1, hr⟩, hch, hnm, hf1, hf2⟩ := wt i hlt
        have hch2 : b 13 i = -1 ∨ ¬ b 13 i < 0 := hch.imp_right (fun ⟨j, hj, e⟩ => by rw [e]; exact nI_pos (by omega))
        have hnm2 : b 14 i = -1 ∨ ¬ b 14 i < 0 := hnm.imp_right (fun ⟨j, hj, e⟩ => by rw [e]; exact nI_pos (by omega))
        refine j_aload_n C dX4_sum_15 rfl ?_
        refine j_iload C dX4_sum_16 rfl ?_
        refine j_iload_n C dX4_sum_18 rfl ?_
        refine j_iload_n C dX4_sum_19 rfl ?_
        refine jVp3 (ci := 4) C dX4_sum_20 gX4_sum_X4_isOn rfl pd_X4_isOn ⟨by decide, by decide⟩ (Nat.lt_of_lt_of_le (by decide) hnp) rfl rfl rfl (Nat.le_of_ble_eq_true rfl) (c_X4_isOn hnp b12 b13 (by omega)) ?_
        refine j_if_eq C 87 dX4_sum_23 (by decide) (fun hc23 => ?_) (fun hc23 => ?_)
        · refine j_iincN (n := 1) C dX4_sum_87 rfl (by decide) ?_
          refine j_goto C 6 dX4_sum_90 (by decide) ?_
          exact ih (i + 1) _ (by omega) (by omega) (by simp only [sumF]; rw [if_neg (by rw [bI_0.mp hc23]; decide), hr2])
        · have hM2 : ∀ (v : Int32), v = vaF b num i → J p l e (Rm 1) s m args below meth c 0 0 D cI cZ cQ ad np A 8 Q x g 70 [some (.ref (ad 27)), some (.int plan), some (.int row), some (.int fu), some (.int ac), some (.int (nI i)), some (.int (b 14 i)), none] [.int v] := by
            intro v hv
            refine j_istore C dX4_sum_70 (by decide) ?_
            refine j_iload C dX4_sum_72 rfl ?_
            refine j_aload_n C dX4_sum_74 rfl ?_
            refine jg_X4_termFactor C dX4_sum_75 n_X4_sum_X4 (by decide +kernel) (Nat.lt_of_lt_of_le (by decide) hnp) ?_
            refine j_iload C dX4_sum_78 rfl ?_
            refine j_iald C i dX4_sum_80 (Nat.lt_of_lt_of_le (by decide) hnp) rfl rfl (show _ < 40 by omega) ?_
            rw [b15]
            refine j_iload C dX4_sum_81 rfl ?_
            refine j_imul C dX4_sum_83 ?_
            refine j_iadd C dX4_sum_84 ?_
            refine j_istore C dX4_sum_85 (by decide) ?_
            refine j_iincN (n := 1) C dX4_sum_87 rfl (by decide) ?_
            refine j_goto C 6 dX4_sum_90 (by decide) ?_
            refine j_drop 6 ?_
            refine j_drop 7 ?_
            exact ih (i + 1) _ (by omega) (by omega) (by simp only [sumF]; rw [if_pos (bI_n0.mp hc23), hr2, hv])
          refine j_aload_n C dX4_sum_26 rfl ?_
          refine jg_X4_termName C dX4_sum_27 n_X4_sum_X4 (by decide +kernel) (Nat.lt_of_lt_of_le (by decide) hnp) ?_
          refine j_iload C dX4_sum_30 rfl ?_
          refine j_iald C i dX4_sum_32 (Nat.lt_of_lt_of_le (by decide) hnp) rfl rfl (show _ < 40 by omega) ?_
          rw [b14]
          refine j_istore C dX4_sum_33 (by decide) ?_
          refine j_iload C dX4_sum_35 rfl ?_
          refine j_if_ge C 44 dX4_sum_37 (by decide) (fun hc37 => ?_) (fun hc37 => ?_)
          · obtain ⟨nn, hn1, hnn⟩ := hnm.resolve_left (fun q => absurd (q ▸ hc37) (by decide))
            refine j_iload_n C dX4_sum_44 rfl ?_
            refine j_if_ge C 58 dX4_sum_45 (by decide) (fun hc45 => ?_) (fun hc45 => ?_)
            · obtain ⟨iv, hi1, hi2, hi3⟩ := hfu.resolve_left (fun q => absurd q.1 (Int32.not_lt.mpr hc45))
              refine j_aload_n C dX4_sum_58 rfl ?_
              refine jg_X4_number C dX4_sum_59 n_X4_sum_X4 (by decide +kernel) (Nat.lt_of_lt_of_le (by decide) hnp) ?_
              refine j_bipush (v := 12) C dX4_sum_62 (by decide) ?_
              refine j_iload_n C dX4_sum_64 rfl ?_
              refine j_imul C dX4_sum_65 ?_
              refine j_iload C dX4_sum_66 rfl ?_
              refine j_iadd C dX4_sum_68 ?_
              refine j_iald C (12 * iv + nn) dX4_sum_69 (Nat.lt_of_lt_of_le (by decide) hnp) rfl (by rw [hi2, hnn]; exact ix12 iv nn) (show _ < 96 by omega) ?_
              rw [hnu iv hi1 nn hn1, ← hi3]
              first
              | exact hM2 _ (by simp only [vaF]; rw [if_pos (Int32.not_le.mp hc37)])
              | exact hM2 _ (by simp only [vaF]; rw [if_neg (Int32.not_lt.mpr hc37), hnn, nI_clamp (by omega)])
            · have hu := (hfu.resolve_right (fun ⟨iv, hi1, hi2, hi3⟩ => hc45 (by rw [hi2]; exact nI_pos' (by omega)))).2
              refine j_aload_n C dX4_sum_48 rfl ?_
              refine jg_X4_usual C dX4_sum_49 n_X4_sum_X4 (by decide +kernel) (Nat.lt_of_lt_of_le (by decide) hnp) ?_
              refine j_iload C dX4_sum_52 rfl ?_
              refine j_iald C nn dX4_sum_54 (Nat.lt_of_lt_of_le (by decide) hnp) rfl hnn (show _ < 12 by omega) ?_
              rw [b10, ← hu]
              refine j_goto C 70 dX4_sum_55 (by decide) ?_
              first
              | exact hM2 _ (by simp only [vaF]; rw [if_pos (Int32.not_le.mp hc37)])
              | exact hM2 _ (by simp only [vaF]; rw [if_neg (Int32.not_lt.mpr hc37), hnn, nI_clamp (by omega)])
          · refine j_iconst (v := 1) C dX4_sum_40 rfl ?_
            refine j_goto C 70 dX4_sum_41 (by decide) ?_
            first
            | exact hM2 _ (by simp only [vaF]; rw [if_pos (Int32.not_le.mp hc37)])
            | exact hM2 _ (by simp only [vaF]; rw [if_neg (Int32.not_lt.mpr hc37), hnn, nI_clamp (by omega)])
  refine j_iconst (v := 0) C dX4_sum_0 rfl ?_
  refine j_istore C dX4_sum_1 (by decide) ?_
  refine j_iconst (v := 0) C dX4_sum_3 rfl ?_
  refine j_istore C dX4_sum_4 (by decide) ?_
  exact hL (a 5 + 1) 0 _ (by omega) (by omega) rfl
theorem n_X4_isUp_X4 : ∀ w ∈ wsX40, w ∈ wsX4_isUp := by decide +kernel
set_option maxHeartbeats 4000000 in
set_option maxRecDepth 100000 in
theorem c_X4_isUp {l : Launch} {D : va_G} {cI cZ cQ : ClassId} {ad : Nat → Nat} {np : Nat} {x : Nat → Nat} {g : Nat → Nat → Int32} (hnp : 41 ≤ np) {a : Nat → Nat} {b nu : Nat → Nat → Int32} (hM : RM x g a b nu) (hW : WF a b nu) {plan row : Int32} {k : Nat} : Cn l D cI cZ cQ ad np 1 yX4_isUp wsX4_isUp [.ref (ad 27), .int plan, .int row, .int (nI k)] x g (rp (bI (decide (0 < wF b plan row k (a 5)))) x g) := by
  refine cn_of (own := RX4) (by decide) rfl rfl (by simp [Value.category]) (Nat.le_of_ble_eq_true rfl) ?_
  intro p e s m args below meth c A Q C HR HV
  obtain ⟨⟨e0, e1, e2, e3, e4, e5, e6⟩, hg, hnu⟩ := id hM
  obtain ⟨⟨w0, ⟨w1, w1'⟩, w2, w3, w4, w5, w6⟩, wt, wn, wq⟩ := id hW
  have b9 : g 28 = b 9 := hg 9 (by decide) (by decide)
  have b10 : g 29 = b 10 := hg 10 (by decide) (by decide)
  have b11 : g 30 = b 11 := hg 11 (by decide) (by decide)
  have b12 : g 31 = b 12 := hg 12 (by decide) (by decide)
  have b13 : g 32 = b 13 := hg 13 (by decide) (by decide)
  have b14 : g 33 = b 14 := hg 14 (by decide) (by decide)
  have b15 : g 34 = b 15 := hg 15 (by decide) (by decide)
  have b16 : g 35 = b 16 := hg 16 (by decide) (by decide)
  have b17 : g 36 = b 17 := hg 17 (by decide) (by decide)
  have hL : ∀ (n : Nat) (i : Nat) (r : Int32), i ≤ a 5 → a 5 - i < n → r = wF b plan row k i → J p l e (Rm 1) s m args below meth c 0 0 D cI cZ cQ ad np A 6 Q x g 6 [some (.ref (ad 27)), some (.int plan), some (.int row), some (.int (nI k)), some (.int r), some (.int (nI i))] [] := by
    intro n
    induction n with
    | zero => intros; omega
    | succ n ih =>
      intro i r h1 h2 hr2
      refine j_iload C dX4_isUp_6 rfl ?_
      refine j_aload_n C dX4_isUp_8 rfl ?_
      refine jg_X4_terms C dX4_isUp_9 n_X4_isUp_X4 (by decide +kernel) (Nat.lt_of_lt_of_le (by decide) hnp) ?_
      refine j_icmp_ge C 59 dX4_isUp_12 (by decide) (fun hc => ?_) (fun hc => ?_)
      · have he : i = a 5 := by have := (nI_leI (by omega) (by omega)).mp hc; omega
        subst he
        refine j_iload C dX4_isUp_59 rfl ?_
        refine j_if_le C 68 dX4_isUp_61 (by decide) (fun hc61 => ?_) (fun hc61 => ?_)
        · refine j_iconst (v := 0) C dX4_isUp_68 rfl ?_
          first
          | exact HR _ _ _ _ _ _ rfl rfl dX4_isUp_69 ⟨_, rfl, by rw [← hr2, decide_eq_true (Int32.not_le.mp hc61)]; rfl, rfl, rfl⟩
          | exact HR _ _ _ _ _ _ rfl rfl dX4_isUp_69 ⟨_, rfl, by rw [← hr2, decide_eq_false (Int32.not_lt.mpr hc61)]; rfl, rfl, rfl⟩
        · refine j_iconst (v := 1) C dX4_isUp_64 rfl ?_
          refine j_goto C 69 dX4_isUp_65 (by decide) ?_
          first
          | exact HR _ _ _ _ _ _ rfl rfl dX4_isUp_69 ⟨_, rfl, by rw [← hr2, decide_eq_true (Int32.not_le.mp hc61)]; rfl, rfl, rfl⟩
          | exact HR _ _ _ _ _ _ rfl rfl dX4_isUp_69 ⟨_, rfl, by rw [← hr2, decide_eq_false (Int32.not_lt.mpr hc61)]; rfl, rfl, rfl⟩
      · have hlt : i < a 5 := by have := mt (nI_leI (by omega) (by omega)).mpr hc; omega
        obtain ⟨⟨r, hr1, hr⟩, hch, hnm, hf1, hf2⟩ := wt i hlt
        have hch2 : b 13 i = -1 ∨ ¬ b 13 i < 0 := hch.imp_right (fun ⟨j, hj, e⟩ => by rw [e]; exact nI_pos (by omega))
        have hnm2 : b 14 i = -1 ∨ ¬ b 14 i < 0 := hnm.imp_right (fun ⟨j, hj, e⟩ => by rw [e]; exact nI_pos (by omega))
        refine j_iload C dX4_isUp_15 rfl ?_
        refine j_aload_n C dX4_isUp_17 rfl ?_
        refine j_iload C dX4_isUp_18 rfl ?_
        refine j_iload_n C dX4_isUp_20 rfl ?_
        refine j_iload_n C dX4_isUp_21 rfl ?_
        refine jVp3 (ci := 4) C dX4_isUp_22 gX4_isUp_X4_isOn rfl pd_X4_isOn ⟨by decide, by decide⟩ (Nat.lt_of_lt_of_le (by decide) hnp) rfl rfl rfl (Nat.le_of_ble_eq_true rfl) (c_X4_isOn hnp b12 b13 (by omega)) ?_
        refine j_if_eq C 49 dX4_isUp_25 (by decide) (fun hc25 => ?_) (fun hc25 => ?_)
        · refine j_iconst (v := 0) C dX4_isUp_49 rfl ?_
          refine j_iadd C dX4_isUp_50 ?_
          refine j_istore C dX4_isUp_51 (by decide) ?_
          refine j_iincN (n := 1) C dX4_isUp_53 rfl (by decide) ?_
          refine j_goto C 6 dX4_isUp_56 (by decide) ?_
          first
          | exact ih (i + 1) _ (by omega) (by omega) (by simp only [wF]; rw [bI_0.mp hc25, hr2, Int32.add_zero]; rfl)
          | exact ih (i + 1) _ (by omega) (by omega) (by simp only [wF]; rw [bI_n0.mp hc25, decide_eq_true hc36, hr2]; rfl)
          | exact ih (i + 1) _ (by omega) (by omega) (by simp only [wF]; rw [bI_n0.mp hc25, decide_eq_false hc36, hr2, Int32.add_zero]; rfl)
        · refine j_aload_n C dX4_isUp_28 rfl ?_
          refine jg_X4_termName C dX4_isUp_29 n_X4_isUp_X4 (by decide +kernel) (Nat.lt_of_lt_of_le (by decide) hnp) ?_
          refine j_iload C dX4_isUp_32 rfl ?_
          refine j_iald C i dX4_isUp_34 (Nat.lt_of_lt_of_le (by decide) hnp) rfl rfl (show _ < 40 by omega) ?_
          rw [b14]
          refine j_iload_n C dX4_isUp_35 rfl ?_
          refine j_icmp_ne C 49 dX4_isUp_36 (by decide) (fun hc36 => ?_) (fun hc36 => ?_)
          · refine j_iconst (v := 0) C dX4_isUp_49 rfl ?_
            refine j_iadd C dX4_isUp_50 ?_
            refine j_istore C dX4_isUp_51 (by decide) ?_
            refine j_iincN (n := 1) C dX4_isUp_53 rfl (by decide) ?_
            refine j_goto C 6 dX4_isUp_56 (by decide) ?_
            first
            | exact ih (i + 1) _ (by omega) (by omega) (by simp only [wF]; rw [bI_0.mp hc25, hr2, Int32.add_zero]; rfl)
            | exact ih (i + 1) _ (by omega) (by omega) (by simp only [wF]; rw [bI_n0.mp hc25, decide_eq_true hc36, hr2]; rfl)
            | exact ih (i + 1) _ (by omega) (by omega) (by simp only [wF]; rw [bI_n0.mp hc25, decide_eq_false hc36, hr2, Int32.add_zero]; rfl)
          · refine j_aload_n C dX4_isUp_39 rfl ?_
            refine jg_X4_termFactor C dX4_isUp_40 n_X4_isUp_X4 (by decide +kernel) (Nat.lt_of_lt_of_le (by decide) hnp) ?_
            refine j_iload C dX4_isUp_43 rfl ?_
            refine j_iald C i dX4_isUp_45 (Nat.lt_of_lt_of_le (by decide) hnp) rfl rfl (show _ < 40 by omega) ?_
            rw [b15]
            refine j_goto C 50 dX4_isUp_46 (by decide) ?_
            refine j_iadd C dX4_isUp_50 ?_
            refine j_istore C dX4_isUp_51 (by decide) ?_
            refine j_iincN (n := 1) C dX4_isUp_53 rfl (by decide) ?_
            refine j_goto C 6 dX4_isUp_56 (by decide) ?_
            first
            | exact ih (i + 1) _ (by omega) (by omega) (by simp only [wF]; rw [bI_0.mp hc25, hr2, Int32.add_zero]; rfl)
            | exact ih (i + 1) _ (by omega) (by omega) (by simp only [wF]; rw [bI_n0.mp hc25, decide_eq_true hc36, hr2]; rfl)
            | exact ih (i + 1) _ (by omega) (by omega) (by simp only [wF]; rw [bI_n0.mp hc25, decide_eq_false hc36, hr2, Int32.add_zero]; rfl)
  refine j_iconst (v := 0) C dX4_isUp_0 rfl ?_
  refine j_istore C dX4_isUp_1 (by decide) ?_
  refine j_iconst (v := 0) C dX4_isUp_3 rfl ?_
  refine j_istore C dX4_isUp_4 (by decide) ?_
  exact hL (a 5 + 1) 0 _ (by omega) (by omega) rfl
end
section
theorem add_rc (u v w : Int32) : u + v + w = u + w + v := by rw [Int32.add_assoc, Int32.add_comm v w, ← Int32.add_assoc]
/-- the sum of a row with usual numbers, as FutureSets makes it: by names -/
def bsF (b : Nat → Nat → Int32) (plan row : Int32) (T : Nat) : Nat → Int32
  | 0 => baF b plan row T
  | n + 1 => bsF b plan row T n + wF b plan row n T * b 10 n
theorem bsF_off {b : Nat → Nat → Int32} {plan row : Int32} {T : Nat} (h : onF b plan row T = false) : ∀ i, bsF b plan row (T + 1) i = bsF b plan row T i := by
  intro i
  induction i with
  | zero => simp [bsF, baF, h]
  | succ i ih => simp [bsF, wF, h, ih]
theorem bsF_no {b : Nat → Nat → Int32} {plan row : Int32} {T : Nat} (h : onF b plan row T = true) (h14 : b 14 T < 0) : ∀ i, i < 2 ^ 31 → bsF b plan row (T + 1) i = bsF b plan row T i + b 15 T := by
  intro i
  induction i with
  | zero => intro _; simp [bsF, baF, h, h14]
  | succ i ih =>
    intro hi
    have hne : ¬ b 14 T = nI i := fun e => nI_pos (n := i) (by omega) (e ▸ h14)
    have hw : wF b plan row i (T + 1) = wF b plan row i T := by simp [wF, hne]
    simp only [bsF]
    rw [ih (by omega), hw, add_rc]
theorem bsF_nm {b : Nat → Nat → Int32} {plan row : Int32} {T k : Nat} (h : onF b plan row T = true) (hk : k < 2 ^ 31) (h14 : b 14 T = nI k) : ∀ i, i < 2 ^ 31 → bsF b plan row (T + 1) i = bsF b plan row T i + (if k < i then b 15 T * b 10 k else 0) := by
  intro i
  induction i with
  | zero =>
    intro _
    have : ¬ b 14 T < 0 := by rw [h14]; exact nI_pos hk
    simp [bsF, baF, this]
  | succ i ih =>
    intro hi
    simp only [bsF]
    rw [ih (by omega)]
    by_cases e : i = k
    · subst e
      have hw : wF b plan row i (T + 1) = wF b plan row i T + b 15 T := by simp [wF, h, h14]
      rw [hw, if_neg (by omega), if_pos (by omega), Int32.add_zero, Int32.add_mul, Int32.add_assoc]
    · have hne : ¬ b 14 T = nI i := fun q => e ((nI_eq (by omega) (by omega)).mp (h14.symm.trans q)).symm
      have hw : wF b plan row i (T + 1) = wF b plan row i T := by simp [wF, hne]
      rw [hw]
      by_cases h2 : k < i
      · rw [if_pos h2, if_pos (by omega), add_rc]
      · rw [if_neg h2, if_neg (by omega), Int32.add_zero, Int32.add_zero]
theorem bsF_sum {a : Nat → Nat} {b nu : Nat → Nat → Int32} (hW : WF a b nu) (plan row : Int32) : ∀ T, T ≤ a 5 → bsF b plan row T (a 4) = sumF b (b 10) plan row T := by
  obtain ⟨⟨w0, ⟨w1, w1'⟩, w2, w3, w4, w5, w6⟩, wt, wn, wq⟩ := id hW
  intro T
  induction T with
  | zero =>
    intro _
    have : ∀ i, bsF b plan row 0 i = 0 := by
      intro i
      induction i with
      | zero => rfl
      | succ i ih => simp [bsF, ih, wF]
    rw [this]; rfl
  | succ T ih =>
    intro hT
    have ih := ih (by omega)
    obtain ⟨-, -, hnm, -, -⟩ := wt T (by omega)
    cases hon : onF b plan row T with
    | false => rw [bsF_off hon, ih]; simp [sumF, hon]
    | true =>
      rcases hnm with hm | ⟨k, hk, hm⟩
      · have hl : b 14 T < 0 := by rw [hm]; decide
        rw [bsF_no hon hl _ (by omega), ih]
        simp [sumF, hon, vaF, hl]
      · have hl : ¬ b 14 T < 0 := by rw [hm]; exact nI_pos (by omega)
        rw [bsF_nm hon (by omega) hm _ (by omega), ih, if_pos hk]
        simp only [sumF, hon, vaF, if_neg hl, if_true]
        rw [hm, nI_clamp (by omega)]
/-- the number that makes a name's part greatest, its gain -/
def upF (b : Nat → Nat → Int32) (plan row : Int32) (T n : Nat) : Int32 := if 0 < wF b plan row n T then b 11 n else b 9 n
def gaF (b : Nat → Nat → Int32) (plan row : Int32) (T n : Nat) : Int32 := wF b plan row n T * (upF b plan row T n - b 10 n)
/-- the name that gains most among the first n -/
def pkF (f : Nat → Int32) : Nat → Option Nat
  | 0 => none
  | n + 1 => match pkF f n with
    | none => if 0 < f n then some n else none
    | some j => if f j < f n then some n else some j
theorem pkF_lt {f : Nat → Int32} : ∀ {n j : Nat}, pkF f n = some j → j < n := by
  intro n
  induction n with
  | zero => intro j h; cases h
  | succ n ih =>
    intro j h
    unfold pkF at h
    cases hp : pkF f n with
    | none =>
      rw [hp] at h
      by_cases h2 : 0 < f n
      · simp [h2] at h; omega
      · simp [h2] at h
    | some k =>
      rw [hp] at h
      have := ih hp
      by_cases h2 : f k < f n
      · simp [h2] at h; omega
      · simp [h2] at h; omega
theorem pkF_pos {f : Nat → Int32} : ∀ {n j : Nat}, pkF f n = some j → 0 < f j := by
  intro n
  induction n with
  | zero => intro j h; cases h
  | succ n ih =>
    intro j h
    unfold pkF at h
    cases hp : pkF f n with
    | none =>
      rw [hp] at h
      by_cases h2 : 0 < f n
      · simp [h2] at h; subst h; exact h2
      · simp [h2] at h
    | some k =>
      rw [hp] at h
      have := ih hp
      by_cases h2 : f k < f n
      · simp [h2] at h; subst h; exact Int32.lt_trans this h2
      · simp [h2] at h; subst h; exact this
theorem pkF_congr {f h : Nat → Int32} : ∀ {n : Nat}, (∀ k, k < n → f k = h k) → pkF f n = pkF h n := by
  intro n
  induction n with
  | zero => intro _; rfl
  | succ n ih =>
    intro hh
    unfold pkF
    rw [ih (fun k hk => hh k (by omega)), hh n (by omega)]
    cases hp : pkF h n with
    | none => rfl
    | some j =>
      have := pkF_lt hp
      simp only []
      rw [hh j (by omega)]
def pkI (o : Option Nat) : Int32 := match o with
  | none => -1000000003
  | some j => nI j
def pkM (o : Option Nat) : Int32 := match o with
  | none => -1
  | some j => nI j
def pkV (f : Nat → Int32) (o : Option Nat) : Int32 := match o with
  | none => 0
  | some j => f j
theorem nI_none {j : Nat} (h : j < 2 ^ 31) : ¬ nI j = -1000000003 := fun e => nI_pos h (by rw [e]; decide)
theorem pkF_new {f : Nat → Int32} {n : Nat} (h : pkV f (pkF f n) < f n) : pkF f (n + 1) = some n := by
  unfold pkF
  cases hp : pkF f n with
  | none => rw [hp] at h; exact if_pos h
  | some j => rw [hp] at h; exact if_pos h
theorem pkF_old {f : Nat → Int32} {n : Nat} (h : ¬ pkV f (pkF f n) < f n) : pkF f (n + 1) = pkF f n := by
  conv => lhs; unfold pkF
  cases hp : pkF f n with
  | none => rw [hp] at h; exact if_neg h
  | some j => rw [hp] at h; exact if_neg h
/-- one name more is not usual -/
def gsF (N : Nat) (up : Nat → Int32) (q : (Nat → Int32) × (Nat → Int32) × Int32) : (Nat → Int32) × (Nat → Int32) × Int32 := match pkF q.1 N with
  | none => q
  | some j => (upd q.1 j 0, upd q.2.1 j (up j), q.2.2 + q.1 j)
def grF (N : Nat) (up : Nat → Int32) (q : (Nat → Int32) × (Nat → Int32) × Int32) : Nat → (Nat → Int32) × (Nat → Int32) × Int32
  | 0 => q
  | k + 1 => gsF N up (grF N up q k)
theorem grF_stop {N : Nat} {up : Nat → Int32} {q : (Nat → Int32) × (Nat → Int32) × Int32} {i : Nat} (h : pkF (grF N up q i).1 N = none) : ∀ k, grF N up q (i + k) = grF N up q i := by
  intro k
  induction k with
  | zero => rfl
  | succ k ih =>
    show gsF N up (grF N up q (i + k)) = _
    rw [ih]
    unfold gsF
    rw [h]
def wsF (a : Nat → Nat) (b : Nat → Nat → Int32) (plan row : Int32) : (Nat → Int32) × (Nat → Int32) × Int32 := grF (a 4) (upF b plan row (a 5)) (gaF b plan row (a 5), b 10, sumF b (b 10) plan row (a 5)) (a 3)
/-- the gain as the reference makes it -/
theorem gaM {b : Nat → Nat → Int32} {plan row to : Int32} {T n : Nat} (h1 : 0 < wF b plan row n T → to = b 11 n) (h2 : ¬ 0 < wF b plan row n T → wF b plan row n T < 0 → to = b 9 n) (h3 : ¬ 0 < wF b plan row n T → ¬ wF b plan row n T < 0 → to = b 10 n) : wF b plan row n T * (to - b 10 n) = gaF b plan row T n := by
  unfold gaF upF
  by_cases c1 : 0 < wF b plan row n T
  · rw [h1 c1, if_pos c1]
  · by_cases c2 : wF b plan row n T < 0
    · rw [h2 c1 c2, if_neg c1]
    · have h0 : wF b plan row n T = 0 := Int32.le_antisymm (Int32.not_lt.mp c1) (Int32.not_lt.mp c2)
      rw [h0, Int32.zero_mul, Int32.zero_mul]
end
section
theorem n_X3_worstOf_X1 : ∀ w ∈ wsX10, w ∈ wsX3_worstOf := by decide +kernel
theorem n_X3_worstOf_X3 : ∀ w ∈ wsX30, w ∈ wsX3_worstOf := by decide +kernel
set_option maxHeartbeats 4000000 in
set_option maxRecDepth 100000 in
theorem c_X3_worstOf {l : Launch} {D : va_G} {cI cZ cQ : ClassId} {ad : Nat → Nat} {np : Nat} {x : Nat → Nat} {g : Nat → Nat → Int32} (hnp : 27 ≤ np) {n : Nat} (hn : n < 12) : Cn l D cI cZ cQ ad np 0 yX3_worstOf wsX3_worstOf [.ref (ad 0), .int (nI n)] x g (rp (if 0 < g 6 n then g 11 n else g 9 n) x g) := by
  refine cn_of (own := RX3) (by decide) rfl rfl (by simp [Value.category]) (Nat.le_of_ble_eq_true rfl) ?_
  intro p e s m args below meth c A Q C HR HV
  refine j_aload_n C dX3_worstOf_0 rfl ?_
  refine jg_X3_weights C dX3_worstOf_1 n_X3_worstOf_X3 (by decide +kernel) (Nat.lt_of_lt_of_le (by decide) hnp) ?_
  refine j_iload_n C dX3_worstOf_4 rfl ?_
  refine j_iald C n dX3_worstOf_5 (Nat.lt_of_lt_of_le (by decide) hnp) rfl rfl (show _ < 12 by omega) ?_
  refine j_if_le C 21 dX3_worstOf_6 (by decide) (fun hc6 => ?_) (fun hc6 => ?_)
  · refine j_aload_n C dX3_worstOf_21 rfl ?_
    refine jg_X3_names C dX3_worstOf_22 n_X3_worstOf_X3 (by decide +kernel) (Nat.lt_of_lt_of_le (by decide) hnp) ?_
    refine jg_X1_least C dX3_worstOf_25 n_X3_worstOf_X1 (by decide +kernel) (Nat.lt_of_lt_of_le (by decide) hnp) ?_
    refine j_iload_n C dX3_worstOf_28 rfl ?_
    refine j_iald C n dX3_worstOf_29 (Nat.lt_of_lt_of_le (by decide) hnp) rfl rfl (show _ < 12 by omega) ?_
    first
    | exact HR _ _ _ _ _ _ rfl rfl dX3_worstOf_30 ⟨_, rfl, (if_neg (Int32.not_lt.mpr hc6)).symm, rfl, rfl⟩
    | exact HR _ _ _ _ _ _ rfl rfl dX3_worstOf_30 ⟨_, rfl, (if_pos (Int32.not_le.mp hc6)).symm, rfl, rfl⟩
  · refine j_aload_n C dX3_worstOf_9 rfl ?_
    refine jg_X3_names C dX3_worstOf_10 n_X3_worstOf_X3 (by decide +kernel) (Nat.lt_of_lt_of_le (by decide) hnp) ?_
    refine jg_X1_greatest C dX3_worstOf_13 n_X3_worstOf_X1 (by decide +kernel) (Nat.lt_of_lt_of_le (by decide) hnp) ?_
    refine j_iload_n C dX3_worstOf_16 rfl ?_
    refine j_iald C n dX3_worstOf_17 (Nat.lt_of_lt_of_le (by decide) hnp) rfl rfl (show _ < 12 by omega) ?_
    refine j_goto C 30 dX3_worstOf_18 (by decide) ?_
    first
    | exact HR _ _ _ _ _ _ rfl rfl dX3_worstOf_30 ⟨_, rfl, (if_neg (Int32.not_lt.mpr hc6)).symm, rfl, rfl⟩
    | exact HR _ _ _ _ _ _ rfl rfl dX3_worstOf_30 ⟨_, rfl, (if_pos (Int32.not_le.mp hc6)).symm, rfl, rfl⟩
theorem n_X3_greatestGain_X1 : ∀ w ∈ wsX10, w ∈ wsX3_greatestGain := by decide +kernel
theorem n_X3_greatestGain_X3 : ∀ w ∈ wsX30, w ∈ wsX3_greatestGain := by decide +kernel
set_option maxHeartbeats 4000000 in
set_option maxRecDepth 100000 in
theorem c_X3_greatestGain {l : Launch} {D : va_G} {cI cZ cQ : ClassId} {ad : Nat → Nat} {np : Nat} {x : Nat → Nat} {g : Nat → Nat → Int32} (hnp : 27 ≤ np) (h4 : x 4 ≤ 12) : Cn l D cI cZ cQ ad np 0 yX3_greatestGain wsX3_greatestGain [.ref (ad 0)] x g (rp (pkI (pkF (g 7) (x 4))) x g) := by
  refine cn_of (own := RX3) (by decide) rfl rfl (by simp [Value.category]) (Nat.le_of_ble_eq_true rfl) ?_
  intro p e s m args below meth c A Q C HR HV
  have hL : ∀ (n : Nat) (i : Nat) (v v2 : Int32), i ≤ x 4 → x 4 - i < n → v = pkI (pkF (g 7) i) → v2 = pkV (g 7) (pkF (g 7) i) → J p l e (Rm 0) s m args below meth c 0 0 D cI cZ cQ ad np A 4 Q x g 7 [some (.ref (ad 0)), some (.int v), some (.int v2), some (.int (nI i))] [] := by
    intro n
    induction n with
    | zero => intros; omega
    | succ n ih =>
      intro i v v2 h1 h2 hv hv2
      refine j_iload_n C dX3_greatestGain_7 rfl ?_
      refine j_aload_n C dX3_greatestGain_8 rfl ?_
      refine jg_X3_names C dX3_greatestGain_9 n_X3_greatestGain_X3 (by decide +kernel) (Nat.lt_of_lt_of_le (by decide) hnp) ?_
      refine jg_X1_count C dX3_greatestGain_12 n_X3_greatestGain_X1 (by decide +kernel) (Nat.lt_of_lt_of_le (by decide) hnp) ?_
      refine j_icmp_ge C 43 dX3_greatestGain_15 (by decide) (fun hc => ?_) (fun hc => ?_)
      · have he : i = x 4 := by have := (nI_leI (by omega) (by omega)).mp hc; omega
        subst he
        refine j_iload_n C dX3_greatestGain_43 rfl ?_
        exact HR _ _ _ _ _ _ rfl rfl dX3_greatestGain_44 ⟨_, rfl, hv, rfl, rfl⟩
      · have hlt : i < x 4 := by have := mt (nI_leI (by omega) (by omega)).mpr hc; omega
        refine j_aload_n C dX3_greatestGain_18 rfl ?_
        refine jg_X3_gains C dX3_greatestGain_19 n_X3_greatestGain_X3 (by decide +kernel) (Nat.lt_of_lt_of_le (by decide) hnp) ?_
        refine j_iload_n C dX3_greatestGain_22 rfl ?_
        refine j_iald C i dX3_greatestGain_23 (Nat.lt_of_lt_of_le (by decide) hnp) rfl rfl (show _ < 12 by omega) ?_
        refine j_iload_n C dX3_greatestGain_24 rfl ?_
        refine j_icmp_le C 37 dX3_greatestGain_25 (by decide) (fun hc25 => ?_) (fun hc25 => ?_)
        · refine j_iincN (n := 1) C dX3_greatestGain_37 rfl (by decide) ?_
          refine j_goto C 7 dX3_greatestGain_40 (by decide) ?_
          first
          | exact ih (i + 1) _ _ (by omega) (by omega) (by rw [pkF_new (by rw [← hv2]; exact Int32.not_le.mp hc25)]; rfl) (by rw [pkF_new (by rw [← hv2]; exact Int32.not_le.mp hc25)]; rfl)
          | exact ih (i + 1) _ _ (by omega) (by omega) (by rw [pkF_old (by rw [← hv2]; exact Int32.not_lt.mpr hc25)]; exact hv) (by rw [pkF_old (by rw [← hv2]; exact Int32.not_lt.mpr hc25)]; exact hv2)
        · refine j_iload_n C dX3_greatestGain_28 rfl ?_
          refine j_istore_n C dX3_greatestGain_29 (by decide) ?_
          refine j_aload_n C dX3_greatestGain_30 rfl ?_
          refine jg_X3_gains C dX3_greatestGain_31 n_X3_greatestGain_X3 (by decide +kernel) (Nat.lt_of_lt_of_le (by decide) hnp) ?_
          refine j_iload_n C dX3_greatestGain_34 rfl ?_
          refine j_iald C i dX3_greatestGain_35 (Nat.lt_of_lt_of_le (by decide) hnp) rfl rfl (show _ < 12 by omega) ?_
          refine j_istore_n C dX3_greatestGain_36 (by decide) ?_
          refine j_iincN (n := 1) C dX3_greatestGain_37 rfl (by decide) ?_
          refine j_goto C 7 dX3_greatestGain_40 (by decide) ?_
          first
          | exact ih (i + 1) _ _ (by omega) (by omega) (by rw [pkF_new (by rw [← hv2]; exact Int32.not_le.mp hc25)]; rfl) (by rw [pkF_new (by rw [← hv2]; exact Int32.not_le.mp hc25)]; rfl)
          | exact ih (i + 1) _ _ (by omega) (by omega) (by rw [pkF_old (by rw [← hv2]; exact Int32.not_lt.mpr hc25)]; exact hv) (by rw [pkF_old (by rw [← hv2]; exact Int32.not_lt.mpr hc25)]; exact hv2)
  refine j_ldc (v := (-1000000003)) C dX3_greatestGain_0 (by decide +kernel) ?_
  refine j_istore_n C dX3_greatestGain_2 (by decide) ?_
  refine j_iconst (v := 0) C dX3_greatestGain_3 rfl ?_
  refine j_istore_n C dX3_greatestGain_4 (by decide) ?_
  refine j_iconst (v := 0) C dX3_greatestGain_5 rfl ?_
  refine j_istore_n C dX3_greatestGain_6 (by decide) ?_
  exact hL (x 4 + 1) 0 _ _ (by omega) (by omega) rfl rfl
theorem n_X3_findWorst_X1 : ∀ w ∈ wsX10, w ∈ wsX3_findWorst := by decide +kernel
theorem n_X3_findWorst_X3 : ∀ w ∈ wsX30, w ∈ wsX3_findWorst := by decide +kernel
set_option maxHeartbeats 4000000 in
set_option maxRecDepth 100000 in
theorem c_X3_findWorst {l : Launch} {D : va_G} {cI cZ cQ : ClassId} {ad : Nat → Nat} {np : Nat} {x : Nat → Nat} {g : Nat → Nat → Int32} (hnp : 27 ≤ np) {a : Nat → Nat} {b nu : Nat → Nat → Int32} (hX : RX x g a b nu) (hW : WF a b nu) {plan row : Int32} : Cn l D cI cZ cQ ad np 2 yX3_findWorst wsX3_findWorst [.ref (ad 0), .int plan, .int row] x g (ri (fun r x' g' => r = (wsF a b plan row).2.2 ∧ x' = x ∧ Sx g g' ∧ ∀ n, n < a 4 → g' 8 n = (wsF a b plan row).2.1 n)) := by
  refine cn_of (own := RX3) (by decide) rfl rfl (by simp [Value.category]) (Nat.le_of_ble_eq_true rfl) ?_
  intro p e s m args below meth c A Q C HR HV
  obtain ⟨hx, hg, hnu⟩ := id hX
  obtain ⟨⟨w0, ⟨w1, w1'⟩, w2, w3, w4, w5, w6⟩, wt, wn, wq⟩ := id hW
  have e0 := hx 0 (by decide)
  have e1 := hx 1 (by decide)
  have e2 := hx 2 (by decide)
  have e3 := hx 3 (by decide)
  have e4 := hx 4 (by decide)
  have e5 := hx 5 (by decide)
  have e6 := hx 6 (by decide)
  have b9 := hg 9 (by decide) (by decide)
  have b10 := hg 10 (by decide) (by decide)
  have b11 := hg 11 (by decide) (by decide)
  have b12 := hg 12 (by decide) (by decide)
  have b13 := hg 13 (by decide) (by decide)
  have b14 := hg 14 (by decide) (by decide)
  have b15 := hg 15 (by decide) (by decide)
  have b16 := hg 16 (by decide) (by decide)
  have b17 := hg 17 (by decide) (by decide)
  have hL2 : ∀ (n : Nat) (k : Nat) (v : Int32) (g2 : Nat → Nat → Int32), k ≤ a 3 → a 3 - k < n → Sx g g2 → (∀ n, n < a 4 → g2 6 n = wF b plan row n (a 5)) → (∀ n, n < a 4 → g2 7 n = (grF (a 4) (upF b plan row (a 5)) (gaF b plan row (a 5), b 10, sumF b (b 10) plan row (a 5)) k).1 n) → (∀ n, n < a 4 → g2 8 n = (grF (a 4) (upF b plan row (a 5)) (gaF b plan row (a 5), b 10, sumF b (b 10) plan row (a 5)) k).2.1 n) → v = (grF (a 4) (upF b plan row (a 5)) (gaF b plan row (a 5), b 10, sumF b (b 10) plan row (a 5)) k).2.2 → J p l e (Rm 2) s m args below meth c 0 0 D cI cZ cQ ad np A 6 Q x g2 108 [some (.ref (ad 0)), some (.int plan), some (.int row), some (.int v), some (.int (nI k)), none] [] := by
    intro n
    induction n with
    | zero => intros; omega
    | succ n ih =>
      intro k v g2 h1 h2 hS h6 h7 h8 hv
      refine j_iload C dX3_findWorst_108 rfl ?_
      refine j_aload_n C dX3_findWorst_110 rfl ?_
      refine jg_X3_budgetNow C dX3_findWorst_111 n_X3_findWorst_X3 (by decide +kernel) (Nat.lt_of_lt_of_le (by decide) hnp) ?_
      refine j_icmp_ge C 170 dX3_findWorst_114 (by decide) (fun hc => ?_) (fun hc => ?_)
      · have he : k = a 3 := by have := (nI_leI (by omega) (by omega)).mp hc; omega
        subst he
        refine j_iload_n C dX3_findWorst_170 rfl ?_
        first
        | exact HR _ _ _ _ _ _ rfl rfl dX3_findWorst_171 ⟨_, rfl, hv, rfl, hS, h8⟩
        | exact HR _ _ _ _ _ _ rfl rfl dX3_findWorst_171 ⟨_, rfl, by rw [hv]; exact congrArg (fun q => q.2.2) hst.symm, rfl, hS, fun n hn => (h8 n hn).trans (congrArg (fun q => q.2.1 n) hst.symm)⟩
      · have hlt : k < a 3 := by have := mt (nI_leI (by omega) (by omega)).mpr hc; omega
        have hX2 := hX.sx hS
        have c9 := hX2.2.1 9 (by decide) (by decide)
        have c11 := hX2.2.1 11 (by decide) (by decide)
        refine j_aload_n C dX3_findWorst_117 rfl ?_
        refine jVp0 (ci := 3) C dX3_findWorst_118 gX3_findWorst_X3_greatestGain rfl pd_X3_greatestGain ⟨by decide, by decide⟩ (Nat.lt_of_lt_of_le (by decide) hnp) rfl rfl rfl (Nat.le_of_ble_eq_true rfl) (c_X3_greatestGain hnp (by omega)) ?_
        refine j_istore C dX3_findWorst_121 (by decide) ?_
        refine j_iload C dX3_findWorst_123 rfl ?_
        refine j_ldc (v := (-1000000003)) C dX3_findWorst_125 (by decide +kernel) ?_
        refine j_icmp_ne C 133 dX3_findWorst_127 (by decide) (fun hc127 => ?_) (fun hc127 => ?_)
        · obtain ⟨j, hpj⟩ : ∃ j, pkF (g2 7) (x 4) = some j := by
            cases hpk : pkF (g2 7) (x 4) with
            | none => rw [hpk] at hc127; exact absurd rfl hc127
            | some j => exact ⟨j, rfl⟩
          have hjl := pkF_lt hpj
          rw [hpj]
          refine j_iload_n C dX3_findWorst_133 rfl ?_
          refine j_aload_n C dX3_findWorst_134 rfl ?_
          refine jg_X3_gains C dX3_findWorst_135 n_X3_findWorst_X3 (by decide +kernel) (Nat.lt_of_lt_of_le (by decide) hnp) ?_
          refine j_iload C dX3_findWorst_138 rfl ?_
          refine j_iald C j dX3_findWorst_140 (Nat.lt_of_lt_of_le (by decide) hnp) rfl rfl (show _ < 12 by omega) ?_
          refine j_iadd C dX3_findWorst_141 ?_
          refine j_istore_n C dX3_findWorst_142 (by decide) ?_
          refine j_aload_n C dX3_findWorst_143 rfl ?_
          refine jg_X3_gains C dX3_findWorst_144 n_X3_findWorst_X3 (by decide +kernel) (Nat.lt_of_lt_of_le (by decide) hnp) ?_
          refine j_iload C dX3_findWorst_147 rfl ?_
          refine j_iconst (v := 0) C dX3_findWorst_149 rfl ?_
          refine j_iast C j dX3_findWorst_150 (Nat.lt_of_lt_of_le (by decide) hnp) rfl rfl (show _ < 12 by omega) ?_
          refine j_aload_n C dX3_findWorst_151 rfl ?_
          refine jg_X3_worstNumbers C dX3_findWorst_152 n_X3_findWorst_X3 (by decide +kernel) (Nat.lt_of_lt_of_le (by decide) hnp) ?_
          refine j_iload C dX3_findWorst_155 rfl ?_
          refine j_aload_n C dX3_findWorst_157 rfl ?_
          refine j_iload C dX3_findWorst_158 rfl ?_
          refine jVp1 (ci := 3) C dX3_findWorst_160 gX3_findWorst_X3_worstOf rfl pd_X3_worstOf ⟨by decide, by decide⟩ (Nat.lt_of_lt_of_le (by decide) hnp) rfl rfl rfl (Nat.le_of_ble_eq_true rfl) (c_X3_worstOf (n := j) hnp (by omega)) ?_
          rw [va_un _ 7 6 _ (by decide), va_un _ 7 11 _ (by decide), va_un _ 7 9 _ (by decide), h6 j (by omega), c11, c9]
          refine j_iast C j dX3_findWorst_163 (Nat.lt_of_lt_of_le (by decide) hnp) rfl rfl (show _ < 12 by omega) ?_
          refine j_iincN (n := 1) C dX3_findWorst_164 rfl (by decide) ?_
          refine j_goto C 108 dX3_findWorst_167 (by decide) ?_
          have hpk2 : pkF (grF (a 4) (upF b plan row (a 5)) (gaF b plan row (a 5), b 10, sumF b (b 10) plan row (a 5)) k).1 (a 4) = some j := by have h9 := hpj; rw [e4] at h9; rw [← h9]; exact (pkF_congr (fun n hn => h7 n hn)).symm
          have hgs : grF (a 4) (upF b plan row (a 5)) (gaF b plan row (a 5), b 10, sumF b (b 10) plan row (a 5)) (k + 1) = (upd (grF (a 4) (upF b plan row (a 5)) (gaF b plan row (a 5), b 10, sumF b (b 10) plan row (a 5)) k).1 j 0, upd (grF (a 4) (upF b plan row (a 5)) (gaF b plan row (a 5), b 10, sumF b (b 10) plan row (a 5)) k).2.1 j (upF b plan row (a 5) j), (grF (a 4) (upF b plan row (a 5)) (gaF b plan row (a 5), b 10, sumF b (b 10) plan row (a 5)) k).2.2 + (grF (a 4) (upF b plan row (a 5)) (gaF b plan row (a 5), b 10, sumF b (b 10) plan row (a 5)) k).1 j) := by
            show gsF _ _ _ = _
            unfold gsF
            rw [hpk2]
          refine j_drop 5 ?_
          refine ih (k + 1) _ _ (by omega) (by omega) ((hS.up ⟨by decide, by decide⟩).up ⟨by decide, by decide⟩) (fun n hn => ?_) (fun n hn => ?_) (fun n hn => ?_) ?_
          · rw [va_un _ 8 6 _ (by decide), va_un _ 7 6 _ (by decide)]; exact h6 n hn
          · rw [va_un _ 8 7 _ (by decide), va_us, hgs]
            simp only [upd]
            rw [h7 n hn]
          · rw [va_us, va_un _ 7 8 _ (by decide), hgs]
            simp only [upd]
            rw [h8 n hn]
            rfl
          · rw [hgs, hv, h7 j (by omega)]
        · have hpn : pkF (g2 7) (x 4) = none := by
            cases hpk : pkF (g2 7) (x 4) with
            | none => rfl
            | some j => rw [hpk] at hc127; exact absurd hc127 (nI_none (by have := pkF_lt hpk; omega))
          have hpn2 : pkF (grF (a 4) (upF b plan row (a 5)) (gaF b plan row (a 5), b 10, sumF b (b 10) plan row (a 5)) k).1 (a 4) = none := by have h9 := hpn; rw [e4] at h9; rw [← h9]; exact (pkF_congr (fun n hn => h7 n hn)).symm
          have hst : grF (a 4) (upF b plan row (a 5)) (gaF b plan row (a 5), b 10, sumF b (b 10) plan row (a 5)) (a 3) = grF (a 4) (upF b plan row (a 5)) (gaF b plan row (a 5), b 10, sumF b (b 10) plan row (a 5)) k := by have := grF_stop hpn2 (a 3 - k); rwa [show k + (a 3 - k) = a 3 by omega] at this
          refine j_goto C 170 dX3_findWorst_130 (by decide) ?_
          refine j_iload_n C dX3_findWorst_170 rfl ?_
          first
          | exact HR _ _ _ _ _ _ rfl rfl dX3_findWorst_171 ⟨_, rfl, hv, rfl, hS, h8⟩
          | exact HR _ _ _ _ _ _ rfl rfl dX3_findWorst_171 ⟨_, rfl, by rw [hv]; exact congrArg (fun q => q.2.2) hst.symm, rfl, hS, fun n hn => (h8 n hn).trans (congrArg (fun q => q.2.1 n) hst.symm)⟩
  have hL1 : ∀ (n : Nat) (i : Nat) (v : Int32) (g2 : Nat → Nat → Int32), i ≤ a 4 → a 4 - i < n → Sx g g2 → (∀ n, n < a 4 → g2 6 n = wF b plan row n (a 5)) → (∀ n, n < i → g2 7 n = gaF b plan row (a 5) n) → (∀ n, n < i → g2 8 n = b 10 n) → v = bsF b plan row (a 5) i → J p l e (Rm 2) s m args below meth c 0 0 D cI cZ cQ ad np A 6 Q x g2 17 [some (.ref (ad 0)), some (.int plan), some (.int row), some (.int v), some (.int (nI i)), none] [] := by
    intro n
    induction n with
    | zero => intros; omega
    | succ n ih =>
      intro i v g2 h1 h2 hS h6 h7 h8 hv
      refine j_iload C dX3_findWorst_17 rfl ?_
      refine j_aload_n C dX3_findWorst_19 rfl ?_
      refine jg_X3_names C dX3_findWorst_20 n_X3_findWorst_X3 (by decide +kernel) (Nat.lt_of_lt_of_le (by decide) hnp) ?_
      refine jg_X1_count C dX3_findWorst_23 n_X3_findWorst_X1 (by decide +kernel) (Nat.lt_of_lt_of_le (by decide) hnp) ?_
      refine j_icmp_ge C 105 dX3_findWorst_26 (by decide) (fun hc => ?_) (fun hc => ?_)
      · have he : i = a 4 := by have := (nI_leI (by omega) (by omega)).mp hc; omega
        subst he
        refine j_iconst (v := 0) C dX3_findWorst_105 rfl ?_
        refine j_istore C dX3_findWorst_106 (by decide) ?_
        exact hL2 (a 3 + 1) 0 _ _ (by omega) (by omega) hS h6 h7 h8 (by rw [hv]; exact bsF_sum hW plan row (a 5) (Nat.le_refl _))
      · have hlt : i < a 4 := by have := mt (nI_leI (by omega) (by omega)).mpr hc; omega
        have hX2 := hX.sx hS
        have c9 := hX2.2.1 9 (by decide) (by decide)
        have c10 := hX2.2.1 10 (by decide) (by decide)
        have c11 := hX2.2.1 11 (by decide) (by decide)
        refine j_iload_n C dX3_findWorst_29 rfl ?_
        refine j_aload_n C dX3_findWorst_30 rfl ?_
        refine jg_X3_weights C dX3_findWorst_31 n_X3_findWorst_X3 (by decide +kernel) (Nat.lt_of_lt_of_le (by decide) hnp) ?_
        refine j_iload C dX3_findWorst_34 rfl ?_
        refine j_iald C i dX3_findWorst_36 (Nat.lt_of_lt_of_le (by decide) hnp) rfl rfl (show _ < 12 by omega) ?_
        rw [h6 i hlt]
        refine j_aload_n C dX3_findWorst_37 rfl ?_
        refine jg_X3_names C dX3_findWorst_38 n_X3_findWorst_X3 (by decide +kernel) (Nat.lt_of_lt_of_le (by decide) hnp) ?_
        refine jg_X1_usual C dX3_findWorst_41 n_X3_findWorst_X1 (by decide +kernel) (Nat.lt_of_lt_of_le (by decide) hnp) ?_
        refine j_iload C dX3_findWorst_44 rfl ?_
        refine j_iald C i dX3_findWorst_46 (Nat.lt_of_lt_of_le (by decide) hnp) rfl rfl (show _ < 12 by omega) ?_
        rw [c10]
        refine j_imul C dX3_findWorst_47 ?_
        refine j_iadd C dX3_findWorst_48 ?_
        refine j_istore_n C dX3_findWorst_49 (by decide) ?_
        refine j_aload_n C dX3_findWorst_50 rfl ?_
        refine jg_X3_gains C dX3_findWorst_51 n_X3_findWorst_X3 (by decide +kernel) (Nat.lt_of_lt_of_le (by decide) hnp) ?_
        refine j_iload C dX3_findWorst_54 rfl ?_
        refine j_aload_n C dX3_findWorst_56 rfl ?_
        refine jg_X3_weights C dX3_findWorst_57 n_X3_findWorst_X3 (by decide +kernel) (Nat.lt_of_lt_of_le (by decide) hnp) ?_
        refine j_iload C dX3_findWorst_60 rfl ?_
        refine j_iald C i dX3_findWorst_62 (Nat.lt_of_lt_of_le (by decide) hnp) rfl rfl (show _ < 12 by omega) ?_
        rw [h6 i hlt]
        refine j_aload_n C dX3_findWorst_63 rfl ?_
        refine j_iload C dX3_findWorst_64 rfl ?_
        refine jVp1 (ci := 3) C dX3_findWorst_66 gX3_findWorst_X3_worstOf rfl pd_X3_worstOf ⟨by decide, by decide⟩ (Nat.lt_of_lt_of_le (by decide) hnp) rfl rfl rfl (Nat.le_of_ble_eq_true rfl) (c_X3_worstOf hnp (by omega)) ?_
        rw [h6 i hlt, c11, c9]
        refine j_aload_n C dX3_findWorst_69 rfl ?_
        refine jg_X3_names C dX3_findWorst_70 n_X3_findWorst_X3 (by decide +kernel) (Nat.lt_of_lt_of_le (by decide) hnp) ?_
        refine jg_X1_usual C dX3_findWorst_73 n_X3_findWorst_X1 (by decide +kernel) (Nat.lt_of_lt_of_le (by decide) hnp) ?_
        refine j_iload C dX3_findWorst_76 rfl ?_
        refine j_iald C i dX3_findWorst_78 (Nat.lt_of_lt_of_le (by decide) hnp) rfl rfl (show _ < 12 by omega) ?_
        rw [c10]
        refine j_isub C dX3_findWorst_79 ?_
        refine j_imul C dX3_findWorst_80 ?_
        refine j_iast C i dX3_findWorst_81 (Nat.lt_of_lt_of_le (by decide) hnp) rfl rfl (show _ < 12 by omega) ?_
        refine j_aload_n C dX3_findWorst_82 rfl ?_
        refine jg_X3_worstNumbers C dX3_findWorst_83 n_X3_findWorst_X3 (by decide +kernel) (Nat.lt_of_lt_of_le (by decide) hnp) ?_
        refine j_iload C dX3_findWorst_86 rfl ?_
        refine j_aload_n C dX3_findWorst_88 rfl ?_
        refine jg_X3_names C dX3_findWorst_89 n_X3_findWorst_X3 (by decide +kernel) (Nat.lt_of_lt_of_le (by decide) hnp) ?_
        refine jg_X1_usual C dX3_findWorst_92 n_X3_findWorst_X1 (by decide +kernel) (Nat.lt_of_lt_of_le (by decide) hnp) ?_
        refine j_iload C dX3_findWorst_95 rfl ?_
        refine j_iald C i dX3_findWorst_97 (Nat.lt_of_lt_of_le (by decide) hnp) rfl rfl (show _ < 12 by omega) ?_
        rw [va_un _ 7 10 _ (by decide), c10]
        refine j_iast C i dX3_findWorst_98 (Nat.lt_of_lt_of_le (by decide) hnp) rfl rfl (show _ < 12 by omega) ?_
        refine j_iincN (n := 1) C dX3_findWorst_99 rfl (by decide) ?_
        refine j_goto C 17 dX3_findWorst_102 (by decide) ?_
        refine ih (i + 1) _ _ (by omega) (by omega) ((hS.up ⟨by decide, by decide⟩).up ⟨by decide, by decide⟩) (fun n hn => ?_) (fun n hn => ?_) (fun n hn => ?_) ?_
        · rw [va_un _ 8 6 _ (by decide), va_un _ 7 6 _ (by decide)]; exact h6 n hn
        · rw [va_un _ 8 7 _ (by decide), va_us]
          simp only [upd]
          by_cases hni : n = i
          · subst hni; rw [if_pos rfl]; rfl
          · rw [if_neg hni]; exact h7 n (by omega)
        · rw [va_us, va_un _ 7 8 _ (by decide)]
          simp only [upd]
          by_cases hni : n = i
          · subst hni; rw [if_pos rfl]
          · rw [if_neg hni]; exact h8 n (by omega)
        · rw [hv]; rfl
  refine j_aload_n C dX3_findWorst_0 rfl ?_
  refine jg_X3_terms C dX3_findWorst_1 n_X3_findWorst_X3 (by decide +kernel) (Nat.lt_of_lt_of_le (by decide) hnp) ?_
  refine j_iload_n C dX3_findWorst_4 rfl ?_
  refine j_iload_n C dX3_findWorst_5 rfl ?_
  refine j_aload_n C dX3_findWorst_6 rfl ?_
  refine jg_X3_weights C dX3_findWorst_7 n_X3_findWorst_X3 (by decide +kernel) (Nat.lt_of_lt_of_le (by decide) hnp) ?_
  refine jVi3 (ci := 2) C dX3_findWorst_10 gX3_findWorst_X2_weigh rfl pd_X2_weigh ⟨by decide, by decide⟩ (Nat.lt_of_lt_of_le (by decide) hnp) rfl rfl rfl (Nat.le_of_ble_eq_true rfl) (c_X2_weigh hnp hX hW) (fun rr x2 g2 hp => ?_)
  obtain ⟨rfl, rfl, f, rfl, hf⟩ := hp
  refine j_istore_n C dX3_findWorst_13 (by decide) ?_
  refine j_iconst (v := 0) C dX3_findWorst_14 rfl ?_
  refine j_istore C dX3_findWorst_15 (by decide) ?_
  exact hL1 (a 4 + 1) 0 _ _ (by omega) (by omega) (Sx.rf.up ⟨by decide, by decide⟩) (fun n hn => by rw [va_us]; exact hf n hn) (fun n hn => absurd hn (Nat.not_lt_zero n)) (fun n hn => absurd hn (Nat.not_lt_zero n)) rfl
/-- the first row below n that does not hold at worst -/
def fbF (a : Nat → Nat) (b : Nat → Nat → Int32) (plan : Int32) : Nat → Int32
  | 0 => -1000000003
  | n + 1 => if fbF a b plan n = -1000000003 then (if 0 < (wsF a b plan (nI n)).2.2 then nI n else -1000000003) else fbF a b plan n
theorem fbF_up {a : Nat → Nat} {b : Nat → Nat → Int32} {plan : Int32} {n : Nat} (h : ¬ fbF a b plan n = -1000000003) : ∀ k, fbF a b plan (n + k) = fbF a b plan n := by
  intro k
  induction k with
  | zero => rfl
  | succ k ih =>
    show (if fbF a b plan (n + k) = -1000000003 then _ else _) = _
    rw [if_neg (by show ¬ fbF a b plan (n + k) = _; rw [ih]; exact h)]
    exact ih
theorem n_X3_firstBroken_X3 : ∀ w ∈ wsX30, w ∈ wsX3_firstBroken := by decide +kernel
set_option maxHeartbeats 4000000 in
set_option maxRecDepth 100000 in
theorem c_X3_firstBroken {l : Launch} {D : va_G} {cI cZ cQ : ClassId} {ad : Nat → Nat} {np : Nat} {x : Nat → Nat} {g : Nat → Nat → Int32} (hnp : 27 ≤ np) {a : Nat → Nat} {b nu : Nat → Nat → Int32} (hX : RX x g a b nu) (hW : WF a b nu) {plan : Int32} : Cn l D cI cZ cQ ad np 3 yX3_firstBroken wsX3_firstBroken [.ref (ad 0), .int plan] x g (ri (fun r x' g' => r = fbF a b plan (a 0) ∧ x' = x ∧ Sx g g')) := by
  refine cn_of (own := RX3) (by decide) rfl rfl (by simp [Value.category]) (Nat.le_of_ble_eq_true rfl) ?_
  intro p e s m args below meth c A Q C HR HV
  obtain ⟨hx, hg, hnu⟩ := id hX
  obtain ⟨⟨w0, ⟨w1, w1'⟩, w2, w3, w4, w5, w6⟩, wt, wn, wq⟩ := id hW
  have e0 := hx 0 (by decide)
  have e1 := hx 1 (by decide)
  have e2 := hx 2 (by decide)
  have e3 := hx 3 (by decide)
  have e4 := hx 4 (by decide)
  have e5 := hx 5 (by decide)
  have e6 := hx 6 (by decide)
  have b9 := hg 9 (by decide) (by decide)
  have b10 := hg 10 (by decide) (by decide)
  have b11 := hg 11 (by decide) (by decide)
  have b12 := hg 12 (by decide) (by decide)
  have b13 := hg 13 (by decide) (by decide)
  have b14 := hg 14 (by decide) (by decide)
  have b15 := hg 15 (by decide) (by decide)
  have b16 := hg 16 (by decide) (by decide)
  have b17 := hg 17 (by decide) (by decide)
  have hL : ∀ (n : Nat) (i : Nat) (g2 : Nat → Nat → Int32), i ≤ a 0 → a 0 - i < n → Sx g g2 → fbF a b plan i = -1000000003 → J p l e (Rm 3) s m args below meth c 0 0 D cI cZ cQ ad np A 3 Q x g2 2 [some (.ref (ad 0)), some (.int plan), some (.int (nI i))] [] := by
    intro n
    induction n with
    | zero => intros; omega
    | succ n ih =>
      intro i g2 h1 h2 hS hv
      refine j_iload_n C dX3_firstBroken_2 rfl ?_
      refine j_aload_n C dX3_firstBroken_3 rfl ?_
      refine jg_X3_rowCount C dX3_firstBroken_4 n_X3_firstBroken_X3 (by decide +kernel) (Nat.lt_of_lt_of_le (by decide) hnp) ?_
      refine j_icmp_ge C 27 dX3_firstBroken_7 (by decide) (fun hc => ?_) (fun hc => ?_)
      · have he : i = a 0 := by have := (nI_leI (by omega) (by omega)).mp hc; omega
        subst he
        refine j_ldc (v := (-1000000003)) C dX3_firstBroken_27 (by decide +kernel) ?_
        exact HR _ _ _ _ _ _ rfl rfl dX3_firstBroken_29 ⟨_, rfl, hv.symm, rfl, hS⟩
      · have hlt : i < a 0 := by have := mt (nI_leI (by omega) (by omega)).mpr hc; omega
        have hfin : 0 < (wsF a b plan (nI i)).2.2 → nI i = fbF a b plan (a 0) := fun hp => by
          have h3 : fbF a b plan (i + 1) = nI i := by
            show (if fbF a b plan i = -1000000003 then _ else _) = _
            rw [if_pos hv, if_pos hp]
          have h4 := fbF_up (n := i + 1) (by rw [h3]; exact nI_none (by omega)) (a 0 - (i + 1))
          rw [show i + 1 + (a 0 - (i + 1)) = a 0 by omega] at h4
          rw [h4, h3]
        refine j_aload_n C dX3_firstBroken_10 rfl ?_
        refine j_iload_n C dX3_firstBroken_11 rfl ?_
        refine j_iload_n C dX3_firstBroken_12 rfl ?_
        refine jVi2 (ci := 3) C dX3_firstBroken_13 gX3_firstBroken_X3_findWorst rfl pd_X3_findWorst ⟨by decide, by decide⟩ (Nat.lt_of_lt_of_le (by decide) hnp) rfl rfl rfl (Nat.le_of_ble_eq_true rfl) (c_X3_findWorst hnp (hX.sx hS) hW) (fun rr x2 g2 hp => ?_)
        obtain ⟨rfl, rfl, hS2, -⟩ := hp
        have hS := hS.tr hS2
        refine j_if_le C 21 dX3_firstBroken_16 (by decide) (fun hc16 => ?_) (fun hc16 => ?_)
        · refine j_iincN (n := 1) C dX3_firstBroken_21 rfl (by decide) ?_
          refine j_goto C 2 dX3_firstBroken_24 (by decide) ?_
          refine ih (i + 1) _ (by omega) (by omega) hS ?_
          show (if fbF a b plan i = -1000000003 then _ else _) = _
          rw [if_pos hv, if_neg (Int32.not_lt.mpr hc16)]
        · refine j_iload_n C dX3_firstBroken_19 rfl ?_
          exact HR _ _ _ _ _ _ rfl rfl dX3_firstBroken_20 ⟨_, rfl, hfin (Int32.not_le.mp hc16), rfl, hS⟩
  refine j_iconst (v := 0) C dX3_firstBroken_0 rfl ?_
  refine j_istore_n C dX3_firstBroken_1 (by decide) ?_
  exact hL (a 0 + 1) 0 _ (by omega) (by omega) Sx.rf rfl
end
section
theorem pkF_le0 {f : Nat → Int32} {n : Nat} (h : f n ≤ 0) : pkF f (n + 1) = pkF f n := by
  refine pkF_old fun h2 => ?_
  cases hp : pkF f n with
  | none => rw [hp] at h2; exact Int32.not_lt.mpr h h2
  | some j =>
    rw [hp] at h2
    have h3 : 0 < f n := Int32.lt_trans (pkF_pos hp) h2
    exact Int32.not_lt.mpr h h3
theorem n_X4_findWorst_X4 : ∀ w ∈ wsX40, w ∈ wsX4_findWorst := by decide +kernel
set_option maxHeartbeats 4000000 in
set_option maxRecDepth 100000 in
theorem c_X4_findWorst {l : Launch} {D : va_G} {cI cZ cQ : ClassId} {ad : Nat → Nat} {np : Nat} {x : Nat → Nat} {g : Nat → Nat → Int32} (hnp : 41 ≤ np) {a : Nat → Nat} {b nu : Nat → Nat → Int32} (hM : RM x g a b nu) (hW : WF a b nu) {plan row : Int32} : Cn l D cI cZ cQ ad np 2 yX4_findWorst wsX4_findWorst [.ref (ad 27), .int plan, .int row] x g (ri (fun r x' g' => r = (wsF a b plan row).2.2 ∧ x' = x ∧ Sm g g' ∧ ∀ n, n < a 4 → g' 39 n = (wsF a b plan row).2.1 n)) := by
  refine cn_of (own := RX4) (by decide) rfl rfl (by simp [Value.category]) (Nat.le_of_ble_eq_true rfl) ?_
  intro p e s m args below meth c A Q C HR HV
  obtain ⟨⟨e0, e1, e2, e3, e4, e5, e6⟩, hg, hnu⟩ := id hM
  obtain ⟨⟨w0, ⟨w1, w1'⟩, w2, w3, w4, w5, w6⟩, wt, wn, wq⟩ := id hW
  have b9 : g 28 = b 9 := hg 9 (by decide) (by decide)
  have b10 : g 29 = b 10 := hg 10 (by decide) (by decide)
  have b11 : g 30 = b 11 := hg 11 (by decide) (by decide)
  have b12 : g 31 = b 12 := hg 12 (by decide) (by decide)
  have b13 : g 32 = b 13 := hg 13 (by decide) (by decide)
  have b14 : g 33 = b 14 := hg 14 (by decide) (by decide)
  have b15 : g 34 = b 15 := hg 15 (by decide) (by decide)
  have b16 : g 35 = b 16 := hg 16 (by decide) (by decide)
  have b17 : g 36 = b 17 := hg 17 (by decide) (by decide)
  have hL2 : ∀ (n : Nat) (k : Nat) (v : Int32) (g2 : Nat → Nat → Int32), k ≤ a 3 → a 3 - k < n → Sm g g2 → (∀ n, n < a 4 → g2 38 n = (grF (a 4) (upF b plan row (a 5)) (gaF b plan row (a 5), b 10, sumF b (b 10) plan row (a 5)) k).1 n) → (∀ n, n < a 4 → g2 39 n = (grF (a 4) (upF b plan row (a 5)) (gaF b plan row (a 5), b 10, sumF b (b 10) plan row (a 5)) k).2.1 n) → v = (grF (a 4) (upF b plan row (a 5)) (gaF b plan row (a 5), b 10, sumF b (b 10) plan row (a 5)) k).2.2 → J p l e (Rm 2) s m args below meth c 0 0 D cI cZ cQ ad np A 7 Q x g2 152 [some (.ref (ad 27)), some (.int plan), some (.int row), some (.int v), some (.int (nI k)), none, none] [] := by
    intro n
    induction n with
    | zero => intros; omega
    | succ n ih =>
      intro k v g2 h1 h2 hS h7 h8 hv
      have iho := ih
      refine j_iload C dX4_findWorst_152 rfl ?_
      refine j_aload_n C dX4_findWorst_154 rfl ?_
      refine jg_X4_budget C dX4_findWorst_155 n_X4_findWorst_X4 (by decide +kernel) (Nat.lt_of_lt_of_le (by decide) hnp) ?_
      refine j_icmp_ge C 287 dX4_findWorst_158 (by decide) (fun hc => ?_) (fun hc => ?_)
      · have he : k = a 3 := by have := (nI_leI (by omega) (by omega)).mp hc; omega
        subst he
        refine j_iload_n C dX4_findWorst_287 rfl ?_
        exact HR _ _ _ _ _ _ rfl rfl dX4_findWorst_288 ⟨_, rfl, hv, rfl, hS, h8⟩
      · have hlt : k < a 3 := by have := mt (nI_leI (by omega) (by omega)).mpr hc; omega
        have hM2 := hM.sm hS
        have c9 : g2 28 = b 9 := hM2.2.1 9 (by decide) (by decide)
        have c10 : g2 29 = b 10 := hM2.2.1 10 (by decide) (by decide)
        have c11 : g2 30 = b 11 := hM2.2.1 11 (by decide) (by decide)
        have c12 : g2 31 = b 12 := hM2.2.1 12 (by decide) (by decide)
        have c13 : g2 32 = b 13 := hM2.2.1 13 (by decide) (by decide)
        have c14 : g2 33 = b 14 := hM2.2.1 14 (by decide) (by decide)
        have c15 : g2 34 = b 15 := hM2.2.1 15 (by decide) (by decide)
        have hLi : ∀ (n : Nat) (i : Nat) (v5 : Int32), i ≤ a 4 → a 4 - i < n → v5 = pkM (pkF (g2 38) i) → J p l e (Rm 2) s m args below meth c 0 0 D cI cZ cQ ad np A 7 Q x g2 167 [some (.ref (ad 27)), some (.int plan), some (.int row), some (.int v), some (.int (nI k)), some (.int v5), some (.int (nI i))] [] := by
          intro n
          induction n with
          | zero => intros; omega
          | succ n ih =>
            intro i v5 h3 h4 hv5
            refine j_iload C dX4_findWorst_167 rfl ?_
            refine j_aload_n C dX4_findWorst_169 rfl ?_
            refine jg_X4_names C dX4_findWorst_170 n_X4_findWorst_X4 (by decide +kernel) (Nat.lt_of_lt_of_le (by decide) hnp) ?_
            refine j_icmp_ge C 223 dX4_findWorst_173 (by decide) (fun hc => ?_) (fun hc => ?_)
            · have he : i = a 4 := by have := (nI_leI (by omega) (by omega)).mp hc; omega
              subst he
              refine j_iload C dX4_findWorst_223 rfl ?_
              refine j_if_lt C 281 dX4_findWorst_225 (by decide) (fun hc225 => ?_) (fun hc225 => ?_)
              · have hpn : pkF (g2 38) (a 4) = none := by
                  cases hpk : pkF (g2 38) (a 4) with
                  | none => rfl
                  | some j => rw [hv5, hpk] at hc225; exact absurd hc225 (nI_pos (by have := pkF_lt hpk; omega))
                refine j_iincN (n := 1) C dX4_findWorst_281 rfl (by decide) ?_
                refine j_goto C 152 dX4_findWorst_284 (by decide) ?_
                first
                | (have hpn2 : pkF (grF (a 4) (upF b plan row (a 5)) (gaF b plan row (a 5), b 10, sumF b (b 10) plan row (a 5)) k).1 (a 4) = none := by rw [← hpn]; exact (pkF_congr (fun n hn => h7 n hn)).symm
                   have hgs : grF (a 4) (upF b plan row (a 5)) (gaF b plan row (a 5), b 10, sumF b (b 10) plan row (a 5)) (k + 1) = (grF (a 4) (upF b plan row (a 5)) (gaF b plan row (a 5), b 10, sumF b (b 10) plan row (a 5)) k) := by
                     show gsF _ _ _ = _
                     unfold gsF
                     rw [hpn2]
                   refine j_drop 5 ?_
                   refine j_drop 6 ?_
                   exact iho (k + 1) _ _ (by omega) (by omega) hS (by rw [hgs]; exact h7) (by rw [hgs]; exact h8) (by rw [hgs]; exact hv))
                | (have hpk2 : pkF (grF (a 4) (upF b plan row (a 5)) (gaF b plan row (a 5), b 10, sumF b (b 10) plan row (a 5)) k).1 (a 4) = some j := by rw [← hpj]; exact (pkF_congr (fun n hn => h7 n hn)).symm
                   have hgs : grF (a 4) (upF b plan row (a 5)) (gaF b plan row (a 5), b 10, sumF b (b 10) plan row (a 5)) (k + 1) = (upd (grF (a 4) (upF b plan row (a 5)) (gaF b plan row (a 5), b 10, sumF b (b 10) plan row (a 5)) k).1 j 0, upd (grF (a 4) (upF b plan row (a 5)) (gaF b plan row (a 5), b 10, sumF b (b 10) plan row (a 5)) k).2.1 j (upF b plan row (a 5) j), (grF (a 4) (upF b plan row (a 5)) (gaF b plan row (a 5), b 10, sumF b (b 10) plan row (a 5)) k).2.2 + (grF (a 4) (upF b plan row (a 5)) (gaF b plan row (a 5), b 10, sumF b (b 10) plan row (a 5)) k).1 j) := by
                     show gsF _ _ _ = _
                     unfold gsF
                     rw [hpk2]
                   refine j_drop 5 ?_
                   refine j_drop 6 ?_
                   refine iho (k + 1) _ _ (by omega) (by omega) ((hS.up ⟨by decide, by decide⟩).up ⟨by decide, by decide⟩) (fun n hn => ?_) (fun n hn => ?_) ?_
                   · rw [va_un _ 39 38 _ (by decide), va_us, hgs]
                     simp only [upd]
                     rw [h7 n hn]
                   · rw [va_us, va_un _ 38 39 _ (by decide), hgs]
                     simp only [upd]
                     rw [h8 n hn]
                     by_cases hnj : n = j
                     · rw [if_pos hnj, if_pos hnj]
                       unfold upF
                       first
                       | rw [if_pos (of_decide_eq_true (bI_n0.mp hc260))]
                       | rw [if_neg (of_decide_eq_false (bI_0.mp hc260))]
                     · rw [if_neg hnj, if_neg hnj]
                   · rw [hgs, hv, h7 j (by omega)])
              · obtain ⟨j, hpj⟩ : ∃ j, pkF (g2 38) (a 4) = some j := by
                  cases hpk : pkF (g2 38) (a 4) with
                  | none => rw [hv5, hpk] at hc225; exact absurd (by decide) hc225
                  | some j => exact ⟨j, rfl⟩
                have hjl := pkF_lt hpj
                have hv6 : v5 = nI j := by rw [hv5, hpj]; rfl
                subst hv6
                refine j_iload_n C dX4_findWorst_228 rfl ?_
                refine j_aload_n C dX4_findWorst_229 rfl ?_
                refine jg_X4_gain C dX4_findWorst_230 n_X4_findWorst_X4 (by decide +kernel) (Nat.lt_of_lt_of_le (by decide) hnp) ?_
                refine j_iload C dX4_findWorst_233 rfl ?_
                refine j_iald C j dX4_findWorst_235 (Nat.lt_of_lt_of_le (by decide) hnp) rfl rfl (show _ < 12 by omega) ?_
                refine j_iadd C dX4_findWorst_236 ?_
                refine j_istore_n C dX4_findWorst_237 (by decide) ?_
                refine j_aload_n C dX4_findWorst_238 rfl ?_
                refine jg_X4_gain C dX4_findWorst_239 n_X4_findWorst_X4 (by decide +kernel) (Nat.lt_of_lt_of_le (by decide) hnp) ?_
                refine j_iload C dX4_findWorst_242 rfl ?_
                refine j_iconst (v := 0) C dX4_findWorst_244 rfl ?_
                refine j_iast C j dX4_findWorst_245 (Nat.lt_of_lt_of_le (by decide) hnp) rfl rfl (show _ < 12 by omega) ?_
                refine j_aload_n C dX4_findWorst_246 rfl ?_
                refine jg_X4_worstOf C dX4_findWorst_247 n_X4_findWorst_X4 (by decide +kernel) (Nat.lt_of_lt_of_le (by decide) hnp) ?_
                refine j_iload C dX4_findWorst_250 rfl ?_
                refine j_aload_n C dX4_findWorst_252 rfl ?_
                refine j_iload_n C dX4_findWorst_253 rfl ?_
                refine j_iload_n C dX4_findWorst_254 rfl ?_
                refine j_iload C dX4_findWorst_255 rfl ?_
                refine jVp3 (ci := 4) C dX4_findWorst_257 gX4_findWorst_X4_isUp rfl pd_X4_isUp ⟨by decide, by decide⟩ (Nat.lt_of_lt_of_le (by decide) hnp) rfl rfl rfl (Nat.le_of_ble_eq_true rfl) (c_X4_isUp hnp (hM.sm (hS.up ⟨by decide, by decide⟩)) hW) ?_
                refine j_if_eq C 273 dX4_findWorst_260 (by decide) (fun hc260 => ?_) (fun hc260 => ?_)
                · refine j_aload_n C dX4_findWorst_273 rfl ?_
                  refine jg_X4_least C dX4_findWorst_274 n_X4_findWorst_X4 (by decide +kernel) (Nat.lt_of_lt_of_le (by decide) hnp) ?_
                  refine j_iload C dX4_findWorst_277 rfl ?_
                  refine j_iald C j dX4_findWorst_279 (Nat.lt_of_lt_of_le (by decide) hnp) rfl rfl (show _ < 12 by omega) ?_
                  rw [va_un _ 38 28 _ (by decide), c9]
                  refine j_iast C j dX4_findWorst_280 (Nat.lt_of_lt_of_le (by decide) hnp) rfl rfl (show _ < 12 by omega) ?_
                  refine j_iincN (n := 1) C dX4_findWorst_281 rfl (by decide) ?_
                  refine j_goto C 152 dX4_findWorst_284 (by decide) ?_
                  first
                  | (have hpn2 : pkF (grF (a 4) (upF b plan row (a 5)) (gaF b plan row (a 5), b 10, sumF b (b 10) plan row (a 5)) k).1 (a 4) = none := by rw [← hpn]; exact (pkF_congr (fun n hn => h7 n hn)).symm
                     have hgs : grF (a 4) (upF b plan row (a 5)) (gaF b plan row (a 5), b 10, sumF b (b 10) plan row (a 5)) (k + 1) = (grF (a 4) (upF b plan row (a 5)) (gaF b plan row (a 5), b 10, sumF b (b 10) plan row (a 5)) k) := by
                       show gsF _ _ _ = _
                       unfold gsF
                       rw [hpn2]
                     refine j_drop 5 ?_
                     refine j_drop 6 ?_
                     exact iho (k + 1) _ _ (by omega) (by omega) hS (by rw [hgs]; exact h7) (by rw [hgs]; exact h8) (by rw [hgs]; exact hv))
                  | (have hpk2 : pkF (grF (a 4) (upF b plan row (a 5)) (gaF b plan row (a 5), b 10, sumF b (b 10) plan row (a 5)) k).1 (a 4) = some j := by rw [← hpj]; exact (pkF_congr (fun n hn => h7 n hn)).symm
                     have hgs : grF (a 4) (upF b plan row (a 5)) (gaF b plan row (a 5), b 10, sumF b (b 10) plan row (a 5)) (k + 1) = (upd (grF (a 4) (upF b plan row (a 5)) (gaF b plan row (a 5), b 10, sumF b (b 10) plan row (a 5)) k).1 j 0, upd (grF (a 4) (upF b plan row (a 5)) (gaF b plan row (a 5), b 10, sumF b (b 10) plan row (a 5)) k).2.1 j (upF b plan row (a 5) j), (grF (a 4) (upF b plan row (a 5)) (gaF b plan row (a 5), b 10, sumF b (b 10) plan row (a 5)) k).2.2 + (grF (a 4) (upF b plan row (a 5)) (gaF b plan row (a 5), b 10, sumF b (b 10) plan row (a 5)) k).1 j) := by
                       show gsF _ _ _ = _
                       unfold gsF
                       rw [hpk2]
                     refine j_drop 5 ?_
                     refine j_drop 6 ?_
                     refine iho (k + 1) _ _ (by omega) (by omega) ((hS.up ⟨by decide, by decide⟩).up ⟨by decide, by decide⟩) (fun n hn => ?_) (fun n hn => ?_) ?_
                     · rw [va_un _ 39 38 _ (by decide), va_us, hgs]
                       simp only [upd]
                       rw [h7 n hn]
                     · rw [va_us, va_un _ 38 39 _ (by decide), hgs]
                       simp only [upd]
                       rw [h8 n hn]
                       by_cases hnj : n = j
                       · rw [if_pos hnj, if_pos hnj]
                         unfold upF
                         first
                         | rw [if_pos (of_decide_eq_true (bI_n0.mp hc260))]
                         | rw [if_neg (of_decide_eq_false (bI_0.mp hc260))]
                       · rw [if_neg hnj, if_neg hnj]
                     · rw [hgs, hv, h7 j (by omega)])
                · refine j_aload_n C dX4_findWorst_263 rfl ?_
                  refine jg_X4_greatest C dX4_findWorst_264 n_X4_findWorst_X4 (by decide +kernel) (Nat.lt_of_lt_of_le (by decide) hnp) ?_
                  refine j_iload C dX4_findWorst_267 rfl ?_
                  refine j_iald C j dX4_findWorst_269 (Nat.lt_of_lt_of_le (by decide) hnp) rfl rfl (show _ < 12 by omega) ?_
                  rw [va_un _ 38 30 _ (by decide), c11]
                  refine j_goto C 280 dX4_findWorst_270 (by decide) ?_
                  refine j_iast C j dX4_findWorst_280 (Nat.lt_of_lt_of_le (by decide) hnp) rfl rfl (show _ < 12 by omega) ?_
                  refine j_iincN (n := 1) C dX4_findWorst_281 rfl (by decide) ?_
                  refine j_goto C 152 dX4_findWorst_284 (by decide) ?_
                  first
                  | (have hpn2 : pkF (grF (a 4) (upF b plan row (a 5)) (gaF b plan row (a 5), b 10, sumF b (b 10) plan row (a 5)) k).1 (a 4) = none := by rw [← hpn]; exact (pkF_congr (fun n hn => h7 n hn)).symm
                     have hgs : grF (a 4) (upF b plan row (a 5)) (gaF b plan row (a 5), b 10, sumF b (b 10) plan row (a 5)) (k + 1) = (grF (a 4) (upF b plan row (a 5)) (gaF b plan row (a 5), b 10, sumF b (b 10) plan row (a 5)) k) := by
                       show gsF _ _ _ = _
                       unfold gsF
                       rw [hpn2]
                     refine j_drop 5 ?_
                     refine j_drop 6 ?_
                     exact iho (k + 1) _ _ (by omega) (by omega) hS (by rw [hgs]; exact h7) (by rw [hgs]; exact h8) (by rw [hgs]; exact hv))
                  | (have hpk2 : pkF (grF (a 4) (upF b plan row (a 5)) (gaF b plan row (a 5), b 10, sumF b (b 10) plan row (a 5)) k).1 (a 4) = some j := by rw [← hpj]; exact (pkF_congr (fun n hn => h7 n hn)).symm
                     have hgs : grF (a 4) (upF b plan row (a 5)) (gaF b plan row (a 5), b 10, sumF b (b 10) plan row (a 5)) (k + 1) = (upd (grF (a 4) (upF b plan row (a 5)) (gaF b plan row (a 5), b 10, sumF b (b 10) plan row (a 5)) k).1 j 0, upd (grF (a 4) (upF b plan row (a 5)) (gaF b plan row (a 5), b 10, sumF b (b 10) plan row (a 5)) k).2.1 j (upF b plan row (a 5) j), (grF (a 4) (upF b plan row (a 5)) (gaF b plan row (a 5), b 10, sumF b (b 10) plan row (a 5)) k).2.2 + (grF (a 4) (upF b plan row (a 5)) (gaF b plan row (a 5), b 10, sumF b (b 10) plan row (a 5)) k).1 j) := by
                       show gsF _ _ _ = _
                       unfold gsF
                       rw [hpk2]
                     refine j_drop 5 ?_
                     refine j_drop 6 ?_
                     refine iho (k + 1) _ _ (by omega) (by omega) ((hS.up ⟨by decide, by decide⟩).up ⟨by decide, by decide⟩) (fun n hn => ?_) (fun n hn => ?_) ?_
                     · rw [va_un _ 39 38 _ (by decide), va_us, hgs]
                       simp only [upd]
                       rw [h7 n hn]
                     · rw [va_us, va_un _ 38 39 _ (by decide), hgs]
                       simp only [upd]
                       rw [h8 n hn]
                       by_cases hnj : n = j
                       · rw [if_pos hnj, if_pos hnj]
                         unfold upF
                         first
                         | rw [if_pos (of_decide_eq_true (bI_n0.mp hc260))]
                         | rw [if_neg (of_decide_eq_false (bI_0.mp hc260))]
                       · rw [if_neg hnj, if_neg hnj]
                     · rw [hgs, hv, h7 j (by omega)])
            · have hlt : i < a 4 := by have := mt (nI_leI (by omega) (by omega)).mpr hc; omega
              refine j_aload_n C dX4_findWorst_176 rfl ?_
              refine jg_X4_gain C dX4_findWorst_177 n_X4_findWorst_X4 (by decide +kernel) (Nat.lt_of_lt_of_le (by decide) hnp) ?_
              refine j_iload C dX4_findWorst_180 rfl ?_
              refine j_iald C i dX4_findWorst_182 (Nat.lt_of_lt_of_le (by decide) hnp) rfl rfl (show _ < 12 by omega) ?_
              refine j_if_le C 213 dX4_findWorst_183 (by decide) (fun hc183 => ?_) (fun hc183 => ?_)
              · refine j_iload C dX4_findWorst_213 rfl ?_
                refine j_istore C dX4_findWorst_215 (by decide) ?_
                refine j_iincN (n := 1) C dX4_findWorst_217 rfl (by decide) ?_
                refine j_goto C 167 dX4_findWorst_220 (by decide) ?_
                first
                | exact ih (i + 1) _ (by omega) (by omega) (by rw [pkF_le0 hc183]; exact hv5)
                | exact ih (i + 1) _ (by omega) (by omega) (by rw [pkF_new (by rw [hpn]; exact Int32.not_le.mp hc183)]; rfl)
                | exact ih (i + 1) _ (by omega) (by omega) (by rw [pkF_new (by rw [hpj]; exact Int32.not_le.mp hc205)]; rfl)
                | exact ih (i + 1) _ (by omega) (by omega) (by rw [pkF_old (by rw [hpj]; exact Int32.not_lt.mpr hc205)]; exact hv5)
              · refine j_iload C dX4_findWorst_186 rfl ?_
                refine j_if_lt C 208 dX4_findWorst_188 (by decide) (fun hc188 => ?_) (fun hc188 => ?_)
                · have hpn : pkF (g2 38) i = none := by
                    cases hpk : pkF (g2 38) i with
                    | none => rfl
                    | some j => rw [hv5, hpk] at hc188; exact absurd hc188 (nI_pos (by have := pkF_lt hpk; omega))
                  refine j_iload C dX4_findWorst_208 rfl ?_
                  refine j_goto C 215 dX4_findWorst_210 (by decide) ?_
                  refine j_istore C dX4_findWorst_215 (by decide) ?_
                  refine j_iincN (n := 1) C dX4_findWorst_217 rfl (by decide) ?_
                  refine j_goto C 167 dX4_findWorst_220 (by decide) ?_
                  first
                  | exact ih (i + 1) _ (by omega) (by omega) (by rw [pkF_le0 hc183]; exact hv5)
                  | exact ih (i + 1) _ (by omega) (by omega) (by rw [pkF_new (by rw [hpn]; exact Int32.not_le.mp hc183)]; rfl)
                  | exact ih (i + 1) _ (by omega) (by omega) (by rw [pkF_new (by rw [hpj]; exact Int32.not_le.mp hc205)]; rfl)
                  | exact ih (i + 1) _ (by omega) (by omega) (by rw [pkF_old (by rw [hpj]; exact Int32.not_lt.mpr hc205)]; exact hv5)
                · obtain ⟨j, hpj⟩ : ∃ j, pkF (g2 38) i = some j := by
                    cases hpk : pkF (g2 38) i with
                    | none => rw [hv5, hpk] at hc188; exact absurd (by decide) hc188
                    | some j => exact ⟨j, rfl⟩
                  have hjl := pkF_lt hpj
                  refine j_aload_n C dX4_findWorst_191 rfl ?_
                  refine jg_X4_gain C dX4_findWorst_192 n_X4_findWorst_X4 (by decide +kernel) (Nat.lt_of_lt_of_le (by decide) hnp) ?_
                  refine j_iload C dX4_findWorst_195 rfl ?_
                  refine j_iald C i dX4_findWorst_197 (Nat.lt_of_lt_of_le (by decide) hnp) rfl rfl (show _ < 12 by omega) ?_
                  refine j_aload_n C dX4_findWorst_198 rfl ?_
                  refine jg_X4_gain C dX4_findWorst_199 n_X4_findWorst_X4 (by decide +kernel) (Nat.lt_of_lt_of_le (by decide) hnp) ?_
                  refine j_iload C dX4_findWorst_202 rfl ?_
                  refine j_iald C j dX4_findWorst_204 (Nat.lt_of_lt_of_le (by decide) hnp) rfl (by rw [hv5, hpj]; rfl) (show _ < 12 by omega) ?_
                  refine j_icmp_le C 213 dX4_findWorst_205 (by decide) (fun hc205 => ?_) (fun hc205 => ?_)
                  · refine j_iload C dX4_findWorst_213 rfl ?_
                    refine j_istore C dX4_findWorst_215 (by decide) ?_
                    refine j_iincN (n := 1) C dX4_findWorst_217 rfl (by decide) ?_
                    refine j_goto C 167 dX4_findWorst_220 (by decide) ?_
                    first
                    | exact ih (i + 1) _ (by omega) (by omega) (by rw [pkF_le0 hc183]; exact hv5)
                    | exact ih (i + 1) _ (by omega) (by omega) (by rw [pkF_new (by rw [hpn]; exact Int32.not_le.mp hc183)]; rfl)
                    | exact ih (i + 1) _ (by omega) (by omega) (by rw [pkF_new (by rw [hpj]; exact Int32.not_le.mp hc205)]; rfl)
                    | exact ih (i + 1) _ (by omega) (by omega) (by rw [pkF_old (by rw [hpj]; exact Int32.not_lt.mpr hc205)]; exact hv5)
                  · refine j_iload C dX4_findWorst_208 rfl ?_
                    refine j_goto C 215 dX4_findWorst_210 (by decide) ?_
                    refine j_istore C dX4_findWorst_215 (by decide) ?_
                    refine j_iincN (n := 1) C dX4_findWorst_217 rfl (by decide) ?_
                    refine j_goto C 167 dX4_findWorst_220 (by decide) ?_
                    first
                    | exact ih (i + 1) _ (by omega) (by omega) (by rw [pkF_le0 hc183]; exact hv5)
                    | exact ih (i + 1) _ (by omega) (by omega) (by rw [pkF_new (by rw [hpn]; exact Int32.not_le.mp hc183)]; rfl)
                    | exact ih (i + 1) _ (by omega) (by omega) (by rw [pkF_new (by rw [hpj]; exact Int32.not_le.mp hc205)]; rfl)
                    | exact ih (i + 1) _ (by omega) (by omega) (by rw [pkF_old (by rw [hpj]; exact Int32.not_lt.mpr hc205)]; exact hv5)
        refine j_iconst (v := (-1)) C dX4_findWorst_161 rfl ?_
        refine j_istore C dX4_findWorst_162 (by decide) ?_
        refine j_iconst (v := 0) C dX4_findWorst_164 rfl ?_
        refine j_istore C dX4_findWorst_165 (by decide) ?_
        exact hLi (a 4 + 1) 0 _ (by omega) (by omega) rfl
  have hL1 : ∀ (n : Nat) (i : Nat) (g2 : Nat → Nat → Int32), i ≤ a 4 → a 4 - i < n → Sm g g2 → (∀ n, n < i → g2 38 n = gaF b plan row (a 5) n) → (∀ n, n < i → g2 39 n = b 10 n) → J p l e (Rm 2) s m args below meth c 0 0 D cI cZ cQ ad np A 7 Q x g2 2 [some (.ref (ad 27)), some (.int plan), some (.int row), some (.int (nI i)), none, none, none] [] := by
    intro n
    induction n with
    | zero => intros; omega
    | succ n ih =>
      intro i g2 h1 h2 hS h7 h8
      have iho := ih
      refine j_iload_n C dX4_findWorst_2 rfl ?_
      refine j_aload_n C dX4_findWorst_3 rfl ?_
      refine jg_X4_names C dX4_findWorst_4 n_X4_findWorst_X4 (by decide +kernel) (Nat.lt_of_lt_of_le (by decide) hnp) ?_
      refine j_icmp_ge C 141 dX4_findWorst_7 (by decide) (fun hc => ?_) (fun hc => ?_)
      · have he : i = a 4 := by have := (nI_leI (by omega) (by omega)).mp hc; omega
        subst he
        refine j_aload_n C dX4_findWorst_141 rfl ?_
        refine j_iload_n C dX4_findWorst_142 rfl ?_
        refine j_iload_n C dX4_findWorst_143 rfl ?_
        refine j_iconst (v := (-1)) C dX4_findWorst_144 rfl ?_
        refine jVp3 (ci := 4) C dX4_findWorst_145 gX4_findWorst_X4_sum rfl pd_X4_sum ⟨by decide, by decide⟩ (Nat.lt_of_lt_of_le (by decide) hnp) rfl rfl rfl (Nat.le_of_ble_eq_true rfl) (c_X4_sum (num := b 10) hnp (hM.sm hS) hW (Or.inl ⟨by decide, rfl⟩)) ?_
        refine j_istore_n C dX4_findWorst_148 (by decide) ?_
        refine j_iconst (v := 0) C dX4_findWorst_149 rfl ?_
        refine j_istore C dX4_findWorst_150 (by decide) ?_
        refine j_drop 5 ?_
        refine j_drop 6 ?_
        exact hL2 (a 3 + 1) 0 _ _ (by omega) (by omega) hS h7 h8 rfl
      · have hlt : i < a 4 := by have := mt (nI_leI (by omega) (by omega)).mpr hc; omega
        have hM2 := hM.sm hS
        have c9 : g2 28 = b 9 := hM2.2.1 9 (by decide) (by decide)
        have c10 : g2 29 = b 10 := hM2.2.1 10 (by decide) (by decide)
        have c11 : g2 30 = b 11 := hM2.2.1 11 (by decide) (by decide)
        have c12 : g2 31 = b 12 := hM2.2.1 12 (by decide) (by decide)
        have c13 : g2 32 = b 13 := hM2.2.1 13 (by decide) (by decide)
        have c14 : g2 33 = b 14 := hM2.2.1 14 (by decide) (by decide)
        have c15 : g2 34 = b 15 := hM2.2.1 15 (by decide) (by decide)
        have hLi : ∀ (n : Nat) (t : Nat) (ac : Int32), t ≤ a 5 → a 5 - t < n → ac = wF b plan row i t → J p l e (Rm 2) s m args below meth c 0 0 D cI cZ cQ ad np A 7 Q x g2 16 [some (.ref (ad 27)), some (.int plan), some (.int row), some (.int (nI i)), some (.int ac), some (.int (nI t)), none] [] := by
          intro n
          induction n with
          | zero => intros; omega
          | succ n ih =>
            intro t ac h3 h4 hac
            refine j_iload C dX4_findWorst_16 rfl ?_
            refine j_aload_n C dX4_findWorst_18 rfl ?_
            refine jg_X4_terms C dX4_findWorst_19 n_X4_findWorst_X4 (by decide +kernel) (Nat.lt_of_lt_of_le (by decide) hnp) ?_
            refine j_icmp_ge C 69 dX4_findWorst_22 (by decide) (fun hc => ?_) (fun hc => ?_)
            · have he : t = a 5 := by have := (nI_leI (by omega) (by omega)).mp hc; omega
              subst he
              have hM3 : ∀ (v : Int32), ac * (v - b 10 i) = gaF b plan row (a 5) i → J p l e (Rm 2) s m args below meth c 0 0 D cI cZ cQ ad np A 7 Q x g2 103 [some (.ref (ad 27)), some (.int plan), some (.int row), some (.int (nI i)), some (.int ac), none, none] [.int v] := by
                intro v hv
                refine j_istore C dX4_findWorst_103 (by decide) ?_
                refine j_aload_n C dX4_findWorst_105 rfl ?_
                refine jg_X4_gain C dX4_findWorst_106 n_X4_findWorst_X4 (by decide +kernel) (Nat.lt_of_lt_of_le (by decide) hnp) ?_
                refine j_iload_n C dX4_findWorst_109 rfl ?_
                refine j_iload C dX4_findWorst_110 rfl ?_
                refine j_iload C dX4_findWorst_112 rfl ?_
                refine j_aload_n C dX4_findWorst_114 rfl ?_
                refine jg_X4_usual C dX4_findWorst_115 n_X4_findWorst_X4 (by decide +kernel) (Nat.lt_of_lt_of_le (by decide) hnp) ?_
                refine j_iload_n C dX4_findWorst_118 rfl ?_
                refine j_iald C i dX4_findWorst_119 (Nat.lt_of_lt_of_le (by decide) hnp) rfl rfl (show _ < 12 by omega) ?_
                rw [c10]
                refine j_isub C dX4_findWorst_120 ?_
                refine j_imul C dX4_findWorst_121 ?_
                refine j_iast C i dX4_findWorst_122 (Nat.lt_of_lt_of_le (by decide) hnp) rfl rfl (show _ < 12 by omega) ?_
                refine j_aload_n C dX4_findWorst_123 rfl ?_
                refine jg_X4_worstOf C dX4_findWorst_124 n_X4_findWorst_X4 (by decide +kernel) (Nat.lt_of_lt_of_le (by decide) hnp) ?_
                refine j_iload_n C dX4_findWorst_127 rfl ?_
                refine j_aload_n C dX4_findWorst_128 rfl ?_
                refine jg_X4_usual C dX4_findWorst_129 n_X4_findWorst_X4 (by decide +kernel) (Nat.lt_of_lt_of_le (by decide) hnp) ?_
                refine j_iload_n C dX4_findWorst_132 rfl ?_
                refine j_iald C i dX4_findWorst_133 (Nat.lt_of_lt_of_le (by decide) hnp) rfl rfl (show _ < 12 by omega) ?_
                rw [va_un _ 38 29 _ (by decide), c10]
                refine j_iast C i dX4_findWorst_134 (Nat.lt_of_lt_of_le (by decide) hnp) rfl rfl (show _ < 12 by omega) ?_
                refine j_iincN (n := 1) C dX4_findWorst_135 rfl (by decide) ?_
                refine j_goto C 2 dX4_findWorst_138 (by decide) ?_
                refine j_drop 4 ?_
                refine j_drop 5 ?_
                refine iho (i + 1) _ (by omega) (by omega) ((hS.up ⟨by decide, by decide⟩).up ⟨by decide, by decide⟩) (fun n hn => ?_) (fun n hn => ?_)
                · rw [va_un _ 39 38 _ (by decide), va_us]
                  simp only [upd]
                  by_cases hni : n = i
                  · subst hni; rw [if_pos rfl]; exact hv
                  · rw [if_neg hni]; exact h7 n (by omega)
                · rw [va_us, va_un _ 38 39 _ (by decide)]
                  simp only [upd]
                  by_cases hni : n = i
                  · subst hni; rw [if_pos rfl]
                  · rw [if_neg hni]; exact h8 n (by omega)
              refine j_iload C dX4_findWorst_69 rfl ?_
              refine j_if_le C 83 dX4_findWorst_71 (by decide) (fun hc71 => ?_) (fun hc71 => ?_)
              · refine j_iload C dX4_findWorst_83 rfl ?_
                refine j_if_ge C 97 dX4_findWorst_85 (by decide) (fun hc85 => ?_) (fun hc85 => ?_)
                · refine j_aload_n C dX4_findWorst_97 rfl ?_
                  refine jg_X4_usual C dX4_findWorst_98 n_X4_findWorst_X4 (by decide +kernel) (Nat.lt_of_lt_of_le (by decide) hnp) ?_
                  refine j_iload_n C dX4_findWorst_101 rfl ?_
                  refine j_iald C i dX4_findWorst_102 (Nat.lt_of_lt_of_le (by decide) hnp) rfl rfl (show _ < 12 by omega) ?_
                  rw [c10]
                  subst hac
                  refine j_drop 5 ?_
                  exact hM3 _ (gaM (fun h => by first | rfl | exact absurd h (Int32.not_lt.mpr hc71)) (fun h1 h2 => by first | rfl | exact absurd h2 (Int32.not_lt.mpr hc85) | exact absurd (Int32.not_le.mp hc71) h1) (fun h1 h2 => by first | rfl | exact absurd (Int32.not_le.mp hc85) h2 | exact absurd (Int32.not_le.mp hc71) h1))
                · refine j_aload_n C dX4_findWorst_88 rfl ?_
                  refine jg_X4_least C dX4_findWorst_89 n_X4_findWorst_X4 (by decide +kernel) (Nat.lt_of_lt_of_le (by decide) hnp) ?_
                  refine j_iload_n C dX4_findWorst_92 rfl ?_
                  refine j_iald C i dX4_findWorst_93 (Nat.lt_of_lt_of_le (by decide) hnp) rfl rfl (show _ < 12 by omega) ?_
                  rw [c9]
                  refine j_goto C 103 dX4_findWorst_94 (by decide) ?_
                  subst hac
                  refine j_drop 5 ?_
                  exact hM3 _ (gaM (fun h => by first | rfl | exact absurd h (Int32.not_lt.mpr hc71)) (fun h1 h2 => by first | rfl | exact absurd h2 (Int32.not_lt.mpr hc85) | exact absurd (Int32.not_le.mp hc71) h1) (fun h1 h2 => by first | rfl | exact absurd (Int32.not_le.mp hc85) h2 | exact absurd (Int32.not_le.mp hc71) h1))
              · refine j_aload_n C dX4_findWorst_74 rfl ?_
                refine jg_X4_greatest C dX4_findWorst_75 n_X4_findWorst_X4 (by decide +kernel) (Nat.lt_of_lt_of_le (by decide) hnp) ?_
                refine j_iload_n C dX4_findWorst_78 rfl ?_
                refine j_iald C i dX4_findWorst_79 (Nat.lt_of_lt_of_le (by decide) hnp) rfl rfl (show _ < 12 by omega) ?_
                rw [c11]
                refine j_goto C 103 dX4_findWorst_80 (by decide) ?_
                subst hac
                refine j_drop 5 ?_
                exact hM3 _ (gaM (fun h => by first | rfl | exact absurd h (Int32.not_lt.mpr hc71)) (fun h1 h2 => by first | rfl | exact absurd h2 (Int32.not_lt.mpr hc85) | exact absurd (Int32.not_le.mp hc71) h1) (fun h1 h2 => by first | rfl | exact absurd (Int32.not_le.mp hc85) h2 | exact absurd (Int32.not_le.mp hc71) h1))
            · have hlt : t < a 5 := by have := mt (nI_leI (by omega) (by omega)).mpr hc; omega
              refine j_iload C dX4_findWorst_25 rfl ?_
              refine j_aload_n C dX4_findWorst_27 rfl ?_
              refine j_iload C dX4_findWorst_28 rfl ?_
              refine j_iload_n C dX4_findWorst_30 rfl ?_
              refine j_iload_n C dX4_findWorst_31 rfl ?_
              refine jVp3 (ci := 4) C dX4_findWorst_32 gX4_findWorst_X4_isOn rfl pd_X4_isOn ⟨by decide, by decide⟩ (Nat.lt_of_lt_of_le (by decide) hnp) rfl rfl rfl (Nat.le_of_ble_eq_true rfl) (c_X4_isOn hnp c12 c13 (by omega)) ?_
              refine j_if_eq C 59 dX4_findWorst_35 (by decide) (fun hc35 => ?_) (fun hc35 => ?_)
              · refine j_iconst (v := 0) C dX4_findWorst_59 rfl ?_
                refine j_iadd C dX4_findWorst_60 ?_
                refine j_istore C dX4_findWorst_61 (by decide) ?_
                refine j_iincN (n := 1) C dX4_findWorst_63 rfl (by decide) ?_
                refine j_goto C 16 dX4_findWorst_66 (by decide) ?_
                first
                | exact ih (t + 1) _ (by omega) (by omega) (by simp only [wF]; rw [bI_0.mp hc35, hac, Int32.add_zero]; rfl)
                | exact ih (t + 1) _ (by omega) (by omega) (by simp only [wF]; rw [bI_n0.mp hc35, decide_eq_true hc46, hac]; rfl)
                | exact ih (t + 1) _ (by omega) (by omega) (by simp only [wF]; rw [bI_n0.mp hc35, decide_eq_false hc46, hac, Int32.add_zero]; rfl)
              · refine j_aload_n C dX4_findWorst_38 rfl ?_
                refine jg_X4_termName C dX4_findWorst_39 n_X4_findWorst_X4 (by decide +kernel) (Nat.lt_of_lt_of_le (by decide) hnp) ?_
                refine j_iload C dX4_findWorst_42 rfl ?_
                refine j_iald C t dX4_findWorst_44 (Nat.lt_of_lt_of_le (by decide) hnp) rfl rfl (show _ < 40 by omega) ?_
                rw [c14]
                refine j_iload_n C dX4_findWorst_45 rfl ?_
                refine j_icmp_ne C 59 dX4_findWorst_46 (by decide) (fun hc46 => ?_) (fun hc46 => ?_)
                · refine j_iconst (v := 0) C dX4_findWorst_59 rfl ?_
                  refine j_iadd C dX4_findWorst_60 ?_
                  refine j_istore C dX4_findWorst_61 (by decide) ?_
                  refine j_iincN (n := 1) C dX4_findWorst_63 rfl (by decide) ?_
                  refine j_goto C 16 dX4_findWorst_66 (by decide) ?_
                  first
                  | exact ih (t + 1) _ (by omega) (by omega) (by simp only [wF]; rw [bI_0.mp hc35, hac, Int32.add_zero]; rfl)
                  | exact ih (t + 1) _ (by omega) (by omega) (by simp only [wF]; rw [bI_n0.mp hc35, decide_eq_true hc46, hac]; rfl)
                  | exact ih (t + 1) _ (by omega) (by omega) (by simp only [wF]; rw [bI_n0.mp hc35, decide_eq_false hc46, hac, Int32.add_zero]; rfl)
                · refine j_aload_n C dX4_findWorst_49 rfl ?_
                  refine jg_X4_termFactor C dX4_findWorst_50 n_X4_findWorst_X4 (by decide +kernel) (Nat.lt_of_lt_of_le (by decide) hnp) ?_
                  refine j_iload C dX4_findWorst_53 rfl ?_
                  refine j_iald C t dX4_findWorst_55 (Nat.lt_of_lt_of_le (by decide) hnp) rfl rfl (show _ < 40 by omega) ?_
                  rw [c15]
                  refine j_goto C 60 dX4_findWorst_56 (by decide) ?_
                  refine j_iadd C dX4_findWorst_60 ?_
                  refine j_istore C dX4_findWorst_61 (by decide) ?_
                  refine j_iincN (n := 1) C dX4_findWorst_63 rfl (by decide) ?_
                  refine j_goto C 16 dX4_findWorst_66 (by decide) ?_
                  first
                  | exact ih (t + 1) _ (by omega) (by omega) (by simp only [wF]; rw [bI_0.mp hc35, hac, Int32.add_zero]; rfl)
                  | exact ih (t + 1) _ (by omega) (by omega) (by simp only [wF]; rw [bI_n0.mp hc35, decide_eq_true hc46, hac]; rfl)
                  | exact ih (t + 1) _ (by omega) (by omega) (by simp only [wF]; rw [bI_n0.mp hc35, decide_eq_false hc46, hac, Int32.add_zero]; rfl)
        refine j_iconst (v := 0) C dX4_findWorst_10 rfl ?_
        refine j_istore C dX4_findWorst_11 (by decide) ?_
        refine j_iconst (v := 0) C dX4_findWorst_13 rfl ?_
        refine j_istore C dX4_findWorst_14 (by decide) ?_
        exact hLi (a 5 + 1) 0 _ (by omega) (by omega) rfl
  refine j_iconst (v := 0) C dX4_findWorst_0 rfl ?_
  refine j_istore_n C dX4_findWorst_1 (by decide) ?_
  exact hL1 (a 4 + 1) 0 _ (by omega) (by omega) Sm.rf (fun n hn => absurd hn (Nat.not_lt_zero n)) (fun n hn => absurd hn (Nat.not_lt_zero n))
end
section
/-- scratch of the sums alone -/
def S4 (g g' : Nat → Nat → Int32) : Prop := ∀ k, k ≠ 4 → g' k = g k
theorem S4.rf {g : Nat → Nat → Int32} : S4 g g := fun _ _ => rfl
theorem S4.tr {g g' g2 : Nat → Nat → Int32} (h : S4 g g') (h2 : S4 g' g2) : S4 g g2 := fun k hk => (h2 k hk).trans (h k hk)
theorem S4.sx {g g' : Nat → Nat → Int32} (h : S4 g g') : Sx g g' := fun k hk => h k (by omega)
theorem S4.up {g : Nat → Nat → Int32} {f : Nat → Int32} : S4 g (va_up g 4 f) := fun k hk => va_un g 4 k f hk
/-- whether the first n rows hold -/
def hoN (a : Nat → Nat) (b : Nat → Nat → Int32) (num : Nat → Int32) (plan : Int32) : Nat → Bool
  | 0 => true
  | r + 1 => hoN a b num plan r && !decide (0 < sumF b num plan (nI r) (a 5))
theorem hoN_f {a : Nat → Nat} {b : Nat → Nat → Int32} {num : Nat → Int32} {plan : Int32} {r : Nat} (h : 0 < sumF b num plan (nI r) (a 5)) : ∀ R, r < R → hoN a b num plan R = false := by
  intro R
  induction R with
  | zero => intro h; omega
  | succ R ih =>
    intro hr
    unfold hoN
    by_cases e : r = R
    · subst e; simp [h]
    · rw [ih (by omega)]; rfl
def hoF (a : Nat → Nat) (b nu : Nat → Nat → Int32) (plan : Int32) (i : Nat) : Bool := hoN a b (nu i) plan (a 0)
def coF (a : Nat → Nat) (b nu : Nat → Nat → Int32) (plan : Int32) (i : Nat) : Int32 := sumF b (nu i) plan (-1) (a 5)
theorem slot_s (r : Nat) : nI r - (-1) = nI (r + 1) := by rw [← slot_eq (r + 1), nI_pred]
/-- the best of the first s, by a key, of those that are fit: its value, its key -/
def selS (ok : Nat → Bool) (key val : Nat → Int32) : Nat → Int32 × Int32
  | 0 => (-1000000003, 0)
  | s + 1 => if ok s && (decide ((selS ok key val s).1 = -1000000003) || decide (key s < (selS ok key val s).2)) then (val s, key s) else selS ok key val s
theorem sel_t {ok : Nat → Bool} {key val : Nat → Int32} {s : Nat} {v v2 : Int32} (hq : selS ok key val s = (v, v2)) (hok : ok s = true) (h : v = -1000000003 ∨ key s < v2) : selS ok key val (s + 1) = (val s, key s) := by
  simp only [selS, hq, hok]
  rcases h with h | h <;> simp [h]
theorem sel_n {ok : Nat → Bool} {key val : Nat → Int32} {s : Nat} {v v2 : Int32} (hq : selS ok key val s = (v, v2)) (hok : ok s = false) : selS ok key val (s + 1) = (v, v2) := by
  simp only [selS, hq, hok]; rfl
theorem sel_f {ok : Nat → Bool} {key val : Nat → Int32} {s : Nat} {v v2 : Int32} (hq : selS ok key val s = (v, v2)) (h : ¬ v = -1000000003) (h2 : ¬ key s < v2) : selS ok key val (s + 1) = (v, v2) := by
  simp only [selS, hq, decide_eq_false h, decide_eq_false h2, Bool.or_false, Bool.and_false]; rfl
theorem sel_congr {ok ok' : Nat → Bool} {key key' val val' : Nat → Int32} : ∀ {n : Nat}, (∀ s, s < n → ok s = ok' s) → (∀ s, s < n → ok s = true → key s = key' s) → (∀ s, s < n → val s = val' s) → selS ok key val n = selS ok' key' val' n := by
  intro n
  induction n with
  | zero => intros; rfl
  | succ n ih =>
    intro h1 h2 h3
    have e := ih (fun s hs => h1 s (by omega)) (fun s hs => h2 s (by omega)) (fun s hs => h3 s (by omega))
    simp only [selS]
    rw [e, h3 n (by omega)]
    cases ho : ok n with
    | false => rw [← h1 n (by omega), ho]; rfl
    | true => rw [← h1 n (by omega), ho, h2 n (by omega) ho]
theorem sel_none {ok : Nat → Bool} {key val : Nat → Int32} : ∀ {n : Nat}, (∀ s, s < n → ok s = false) → selS ok key val n = (-1000000003, 0) := by
  intro n
  induction n with
  | zero => intros; rfl
  | succ n ih =>
    intro h
    exact sel_n (ih (fun s hs => h s (by omega))) (h n (by omega))
/-- the least key of those that are fit -/
def minS (ok : Nat → Bool) (key : Nat → Int32) : Nat → Int32
  | 0 => -1000000003
  | s + 1 => if ok s && (decide (minS ok key s = -1000000003) || decide (key s < minS ok key s)) then key s else minS ok key s
theorem min_t {ok : Nat → Bool} {key : Nat → Int32} {s : Nat} {v : Int32} (hq : minS ok key s = v) (hok : ok s = true) (h : v = -1000000003 ∨ key s < v) : minS ok key (s + 1) = key s := by
  simp only [minS, hq, hok]
  rcases h with h | h <;> simp [h]
theorem min_n {ok : Nat → Bool} {key : Nat → Int32} {s : Nat} {v : Int32} (hq : minS ok key s = v) (hok : ok s = false) : minS ok key (s + 1) = v := by
  simp only [minS, hq, hok]; rfl
theorem min_f {ok : Nat → Bool} {key : Nat → Int32} {s : Nat} {v : Int32} (hq : minS ok key s = v) (h : ¬ v = -1000000003) (h2 : ¬ key s < v) : minS ok key (s + 1) = v := by
  simp only [minS, hq, decide_eq_false h, decide_eq_false h2, Bool.or_false, Bool.and_false]; rfl
/-- the plan of a first part and the s-th second part -/
def plF (a : Nat → Nat) (first : Int32) (s : Nat) : Int32 := first ||| (nI s <<< (nI (a 1) &&& 31))
def ansF (a : Nat → Nat) (b nu : Nat → Nat → Int32) (first : Int32) (i : Nat) : Int32 := (selS (fun s => hoF a b nu (plF a first s) i) (fun s => coF a b nu (plF a first s) i) (plF a first) (2 ^ a 2)).1
/-- odds times costs of the answers, over the first n futures: none if one is wanting -/
def toS (a : Nat → Nat) (b nu : Nat → Nat → Int32) (first : Int32) : Nat → Option Int32
  | 0 => some 0
  | i + 1 => match toS a b nu first i with
    | none => none
    | some v => if b 17 i = 0 then (if ansF a b nu first i = -1000000003 then none else some (v + b 16 i * coF a b nu (ansF a b nu first i) i)) else some v
theorem toS_k {a : Nat → Nat} {b nu : Nat → Nat → Int32} {first v : Int32} {i : Nat} (h : toS a b nu first i = some v) (hk : ¬ b 17 i = 0) : toS a b nu first (i + 1) = some v := by simp [toS, h, hk]
theorem toS_n {a : Nat → Nat} {b nu : Nat → Nat → Int32} {first v : Int32} {i : Nat} (h : toS a b nu first i = some v) (hk : b 17 i = 0) (ha : ansF a b nu first i = -1000000003) : ∀ n, toS a b nu first (i + 1 + n) = none := by
  intro n
  induction n with
  | zero => simp [toS, h, hk, ha]
  | succ n ih => rw [← Nat.add_assoc]; simp only [toS]; rw [ih]
theorem toS_s {a : Nat → Nat} {b nu : Nat → Nat → Int32} {first v : Int32} {i : Nat} (h : toS a b nu first i = some v) (hk : b 17 i = 0) (ha : ¬ ansF a b nu first i = -1000000003) : toS a b nu first (i + 1) = some (v + b 16 i * coF a b nu (ansF a b nu first i) i) := by simp [toS, h, hk, ha]
def opN (o : Option Int32) : Int32 := match o with
  | none => -1000000003
  | some v => v
def toF (a : Nat → Nat) (b nu : Nat → Nat → Int32) (first : Int32) : Int32 := opN (toS a b nu first (a 6))
def cbF (a : Nat → Nat) (b nu : Nat → Nat → Int32) (first : Int32) : Int32 := if odsF b (a 6) = 0 then -1000000003 else toF a b nu first
def twF (a : Nat → Nat) (b nu : Nat → Nat → Int32) : Int32 := (selS (fun f => !decide (cbF a b nu (nI f) = -1000000003)) (fun f => cbF a b nu (nI f)) nI (2 ^ a 1)).1
/-- the best in a future -/
def lcF (a : Nat → Nat) (b nu : Nat → Nat → Int32) (i : Nat) : Int32 := minS (fun p => hoF a b nu (nI p) i) (fun p => coF a b nu (nI p) i) (2 ^ (a 1 + a 2))
/-- the greatest regret over the first n futures, with the bests be -/
def rgS (a : Nat → Nat) (b nu : Nat → Nat → Int32) (be : Nat → Int32) (first : Int32) : Nat → Option Int32
  | 0 => some 0
  | i + 1 => match rgS a b nu be first i with
    | none => none
    | some v => if b 17 i = 0 then (if ansF a b nu first i = -1000000003 then none else some (if v < coF a b nu (ansF a b nu first i) i - be i then coF a b nu (ansF a b nu first i) i - be i else v)) else some v
theorem rgS_k {a : Nat → Nat} {b nu : Nat → Nat → Int32} {be : Nat → Int32} {first v : Int32} {i : Nat} (h : rgS a b nu be first i = some v) (hk : ¬ b 17 i = 0) : rgS a b nu be first (i + 1) = some v := by simp [rgS, h, hk]
theorem rgS_n {a : Nat → Nat} {b nu : Nat → Nat → Int32} {be : Nat → Int32} {first v : Int32} {i : Nat} (h : rgS a b nu be first i = some v) (hk : b 17 i = 0) (ha : ansF a b nu first i = -1000000003) : ∀ n, rgS a b nu be first (i + 1 + n) = none := by
  intro n
  induction n with
  | zero => simp [rgS, h, hk, ha]
  | succ n ih => rw [← Nat.add_assoc]; simp only [rgS]; rw [ih]
theorem rgS_s {a : Nat → Nat} {b nu : Nat → Nat → Int32} {be : Nat → Int32} {first v : Int32} {i : Nat} (h : rgS a b nu be first i = some v) (hk : b 17 i = 0) (ha : ¬ ansF a b nu first i = -1000000003) : rgS a b nu be first (i + 1) = some (if v < coF a b nu (ansF a b nu first i) i - be i then coF a b nu (ansF a b nu first i) i - be i else v) := by simp [rgS, h, hk, ha]
def rgF (a : Nat → Nat) (b nu : Nat → Nat → Int32) (first : Int32) : Int32 := if odsF b (a 6) = 0 then -1000000003 else opN (rgS a b nu (lcF a b nu) first (a 6))
def cmF (a : Nat → Nat) (b nu : Nat → Nat → Int32) : Int32 := (selS (fun f => !decide (rgF a b nu (nI f) = -1000000003)) (fun f => rgF a b nu (nI f)) nI (2 ^ a 1)).1
/-- the safest plan -/
def sfF (a : Nat → Nat) (b : Nat → Nat → Int32) : Int32 := (selS (fun p => decide (fbF a b (nI p) (a 0) = -1000000003)) (fun p => (wsF a b (nI p) (-1)).2.2) nI (2 ^ (a 1 + a 2))).1
theorem fcF_eq {k : Nat} (h : k ≤ 10) : (1 : Int32) <<< (nI k &&& 31) = nI (2 ^ k) := by
  have : ∀ k, k < 11 → (1 : Int32) <<< (nI k &&& 31) = nI (2 ^ k) := by decide
  exact this k (by omega)
theorem pcF_eq {f s : Nat} (h : f + s ≤ 10) : (1 : Int32) <<< ((nI f + nI s) &&& 31) = nI (2 ^ (f + s)) := by rw [nI_add]; exact fcF_eq h
theorem p2_le {k : Nat} (h : k ≤ 10) : 2 ^ k ≤ 1024 := Nat.pow_le_pow_right (n := 2) (by decide) h
end
section
theorem n_X3_allHold_X0 : ∀ w ∈ wsX00, w ∈ wsX3_allHold := by decide +kernel
theorem n_X3_allHold_X3 : ∀ w ∈ wsX30, w ∈ wsX3_allHold := by decide +kernel
set_option maxHeartbeats 4000000 in
set_option maxRecDepth 100000 in
theorem c_X3_allHold {l : Launch} {D : va_G} {cI cZ cQ : ClassId} {ad : Nat → Nat} {np : Nat} {x : Nat → Nat} {g : Nat → Nat → Int32} (hnp : 27 ≤ np) {a : Nat → Nat} {b nu : Nat → Nat → Int32} (hX : RX x g a b nu) (hW : WF a b nu) {plan : Int32} {i0 : Nat} (hi0 : i0 < a 6) : Cn l D cI cZ cQ ad np 2 yX3_allHold wsX3_allHold [.ref (ad 0), .int plan, .int (nI i0)] x g (ri (fun r x' g' => r = bI (hoF a b nu plan i0) ∧ x' = x ∧ S4 g g' ∧ g' 4 0 = coF a b nu plan i0)) := by
  refine cn_of (own := RX3) (by decide) rfl rfl (by simp [Value.category]) (Nat.le_of_ble_eq_true rfl) ?_
  intro p e s m args below meth c A Q C HR HV
  obtain ⟨hx, hg, hnu⟩ := id hX
  obtain ⟨⟨w0, ⟨w1, w1'⟩, w2, w3, w4, w5, w6⟩, wt, wn, wq⟩ := id hW
  have e0 := hx 0 (by decide)
  have e1 := hx 1 (by decide)
  have e2 := hx 2 (by decide)
  have e3 := hx 3 (by decide)
  have e4 := hx 4 (by decide)
  have e5 := hx 5 (by decide)
  have e6 := hx 6 (by decide)
  have b9 := hg 9 (by decide) (by decide)
  have b10 := hg 10 (by decide) (by decide)
  have b11 := hg 11 (by decide) (by decide)
  have b12 := hg 12 (by decide) (by decide)
  have b13 := hg 13 (by decide) (by decide)
  have b14 := hg 14 (by decide) (by decide)
  have b15 := hg 15 (by decide) (by decide)
  have b16 := hg 16 (by decide) (by decide)
  have b17 := hg 17 (by decide) (by decide)
  refine j_aload_n C dX3_allHold_0 rfl ?_
  refine jg_X3_terms C dX3_allHold_1 n_X3_allHold_X3 (by decide +kernel) (Nat.lt_of_lt_of_le (by decide) hnp) ?_
  refine j_iload_n C dX3_allHold_4 rfl ?_
  refine j_aload_n C dX3_allHold_5 rfl ?_
  refine jg_X3_listed C dX3_allHold_6 n_X3_allHold_X3 (by decide +kernel) (Nat.lt_of_lt_of_le (by decide) hnp) ?_
  refine jg_X0_numbers C dX3_allHold_9 n_X3_allHold_X0 (by decide +kernel) (Nat.lt_of_lt_of_le (by decide) hnp) ?_
  refine j_iload_n C dX3_allHold_12 rfl ?_
  refine j_aald C i0 dX3_allHold_13 (Nat.lt_of_lt_of_le (by decide) hnp) rfl (by omega) ?_
  refine j_aload_n C dX3_allHold_14 rfl ?_
  refine jg_X3_sums C dX3_allHold_15 n_X3_allHold_X3 (by decide +kernel) (Nat.lt_of_lt_of_le (by decide) hnp) ?_
  refine jVv3 (ci := 2) C dX3_allHold_18 gX3_allHold_X2_sumUp rfl pd_X2_sumUp ⟨by decide, by decide⟩ (Nat.lt_of_lt_of_le (by decide) hnp) rfl rfl rfl (Nat.le_of_ble_eq_true rfl) (c_X2_sumUp (num := nu i0) (k := 19 + i0) hnp hX hW (by omega) (isI_row (by omega)) (LN_row (by omega)) (by omega) (hnu i0 (by omega))) (fun x2 g2 hp => ?_)
  obtain ⟨hxe, f, rfl, hf⟩ := hp
  have hxe := hxe.symm
  subst hxe
  have hL : ∀ (n : Nat) (i : Nat), i ≤ a 0 → a 0 - i < n → hoN a b (nu i0) plan i = true → J p l e (Rm 2) s m args below meth c 0 0 D cI cZ cQ ad np A 4 Q x (va_up g 4 f) 23 [some (.ref (ad 0)), some (.int plan), some (.int (nI i0)), some (.int (nI i))] [] := by
    intro n
    induction n with
    | zero => intros; omega
    | succ n ih =>
      intro i h1 h2 hv
      refine j_iload_n C dX3_allHold_23 rfl ?_
      refine j_aload_n C dX3_allHold_24 rfl ?_
      refine jg_X3_rowCount C dX3_allHold_25 n_X3_allHold_X3 (by decide +kernel) (Nat.lt_of_lt_of_le (by decide) hnp) ?_
      refine j_icmp_ge C 51 dX3_allHold_28 (by decide) (fun hc => ?_) (fun hc => ?_)
      · have he : i = a 0 := by have := (nI_leI (by omega) (by omega)).mp hc; omega
        subst he
        refine j_iconst (v := 1) C dX3_allHold_51 rfl ?_
        exact HR _ _ _ _ _ _ rfl rfl dX3_allHold_52 ⟨_, rfl, by unfold hoF; rw [hv]; rfl, rfl, S4.up, by rw [va_us]; exact hf 0 (by omega)⟩
      · have hlt : i < a 0 := by have := mt (nI_leI (by omega) (by omega)).mpr hc; omega
        refine j_aload_n C dX3_allHold_31 rfl ?_
        refine jg_X3_sums C dX3_allHold_32 n_X3_allHold_X3 (by decide +kernel) (Nat.lt_of_lt_of_le (by decide) hnp) ?_
        refine j_iload_n C dX3_allHold_35 rfl ?_
        refine jSp1 C dX3_allHold_36 gX3_allHold_X3_slotOf rfl pd_X3_slotOf ⟨by decide, by decide⟩ (Nat.le_of_ble_eq_true rfl) c_X3_slotOf ?_
        refine j_iald C (i + 1) dX3_allHold_39 (Nat.lt_of_lt_of_le (by decide) hnp) rfl (slot_s i) (show _ < 11 by omega) ?_
        rw [va_us, hf (i + 1) (by omega), nI_pred]
        refine j_if_le C 45 dX3_allHold_40 (by decide) (fun hc40 => ?_) (fun hc40 => ?_)
        · refine j_iincN (n := 1) C dX3_allHold_45 rfl (by decide) ?_
          refine j_goto C 23 dX3_allHold_48 (by decide) ?_
          exact ih (i + 1) (by omega) (by omega) (by unfold hoN; rw [hv, decide_eq_false (Int32.not_lt.mpr hc40)]; rfl)
        · refine j_iconst (v := 0) C dX3_allHold_43 rfl ?_
          exact HR _ _ _ _ _ _ rfl rfl dX3_allHold_44 ⟨_, rfl, by unfold hoF; rw [hoN_f (Int32.not_le.mp hc40) _ hlt]; rfl, rfl, S4.up, by rw [va_us]; exact hf 0 (by omega)⟩
  refine j_iconst (v := 0) C dX3_allHold_21 rfl ?_
  refine j_istore_n C dX3_allHold_22 (by decide) ?_
  exact hL (a 0 + 1) 0 (by omega) (by omega) rfl
theorem n_X3_costOf_X0 : ∀ w ∈ wsX00, w ∈ wsX3_costOf := by decide +kernel
theorem n_X3_costOf_X3 : ∀ w ∈ wsX30, w ∈ wsX3_costOf := by decide +kernel
set_option maxHeartbeats 4000000 in
set_option maxRecDepth 100000 in
theorem c_X3_costOf {l : Launch} {D : va_G} {cI cZ cQ : ClassId} {ad : Nat → Nat} {np : Nat} {x : Nat → Nat} {g : Nat → Nat → Int32} (hnp : 27 ≤ np) {a : Nat → Nat} {b nu : Nat → Nat → Int32} (hX : RX x g a b nu) (hW : WF a b nu) {plan : Int32} {i0 : Nat} (hi0 : i0 < a 6) : Cn l D cI cZ cQ ad np 2 yX3_costOf wsX3_costOf [.ref (ad 0), .int plan, .int (nI i0)] x g (ri (fun r x' g' => r = coF a b nu plan i0 ∧ x' = x ∧ S4 g g')) := by
  refine cn_of (own := RX3) (by decide) rfl rfl (by simp [Value.category]) (Nat.le_of_ble_eq_true rfl) ?_
  intro p e s m args below meth c A Q C HR HV
  obtain ⟨hx, hg, hnu⟩ := id hX
  obtain ⟨⟨w0, ⟨w1, w1'⟩, w2, w3, w4, w5, w6⟩, wt, wn, wq⟩ := id hW
  have e0 := hx 0 (by decide)
  have e1 := hx 1 (by decide)
  have e2 := hx 2 (by decide)
  have e3 := hx 3 (by decide)
  have e4 := hx 4 (by decide)
  have e5 := hx 5 (by decide)
  have e6 := hx 6 (by decide)
  have b9 := hg 9 (by decide) (by decide)
  have b10 := hg 10 (by decide) (by decide)
  have b11 := hg 11 (by decide) (by decide)
  have b12 := hg 12 (by decide) (by decide)
  have b13 := hg 13 (by decide) (by decide)
  have b14 := hg 14 (by decide) (by decide)
  have b15 := hg 15 (by decide) (by decide)
  have b16 := hg 16 (by decide) (by decide)
  have b17 := hg 17 (by decide) (by decide)
  refine j_aload_n C dX3_costOf_0 rfl ?_
  refine jg_X3_terms C dX3_costOf_1 n_X3_costOf_X3 (by decide +kernel) (Nat.lt_of_lt_of_le (by decide) hnp) ?_
  refine j_iload_n C dX3_costOf_4 rfl ?_
  refine j_aload_n C dX3_costOf_5 rfl ?_
  refine jg_X3_listed C dX3_costOf_6 n_X3_costOf_X3 (by decide +kernel) (Nat.lt_of_lt_of_le (by decide) hnp) ?_
  refine jg_X0_numbers C dX3_costOf_9 n_X3_costOf_X0 (by decide +kernel) (Nat.lt_of_lt_of_le (by decide) hnp) ?_
  refine j_iload_n C dX3_costOf_12 rfl ?_
  refine j_aald C i0 dX3_costOf_13 (Nat.lt_of_lt_of_le (by decide) hnp) rfl (by omega) ?_
  refine j_aload_n C dX3_costOf_14 rfl ?_
  refine jg_X3_sums C dX3_costOf_15 n_X3_costOf_X3 (by decide +kernel) (Nat.lt_of_lt_of_le (by decide) hnp) ?_
  refine jVv3 (ci := 2) C dX3_costOf_18 gX3_costOf_X2_sumUp rfl pd_X2_sumUp ⟨by decide, by decide⟩ (Nat.lt_of_lt_of_le (by decide) hnp) rfl rfl rfl (Nat.le_of_ble_eq_true rfl) (c_X2_sumUp (num := nu i0) (k := 19 + i0) hnp hX hW (by omega) (isI_row (by omega)) (LN_row (by omega)) (by omega) (hnu i0 (by omega))) (fun x2 g2 hp => ?_)
  obtain ⟨hxe, f, rfl, hf⟩ := hp
  have hxe := hxe.symm
  subst hxe
  refine j_aload_n C dX3_costOf_21 rfl ?_
  refine jg_X3_sums C dX3_costOf_22 n_X3_costOf_X3 (by decide +kernel) (Nat.lt_of_lt_of_le (by decide) hnp) ?_
  refine j_iconst (v := (-1)) C dX3_costOf_25 rfl ?_
  refine jSp1 C dX3_costOf_26 gX3_costOf_X3_slotOf rfl pd_X3_slotOf ⟨by decide, by decide⟩ (Nat.le_of_ble_eq_true rfl) c_X3_slotOf ?_
  refine j_iald C 0 dX3_costOf_29 (Nat.lt_of_lt_of_le (by decide) hnp) rfl (by decide) (show _ < 11 by omega) ?_
  rw [va_us]
  exact HR _ _ _ _ _ _ rfl rfl dX3_costOf_30 ⟨_, rfl, hf 0 (by omega), rfl, S4.up⟩
theorem n_X3_findAnswer_X3 : ∀ w ∈ wsX30, w ∈ wsX3_findAnswer := by decide +kernel
set_option maxHeartbeats 4000000 in
set_option maxRecDepth 100000 in
theorem c_X3_findAnswer {l : Launch} {D : va_G} {cI cZ cQ : ClassId} {ad : Nat → Nat} {np : Nat} {x : Nat → Nat} {g : Nat → Nat → Int32} (hnp : 27 ≤ np) {a : Nat → Nat} {b nu : Nat → Nat → Int32} (hX : RX x g a b nu) (hW : WF a b nu) {first : Int32} {i0 : Nat} (hi0 : i0 < a 6) : Cn l D cI cZ cQ ad np 3 yX3_findAnswer wsX3_findAnswer [.ref (ad 0), .int first, .int (nI i0)] x g (ri (fun r x' g' => r = ansF a b nu first i0 ∧ x' = x ∧ S4 g g')) := by
  refine cn_of (own := RX3) (by decide) rfl rfl (by simp [Value.category]) (Nat.le_of_ble_eq_true rfl) ?_
  intro p e s m args below meth c A Q C HR HV
  obtain ⟨hx, hg, hnu⟩ := id hX
  obtain ⟨⟨w0, ⟨w1, w1'⟩, w2, w3, w4, w5, w6⟩, wt, wn, wq⟩ := id hW
  have e0 := hx 0 (by decide)
  have e1 := hx 1 (by decide)
  have e2 := hx 2 (by decide)
  have e3 := hx 3 (by decide)
  have e4 := hx 4 (by decide)
  have e5 := hx 5 (by decide)
  have e6 := hx 6 (by decide)
  have b9 := hg 9 (by decide) (by decide)
  have b10 := hg 10 (by decide) (by decide)
  have b11 := hg 11 (by decide) (by decide)
  have b12 := hg 12 (by decide) (by decide)
  have b13 := hg 13 (by decide) (by decide)
  have b14 := hg 14 (by decide) (by decide)
  have b15 := hg 15 (by decide) (by decide)
  have b16 := hg 16 (by decide) (by decide)
  have b17 := hg 17 (by decide) (by decide)
  obtain ⟨N, hN⟩ : ∃ N, N = 2 ^ (a 2) := ⟨_, rfl⟩
  have hN2 : N ≤ 1024 := by rw [hN]; exact p2_le (by omega)
  have hL : ∀ (n : Nat) (i : Nat) (v v2 : Int32) (g2 : Nat → Nat → Int32), i ≤ N → N - i < n → S4 g g2 → selS (fun s => hoF a b nu (plF a first s) i0) (fun s => coF a b nu (plF a first s) i0) (plF a first) i = (v, v2) → J p l e (Rm 3) s m args below meth c 0 0 D cI cZ cQ ad np A 8 Q x g2 9 [some (.ref (ad 0)), some (.int first), some (.int (nI i0)), some (.int v), some (.int v2), some (.int (nI i)), none, none] [] := by
    intro n
    induction n with
    | zero => intros; omega
    | succ n ih =>
      intro i v v2 g2 h1 h2 hS hv
      refine j_iload C dX3_findAnswer_9 rfl ?_
      refine j_iconst (v := 1) C dX3_findAnswer_11 rfl ?_
      refine j_aload_n C dX3_findAnswer_12 rfl ?_
      refine jg_X3_secondCount C dX3_findAnswer_13 n_X3_findAnswer_X3 (by decide +kernel) (Nat.lt_of_lt_of_le (by decide) hnp) ?_
      refine j_ishl C dX3_findAnswer_16 ?_
      rw [e2, fcF_eq (by omega), ← hN]
      refine j_icmp_ge C 81 dX3_findAnswer_17 (by decide) (fun hc => ?_) (fun hc => ?_)
      · have he : i = N := by have := (nI_leI (by omega) (by omega)).mp hc; omega
        subst he
        refine j_iload_n C dX3_findAnswer_81 rfl ?_
        exact HR _ _ _ _ _ _ rfl rfl dX3_findAnswer_82 ⟨_, rfl, by unfold ansF; rw [← hN, hv], rfl, hS⟩
      · have hlt : i < N := by have := mt (nI_leI (by omega) (by omega)).mpr hc; omega
        refine j_iload_n C dX3_findAnswer_20 rfl ?_
        refine j_iload C dX3_findAnswer_21 rfl ?_
        refine j_aload_n C dX3_findAnswer_23 rfl ?_
        refine jg_X3_firstCount C dX3_findAnswer_24 n_X3_findAnswer_X3 (by decide +kernel) (Nat.lt_of_lt_of_le (by decide) hnp) ?_
        refine j_ishl C dX3_findAnswer_27 ?_
        refine j_ior C dX3_findAnswer_28 ?_
        rw [e1]
        refine j_eqi (v := plF a first i) rfl ?_
        refine j_istore C dX3_findAnswer_29 (by decide) ?_
        refine j_aload_n C dX3_findAnswer_31 rfl ?_
        refine j_iload C dX3_findAnswer_32 rfl ?_
        refine j_iload_n C dX3_findAnswer_34 rfl ?_
        refine jVi2 (ci := 3) C dX3_findAnswer_35 gX3_findAnswer_X3_allHold rfl pd_X3_allHold ⟨by decide, by decide⟩ (Nat.lt_of_lt_of_le (by decide) hnp) rfl rfl rfl (Nat.le_of_ble_eq_true rfl) (c_X3_allHold hnp (hX.sx hS.sx) hW hi0) (fun rr x2 g2 hp => ?_)
        obtain ⟨rfl, rfl, hS2, h40⟩ := hp
        have hS := hS.tr hS2
        refine j_if_ne C 44 dX3_findAnswer_38 (by decide) (fun hc38 => ?_) (fun hc38 => ?_)
        · refine j_aload_n C dX3_findAnswer_44 rfl ?_
          refine jg_X3_sums C dX3_findAnswer_45 n_X3_findAnswer_X3 (by decide +kernel) (Nat.lt_of_lt_of_le (by decide) hnp) ?_
          refine j_iconst (v := (-1)) C dX3_findAnswer_48 rfl ?_
          refine jSp1 C dX3_findAnswer_49 gX3_findAnswer_X3_slotOf rfl pd_X3_slotOf ⟨by decide, by decide⟩ (Nat.le_of_ble_eq_true rfl) c_X3_slotOf ?_
          refine j_iald C 0 dX3_findAnswer_52 (Nat.lt_of_lt_of_le (by decide) hnp) rfl (by decide) (show _ < 11 by omega) ?_
          rw [h40]
          refine j_istore C dX3_findAnswer_53 (by decide) ?_
          refine j_iload_n C dX3_findAnswer_55 rfl ?_
          refine j_ldc (v := (-1000000003)) C dX3_findAnswer_56 (by decide +kernel) ?_
          refine j_icmp_eq C 68 dX3_findAnswer_58 (by decide) (fun hc58 => ?_) (fun hc58 => ?_)
          · refine j_iload C dX3_findAnswer_68 rfl ?_
            refine j_istore_n C dX3_findAnswer_70 (by decide) ?_
            refine j_iload C dX3_findAnswer_71 rfl ?_
            refine j_istore C dX3_findAnswer_73 (by decide) ?_
            refine j_iincN (n := 1) C dX3_findAnswer_75 rfl (by decide) ?_
            refine j_goto C 9 dX3_findAnswer_78 (by decide) ?_
            refine j_drop 6 ?_
            refine j_drop 7 ?_
            first
            | exact ih (i + 1) _ _ _ (by omega) (by omega) hS (sel_n hv (bI_0.mp hc38))
            | exact ih (i + 1) _ _ _ (by omega) (by omega) hS (sel_t hv (bI_n0.mp hc38) (Or.inl hc58))
            | exact ih (i + 1) _ _ _ (by omega) (by omega) hS (sel_t hv (bI_n0.mp hc38) (Or.inr (Int32.not_le.mp hc65)))
            | exact ih (i + 1) _ _ _ (by omega) (by omega) hS (sel_f hv hc58 (Int32.not_lt.mpr hc65))
          · refine j_iload C dX3_findAnswer_61 rfl ?_
            refine j_iload C dX3_findAnswer_63 rfl ?_
            refine j_icmp_ge C 75 dX3_findAnswer_65 (by decide) (fun hc65 => ?_) (fun hc65 => ?_)
            · refine j_iincN (n := 1) C dX3_findAnswer_75 rfl (by decide) ?_
              refine j_goto C 9 dX3_findAnswer_78 (by decide) ?_
              refine j_drop 6 ?_
              refine j_drop 7 ?_
              first
              | exact ih (i + 1) _ _ _ (by omega) (by omega) hS (sel_n hv (bI_0.mp hc38))
              | exact ih (i + 1) _ _ _ (by omega) (by omega) hS (sel_t hv (bI_n0.mp hc38) (Or.inl hc58))
              | exact ih (i + 1) _ _ _ (by omega) (by omega) hS (sel_t hv (bI_n0.mp hc38) (Or.inr (Int32.not_le.mp hc65)))
              | exact ih (i + 1) _ _ _ (by omega) (by omega) hS (sel_f hv hc58 (Int32.not_lt.mpr hc65))
            · refine j_iload C dX3_findAnswer_68 rfl ?_
              refine j_istore_n C dX3_findAnswer_70 (by decide) ?_
              refine j_iload C dX3_findAnswer_71 rfl ?_
              refine j_istore C dX3_findAnswer_73 (by decide) ?_
              refine j_iincN (n := 1) C dX3_findAnswer_75 rfl (by decide) ?_
              refine j_goto C 9 dX3_findAnswer_78 (by decide) ?_
              refine j_drop 6 ?_
              refine j_drop 7 ?_
              first
              | exact ih (i + 1) _ _ _ (by omega) (by omega) hS (sel_n hv (bI_0.mp hc38))
              | exact ih (i + 1) _ _ _ (by omega) (by omega) hS (sel_t hv (bI_n0.mp hc38) (Or.inl hc58))
              | exact ih (i + 1) _ _ _ (by omega) (by omega) hS (sel_t hv (bI_n0.mp hc38) (Or.inr (Int32.not_le.mp hc65)))
              | exact ih (i + 1) _ _ _ (by omega) (by omega) hS (sel_f hv hc58 (Int32.not_lt.mpr hc65))
        · refine j_goto C 75 dX3_findAnswer_41 (by decide) ?_
          refine j_iincN (n := 1) C dX3_findAnswer_75 rfl (by decide) ?_
          refine j_goto C 9 dX3_findAnswer_78 (by decide) ?_
          refine j_drop 6 ?_
          refine j_drop 7 ?_
          first
          | exact ih (i + 1) _ _ _ (by omega) (by omega) hS (sel_n hv (bI_0.mp hc38))
          | exact ih (i + 1) _ _ _ (by omega) (by omega) hS (sel_t hv (bI_n0.mp hc38) (Or.inl hc58))
          | exact ih (i + 1) _ _ _ (by omega) (by omega) hS (sel_t hv (bI_n0.mp hc38) (Or.inr (Int32.not_le.mp hc65)))
          | exact ih (i + 1) _ _ _ (by omega) (by omega) hS (sel_f hv hc58 (Int32.not_lt.mpr hc65))
  refine j_ldc (v := (-1000000003)) C dX3_findAnswer_0 (by decide +kernel) ?_
  refine j_istore_n C dX3_findAnswer_2 (by decide) ?_
  refine j_iconst (v := 0) C dX3_findAnswer_3 rfl ?_
  refine j_istore C dX3_findAnswer_4 (by decide) ?_
  refine j_iconst (v := 0) C dX3_findAnswer_6 rfl ?_
  refine j_istore C dX3_findAnswer_7 (by decide) ?_
  exact hL (N + 1) 0 _ _ _ (by omega) (by omega) S4.rf rfl
theorem n_X3_costByOdds_X0 : ∀ w ∈ wsX00, w ∈ wsX3_costByOdds := by decide +kernel
theorem n_X3_costByOdds_X3 : ∀ w ∈ wsX30, w ∈ wsX3_costByOdds := by decide +kernel
set_option maxHeartbeats 4000000 in
set_option maxRecDepth 100000 in
theorem c_X3_costByOdds {l : Launch} {D : va_G} {cI cZ cQ : ClassId} {ad : Nat → Nat} {np : Nat} {x : Nat → Nat} {g : Nat → Nat → Int32} (hnp : 27 ≤ np) {a : Nat → Nat} {b nu : Nat → Nat → Int32} (hX : RX x g a b nu) (hW : WF a b nu) {first : Int32} : Cn l D cI cZ cQ ad np 4 yX3_costByOdds wsX3_costByOdds [.ref (ad 0), .int first] x g (ri (fun r x' g' => r = cbF a b nu first ∧ x' = x ∧ S4 g g')) := by
  refine cn_of (own := RX3) (by decide) rfl rfl (by simp [Value.category]) (Nat.le_of_ble_eq_true rfl) ?_
  intro p e s m args below meth c A Q C HR HV
  obtain ⟨hx, hg, hnu⟩ := id hX
  obtain ⟨⟨w0, ⟨w1, w1'⟩, w2, w3, w4, w5, w6⟩, wt, wn, wq⟩ := id hW
  have e0 := hx 0 (by decide)
  have e1 := hx 1 (by decide)
  have e2 := hx 2 (by decide)
  have e3 := hx 3 (by decide)
  have e4 := hx 4 (by decide)
  have e5 := hx 5 (by decide)
  have e6 := hx 6 (by decide)
  have b9 := hg 9 (by decide) (by decide)
  have b10 := hg 10 (by decide) (by decide)
  have b11 := hg 11 (by decide) (by decide)
  have b12 := hg 12 (by decide) (by decide)
  have b13 := hg 13 (by decide) (by decide)
  have b14 := hg 14 (by decide) (by decide)
  have b15 := hg 15 (by decide) (by decide)
  have b16 := hg 16 (by decide) (by decide)
  have b17 := hg 17 (by decide) (by decide)
  refine j_aload_n C dX3_costByOdds_0 rfl ?_
  refine jg_X3_listed C dX3_costByOdds_1 n_X3_costByOdds_X3 (by decide +kernel) (Nat.lt_of_lt_of_le (by decide) hnp) ?_
  refine jVp0 (ci := 0) C dX3_costByOdds_4 gX3_costByOdds_X0_countedOdds rfl pd_X0_countedOdds ⟨by decide, by decide⟩ (Nat.lt_of_lt_of_le (by decide) hnp) rfl rfl rfl (Nat.le_of_ble_eq_true rfl) (c_X0_countedOdds hnp b17 b16 (by omega)) ?_
  rw [e6]
  refine j_if_ne C 13 dX3_costByOdds_7 (by decide) (fun hc7 => ?_) (fun hc7 => ?_)
  · have hL : ∀ (n : Nat) (i : Nat) (v : Int32) (g2 : Nat → Nat → Int32), i ≤ a 6 → a 6 - i < n → S4 g g2 → toS a b nu first i = some v → J p l e (Rm 4) s m args below meth c 0 0 D cI cZ cQ ad np A 5 Q x g2 17 [some (.ref (ad 0)), some (.int first), some (.int v), some (.int (nI i)), none] [] := by
      intro n
      induction n with
      | zero => intros; omega
      | succ n ih =>
        intro i v g2 h1 h2 hS hv
        refine j_iload_n C dX3_costByOdds_17 rfl ?_
        refine j_aload_n C dX3_costByOdds_18 rfl ?_
        refine jg_X3_listed C dX3_costByOdds_19 n_X3_costByOdds_X3 (by decide +kernel) (Nat.lt_of_lt_of_le (by decide) hnp) ?_
        refine jg_X0_count C dX3_costByOdds_22 n_X3_costByOdds_X0 (by decide +kernel) (Nat.lt_of_lt_of_le (by decide) hnp) ?_
        refine j_icmp_ge C 87 dX3_costByOdds_25 (by decide) (fun hc => ?_) (fun hc => ?_)
        · have he : i = a 6 := by have := (nI_leI (by omega) (by omega)).mp hc; omega
          subst he
          refine j_iload_n C dX3_costByOdds_87 rfl ?_
          exact HR _ _ _ _ _ _ rfl rfl dX3_costByOdds_88 ⟨_, rfl, by unfold cbF toF; rw [if_neg hc7, hv]; rfl, rfl, hS⟩
        · have hlt : i < a 6 := by have := mt (nI_leI (by omega) (by omega)).mpr hc; omega
          refine j_aload_n C dX3_costByOdds_28 rfl ?_
          refine jg_X3_listed C dX3_costByOdds_29 n_X3_costByOdds_X3 (by decide +kernel) (Nat.lt_of_lt_of_le (by decide) hnp) ?_
          refine jg_X0_kept C dX3_costByOdds_32 n_X3_costByOdds_X0 (by decide +kernel) (Nat.lt_of_lt_of_le (by decide) hnp) ?_
          refine j_iload_n C dX3_costByOdds_35 rfl ?_
          refine j_zald C _ dX3_costByOdds_36 (Nat.lt_of_lt_of_le (by decide) hnp) (Or.inl rfl) rfl (by omega) ?_
          rw [hS 17 (by decide), b17]
          refine j_if_eq C 43 dX3_costByOdds_37 (by decide) (fun hc37 => ?_) (fun hc37 => ?_)
          · refine j_aload_n C dX3_costByOdds_43 rfl ?_
            refine j_iload_n C dX3_costByOdds_44 rfl ?_
            refine j_iload_n C dX3_costByOdds_45 rfl ?_
            refine jVi2 (ci := 3) C dX3_costByOdds_46 gX3_costByOdds_X3_findAnswer rfl pd_X3_findAnswer ⟨by decide, by decide⟩ (Nat.lt_of_lt_of_le (by decide) hnp) rfl rfl rfl (Nat.le_of_ble_eq_true rfl) (c_X3_findAnswer hnp (hX.sx hS.sx) hW hlt) (fun rr x2 g2 hp => ?_)
            obtain ⟨rfl, rfl, hS2⟩ := hp
            have hS := hS.tr hS2
            refine j_istore C dX3_costByOdds_49 (by decide) ?_
            refine j_iload C dX3_costByOdds_51 rfl ?_
            refine j_ldc (v := (-1000000003)) C dX3_costByOdds_53 (by decide +kernel) ?_
            refine j_icmp_ne C 61 dX3_costByOdds_55 (by decide) (fun hc55 => ?_) (fun hc55 => ?_)
            · refine j_iload_n C dX3_costByOdds_61 rfl ?_
              refine j_aload_n C dX3_costByOdds_62 rfl ?_
              refine jg_X3_listed C dX3_costByOdds_63 n_X3_costByOdds_X3 (by decide +kernel) (Nat.lt_of_lt_of_le (by decide) hnp) ?_
              refine jg_X0_odds C dX3_costByOdds_66 n_X3_costByOdds_X0 (by decide +kernel) (Nat.lt_of_lt_of_le (by decide) hnp) ?_
              refine j_iload_n C dX3_costByOdds_69 rfl ?_
              refine j_iald C _ dX3_costByOdds_70 (Nat.lt_of_lt_of_le (by decide) hnp) rfl rfl (show _ < 8 by omega) ?_
              rw [hS 16 (by decide), b16]
              refine j_aload_n C dX3_costByOdds_71 rfl ?_
              refine j_iload C dX3_costByOdds_72 rfl ?_
              refine j_iload_n C dX3_costByOdds_74 rfl ?_
              refine jVi2 (ci := 3) C dX3_costByOdds_75 gX3_costByOdds_X3_costOf rfl pd_X3_costOf ⟨by decide, by decide⟩ (Nat.lt_of_lt_of_le (by decide) hnp) rfl rfl rfl (Nat.le_of_ble_eq_true rfl) (c_X3_costOf hnp (hX.sx hS.sx) hW hlt) (fun rr x2 g2 hp => ?_)
              obtain ⟨rfl, rfl, hS2⟩ := hp
              have hS := hS.tr hS2
              refine j_imul C dX3_costByOdds_78 ?_
              refine j_iadd C dX3_costByOdds_79 ?_
              refine j_istore_n C dX3_costByOdds_80 (by decide) ?_
              refine j_iincN (n := 1) C dX3_costByOdds_81 rfl (by decide) ?_
              refine j_goto C 17 dX3_costByOdds_84 (by decide) ?_
              refine j_drop 4 ?_
              first
              | exact ih (i + 1) _ _ (by omega) (by omega) hS (toS_k hv hc37)
              | exact ih (i + 1) _ _ (by omega) (by omega) hS (toS_s hv hc37 hc55)
            · refine j_ldc (v := (-1000000003)) C dX3_costByOdds_58 (by decide +kernel) ?_
              exact HR _ _ _ _ _ _ rfl rfl dX3_costByOdds_60 ⟨_, rfl, by unfold cbF toF; rw [if_neg hc7, ← show i + 1 + (a 6 - (i + 1)) = a 6 by omega, toS_n hv hc37 hc55]; rfl, rfl, hS⟩
          · refine j_goto C 81 dX3_costByOdds_40 (by decide) ?_
            refine j_iincN (n := 1) C dX3_costByOdds_81 rfl (by decide) ?_
            refine j_goto C 17 dX3_costByOdds_84 (by decide) ?_
            refine j_drop 4 ?_
            first
            | exact ih (i + 1) _ _ (by omega) (by omega) hS (toS_k hv hc37)
            | exact ih (i + 1) _ _ (by omega) (by omega) hS (toS_s hv hc37 hc55)
    refine j_iconst (v := 0) C dX3_costByOdds_13 rfl ?_
    refine j_istore_n C dX3_costByOdds_14 (by decide) ?_
    refine j_iconst (v := 0) C dX3_costByOdds_15 rfl ?_
    refine j_istore_n C dX3_costByOdds_16 (by decide) ?_
    exact hL (a 6 + 1) 0 _ _ (by omega) (by omega) S4.rf rfl
  · refine j_ldc (v := (-1000000003)) C dX3_costByOdds_10 (by decide +kernel) ?_
    exact HR _ _ _ _ _ _ rfl rfl dX3_costByOdds_12 ⟨_, rfl, (if_pos hc7).symm, rfl, S4.rf⟩
set_option maxHeartbeats 4000000 in
set_option maxRecDepth 100000 in
theorem c_X3_findTwoStep {l : Launch} {D : va_G} {cI cZ cQ : ClassId} {ad : Nat → Nat} {np : Nat} {x : Nat → Nat} {g : Nat → Nat → Int32} (hnp : 27 ≤ np) {a : Nat → Nat} {b nu : Nat → Nat → Int32} (hX : RX x g a b nu) (hW : WF a b nu) : Cn l D cI cZ cQ ad np 5 yX3_findTwoStep wsX3_findTwoStep [.ref (ad 0)] x g (ri (fun r x' g' => r = twF a b nu ∧ x' = x ∧ S4 g g')) := by
  refine cn_of (own := RX3) (by decide) rfl rfl (by simp [Value.category]) (Nat.le_of_ble_eq_true rfl) ?_
  intro p e s m args below meth c A Q C HR HV
  obtain ⟨hx, hg, hnu⟩ := id hX
  obtain ⟨⟨w0, ⟨w1, w1'⟩, w2, w3, w4, w5, w6⟩, wt, wn, wq⟩ := id hW
  have e0 := hx 0 (by decide)
  have e1 := hx 1 (by decide)
  have e2 := hx 2 (by decide)
  have e3 := hx 3 (by decide)
  have e4 := hx 4 (by decide)
  have e5 := hx 5 (by decide)
  have e6 := hx 6 (by decide)
  have b9 := hg 9 (by decide) (by decide)
  have b10 := hg 10 (by decide) (by decide)
  have b11 := hg 11 (by decide) (by decide)
  have b12 := hg 12 (by decide) (by decide)
  have b13 := hg 13 (by decide) (by decide)
  have b14 := hg 14 (by decide) (by decide)
  have b15 := hg 15 (by decide) (by decide)
  have b16 := hg 16 (by decide) (by decide)
  have b17 := hg 17 (by decide) (by decide)
  obtain ⟨N, hN⟩ : ∃ N, N = 2 ^ (a 1) := ⟨_, rfl⟩
  have hN2 : N ≤ 1024 := by rw [hN]; exact p2_le (by omega)
  have hL : ∀ (n : Nat) (i : Nat) (v v2 : Int32) (g2 : Nat → Nat → Int32), i ≤ N → N - i < n → S4 g g2 → selS (fun f => !decide (cbF a b nu (nI f) = -1000000003)) (fun f => cbF a b nu (nI f)) nI i = (v, v2) → J p l e (Rm 5) s m args below meth c 0 0 D cI cZ cQ ad np A 5 Q x g2 7 [some (.ref (ad 0)), some (.int v), some (.int v2), some (.int (nI i)), none] [] := by
    intro n
    induction n with
    | zero => intros; omega
    | succ n ih =>
      intro i v v2 g2 h1 h2 hS hv
      refine j_iload_n C dX3_findTwoStep_7 rfl ?_
      refine j_aload_n C dX3_findTwoStep_8 rfl ?_
      refine jVp0 (ci := 3) C dX3_findTwoStep_9 gX3_findTwoStep_X3_firstPartCount rfl pd_X3_firstPartCount ⟨by decide, by decide⟩ (Nat.lt_of_lt_of_le (by decide) hnp) rfl rfl rfl (Nat.le_of_ble_eq_true rfl) (c_X3_firstPartCount hnp) ?_
      unfold fcF
      rw [e1, fcF_eq (by omega), ← hN]
      refine j_icmp_ge C 52 dX3_findTwoStep_12 (by decide) (fun hc => ?_) (fun hc => ?_)
      · have he : i = N := by have := (nI_leI (by omega) (by omega)).mp hc; omega
        subst he
        refine j_iload_n C dX3_findTwoStep_52 rfl ?_
        exact HR _ _ _ _ _ _ rfl rfl dX3_findTwoStep_53 ⟨_, rfl, by unfold twF; rw [← hN, hv], rfl, hS⟩
      · have hlt : i < N := by have := mt (nI_leI (by omega) (by omega)).mpr hc; omega
        refine j_aload_n C dX3_findTwoStep_15 rfl ?_
        refine j_iload_n C dX3_findTwoStep_16 rfl ?_
        refine jVi1 (ci := 3) C dX3_findTwoStep_17 gX3_findTwoStep_X3_costByOdds rfl pd_X3_costByOdds ⟨by decide, by decide⟩ (Nat.lt_of_lt_of_le (by decide) hnp) rfl rfl rfl (Nat.le_of_ble_eq_true rfl) (c_X3_costByOdds hnp (hX.sx hS.sx) hW) (fun rr x2 g2 hp => ?_)
        obtain ⟨rfl, rfl, hS2⟩ := hp
        have hS := hS.tr hS2
        refine j_istore C dX3_findTwoStep_20 (by decide) ?_
        refine j_iload C dX3_findTwoStep_22 rfl ?_
        refine j_ldc (v := (-1000000003)) C dX3_findTwoStep_24 (by decide +kernel) ?_
        refine j_icmp_eq C 46 dX3_findTwoStep_26 (by decide) (fun hc26 => ?_) (fun hc26 => ?_)
        · refine j_iincN (n := 1) C dX3_findTwoStep_46 rfl (by decide) ?_
          refine j_goto C 7 dX3_findTwoStep_49 (by decide) ?_
          refine j_drop 4 ?_
          first
          | exact ih (i + 1) _ _ _ (by omega) (by omega) hS (sel_n hv (congrArg (fun z => !z) (decide_eq_true hc26)))
          | exact ih (i + 1) _ _ _ (by omega) (by omega) hS (sel_t hv (congrArg (fun z => !z) (decide_eq_false hc26)) (Or.inl hc32))
          | exact ih (i + 1) _ _ _ (by omega) (by omega) hS (sel_t hv (congrArg (fun z => !z) (decide_eq_false hc26)) (Or.inr (Int32.not_le.mp hc38)))
          | exact ih (i + 1) _ _ _ (by omega) (by omega) hS (sel_f hv hc32 (Int32.not_lt.mpr hc38))
        · refine j_iload_n C dX3_findTwoStep_29 rfl ?_
          refine j_ldc (v := (-1000000003)) C dX3_findTwoStep_30 (by decide +kernel) ?_
          refine j_icmp_eq C 41 dX3_findTwoStep_32 (by decide) (fun hc32 => ?_) (fun hc32 => ?_)
          · refine j_iload_n C dX3_findTwoStep_41 rfl ?_
            refine j_istore_n C dX3_findTwoStep_42 (by decide) ?_
            refine j_iload C dX3_findTwoStep_43 rfl ?_
            refine j_istore_n C dX3_findTwoStep_45 (by decide) ?_
            refine j_iincN (n := 1) C dX3_findTwoStep_46 rfl (by decide) ?_
            refine j_goto C 7 dX3_findTwoStep_49 (by decide) ?_
            refine j_drop 4 ?_
            first
            | exact ih (i + 1) _ _ _ (by omega) (by omega) hS (sel_n hv (congrArg (fun z => !z) (decide_eq_true hc26)))
            | exact ih (i + 1) _ _ _ (by omega) (by omega) hS (sel_t hv (congrArg (fun z => !z) (decide_eq_false hc26)) (Or.inl hc32))
            | exact ih (i + 1) _ _ _ (by omega) (by omega) hS (sel_t hv (congrArg (fun z => !z) (decide_eq_false hc26)) (Or.inr (Int32.not_le.mp hc38)))
            | exact ih (i + 1) _ _ _ (by omega) (by omega) hS (sel_f hv hc32 (Int32.not_lt.mpr hc38))
          · refine j_iload C dX3_findTwoStep_35 rfl ?_
            refine j_iload_n C dX3_findTwoStep_37 rfl ?_
            refine j_icmp_ge C 46 dX3_findTwoStep_38 (by decide) (fun hc38 => ?_) (fun hc38 => ?_)
            · refine j_iincN (n := 1) C dX3_findTwoStep_46 rfl (by decide) ?_
              refine j_goto C 7 dX3_findTwoStep_49 (by decide) ?_
              refine j_drop 4 ?_
              first
              | exact ih (i + 1) _ _ _ (by omega) (by omega) hS (sel_n hv (congrArg (fun z => !z) (decide_eq_true hc26)))
              | exact ih (i + 1) _ _ _ (by omega) (by omega) hS (sel_t hv (congrArg (fun z => !z) (decide_eq_false hc26)) (Or.inl hc32))
              | exact ih (i + 1) _ _ _ (by omega) (by omega) hS (sel_t hv (congrArg (fun z => !z) (decide_eq_false hc26)) (Or.inr (Int32.not_le.mp hc38)))
              | exact ih (i + 1) _ _ _ (by omega) (by omega) hS (sel_f hv hc32 (Int32.not_lt.mpr hc38))
            · refine j_iload_n C dX3_findTwoStep_41 rfl ?_
              refine j_istore_n C dX3_findTwoStep_42 (by decide) ?_
              refine j_iload C dX3_findTwoStep_43 rfl ?_
              refine j_istore_n C dX3_findTwoStep_45 (by decide) ?_
              refine j_iincN (n := 1) C dX3_findTwoStep_46 rfl (by decide) ?_
              refine j_goto C 7 dX3_findTwoStep_49 (by decide) ?_
              refine j_drop 4 ?_
              first
              | exact ih (i + 1) _ _ _ (by omega) (by omega) hS (sel_n hv (congrArg (fun z => !z) (decide_eq_true hc26)))
              | exact ih (i + 1) _ _ _ (by omega) (by omega) hS (sel_t hv (congrArg (fun z => !z) (decide_eq_false hc26)) (Or.inl hc32))
              | exact ih (i + 1) _ _ _ (by omega) (by omega) hS (sel_t hv (congrArg (fun z => !z) (decide_eq_false hc26)) (Or.inr (Int32.not_le.mp hc38)))
              | exact ih (i + 1) _ _ _ (by omega) (by omega) hS (sel_f hv hc32 (Int32.not_lt.mpr hc38))
  refine j_ldc (v := (-1000000003)) C dX3_findTwoStep_0 (by decide +kernel) ?_
  refine j_istore_n C dX3_findTwoStep_2 (by decide) ?_
  refine j_iconst (v := 0) C dX3_findTwoStep_3 rfl ?_
  refine j_istore_n C dX3_findTwoStep_4 (by decide) ?_
  refine j_iconst (v := 0) C dX3_findTwoStep_5 rfl ?_
  refine j_istore_n C dX3_findTwoStep_6 (by decide) ?_
  exact hL (N + 1) 0 _ _ _ (by omega) (by omega) S4.rf rfl
theorem n_X3_leastCost_X3 : ∀ w ∈ wsX30, w ∈ wsX3_leastCost := by decide +kernel
set_option maxHeartbeats 4000000 in
set_option maxRecDepth 100000 in
theorem c_X3_leastCost {l : Launch} {D : va_G} {cI cZ cQ : ClassId} {ad : Nat → Nat} {np : Nat} {x : Nat → Nat} {g : Nat → Nat → Int32} (hnp : 27 ≤ np) {a : Nat → Nat} {b nu : Nat → Nat → Int32} (hX : RX x g a b nu) (hW : WF a b nu) {i0 : Nat} (hi0 : i0 < a 6) : Cn l D cI cZ cQ ad np 3 yX3_leastCost wsX3_leastCost [.ref (ad 0), .int (nI i0)] x g (ri (fun r x' g' => r = lcF a b nu i0 ∧ x' = x ∧ S4 g g')) := by
  refine cn_of (own := RX3) (by decide) rfl rfl (by simp [Value.category]) (Nat.le_of_ble_eq_true rfl) ?_
  intro p e s m args below meth c A Q C HR HV
  obtain ⟨hx, hg, hnu⟩ := id hX
  obtain ⟨⟨w0, ⟨w1, w1'⟩, w2, w3, w4, w5, w6⟩, wt, wn, wq⟩ := id hW
  have e0 := hx 0 (by decide)
  have e1 := hx 1 (by decide)
  have e2 := hx 2 (by decide)
  have e3 := hx 3 (by decide)
  have e4 := hx 4 (by decide)
  have e5 := hx 5 (by decide)
  have e6 := hx 6 (by decide)
  have b9 := hg 9 (by decide) (by decide)
  have b10 := hg 10 (by decide) (by decide)
  have b11 := hg 11 (by decide) (by decide)
  have b12 := hg 12 (by decide) (by decide)
  have b13 := hg 13 (by decide) (by decide)
  have b14 := hg 14 (by decide) (by decide)
  have b15 := hg 15 (by decide) (by decide)
  have b16 := hg 16 (by decide) (by decide)
  have b17 := hg 17 (by decide) (by decide)
  obtain ⟨N, hN⟩ : ∃ N, N = 2 ^ (a 1 + a 2) := ⟨_, rfl⟩
  have hN2 : N ≤ 1024 := by rw [hN]; exact p2_le (by omega)
  have hL : ∀ (n : Nat) (i : Nat) (v : Int32) (g2 : Nat → Nat → Int32), i ≤ N → N - i < n → S4 g g2 → minS (fun p => hoF a b nu (nI p) i0) (fun p => coF a b nu (nI p) i0) i = v → J p l e (Rm 3) s m args below meth c 0 0 D cI cZ cQ ad np A 5 Q x g2 5 [some (.ref (ad 0)), some (.int (nI i0)), some (.int v), some (.int (nI i)), none] [] := by
    intro n
    induction n with
    | zero => intros; omega
    | succ n ih =>
      intro i v g2 h1 h2 hS hv
      refine j_iload_n C dX3_leastCost_5 rfl ?_
      refine j_aload_n C dX3_leastCost_6 rfl ?_
      refine jVp0 (ci := 3) C dX3_leastCost_7 gX3_leastCost_X3_planCount rfl pd_X3_planCount ⟨by decide, by decide⟩ (Nat.lt_of_lt_of_le (by decide) hnp) rfl rfl rfl (Nat.le_of_ble_eq_true rfl) (c_X3_planCount hnp) ?_
      unfold pcF
      rw [e1, e2, pcF_eq (by omega), ← hN]
      refine j_icmp_ge C 57 dX3_leastCost_10 (by decide) (fun hc => ?_) (fun hc => ?_)
      · have he : i = N := by have := (nI_leI (by omega) (by omega)).mp hc; omega
        subst he
        refine j_iload_n C dX3_leastCost_57 rfl ?_
        exact HR _ _ _ _ _ _ rfl rfl dX3_leastCost_58 ⟨_, rfl, by unfold lcF; rw [← hN, hv], rfl, hS⟩
      · have hlt : i < N := by have := mt (nI_leI (by omega) (by omega)).mpr hc; omega
        refine j_aload_n C dX3_leastCost_13 rfl ?_
        refine j_iload_n C dX3_leastCost_14 rfl ?_
        refine j_iload_n C dX3_leastCost_15 rfl ?_
        refine jVi2 (ci := 3) C dX3_leastCost_16 gX3_leastCost_X3_allHold rfl pd_X3_allHold ⟨by decide, by decide⟩ (Nat.lt_of_lt_of_le (by decide) hnp) rfl rfl rfl (Nat.le_of_ble_eq_true rfl) (c_X3_allHold hnp (hX.sx hS.sx) hW hi0) (fun rr x2 g2 hp => ?_)
        obtain ⟨rfl, rfl, hS2, h40⟩ := hp
        have hS := hS.tr hS2
        refine j_if_ne C 25 dX3_leastCost_19 (by decide) (fun hc19 => ?_) (fun hc19 => ?_)
        · refine j_aload_n C dX3_leastCost_25 rfl ?_
          refine jg_X3_sums C dX3_leastCost_26 n_X3_leastCost_X3 (by decide +kernel) (Nat.lt_of_lt_of_le (by decide) hnp) ?_
          refine j_iconst (v := (-1)) C dX3_leastCost_29 rfl ?_
          refine jSp1 C dX3_leastCost_30 gX3_leastCost_X3_slotOf rfl pd_X3_slotOf ⟨by decide, by decide⟩ (Nat.le_of_ble_eq_true rfl) c_X3_slotOf ?_
          refine j_iald C 0 dX3_leastCost_33 (Nat.lt_of_lt_of_le (by decide) hnp) rfl (by decide) (show _ < 11 by omega) ?_
          rw [h40]
          refine j_istore C dX3_leastCost_34 (by decide) ?_
          refine j_iload_n C dX3_leastCost_36 rfl ?_
          refine j_ldc (v := (-1000000003)) C dX3_leastCost_37 (by decide +kernel) ?_
          refine j_icmp_eq C 48 dX3_leastCost_39 (by decide) (fun hc39 => ?_) (fun hc39 => ?_)
          · refine j_iload C dX3_leastCost_48 rfl ?_
            refine j_istore_n C dX3_leastCost_50 (by decide) ?_
            refine j_iincN (n := 1) C dX3_leastCost_51 rfl (by decide) ?_
            refine j_goto C 5 dX3_leastCost_54 (by decide) ?_
            refine j_drop 4 ?_
            first
            | exact ih (i + 1) _ _ (by omega) (by omega) hS (min_n hv (bI_0.mp hc19))
            | exact ih (i + 1) _ _ (by omega) (by omega) hS (min_t hv (bI_n0.mp hc19) (Or.inl hc39))
            | exact ih (i + 1) _ _ (by omega) (by omega) hS (min_t hv (bI_n0.mp hc19) (Or.inr (Int32.not_le.mp hc45)))
            | exact ih (i + 1) _ _ (by omega) (by omega) hS (min_f hv hc39 (Int32.not_lt.mpr hc45))
          · refine j_iload C dX3_leastCost_42 rfl ?_
            refine j_iload_n C dX3_leastCost_44 rfl ?_
            refine j_icmp_ge C 51 dX3_leastCost_45 (by decide) (fun hc45 => ?_) (fun hc45 => ?_)
            · refine j_iincN (n := 1) C dX3_leastCost_51 rfl (by decide) ?_
              refine j_goto C 5 dX3_leastCost_54 (by decide) ?_
              refine j_drop 4 ?_
              first
              | exact ih (i + 1) _ _ (by omega) (by omega) hS (min_n hv (bI_0.mp hc19))
              | exact ih (i + 1) _ _ (by omega) (by omega) hS (min_t hv (bI_n0.mp hc19) (Or.inl hc39))
              | exact ih (i + 1) _ _ (by omega) (by omega) hS (min_t hv (bI_n0.mp hc19) (Or.inr (Int32.not_le.mp hc45)))
              | exact ih (i + 1) _ _ (by omega) (by omega) hS (min_f hv hc39 (Int32.not_lt.mpr hc45))
            · refine j_iload C dX3_leastCost_48 rfl ?_
              refine j_istore_n C dX3_leastCost_50 (by decide) ?_
              refine j_iincN (n := 1) C dX3_leastCost_51 rfl (by decide) ?_
              refine j_goto C 5 dX3_leastCost_54 (by decide) ?_
              refine j_drop 4 ?_
              first
              | exact ih (i + 1) _ _ (by omega) (by omega) hS (min_n hv (bI_0.mp hc19))
              | exact ih (i + 1) _ _ (by omega) (by omega) hS (min_t hv (bI_n0.mp hc19) (Or.inl hc39))
              | exact ih (i + 1) _ _ (by omega) (by omega) hS (min_t hv (bI_n0.mp hc19) (Or.inr (Int32.not_le.mp hc45)))
              | exact ih (i + 1) _ _ (by omega) (by omega) hS (min_f hv hc39 (Int32.not_lt.mpr hc45))
        · refine j_goto C 51 dX3_leastCost_22 (by decide) ?_
          refine j_iincN (n := 1) C dX3_leastCost_51 rfl (by decide) ?_
          refine j_goto C 5 dX3_leastCost_54 (by decide) ?_
          refine j_drop 4 ?_
          first
          | exact ih (i + 1) _ _ (by omega) (by omega) hS (min_n hv (bI_0.mp hc19))
          | exact ih (i + 1) _ _ (by omega) (by omega) hS (min_t hv (bI_n0.mp hc19) (Or.inl hc39))
          | exact ih (i + 1) _ _ (by omega) (by omega) hS (min_t hv (bI_n0.mp hc19) (Or.inr (Int32.not_le.mp hc45)))
          | exact ih (i + 1) _ _ (by omega) (by omega) hS (min_f hv hc39 (Int32.not_lt.mpr hc45))
  refine j_ldc (v := (-1000000003)) C dX3_leastCost_0 (by decide +kernel) ?_
  refine j_istore_n C dX3_leastCost_2 (by decide) ?_
  refine j_iconst (v := 0) C dX3_leastCost_3 rfl ?_
  refine j_istore_n C dX3_leastCost_4 (by decide) ?_
  exact hL (N + 1) 0 _ _ (by omega) (by omega) S4.rf rfl
theorem n_X3_fillBests_X0 : ∀ w ∈ wsX00, w ∈ wsX3_fillBests := by decide +kernel
theorem n_X3_fillBests_X3 : ∀ w ∈ wsX30, w ∈ wsX3_fillBests := by decide +kernel
set_option maxHeartbeats 4000000 in
set_option maxRecDepth 100000 in
theorem c_X3_fillBests {l : Launch} {D : va_G} {cI cZ cQ : ClassId} {ad : Nat → Nat} {np : Nat} {x : Nat → Nat} {g : Nat → Nat → Int32} (hnp : 27 ≤ np) {a : Nat → Nat} {b nu : Nat → Nat → Int32} (hX : RX x g a b nu) (hW : WF a b nu) : Cn l D cI cZ cQ ad np 4 yX3_fillBests wsX3_fillBests [.ref (ad 0)] x g (rv (fun x' g' => x' = x ∧ Sx g g' ∧ ∀ j, j < a 6 → b 17 j = 0 → g' 5 j = lcF a b nu j)) := by
  refine cn_of (own := RX3) (by decide) rfl rfl (by simp [Value.category]) (Nat.le_of_ble_eq_true rfl) ?_
  intro p e s m args below meth c A Q C HR HV
  obtain ⟨hx, hg, hnu⟩ := id hX
  obtain ⟨⟨w0, ⟨w1, w1'⟩, w2, w3, w4, w5, w6⟩, wt, wn, wq⟩ := id hW
  have e0 := hx 0 (by decide)
  have e1 := hx 1 (by decide)
  have e2 := hx 2 (by decide)
  have e3 := hx 3 (by decide)
  have e4 := hx 4 (by decide)
  have e5 := hx 5 (by decide)
  have e6 := hx 6 (by decide)
  have b9 := hg 9 (by decide) (by decide)
  have b10 := hg 10 (by decide) (by decide)
  have b11 := hg 11 (by decide) (by decide)
  have b12 := hg 12 (by decide) (by decide)
  have b13 := hg 13 (by decide) (by decide)
  have b14 := hg 14 (by decide) (by decide)
  have b15 := hg 15 (by decide) (by decide)
  have b16 := hg 16 (by decide) (by decide)
  have b17 := hg 17 (by decide) (by decide)
  have hL : ∀ (n : Nat) (i : Nat) (g2 : Nat → Nat → Int32), i ≤ a 6 → a 6 - i < n → Sx g g2 → (∀ j, j < i → b 17 j = 0 → g2 5 j = lcF a b nu j) → J p l e (Rm 4) s m args below meth c 0 0 D cI cZ cQ ad np A 2 Q x g2 2 [some (.ref (ad 0)), some (.int (nI i))] [] := by
    intro n
    induction n with
    | zero => intros; omega
    | succ n ih =>
      intro i g2 h1 h2 hS h5
      refine j_iload_n C dX3_fillBests_2 rfl ?_
      refine j_aload_n C dX3_fillBests_3 rfl ?_
      refine jg_X3_listed C dX3_fillBests_4 n_X3_fillBests_X3 (by decide +kernel) (Nat.lt_of_lt_of_le (by decide) hnp) ?_
      refine jg_X0_count C dX3_fillBests_7 n_X3_fillBests_X0 (by decide +kernel) (Nat.lt_of_lt_of_le (by decide) hnp) ?_
      refine j_icmp_ge C 42 dX3_fillBests_10 (by decide) (fun hc => ?_) (fun hc => ?_)
      · have he : i = a 6 := by have := (nI_leI (by omega) (by omega)).mp hc; omega
        subst he
        exact HV _ _ _ _ rfl dX3_fillBests_42 ⟨rfl, rfl, hS, h5⟩
      · have hlt : i < a 6 := by have := mt (nI_leI (by omega) (by omega)).mpr hc; omega
        refine j_aload_n C dX3_fillBests_13 rfl ?_
        refine jg_X3_listed C dX3_fillBests_14 n_X3_fillBests_X3 (by decide +kernel) (Nat.lt_of_lt_of_le (by decide) hnp) ?_
        refine jg_X0_kept C dX3_fillBests_17 n_X3_fillBests_X0 (by decide +kernel) (Nat.lt_of_lt_of_le (by decide) hnp) ?_
        refine j_iload_n C dX3_fillBests_20 rfl ?_
        refine j_zald C _ dX3_fillBests_21 (Nat.lt_of_lt_of_le (by decide) hnp) (Or.inl rfl) rfl (by omega) ?_
        rw [hS 17 (by decide), b17]
        refine j_if_ne C 36 dX3_fillBests_22 (by decide) (fun hc22 => ?_) (fun hc22 => ?_)
        · refine j_iincN (n := 1) C dX3_fillBests_36 rfl (by decide) ?_
          refine j_goto C 2 dX3_fillBests_39 (by decide) ?_
          first
          | (refine ih (i + 1) _ (by omega) (by omega) hS (fun j hj hk => ?_)
             by_cases hji : j = i
             · subst hji; exact absurd hk hc22
             · exact h5 j (by omega) hk)
          | (refine ih (i + 1) _ (by omega) (by omega) (hS.up ⟨by decide, by decide⟩) (fun j hj hk => ?_)
             rw [va_us]
             simp only [upd]
             by_cases hji : j = i
             · subst hji; rw [if_pos rfl]
             · rw [if_neg hji]; exact h5 j (by omega) hk)
        · refine j_aload_n C dX3_fillBests_25 rfl ?_
          refine jg_X3_bests C dX3_fillBests_26 n_X3_fillBests_X3 (by decide +kernel) (Nat.lt_of_lt_of_le (by decide) hnp) ?_
          refine j_iload_n C dX3_fillBests_29 rfl ?_
          refine j_aload_n C dX3_fillBests_30 rfl ?_
          refine j_iload_n C dX3_fillBests_31 rfl ?_
          refine jVi1 (ci := 3) C dX3_fillBests_32 gX3_fillBests_X3_leastCost rfl pd_X3_leastCost ⟨by decide, by decide⟩ (Nat.lt_of_lt_of_le (by decide) hnp) rfl rfl rfl (Nat.le_of_ble_eq_true rfl) (c_X3_leastCost hnp (hX.sx hS) hW hlt) (fun rr x2 g2 hp => ?_)
          obtain ⟨rfl, rfl, hS2⟩ := hp
          have h5 : ∀ j, j < i → b 17 j = 0 → g2 5 j = lcF a b nu j := fun j hj hk => by rw [hS2 5 (by decide)]; exact h5 j hj hk
          have hS := hS.tr hS2.sx
          refine j_iast C i dX3_fillBests_35 (Nat.lt_of_lt_of_le (by decide) hnp) rfl rfl (show _ < 8 by omega) ?_
          refine j_iincN (n := 1) C dX3_fillBests_36 rfl (by decide) ?_
          refine j_goto C 2 dX3_fillBests_39 (by decide) ?_
          first
          | (refine ih (i + 1) _ (by omega) (by omega) hS (fun j hj hk => ?_)
             by_cases hji : j = i
             · subst hji; exact absurd hk hc22
             · exact h5 j (by omega) hk)
          | (refine ih (i + 1) _ (by omega) (by omega) (hS.up ⟨by decide, by decide⟩) (fun j hj hk => ?_)
             rw [va_us]
             simp only [upd]
             by_cases hji : j = i
             · subst hji; rw [if_pos rfl]
             · rw [if_neg hji]; exact h5 j (by omega) hk)
  refine j_iconst (v := 0) C dX3_fillBests_0 rfl ?_
  refine j_istore_n C dX3_fillBests_1 (by decide) ?_
  exact hL (a 6 + 1) 0 _ (by omega) (by omega) Sx.rf (fun j hj => absurd hj (Nat.not_lt_zero j))
theorem n_X3_greatestRegret_X0 : ∀ w ∈ wsX00, w ∈ wsX3_greatestRegret := by decide +kernel
theorem n_X3_greatestRegret_X3 : ∀ w ∈ wsX30, w ∈ wsX3_greatestRegret := by decide +kernel
set_option maxHeartbeats 4000000 in
set_option maxRecDepth 100000 in
theorem c_X3_greatestRegret {l : Launch} {D : va_G} {cI cZ cQ : ClassId} {ad : Nat → Nat} {np : Nat} {x : Nat → Nat} {g : Nat → Nat → Int32} (hnp : 27 ≤ np) {a : Nat → Nat} {b nu : Nat → Nat → Int32} (hX : RX x g a b nu) (hW : WF a b nu) {first : Int32} (h5 : ∀ j, j < a 6 → b 17 j = 0 → g 5 j = lcF a b nu j) : Cn l D cI cZ cQ ad np 4 yX3_greatestRegret wsX3_greatestRegret [.ref (ad 0), .int first] x g (ri (fun r x' g' => r = rgF a b nu first ∧ x' = x ∧ S4 g g')) := by
  refine cn_of (own := RX3) (by decide) rfl rfl (by simp [Value.category]) (Nat.le_of_ble_eq_true rfl) ?_
  intro p e s m args below meth c A Q C HR HV
  obtain ⟨hx, hg, hnu⟩ := id hX
  obtain ⟨⟨w0, ⟨w1, w1'⟩, w2, w3, w4, w5, w6⟩, wt, wn, wq⟩ := id hW
  have e0 := hx 0 (by decide)
  have e1 := hx 1 (by decide)
  have e2 := hx 2 (by decide)
  have e3 := hx 3 (by decide)
  have e4 := hx 4 (by decide)
  have e5 := hx 5 (by decide)
  have e6 := hx 6 (by decide)
  have b9 := hg 9 (by decide) (by decide)
  have b10 := hg 10 (by decide) (by decide)
  have b11 := hg 11 (by decide) (by decide)
  have b12 := hg 12 (by decide) (by decide)
  have b13 := hg 13 (by decide) (by decide)
  have b14 := hg 14 (by decide) (by decide)
  have b15 := hg 15 (by decide) (by decide)
  have b16 := hg 16 (by decide) (by decide)
  have b17 := hg 17 (by decide) (by decide)
  refine j_aload_n C dX3_greatestRegret_0 rfl ?_
  refine jg_X3_listed C dX3_greatestRegret_1 n_X3_greatestRegret_X3 (by decide +kernel) (Nat.lt_of_lt_of_le (by decide) hnp) ?_
  refine jVp0 (ci := 0) C dX3_greatestRegret_4 gX3_greatestRegret_X0_countedOdds rfl pd_X0_countedOdds ⟨by decide, by decide⟩ (Nat.lt_of_lt_of_le (by decide) hnp) rfl rfl rfl (Nat.le_of_ble_eq_true rfl) (c_X0_countedOdds hnp b17 b16 (by omega)) ?_
  rw [e6]
  refine j_if_ne C 13 dX3_greatestRegret_7 (by decide) (fun hc7 => ?_) (fun hc7 => ?_)
  · have hL : ∀ (n : Nat) (i : Nat) (v : Int32) (g2 : Nat → Nat → Int32), i ≤ a 6 → a 6 - i < n → S4 g g2 → rgS a b nu (lcF a b nu) first i = some v → J p l e (Rm 4) s m args below meth c 0 0 D cI cZ cQ ad np A 5 Q x g2 17 [some (.ref (ad 0)), some (.int first), some (.int v), some (.int (nI i)), none] [] := by
      intro n
      induction n with
      | zero => intros; omega
      | succ n ih =>
        intro i v g2 h1 h2 hS hv
        refine j_iload_n C dX3_greatestRegret_17 rfl ?_
        refine j_aload_n C dX3_greatestRegret_18 rfl ?_
        refine jg_X3_listed C dX3_greatestRegret_19 n_X3_greatestRegret_X3 (by decide +kernel) (Nat.lt_of_lt_of_le (by decide) hnp) ?_
        refine jg_X0_count C dX3_greatestRegret_22 n_X3_greatestRegret_X0 (by decide +kernel) (Nat.lt_of_lt_of_le (by decide) hnp) ?_
        refine j_icmp_ge C 86 dX3_greatestRegret_25 (by decide) (fun hc => ?_) (fun hc => ?_)
        · have he : i = a 6 := by have := (nI_leI (by omega) (by omega)).mp hc; omega
          subst he
          refine j_iload_n C dX3_greatestRegret_86 rfl ?_
          exact HR _ _ _ _ _ _ rfl rfl dX3_greatestRegret_87 ⟨_, rfl, by unfold rgF; rw [if_neg hc7, hv]; rfl, rfl, hS⟩
        · have hlt : i < a 6 := by have := mt (nI_leI (by omega) (by omega)).mpr hc; omega
          refine j_aload_n C dX3_greatestRegret_28 rfl ?_
          refine jg_X3_listed C dX3_greatestRegret_29 n_X3_greatestRegret_X3 (by decide +kernel) (Nat.lt_of_lt_of_le (by decide) hnp) ?_
          refine jg_X0_kept C dX3_greatestRegret_32 n_X3_greatestRegret_X0 (by decide +kernel) (Nat.lt_of_lt_of_le (by decide) hnp) ?_
          refine j_iload_n C dX3_greatestRegret_35 rfl ?_
          refine j_zald C _ dX3_greatestRegret_36 (Nat.lt_of_lt_of_le (by decide) hnp) (Or.inl rfl) rfl (by omega) ?_
          rw [hS 17 (by decide), b17]
          refine j_if_eq C 43 dX3_greatestRegret_37 (by decide) (fun hc37 => ?_) (fun hc37 => ?_)
          · refine j_aload_n C dX3_greatestRegret_43 rfl ?_
            refine j_iload_n C dX3_greatestRegret_44 rfl ?_
            refine j_iload_n C dX3_greatestRegret_45 rfl ?_
            refine jVi2 (ci := 3) C dX3_greatestRegret_46 gX3_greatestRegret_X3_findAnswer rfl pd_X3_findAnswer ⟨by decide, by decide⟩ (Nat.lt_of_lt_of_le (by decide) hnp) rfl rfl rfl (Nat.le_of_ble_eq_true rfl) (c_X3_findAnswer hnp (hX.sx hS.sx) hW hlt) (fun rr x2 g2 hp => ?_)
            obtain ⟨rfl, rfl, hS2⟩ := hp
            have hS := hS.tr hS2
            refine j_istore C dX3_greatestRegret_49 (by decide) ?_
            refine j_iload C dX3_greatestRegret_51 rfl ?_
            refine j_ldc (v := (-1000000003)) C dX3_greatestRegret_53 (by decide +kernel) ?_
            refine j_icmp_ne C 61 dX3_greatestRegret_55 (by decide) (fun hc55 => ?_) (fun hc55 => ?_)
            · refine j_iload_n C dX3_greatestRegret_61 rfl ?_
              refine j_aload_n C dX3_greatestRegret_62 rfl ?_
              refine j_iload C dX3_greatestRegret_63 rfl ?_
              refine j_iload_n C dX3_greatestRegret_65 rfl ?_
              refine jVi2 (ci := 3) C dX3_greatestRegret_66 gX3_greatestRegret_X3_costOf rfl pd_X3_costOf ⟨by decide, by decide⟩ (Nat.lt_of_lt_of_le (by decide) hnp) rfl rfl rfl (Nat.le_of_ble_eq_true rfl) (c_X3_costOf hnp (hX.sx hS.sx) hW hlt) (fun rr x2 g2 hp => ?_)
              obtain ⟨rfl, rfl, hS2⟩ := hp
              have hS := hS.tr hS2
              refine j_aload_n C dX3_greatestRegret_69 rfl ?_
              refine jg_X3_bests C dX3_greatestRegret_70 n_X3_greatestRegret_X3 (by decide +kernel) (Nat.lt_of_lt_of_le (by decide) hnp) ?_
              refine j_iload_n C dX3_greatestRegret_73 rfl ?_
              refine j_iald C i dX3_greatestRegret_74 (Nat.lt_of_lt_of_le (by decide) hnp) rfl rfl (show _ < 8 by omega) ?_
              rw [hS 5 (by decide), h5 i hlt hc37]
              refine j_isub C dX3_greatestRegret_75 ?_
              refine j_max C dX3_greatestRegret_76 (by decide +kernel) (by decide +kernel) (by decide +kernel) (by decide +kernel) (by decide) (by decide) ?_
              refine j_istore_n C dX3_greatestRegret_79 (by decide) ?_
              refine j_iincN (n := 1) C dX3_greatestRegret_80 rfl (by decide) ?_
              refine j_goto C 17 dX3_greatestRegret_83 (by decide) ?_
              refine j_drop 4 ?_
              first
              | exact ih (i + 1) _ _ (by omega) (by omega) hS (rgS_k hv hc37)
              | exact ih (i + 1) _ _ (by omega) (by omega) hS (rgS_s hv hc37 hc55)
            · refine j_ldc (v := (-1000000003)) C dX3_greatestRegret_58 (by decide +kernel) ?_
              exact HR _ _ _ _ _ _ rfl rfl dX3_greatestRegret_60 ⟨_, rfl, by unfold rgF; rw [if_neg hc7, ← show i + 1 + (a 6 - (i + 1)) = a 6 by omega, rgS_n hv hc37 hc55]; rfl, rfl, hS⟩
          · refine j_goto C 80 dX3_greatestRegret_40 (by decide) ?_
            refine j_iincN (n := 1) C dX3_greatestRegret_80 rfl (by decide) ?_
            refine j_goto C 17 dX3_greatestRegret_83 (by decide) ?_
            refine j_drop 4 ?_
            first
            | exact ih (i + 1) _ _ (by omega) (by omega) hS (rgS_k hv hc37)
            | exact ih (i + 1) _ _ (by omega) (by omega) hS (rgS_s hv hc37 hc55)
    refine j_iconst (v := 0) C dX3_greatestRegret_13 rfl ?_
    refine j_istore_n C dX3_greatestRegret_14 (by decide) ?_
    refine j_iconst (v := 0) C dX3_greatestRegret_15 rfl ?_
    refine j_istore_n C dX3_greatestRegret_16 (by decide) ?_
    exact hL (a 6 + 1) 0 _ _ (by omega) (by omega) S4.rf rfl
  · refine j_ldc (v := (-1000000003)) C dX3_greatestRegret_10 (by decide +kernel) ?_
    exact HR _ _ _ _ _ _ rfl rfl dX3_greatestRegret_12 ⟨_, rfl, (if_pos hc7).symm, rfl, S4.rf⟩
end
section
theorem i32_add {u v : Int32} (h1 : -2147483648 ≤ u.toInt + v.toInt) (h2 : u.toInt + v.toInt < 2147483648) : (u + v).toInt = u.toInt + v.toInt := by
  rw [Int32.toInt_add]; exact Int.bmod_eq_of_le (by omega) (by omega)
theorem i32_sub {u v : Int32} (h1 : -2147483648 ≤ u.toInt - v.toInt) (h2 : u.toInt - v.toInt < 2147483648) : (u - v).toInt = u.toInt - v.toInt := by
  rw [Int32.toInt_sub]; exact Int.bmod_eq_of_le (by omega) (by omega)
theorem i32_mul {u v : Int32} (h1 : -2147483648 ≤ u.toInt * v.toInt) (h2 : u.toInt * v.toInt < 2147483648) : (u * v).toInt = u.toInt * v.toInt := by
  rw [Int32.toInt_mul]; exact Int.bmod_eq_of_le (by omega) (by omega)
theorem abs_mul_le {x y a b : Int} (ha : 0 ≤ a) (hb : 0 ≤ b) (h1 : -a ≤ x) (h2 : x ≤ a) (h3 : -b ≤ y) (h4 : y ≤ b) : -(a * b) ≤ x * y ∧ x * y ≤ a * b := by
  have h : x.natAbs * y.natAbs ≤ a.toNat * b.toNat := Nat.mul_le_mul (by omega) (by omega)
  have e1 : (x * y).natAbs = x.natAbs * y.natAbs := Int.natAbs_mul x y
  have e2 : a * b = ((a.toNat * b.toNat : Nat) : Int) := by
    rw [Int.natCast_mul, Int.toNat_of_nonneg ha, Int.toNat_of_nonneg hb]
  omega
/-- counted futures and their odds -/
theorem cnt_ods {a : Nat → Nat} {b nu : Nat → Nat → Int32} (hW : WF a b nu) : ∀ i, i ≤ a 6 → ∃ c o : Nat, cntF b i = nI c ∧ odsF b i = nI o ∧ c ≤ i ∧ c ≤ o ∧ o ≤ 100 * c := by
  obtain ⟨⟨w0, ⟨w1, w1'⟩, w2, w3, w4, w5, w6⟩, wt, wn, wq⟩ := id hW
  intro i
  induction i with
  | zero => intro _; exact ⟨0, 0, rfl, rfl, by omega, by omega, by omega⟩
  | succ i ih =>
    intro hi
    obtain ⟨c, o, h1, h2, h3, h4, h5⟩ := ih (by omega)
    obtain ⟨q1, q2, q3, -⟩ := wq i (by omega)
    simp only [cntF, odsF]
    by_cases hk : b 17 i = 0
    · rw [if_pos hk, if_pos hk, h1, h2]
      have h0 : ¬ b 16 i < 0 := by
        rw [Int32.lt_iff_toInt_lt]
        have : (0 : Int32).toInt = 0 := rfl
        omega
      obtain ⟨j, hj, e⟩ := nI_of h0
      have hj2 : (b 16 i).toInt = (j : Int) := by rw [e]; exact nI_toInt hj
      refine ⟨c + 1, o + j, nI_1 c, ?_, by omega, by omega, by omega⟩
      rw [e, nI_add]
    · rw [if_neg hk, if_neg hk]
      exact ⟨c, o, h1, h2, by omega, h4, h5⟩
theorem cnt_0 {a : Nat → Nat} {b nu : Nat → Nat → Int32} (hW : WF a b nu) : (cntF b (a 6) = 0 ↔ odsF b (a 6) = 0) ∧ (cntF b (a 6) ≤ 0 ↔ odsF b (a 6) = 0) := by
  obtain ⟨⟨w0, ⟨w1, w1'⟩, w2, w3, w4, w5, w6⟩, wt, wn, wq⟩ := id hW
  obtain ⟨c, o, h1, h2, h3, h4, h5⟩ := cnt_ods hW (a 6) (Nat.le_refl _)
  rw [h1, h2]
  have e0 : (0 : Int32) = nI 0 := rfl
  rw [e0, nI_eq (by omega) (by omega), nI_eq (by omega) (by omega), nI_leI (by omega) (by omega)]
  omega
theorem va_bd {a : Nat → Nat} {b nu : Nat → Nat → Int32} (hW : WF a b nu) {num : Nat → Int32} (hn : ∀ n, n < a 4 → -100 ≤ (num n).toInt ∧ (num n).toInt ≤ 100) {t : Nat} (ht : t < a 5) : -100 ≤ (vaF b num t).toInt ∧ (vaF b num t).toInt ≤ 100 := by
  obtain ⟨⟨w0, ⟨w1, w1'⟩, w2, w3, w4, w5, w6⟩, wt, wn, wq⟩ := id hW
  obtain ⟨-, -, hnm, -, -⟩ := wt t ht
  unfold vaF
  rcases hnm with h | ⟨n, h1, h2⟩
  · rw [if_pos (by rw [h]; decide)]
    have : (1 : Int32).toInt = 1 := rfl
    omega
  · rw [if_neg (by rw [h2]; exact nI_pos (by omega)), h2, nI_clamp (by omega)]
    exact hn n h1
theorem sum_bd {a : Nat → Nat} {b nu : Nat → Nat → Int32} (hW : WF a b nu) {num : Nat → Int32} (hn : ∀ n, n < a 4 → -100 ≤ (num n).toInt ∧ (num n).toInt ≤ 100) (plan row : Int32) : ∀ t, t ≤ a 5 → -(2000 * (t : Int)) ≤ (sumF b num plan row t).toInt ∧ (sumF b num plan row t).toInt ≤ 2000 * (t : Int) := by
  obtain ⟨⟨w0, ⟨w1, w1'⟩, w2, w3, w4, w5, w6⟩, wt, wn, wq⟩ := id hW
  intro t
  induction t with
  | zero =>
    intro _
    have : (sumF b num plan row 0).toInt = 0 := rfl
    omega
  | succ t ih =>
    intro ht
    have ih := ih (by omega)
    obtain ⟨-, -, -, f1, f2⟩ := wt t (by omega)
    obtain ⟨v1, v2⟩ := va_bd hW hn (t := t) (by omega)
    obtain ⟨m1, m2⟩ := abs_mul_le (a := 20) (b := 100) (by decide) (by decide) (by omega) f2 (by omega) v2
    simp only [sumF]
    cases onF b plan row t with
    | false =>
      simp only [Bool.false_eq_true, if_false]
      omega
    | true =>
      simp only [if_true]
      have e1 : (b 15 t * vaF b num t).toInt = (b 15 t).toInt * (vaF b num t).toInt := i32_mul (by omega) (by omega)
      rw [i32_add (by rw [e1]; omega) (by rw [e1]; omega), e1]
      omega
theorem co_bd {a : Nat → Nat} {b nu : Nat → Nat → Int32} (hW : WF a b nu) (plan : Int32) {i : Nat} (hi : i < a 6) : -80000 ≤ (coF a b nu plan i).toInt ∧ (coF a b nu plan i).toInt ≤ 80000 := by
  obtain ⟨⟨w0, ⟨w1, w1'⟩, w2, w3, w4, w5, w6⟩, wt, wn, wq⟩ := id hW
  have := sum_bd hW (wq i hi).2.2.2 plan (-1) (a 5) (Nat.le_refl _)
  unfold coF
  omega
theorem none_int : (-1000000003 : Int32).toInt = -1000000003 := by decide
theorem co_nn {a : Nat → Nat} {b nu : Nat → Nat → Int32} (hW : WF a b nu) (plan : Int32) {i : Nat} (hi : i < a 6) : ¬ coF a b nu plan i = -1000000003 := fun e => by
  have := co_bd hW plan hi
  rw [e, none_int] at this
  omega
theorem to_bd {a : Nat → Nat} {b nu : Nat → Nat → Int32} (hW : WF a b nu) (first : Int32) : ∀ i, i ≤ a 6 → ∀ v, toS a b nu first i = some v → -(8000000 * (i : Int)) ≤ v.toInt ∧ v.toInt ≤ 8000000 * (i : Int) := by
  obtain ⟨⟨w0, ⟨w1, w1'⟩, w2, w3, w4, w5, w6⟩, wt, wn, wq⟩ := id hW
  intro i
  induction i with
  | zero =>
    intro _ v h
    cases h
    decide
  | succ i ih =>
    intro hi v h
    cases ht : toS a b nu first i with
    | none => simp [toS, ht] at h
    | some u =>
      have hu := ih (by omega) u ht
      by_cases hk : b 17 i = 0
      · by_cases ha : ansF a b nu first i = -1000000003
        · simp [toS, ht, hk, ha] at h
        · rw [toS_s ht hk ha] at h
          cases h
          obtain ⟨c1, c2⟩ := co_bd hW (ansF a b nu first i) (i := i) (by omega)
          obtain ⟨o1, o2, -, -⟩ := wq i (by omega)
          obtain ⟨m1, m2⟩ := abs_mul_le (a := 100) (b := 80000) (by decide) (by decide) (by omega) o2 (by omega) c2
          have e1 : (b 16 i * coF a b nu (ansF a b nu first i) i).toInt = (b 16 i).toInt * (coF a b nu (ansF a b nu first i) i).toInt := i32_mul (by omega) (by omega)
          rw [i32_add (by rw [e1]; omega) (by rw [e1]; omega), e1]
          omega
      · rw [toS_k ht hk] at h
        cases h
        omega
theorem to_nn {a : Nat → Nat} {b nu : Nat → Nat → Int32} (hW : WF a b nu) {first : Int32} : toF a b nu first = -1000000003 ↔ toS a b nu first (a 6) = none := by
  obtain ⟨⟨w0, ⟨w1, w1'⟩, w2, w3, w4, w5, w6⟩, wt, wn, wq⟩ := id hW
  unfold toF
  cases h : toS a b nu first (a 6) with
  | none => simp [opN]
  | some v =>
    have := to_bd hW first (a 6) (Nat.le_refl _) v h
    refine ⟨fun e => ?_, fun e => by cases e⟩
    have e : v = -1000000003 := e
    rw [e, none_int] at this
    omega
/-- where the total has all answers, so has the regret, and the other way round -/
theorem to_rg {a : Nat → Nat} {b nu : Nat → Nat → Int32} {be : Nat → Int32} {first : Int32} : ∀ i, (toS a b nu first i = none ↔ rgS a b nu be first i = none) := by
  intro i
  induction i with
  | zero => simp [toS, rgS]
  | succ i ih =>
    cases ht : toS a b nu first i with
    | none =>
      have hr := ih.mp ht
      simp [toS, rgS, ht, hr]
    | some u =>
      cases hr : rgS a b nu be first i with
      | none => rw [ih.mpr hr] at ht; cases ht
      | some w =>
        simp only [toS, rgS, ht, hr]
        by_cases hk : b 17 i = 0
        · by_cases ha : ansF a b nu first i = -1000000003
          · simp [hk, ha]
          · simp [hk, ha]
        · simp [hk]
theorem rg_pos {a : Nat → Nat} {b nu : Nat → Nat → Int32} {be : Nat → Int32} {first : Int32} : ∀ i v, rgS a b nu be first i = some v → 0 ≤ v := by
  intro i
  induction i with
  | zero => intro v h; cases h; decide
  | succ i ih =>
    intro v h
    cases hr : rgS a b nu be first i with
    | none => simp [rgS, hr] at h
    | some w =>
      have hw := ih w hr
      by_cases hk : b 17 i = 0
      · by_cases ha : ansF a b nu first i = -1000000003
        · simp [rgS, hr, hk, ha] at h
        · rw [rgS_s hr hk ha] at h
          cases h
          by_cases hc : w < coF a b nu (ansF a b nu first i) i - be i
          · rw [if_pos hc]; exact Int32.le_of_lt (Int32.lt_of_le_of_lt hw hc)
          · rw [if_neg hc]; exact hw
      · rw [rgS_k hr hk] at h
        cases h
        exact hw
theorem rg_ans {a : Nat → Nat} {b nu : Nat → Nat → Int32} {be : Nat → Int32} {first v : Int32} {i n : Nat} (h : rgS a b nu be first n = some v) (hi : i < n) (hk : b 17 i = 0) : ¬ ansF a b nu first i = -1000000003 := fun ha => by
  cases hr : rgS a b nu be first i with
  | none =>
    have : ∀ k, rgS a b nu be first (i + k) = none := by
      intro k
      induction k with
      | zero => exact hr
      | succ k ih => rw [← Nat.add_assoc]; simp only [rgS]; rw [ih]
    rw [← show i + (n - i) = n by omega, this] at h
    cases h
  | some w =>
    have := rgS_n hr hk ha (n - (i + 1))
    rw [show i + 1 + (n - (i + 1)) = n by omega, h] at this
    cases this
end
section
theorem min_spec {ok : Nat → Bool} {key : Nat → Int32} : ∀ n, (∀ s, s < n → ok s = true → ¬ key s = -1000000003) → (minS ok key n = -1000000003 ∧ ∀ s, s < n → ok s = false) ∨ (∃ s, s < n ∧ ok s = true ∧ minS ok key n = key s ∧ ∀ t, t < n → ok t = true → key s ≤ key t) := by
  intro n
  induction n with
  | zero => intro _; exact Or.inl ⟨rfl, fun s hs => absurd hs (Nat.not_lt_zero s)⟩
  | succ n ih =>
    intro hk
    rcases ih (fun s hs => hk s (by omega)) with ⟨h1, h2⟩ | ⟨s, h1, h2, h3, h4⟩
    · cases ho : ok n with
      | false =>
        refine Or.inl ⟨min_n h1 ho, fun s hs => ?_⟩
        by_cases e : s = n
        · subst e; exact ho
        · exact h2 s (by omega)
      | true =>
        refine Or.inr ⟨n, by omega, ho, min_t h1 ho (Or.inl rfl), fun t ht hto => ?_⟩
        by_cases e : t = n
        · subst e; exact Int32.le_refl _
        · rw [h2 t (by omega)] at hto; cases hto
    · cases ho : ok n with
      | false =>
        refine Or.inr ⟨s, by omega, h2, min_n h3 ho, fun t ht hto => ?_⟩
        by_cases e : t = n
        · subst e; rw [ho] at hto; cases hto
        · exact h4 t (by omega) hto
      | true =>
        by_cases hl : key n < key s
        · refine Or.inr ⟨n, by omega, ho, min_t h3 ho (Or.inr hl), fun t ht hto => ?_⟩
          by_cases e : t = n
          · subst e; exact Int32.le_refl _
          · exact Int32.le_of_lt (Int32.lt_of_lt_of_le hl (h4 t (by omega) hto))
        · refine Or.inr ⟨s, by omega, h2, min_f h3 (hk s (by omega) h2) hl, fun t ht hto => ?_⟩
          by_cases e : t = n
          · subst e; exact Int32.not_lt.mp hl
          · exact h4 t (by omega) hto
theorem sel_spec {ok : Nat → Bool} {key val : Nat → Int32} : ∀ n, (∀ s, s < n → ok s = true → ¬ val s = -1000000003) → (selS ok key val n = (-1000000003, 0) ∧ ∀ s, s < n → ok s = false) ∨ (∃ s, s < n ∧ ok s = true ∧ selS ok key val n = (val s, key s) ∧ ∀ t, t < n → ok t = true → key s ≤ key t) := by
  intro n
  induction n with
  | zero => intro _; exact Or.inl ⟨rfl, fun s hs => absurd hs (Nat.not_lt_zero s)⟩
  | succ n ih =>
    intro hk
    rcases ih (fun s hs => hk s (by omega)) with ⟨h1, h2⟩ | ⟨s, h1, h2, h3, h4⟩
    · cases ho : ok n with
      | false =>
        refine Or.inl ⟨sel_n h1 ho, fun s hs => ?_⟩
        by_cases e : s = n
        · subst e; exact ho
        · exact h2 s (by omega)
      | true =>
        refine Or.inr ⟨n, by omega, ho, sel_t h1 ho (Or.inl rfl), fun t ht hto => ?_⟩
        by_cases e : t = n
        · subst e; exact Int32.le_refl _
        · rw [h2 t (by omega)] at hto; cases hto
    · cases ho : ok n with
      | false =>
        refine Or.inr ⟨s, by omega, h2, sel_n h3 ho, fun t ht hto => ?_⟩
        by_cases e : t = n
        · subst e; rw [ho] at hto; cases hto
        · exact h4 t (by omega) hto
      | true =>
        by_cases hl : key n < key s
        · refine Or.inr ⟨n, by omega, ho, sel_t h3 ho (Or.inr hl), fun t ht hto => ?_⟩
          by_cases e : t = n
          · subst e; exact Int32.le_refl _
          · exact Int32.le_of_lt (Int32.lt_of_lt_of_le hl (h4 t (by omega) hto))
        · refine Or.inr ⟨s, by omega, h2, sel_f h3 (hk s (by omega) h2) hl, fun t ht hto => ?_⟩
          by_cases e : t = n
          · subst e; exact Int32.not_lt.mp hl
          · exact h4 t (by omega) hto
theorem pl_nat : ∀ F, F < 7 → ∀ s, s < 16 → ∀ f, f < 2 ^ F → nI f ||| (nI s <<< (nI F &&& 31)) = nI (f + s * 2 ^ F) := by decide +kernel
theorem plF_nat {a : Nat → Nat} {b nu : Nat → Nat → Int32} (hW : WF a b nu) {f s : Nat} (hf : f < 2 ^ a 1) (hs : s < 2 ^ a 2) : plF a (nI f) s = nI (f + s * 2 ^ a 1) := by
  obtain ⟨⟨w0, ⟨w1, w1'⟩, w2, w3, w4, w5, w6⟩, wt, wn, wq⟩ := id hW
  have : 2 ^ a 2 ≤ 2 ^ 4 := Nat.pow_le_pow_right (by decide) w2
  exact pl_nat (a 1) (by omega) s (by omega) f hf
theorem pl_lt {F S f s : Nat} (hf : f < 2 ^ F) (hs : s < 2 ^ S) : f + s * 2 ^ F < 2 ^ (F + S) := by
  rw [Nat.pow_add]
  calc f + s * 2 ^ F < 2 ^ F + s * 2 ^ F := by omega
    _ = (s + 1) * 2 ^ F := by rw [Nat.add_mul]; omega
    _ ≤ 2 ^ S * 2 ^ F := Nat.mul_le_mul_right _ hs
    _ = 2 ^ F * 2 ^ S := Nat.mul_comm _ _
/-- the answers of all first parts give the best of a future -/
def boF (a : Nat → Nat) (b nu : Nat → Nat → Int32) (i : Nat) : Int32 := minS (fun f => !decide (ansF a b nu (nI f) i = -1000000003)) (fun f => coF a b nu (ansF a b nu (nI f) i) i) (2 ^ a 1)
theorem ans_spec {a : Nat → Nat} {b nu : Nat → Nat → Int32} (hW : WF a b nu) {i f : Nat} (hf : f < 2 ^ a 1) : (ansF a b nu (nI f) i = -1000000003 ∧ ∀ s, s < 2 ^ a 2 → hoF a b nu (nI (f + s * 2 ^ a 1)) i = false) ∨ (∃ s, s < 2 ^ a 2 ∧ hoF a b nu (nI (f + s * 2 ^ a 1)) i = true ∧ ansF a b nu (nI f) i = nI (f + s * 2 ^ a 1) ∧ ∀ t, t < 2 ^ a 2 → hoF a b nu (nI (f + t * 2 ^ a 1)) i = true → coF a b nu (nI (f + s * 2 ^ a 1)) i ≤ coF a b nu (nI (f + t * 2 ^ a 1)) i) := by
  obtain ⟨⟨w0, ⟨w1, w1'⟩, w2, w3, w4, w5, w6⟩, wt, wn, wq⟩ := id hW
  have hb : 2 ^ (a 1 + a 2) ≤ 1024 := p2_le (by omega)
  have hnn : ∀ s, s < 2 ^ a 2 → ¬ plF a (nI f) s = -1000000003 := fun s hs => by
    rw [plF_nat hW hf hs]
    have := pl_lt hf hs
    exact nI_none (by omega)
  unfold ansF
  rcases sel_spec (ok := fun s => hoF a b nu (plF a (nI f) s) i) (key := fun s => coF a b nu (plF a (nI f) s) i) (val := plF a (nI f)) (2 ^ a 2) (fun s hs _ => hnn s hs) with ⟨h1, h2⟩ | ⟨s, h1, h2, h3, h4⟩
  · refine Or.inl ⟨by rw [h1], fun s hs => ?_⟩
    rw [← plF_nat hW hf hs]
    exact h2 s hs
  · refine Or.inr ⟨s, h1, ?_, ?_, fun t ht hto => ?_⟩
    · rw [← plF_nat hW hf h1]; exact h2
    · rw [h3, ← plF_nat hW hf h1]
    · rw [← plF_nat hW hf h1, ← plF_nat hW hf ht]
      rw [← plF_nat hW hf ht] at hto
      exact h4 t ht hto
theorem bo_lc {a : Nat → Nat} {b nu : Nat → Nat → Int32} (hW : WF a b nu) {i : Nat} (hi : i < a 6) : boF a b nu i = lcF a b nu i := by
  obtain ⟨⟨w0, ⟨w1, w1'⟩, w2, w3, w4, w5, w6⟩, wt, wn, wq⟩ := id hW
  have hp : 0 < 2 ^ a 1 := Nat.pow_pos (by decide)
  have split : ∀ p, p < 2 ^ (a 1 + a 2) → p % 2 ^ a 1 < 2 ^ a 1 ∧ p / 2 ^ a 1 < 2 ^ a 2 ∧ p % 2 ^ a 1 + p / 2 ^ a 1 * 2 ^ a 1 = p := fun p h => by
    rw [Nat.pow_add] at h
    refine ⟨Nat.mod_lt _ hp, (Nat.div_lt_iff_lt_mul hp).mpr (by rw [Nat.mul_comm]; exact h), ?_⟩
    rw [Nat.mul_comm]; exact Nat.mod_add_div p (2 ^ a 1)
  unfold boF lcF
  have A := min_spec (ok := fun f => !decide (ansF a b nu (nI f) i = -1000000003)) (key := fun f => coF a b nu (ansF a b nu (nI f) i) i) (2 ^ a 1) (fun s _ _ => co_nn hW _ hi)
  have B := min_spec (ok := fun p => hoF a b nu (nI p) i) (key := fun p => coF a b nu (nI p) i) (2 ^ (a 1 + a 2)) (fun s _ _ => co_nn hW _ hi)
  rcases A with ⟨h1, h2⟩ | ⟨f, h1, h2, h3, h4⟩
  · rcases B with ⟨g1, -⟩ | ⟨p, g1, g2, g3, g4⟩
    · rw [h1, g1]
    · exfalso
      obtain ⟨s1, s2, s3⟩ := split p g1
      rcases ans_spec hW (i := i) s1 with ⟨q1, q2⟩ | ⟨s, q1, q2, q3, q4⟩
      · have := q2 _ s2
        rw [s3] at this
        rw [show hoF a b nu (nI p) i = true from g2] at this
        cases this
      · have := h2 _ s1
        have hn : ¬ ansF a b nu (nI (p % 2 ^ a 1)) i = -1000000003 := by
          rw [q3]
          have := pl_lt s1 q1
          have hb : 2 ^ (a 1 + a 2) ≤ 1024 := p2_le (by omega)
          exact nI_none (by omega)
        simp [hn] at this
  · have hn : ¬ ansF a b nu (nI f) i = -1000000003 := by
      have h2 : (!decide (ansF a b nu (nI f) i = -1000000003)) = true := h2
      simpa using h2
    rcases ans_spec hW (i := i) h1 with ⟨q1, q2⟩ | ⟨s, q1, q2, q3, q4⟩
    · exact absurd q1 hn
    · rcases B with ⟨-, g2⟩ | ⟨p, g1, g2, g3, g4⟩
      · have := g2 _ (pl_lt h1 q1)
        rw [show hoF a b nu (nI (f + s * 2 ^ a 1)) i = true from q2] at this
        cases this
      · rw [h3, g3]
        refine Int32.le_antisymm ?_ ?_
        · obtain ⟨s1, s2, s3⟩ := split p g1
          rcases ans_spec hW (i := i) s1 with ⟨r1, r2⟩ | ⟨s', r1, r2, r3, r4⟩
          · have := r2 _ s2
            rw [s3] at this
            rw [show hoF a b nu (nI p) i = true from g2] at this
            cases this
          · have hn2 : ¬ ansF a b nu (nI (p % 2 ^ a 1)) i = -1000000003 := by
              rw [r3]
              have := pl_lt s1 r1
              have hb : 2 ^ (a 1 + a 2) ≤ 1024 := p2_le (by omega)
              exact nI_none (by omega)
            have k1 := h4 _ s1 (by simp [hn2])
            have k2 := r4 _ s2 (by rw [s3]; exact g2)
            rw [s3] at k2
            refine Int32.le_trans k1 ?_
            show coF a b nu (ansF a b nu (nI (p % 2 ^ a 1)) i) i ≤ _
            rw [r3]
            exact k2
        · have := g4 _ (pl_lt h1 q1) q2
          show coF a b nu (nI p) i ≤ coF a b nu (ansF a b nu (nI f) i) i
          rw [q3]
          exact this
end
section
theorem n_X4_holds_X4 : ∀ w ∈ wsX40, w ∈ wsX4_holds := by decide +kernel
set_option maxHeartbeats 4000000 in
set_option maxRecDepth 100000 in
theorem c_X4_holds {l : Launch} {D : va_G} {cI cZ cQ : ClassId} {ad : Nat → Nat} {np : Nat} {x : Nat → Nat} {g : Nat → Nat → Int32} (hnp : 41 ≤ np) {a : Nat → Nat} {b nu : Nat → Nat → Int32} (hM : RM x g a b nu) (hW : WF a b nu) {plan : Int32} {i0 : Nat} (hi0 : i0 < a 6) : Cn l D cI cZ cQ ad np 2 yX4_holds wsX4_holds [.ref (ad 27), .int plan, .int (nI i0)] x g (rp (bI (hoF a b nu plan i0)) x g) := by
  refine cn_of (own := RX4) (by decide) rfl rfl (by simp [Value.category]) (Nat.le_of_ble_eq_true rfl) ?_
  intro p e s m args below meth c A Q C HR HV
  obtain ⟨⟨e0, e1, e2, e3, e4, e5, e6⟩, hg, hnu⟩ := id hM
  obtain ⟨⟨w0, ⟨w1, w1'⟩, w2, w3, w4, w5, w6⟩, wt, wn, wq⟩ := id hW
  have b9 : g 28 = b 9 := hg 9 (by decide) (by decide)
  have b10 : g 29 = b 10 := hg 10 (by decide) (by decide)
  have b11 : g 30 = b 11 := hg 11 (by decide) (by decide)
  have b12 : g 31 = b 12 := hg 12 (by decide) (by decide)
  have b13 : g 32 = b 13 := hg 13 (by decide) (by decide)
  have b14 : g 33 = b 14 := hg 14 (by decide) (by decide)
  have b15 : g 34 = b 15 := hg 15 (by decide) (by decide)
  have b16 : g 35 = b 16 := hg 16 (by decide) (by decide)
  have b17 : g 36 = b 17 := hg 17 (by decide) (by decide)
  have hL : ∀ (n : Nat) (i : Nat), i ≤ a 0 → a 0 - i < n → hoN a b (nu i0) plan i = true → J p l e (Rm 2) s m args below meth c 0 0 D cI cZ cQ ad np A 4 Q x g 2 [some (.ref (ad 27)), some (.int plan), some (.int (nI i0)), some (.int (nI i))] [] := by
    intro n
    induction n with
    | zero => intros; omega
    | succ n ih =>
      intro i h1 h2 hv
      refine j_iload_n C dX4_holds_2 rfl ?_
      refine j_aload_n C dX4_holds_3 rfl ?_
      refine jg_X4_rows C dX4_holds_4 n_X4_holds_X4 (by decide +kernel) (Nat.lt_of_lt_of_le (by decide) hnp) ?_
      refine j_icmp_ge C 28 dX4_holds_7 (by decide) (fun hc => ?_) (fun hc => ?_)
      · have he : i = a 0 := by have := (nI_leI (by omega) (by omega)).mp hc; omega
        subst he
        refine j_iconst (v := 1) C dX4_holds_28 rfl ?_
        exact HR _ _ _ _ _ _ rfl rfl dX4_holds_29 ⟨_, rfl, by unfold hoF; rw [hv]; rfl, rfl, rfl⟩
      · have hlt : i < a 0 := by have := mt (nI_leI (by omega) (by omega)).mpr hc; omega
        refine j_aload_n C dX4_holds_10 rfl ?_
        refine j_iload_n C dX4_holds_11 rfl ?_
        refine j_iload_n C dX4_holds_12 rfl ?_
        refine j_iload_n C dX4_holds_13 rfl ?_
        refine jVp3 (ci := 4) C dX4_holds_14 gX4_holds_X4_sum rfl pd_X4_sum ⟨by decide, by decide⟩ (Nat.lt_of_lt_of_le (by decide) hnp) rfl rfl rfl (Nat.le_of_ble_eq_true rfl) (c_X4_sum (num := nu i0) hnp hM hW (Or.inr ⟨i0, hi0, rfl, rfl⟩)) ?_
        refine j_if_le C 22 dX4_holds_17 (by decide) (fun hc17 => ?_) (fun hc17 => ?_)
        · refine j_iincN (n := 1) C dX4_holds_22 rfl (by decide) ?_
          refine j_goto C 2 dX4_holds_25 (by decide) ?_
          exact ih (i + 1) (by omega) (by omega) (by unfold hoN; rw [hv, decide_eq_false (Int32.not_lt.mpr hc17)]; rfl)
        · refine j_iconst (v := 0) C dX4_holds_20 rfl ?_
          exact HR _ _ _ _ _ _ rfl rfl dX4_holds_21 ⟨_, rfl, by unfold hoF; rw [hoN_f (Int32.not_le.mp hc17) _ hlt]; rfl, rfl, rfl⟩
  refine j_iconst (v := 0) C dX4_holds_0 rfl ?_
  refine j_istore_n C dX4_holds_1 (by decide) ?_
  exact hL (a 0 + 1) 0 (by omega) (by omega) rfl
theorem n_X4_answerTo_X4 : ∀ w ∈ wsX40, w ∈ wsX4_answerTo := by decide +kernel
set_option maxHeartbeats 4000000 in
set_option maxRecDepth 100000 in
theorem c_X4_answerTo {l : Launch} {D : va_G} {cI cZ cQ : ClassId} {ad : Nat → Nat} {np : Nat} {x : Nat → Nat} {g : Nat → Nat → Int32} (hnp : 41 ≤ np) {a : Nat → Nat} {b nu : Nat → Nat → Int32} (hM : RM x g a b nu) (hW : WF a b nu) {first : Int32} {i0 : Nat} (hi0 : i0 < a 6) : Cn l D cI cZ cQ ad np 3 yX4_answerTo wsX4_answerTo [.ref (ad 27), .int first, .int (nI i0)] x g (rp (ansF a b nu first i0) x g) := by
  refine cn_of (own := RX4) (by decide) rfl rfl (by simp [Value.category]) (Nat.le_of_ble_eq_true rfl) ?_
  intro p e s m args below meth c A Q C HR HV
  obtain ⟨⟨e0, e1, e2, e3, e4, e5, e6⟩, hg, hnu⟩ := id hM
  obtain ⟨⟨w0, ⟨w1, w1'⟩, w2, w3, w4, w5, w6⟩, wt, wn, wq⟩ := id hW
  have b9 : g 28 = b 9 := hg 9 (by decide) (by decide)
  have b10 : g 29 = b 10 := hg 10 (by decide) (by decide)
  have b11 : g 30 = b 11 := hg 11 (by decide) (by decide)
  have b12 : g 31 = b 12 := hg 12 (by decide) (by decide)
  have b13 : g 32 = b 13 := hg 13 (by decide) (by decide)
  have b14 : g 33 = b 14 := hg 14 (by decide) (by decide)
  have b15 : g 34 = b 15 := hg 15 (by decide) (by decide)
  have b16 : g 35 = b 16 := hg 16 (by decide) (by decide)
  have b17 : g 36 = b 17 := hg 17 (by decide) (by decide)
  obtain ⟨N, hN⟩ : ∃ N, N = 2 ^ (a 2) := ⟨_, rfl⟩
  have hN2 : N ≤ 1024 := by rw [hN]; exact p2_le (by omega)
  have hL : ∀ (n : Nat) (i : Nat) (v v2 : Int32), i ≤ N → N - i < n → selS (fun s => hoF a b nu (plF a first s) i0) (fun s => coF a b nu (plF a first s) i0) (plF a first) i = (v, v2) → J p l e (Rm 3) s m args below meth c 0 0 D cI cZ cQ ad np A 9 Q x g 9 [some (.ref (ad 27)), some (.int first), some (.int (nI i0)), some (.int v), some (.int v2), some (.int (nI i)), none, none, none] [] := by
    intro n
    induction n with
    | zero => intros; omega
    | succ n ih =>
      intro i v v2 h1 h2 hv
      refine j_iload C dX4_answerTo_9 rfl ?_
      refine j_iconst (v := 1) C dX4_answerTo_11 rfl ?_
      refine j_aload_n C dX4_answerTo_12 rfl ?_
      refine jg_X4_seconds C dX4_answerTo_13 n_X4_answerTo_X4 (by decide +kernel) (Nat.lt_of_lt_of_le (by decide) hnp) ?_
      refine j_ishl C dX4_answerTo_16 ?_
      rw [e2, fcF_eq (by omega), ← hN]
      refine j_icmp_ge C 103 dX4_answerTo_17 (by decide) (fun hc => ?_) (fun hc => ?_)
      · have he : i = N := by have := (nI_leI (by omega) (by omega)).mp hc; omega
        subst he
        refine j_iload_n C dX4_answerTo_103 rfl ?_
        exact HR _ _ _ _ _ _ rfl rfl dX4_answerTo_104 ⟨_, rfl, by unfold ansF; rw [← hN, hv], rfl, rfl⟩
      · have hlt : i < N := by have := mt (nI_leI (by omega) (by omega)).mpr hc; omega
        refine j_iload_n C dX4_answerTo_20 rfl ?_
        refine j_iload C dX4_answerTo_21 rfl ?_
        refine j_aload_n C dX4_answerTo_23 rfl ?_
        refine jg_X4_firsts C dX4_answerTo_24 n_X4_answerTo_X4 (by decide +kernel) (Nat.lt_of_lt_of_le (by decide) hnp) ?_
        refine j_ishl C dX4_answerTo_27 ?_
        refine j_ior C dX4_answerTo_28 ?_
        rw [e1]
        refine j_eqi (v := plF a first i) rfl ?_
        refine j_istore C dX4_answerTo_29 (by decide) ?_
        refine j_aload_n C dX4_answerTo_31 rfl ?_
        refine j_iload C dX4_answerTo_32 rfl ?_
        refine j_iload_n C dX4_answerTo_34 rfl ?_
        refine jVp2 (ci := 4) C dX4_answerTo_35 gX4_answerTo_X4_holds rfl pd_X4_holds ⟨by decide, by decide⟩ (Nat.lt_of_lt_of_le (by decide) hnp) rfl rfl rfl (Nat.le_of_ble_eq_true rfl) (c_X4_holds hnp hM hW hi0) ?_
        refine j_if_eq C 97 dX4_answerTo_38 (by decide) (fun hc38 => ?_) (fun hc38 => ?_)
        · refine j_iincN (n := 1) C dX4_answerTo_97 rfl (by decide) ?_
          refine j_goto C 9 dX4_answerTo_100 (by decide) ?_
          refine j_drop 6 ?_
          refine j_drop 7 ?_
          refine j_drop 8 ?_
          first
          | exact ih (i + 1) _ _ (by omega) (by omega) (sel_n hv (bI_0.mp hc38))
          | exact ih (i + 1) _ _ (by omega) (by omega) (sel_t hv (bI_n0.mp hc38) (Or.inl hc54))
          | exact ih (i + 1) _ _ (by omega) (by omega) (sel_t hv (bI_n0.mp hc38) (Or.inr (Int32.not_le.mp hc61)))
          | exact ih (i + 1) _ _ (by omega) (by omega) (sel_f hv hc54 (Int32.not_lt.mpr hc61))
        · refine j_aload_n C dX4_answerTo_41 rfl ?_
          refine j_iload C dX4_answerTo_42 rfl ?_
          refine j_iconst (v := (-1)) C dX4_answerTo_44 rfl ?_
          refine j_iload_n C dX4_answerTo_45 rfl ?_
          refine jVp3 (ci := 4) C dX4_answerTo_46 gX4_answerTo_X4_sum rfl pd_X4_sum ⟨by decide, by decide⟩ (Nat.lt_of_lt_of_le (by decide) hnp) rfl rfl rfl (Nat.le_of_ble_eq_true rfl) (c_X4_sum (num := nu i0) hnp hM hW (Or.inr ⟨i0, hi0, rfl, rfl⟩)) ?_
          refine j_istore C dX4_answerTo_49 (by decide) ?_
          refine j_iload_n C dX4_answerTo_51 rfl ?_
          refine j_ldc (v := (-1000000003)) C dX4_answerTo_52 (by decide +kernel) ?_
          refine j_icmp_eq C 64 dX4_answerTo_54 (by decide) (fun hc54 => ?_) (fun hc54 => ?_)
          · refine j_iconst (v := 1) C dX4_answerTo_64 rfl ?_
            refine j_goto C 69 dX4_answerTo_65 (by decide) ?_
            refine j_istore C dX4_answerTo_69 (by decide) ?_
            refine j_iload C dX4_answerTo_71 rfl ?_
            refine j_if_eq C 81 dX4_answerTo_73 (by decide) (fun hc73 => ?_) (fun hc73 => ?_)
            · exact absurd hc73 (by decide)
            · refine j_iload C dX4_answerTo_76 rfl ?_
              refine j_goto C 82 dX4_answerTo_78 (by decide) ?_
              refine j_istore_n C dX4_answerTo_82 (by decide) ?_
              refine j_iload C dX4_answerTo_83 rfl ?_
              refine j_if_eq C 93 dX4_answerTo_85 (by decide) (fun hc85 => ?_) (fun hc85 => ?_)
              · exact absurd hc85 (by decide)
              · refine j_iload C dX4_answerTo_88 rfl ?_
                refine j_goto C 95 dX4_answerTo_90 (by decide) ?_
                refine j_istore C dX4_answerTo_95 (by decide) ?_
                refine j_iincN (n := 1) C dX4_answerTo_97 rfl (by decide) ?_
                refine j_goto C 9 dX4_answerTo_100 (by decide) ?_
                refine j_drop 6 ?_
                refine j_drop 7 ?_
                refine j_drop 8 ?_
                first
                | exact ih (i + 1) _ _ (by omega) (by omega) (sel_n hv (bI_0.mp hc38))
                | exact ih (i + 1) _ _ (by omega) (by omega) (sel_t hv (bI_n0.mp hc38) (Or.inl hc54))
                | exact ih (i + 1) _ _ (by omega) (by omega) (sel_t hv (bI_n0.mp hc38) (Or.inr (Int32.not_le.mp hc61)))
                | exact ih (i + 1) _ _ (by omega) (by omega) (sel_f hv hc54 (Int32.not_lt.mpr hc61))
          · refine j_iload C dX4_answerTo_57 rfl ?_
            refine j_iload C dX4_answerTo_59 rfl ?_
            refine j_icmp_ge C 68 dX4_answerTo_61 (by decide) (fun hc61 => ?_) (fun hc61 => ?_)
            · refine j_iconst (v := 0) C dX4_answerTo_68 rfl ?_
              refine j_istore C dX4_answerTo_69 (by decide) ?_
              refine j_iload C dX4_answerTo_71 rfl ?_
              refine j_if_eq C 81 dX4_answerTo_73 (by decide) (fun hc73 => ?_) (fun hc73 => ?_)
              · refine j_iload_n C dX4_answerTo_81 rfl ?_
                refine j_istore_n C dX4_answerTo_82 (by decide) ?_
                refine j_iload C dX4_answerTo_83 rfl ?_
                refine j_if_eq C 93 dX4_answerTo_85 (by decide) (fun hc85 => ?_) (fun hc85 => ?_)
                · refine j_iload C dX4_answerTo_93 rfl ?_
                  refine j_istore C dX4_answerTo_95 (by decide) ?_
                  refine j_iincN (n := 1) C dX4_answerTo_97 rfl (by decide) ?_
                  refine j_goto C 9 dX4_answerTo_100 (by decide) ?_
                  refine j_drop 6 ?_
                  refine j_drop 7 ?_
                  refine j_drop 8 ?_
                  first
                  | exact ih (i + 1) _ _ (by omega) (by omega) (sel_n hv (bI_0.mp hc38))
                  | exact ih (i + 1) _ _ (by omega) (by omega) (sel_t hv (bI_n0.mp hc38) (Or.inl hc54))
                  | exact ih (i + 1) _ _ (by omega) (by omega) (sel_t hv (bI_n0.mp hc38) (Or.inr (Int32.not_le.mp hc61)))
                  | exact ih (i + 1) _ _ (by omega) (by omega) (sel_f hv hc54 (Int32.not_lt.mpr hc61))
                · exact absurd rfl hc85
              · exact absurd rfl hc73
            · refine j_iconst (v := 1) C dX4_answerTo_64 rfl ?_
              refine j_goto C 69 dX4_answerTo_65 (by decide) ?_
              refine j_istore C dX4_answerTo_69 (by decide) ?_
              refine j_iload C dX4_answerTo_71 rfl ?_
              refine j_if_eq C 81 dX4_answerTo_73 (by decide) (fun hc73 => ?_) (fun hc73 => ?_)
              · exact absurd hc73 (by decide)
              · refine j_iload C dX4_answerTo_76 rfl ?_
                refine j_goto C 82 dX4_answerTo_78 (by decide) ?_
                refine j_istore_n C dX4_answerTo_82 (by decide) ?_
                refine j_iload C dX4_answerTo_83 rfl ?_
                refine j_if_eq C 93 dX4_answerTo_85 (by decide) (fun hc85 => ?_) (fun hc85 => ?_)
                · exact absurd hc85 (by decide)
                · refine j_iload C dX4_answerTo_88 rfl ?_
                  refine j_goto C 95 dX4_answerTo_90 (by decide) ?_
                  refine j_istore C dX4_answerTo_95 (by decide) ?_
                  refine j_iincN (n := 1) C dX4_answerTo_97 rfl (by decide) ?_
                  refine j_goto C 9 dX4_answerTo_100 (by decide) ?_
                  refine j_drop 6 ?_
                  refine j_drop 7 ?_
                  refine j_drop 8 ?_
                  first
                  | exact ih (i + 1) _ _ (by omega) (by omega) (sel_n hv (bI_0.mp hc38))
                  | exact ih (i + 1) _ _ (by omega) (by omega) (sel_t hv (bI_n0.mp hc38) (Or.inl hc54))
                  | exact ih (i + 1) _ _ (by omega) (by omega) (sel_t hv (bI_n0.mp hc38) (Or.inr (Int32.not_le.mp hc61)))
                  | exact ih (i + 1) _ _ (by omega) (by omega) (sel_f hv hc54 (Int32.not_lt.mpr hc61))
  refine j_ldc (v := (-1000000003)) C dX4_answerTo_0 (by decide +kernel) ?_
  refine j_istore_n C dX4_answerTo_2 (by decide) ?_
  refine j_iconst (v := 0) C dX4_answerTo_3 rfl ?_
  refine j_istore C dX4_answerTo_4 (by decide) ?_
  refine j_iconst (v := 0) C dX4_answerTo_6 rfl ?_
  refine j_istore C dX4_answerTo_7 (by decide) ?_
  exact hL (N + 1) 0 _ _ (by omega) (by omega) rfl
theorem n_X4_total_X4 : ∀ w ∈ wsX40, w ∈ wsX4_total := by decide +kernel
set_option maxHeartbeats 4000000 in
set_option maxRecDepth 100000 in
theorem c_X4_total {l : Launch} {D : va_G} {cI cZ cQ : ClassId} {ad : Nat → Nat} {np : Nat} {x : Nat → Nat} {g : Nat → Nat → Int32} (hnp : 41 ≤ np) {a : Nat → Nat} {b nu : Nat → Nat → Int32} (hM : RM x g a b nu) (hW : WF a b nu) {first : Int32} : Cn l D cI cZ cQ ad np 4 yX4_total wsX4_total [.ref (ad 27), .int first] x g (rp (toF a b nu first) x g) := by
  refine cn_of (own := RX4) (by decide) rfl rfl (by simp [Value.category]) (Nat.le_of_ble_eq_true rfl) ?_
  intro p e s m args below meth c A Q C HR HV
  obtain ⟨⟨e0, e1, e2, e3, e4, e5, e6⟩, hg, hnu⟩ := id hM
  obtain ⟨⟨w0, ⟨w1, w1'⟩, w2, w3, w4, w5, w6⟩, wt, wn, wq⟩ := id hW
  have b9 : g 28 = b 9 := hg 9 (by decide) (by decide)
  have b10 : g 29 = b 10 := hg 10 (by decide) (by decide)
  have b11 : g 30 = b 11 := hg 11 (by decide) (by decide)
  have b12 : g 31 = b 12 := hg 12 (by decide) (by decide)
  have b13 : g 32 = b 13 := hg 13 (by decide) (by decide)
  have b14 : g 33 = b 14 := hg 14 (by decide) (by decide)
  have b15 : g 34 = b 15 := hg 15 (by decide) (by decide)
  have b16 : g 35 = b 16 := hg 16 (by decide) (by decide)
  have b17 : g 36 = b 17 := hg 17 (by decide) (by decide)
  have hL : ∀ (n : Nat) (i : Nat) (v : Int32), i ≤ a 6 → a 6 - i < n → toS a b nu first i = some v → J p l e (Rm 4) s m args below meth c 0 0 D cI cZ cQ ad np A 5 Q x g 4 [some (.ref (ad 27)), some (.int first), some (.int v), some (.int (nI i)), none] [] := by
    intro n
    induction n with
    | zero => intros; omega
    | succ n ih =>
      intro i v h1 h2 hv
      refine j_iload_n C dX4_total_4 rfl ?_
      refine j_aload_n C dX4_total_5 rfl ?_
      refine jg_X4_futures C dX4_total_6 n_X4_total_X4 (by decide +kernel) (Nat.lt_of_lt_of_le (by decide) hnp) ?_
      refine j_icmp_ge C 63 dX4_total_9 (by decide) (fun hc => ?_) (fun hc => ?_)
      · have he : i = a 6 := by have := (nI_leI (by omega) (by omega)).mp hc; omega
        subst he
        refine j_iload_n C dX4_total_63 rfl ?_
        exact HR _ _ _ _ _ _ rfl rfl dX4_total_64 ⟨_, rfl, by unfold toF; rw [hv]; rfl, rfl, rfl⟩
      · have hlt : i < a 6 := by have := mt (nI_leI (by omega) (by omega)).mpr hc; omega
        refine j_aload_n C dX4_total_12 rfl ?_
        refine jg_X4_kept C dX4_total_13 n_X4_total_X4 (by decide +kernel) (Nat.lt_of_lt_of_le (by decide) hnp) ?_
        refine j_iload_n C dX4_total_16 rfl ?_
        refine j_zald C _ dX4_total_17 (Nat.lt_of_lt_of_le (by decide) hnp) (Or.inr rfl) rfl (by omega) ?_
        rw [b17]
        refine j_if_ne C 57 dX4_total_18 (by decide) (fun hc18 => ?_) (fun hc18 => ?_)
        · refine j_iincN (n := 1) C dX4_total_57 rfl (by decide) ?_
          refine j_goto C 4 dX4_total_60 (by decide) ?_
          refine j_drop 4 ?_
          first
          | exact ih (i + 1) _ (by omega) (by omega) (toS_k hv hc18)
          | exact ih (i + 1) _ (by omega) (by omega) (toS_s hv hc18 hc33)
        · refine j_aload_n C dX4_total_21 rfl ?_
          refine j_iload_n C dX4_total_22 rfl ?_
          refine j_iload_n C dX4_total_23 rfl ?_
          refine jVp2 (ci := 4) C dX4_total_24 gX4_total_X4_answerTo rfl pd_X4_answerTo ⟨by decide, by decide⟩ (Nat.lt_of_lt_of_le (by decide) hnp) rfl rfl rfl (Nat.le_of_ble_eq_true rfl) (c_X4_answerTo hnp hM hW hlt) ?_
          refine j_istore C dX4_total_27 (by decide) ?_
          refine j_iload C dX4_total_29 rfl ?_
          refine j_ldc (v := (-1000000003)) C dX4_total_31 (by decide +kernel) ?_
          refine j_icmp_ne C 39 dX4_total_33 (by decide) (fun hc33 => ?_) (fun hc33 => ?_)
          · refine j_iload_n C dX4_total_39 rfl ?_
            refine j_aload_n C dX4_total_40 rfl ?_
            refine jg_X4_odds C dX4_total_41 n_X4_total_X4 (by decide +kernel) (Nat.lt_of_lt_of_le (by decide) hnp) ?_
            refine j_iload_n C dX4_total_44 rfl ?_
            refine j_iald C _ dX4_total_45 (Nat.lt_of_lt_of_le (by decide) hnp) rfl rfl (show _ < 8 by omega) ?_
            rw [b16]
            refine j_aload_n C dX4_total_46 rfl ?_
            refine j_iload C dX4_total_47 rfl ?_
            refine j_iconst (v := (-1)) C dX4_total_49 rfl ?_
            refine j_iload_n C dX4_total_50 rfl ?_
            refine jVp3 (ci := 4) C dX4_total_51 gX4_total_X4_sum rfl pd_X4_sum ⟨by decide, by decide⟩ (Nat.lt_of_lt_of_le (by decide) hnp) rfl rfl rfl (Nat.le_of_ble_eq_true rfl) (c_X4_sum (num := nu i) hnp hM hW (Or.inr ⟨i, hlt, rfl, rfl⟩)) ?_
            refine j_imul C dX4_total_54 ?_
            refine j_iadd C dX4_total_55 ?_
            refine j_istore_n C dX4_total_56 (by decide) ?_
            refine j_iincN (n := 1) C dX4_total_57 rfl (by decide) ?_
            refine j_goto C 4 dX4_total_60 (by decide) ?_
            refine j_drop 4 ?_
            first
            | exact ih (i + 1) _ (by omega) (by omega) (toS_k hv hc18)
            | exact ih (i + 1) _ (by omega) (by omega) (toS_s hv hc18 hc33)
          · refine j_ldc (v := (-1000000003)) C dX4_total_36 (by decide +kernel) ?_
            exact HR _ _ _ _ _ _ rfl rfl dX4_total_38 ⟨_, rfl, by unfold toF; rw [← show i + 1 + (a 6 - (i + 1)) = a 6 by omega, toS_n hv hc18 hc33]; rfl, rfl, rfl⟩
  refine j_iconst (v := 0) C dX4_total_0 rfl ?_
  refine j_istore_n C dX4_total_1 (by decide) ?_
  refine j_iconst (v := 0) C dX4_total_2 rfl ?_
  refine j_istore_n C dX4_total_3 (by decide) ?_
  exact hL (a 6 + 1) 0 _ (by omega) (by omega) rfl
theorem n_X4_bestOf_X4 : ∀ w ∈ wsX40, w ∈ wsX4_bestOf := by decide +kernel
set_option maxHeartbeats 4000000 in
set_option maxRecDepth 100000 in
theorem c_X4_bestOf {l : Launch} {D : va_G} {cI cZ cQ : ClassId} {ad : Nat → Nat} {np : Nat} {x : Nat → Nat} {g : Nat → Nat → Int32} (hnp : 41 ≤ np) {a : Nat → Nat} {b nu : Nat → Nat → Int32} (hM : RM x g a b nu) (hW : WF a b nu) {i0 : Nat} (hi0 : i0 < a 6) : Cn l D cI cZ cQ ad np 4 yX4_bestOf wsX4_bestOf [.ref (ad 27), .int (nI i0)] x g (rp (lcF a b nu i0) x g) := by
  refine cn_of (own := RX4) (by decide) rfl rfl (by simp [Value.category]) (Nat.le_of_ble_eq_true rfl) ?_
  intro p e s m args below meth c A Q C HR HV
  obtain ⟨⟨e0, e1, e2, e3, e4, e5, e6⟩, hg, hnu⟩ := id hM
  obtain ⟨⟨w0, ⟨w1, w1'⟩, w2, w3, w4, w5, w6⟩, wt, wn, wq⟩ := id hW
  have b9 : g 28 = b 9 := hg 9 (by decide) (by decide)
  have b10 : g 29 = b 10 := hg 10 (by decide) (by decide)
  have b11 : g 30 = b 11 := hg 11 (by decide) (by decide)
  have b12 : g 31 = b 12 := hg 12 (by decide) (by decide)
  have b13 : g 32 = b 13 := hg 13 (by decide) (by decide)
  have b14 : g 33 = b 14 := hg 14 (by decide) (by decide)
  have b15 : g 34 = b 15 := hg 15 (by decide) (by decide)
  have b16 : g 35 = b 16 := hg 16 (by decide) (by decide)
  have b17 : g 36 = b 17 := hg 17 (by decide) (by decide)
  obtain ⟨N, hN⟩ : ∃ N, N = 2 ^ (a 1) := ⟨_, rfl⟩
  have hN2 : N ≤ 1024 := by rw [hN]; exact p2_le (by omega)
  have hL : ∀ (n : Nat) (i : Nat) (v : Int32), i ≤ N → N - i < n → minS (fun f => !decide (ansF a b nu (nI f) i0 = -1000000003)) (fun f => coF a b nu (ansF a b nu (nI f) i0) i0) i = v → J p l e (Rm 4) s m args below meth c 0 0 D cI cZ cQ ad np A 6 Q x g 5 [some (.ref (ad 27)), some (.int (nI i0)), some (.int v), some (.int (nI i)), none, none] [] := by
    intro n
    induction n with
    | zero => intros; omega
    | succ n ih =>
      intro i v h1 h2 hv
      refine j_iload_n C dX4_bestOf_5 rfl ?_
      refine j_iconst (v := 1) C dX4_bestOf_6 rfl ?_
      refine j_aload_n C dX4_bestOf_7 rfl ?_
      refine jg_X4_firsts C dX4_bestOf_8 n_X4_bestOf_X4 (by decide +kernel) (Nat.lt_of_lt_of_le (by decide) hnp) ?_
      refine j_ishl C dX4_bestOf_11 ?_
      rw [e1, fcF_eq (by omega), ← hN]
      refine j_icmp_ge C 76 dX4_bestOf_12 (by decide) (fun hc => ?_) (fun hc => ?_)
      · have he : i = N := by have := (nI_leI (by omega) (by omega)).mp hc; omega
        subst he
        refine j_iload_n C dX4_bestOf_76 rfl ?_
        exact HR _ _ _ _ _ _ rfl rfl dX4_bestOf_77 ⟨_, rfl, by rw [← bo_lc hW hi0]; unfold boF; rw [← hN, hv], rfl, rfl⟩
      · have hlt : i < N := by have := mt (nI_leI (by omega) (by omega)).mpr hc; omega
        refine j_aload_n C dX4_bestOf_15 rfl ?_
        refine j_iload_n C dX4_bestOf_16 rfl ?_
        refine j_iload_n C dX4_bestOf_17 rfl ?_
        refine jVp2 (ci := 4) C dX4_bestOf_18 gX4_bestOf_X4_answerTo rfl pd_X4_answerTo ⟨by decide, by decide⟩ (Nat.lt_of_lt_of_le (by decide) hnp) rfl rfl rfl (Nat.le_of_ble_eq_true rfl) (c_X4_answerTo hnp hM hW hi0) ?_
        refine j_istore C dX4_bestOf_21 (by decide) ?_
        refine j_iload C dX4_bestOf_23 rfl ?_
        refine j_ldc (v := (-1000000003)) C dX4_bestOf_25 (by decide +kernel) ?_
        refine j_icmp_ne C 34 dX4_bestOf_27 (by decide) (fun hc27 => ?_) (fun hc27 => ?_)
        · refine j_aload_n C dX4_bestOf_34 rfl ?_
          refine j_iload C dX4_bestOf_35 rfl ?_
          refine j_iconst (v := (-1)) C dX4_bestOf_37 rfl ?_
          refine j_iload_n C dX4_bestOf_38 rfl ?_
          refine jVp3 (ci := 4) C dX4_bestOf_39 gX4_bestOf_X4_sum rfl pd_X4_sum ⟨by decide, by decide⟩ (Nat.lt_of_lt_of_le (by decide) hnp) rfl rfl rfl (Nat.le_of_ble_eq_true rfl) (c_X4_sum (num := nu i0) hnp hM hW (Or.inr ⟨i0, hi0, rfl, rfl⟩)) ?_
          refine j_istore C dX4_bestOf_42 (by decide) ?_
          refine j_iload C dX4_bestOf_44 rfl ?_
          refine j_ldc (v := (-1000000003)) C dX4_bestOf_46 (by decide +kernel) ?_
          refine j_icmp_eq C 68 dX4_bestOf_48 (by decide) (fun hc48 => ?_) (fun hc48 => ?_)
          · exact absurd hc48 hc27
          · refine j_iload_n C dX4_bestOf_51 rfl ?_
            refine j_ldc (v := (-1000000003)) C dX4_bestOf_52 (by decide +kernel) ?_
            refine j_icmp_eq C 63 dX4_bestOf_54 (by decide) (fun hc54 => ?_) (fun hc54 => ?_)
            · refine j_iload C dX4_bestOf_63 rfl ?_
              refine j_goto C 69 dX4_bestOf_65 (by decide) ?_
              refine j_istore_n C dX4_bestOf_69 (by decide) ?_
              refine j_iincN (n := 1) C dX4_bestOf_70 rfl (by decide) ?_
              refine j_goto C 5 dX4_bestOf_73 (by decide) ?_
              refine j_drop 4 ?_
              refine j_drop 5 ?_
              first
              | exact ih (i + 1) _ (by omega) (by omega) (min_n hv (congrArg (fun z => !z) (decide_eq_true hc27)))
              | exact ih (i + 1) _ (by omega) (by omega) (min_t hv (congrArg (fun z => !z) (decide_eq_false hc27)) (Or.inl hc54))
              | exact ih (i + 1) _ (by omega) (by omega) (min_t hv (congrArg (fun z => !z) (decide_eq_false hc27)) (Or.inr (Int32.not_le.mp hc60)))
              | exact ih (i + 1) _ (by omega) (by omega) (min_f hv hc54 (Int32.not_lt.mpr hc60))
            · refine j_iload C dX4_bestOf_57 rfl ?_
              refine j_iload_n C dX4_bestOf_59 rfl ?_
              refine j_icmp_ge C 68 dX4_bestOf_60 (by decide) (fun hc60 => ?_) (fun hc60 => ?_)
              · refine j_iload_n C dX4_bestOf_68 rfl ?_
                refine j_istore_n C dX4_bestOf_69 (by decide) ?_
                refine j_iincN (n := 1) C dX4_bestOf_70 rfl (by decide) ?_
                refine j_goto C 5 dX4_bestOf_73 (by decide) ?_
                refine j_drop 4 ?_
                refine j_drop 5 ?_
                first
                | exact ih (i + 1) _ (by omega) (by omega) (min_n hv (congrArg (fun z => !z) (decide_eq_true hc27)))
                | exact ih (i + 1) _ (by omega) (by omega) (min_t hv (congrArg (fun z => !z) (decide_eq_false hc27)) (Or.inl hc54))
                | exact ih (i + 1) _ (by omega) (by omega) (min_t hv (congrArg (fun z => !z) (decide_eq_false hc27)) (Or.inr (Int32.not_le.mp hc60)))
                | exact ih (i + 1) _ (by omega) (by omega) (min_f hv hc54 (Int32.not_lt.mpr hc60))
              · refine j_iload C dX4_bestOf_63 rfl ?_
                refine j_goto C 69 dX4_bestOf_65 (by decide) ?_
                refine j_istore_n C dX4_bestOf_69 (by decide) ?_
                refine j_iincN (n := 1) C dX4_bestOf_70 rfl (by decide) ?_
                refine j_goto C 5 dX4_bestOf_73 (by decide) ?_
                refine j_drop 4 ?_
                refine j_drop 5 ?_
                first
                | exact ih (i + 1) _ (by omega) (by omega) (min_n hv (congrArg (fun z => !z) (decide_eq_true hc27)))
                | exact ih (i + 1) _ (by omega) (by omega) (min_t hv (congrArg (fun z => !z) (decide_eq_false hc27)) (Or.inl hc54))
                | exact ih (i + 1) _ (by omega) (by omega) (min_t hv (congrArg (fun z => !z) (decide_eq_false hc27)) (Or.inr (Int32.not_le.mp hc60)))
                | exact ih (i + 1) _ (by omega) (by omega) (min_f hv hc54 (Int32.not_lt.mpr hc60))
        · refine j_iconst (v := 0) C dX4_bestOf_30 rfl ?_
          refine j_goto C 42 dX4_bestOf_31 (by decide) ?_
          refine j_istore C dX4_bestOf_42 (by decide) ?_
          refine j_iload C dX4_bestOf_44 rfl ?_
          refine j_ldc (v := (-1000000003)) C dX4_bestOf_46 (by decide +kernel) ?_
          refine j_icmp_eq C 68 dX4_bestOf_48 (by decide) (fun hc48 => ?_) (fun hc48 => ?_)
          · refine j_iload_n C dX4_bestOf_68 rfl ?_
            refine j_istore_n C dX4_bestOf_69 (by decide) ?_
            refine j_iincN (n := 1) C dX4_bestOf_70 rfl (by decide) ?_
            refine j_goto C 5 dX4_bestOf_73 (by decide) ?_
            refine j_drop 4 ?_
            refine j_drop 5 ?_
            first
            | exact ih (i + 1) _ (by omega) (by omega) (min_n hv (congrArg (fun z => !z) (decide_eq_true hc27)))
            | exact ih (i + 1) _ (by omega) (by omega) (min_t hv (congrArg (fun z => !z) (decide_eq_false hc27)) (Or.inl hc54))
            | exact ih (i + 1) _ (by omega) (by omega) (min_t hv (congrArg (fun z => !z) (decide_eq_false hc27)) (Or.inr (Int32.not_le.mp hc60)))
            | exact ih (i + 1) _ (by omega) (by omega) (min_f hv hc54 (Int32.not_lt.mpr hc60))
          · exact absurd hc27 hc48
  refine j_ldc (v := (-1000000003)) C dX4_bestOf_0 (by decide +kernel) ?_
  refine j_istore_n C dX4_bestOf_2 (by decide) ?_
  refine j_iconst (v := 0) C dX4_bestOf_3 rfl ?_
  refine j_istore_n C dX4_bestOf_4 (by decide) ?_
  exact hL (N + 1) 0 _ (by omega) (by omega) rfl
theorem n_X4_findBests_X4 : ∀ w ∈ wsX40, w ∈ wsX4_findBests := by decide +kernel
set_option maxHeartbeats 4000000 in
set_option maxRecDepth 100000 in
theorem c_X4_findBests {l : Launch} {D : va_G} {cI cZ cQ : ClassId} {ad : Nat → Nat} {np : Nat} {x : Nat → Nat} {g : Nat → Nat → Int32} (hnp : 41 ≤ np) {a : Nat → Nat} {b nu : Nat → Nat → Int32} (hM : RM x g a b nu) (hW : WF a b nu) : Cn l D cI cZ cQ ad np 5 yX4_findBests wsX4_findBests [.ref (ad 27)] x g (rv (fun x' g' => x' = x ∧ Sm g g' ∧ ∀ j, j < a 6 → g' 40 j = lcF a b nu j)) := by
  refine cn_of (own := RX4) (by decide) rfl rfl (by simp [Value.category]) (Nat.le_of_ble_eq_true rfl) ?_
  intro p e s m args below meth c A Q C HR HV
  obtain ⟨⟨e0, e1, e2, e3, e4, e5, e6⟩, hg, hnu⟩ := id hM
  obtain ⟨⟨w0, ⟨w1, w1'⟩, w2, w3, w4, w5, w6⟩, wt, wn, wq⟩ := id hW
  have b9 : g 28 = b 9 := hg 9 (by decide) (by decide)
  have b10 : g 29 = b 10 := hg 10 (by decide) (by decide)
  have b11 : g 30 = b 11 := hg 11 (by decide) (by decide)
  have b12 : g 31 = b 12 := hg 12 (by decide) (by decide)
  have b13 : g 32 = b 13 := hg 13 (by decide) (by decide)
  have b14 : g 33 = b 14 := hg 14 (by decide) (by decide)
  have b15 : g 34 = b 15 := hg 15 (by decide) (by decide)
  have b16 : g 35 = b 16 := hg 16 (by decide) (by decide)
  have b17 : g 36 = b 17 := hg 17 (by decide) (by decide)
  have hL : ∀ (n : Nat) (i : Nat) (g2 : Nat → Nat → Int32), i ≤ a 6 → a 6 - i < n → Sm g g2 → (∀ j, j < i → g2 40 j = lcF a b nu j) → J p l e (Rm 5) s m args below meth c 0 0 D cI cZ cQ ad np A 2 Q x g2 2 [some (.ref (ad 27)), some (.int (nI i))] [] := by
    intro n
    induction n with
    | zero => intros; omega
    | succ n ih =>
      intro i g2 h1 h2 hS h5
      refine j_iload_n C dX4_findBests_2 rfl ?_
      refine j_aload_n C dX4_findBests_3 rfl ?_
      refine jg_X4_futures C dX4_findBests_4 n_X4_findBests_X4 (by decide +kernel) (Nat.lt_of_lt_of_le (by decide) hnp) ?_
      refine j_icmp_ge C 27 dX4_findBests_7 (by decide) (fun hc => ?_) (fun hc => ?_)
      · have he : i = a 6 := by have := (nI_leI (by omega) (by omega)).mp hc; omega
        subst he
        exact HV _ _ _ _ rfl dX4_findBests_27 ⟨rfl, rfl, hS, h5⟩
      · have hlt : i < a 6 := by have := mt (nI_leI (by omega) (by omega)).mpr hc; omega
        refine j_aload_n C dX4_findBests_10 rfl ?_
        refine jg_X4_bests C dX4_findBests_11 n_X4_findBests_X4 (by decide +kernel) (Nat.lt_of_lt_of_le (by decide) hnp) ?_
        refine j_iload_n C dX4_findBests_14 rfl ?_
        refine j_aload_n C dX4_findBests_15 rfl ?_
        refine j_iload_n C dX4_findBests_16 rfl ?_
        refine jVp1 (ci := 4) C dX4_findBests_17 gX4_findBests_X4_bestOf rfl pd_X4_bestOf ⟨by decide, by decide⟩ (Nat.lt_of_lt_of_le (by decide) hnp) rfl rfl rfl (Nat.le_of_ble_eq_true rfl) (c_X4_bestOf hnp (hM.sm hS) hW hlt) ?_
        refine j_iast C i dX4_findBests_20 (Nat.lt_of_lt_of_le (by decide) hnp) rfl rfl (show _ < 8 by omega) ?_
        refine j_iincN (n := 1) C dX4_findBests_21 rfl (by decide) ?_
        refine j_goto C 2 dX4_findBests_24 (by decide) ?_
        refine ih (i + 1) _ (by omega) (by omega) (hS.up ⟨by decide, by decide⟩) (fun j hj => ?_)
        rw [va_us]
        simp only [upd]
        by_cases hji : j = i
        · subst hji; rw [if_pos rfl]
        · rw [if_neg hji]; exact h5 j (by omega)
  refine j_iconst (v := 0) C dX4_findBests_0 rfl ?_
  refine j_istore_n C dX4_findBests_1 (by decide) ?_
  exact hL (a 6 + 1) 0 _ (by omega) (by omega) Sm.rf (fun j hj => absurd hj (Nat.not_lt_zero j))
theorem n_X4_regretOf_X4 : ∀ w ∈ wsX40, w ∈ wsX4_regretOf := by decide +kernel
set_option maxHeartbeats 4000000 in
set_option maxRecDepth 100000 in
theorem c_X4_regretOf {l : Launch} {D : va_G} {cI cZ cQ : ClassId} {ad : Nat → Nat} {np : Nat} {x : Nat → Nat} {g : Nat → Nat → Int32} (hnp : 41 ≤ np) {a : Nat → Nat} {b nu : Nat → Nat → Int32} (hM : RM x g a b nu) (hW : WF a b nu) {first : Int32} (h5 : ∀ j, j < a 6 → g 40 j = lcF a b nu j) : Cn l D cI cZ cQ ad np 5 yX4_regretOf wsX4_regretOf [.ref (ad 27), .int first] x g (rp (rgF a b nu first) x g) := by
  refine cn_of (own := RX4) (by decide) rfl rfl (by simp [Value.category]) (Nat.le_of_ble_eq_true rfl) ?_
  intro p e s m args below meth c A Q C HR HV
  obtain ⟨⟨e0, e1, e2, e3, e4, e5, e6⟩, hg, hnu⟩ := id hM
  obtain ⟨⟨w0, ⟨w1, w1'⟩, w2, w3, w4, w5, w6⟩, wt, wn, wq⟩ := id hW
  have b9 : g 28 = b 9 := hg 9 (by decide) (by decide)
  have b10 : g 29 = b 10 := hg 10 (by decide) (by decide)
  have b11 : g 30 = b 11 := hg 11 (by decide) (by decide)
  have b12 : g 31 = b 12 := hg 12 (by decide) (by decide)
  have b13 : g 32 = b 13 := hg 13 (by decide) (by decide)
  have b14 : g 33 = b 14 := hg 14 (by decide) (by decide)
  have b15 : g 34 = b 15 := hg 15 (by decide) (by decide)
  have b16 : g 35 = b 16 := hg 16 (by decide) (by decide)
  have b17 : g 36 = b 17 := hg 17 (by decide) (by decide)
  refine j_aload_n C dX4_regretOf_0 rfl ?_
  refine jVp0 (ci := 4) C dX4_regretOf_1 gX4_regretOf_X4_counted rfl pd_X4_counted ⟨by decide, by decide⟩ (Nat.lt_of_lt_of_le (by decide) hnp) rfl rfl rfl (Nat.le_of_ble_eq_true rfl) (c_X4_counted hnp hM hW) ?_
  refine j_if_eq C 17 dX4_regretOf_4 (by decide) (fun hc4 => ?_) (fun hc4 => ?_)
  · refine j_ldc (v := (-1000000003)) C dX4_regretOf_17 (by decide +kernel) ?_
    first
    | exact HR _ _ _ _ _ _ rfl rfl dX4_regretOf_19 ⟨_, rfl, (if_pos ((cnt_0 hW).1.mp hc4)).symm, rfl, rfl⟩
    | exact HR _ _ _ _ _ _ rfl rfl dX4_regretOf_19 ⟨_, rfl, by unfold rgF; rw [if_neg (fun q => hc4 ((cnt_0 hW).1.mpr q)), (to_rg (a 6)).mp ((to_nn hW).mp hc14)]; rfl, rfl, rfl⟩
  · refine j_aload_n C dX4_regretOf_7 rfl ?_
    refine j_iload_n C dX4_regretOf_8 rfl ?_
    refine jVp1 (ci := 4) C dX4_regretOf_9 gX4_regretOf_X4_total rfl pd_X4_total ⟨by decide, by decide⟩ (Nat.lt_of_lt_of_le (by decide) hnp) rfl rfl rfl (Nat.le_of_ble_eq_true rfl) (c_X4_total hnp hM hW) ?_
    refine j_ldc (v := (-1000000003)) C dX4_regretOf_12 (by decide +kernel) ?_
    refine j_icmp_ne C 20 dX4_regretOf_14 (by decide) (fun hc14 => ?_) (fun hc14 => ?_)
    · obtain ⟨vv, hall⟩ : ∃ vv, rgS a b nu (lcF a b nu) first (a 6) = some vv := by
        cases hq : rgS a b nu (lcF a b nu) first (a 6) with
        | none => exact absurd ((to_nn hW).mpr ((to_rg (a 6)).mpr hq)) hc14
        | some vv => exact ⟨vv, rfl⟩
      have hL : ∀ (n : Nat) (i : Nat) (v : Int32), i ≤ a 6 → a 6 - i < n → rgS a b nu (lcF a b nu) first i = some v → J p l e (Rm 5) s m args below meth c 0 0 D cI cZ cQ ad np A 5 Q x g 24 [some (.ref (ad 27)), some (.int first), some (.int v), some (.int (nI i)), none] [] := by
        intro n
        induction n with
        | zero => intros; omega
        | succ n ih =>
          intro i v h1 h2 hv
          refine j_iload_n C dX4_regretOf_24 rfl ?_
          refine j_aload_n C dX4_regretOf_25 rfl ?_
          refine jg_X4_futures C dX4_regretOf_26 n_X4_regretOf_X4 (by decide +kernel) (Nat.lt_of_lt_of_le (by decide) hnp) ?_
          refine j_icmp_ge C 85 dX4_regretOf_29 (by decide) (fun hc => ?_) (fun hc => ?_)
          · have he : i = a 6 := by have := (nI_leI (by omega) (by omega)).mp hc; omega
            subst he
            refine j_iload_n C dX4_regretOf_85 rfl ?_
            exact HR _ _ _ _ _ _ rfl rfl dX4_regretOf_86 ⟨_, rfl, by unfold rgF; rw [if_neg (fun q => hc4 ((cnt_0 hW).1.mpr q)), hv]; rfl, rfl, rfl⟩
          · have hlt : i < a 6 := by have := mt (nI_leI (by omega) (by omega)).mpr hc; omega
            refine j_aload_n C dX4_regretOf_32 rfl ?_
            refine jg_X4_kept C dX4_regretOf_33 n_X4_regretOf_X4 (by decide +kernel) (Nat.lt_of_lt_of_le (by decide) hnp) ?_
            refine j_iload_n C dX4_regretOf_36 rfl ?_
            refine j_zald C _ dX4_regretOf_37 (Nat.lt_of_lt_of_le (by decide) hnp) (Or.inr rfl) rfl (by omega) ?_
            rw [b17]
            refine j_if_eq C 45 dX4_regretOf_38 (by decide) (fun hc38 => ?_) (fun hc38 => ?_)
            · refine j_aload_n C dX4_regretOf_45 rfl ?_
              refine j_aload_n C dX4_regretOf_46 rfl ?_
              refine j_iload_n C dX4_regretOf_47 rfl ?_
              refine j_iload_n C dX4_regretOf_48 rfl ?_
              refine jVp2 (ci := 4) C dX4_regretOf_49 gX4_regretOf_X4_answerTo rfl pd_X4_answerTo ⟨by decide, by decide⟩ (Nat.lt_of_lt_of_le (by decide) hnp) rfl rfl rfl (Nat.le_of_ble_eq_true rfl) (c_X4_answerTo hnp hM hW hlt) ?_
              refine j_iconst (v := (-1)) C dX4_regretOf_52 rfl ?_
              refine j_iload_n C dX4_regretOf_53 rfl ?_
              refine jVp3 (ci := 4) C dX4_regretOf_54 gX4_regretOf_X4_sum rfl pd_X4_sum ⟨by decide, by decide⟩ (Nat.lt_of_lt_of_le (by decide) hnp) rfl rfl rfl (Nat.le_of_ble_eq_true rfl) (c_X4_sum (num := nu i) hnp hM hW (Or.inr ⟨i, hlt, rfl, rfl⟩)) ?_
              refine j_aload_n C dX4_regretOf_57 rfl ?_
              refine jg_X4_bests C dX4_regretOf_58 n_X4_regretOf_X4 (by decide +kernel) (Nat.lt_of_lt_of_le (by decide) hnp) ?_
              refine j_iload_n C dX4_regretOf_61 rfl ?_
              refine j_iald C i dX4_regretOf_62 (Nat.lt_of_lt_of_le (by decide) hnp) rfl rfl (show _ < 8 by omega) ?_
              rw [h5 i hlt]
              refine j_isub C dX4_regretOf_63 ?_
              refine j_istore C dX4_regretOf_64 (by decide) ?_
              refine j_iload C dX4_regretOf_66 rfl ?_
              refine j_iload_n C dX4_regretOf_68 rfl ?_
              refine j_icmp_le C 77 dX4_regretOf_69 (by decide) (fun hc69 => ?_) (fun hc69 => ?_)
              · refine j_iload_n C dX4_regretOf_77 rfl ?_
                refine j_istore_n C dX4_regretOf_78 (by decide) ?_
                refine j_iincN (n := 1) C dX4_regretOf_79 rfl (by decide) ?_
                refine j_goto C 24 dX4_regretOf_82 (by decide) ?_
                refine j_drop 4 ?_
                first
                | exact ih (i + 1) _ (by omega) (by omega) (rgS_k hv hc38)
                | exact absurd (rg_pos i v hv) hc69
                | exact ih (i + 1) _ (by omega) (by omega) (by rw [rgS_s hv hc38 (rg_ans hall hlt hc38)]; exact congrArg some (if_neg (Int32.not_lt.mpr hc69)))
                | exact ih (i + 1) _ (by omega) (by omega) (by rw [rgS_s hv hc38 (rg_ans hall hlt hc38)]; exact congrArg some (if_pos (Int32.not_le.mp hc69)))
              · refine j_iload C dX4_regretOf_72 rfl ?_
                refine j_goto C 78 dX4_regretOf_74 (by decide) ?_
                refine j_istore_n C dX4_regretOf_78 (by decide) ?_
                refine j_iincN (n := 1) C dX4_regretOf_79 rfl (by decide) ?_
                refine j_goto C 24 dX4_regretOf_82 (by decide) ?_
                refine j_drop 4 ?_
                first
                | exact ih (i + 1) _ (by omega) (by omega) (rgS_k hv hc38)
                | exact absurd (rg_pos i v hv) hc69
                | exact ih (i + 1) _ (by omega) (by omega) (by rw [rgS_s hv hc38 (rg_ans hall hlt hc38)]; exact congrArg some (if_neg (Int32.not_lt.mpr hc69)))
                | exact ih (i + 1) _ (by omega) (by omega) (by rw [rgS_s hv hc38 (rg_ans hall hlt hc38)]; exact congrArg some (if_pos (Int32.not_le.mp hc69)))
            · refine j_iconst (v := 0) C dX4_regretOf_41 rfl ?_
              refine j_goto C 64 dX4_regretOf_42 (by decide) ?_
              refine j_istore C dX4_regretOf_64 (by decide) ?_
              refine j_iload C dX4_regretOf_66 rfl ?_
              refine j_iload_n C dX4_regretOf_68 rfl ?_
              refine j_icmp_le C 77 dX4_regretOf_69 (by decide) (fun hc69 => ?_) (fun hc69 => ?_)
              · refine j_iload_n C dX4_regretOf_77 rfl ?_
                refine j_istore_n C dX4_regretOf_78 (by decide) ?_
                refine j_iincN (n := 1) C dX4_regretOf_79 rfl (by decide) ?_
                refine j_goto C 24 dX4_regretOf_82 (by decide) ?_
                refine j_drop 4 ?_
                first
                | exact ih (i + 1) _ (by omega) (by omega) (rgS_k hv hc38)
                | exact absurd (rg_pos i v hv) hc69
                | exact ih (i + 1) _ (by omega) (by omega) (by rw [rgS_s hv hc38 (rg_ans hall hlt hc38)]; exact congrArg some (if_neg (Int32.not_lt.mpr hc69)))
                | exact ih (i + 1) _ (by omega) (by omega) (by rw [rgS_s hv hc38 (rg_ans hall hlt hc38)]; exact congrArg some (if_pos (Int32.not_le.mp hc69)))
              · refine j_iload C dX4_regretOf_72 rfl ?_
                refine j_goto C 78 dX4_regretOf_74 (by decide) ?_
                refine j_istore_n C dX4_regretOf_78 (by decide) ?_
                refine j_iincN (n := 1) C dX4_regretOf_79 rfl (by decide) ?_
                refine j_goto C 24 dX4_regretOf_82 (by decide) ?_
                refine j_drop 4 ?_
                first
                | exact ih (i + 1) _ (by omega) (by omega) (rgS_k hv hc38)
                | exact absurd (rg_pos i v hv) hc69
                | exact ih (i + 1) _ (by omega) (by omega) (by rw [rgS_s hv hc38 (rg_ans hall hlt hc38)]; exact congrArg some (if_neg (Int32.not_lt.mpr hc69)))
                | exact ih (i + 1) _ (by omega) (by omega) (by rw [rgS_s hv hc38 (rg_ans hall hlt hc38)]; exact congrArg some (if_pos (Int32.not_le.mp hc69)))
      refine j_iconst (v := 0) C dX4_regretOf_20 rfl ?_
      refine j_istore_n C dX4_regretOf_21 (by decide) ?_
      refine j_iconst (v := 0) C dX4_regretOf_22 rfl ?_
      refine j_istore_n C dX4_regretOf_23 (by decide) ?_
      exact hL (a 6 + 1) 0 _ (by omega) (by omega) rfl
    · refine j_ldc (v := (-1000000003)) C dX4_regretOf_17 (by decide +kernel) ?_
      first
      | exact HR _ _ _ _ _ _ rfl rfl dX4_regretOf_19 ⟨_, rfl, (if_pos ((cnt_0 hW).1.mp hc4)).symm, rfl, rfl⟩
      | exact HR _ _ _ _ _ _ rfl rfl dX4_regretOf_19 ⟨_, rfl, by unfold rgF; rw [if_neg (fun q => hc4 ((cnt_0 hW).1.mpr q)), (to_rg (a 6)).mp ((to_nn hW).mp hc14)]; rfl, rfl, rfl⟩
end
section
/-- n divisions are enough -/
def Euc : Nat → Nat → Nat → Prop
  | 0, _, L => L = 0
  | n + 1, G, L => L = 0 ∨ Euc n L (G % L)
theorem mod_half {L M : Nat} (h0 : 0 < M) (h : M < L) : 2 * (L % M) < L := by
  have h1 := Nat.mod_lt L h0
  have h2 := Nat.div_add_mod L M
  have h3 : 1 ≤ L / M := (Nat.le_div_iff_mul_le h0).mpr (by omega)
  have h4 : M * 1 ≤ M * (L / M) := Nat.mul_le_mul_left M h3
  omega
theorem euc_k : ∀ k G L, L < 2 ^ k → Euc (2 * k) G L := by
  intro k
  induction k with
  | zero => intro G L h; show L = 0; omega
  | succ k ih =>
    intro G L h
    show L = 0 ∨ (G % L = 0 ∨ Euc (2 * k) (G % L) (L % (G % L)))
    by_cases h0 : L = 0
    · exact Or.inl h0
    · refine Or.inr ?_
      by_cases h1 : G % L = 0
      · exact Or.inl h1
      · refine Or.inr (ih _ _ ?_)
        have := mod_half (L := L) (M := G % L) (by omega) (Nat.mod_lt _ (by omega))
        rw [Nat.pow_succ] at h
        omega
theorem gcd_st {G L : Nat} : Nat.gcd L (G % L) = Nat.gcd G L := by
  rw [Nat.gcd_comm L, ← Nat.gcd_rec L G, Nat.gcd_comm]
theorem abs_nI {v : Int32} (h : -2147483647 ≤ v.toInt) : (0 ≤ v → v = nI v.toInt.natAbs) ∧ (¬ 0 ≤ v → -v = nI v.toInt.natAbs) ∧ v.toInt.natAbs < 2 ^ 31 := by
  have hl := Int32.toInt_lt v
  have e0 : (0 : Int32).toInt = 0 := rfl
  refine ⟨fun h0 => ?_, fun h0 => ?_, by omega⟩
  · rw [Int32.le_iff_toInt_le, e0] at h0
    apply Int32.toInt_inj.mp
    rw [nI_toInt (by omega)]
    omega
  · rw [Int32.le_iff_toInt_le, e0] at h0
    apply Int32.toInt_inj.mp
    rw [nI_toInt (by omega), Int32.toInt_neg, Int.bmod_eq_of_le (by omega) (by omega)]
    omega
/-- a part of above / B in least terms -/
def frF (above : Int32) (B : Nat) (part : Int32) : Int32 := (if part = 0 then above else nI B) / nI (Nat.gcd above.toInt.natAbs B)
set_option maxHeartbeats 4000000 in
set_option maxRecDepth 100000 in
theorem c_X3_commonDivisor {l : Launch} {D : va_G} {cI cZ cQ : ClassId} {ad : Nat → Nat} {np : Nat} {x : Nat → Nat} {g : Nat → Nat → Int32} {A0 B0 : Nat} (hA : A0 < 2 ^ 31) (hB : B0 < 2 ^ 10) : Cn l D cI cZ cQ ad np 0 yX3_commonDivisor wsX3_commonDivisor [.int (nI A0), .int (nI B0)] x g (rp (nI (Nat.gcd A0 B0)) x g) := by
  refine cn_of (own := RX3) (by decide) rfl rfl (by simp [Value.category]) (Nat.le_of_ble_eq_true rfl) ?_
  intro p e s m args below meth c A Q C HR HV
  have hL : ∀ (n : Nat) (i G L : Nat), Euc n G L → i + n ≤ 99 → G < 2 ^ 31 → L < 2 ^ 31 → Nat.gcd G L = Nat.gcd A0 B0 → J p l e (Rm 0) s m args below meth c 0 0 D cI cZ cQ ad np A 6 Q x g 7 [some (.int (nI A0)), some (.int (nI B0)), some (.int (nI G)), some (.int (nI L)), some (.int (nI i)), none] [] := by
    intro n
    induction n with
    | zero =>
      intro i G L he hi hG hL hg
      refine j_iload C dX3_commonDivisor_7 rfl ?_
      refine j_bipush (v := 100) C dX3_commonDivisor_9 (by decide) ?_
      refine j_icmp_ge C 34 dX3_commonDivisor_11 (by decide) (fun hc11 => ?_) (fun hc11 => ?_)
      · exact absurd ((nI_leI (a := 100) (by omega) (by omega)).mp hc11) (by omega)
      · refine j_iload_n C dX3_commonDivisor_14 rfl ?_
        refine j_if_eq C 34 dX3_commonDivisor_15 (by decide) (fun hc15 => ?_) (fun hc15 => ?_)
        · have hL0 : L = 0 := (nI_eq (b := 0) (by omega) (by omega)).mp hc15
          refine j_iload_n C dX3_commonDivisor_34 rfl ?_
          exact HR _ _ _ _ _ _ rfl rfl dX3_commonDivisor_35 ⟨_, rfl, by rw [← hg, hL0, Nat.gcd_zero_right], rfl, rfl⟩
        · exact absurd (by rw [show L = 0 from he]; rfl) hc15
    | succ n ih =>
      intro i G L he hi hG hL hg
      refine j_iload C dX3_commonDivisor_7 rfl ?_
      refine j_bipush (v := 100) C dX3_commonDivisor_9 (by decide) ?_
      refine j_icmp_ge C 34 dX3_commonDivisor_11 (by decide) (fun hc11 => ?_) (fun hc11 => ?_)
      · exact absurd ((nI_leI (a := 100) (by omega) (by omega)).mp hc11) (by omega)
      · refine j_iload_n C dX3_commonDivisor_14 rfl ?_
        refine j_if_eq C 34 dX3_commonDivisor_15 (by decide) (fun hc15 => ?_) (fun hc15 => ?_)
        · have hL0 : L = 0 := (nI_eq (b := 0) (by omega) (by omega)).mp hc15
          refine j_iload_n C dX3_commonDivisor_34 rfl ?_
          exact HR _ _ _ _ _ _ rfl rfl dX3_commonDivisor_35 ⟨_, rfl, by rw [← hg, hL0, Nat.gcd_zero_right], rfl, rfl⟩
        · have hL0 : ¬ L = 0 := fun q => hc15 (by rw [q]; rfl)
          have hpos : 0 < L := by omega
          have hmod := Nat.mod_lt G hpos
          refine j_iload_n C dX3_commonDivisor_18 rfl ?_
          refine j_iload_n C dX3_commonDivisor_19 rfl ?_
          refine j_irem C dX3_commonDivisor_20 hc15 ?_
          rw [pk_rem (by omega) hpos (by omega)]
          refine j_istore C dX3_commonDivisor_21 (by decide) ?_
          refine j_iload_n C dX3_commonDivisor_23 rfl ?_
          refine j_istore_n C dX3_commonDivisor_24 (by decide) ?_
          refine j_iload C dX3_commonDivisor_25 rfl ?_
          refine j_istore_n C dX3_commonDivisor_27 (by decide) ?_
          refine j_iincN (n := 1) C dX3_commonDivisor_28 rfl (by decide) ?_
          refine j_goto C 7 dX3_commonDivisor_31 (by decide) ?_
          refine j_drop 5 ?_
          exact ih (i + 1) _ _ (he.resolve_left hL0) (by omega) (by omega) (by omega) (by rw [gcd_st]; exact hg)
  refine j_iload_n C dX3_commonDivisor_0 rfl ?_
  refine j_istore_n C dX3_commonDivisor_1 (by decide) ?_
  refine j_iload_n C dX3_commonDivisor_2 rfl ?_
  refine j_istore_n C dX3_commonDivisor_3 (by decide) ?_
  refine j_iconst (v := 0) C dX3_commonDivisor_4 rfl ?_
  refine j_istore C dX3_commonDivisor_5 (by decide) ?_
  exact hL 20 0 A0 B0 (euc_k 10 _ _ hB) (by omega) hA (by omega) rfl
set_option maxHeartbeats 4000000 in
set_option maxRecDepth 100000 in
theorem c_X3_partOfFraction {l : Launch} {D : va_G} {cI cZ cQ : ClassId} {ad : Nat → Nat} {np : Nat} {x : Nat → Nat} {g : Nat → Nat → Int32} {ab part : Int32} {B0 : Nat} (hab : -2147483647 ≤ ab.toInt) (hB0 : 0 < B0) (hB : B0 < 2 ^ 10) : Cn l D cI cZ cQ ad np 1 yX3_partOfFraction wsX3_partOfFraction [.int ab, .int (nI B0), .int part] x g (rp (frF ab B0 part) x g) := by
  refine cn_of (own := RX3) (by decide) rfl rfl (by simp [Value.category]) (Nat.le_of_ble_eq_true rfl) ?_
  intro p e s m args below meth c A Q C HR HV
  refine j_iload_n C dX3_partOfFraction_0 rfl ?_
  refine j_abs C dX3_partOfFraction_1 (by decide +kernel) (by decide +kernel) (by decide +kernel) (by decide +kernel) (by decide) (by decide) ?_
  rw [show (if 0 ≤ ab then ab else 0 - ab) = nI ab.toInt.natAbs by
    by_cases h0 : 0 ≤ ab
    · rw [if_pos h0]; exact (abs_nI hab).1 h0
    · rw [if_neg h0, Int32.zero_sub]; exact (abs_nI hab).2.1 h0]
  refine j_iload_n C dX3_partOfFraction_4 rfl ?_
  refine jSp2 C dX3_partOfFraction_5 gX3_partOfFraction_X3_commonDivisor rfl pd_X3_commonDivisor ⟨by decide, by decide⟩ (Nat.le_of_ble_eq_true rfl) (c_X3_commonDivisor (abs_nI hab).2.2 hB) ?_
  refine j_istore_n C dX3_partOfFraction_8 (by decide) ?_
  refine j_iload_n C dX3_partOfFraction_9 rfl ?_
  refine j_if_ne C 17 dX3_partOfFraction_10 (by decide) (fun hc10 => ?_) (fun hc10 => ?_)
  · refine j_iload_n C dX3_partOfFraction_17 rfl ?_
    refine j_istore C dX3_partOfFraction_18 (by decide) ?_
    refine j_iload_n C dX3_partOfFraction_20 rfl ?_
    refine j_iconst (v := 1) C dX3_partOfFraction_21 rfl ?_
    refine j_icmp_le C 32 dX3_partOfFraction_22 (by decide) (fun hc22 => ?_) (fun hc22 => ?_)
    · have hd1 : Nat.gcd ab.toInt.natAbs B0 = 1 := by
        have h1 := (nI_leI (b := 1) (Nat.lt_of_le_of_lt (Nat.gcd_le_right _ hB0) (by omega)) (by omega)).mp hc22
        have h2 := Nat.gcd_pos_of_pos_right ab.toInt.natAbs hB0
        omega
      refine j_iload C dX3_partOfFraction_32 rfl ?_
      exact HR _ _ _ _ _ _ rfl rfl dX3_partOfFraction_34 ⟨_, rfl, by unfold frF; rw [if_neg hc10, hd1]; exact (Int32.div_one (a := nI B0)).symm, rfl, rfl⟩
    · refine j_iload C dX3_partOfFraction_25 rfl ?_
      refine j_iload_n C dX3_partOfFraction_27 rfl ?_
      refine j_idiv C dX3_partOfFraction_28 (fun q => by rw [q] at hc22; exact hc22 (by decide)) ?_
      refine j_goto C 34 dX3_partOfFraction_29 (by decide) ?_
      exact HR _ _ _ _ _ _ rfl rfl dX3_partOfFraction_34 ⟨_, rfl, by unfold frF; rw [if_neg hc10], rfl, rfl⟩
  · refine j_iload_n C dX3_partOfFraction_13 rfl ?_
    refine j_goto C 18 dX3_partOfFraction_14 (by decide) ?_
    refine j_istore C dX3_partOfFraction_18 (by decide) ?_
    refine j_iload_n C dX3_partOfFraction_20 rfl ?_
    refine j_iconst (v := 1) C dX3_partOfFraction_21 rfl ?_
    refine j_icmp_le C 32 dX3_partOfFraction_22 (by decide) (fun hc22 => ?_) (fun hc22 => ?_)
    · have hd1 : Nat.gcd ab.toInt.natAbs B0 = 1 := by
        have h1 := (nI_leI (b := 1) (Nat.lt_of_le_of_lt (Nat.gcd_le_right _ hB0) (by omega)) (by omega)).mp hc22
        have h2 := Nat.gcd_pos_of_pos_right ab.toInt.natAbs hB0
        omega
      refine j_iload C dX3_partOfFraction_32 rfl ?_
      exact HR _ _ _ _ _ _ rfl rfl dX3_partOfFraction_34 ⟨_, rfl, by unfold frF; rw [if_pos hc10, hd1]; exact (Int32.div_one (a := ab)).symm, rfl, rfl⟩
    · refine j_iload C dX3_partOfFraction_25 rfl ?_
      refine j_iload_n C dX3_partOfFraction_27 rfl ?_
      refine j_idiv C dX3_partOfFraction_28 (fun q => by rw [q] at hc22; exact hc22 (by decide)) ?_
      refine j_goto C 34 dX3_partOfFraction_29 (by decide) ?_
      exact HR _ _ _ _ _ _ rfl rfl dX3_partOfFraction_34 ⟨_, rfl, by unfold frF; rw [if_pos hc10], rfl, rfl⟩
set_option maxHeartbeats 4000000 in
set_option maxRecDepth 100000 in
theorem c_X4_lowest {l : Launch} {D : va_G} {cI cZ cQ : ClassId} {ad : Nat → Nat} {np : Nat} {x : Nat → Nat} {g : Nat → Nat → Int32} {ab part : Int32} {B0 : Nat} (hab : -2147483647 ≤ ab.toInt) (hB0 : 0 < B0) (hB : B0 < 2 ^ 10) : Cn l D cI cZ cQ ad np 0 yX4_lowest wsX4_lowest [.int ab, .int (nI B0), .int part] x g (rp (frF ab B0 part) x g) := by
  refine cn_of (own := RX4) (by decide) rfl rfl (by simp [Value.category]) (Nat.le_of_ble_eq_true rfl) ?_
  intro p e s m args below meth c A Q C HR HV
  obtain ⟨A0, hA0⟩ : ∃ A0, A0 = ab.toInt.natAbs := ⟨_, rfl⟩
  have hL : ∀ (n : Nat) (G L : Nat), Euc n G L → G < 2 ^ 31 → L < 2 ^ 31 → Nat.gcd G L = Nat.gcd A0 B0 → J p l e (Rm 0) s m args below meth c 0 0 D cI cZ cQ ad np A 6 Q x g 14 [some (.int ab), some (.int (nI B0)), some (.int part), some (.int (nI G)), some (.int (nI L)), none] [] := by
    intro n
    induction n with
    | zero =>
      intro G L he hG hL hg
      refine j_iload C dX4_lowest_14 rfl ?_
      refine j_if_eq C 35 dX4_lowest_16 (by decide) (fun hc16 => ?_) (fun hc16 => ?_)
      · have hL0 : L = 0 := (nI_eq (b := 0) (by omega) (by omega)).mp hc16
        refine j_iload_n C dX4_lowest_35 rfl ?_
        refine j_if_ne C 43 dX4_lowest_36 (by decide) (fun hc36 => ?_) (fun hc36 => ?_)
        · refine j_iload_n C dX4_lowest_43 rfl ?_
          refine j_iload_n C dX4_lowest_44 rfl ?_
          refine j_idiv C dX4_lowest_45 (fun q => absurd ((nI_eq (b := 0) (by omega) (by omega)).mp q) (by have := Nat.gcd_pos_of_pos_right A0 hB0; rw [← hg, hL0, Nat.gcd_zero_right] at this; omega)) ?_
          first
          | exact HR _ _ _ _ _ _ rfl rfl dX4_lowest_46 ⟨_, rfl, by unfold frF; rw [if_pos hc36, ← hA0, ← hg, hL0, Nat.gcd_zero_right], rfl, rfl⟩
          | exact HR _ _ _ _ _ _ rfl rfl dX4_lowest_46 ⟨_, rfl, by unfold frF; rw [if_neg hc36, ← hA0, ← hg, hL0, Nat.gcd_zero_right], rfl, rfl⟩
        · refine j_iload_n C dX4_lowest_39 rfl ?_
          refine j_goto C 44 dX4_lowest_40 (by decide) ?_
          refine j_iload_n C dX4_lowest_44 rfl ?_
          refine j_idiv C dX4_lowest_45 (fun q => absurd ((nI_eq (b := 0) (by omega) (by omega)).mp q) (by have := Nat.gcd_pos_of_pos_right A0 hB0; rw [← hg, hL0, Nat.gcd_zero_right] at this; omega)) ?_
          first
          | exact HR _ _ _ _ _ _ rfl rfl dX4_lowest_46 ⟨_, rfl, by unfold frF; rw [if_pos hc36, ← hA0, ← hg, hL0, Nat.gcd_zero_right], rfl, rfl⟩
          | exact HR _ _ _ _ _ _ rfl rfl dX4_lowest_46 ⟨_, rfl, by unfold frF; rw [if_neg hc36, ← hA0, ← hg, hL0, Nat.gcd_zero_right], rfl, rfl⟩
      · exact absurd (by rw [show L = 0 from he]; rfl) hc16
    | succ n ih =>
      intro G L he hG hL hg
      refine j_iload C dX4_lowest_14 rfl ?_
      refine j_if_eq C 35 dX4_lowest_16 (by decide) (fun hc16 => ?_) (fun hc16 => ?_)
      · have hL0 : L = 0 := (nI_eq (b := 0) (by omega) (by omega)).mp hc16
        refine j_iload_n C dX4_lowest_35 rfl ?_
        refine j_if_ne C 43 dX4_lowest_36 (by decide) (fun hc36 => ?_) (fun hc36 => ?_)
        · refine j_iload_n C dX4_lowest_43 rfl ?_
          refine j_iload_n C dX4_lowest_44 rfl ?_
          refine j_idiv C dX4_lowest_45 (fun q => absurd ((nI_eq (b := 0) (by omega) (by omega)).mp q) (by have := Nat.gcd_pos_of_pos_right A0 hB0; rw [← hg, hL0, Nat.gcd_zero_right] at this; omega)) ?_
          first
          | exact HR _ _ _ _ _ _ rfl rfl dX4_lowest_46 ⟨_, rfl, by unfold frF; rw [if_pos hc36, ← hA0, ← hg, hL0, Nat.gcd_zero_right], rfl, rfl⟩
          | exact HR _ _ _ _ _ _ rfl rfl dX4_lowest_46 ⟨_, rfl, by unfold frF; rw [if_neg hc36, ← hA0, ← hg, hL0, Nat.gcd_zero_right], rfl, rfl⟩
        · refine j_iload_n C dX4_lowest_39 rfl ?_
          refine j_goto C 44 dX4_lowest_40 (by decide) ?_
          refine j_iload_n C dX4_lowest_44 rfl ?_
          refine j_idiv C dX4_lowest_45 (fun q => absurd ((nI_eq (b := 0) (by omega) (by omega)).mp q) (by have := Nat.gcd_pos_of_pos_right A0 hB0; rw [← hg, hL0, Nat.gcd_zero_right] at this; omega)) ?_
          first
          | exact HR _ _ _ _ _ _ rfl rfl dX4_lowest_46 ⟨_, rfl, by unfold frF; rw [if_pos hc36, ← hA0, ← hg, hL0, Nat.gcd_zero_right], rfl, rfl⟩
          | exact HR _ _ _ _ _ _ rfl rfl dX4_lowest_46 ⟨_, rfl, by unfold frF; rw [if_neg hc36, ← hA0, ← hg, hL0, Nat.gcd_zero_right], rfl, rfl⟩
      · have hL0 : ¬ L = 0 := fun q => hc16 (by rw [q]; rfl)
        have hpos : 0 < L := by omega
        have hmod := Nat.mod_lt G hpos
        refine j_iload_n C dX4_lowest_19 rfl ?_
        refine j_iload C dX4_lowest_20 rfl ?_
        refine j_irem C dX4_lowest_22 hc16 ?_
        rw [pk_rem (by omega) hpos (by omega)]
        refine j_istore C dX4_lowest_23 (by decide) ?_
        refine j_iload C dX4_lowest_25 rfl ?_
        refine j_istore_n C dX4_lowest_27 (by decide) ?_
        refine j_iload C dX4_lowest_28 rfl ?_
        refine j_istore C dX4_lowest_30 (by decide) ?_
        refine j_goto C 14 dX4_lowest_32 (by decide) ?_
        refine j_drop 5 ?_
        exact ih _ _ (he.resolve_left hL0) (by omega) (by omega) (by rw [gcd_st]; exact hg)
  refine j_iload_n C dX4_lowest_0 rfl ?_
  refine j_if_ge C 9 dX4_lowest_1 (by decide) (fun hc1 => ?_) (fun hc1 => ?_)
  · refine j_iload_n C dX4_lowest_9 rfl ?_
    refine j_eqi ((abs_nI hab).1 hc1) ?_
    rw [← hA0]
    refine j_istore_n C dX4_lowest_10 (by decide) ?_
    refine j_iload_n C dX4_lowest_11 rfl ?_
    refine j_istore C dX4_lowest_12 (by decide) ?_
    exact hL 20 A0 B0 (euc_k 10 _ _ hB) (by rw [hA0]; exact (abs_nI hab).2.2) (by omega) rfl
  · refine j_iload_n C dX4_lowest_4 rfl ?_
    refine j_ineg C dX4_lowest_5 ?_
    rw [(abs_nI hab).2.1 hc1, ← hA0]
    refine j_goto C 10 dX4_lowest_6 (by decide) ?_
    refine j_istore_n C dX4_lowest_10 (by decide) ?_
    refine j_iload_n C dX4_lowest_11 rfl ?_
    refine j_istore C dX4_lowest_12 (by decide) ?_
    exact hL 20 A0 B0 (euc_k 10 _ _ hB) (by rw [hA0]; exact (abs_nI hab).2.2) (by omega) rfl
end
section
def Fx (x : Nat → Nat) (g : Nat → Nat → Int32) (x' : Nat → Nat) (g' : Nat → Nat → Int32) : Prop := (∀ k, 7 ≤ k → x' k = x k) ∧ ∀ k, 27 ≤ k → g' k = g k
def Fm (x : Nat → Nat) (g : Nat → Nat → Int32) (x' : Nat → Nat) (g' : Nat → Nat → Int32) : Prop := (∀ k, k < 7 → x' k = x k) ∧ ∀ k, k < 27 → g' k = g k
theorem RM.fx {x x' : Nat → Nat} {g g' : Nat → Nat → Int32} {a : Nat → Nat} {b nu : Nat → Nat → Int32} (h : RM x g a b nu) (hf : Fx x g x' g') : RM x' g' a b nu := by
  obtain ⟨⟨h0, h1, h2, h3, h4, h5, h6⟩, hg, hn⟩ := h
  refine ⟨⟨?_, ?_, ?_, ?_, ?_, ?_, ?_⟩, fun k k1 k2 => ?_, fun i hi j hj => ?_⟩
  · rw [hf.1 11 (by decide)]; exact h0
  · rw [hf.1 7 (by decide)]; exact h1
  · rw [hf.1 8 (by decide)]; exact h2
  · rw [hf.1 10 (by decide)]; exact h3
  · rw [hf.1 9 (by decide)]; exact h4
  · rw [hf.1 12 (by decide)]; exact h5
  · rw [hf.1 13 (by decide)]; exact h6
  · rw [hf.2 (k + 19) (by omega)]; exact hg k k1 k2
  · rw [hf.2 37 (by decide)]; exact hn i hi j hj
theorem RX.fm {x x' : Nat → Nat} {g g' : Nat → Nat → Int32} {a : Nat → Nat} {b nu : Nat → Nat → Int32} (h : RX x g a b nu) (hf : Fm x g x' g') : RX x' g' a b nu := by
  obtain ⟨hx, hg, hn⟩ := h
  exact ⟨fun k hk => by rw [hf.1 k hk]; exact hx k hk, fun k k1 k2 => by rw [hf.2 k (by omega)]; exact hg k k1 k2, fun i hi => by rw [hf.2 (19 + i) (by omega)]; exact hn i hi⟩
theorem Fx.rf {x : Nat → Nat} {g : Nat → Nat → Int32} : Fx x g x g := ⟨fun _ _ => rfl, fun _ _ => rfl⟩
theorem Fm.rf {x : Nat → Nat} {g : Nat → Nat → Int32} : Fm x g x g := ⟨fun _ _ => rfl, fun _ _ => rfl⟩
theorem Fx.sx {x : Nat → Nat} {g g' : Nat → Nat → Int32} (h : Sx g g') : Fx x g x g' := ⟨fun _ _ => rfl, fun k hk => h k (by omega)⟩
theorem Fm.sm {x : Nat → Nat} {g g' : Nat → Nat → Int32} (h : Sm g g') : Fm x g x g' := ⟨fun _ _ => rfl, fun k hk => h k (by omega)⟩
/-- FutureSets' end of a call, the reference's -/
def EX (r0 : Int32) (x : Nat → Nat) (g : Nat → Nat → Int32) (a : Nat → Nat) (b nu : Nat → Nat → Int32) : PO := ri (fun r x' g' => r = r0 ∧ RX x' g' a b nu ∧ Fx x g x' g')
def EM (r0 : Int32) (x : Nat → Nat) (g : Nat → Nat → Int32) (a : Nat → Nat) (b nu : Nat → Nat → Int32) : PO := ri (fun r x' g' => r = r0 ∧ RM x' g' a b nu ∧ Fm x g x' g')
-- begin
def beOk (f s : Int32) : Bool := inW f 1 6 && inW s 0 4
def beR (a : Nat → Nat) (f s : Int32) : Int32 := if beOk f s then nI (a 5) else -1000000001
def beA (a : Nat → Nat) (f s : Int32) : Nat → Nat := if beOk f s then (fun k => if k = 1 then f.toNatClampNeg else if k = 2 then s.toNatClampNeg else 0) else a
theorem inW_lit {v : Int32} {lo hi : Nat} (hl : hi < 2 ^ 31) (hlo : lo < 2 ^ 31) (h : inW v (nI lo) (nI hi) = true) : ∃ n, lo ≤ n ∧ n ≤ hi ∧ v = nI n := by
  simp only [inW, Bool.and_eq_true, decide_eq_true_eq] at h
  obtain ⟨h1, h2⟩ := h
  have h0 : ¬ v < 0 := fun q => nI_pos hlo (Int32.lt_of_le_of_lt h1 q)
  obtain ⟨n, hn, rfl⟩ := nI_of h0
  exact ⟨n, (nI_leI hlo hn).mp h1, (nI_leI hn hl).mp h2, rfl⟩
theorem inW_m1 {v : Int32} {k : Nat} (hk : k < 2 ^ 30) (h : inW v (-1) (nI k - 1) = true) : ∃ r, r ≤ k ∧ v = nI r - 1 := by
  by_cases e : v = -1
  · exact ⟨0, by omega, by rw [e]; rfl⟩
  · have h2 : inW v 0 (nI k - 1) = true := by
      simp only [inW, Bool.and_eq_true, decide_eq_true_eq] at h ⊢
      refine ⟨?_, h.2⟩
      have h1 := h.1
      rw [Int32.le_iff_toInt_le] at h1 ⊢
      have e1 : (-1 : Int32).toInt = -1 := by decide
      have e0 : (0 : Int32).toInt = 0 := rfl
      have : v.toInt ≠ -1 := fun q => e (Int32.toInt_inj.mp (q.trans e1.symm))
      omega
    obtain ⟨j, hj, rfl⟩ := inW_ix hk h2
    exact ⟨j + 1, by omega, (nI_pred j).symm⟩
theorem inW_m1' {v : Int32} {k : Nat} (hk : k < 2 ^ 30) (h : inW v (-1) (nI k - 1) = true) : v = -1 ∨ ∃ j, j < k ∧ v = nI j := by
  obtain ⟨r, hr, rfl⟩ := inW_m1 hk h
  cases r with
  | zero => exact Or.inl rfl
  | succ j => exact Or.inr ⟨j, by omega, nI_pred j⟩
theorem beWF {a : Nat → Nat} {b nu : Nat → Nat → Int32} (hW : WF a b nu) (f s : Int32) : WF (beA a f s) b nu := by
  unfold beA
  by_cases h : beOk f s = true
  · rw [if_pos h]
    simp only [beOk, Bool.and_eq_true] at h
    obtain ⟨n, n1, n2, e1⟩ := inW_lit (lo := 1) (hi := 6) (by decide) (by decide) h.1
    obtain ⟨q, q1, q2, e2⟩ := inW_lit (lo := 0) (hi := 4) (by decide) (by decide) h.2
    have c1 : f.toNatClampNeg = n := by rw [e1]; exact nI_clamp (by omega)
    have c2 : s.toNatClampNeg = q := by rw [e2]; exact nI_clamp (by omega)
    refine ⟨⟨by simp, ⟨by simp; omega, by simp; omega⟩, by simp; omega, by simp, by simp, by simp, by simp⟩, fun t ht => ?_, fun t ht => ?_, fun t ht => ?_⟩
    · simp at ht
    · simp at ht
    · simp at ht
  · rw [if_neg h]; exact hW
-- name
def nmOk (lo us hi : Int32) : Bool := decide (lo ≤ us) && decide (us ≤ hi) && decide (-100 ≤ lo) && decide (hi ≤ 100)
def nmR (a : Nat → Nat) (lo us hi : Int32) : Int32 := if nmOk lo us hi then (if a 4 < 12 then nI (a 4) else -1000000002) else -1000000001
def nmC (a : Nat → Nat) (lo us hi : Int32) : Bool := nmOk lo us hi && decide (a 4 < 12)
def nmA (a : Nat → Nat) (lo us hi : Int32) : Nat → Nat := if nmC a lo us hi then va_up a 4 (a 4 + 1) else a
def nmB (a : Nat → Nat) (b : Nat → Nat → Int32) (lo us hi : Int32) : Nat → Nat → Int32 := if nmC a lo us hi then va_up (va_up (va_up b 9 (upd (b 9) (a 4) lo)) 10 (upd (b 10) (a 4) us)) 11 (upd (b 11) (a 4) hi) else b
def nmN (a : Nat → Nat) (nu : Nat → Nat → Int32) (lo us hi : Int32) : Nat → Nat → Int32 := if nmC a lo us hi then (fun i => if i < a 6 then upd (nu i) (a 4) us else nu i) else nu
theorem up_s (f : Nat → Int32) (k : Nat) (v : Int32) : upd f k v k = v := by simp [upd]
theorem up_n (f : Nat → Int32) {k j : Nat} (v : Int32) (h : j ≠ k) : upd f k v j = f j := by simp [upd, h]
theorem nmWF {a : Nat → Nat} {b nu : Nat → Nat → Int32} (hW : WF a b nu) (lo us hi : Int32) : WF (nmA a lo us hi) (nmB a b lo us hi) (nmN a nu lo us hi) := by
  unfold nmA nmB nmN
  by_cases h : nmC a lo us hi = true
  · rw [if_pos h, if_pos h, if_pos h]
    simp only [nmC, nmOk, Bool.and_eq_true, decide_eq_true_eq, Int32.le_iff_toInt_le] at h
    obtain ⟨⟨⟨⟨h1, h2⟩, h3⟩, h4⟩, h5⟩ := h
    have m1 : (-100 : Int32).toInt = -100 := by decide
    have m2 : (100 : Int32).toInt = 100 := by decide
    obtain ⟨⟨w0, ⟨w1, w1'⟩, w2, w3, w4, w5, w6⟩, wt, wn, wq⟩ := id hW
    have u4 : va_up a 4 (a 4 + 1) 4 = a 4 + 1 := va_us _ _ _
    refine ⟨⟨?_, ⟨?_, ?_⟩, ?_, ?_, ?_, ?_, ?_⟩, fun t ht => ?_, fun n hn => ?_, fun i hi => ?_⟩
    · exact w0
    · exact w1
    · exact w1'
    · exact w2
    · exact w3
    · rw [u4]; omega
    · exact w5
    · exact w6
    · obtain ⟨k1, k2, k3, k4, k5⟩ := wt t ht
      refine ⟨k1, k2, ?_, k4, k5⟩
      rw [u4]
      exact k3.imp_right (fun ⟨n, hn, e⟩ => ⟨n, by omega, e⟩)
    · rw [u4] at hn
      show -100 ≤ (upd (b 9) (a 4) lo n).toInt ∧ (upd (b 9) (a 4) lo n).toInt ≤ (upd (b 10) (a 4) us n).toInt ∧ (upd (b 10) (a 4) us n).toInt ≤ (upd (b 11) (a 4) hi n).toInt ∧ (upd (b 11) (a 4) hi n).toInt ≤ 100
      by_cases e : n = a 4
      · rw [e, up_s, up_s, up_s]; omega
      · rw [up_n _ _ e, up_n _ _ e, up_n _ _ e]; exact wn n (by omega)
    · obtain ⟨k1, k2, k3, k4⟩ := wq i hi
      refine ⟨k1, k2, k3, fun n hn => ?_⟩
      rw [u4] at hn
      have hi6 : i < a 6 := hi
      simp only [if_pos hi6]
      by_cases e : n = a 4
      · rw [e, up_s]; omega
      · rw [up_n _ _ e]; exact k4 n (by omega)
  · rw [if_neg h, if_neg h, if_neg h]; exact hW
-- budget
def buR (a : Nat → Nat) (n : Int32) : Int32 := if inW n 0 12 then nI (a 3) else -1000000001
def buA (a : Nat → Nat) (n : Int32) : Nat → Nat := if inW n 0 12 then va_up a 3 n.toNatClampNeg else a
theorem buWF {a : Nat → Nat} {b nu : Nat → Nat → Int32} (hW : WF a b nu) (n : Int32) : WF (buA a n) b nu := by
  unfold buA
  by_cases h : inW n 0 12 = true
  · rw [if_pos h]
    obtain ⟨q, q1, q2, e⟩ := inW_lit (lo := 0) (hi := 12) (by decide) (by decide) h
    have c : n.toNatClampNeg = q := by rw [e]; exact nI_clamp (by omega)
    obtain ⟨⟨w0, ⟨w1, w1'⟩, w2, w3, w4, w5, w6⟩, wt, wn, wq⟩ := id hW
    refine ⟨⟨w0, ⟨w1, w1'⟩, w2, ?_, w4, w5, w6⟩, wt, wn, wq⟩
    rw [va_us, c]; exact q2
  · rw [if_neg h]; exact hW
-- row
def roR (a : Nat → Nat) : Int32 := if a 0 < 10 then nI (a 0) else -1000000002
def roA (a : Nat → Nat) : Nat → Nat := if a 0 < 10 then va_up a 0 (a 0 + 1) else a
theorem roWF {a : Nat → Nat} {b nu : Nat → Nat → Int32} (hW : WF a b nu) : WF (roA a) b nu := by
  unfold roA
  by_cases h : a 0 < 10
  · rw [if_pos h]
    obtain ⟨⟨w0, ⟨w1, w1'⟩, w2, w3, w4, w5, w6⟩, wt, wn, wq⟩ := id hW
    refine ⟨⟨?_, ⟨w1, w1'⟩, w2, w3, w4, w5, w6⟩, fun t ht => ?_, wn, wq⟩
    · rw [va_us]; omega
    · obtain ⟨⟨r, r1, r2⟩, k2, k3, k4, k5⟩ := wt t ht
      exact ⟨⟨r, by rw [va_us]; omega, r2⟩, k2, k3, k4, k5⟩
  · rw [if_neg h]; exact hW
-- term
def teOk (a : Nat → Nat) (row ch nm fc : Int32) : Bool := inW row (-1) (nI (a 0) - 1) && inW ch (-1) (nI (a 1) + nI (a 2) - 1) && inW nm (-1) (nI (a 4) - 1) && inW fc (-20) 20
def teC (a : Nat → Nat) (row ch nm fc : Int32) : Bool := teOk a row ch nm fc && decide (a 5 < 40)
def teR (a : Nat → Nat) (row ch nm fc : Int32) : Int32 := if teOk a row ch nm fc then (if a 5 < 40 then nI (a 5 + 1) else -1000000002) else -1000000001
def teA (a : Nat → Nat) (row ch nm fc : Int32) : Nat → Nat := if teC a row ch nm fc then va_up a 5 (a 5 + 1) else a
def teB (a : Nat → Nat) (b : Nat → Nat → Int32) (row ch nm fc : Int32) : Nat → Nat → Int32 := if teC a row ch nm fc then va_up (va_up (va_up (va_up b 12 (upd (b 12) (a 5) row)) 13 (upd (b 13) (a 5) ch)) 14 (upd (b 14) (a 5) nm)) 15 (upd (b 15) (a 5) fc) else b
theorem teWF {a : Nat → Nat} {b nu : Nat → Nat → Int32} (hW : WF a b nu) (row ch nm fc : Int32) : WF (teA a row ch nm fc) (teB a b row ch nm fc) nu := by
  unfold teA teB
  by_cases h : teC a row ch nm fc = true
  · rw [if_pos h, if_pos h]
    obtain ⟨⟨w0, ⟨w1, w1'⟩, w2, w3, w4, w5, w6⟩, wt, wn, wq⟩ := id hW
    simp only [teC, teOk, Bool.and_eq_true, decide_eq_true_eq] at h
    obtain ⟨⟨⟨⟨h1, h2⟩, h3⟩, h4⟩, h5⟩ := h
    rw [nI_add] at h2
    have g1 := inW_m1 (by omega) h1
    have g2 := inW_m1' (by omega) h2
    have g3 := inW_m1' (by omega) h3
    simp only [inW, Bool.and_eq_true, decide_eq_true_eq, Int32.le_iff_toInt_le] at h4
    have m1 : (-20 : Int32).toInt = -20 := by decide
    have m2 : (20 : Int32).toInt = 20 := by decide
    have u5 : va_up a 5 (a 5 + 1) 5 = a 5 + 1 := va_us _ _ _
    refine ⟨⟨w0, ⟨w1, w1'⟩, w2, w3, w4, by rw [u5]; omega, w6⟩, fun t ht => ?_, wn, wq⟩
    rw [u5] at ht
    show (∃ r, r ≤ a 0 ∧ upd (b 12) (a 5) row t = nI r - 1) ∧ (upd (b 13) (a 5) ch t = -1 ∨ ∃ j, j < a 1 + a 2 ∧ upd (b 13) (a 5) ch t = nI j) ∧ (upd (b 14) (a 5) nm t = -1 ∨ ∃ n, n < a 4 ∧ upd (b 14) (a 5) nm t = nI n) ∧ -20 ≤ (upd (b 15) (a 5) fc t).toInt ∧ (upd (b 15) (a 5) fc t).toInt ≤ 20
    by_cases e : t = a 5
    · rw [e, up_s, up_s, up_s, up_s]; exact ⟨g1, g2, g3, by omega, by omega⟩
    · rw [up_n _ _ e, up_n _ _ e, up_n _ _ e, up_n _ _ e]; exact wt t (by omega)
  · rw [if_neg h, if_neg h]; exact hW
-- future
def fuC (a : Nat → Nat) (od : Int32) : Bool := inW od 1 100 && decide (a 6 < 8)
def fuR (a : Nat → Nat) (od : Int32) : Int32 := if inW od 1 100 then (if a 6 < 8 then nI (a 6) else -1000000002) else -1000000001
def fuA (a : Nat → Nat) (od : Int32) : Nat → Nat := if fuC a od then va_up a 6 (a 6 + 1) else a
def fuB (a : Nat → Nat) (b : Nat → Nat → Int32) (od kp : Int32) : Nat → Nat → Int32 := if fuC a od then va_up (va_up b 16 (upd (b 16) (a 6) od)) 17 (upd (b 17) (a 6) kp) else b
def fuN (a : Nat → Nat) (b nu : Nat → Nat → Int32) (od : Int32) : Nat → Nat → Int32 := if fuC a od then va_up nu (a 6) (cpF (nu (a 6)) (b 10) (a 4)) else nu
theorem fuWF {a : Nat → Nat} {b nu : Nat → Nat → Int32} (hW : WF a b nu) (od kp : Int32) (hk : kp = 0 ∨ kp = 1) : WF (fuA a od) (fuB a b od kp) (fuN a b nu od) := by
  unfold fuA fuB fuN
  by_cases h : fuC a od = true
  · rw [if_pos h, if_pos h, if_pos h]
    obtain ⟨⟨w0, ⟨w1, w1'⟩, w2, w3, w4, w5, w6⟩, wt, wn, wq⟩ := id hW
    simp only [fuC, Bool.and_eq_true, decide_eq_true_eq] at h
    obtain ⟨h1, h2⟩ := h
    obtain ⟨q, q1, q2, e⟩ := inW_lit (lo := 1) (hi := 100) (by decide) (by decide) h1
    have c : od.toInt = (q : Int) := by rw [e]; exact nI_toInt (by omega)
    have u6 : va_up a 6 (a 6 + 1) 6 = a 6 + 1 := va_us _ _ _
    refine ⟨⟨w0, ⟨w1, w1'⟩, w2, w3, w4, w5, by rw [u6]; omega⟩, wt, wn, fun i hi => ?_⟩
    rw [u6] at hi
    show 1 ≤ (upd (b 16) (a 6) od i).toInt ∧ (upd (b 16) (a 6) od i).toInt ≤ 100 ∧ (upd (b 17) (a 6) kp i = 0 ∨ upd (b 17) (a 6) kp i = 1) ∧ ∀ n, n < a 4 → -100 ≤ (va_up nu (a 6) (cpF (nu (a 6)) (b 10) (a 4)) i n).toInt ∧ (va_up nu (a 6) (cpF (nu (a 6)) (b 10) (a 4)) i n).toInt ≤ 100
    by_cases e6 : i = a 6
    · rw [e6, up_s, up_s, va_us]
      refine ⟨by omega, by omega, hk, fun n hn => ?_⟩
      simp only [cpF]
      rw [if_pos hn]
      have := wn n hn
      omega
    · rw [up_n _ _ e6, up_n _ _ e6, va_un _ _ _ _ e6]; exact wq i (by omega)
  · rw [if_neg h, if_neg h, if_neg h]; exact hW
-- set
def seOk (a : Nat → Nat) (b : Nat → Nat → Int32) (fu nm v : Int32) : Bool := inW fu 0 (nI (a 6) - 1) && inW nm 0 (nI (a 4) - 1) && inW v (b 9 nm.toNatClampNeg) (b 11 nm.toNatClampNeg)
def seR (a : Nat → Nat) (b nu : Nat → Nat → Int32) (fu nm v : Int32) : Int32 := if seOk a b fu nm v then nu fu.toNatClampNeg nm.toNatClampNeg else -1000000001
def seN (a : Nat → Nat) (b nu : Nat → Nat → Int32) (fu nm v : Int32) : Nat → Nat → Int32 := if seOk a b fu nm v then va_up nu fu.toNatClampNeg (upd (nu fu.toNatClampNeg) nm.toNatClampNeg v) else nu
theorem seWF {a : Nat → Nat} {b nu : Nat → Nat → Int32} (hW : WF a b nu) (fu nm v : Int32) : WF a b (seN a b nu fu nm v) := by
  unfold seN
  by_cases h : seOk a b fu nm v = true
  · rw [if_pos h]
    obtain ⟨⟨w0, ⟨w1, w1'⟩, w2, w3, w4, w5, w6⟩, wt, wn, wq⟩ := id hW
    simp only [seOk, Bool.and_eq_true] at h
    obtain ⟨⟨h1, h2⟩, h3⟩ := h
    obtain ⟨i0, i1, i2⟩ := inW_ix (by omega) h1
    obtain ⟨n0, n1, n2⟩ := inW_ix (by omega) h2
    rw [n2, nI_clamp (by omega)] at h3
    simp only [inW, Bool.and_eq_true, decide_eq_true_eq, Int32.le_iff_toInt_le] at h3
    rw [i2, n2, nI_clamp (by omega), nI_clamp (by omega)]
    refine ⟨⟨w0, ⟨w1, w1'⟩, w2, w3, w4, w5, w6⟩, wt, wn, fun i hi => ?_⟩
    obtain ⟨k1, k2, k3, k4⟩ := wq i hi
    refine ⟨k1, k2, k3, fun n hn => ?_⟩
    by_cases e : i = i0
    · subst e
      rw [va_us]
      by_cases e2 : n = n0
      · subst e2; rw [up_s]; have := wn n hn; omega
      · rw [up_n _ _ e2]; exact k4 n hn
    · rw [va_un _ _ _ _ e]; exact k4 n hn
  · rw [if_neg h]; exact hW
end
