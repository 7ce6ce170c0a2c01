section JS
variable {p : Program} {l : Launch} {e : Env} {R : Room} {s : State} {m : MethodId} {args : Array Value} {below : List Frame} {meth : Method} {c : Code} {kc ks : Nat} {Q : State → Prop}
variable {cc : ByteArray} {nL : Nat} {own : String} {Ts : List Cond} {D : va_G} {cI cZ cQ : ClassId} {ad : Nat → Nat} {np : Nat} {A : Nat → Prop}
variable {x x' : Nat → Nat} {g g' : Nat → Nat → Int32} {pc tgt : Nat} {ls : List (Option Value)} {st : List Value}
theorem j_sld (C : GC p R s m args c kc ks cc nL own Ts D cI cZ cQ ad np A) {bs L : Nat} {xs : Nat → Int32} {i : Int32} (hX : va_X bs L xs s s.heap) (hbl : bs < s.heap.size) (hbA : ¬ A bs) (t : Nat) (hd : decode cc pc = .ok (.iaload, 1)) (hi : i = nI t) (ht : t < L) (hL : L < 2 ^ 31) (K : J p l e R s m args below meth c kc ks D cI cZ cQ ad np A nL Q x g (pc + 1) (ls) (.int (xs t) :: st)) : J p l e R s m args below meth c kc ks D cI cZ cQ ad np A nL Q x g (pc) (ls) (.int i :: .ref bs :: st) := fun H locs la hP hS hv => by
  subst hi
  refine va_sld C.1.1 C.1.2.1 hX hbl hbA hS (vp_in_nI ht hL) hd ?_
  rw [nI_clamp (by omega)]
  exact K H locs la hP hS hv
theorem j_slen (C : GC p R s m args c kc ks cc nL own Ts D cI cZ cQ ad np A) {bs L : Nat} {xs : Nat → Int32} (hX : va_X bs L xs s s.heap) (hbl : bs < s.heap.size) (hbA : ¬ A bs) (hd : decode cc pc = .ok (.arraylength, 1)) (K : J p l e R s m args below meth c kc ks D cI cZ cQ ad np A nL Q x g (pc + 1) (ls) (.int (nI L) :: st)) : J p l e R s m args below meth c kc ks D cI cZ cQ ad np A nL Q x g (pc) (ls) (.ref bs :: st) := fun H locs la hP hS hv =>
  va_slen C.1.1 C.1.2.1 hX hbl hbA hS hd (K H locs la hP hS hv)
end JS
def INV (x : Nat → Nat) (g : Nat → Nat → Int32) : Prop := ∃ (a : Nat → Nat) (b nu : Nat → Nat → Int32), RX x g a b nu ∧ RM x g a b nu ∧ WF a b nu
set_option maxHeartbeats 4000000 in
set_option maxRecDepth 100000 in
theorem lc_begin {p : Program} {l : Launch} {e : Env} {s : State} {m : MethodId} {below : List Frame} {meth : Method} {c : Code} {Q : State → Prop} {D : va_G} {cI cZ cQ : ClassId} {ad : Nat → Nat} {A : Nat → Prop} {x : Nat → Nat} {g : Nat → Nat → Int32} {bs L i : Nat} {xs : Nat → Int32} (C : GC p room_1 s m #[Value.ref bs] c 600000 7302250 code 4 RL wsL_law D cI cZ cQ ad 41 A) (hXs : va_X bs L xs s s.heap) (hbl : bs < s.heap.size) (hbA : ¬ A bs) (hL : L ≤ 2560) (hi : i + 5 ≤ L) (hI : INV x g) (hNext : ∀ (x' : Nat → Nat) (g' : Nat → Nat → Int32), INV x' g' → J p l e room_1 s m #[Value.ref bs] below meth c 600000 7302250 D cI cZ cQ ad 41 A 4 Q x' g' 761 [some (.ref bs), some (.ref (ad 0)), some (.ref (ad 27)), some (.int (nI i))] []) : J p l e room_1 s m #[Value.ref bs] below meth c 600000 7302250 D cI cZ cQ ad 41 A 4 Q x g 132 [some (.ref bs), some (.ref (ad 0)), some (.ref (ad 27)), some (.int (nI i))] [] := by
  obtain ⟨a, b, nu, hX, hM, hW⟩ := hI
  refine j_aload_n C dL_law_132 rfl ?_
  refine j_aload_n C dL_law_133 rfl ?_
  refine j_iload_n C dL_law_134 rfl ?_
  refine j_iconst (v := 1) C dL_law_135 rfl ?_
  refine j_iadd C dL_law_136 ?_
  refine j_sld C hXs hbl hbA (i + 1) dL_law_137 (nI_add i 1) (by omega) (by omega) ?_
  refine j_aload_n C dL_law_138 rfl ?_
  refine j_iload_n C dL_law_139 rfl ?_
  refine j_iconst (v := 2) C dL_law_140 rfl ?_
  refine j_iadd C dL_law_141 ?_
  refine j_sld C hXs hbl hbA (i + 2) dL_law_142 (nI_add i 2) (by omega) (by omega) ?_
  refine jVi2 (ci := 3) C dL_law_143 gL_law_X3_begin rfl pd_X3_begin ⟨by decide, by decide⟩ (by decide) rfl rfl rfl (Nat.le_of_ble_eq_true rfl) (c_X3_begin (by decide) hX hW) (fun rr x2 g2 hp => ?_)
  obtain ⟨rfl, hX1, hF1⟩ := hp
  have hM1 := hM.fx hF1
  refine j_aload_n C dL_law_146 rfl ?_
  refine j_aload_n C dL_law_147 rfl ?_
  refine j_iload_n C dL_law_148 rfl ?_
  refine j_iconst (v := 1) C dL_law_149 rfl ?_
  refine j_iadd C dL_law_150 ?_
  refine j_sld C hXs hbl hbA (i + 1) dL_law_151 (nI_add i 1) (by omega) (by omega) ?_
  refine j_aload_n C dL_law_152 rfl ?_
  refine j_iload_n C dL_law_153 rfl ?_
  refine j_iconst (v := 2) C dL_law_154 rfl ?_
  refine j_iadd C dL_law_155 ?_
  refine j_sld C hXs hbl hbA (i + 2) dL_law_156 (nI_add i 2) (by omega) (by omega) ?_
  refine jVi2 (ci := 4) C dL_law_157 gL_law_X4_begin rfl pd_X4_begin ⟨by decide, by decide⟩ (by decide) rfl rfl rfl (Nat.le_of_ble_eq_true rfl) (c_X4_begin (by decide) hM1 hW) (fun rr x2 g2 hp => ?_)
  obtain ⟨rfl, hM2, hF2⟩ := hp
  have hX2 := hX1.fm hF2
  refine j_icmp_eq C 761 dL_law_160 (by decide) (fun hc160 => ?_) (fun hc160 => ?_)
  · exact hNext _ _ ⟨_, _, _, hX2, hM2, (beWF hW _ _)⟩
  · exact absurd rfl hc160
set_option maxHeartbeats 4000000 in
set_option maxRecDepth 100000 in
theorem lc_name {p : Program} {l : Launch} {e : Env} {s : State} {m : MethodId} {below : List Frame} {meth : Method} {c : Code} {Q : State → Prop} {D : va_G} {cI cZ cQ : ClassId} {ad : Nat → Nat} {A : Nat → Prop} {x : Nat → Nat} {g : Nat → Nat → Int32} {bs L i : Nat} {xs : Nat → Int32} (C : GC p room_1 s m #[Value.ref bs] c 600000 7302250 code 4 RL wsL_law D cI cZ cQ ad 41 A) (hXs : va_X bs L xs s s.heap) (hbl : bs < s.heap.size) (hbA : ¬ A bs) (hL : L ≤ 2560) (hi : i + 5 ≤ L) (hI : INV x g) (hNext : ∀ (x' : Nat → Nat) (g' : Nat → Nat → Int32), INV x' g' → J p l e room_1 s m #[Value.ref bs] below meth c 600000 7302250 D cI cZ cQ ad 41 A 4 Q x' g' 761 [some (.ref bs), some (.ref (ad 0)), some (.ref (ad 27)), some (.int (nI i))] []) : J p l e room_1 s m #[Value.ref bs] below meth c 600000 7302250 D cI cZ cQ ad 41 A 4 Q x g 165 [some (.ref bs), some (.ref (ad 0)), some (.ref (ad 27)), some (.int (nI i))] [] := by
  obtain ⟨a, b, nu, hX, hM, hW⟩ := hI
  refine j_aload_n C dL_law_165 rfl ?_
  refine j_aload_n C dL_law_166 rfl ?_
  refine j_iload_n C dL_law_167 rfl ?_
  refine j_iconst (v := 1) C dL_law_168 rfl ?_
  refine j_iadd C dL_law_169 ?_
  refine j_sld C hXs hbl hbA (i + 1) dL_law_170 (nI_add i 1) (by omega) (by omega) ?_
  refine j_aload_n C dL_law_171 rfl ?_
  refine j_iload_n C dL_law_172 rfl ?_
  refine j_iconst (v := 2) C dL_law_173 rfl ?_
  refine j_iadd C dL_law_174 ?_
  refine j_sld C hXs hbl hbA (i + 2) dL_law_175 (nI_add i 2) (by omega) (by omega) ?_
  refine j_aload_n C dL_law_176 rfl ?_
  refine j_iload_n C dL_law_177 rfl ?_
  refine j_iconst (v := 3) C dL_law_178 rfl ?_
  refine j_iadd C dL_law_179 ?_
  refine j_sld C hXs hbl hbA (i + 3) dL_law_180 (nI_add i 3) (by omega) (by omega) ?_
  refine jVi3 (ci := 3) C dL_law_181 gL_law_X3_name rfl pd_X3_name ⟨by decide, by decide⟩ (by decide) rfl rfl rfl (Nat.le_of_ble_eq_true rfl) (c_X3_name (by decide) hX hW) (fun rr x2 g2 hp => ?_)
  obtain ⟨rfl, hX1, hF1⟩ := hp
  have hM1 := hM.fx hF1
  refine j_aload_n C dL_law_184 rfl ?_
  refine j_aload_n C dL_law_185 rfl ?_
  refine j_iload_n C dL_law_186 rfl ?_
  refine j_iconst (v := 1) C dL_law_187 rfl ?_
  refine j_iadd C dL_law_188 ?_
  refine j_sld C hXs hbl hbA (i + 1) dL_law_189 (nI_add i 1) (by omega) (by omega) ?_
  refine j_aload_n C dL_law_190 rfl ?_
  refine j_iload_n C dL_law_191 rfl ?_
  refine j_iconst (v := 2) C dL_law_192 rfl ?_
  refine j_iadd C dL_law_193 ?_
  refine j_sld C hXs hbl hbA (i + 2) dL_law_194 (nI_add i 2) (by omega) (by omega) ?_
  refine j_aload_n C dL_law_195 rfl ?_
  refine j_iload_n C dL_law_196 rfl ?_
  refine j_iconst (v := 3) C dL_law_197 rfl ?_
  refine j_iadd C dL_law_198 ?_
  refine j_sld C hXs hbl hbA (i + 3) dL_law_199 (nI_add i 3) (by omega) (by omega) ?_
  refine jVi3 (ci := 4) C dL_law_200 gL_law_X4_name rfl pd_X4_name ⟨by decide, by decide⟩ (by decide) rfl rfl rfl (Nat.le_of_ble_eq_true rfl) (c_X4_name (by decide) hM1 hW) (fun rr x2 g2 hp => ?_)
  obtain ⟨rfl, hM2, hF2⟩ := hp
  have hX2 := hX1.fm hF2
  refine j_icmp_eq C 761 dL_law_203 (by decide) (fun hc203 => ?_) (fun hc203 => ?_)
  · exact hNext _ _ ⟨_, _, _, hX2, hM2, (nmWF hW _ _ _)⟩
  · exact absurd rfl hc203
set_option maxHeartbeats 4000000 in
set_option maxRecDepth 100000 in
theorem lc_budget {p : Program} {l : Launch} {e : Env} {s : State} {m : MethodId} {below : List Frame} {meth : Method} {c : Code} {Q : State → Prop} {D : va_G} {cI cZ cQ : ClassId} {ad : Nat → Nat} {A : Nat → Prop} {x : Nat → Nat} {g : Nat → Nat → Int32} {bs L i : Nat} {xs : Nat → Int32} (C : GC p room_1 s m #[Value.ref bs] c 600000 7302250 code 4 RL wsL_law D cI cZ cQ ad 41 A) (hXs : va_X bs L xs s s.heap) (hbl : bs < s.heap.size) (hbA : ¬ A bs) (hL : L ≤ 2560) (hi : i + 5 ≤ L) (hI : INV x g) (hNext : ∀ (x' : Nat → Nat) (g' : Nat → Nat → Int32), INV x' g' → J p l e room_1 s m #[Value.ref bs] below meth c 600000 7302250 D cI cZ cQ ad 41 A 4 Q x' g' 761 [some (.ref bs), some (.ref (ad 0)), some (.ref (ad 27)), some (.int (nI i))] []) : J p l e room_1 s m #[Value.ref bs] below meth c 600000 7302250 D cI cZ cQ ad 41 A 4 Q x g 208 [some (.ref bs), some (.ref (ad 0)), some (.ref (ad 27)), some (.int (nI i))] [] := by
  obtain ⟨a, b, nu, hX, hM, hW⟩ := hI
  refine j_aload_n C dL_law_208 rfl ?_
  refine j_aload_n C dL_law_209 rfl ?_
  refine j_iload_n C dL_law_210 rfl ?_
  refine j_iconst (v := 1) C dL_law_211 rfl ?_
  refine j_iadd C dL_law_212 ?_
  refine j_sld C hXs hbl hbA (i + 1) dL_law_213 (nI_add i 1) (by omega) (by omega) ?_
  refine jVi1 (ci := 3) C dL_law_214 gL_law_X3_budget rfl pd_X3_budget ⟨by decide, by decide⟩ (by decide) rfl rfl rfl (Nat.le_of_ble_eq_true rfl) (c_X3_budget (by decide) hX hW) (fun rr x2 g2 hp => ?_)
  obtain ⟨rfl, hX1, hF1⟩ := hp
  have hM1 := hM.fx hF1
  refine j_aload_n C dL_law_217 rfl ?_
  refine j_aload_n C dL_law_218 rfl ?_
  refine j_iload_n C dL_law_219 rfl ?_
  refine j_iconst (v := 1) C dL_law_220 rfl ?_
  refine j_iadd C dL_law_221 ?_
  refine j_sld C hXs hbl hbA (i + 1) dL_law_222 (nI_add i 1) (by omega) (by omega) ?_
  refine jVi1 (ci := 4) C dL_law_223 gL_law_X4_budget rfl pd_X4_budget ⟨by decide, by decide⟩ (by decide) rfl rfl rfl (Nat.le_of_ble_eq_true rfl) (c_X4_budget (by decide) hM1 hW) (fun rr x2 g2 hp => ?_)
  obtain ⟨rfl, hM2, hF2⟩ := hp
  have hX2 := hX1.fm hF2
  refine j_icmp_eq C 761 dL_law_226 (by decide) (fun hc226 => ?_) (fun hc226 => ?_)
  · exact hNext _ _ ⟨_, _, _, hX2, hM2, (buWF hW _)⟩
  · exact absurd rfl hc226
set_option maxHeartbeats 4000000 in
set_option maxRecDepth 100000 in
theorem lc_row {p : Program} {l : Launch} {e : Env} {s : State} {m : MethodId} {below : List Frame} {meth : Method} {c : Code} {Q : State → Prop} {D : va_G} {cI cZ cQ : ClassId} {ad : Nat → Nat} {A : Nat → Prop} {x : Nat → Nat} {g : Nat → Nat → Int32} {bs L i : Nat} {xs : Nat → Int32} (C : GC p room_1 s m #[Value.ref bs] c 600000 7302250 code 4 RL wsL_law D cI cZ cQ ad 41 A) (hXs : va_X bs L xs s s.heap) (hbl : bs < s.heap.size) (hbA : ¬ A bs) (hL : L ≤ 2560) (hi : i + 5 ≤ L) (hI : INV x g) (hNext : ∀ (x' : Nat → Nat) (g' : Nat → Nat → Int32), INV x' g' → J p l e room_1 s m #[Value.ref bs] below meth c 600000 7302250 D cI cZ cQ ad 41 A 4 Q x' g' 761 [some (.ref bs), some (.ref (ad 0)), some (.ref (ad 27)), some (.int (nI i))] []) : J p l e room_1 s m #[Value.ref bs] below meth c 600000 7302250 D cI cZ cQ ad 41 A 4 Q x g 231 [some (.ref bs), some (.ref (ad 0)), some (.ref (ad 27)), some (.int (nI i))] [] := by
  obtain ⟨a, b, nu, hX, hM, hW⟩ := hI
  refine j_aload_n C dL_law_231 rfl ?_
  refine jVi0 (ci := 3) C dL_law_232 gL_law_X3_row rfl pd_X3_row ⟨by decide, by decide⟩ (by decide) rfl rfl rfl (Nat.le_of_ble_eq_true rfl) (c_X3_row (by decide) hX hW) (fun rr x2 g2 hp => ?_)
  obtain ⟨rfl, hX1, hF1⟩ := hp
  have hM1 := hM.fx hF1
  refine j_aload_n C dL_law_235 rfl ?_
  refine jVi0 (ci := 4) C dL_law_236 gL_law_X4_row rfl pd_X4_row ⟨by decide, by decide⟩ (by decide) rfl rfl rfl (Nat.le_of_ble_eq_true rfl) (c_X4_row (by decide) hM1 hW) (fun rr x2 g2 hp => ?_)
  obtain ⟨rfl, hM2, hF2⟩ := hp
  have hX2 := hX1.fm hF2
  refine j_icmp_eq C 761 dL_law_239 (by decide) (fun hc239 => ?_) (fun hc239 => ?_)
  · exact hNext _ _ ⟨_, _, _, hX2, hM2, (roWF hW)⟩
  · exact absurd rfl hc239
set_option maxHeartbeats 4000000 in
set_option maxRecDepth 100000 in
theorem lc_term {p : Program} {l : Launch} {e : Env} {s : State} {m : MethodId} {below : List Frame} {meth : Method} {c : Code} {Q : State → Prop} {D : va_G} {cI cZ cQ : ClassId} {ad : Nat → Nat} {A : Nat → Prop} {x : Nat → Nat} {g : Nat → Nat → Int32} {bs L i : Nat} {xs : Nat → Int32} (C : GC p room_1 s m #[Value.ref bs] c 600000 7302250 code 4 RL wsL_law D cI cZ cQ ad 41 A) (hXs : va_X bs L xs s s.heap) (hbl : bs < s.heap.size) (hbA : ¬ A bs) (hL : L ≤ 2560) (hi : i + 5 ≤ L) (hI : INV x g) (hNext : ∀ (x' : Nat → Nat) (g' : Nat → Nat → Int32), INV x' g' → J p l e room_1 s m #[Value.ref bs] below meth c 600000 7302250 D cI cZ cQ ad 41 A 4 Q x' g' 761 [some (.ref bs), some (.ref (ad 0)), some (.ref (ad 27)), some (.int (nI i))] []) : J p l e room_1 s m #[Value.ref bs] below meth c 600000 7302250 D cI cZ cQ ad 41 A 4 Q x g 244 [some (.ref bs), some (.ref (ad 0)), some (.ref (ad 27)), some (.int (nI i))] [] := by
  obtain ⟨a, b, nu, hX, hM, hW⟩ := hI
  refine j_aload_n C dL_law_244 rfl ?_
  refine j_aload_n C dL_law_245 rfl ?_
  refine j_iload_n C dL_law_246 rfl ?_
  refine j_iconst (v := 1) C dL_law_247 rfl ?_
  refine j_iadd C dL_law_248 ?_
  refine j_sld C hXs hbl hbA (i + 1) dL_law_249 (nI_add i 1) (by omega) (by omega) ?_
  refine j_aload_n C dL_law_250 rfl ?_
  refine j_iload_n C dL_law_251 rfl ?_
  refine j_iconst (v := 2) C dL_law_252 rfl ?_
  refine j_iadd C dL_law_253 ?_
  refine j_sld C hXs hbl hbA (i + 2) dL_law_254 (nI_add i 2) (by omega) (by omega) ?_
  refine j_aload_n C dL_law_255 rfl ?_
  refine j_iload_n C dL_law_256 rfl ?_
  refine j_iconst (v := 3) C dL_law_257 rfl ?_
  refine j_iadd C dL_law_258 ?_
  refine j_sld C hXs hbl hbA (i + 3) dL_law_259 (nI_add i 3) (by omega) (by omega) ?_
  refine j_aload_n C dL_law_260 rfl ?_
  refine j_iload_n C dL_law_261 rfl ?_
  refine j_iconst (v := 4) C dL_law_262 rfl ?_
  refine j_iadd C dL_law_263 ?_
  refine j_sld C hXs hbl hbA (i + 4) dL_law_264 (nI_add i 4) (by omega) (by omega) ?_
  refine jVi4 (ci := 3) C dL_law_265 gL_law_X3_term rfl pd_X3_term ⟨by decide, by decide⟩ (by decide) rfl rfl rfl (Nat.le_of_ble_eq_true rfl) (c_X3_term (by decide) hX hW) (fun rr x2 g2 hp => ?_)
  obtain ⟨rfl, hX1, hF1⟩ := hp
  have hM1 := hM.fx hF1
  refine j_aload_n C dL_law_268 rfl ?_
  refine j_aload_n C dL_law_269 rfl ?_
  refine j_iload_n C dL_law_270 rfl ?_
  refine j_iconst (v := 1) C dL_law_271 rfl ?_
  refine j_iadd C dL_law_272 ?_
  refine j_sld C hXs hbl hbA (i + 1) dL_law_273 (nI_add i 1) (by omega) (by omega) ?_
  refine j_aload_n C dL_law_274 rfl ?_
  refine j_iload_n C dL_law_275 rfl ?_
  refine j_iconst (v := 2) C dL_law_276 rfl ?_
  refine j_iadd C dL_law_277 ?_
  refine j_sld C hXs hbl hbA (i + 2) dL_law_278 (nI_add i 2) (by omega) (by omega) ?_
  refine j_aload_n C dL_law_279 rfl ?_
  refine j_iload_n C dL_law_280 rfl ?_
  refine j_iconst (v := 3) C dL_law_281 rfl ?_
  refine j_iadd C dL_law_282 ?_
  refine j_sld C hXs hbl hbA (i + 3) dL_law_283 (nI_add i 3) (by omega) (by omega) ?_
  refine j_aload_n C dL_law_284 rfl ?_
  refine j_iload_n C dL_law_285 rfl ?_
  refine j_iconst (v := 4) C dL_law_286 rfl ?_
  refine j_iadd C dL_law_287 ?_
  refine j_sld C hXs hbl hbA (i + 4) dL_law_288 (nI_add i 4) (by omega) (by omega) ?_
  refine jVi4 (ci := 4) C dL_law_289 gL_law_X4_term rfl pd_X4_term ⟨by decide, by decide⟩ (by decide) rfl rfl rfl (Nat.le_of_ble_eq_true rfl) (c_X4_term (by decide) hM1 hW) (fun rr x2 g2 hp => ?_)
  obtain ⟨rfl, hM2, hF2⟩ := hp
  have hX2 := hX1.fm hF2
  refine j_icmp_eq C 761 dL_law_292 (by decide) (fun hc292 => ?_) (fun hc292 => ?_)
  · exact hNext _ _ ⟨_, _, _, hX2, hM2, (teWF hW _ _ _ _)⟩
  · exact absurd rfl hc292
set_option maxHeartbeats 4000000 in
set_option maxRecDepth 100000 in
theorem lc_future {p : Program} {l : Launch} {e : Env} {s : State} {m : MethodId} {below : List Frame} {meth : Method} {c : Code} {Q : State → Prop} {D : va_G} {cI cZ cQ : ClassId} {ad : Nat → Nat} {A : Nat → Prop} {x : Nat → Nat} {g : Nat → Nat → Int32} {bs L i : Nat} {xs : Nat → Int32} (C : GC p room_1 s m #[Value.ref bs] c 600000 7302250 code 4 RL wsL_law D cI cZ cQ ad 41 A) (hXs : va_X bs L xs s s.heap) (hbl : bs < s.heap.size) (hbA : ¬ A bs) (hL : L ≤ 2560) (hi : i + 5 ≤ L) (hI : INV x g) (hNext : ∀ (x' : Nat → Nat) (g' : Nat → Nat → Int32), INV x' g' → J p l e room_1 s m #[Value.ref bs] below meth c 600000 7302250 D cI cZ cQ ad 41 A 4 Q x' g' 761 [some (.ref bs), some (.ref (ad 0)), some (.ref (ad 27)), some (.int (nI i))] []) : J p l e room_1 s m #[Value.ref bs] below meth c 600000 7302250 D cI cZ cQ ad 41 A 4 Q x g 297 [some (.ref bs), some (.ref (ad 0)), some (.ref (ad 27)), some (.int (nI i))] [] := by
  obtain ⟨a, b, nu, hX, hM, hW⟩ := hI
  refine j_aload_n C dL_law_297 rfl ?_
  refine j_aload_n C dL_law_298 rfl ?_
  refine j_iload_n C dL_law_299 rfl ?_
  refine j_iconst (v := 1) C dL_law_300 rfl ?_
  refine j_iadd C dL_law_301 ?_
  refine j_sld C hXs hbl hbA (i + 1) dL_law_302 (nI_add i 1) (by omega) (by omega) ?_
  refine j_aload_n C dL_law_303 rfl ?_
  refine j_iload_n C dL_law_304 rfl ?_
  refine j_iconst (v := 2) C dL_law_305 rfl ?_
  refine j_iadd C dL_law_306 ?_
  refine j_sld C hXs hbl hbA (i + 2) dL_law_307 (nI_add i 2) (by omega) (by omega) ?_
  refine j_if_eq C 315 dL_law_308 (by decide) (fun hc308 => ?_) (fun hc308 => ?_)
  · refine j_iconst (v := 0) C dL_law_315 rfl ?_
    refine jVi2 (ci := 3) C dL_law_316 gL_law_X3_future rfl pd_X3_future ⟨by decide, by decide⟩ (by decide) rfl rfl rfl (Nat.le_of_ble_eq_true rfl) (c_X3_future (by decide) hX hW (by rfl)) (fun rr x2 g2 hp => ?_)
    obtain ⟨rfl, hX1, hF1⟩ := hp
    have hM1 := hM.fx hF1
    refine j_aload_n C dL_law_319 rfl ?_
    refine j_aload_n C dL_law_320 rfl ?_
    refine j_iload_n C dL_law_321 rfl ?_
    refine j_iconst (v := 1) C dL_law_322 rfl ?_
    refine j_iadd C dL_law_323 ?_
    refine j_sld C hXs hbl hbA (i + 1) dL_law_324 (nI_add i 1) (by omega) (by omega) ?_
    refine j_aload_n C dL_law_325 rfl ?_
    refine j_iload_n C dL_law_326 rfl ?_
    refine j_iconst (v := 2) C dL_law_327 rfl ?_
    refine j_iadd C dL_law_328 ?_
    refine j_sld C hXs hbl hbA (i + 2) dL_law_329 (nI_add i 2) (by omega) (by omega) ?_
    refine j_if_eq C 337 dL_law_330 (by decide) (fun hc330 => ?_) (fun hc330 => ?_)
    · refine j_iconst (v := 0) C dL_law_337 rfl ?_
      refine jVi2 (ci := 4) C dL_law_338 gL_law_X4_future rfl pd_X4_future ⟨by decide, by decide⟩ (by decide) rfl rfl rfl (Nat.le_of_ble_eq_true rfl) (c_X4_future (by decide) hM1 hW (by rfl)) (fun rr x2 g2 hp => ?_)
      obtain ⟨rfl, hM2, hF2⟩ := hp
      have hX2 := hX1.fm hF2
      refine j_icmp_eq C 761 dL_law_341 (by decide) (fun hc341 => ?_) (fun hc341 => ?_)
      · exact hNext _ _ ⟨_, _, _, hX2, hM2, fuWF hW _ 0 (Or.inl rfl)⟩
      · exact absurd rfl hc341
    · exact absurd hc308 hc330
  · refine j_iconst (v := 1) C dL_law_311 rfl ?_
    refine j_goto C 316 dL_law_312 (by decide) ?_
    refine jVi2 (ci := 3) C dL_law_316 gL_law_X3_future rfl pd_X3_future ⟨by decide, by decide⟩ (by decide) rfl rfl rfl (Nat.le_of_ble_eq_true rfl) (c_X3_future (by decide) hX hW (by rfl)) (fun rr x2 g2 hp => ?_)
    obtain ⟨rfl, hX1, hF1⟩ := hp
    have hM1 := hM.fx hF1
    refine j_aload_n C dL_law_319 rfl ?_
    refine j_aload_n C dL_law_320 rfl ?_
    refine j_iload_n C dL_law_321 rfl ?_
    refine j_iconst (v := 1) C dL_law_322 rfl ?_
    refine j_iadd C dL_law_323 ?_
    refine j_sld C hXs hbl hbA (i + 1) dL_law_324 (nI_add i 1) (by omega) (by omega) ?_
    refine j_aload_n C dL_law_325 rfl ?_
    refine j_iload_n C dL_law_326 rfl ?_
    refine j_iconst (v := 2) C dL_law_327 rfl ?_
    refine j_iadd C dL_law_328 ?_
    refine j_sld C hXs hbl hbA (i + 2) dL_law_329 (nI_add i 2) (by omega) (by omega) ?_
    refine j_if_eq C 337 dL_law_330 (by decide) (fun hc330 => ?_) (fun hc330 => ?_)
    · exact absurd hc330 hc308
    · refine j_iconst (v := 1) C dL_law_333 rfl ?_
      refine j_goto C 338 dL_law_334 (by decide) ?_
      refine jVi2 (ci := 4) C dL_law_338 gL_law_X4_future rfl pd_X4_future ⟨by decide, by decide⟩ (by decide) rfl rfl rfl (Nat.le_of_ble_eq_true rfl) (c_X4_future (by decide) hM1 hW (by rfl)) (fun rr x2 g2 hp => ?_)
      obtain ⟨rfl, hM2, hF2⟩ := hp
      have hX2 := hX1.fm hF2
      refine j_icmp_eq C 761 dL_law_341 (by decide) (fun hc341 => ?_) (fun hc341 => ?_)
      · exact hNext _ _ ⟨_, _, _, hX2, hM2, fuWF hW _ 1 (Or.inr rfl)⟩
      · exact absurd rfl hc341
set_option maxHeartbeats 4000000 in
set_option maxRecDepth 100000 in
theorem lc_set {p : Program} {l : Launch} {e : Env} {s : State} {m : MethodId} {below : List Frame} {meth : Method} {c : Code} {Q : State → Prop} {D : va_G} {cI cZ cQ : ClassId} {ad : Nat → Nat} {A : Nat → Prop} {x : Nat → Nat} {g : Nat → Nat → Int32} {bs L i : Nat} {xs : Nat → Int32} (C : GC p room_1 s m #[Value.ref bs] c 600000 7302250 code 4 RL wsL_law D cI cZ cQ ad 41 A) (hXs : va_X bs L xs s s.heap) (hbl : bs < s.heap.size) (hbA : ¬ A bs) (hL : L ≤ 2560) (hi : i + 5 ≤ L) (hI : INV x g) (hNext : ∀ (x' : Nat → Nat) (g' : Nat → Nat → Int32), INV x' g' → J p l e room_1 s m #[Value.ref bs] below meth c 600000 7302250 D cI cZ cQ ad 41 A 4 Q x' g' 761 [some (.ref bs), some (.ref (ad 0)), some (.ref (ad 27)), some (.int (nI i))] []) : J p l e room_1 s m #[Value.ref bs] below meth c 600000 7302250 D cI cZ cQ ad 41 A 4 Q x g 346 [some (.ref bs), some (.ref (ad 0)), some (.ref (ad 27)), some (.int (nI i))] [] := by
  obtain ⟨a, b, nu, hX, hM, hW⟩ := hI
  refine j_aload_n C dL_law_346 rfl ?_
  refine j_aload_n C dL_law_347 rfl ?_
  refine j_iload_n C dL_law_348 rfl ?_
  refine j_iconst (v := 1) C dL_law_349 rfl ?_
  refine j_iadd C dL_law_350 ?_
  refine j_sld C hXs hbl hbA (i + 1) dL_law_351 (nI_add i 1) (by omega) (by omega) ?_
  refine j_aload_n C dL_law_352 rfl ?_
  refine j_iload_n C dL_law_353 rfl ?_
  refine j_iconst (v := 2) C dL_law_354 rfl ?_
  refine j_iadd C dL_law_355 ?_
  refine j_sld C hXs hbl hbA (i + 2) dL_law_356 (nI_add i 2) (by omega) (by omega) ?_
  refine j_aload_n C dL_law_357 rfl ?_
  refine j_iload_n C dL_law_358 rfl ?_
  refine j_iconst (v := 3) C dL_law_359 rfl ?_
  refine j_iadd C dL_law_360 ?_
  refine j_sld C hXs hbl hbA (i + 3) dL_law_361 (nI_add i 3) (by omega) (by omega) ?_
  refine jVi3 (ci := 3) C dL_law_362 gL_law_X3_set rfl pd_X3_set ⟨by decide, by decide⟩ (by decide) rfl rfl rfl (Nat.le_of_ble_eq_true rfl) (c_X3_set (by decide) hX hW) (fun rr x2 g2 hp => ?_)
  obtain ⟨rfl, hX1, hF1⟩ := hp
  have hM1 := hM.fx hF1
  refine j_aload_n C dL_law_365 rfl ?_
  refine j_aload_n C dL_law_366 rfl ?_
  refine j_iload_n C dL_law_367 rfl ?_
  refine j_iconst (v := 1) C dL_law_368 rfl ?_
  refine j_iadd C dL_law_369 ?_
  refine j_sld C hXs hbl hbA (i + 1) dL_law_370 (nI_add i 1) (by omega) (by omega) ?_
  refine j_aload_n C dL_law_371 rfl ?_
  refine j_iload_n C dL_law_372 rfl ?_
  refine j_iconst (v := 2) C dL_law_373 rfl ?_
  refine j_iadd C dL_law_374 ?_
  refine j_sld C hXs hbl hbA (i + 2) dL_law_375 (nI_add i 2) (by omega) (by omega) ?_
  refine j_aload_n C dL_law_376 rfl ?_
  refine j_iload_n C dL_law_377 rfl ?_
  refine j_iconst (v := 3) C dL_law_378 rfl ?_
  refine j_iadd C dL_law_379 ?_
  refine j_sld C hXs hbl hbA (i + 3) dL_law_380 (nI_add i 3) (by omega) (by omega) ?_
  refine jVi3 (ci := 4) C dL_law_381 gL_law_X4_set rfl pd_X4_set ⟨by decide, by decide⟩ (by decide) rfl rfl rfl (Nat.le_of_ble_eq_true rfl) (c_X4_set (by decide) hM1 hW) (fun rr x2 g2 hp => ?_)
  obtain ⟨rfl, hM2, hF2⟩ := hp
  have hX2 := hX1.fm hF2
  refine j_icmp_eq C 761 dL_law_384 (by decide) (fun hc384 => ?_) (fun hc384 => ?_)
  · exact hNext _ _ ⟨_, _, _, hX2, hM2, (seWF hW _ _ _)⟩
  · exact absurd rfl hc384
set_option maxHeartbeats 4000000 in
set_option maxRecDepth 100000 in
theorem lc_told {p : Program} {l : Launch} {e : Env} {s : State} {m : MethodId} {below : List Frame} {meth : Method} {c : Code} {Q : State → Prop} {D : va_G} {cI cZ cQ : ClassId} {ad : Nat → Nat} {A : Nat → Prop} {x : Nat → Nat} {g : Nat → Nat → Int32} {bs L i : Nat} {xs : Nat → Int32} (C : GC p room_1 s m #[Value.ref bs] c 600000 7302250 code 4 RL wsL_law D cI cZ cQ ad 41 A) (hXs : va_X bs L xs s s.heap) (hbl : bs < s.heap.size) (hbA : ¬ A bs) (hL : L ≤ 2560) (hi : i + 5 ≤ L) (hI : INV x g) (hNext : ∀ (x' : Nat → Nat) (g' : Nat → Nat → Int32), INV x' g' → J p l e room_1 s m #[Value.ref bs] below meth c 600000 7302250 D cI cZ cQ ad 41 A 4 Q x' g' 761 [some (.ref bs), some (.ref (ad 0)), some (.ref (ad 27)), some (.int (nI i))] []) : J p l e room_1 s m #[Value.ref bs] below meth c 600000 7302250 D cI cZ cQ ad 41 A 4 Q x g 389 [some (.ref bs), some (.ref (ad 0)), some (.ref (ad 27)), some (.int (nI i))] [] := by
  obtain ⟨a, b, nu, hX, hM, hW⟩ := hI
  refine j_aload_n C dL_law_389 rfl ?_
  refine j_aload_n C dL_law_390 rfl ?_
  refine j_iload_n C dL_law_391 rfl ?_
  refine j_iconst (v := 1) C dL_law_392 rfl ?_
  refine j_iadd C dL_law_393 ?_
  refine j_sld C hXs hbl hbA (i + 1) dL_law_394 (nI_add i 1) (by omega) (by omega) ?_
  refine jVi1 (ci := 3) C dL_law_395 gL_law_X3_told rfl pd_X3_told ⟨by decide, by decide⟩ (by decide) rfl rfl rfl (Nat.le_of_ble_eq_true rfl) (c_X3_told (by decide) hX hW) (fun rr x2 g2 hp => ?_)
  obtain ⟨rfl, hX1, hF1⟩ := hp
  have hM1 := hM.fx hF1
  refine j_aload_n C dL_law_398 rfl ?_
  refine j_aload_n C dL_law_399 rfl ?_
  refine j_iload_n C dL_law_400 rfl ?_
  refine j_iconst (v := 1) C dL_law_401 rfl ?_
  refine j_iadd C dL_law_402 ?_
  refine j_sld C hXs hbl hbA (i + 1) dL_law_403 (nI_add i 1) (by omega) (by omega) ?_
  refine jVi1 (ci := 4) C dL_law_404 gL_law_X4_told rfl pd_X4_told ⟨by decide, by decide⟩ (by decide) rfl rfl rfl (Nat.le_of_ble_eq_true rfl) (c_X4_told (by decide) hM1 hW) (fun rr x2 g2 hp => ?_)
  obtain ⟨rfl, hM2, hF2⟩ := hp
  have hX2 := hX1.fm hF2
  refine j_icmp_eq C 761 dL_law_407 (by decide) (fun hc407 => ?_) (fun hc407 => ?_)
  · exact hNext _ _ ⟨_, _, _, hX2, hM2, hW⟩
  · exact absurd rfl hc407
set_option maxHeartbeats 4000000 in
set_option maxRecDepth 100000 in
theorem lc_comes {p : Program} {l : Launch} {e : Env} {s : State} {m : MethodId} {below : List Frame} {meth : Method} {c : Code} {Q : State → Prop} {D : va_G} {cI cZ cQ : ClassId} {ad : Nat → Nat} {A : Nat → Prop} {x : Nat → Nat} {g : Nat → Nat → Int32} {bs L i : Nat} {xs : Nat → Int32} (C : GC p room_1 s m #[Value.ref bs] c 600000 7302250 code 4 RL wsL_law D cI cZ cQ ad 41 A) (hXs : va_X bs L xs s s.heap) (hbl : bs < s.heap.size) (hbA : ¬ A bs) (hL : L ≤ 2560) (hi : i + 5 ≤ L) (hI : INV x g) (hNext : ∀ (x' : Nat → Nat) (g' : Nat → Nat → Int32), INV x' g' → J p l e room_1 s m #[Value.ref bs] below meth c 600000 7302250 D cI cZ cQ ad 41 A 4 Q x' g' 761 [some (.ref bs), some (.ref (ad 0)), some (.ref (ad 27)), some (.int (nI i))] []) : J p l e room_1 s m #[Value.ref bs] below meth c 600000 7302250 D cI cZ cQ ad 41 A 4 Q x g 412 [some (.ref bs), some (.ref (ad 0)), some (.ref (ad 27)), some (.int (nI i))] [] := by
  obtain ⟨a, b, nu, hX, hM, hW⟩ := hI
  refine j_aload_n C dL_law_412 rfl ?_
  refine j_aload_n C dL_law_413 rfl ?_
  refine j_iload_n C dL_law_414 rfl ?_
  refine j_iconst (v := 1) C dL_law_415 rfl ?_
  refine j_iadd C dL_law_416 ?_
  refine j_sld C hXs hbl hbA (i + 1) dL_law_417 (nI_add i 1) (by omega) (by omega) ?_
  refine j_aload_n C dL_law_418 rfl ?_
  refine j_iload_n C dL_law_419 rfl ?_
  refine j_iconst (v := 2) C dL_law_420 rfl ?_
  refine j_iadd C dL_law_421 ?_
  refine j_sld C hXs hbl hbA (i + 2) dL_law_422 (nI_add i 2) (by omega) (by omega) ?_
  refine j_aload_n C dL_law_423 rfl ?_
  refine j_iload_n C dL_law_424 rfl ?_
  refine j_iconst (v := 3) C dL_law_425 rfl ?_
  refine j_iadd C dL_law_426 ?_
  refine j_sld C hXs hbl hbA (i + 3) dL_law_427 (nI_add i 3) (by omega) (by omega) ?_
  refine jVi3 (ci := 3) C dL_law_428 gL_law_X3_comes rfl pd_X3_comes ⟨by decide, by decide⟩ (by decide) rfl rfl rfl (Nat.le_of_ble_eq_true rfl) (c_X3_comes (by decide) hX hW) (fun rr x2 g2 hp => ?_)
  obtain ⟨rfl, hX1, hF1⟩ := hp
  have hM1 := hM.fx hF1
  refine j_aload_n C dL_law_431 rfl ?_
  refine j_aload_n C dL_law_432 rfl ?_
  refine j_iload_n C dL_law_433 rfl ?_
  refine j_iconst (v := 1) C dL_law_434 rfl ?_
  refine j_iadd C dL_law_435 ?_
  refine j_sld C hXs hbl hbA (i + 1) dL_law_436 (nI_add i 1) (by omega) (by omega) ?_
  refine j_aload_n C dL_law_437 rfl ?_
  refine j_iload_n C dL_law_438 rfl ?_
  refine j_iconst (v := 2) C dL_law_439 rfl ?_
  refine j_iadd C dL_law_440 ?_
  refine j_sld C hXs hbl hbA (i + 2) dL_law_441 (nI_add i 2) (by omega) (by omega) ?_
  refine j_aload_n C dL_law_442 rfl ?_
  refine j_iload_n C dL_law_443 rfl ?_
  refine j_iconst (v := 3) C dL_law_444 rfl ?_
  refine j_iadd C dL_law_445 ?_
  refine j_sld C hXs hbl hbA (i + 3) dL_law_446 (nI_add i 3) (by omega) (by omega) ?_
  refine jVi3 (ci := 4) C dL_law_447 gL_law_X4_comes rfl pd_X4_comes ⟨by decide, by decide⟩ (by decide) rfl rfl rfl (Nat.le_of_ble_eq_true rfl) (c_X4_comes (by decide) hM1 hW) (fun rr x2 g2 hp => ?_)
  obtain ⟨rfl, hM2, hF2⟩ := hp
  have hX2 := hX1.fm hF2
  refine j_icmp_eq C 761 dL_law_450 (by decide) (fun hc450 => ?_) (fun hc450 => ?_)
  · exact hNext _ _ ⟨_, _, _, hX2, hM2, hW⟩
  · exact absurd rfl hc450
set_option maxHeartbeats 4000000 in
set_option maxRecDepth 100000 in
theorem lc_worst {p : Program} {l : Launch} {e : Env} {s : State} {m : MethodId} {below : List Frame} {meth : Method} {c : Code} {Q : State → Prop} {D : va_G} {cI cZ cQ : ClassId} {ad : Nat → Nat} {A : Nat → Prop} {x : Nat → Nat} {g : Nat → Nat → Int32} {bs L i : Nat} {xs : Nat → Int32} (C : GC p room_1 s m #[Value.ref bs] c 600000 7302250 code 4 RL wsL_law D cI cZ cQ ad 41 A) (hXs : va_X bs L xs s s.heap) (hbl : bs < s.heap.size) (hbA : ¬ A bs) (hL : L ≤ 2560) (hi : i + 5 ≤ L) (hI : INV x g) (hNext : ∀ (x' : Nat → Nat) (g' : Nat → Nat → Int32), INV x' g' → J p l e room_1 s m #[Value.ref bs] below meth c 600000 7302250 D cI cZ cQ ad 41 A 4 Q x' g' 761 [some (.ref bs), some (.ref (ad 0)), some (.ref (ad 27)), some (.int (nI i))] []) : J p l e room_1 s m #[Value.ref bs] below meth c 600000 7302250 D cI cZ cQ ad 41 A 4 Q x g 455 [some (.ref bs), some (.ref (ad 0)), some (.ref (ad 27)), some (.int (nI i))] [] := by
  obtain ⟨a, b, nu, hX, hM, hW⟩ := hI
  refine j_aload_n C dL_law_455 rfl ?_
  refine j_aload_n C dL_law_456 rfl ?_
  refine j_iload_n C dL_law_457 rfl ?_
  refine j_iconst (v := 1) C dL_law_458 rfl ?_
  refine j_iadd C dL_law_459 ?_
  refine j_sld C hXs hbl hbA (i + 1) dL_law_460 (nI_add i 1) (by omega) (by omega) ?_
  refine j_aload_n C dL_law_461 rfl ?_
  refine j_iload_n C dL_law_462 rfl ?_
  refine j_iconst (v := 2) C dL_law_463 rfl ?_
  refine j_iadd C dL_law_464 ?_
  refine j_sld C hXs hbl hbA (i + 2) dL_law_465 (nI_add i 2) (by omega) (by omega) ?_
  refine jVi2 (ci := 3) C dL_law_466 gL_law_X3_worst rfl pd_X3_worst ⟨by decide, by decide⟩ (by decide) rfl rfl rfl (Nat.le_of_ble_eq_true rfl) (c_X3_worst (by decide) hX hW) (fun rr x2 g2 hp => ?_)
  obtain ⟨rfl, hX1, hF1⟩ := hp
  have hM1 := hM.fx hF1
  refine j_aload_n C dL_law_469 rfl ?_
  refine j_aload_n C dL_law_470 rfl ?_
  refine j_iload_n C dL_law_471 rfl ?_
  refine j_iconst (v := 1) C dL_law_472 rfl ?_
  refine j_iadd C dL_law_473 ?_
  refine j_sld C hXs hbl hbA (i + 1) dL_law_474 (nI_add i 1) (by omega) (by omega) ?_
  refine j_aload_n C dL_law_475 rfl ?_
  refine j_iload_n C dL_law_476 rfl ?_
  refine j_iconst (v := 2) C dL_law_477 rfl ?_
  refine j_iadd C dL_law_478 ?_
  refine j_sld C hXs hbl hbA (i + 2) dL_law_479 (nI_add i 2) (by omega) (by omega) ?_
  refine jVi2 (ci := 4) C dL_law_480 gL_law_X4_worst rfl pd_X4_worst ⟨by decide, by decide⟩ (by decide) rfl rfl rfl (Nat.le_of_ble_eq_true rfl) (c_X4_worst (by decide) hM1 hW) (fun rr x2 g2 hp => ?_)
  obtain ⟨rfl, hM2, hF2⟩ := hp
  have hX2 := hX1.fm hF2
  refine j_icmp_eq C 761 dL_law_483 (by decide) (fun hc483 => ?_) (fun hc483 => ?_)
  · exact hNext _ _ ⟨_, _, _, hX2, hM2, hW⟩
  · exact absurd rfl hc483
set_option maxHeartbeats 4000000 in
set_option maxRecDepth 100000 in
theorem lc_worstName {p : Program} {l : Launch} {e : Env} {s : State} {m : MethodId} {below : List Frame} {meth : Method} {c : Code} {Q : State → Prop} {D : va_G} {cI cZ cQ : ClassId} {ad : Nat → Nat} {A : Nat → Prop} {x : Nat → Nat} {g : Nat → Nat → Int32} {bs L i : Nat} {xs : Nat → Int32} (C : GC p room_1 s m #[Value.ref bs] c 600000 7302250 code 4 RL wsL_law D cI cZ cQ ad 41 A) (hXs : va_X bs L xs s s.heap) (hbl : bs < s.heap.size) (hbA : ¬ A bs) (hL : L ≤ 2560) (hi : i + 5 ≤ L) (hI : INV x g) (hNext : ∀ (x' : Nat → Nat) (g' : Nat → Nat → Int32), INV x' g' → J p l e room_1 s m #[Value.ref bs] below meth c 600000 7302250 D cI cZ cQ ad 41 A 4 Q x' g' 761 [some (.ref bs), some (.ref (ad 0)), some (.ref (ad 27)), some (.int (nI i))] []) : J p l e room_1 s m #[Value.ref bs] below meth c 600000 7302250 D cI cZ cQ ad 41 A 4 Q x g 488 [some (.ref bs), some (.ref (ad 0)), some (.ref (ad 27)), some (.int (nI i))] [] := by
  obtain ⟨a, b, nu, hX, hM, hW⟩ := hI
  refine j_aload_n C dL_law_488 rfl ?_
  refine j_aload_n C dL_law_489 rfl ?_
  refine j_iload_n C dL_law_490 rfl ?_
  refine j_iconst (v := 1) C dL_law_491 rfl ?_
  refine j_iadd C dL_law_492 ?_
  refine j_sld C hXs hbl hbA (i + 1) dL_law_493 (nI_add i 1) (by omega) (by omega) ?_
  refine j_aload_n C dL_law_494 rfl ?_
  refine j_iload_n C dL_law_495 rfl ?_
  refine j_iconst (v := 2) C dL_law_496 rfl ?_
  refine j_iadd C dL_law_497 ?_
  refine j_sld C hXs hbl hbA (i + 2) dL_law_498 (nI_add i 2) (by omega) (by omega) ?_
  refine j_aload_n C dL_law_499 rfl ?_
  refine j_iload_n C dL_law_500 rfl ?_
  refine j_iconst (v := 3) C dL_law_501 rfl ?_
  refine j_iadd C dL_law_502 ?_
  refine j_sld C hXs hbl hbA (i + 3) dL_law_503 (nI_add i 3) (by omega) (by omega) ?_
  refine jVi3 (ci := 3) C dL_law_504 gL_law_X3_worstName rfl pd_X3_worstName ⟨by decide, by decide⟩ (by decide) rfl rfl rfl (Nat.le_of_ble_eq_true rfl) (c_X3_worstName (by decide) hX hW) (fun rr x2 g2 hp => ?_)
  obtain ⟨rfl, hX1, hF1⟩ := hp
  have hM1 := hM.fx hF1
  refine j_aload_n C dL_law_507 rfl ?_
  refine j_aload_n C dL_law_508 rfl ?_
  refine j_iload_n C dL_law_509 rfl ?_
  refine j_iconst (v := 1) C dL_law_510 rfl ?_
  refine j_iadd C dL_law_511 ?_
  refine j_sld C hXs hbl hbA (i + 1) dL_law_512 (nI_add i 1) (by omega) (by omega) ?_
  refine j_aload_n C dL_law_513 rfl ?_
  refine j_iload_n C dL_law_514 rfl ?_
  refine j_iconst (v := 2) C dL_law_515 rfl ?_
  refine j_iadd C dL_law_516 ?_
  refine j_sld C hXs hbl hbA (i + 2) dL_law_517 (nI_add i 2) (by omega) (by omega) ?_
  refine j_aload_n C dL_law_518 rfl ?_
  refine j_iload_n C dL_law_519 rfl ?_
  refine j_iconst (v := 3) C dL_law_520 rfl ?_
  refine j_iadd C dL_law_521 ?_
  refine j_sld C hXs hbl hbA (i + 3) dL_law_522 (nI_add i 3) (by omega) (by omega) ?_
  refine jVi3 (ci := 4) C dL_law_523 gL_law_X4_worstName rfl pd_X4_worstName ⟨by decide, by decide⟩ (by decide) rfl rfl rfl (Nat.le_of_ble_eq_true rfl) (c_X4_worstName (by decide) hM1 hW) (fun rr x2 g2 hp => ?_)
  obtain ⟨rfl, hM2, hF2⟩ := hp
  have hX2 := hX1.fm hF2
  refine j_icmp_eq C 761 dL_law_526 (by decide) (fun hc526 => ?_) (fun hc526 => ?_)
  · exact hNext _ _ ⟨_, _, _, hX2, hM2, hW⟩
  · exact absurd rfl hc526
set_option maxHeartbeats 4000000 in
set_option maxRecDepth 100000 in
theorem lc_breaks {p : Program} {l : Launch} {e : Env} {s : State} {m : MethodId} {below : List Frame} {meth : Method} {c : Code} {Q : State → Prop} {D : va_G} {cI cZ cQ : ClassId} {ad : Nat → Nat} {A : Nat → Prop} {x : Nat → Nat} {g : Nat → Nat → Int32} {bs L i : Nat} {xs : Nat → Int32} (C : GC p room_1 s m #[Value.ref bs] c 600000 7302250 code 4 RL wsL_law D cI cZ cQ ad 41 A) (hXs : va_X bs L xs s s.heap) (hbl : bs < s.heap.size) (hbA : ¬ A bs) (hL : L ≤ 2560) (hi : i + 5 ≤ L) (hI : INV x g) (hNext : ∀ (x' : Nat → Nat) (g' : Nat → Nat → Int32), INV x' g' → J p l e room_1 s m #[Value.ref bs] below meth c 600000 7302250 D cI cZ cQ ad 41 A 4 Q x' g' 761 [some (.ref bs), some (.ref (ad 0)), some (.ref (ad 27)), some (.int (nI i))] []) : J p l e room_1 s m #[Value.ref bs] below meth c 600000 7302250 D cI cZ cQ ad 41 A 4 Q x g 531 [some (.ref bs), some (.ref (ad 0)), some (.ref (ad 27)), some (.int (nI i))] [] := by
  obtain ⟨a, b, nu, hX, hM, hW⟩ := hI
  refine j_aload_n C dL_law_531 rfl ?_
  refine j_aload_n C dL_law_532 rfl ?_
  refine j_iload_n C dL_law_533 rfl ?_
  refine j_iconst (v := 1) C dL_law_534 rfl ?_
  refine j_iadd C dL_law_535 ?_
  refine j_sld C hXs hbl hbA (i + 1) dL_law_536 (nI_add i 1) (by omega) (by omega) ?_
  refine jVi1 (ci := 3) C dL_law_537 gL_law_X3_breaks rfl pd_X3_breaks ⟨by decide, by decide⟩ (by decide) rfl rfl rfl (Nat.le_of_ble_eq_true rfl) (c_X3_breaks (by decide) hX hW) (fun rr x2 g2 hp => ?_)
  obtain ⟨rfl, hX1, hF1⟩ := hp
  have hM1 := hM.fx hF1
  refine j_aload_n C dL_law_540 rfl ?_
  refine j_aload_n C dL_law_541 rfl ?_
  refine j_iload_n C dL_law_542 rfl ?_
  refine j_iconst (v := 1) C dL_law_543 rfl ?_
  refine j_iadd C dL_law_544 ?_
  refine j_sld C hXs hbl hbA (i + 1) dL_law_545 (nI_add i 1) (by omega) (by omega) ?_
  refine jVi1 (ci := 4) C dL_law_546 gL_law_X4_breaks rfl pd_X4_breaks ⟨by decide, by decide⟩ (by decide) rfl rfl rfl (Nat.le_of_ble_eq_true rfl) (c_X4_breaks (by decide) hM1 hW) (fun rr x2 g2 hp => ?_)
  obtain ⟨rfl, rfl, hS2⟩ := hp
  have hM2 := hM1.sm hS2
  have hX2 := hX1.sm hS2
  refine j_icmp_eq C 761 dL_law_549 (by decide) (fun hc549 => ?_) (fun hc549 => ?_)
  · exact hNext _ _ ⟨_, _, _, hX2, hM2, hW⟩
  · exact absurd rfl hc549
set_option maxHeartbeats 4000000 in
set_option maxRecDepth 100000 in
theorem lc_safest {p : Program} {l : Launch} {e : Env} {s : State} {m : MethodId} {below : List Frame} {meth : Method} {c : Code} {Q : State → Prop} {D : va_G} {cI cZ cQ : ClassId} {ad : Nat → Nat} {A : Nat → Prop} {x : Nat → Nat} {g : Nat → Nat → Int32} {bs L i : Nat} {xs : Nat → Int32} (C : GC p room_1 s m #[Value.ref bs] c 600000 7302250 code 4 RL wsL_law D cI cZ cQ ad 41 A) (hXs : va_X bs L xs s s.heap) (hbl : bs < s.heap.size) (hbA : ¬ A bs) (hL : L ≤ 2560) (hi : i + 5 ≤ L) (hI : INV x g) (hNext : ∀ (x' : Nat → Nat) (g' : Nat → Nat → Int32), INV x' g' → J p l e room_1 s m #[Value.ref bs] below meth c 600000 7302250 D cI cZ cQ ad 41 A 4 Q x' g' 761 [some (.ref bs), some (.ref (ad 0)), some (.ref (ad 27)), some (.int (nI i))] []) : J p l e room_1 s m #[Value.ref bs] below meth c 600000 7302250 D cI cZ cQ ad 41 A 4 Q x g 554 [some (.ref bs), some (.ref (ad 0)), some (.ref (ad 27)), some (.int (nI i))] [] := by
  obtain ⟨a, b, nu, hX, hM, hW⟩ := hI
  refine j_aload_n C dL_law_554 rfl ?_
  refine jVi0 (ci := 3) C dL_law_555 gL_law_X3_safest rfl pd_X3_safest ⟨by decide, by decide⟩ (by decide) rfl rfl rfl (Nat.le_of_ble_eq_true rfl) (c_X3_safest (by decide) hX hW) (fun rr x2 g2 hp => ?_)
  obtain ⟨rfl, hX1, hF1⟩ := hp
  have hM1 := hM.fx hF1
  refine j_aload_n C dL_law_558 rfl ?_
  refine jVi0 (ci := 4) C dL_law_559 gL_law_X4_safest rfl pd_X4_safest ⟨by decide, by decide⟩ (by decide) rfl rfl rfl (Nat.le_of_ble_eq_true rfl) (c_X4_safest (by decide) hM1 hW) (fun rr x2 g2 hp => ?_)
  obtain ⟨rfl, hM2, hF2⟩ := hp
  have hX2 := hX1.fm hF2
  refine j_icmp_eq C 761 dL_law_562 (by decide) (fun hc562 => ?_) (fun hc562 => ?_)
  · exact hNext _ _ ⟨_, _, _, hX2, hM2, hW⟩
  · exact absurd rfl hc562
set_option maxHeartbeats 4000000 in
set_option maxRecDepth 100000 in
theorem lc_answer {p : Program} {l : Launch} {e : Env} {s : State} {m : MethodId} {below : List Frame} {meth : Method} {c : Code} {Q : State → Prop} {D : va_G} {cI cZ cQ : ClassId} {ad : Nat → Nat} {A : Nat → Prop} {x : Nat → Nat} {g : Nat → Nat → Int32} {bs L i : Nat} {xs : Nat → Int32} (C : GC p room_1 s m #[Value.ref bs] c 600000 7302250 code 4 RL wsL_law D cI cZ cQ ad 41 A) (hXs : va_X bs L xs s s.heap) (hbl : bs < s.heap.size) (hbA : ¬ A bs) (hL : L ≤ 2560) (hi : i + 5 ≤ L) (hI : INV x g) (hNext : ∀ (x' : Nat → Nat) (g' : Nat → Nat → Int32), INV x' g' → J p l e room_1 s m #[Value.ref bs] below meth c 600000 7302250 D cI cZ cQ ad 41 A 4 Q x' g' 761 [some (.ref bs), some (.ref (ad 0)), some (.ref (ad 27)), some (.int (nI i))] []) : J p l e room_1 s m #[Value.ref bs] below meth c 600000 7302250 D cI cZ cQ ad 41 A 4 Q x g 567 [some (.ref bs), some (.ref (ad 0)), some (.ref (ad 27)), some (.int (nI i))] [] := by
  obtain ⟨a, b, nu, hX, hM, hW⟩ := hI
  refine j_aload_n C dL_law_567 rfl ?_
  refine j_aload_n C dL_law_568 rfl ?_
  refine j_iload_n C dL_law_569 rfl ?_
  refine j_iconst (v := 1) C dL_law_570 rfl ?_
  refine j_iadd C dL_law_571 ?_
  refine j_sld C hXs hbl hbA (i + 1) dL_law_572 (nI_add i 1) (by omega) (by omega) ?_
  refine j_aload_n C dL_law_573 rfl ?_
  refine j_iload_n C dL_law_574 rfl ?_
  refine j_iconst (v := 2) C dL_law_575 rfl ?_
  refine j_iadd C dL_law_576 ?_
  refine j_sld C hXs hbl hbA (i + 2) dL_law_577 (nI_add i 2) (by omega) (by omega) ?_
  refine jVi2 (ci := 3) C dL_law_578 gL_law_X3_answer rfl pd_X3_answer ⟨by decide, by decide⟩ (by decide) rfl rfl rfl (Nat.le_of_ble_eq_true rfl) (c_X3_answer (by decide) hX hW) (fun rr x2 g2 hp => ?_)
  obtain ⟨rfl, hX1, hF1⟩ := hp
  have hM1 := hM.fx hF1
  refine j_aload_n C dL_law_581 rfl ?_
  refine j_aload_n C dL_law_582 rfl ?_
  refine j_iload_n C dL_law_583 rfl ?_
  refine j_iconst (v := 1) C dL_law_584 rfl ?_
  refine j_iadd C dL_law_585 ?_
  refine j_sld C hXs hbl hbA (i + 1) dL_law_586 (nI_add i 1) (by omega) (by omega) ?_
  refine j_aload_n C dL_law_587 rfl ?_
  refine j_iload_n C dL_law_588 rfl ?_
  refine j_iconst (v := 2) C dL_law_589 rfl ?_
  refine j_iadd C dL_law_590 ?_
  refine j_sld C hXs hbl hbA (i + 2) dL_law_591 (nI_add i 2) (by omega) (by omega) ?_
  refine jVi2 (ci := 4) C dL_law_592 gL_law_X4_answer rfl pd_X4_answer ⟨by decide, by decide⟩ (by decide) rfl rfl rfl (Nat.le_of_ble_eq_true rfl) (c_X4_answer (by decide) hM1 hW) (fun rr x2 g2 hp => ?_)
  obtain ⟨rfl, hM2, hF2⟩ := hp
  have hX2 := hX1.fm hF2
  refine j_icmp_eq C 761 dL_law_595 (by decide) (fun hc595 => ?_) (fun hc595 => ?_)
  · exact hNext _ _ ⟨_, _, _, hX2, hM2, hW⟩
  · exact absurd rfl hc595
set_option maxHeartbeats 4000000 in
set_option maxRecDepth 100000 in
theorem lc_twoStep {p : Program} {l : Launch} {e : Env} {s : State} {m : MethodId} {below : List Frame} {meth : Method} {c : Code} {Q : State → Prop} {D : va_G} {cI cZ cQ : ClassId} {ad : Nat → Nat} {A : Nat → Prop} {x : Nat → Nat} {g : Nat → Nat → Int32} {bs L i : Nat} {xs : Nat → Int32} (C : GC p room_1 s m #[Value.ref bs] c 600000 7302250 code 4 RL wsL_law D cI cZ cQ ad 41 A) (hXs : va_X bs L xs s s.heap) (hbl : bs < s.heap.size) (hbA : ¬ A bs) (hL : L ≤ 2560) (hi : i + 5 ≤ L) (hI : INV x g) (hNext : ∀ (x' : Nat → Nat) (g' : Nat → Nat → Int32), INV x' g' → J p l e room_1 s m #[Value.ref bs] below meth c 600000 7302250 D cI cZ cQ ad 41 A 4 Q x' g' 761 [some (.ref bs), some (.ref (ad 0)), some (.ref (ad 27)), some (.int (nI i))] []) : J p l e room_1 s m #[Value.ref bs] below meth c 600000 7302250 D cI cZ cQ ad 41 A 4 Q x g 600 [some (.ref bs), some (.ref (ad 0)), some (.ref (ad 27)), some (.int (nI i))] [] := by
  obtain ⟨a, b, nu, hX, hM, hW⟩ := hI
  refine j_aload_n C dL_law_600 rfl ?_
  refine jVi0 (ci := 3) C dL_law_601 gL_law_X3_twoStep rfl pd_X3_twoStep ⟨by decide, by decide⟩ (by decide) rfl rfl rfl (Nat.le_of_ble_eq_true rfl) (c_X3_twoStep (by decide) hX hW) (fun rr x2 g2 hp => ?_)
  obtain ⟨rfl, hX1, hF1⟩ := hp
  have hM1 := hM.fx hF1
  refine j_aload_n C dL_law_604 rfl ?_
  refine jVp0 (ci := 4) C dL_law_605 gL_law_X4_twoStep rfl pd_X4_twoStep ⟨by decide, by decide⟩ (by decide) rfl rfl rfl (Nat.le_of_ble_eq_true rfl) (c_X4_twoStep (by decide) hM1 hW) ?_
  have hM2 := hM1
  have hX2 := hX1
  refine j_icmp_eq C 761 dL_law_608 (by decide) (fun hc608 => ?_) (fun hc608 => ?_)
  · exact hNext _ _ ⟨_, _, _, hX2, hM2, hW⟩
  · exact absurd rfl hc608
set_option maxHeartbeats 4000000 in
set_option maxRecDepth 100000 in
theorem lc_mean {p : Program} {l : Launch} {e : Env} {s : State} {m : MethodId} {below : List Frame} {meth : Method} {c : Code} {Q : State → Prop} {D : va_G} {cI cZ cQ : ClassId} {ad : Nat → Nat} {A : Nat → Prop} {x : Nat → Nat} {g : Nat → Nat → Int32} {bs L i : Nat} {xs : Nat → Int32} (C : GC p room_1 s m #[Value.ref bs] c 600000 7302250 code 4 RL wsL_law D cI cZ cQ ad 41 A) (hXs : va_X bs L xs s s.heap) (hbl : bs < s.heap.size) (hbA : ¬ A bs) (hL : L ≤ 2560) (hi : i + 5 ≤ L) (hI : INV x g) (hNext : ∀ (x' : Nat → Nat) (g' : Nat → Nat → Int32), INV x' g' → J p l e room_1 s m #[Value.ref bs] below meth c 600000 7302250 D cI cZ cQ ad 41 A 4 Q x' g' 761 [some (.ref bs), some (.ref (ad 0)), some (.ref (ad 27)), some (.int (nI i))] []) : J p l e room_1 s m #[Value.ref bs] below meth c 600000 7302250 D cI cZ cQ ad 41 A 4 Q x g 613 [some (.ref bs), some (.ref (ad 0)), some (.ref (ad 27)), some (.int (nI i))] [] := by
  obtain ⟨a, b, nu, hX, hM, hW⟩ := hI
  refine j_aload_n C dL_law_613 rfl ?_
  refine j_aload_n C dL_law_614 rfl ?_
  refine j_iload_n C dL_law_615 rfl ?_
  refine j_iconst (v := 1) C dL_law_616 rfl ?_
  refine j_iadd C dL_law_617 ?_
  refine j_sld C hXs hbl hbA (i + 1) dL_law_618 (nI_add i 1) (by omega) (by omega) ?_
  refine j_aload_n C dL_law_619 rfl ?_
  refine j_iload_n C dL_law_620 rfl ?_
  refine j_iconst (v := 2) C dL_law_621 rfl ?_
  refine j_iadd C dL_law_622 ?_
  refine j_sld C hXs hbl hbA (i + 2) dL_law_623 (nI_add i 2) (by omega) (by omega) ?_
  refine jVi2 (ci := 3) C dL_law_624 gL_law_X3_mean rfl pd_X3_mean ⟨by decide, by decide⟩ (by decide) rfl rfl rfl (Nat.le_of_ble_eq_true rfl) (c_X3_mean (by decide) hX hW) (fun rr x2 g2 hp => ?_)
  obtain ⟨rfl, hX1, hF1⟩ := hp
  have hM1 := hM.fx hF1
  refine j_aload_n C dL_law_627 rfl ?_
  refine j_aload_n C dL_law_628 rfl ?_
  refine j_iload_n C dL_law_629 rfl ?_
  refine j_iconst (v := 1) C dL_law_630 rfl ?_
  refine j_iadd C dL_law_631 ?_
  refine j_sld C hXs hbl hbA (i + 1) dL_law_632 (nI_add i 1) (by omega) (by omega) ?_
  refine j_aload_n C dL_law_633 rfl ?_
  refine j_iload_n C dL_law_634 rfl ?_
  refine j_iconst (v := 2) C dL_law_635 rfl ?_
  refine j_iadd C dL_law_636 ?_
  refine j_sld C hXs hbl hbA (i + 2) dL_law_637 (nI_add i 2) (by omega) (by omega) ?_
  refine jVi2 (ci := 4) C dL_law_638 gL_law_X4_mean rfl pd_X4_mean ⟨by decide, by decide⟩ (by decide) rfl rfl rfl (Nat.le_of_ble_eq_true rfl) (c_X4_mean (by decide) hM1 hW) (fun rr x2 g2 hp => ?_)
  obtain ⟨rfl, hM2, hF2⟩ := hp
  have hX2 := hX1.fm hF2
  refine j_icmp_eq C 761 dL_law_641 (by decide) (fun hc641 => ?_) (fun hc641 => ?_)
  · exact hNext _ _ ⟨_, _, _, hX2, hM2, hW⟩
  · exact absurd rfl hc641
set_option maxHeartbeats 4000000 in
set_option maxRecDepth 100000 in
theorem lc_best {p : Program} {l : Launch} {e : Env} {s : State} {m : MethodId} {below : List Frame} {meth : Method} {c : Code} {Q : State → Prop} {D : va_G} {cI cZ cQ : ClassId} {ad : Nat → Nat} {A : Nat → Prop} {x : Nat → Nat} {g : Nat → Nat → Int32} {bs L i : Nat} {xs : Nat → Int32} (C : GC p room_1 s m #[Value.ref bs] c 600000 7302250 code 4 RL wsL_law D cI cZ cQ ad 41 A) (hXs : va_X bs L xs s s.heap) (hbl : bs < s.heap.size) (hbA : ¬ A bs) (hL : L ≤ 2560) (hi : i + 5 ≤ L) (hI : INV x g) (hNext : ∀ (x' : Nat → Nat) (g' : Nat → Nat → Int32), INV x' g' → J p l e room_1 s m #[Value.ref bs] below meth c 600000 7302250 D cI cZ cQ ad 41 A 4 Q x' g' 761 [some (.ref bs), some (.ref (ad 0)), some (.ref (ad 27)), some (.int (nI i))] []) : J p l e room_1 s m #[Value.ref bs] below meth c 600000 7302250 D cI cZ cQ ad 41 A 4 Q x g 646 [some (.ref bs), some (.ref (ad 0)), some (.ref (ad 27)), some (.int (nI i))] [] := by
  obtain ⟨a, b, nu, hX, hM, hW⟩ := hI
  refine j_aload_n C dL_law_646 rfl ?_
  refine j_aload_n C dL_law_647 rfl ?_
  refine j_iload_n C dL_law_648 rfl ?_
  refine j_iconst (v := 1) C dL_law_649 rfl ?_
  refine j_iadd C dL_law_650 ?_
  refine j_sld C hXs hbl hbA (i + 1) dL_law_651 (nI_add i 1) (by omega) (by omega) ?_
  refine jVi1 (ci := 3) C dL_law_652 gL_law_X3_best rfl pd_X3_best ⟨by decide, by decide⟩ (by decide) rfl rfl rfl (Nat.le_of_ble_eq_true rfl) (c_X3_best (by decide) hX hW) (fun rr x2 g2 hp => ?_)
  obtain ⟨rfl, hX1, hF1⟩ := hp
  have hM1 := hM.fx hF1
  refine j_aload_n C dL_law_655 rfl ?_
  refine j_aload_n C dL_law_656 rfl ?_
  refine j_iload_n C dL_law_657 rfl ?_
  refine j_iconst (v := 1) C dL_law_658 rfl ?_
  refine j_iadd C dL_law_659 ?_
  refine j_sld C hXs hbl hbA (i + 1) dL_law_660 (nI_add i 1) (by omega) (by omega) ?_
  refine jVi1 (ci := 4) C dL_law_661 gL_law_X4_best rfl pd_X4_best ⟨by decide, by decide⟩ (by decide) rfl rfl rfl (Nat.le_of_ble_eq_true rfl) (c_X4_best (by decide) hM1 hW) (fun rr x2 g2 hp => ?_)
  obtain ⟨rfl, hM2, hF2⟩ := hp
  have hX2 := hX1.fm hF2
  refine j_icmp_eq C 761 dL_law_664 (by decide) (fun hc664 => ?_) (fun hc664 => ?_)
  · exact hNext _ _ ⟨_, _, _, hX2, hM2, hW⟩
  · exact absurd rfl hc664
set_option maxHeartbeats 4000000 in
set_option maxRecDepth 100000 in
theorem lc_regret {p : Program} {l : Launch} {e : Env} {s : State} {m : MethodId} {below : List Frame} {meth : Method} {c : Code} {Q : State → Prop} {D : va_G} {cI cZ cQ : ClassId} {ad : Nat → Nat} {A : Nat → Prop} {x : Nat → Nat} {g : Nat → Nat → Int32} {bs L i : Nat} {xs : Nat → Int32} (C : GC p room_1 s m #[Value.ref bs] c 600000 7302250 code 4 RL wsL_law D cI cZ cQ ad 41 A) (hXs : va_X bs L xs s s.heap) (hbl : bs < s.heap.size) (hbA : ¬ A bs) (hL : L ≤ 2560) (hi : i + 5 ≤ L) (hI : INV x g) (hNext : ∀ (x' : Nat → Nat) (g' : Nat → Nat → Int32), INV x' g' → J p l e room_1 s m #[Value.ref bs] below meth c 600000 7302250 D cI cZ cQ ad 41 A 4 Q x' g' 761 [some (.ref bs), some (.ref (ad 0)), some (.ref (ad 27)), some (.int (nI i))] []) : J p l e room_1 s m #[Value.ref bs] below meth c 600000 7302250 D cI cZ cQ ad 41 A 4 Q x g 669 [some (.ref bs), some (.ref (ad 0)), some (.ref (ad 27)), some (.int (nI i))] [] := by
  obtain ⟨a, b, nu, hX, hM, hW⟩ := hI
  refine j_aload_n C dL_law_669 rfl ?_
  refine j_aload_n C dL_law_670 rfl ?_
  refine j_iload_n C dL_law_671 rfl ?_
  refine j_iconst (v := 1) C dL_law_672 rfl ?_
  refine j_iadd C dL_law_673 ?_
  refine j_sld C hXs hbl hbA (i + 1) dL_law_674 (nI_add i 1) (by omega) (by omega) ?_
  refine jVi1 (ci := 3) C dL_law_675 gL_law_X3_regret rfl pd_X3_regret ⟨by decide, by decide⟩ (by decide) rfl rfl rfl (Nat.le_of_ble_eq_true rfl) (c_X3_regret (by decide) hX hW) (fun rr x2 g2 hp => ?_)
  obtain ⟨rfl, hX1, hF1⟩ := hp
  have hM1 := hM.fx hF1
  refine j_aload_n C dL_law_678 rfl ?_
  refine j_aload_n C dL_law_679 rfl ?_
  refine j_iload_n C dL_law_680 rfl ?_
  refine j_iconst (v := 1) C dL_law_681 rfl ?_
  refine j_iadd C dL_law_682 ?_
  refine j_sld C hXs hbl hbA (i + 1) dL_law_683 (nI_add i 1) (by omega) (by omega) ?_
  refine jVi1 (ci := 4) C dL_law_684 gL_law_X4_regret rfl pd_X4_regret ⟨by decide, by decide⟩ (by decide) rfl rfl rfl (Nat.le_of_ble_eq_true rfl) (c_X4_regret (by decide) hM1 hW) (fun rr x2 g2 hp => ?_)
  obtain ⟨rfl, hM2, hF2⟩ := hp
  have hX2 := hX1.fm hF2
  refine j_icmp_eq C 761 dL_law_687 (by decide) (fun hc687 => ?_) (fun hc687 => ?_)
  · exact hNext _ _ ⟨_, _, _, hX2, hM2, hW⟩
  · exact absurd rfl hc687
set_option maxHeartbeats 4000000 in
set_option maxRecDepth 100000 in
theorem lc_calmest {p : Program} {l : Launch} {e : Env} {s : State} {m : MethodId} {below : List Frame} {meth : Method} {c : Code} {Q : State → Prop} {D : va_G} {cI cZ cQ : ClassId} {ad : Nat → Nat} {A : Nat → Prop} {x : Nat → Nat} {g : Nat → Nat → Int32} {bs L i : Nat} {xs : Nat → Int32} (C : GC p room_1 s m #[Value.ref bs] c 600000 7302250 code 4 RL wsL_law D cI cZ cQ ad 41 A) (hXs : va_X bs L xs s s.heap) (hbl : bs < s.heap.size) (hbA : ¬ A bs) (hL : L ≤ 2560) (hi : i + 5 ≤ L) (hI : INV x g) (hNext : ∀ (x' : Nat → Nat) (g' : Nat → Nat → Int32), INV x' g' → J p l e room_1 s m #[Value.ref bs] below meth c 600000 7302250 D cI cZ cQ ad 41 A 4 Q x' g' 761 [some (.ref bs), some (.ref (ad 0)), some (.ref (ad 27)), some (.int (nI i))] []) : J p l e room_1 s m #[Value.ref bs] below meth c 600000 7302250 D cI cZ cQ ad 41 A 4 Q x g 692 [some (.ref bs), some (.ref (ad 0)), some (.ref (ad 27)), some (.int (nI i))] [] := by
  obtain ⟨a, b, nu, hX, hM, hW⟩ := hI
  refine j_aload_n C dL_law_692 rfl ?_
  refine jVi0 (ci := 3) C dL_law_693 gL_law_X3_calmest rfl pd_X3_calmest ⟨by decide, by decide⟩ (by decide) rfl rfl rfl (Nat.le_of_ble_eq_true rfl) (c_X3_calmest (by decide) hX hW) (fun rr x2 g2 hp => ?_)
  obtain ⟨rfl, hX1, hF1⟩ := hp
  have hM1 := hM.fx hF1
  refine j_aload_n C dL_law_696 rfl ?_
  refine jVi0 (ci := 4) C dL_law_697 gL_law_X4_calmest rfl pd_X4_calmest ⟨by decide, by decide⟩ (by decide) rfl rfl rfl (Nat.le_of_ble_eq_true rfl) (c_X4_calmest (by decide) hM1 hW) (fun rr x2 g2 hp => ?_)
  obtain ⟨rfl, hM2, hF2⟩ := hp
  have hX2 := hX1.fm hF2
  refine j_icmp_eq C 761 dL_law_700 (by decide) (fun hc700 => ?_) (fun hc700 => ?_)
  · exact hNext _ _ ⟨_, _, _, hX2, hM2, hW⟩
  · exact absurd rfl hc700
set_option maxHeartbeats 4000000 in
set_option maxRecDepth 100000 in
theorem lc_waiting {p : Program} {l : Launch} {e : Env} {s : State} {m : MethodId} {below : List Frame} {meth : Method} {c : Code} {Q : State → Prop} {D : va_G} {cI cZ cQ : ClassId} {ad : Nat → Nat} {A : Nat → Prop} {x : Nat → Nat} {g : Nat → Nat → Int32} {bs L i : Nat} {xs : Nat → Int32} (C : GC p room_1 s m #[Value.ref bs] c 600000 7302250 code 4 RL wsL_law D cI cZ cQ ad 41 A) (hXs : va_X bs L xs s s.heap) (hbl : bs < s.heap.size) (hbA : ¬ A bs) (hL : L ≤ 2560) (hi : i + 5 ≤ L) (hI : INV x g) (hNext : ∀ (x' : Nat → Nat) (g' : Nat → Nat → Int32), INV x' g' → J p l e room_1 s m #[Value.ref bs] below meth c 600000 7302250 D cI cZ cQ ad 41 A 4 Q x' g' 761 [some (.ref bs), some (.ref (ad 0)), some (.ref (ad 27)), some (.int (nI i))] []) : J p l e room_1 s m #[Value.ref bs] below meth c 600000 7302250 D cI cZ cQ ad 41 A 4 Q x g 705 [some (.ref bs), some (.ref (ad 0)), some (.ref (ad 27)), some (.int (nI i))] [] := by
  obtain ⟨a, b, nu, hX, hM, hW⟩ := hI
  refine j_aload_n C dL_law_705 rfl ?_
  refine j_aload_n C dL_law_706 rfl ?_
  refine j_iload_n C dL_law_707 rfl ?_
  refine j_iconst (v := 1) C dL_law_708 rfl ?_
  refine j_iadd C dL_law_709 ?_
  refine j_sld C hXs hbl hbA (i + 1) dL_law_710 (nI_add i 1) (by omega) (by omega) ?_
  refine jVi1 (ci := 3) C dL_law_711 gL_law_X3_waiting rfl pd_X3_waiting ⟨by decide, by decide⟩ (by decide) rfl rfl rfl (Nat.le_of_ble_eq_true rfl) (c_X3_waiting (by decide) hX hW) (fun rr x2 g2 hp => ?_)
  obtain ⟨rfl, hX1, hF1⟩ := hp
  have hM1 := hM.fx hF1
  refine j_aload_n C dL_law_714 rfl ?_
  refine j_aload_n C dL_law_715 rfl ?_
  refine j_iload_n C dL_law_716 rfl ?_
  refine j_iconst (v := 1) C dL_law_717 rfl ?_
  refine j_iadd C dL_law_718 ?_
  refine j_sld C hXs hbl hbA (i + 1) dL_law_719 (nI_add i 1) (by omega) (by omega) ?_
  refine jVi1 (ci := 4) C dL_law_720 gL_law_X4_waiting rfl pd_X4_waiting ⟨by decide, by decide⟩ (by decide) rfl rfl rfl (Nat.le_of_ble_eq_true rfl) (c_X4_waiting (by decide) hM1 hW) (fun rr x2 g2 hp => ?_)
  obtain ⟨rfl, hM2, hF2⟩ := hp
  have hX2 := hX1.fm hF2
  refine j_icmp_eq C 761 dL_law_723 (by decide) (fun hc723 => ?_) (fun hc723 => ?_)
  · exact hNext _ _ ⟨_, _, _, hX2, hM2, hW⟩
  · exact absurd rfl hc723
set_option maxHeartbeats 4000000 in
set_option maxRecDepth 100000 in
theorem lc_chance {p : Program} {l : Launch} {e : Env} {s : State} {m : MethodId} {below : List Frame} {meth : Method} {c : Code} {Q : State → Prop} {D : va_G} {cI cZ cQ : ClassId} {ad : Nat → Nat} {A : Nat → Prop} {x : Nat → Nat} {g : Nat → Nat → Int32} {bs L i : Nat} {xs : Nat → Int32} (C : GC p room_1 s m #[Value.ref bs] c 600000 7302250 code 4 RL wsL_law D cI cZ cQ ad 41 A) (hXs : va_X bs L xs s s.heap) (hbl : bs < s.heap.size) (hbA : ¬ A bs) (hL : L ≤ 2560) (hi : i + 5 ≤ L) (hI : INV x g) (hNext : ∀ (x' : Nat → Nat) (g' : Nat → Nat → Int32), INV x' g' → J p l e room_1 s m #[Value.ref bs] below meth c 600000 7302250 D cI cZ cQ ad 41 A 4 Q x' g' 761 [some (.ref bs), some (.ref (ad 0)), some (.ref (ad 27)), some (.int (nI i))] []) : J p l e room_1 s m #[Value.ref bs] below meth c 600000 7302250 D cI cZ cQ ad 41 A 4 Q x g 728 [some (.ref bs), some (.ref (ad 0)), some (.ref (ad 27)), some (.int (nI i))] [] := by
  obtain ⟨a, b, nu, hX, hM, hW⟩ := hI
  refine j_aload_n C dL_law_728 rfl ?_
  refine j_aload_n C dL_law_729 rfl ?_
  refine j_iload_n C dL_law_730 rfl ?_
  refine j_iconst (v := 1) C dL_law_731 rfl ?_
  refine j_iadd C dL_law_732 ?_
  refine j_sld C hXs hbl hbA (i + 1) dL_law_733 (nI_add i 1) (by omega) (by omega) ?_
  refine j_aload_n C dL_law_734 rfl ?_
  refine j_iload_n C dL_law_735 rfl ?_
  refine j_iconst (v := 2) C dL_law_736 rfl ?_
  refine j_iadd C dL_law_737 ?_
  refine j_sld C hXs hbl hbA (i + 2) dL_law_738 (nI_add i 2) (by omega) (by omega) ?_
  refine jVi2 (ci := 3) C dL_law_739 gL_law_X3_chance rfl pd_X3_chance ⟨by decide, by decide⟩ (by decide) rfl rfl rfl (Nat.le_of_ble_eq_true rfl) (c_X3_chance (by decide) hX hW) (fun rr x2 g2 hp => ?_)
  obtain ⟨rfl, hX1, hF1⟩ := hp
  have hM1 := hM.fx hF1
  refine j_aload_n C dL_law_742 rfl ?_
  refine j_aload_n C dL_law_743 rfl ?_
  refine j_iload_n C dL_law_744 rfl ?_
  refine j_iconst (v := 1) C dL_law_745 rfl ?_
  refine j_iadd C dL_law_746 ?_
  refine j_sld C hXs hbl hbA (i + 1) dL_law_747 (nI_add i 1) (by omega) (by omega) ?_
  refine j_aload_n C dL_law_748 rfl ?_
  refine j_iload_n C dL_law_749 rfl ?_
  refine j_iconst (v := 2) C dL_law_750 rfl ?_
  refine j_iadd C dL_law_751 ?_
  refine j_sld C hXs hbl hbA (i + 2) dL_law_752 (nI_add i 2) (by omega) (by omega) ?_
  refine jVi2 (ci := 4) C dL_law_753 gL_law_X4_chance rfl pd_X4_chance ⟨by decide, by decide⟩ (by decide) rfl rfl rfl (Nat.le_of_ble_eq_true rfl) (c_X4_chance (by decide) hM1 hW) (fun rr x2 g2 hp => ?_)
  obtain ⟨rfl, hM2, hF2⟩ := hp
  have hX2 := hX1.fm hF2
  refine j_icmp_eq C 761 dL_law_756 (by decide) (fun hc756 => ?_) (fun hc756 => ?_)
  · exact hNext _ _ ⟨_, _, _, hX2, hM2, hW⟩
  · exact absurd rfl hc756
