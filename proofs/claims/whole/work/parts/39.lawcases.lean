/-! the law: its 17 calls -/
section CASES
variable {p : Program} {l : Launch} {e : Env} {s : State} {m : MethodId} {below : List Frame} {meth : Method} {c : Code} {D : va_G} {K : Nat → ClassId} {A : Nat → Nat} {b L : Nat} {xs : Nat → Int32} {I : TI} {U : TU} {P : TP} {i : Nat} {Q : State → Prop}
set_option maxRecDepth 100000 in
set_option maxHeartbeats 4000000 in
theorem lc_thread (C : CX p s m #[Value.ref b] meth c RL code 4 ret D K (AL s)) (hX : va_X b L xs s s.heap) (hb : b < s.heap.size) (hL : L ≤ 3072) (hi : i + 6 ≤ L) (h : RA I U P) (kk : ∀ (I' : TI) (U' : TU) (P' : TP), RA I' U' P' → GJ p l e room_1 s m #[Value.ref b] below meth c 4 D (AL s) Q 75 A (gg A K I' U' P') 75 2996 717 [some (.ref b), some (.ref (A 0)), some (.ref (A 65)), some (.int (nI i))] []) : GJ p l e room_1 s m #[Value.ref b] below meth c 4 D (AL s) Q 75 A (gg A K I U P) 75 2996 116 [some (.ref b), some (.ref (A 0)), some (.ref (A 65)), some (.int (nI i))] [] := by
  obtain ⟨q, m1, m2⟩ := two_thread (l := l) (D := D) (K := K) (A := A) (f := xs (i + 1)) (s0 := xs (i + 2)) (n := xs (i + 3)) h
  refine jx_aload_n C dL_law_116 rfl ?_
  refine jx_aload_n C dL_law_117 rfl ?_
  refine jx_iload_n C dL_law_118 rfl ?_
  refine jx_iconst (v := nI 1) C dL_law_119 (by decide) ?_
  refine jx_iadd C dL_law_120 ?_
  refine jx_sld (i + 1) C hX hb hL dL_law_121 (nI_add _ _) (by omega) ?_
  refine jx_aload_n C dL_law_122 rfl ?_
  refine jx_iload_n C dL_law_123 rfl ?_
  refine jx_iconst (v := nI 2) C dL_law_124 (by decide) ?_
  refine jx_iadd C dL_law_125 ?_
  refine jx_sld (i + 2) C hX hb hL dL_law_126 (nI_add _ _) (by omega) ?_
  refine jx_aload_n C dL_law_127 rfl ?_
  refine jx_iload_n C dL_law_128 rfl ?_
  refine jx_iconst (v := nI 3) C dL_law_129 (by decide) ?_
  refine jx_iadd C dL_law_130 ?_
  refine jx_sld (i + 3) C hX hb hL dL_law_131 (nI_add _ _) (by omega) ?_
  refine jx_oneV C (jr_V C m1 vw_L_13 (by decide) gg_0 rfl rfl ⟨(Nat.le_of_ble_eq_true rfl), (Nat.le_of_ble_eq_true rfl)⟩ ⟨(Nat.le_of_ble_eq_true rfl), (Nat.le_of_ble_eq_true rfl)⟩ dL_law_132 rfl (Nat.le_of_ble_eq_true rfl)) ?_
  intro w I1 U1 P1 hq
  obtain ⟨⟨v, rfl⟩, m3⟩ := m2 _ _ _ _ hq
  refine jx_aload_n C dL_law_135 rfl ?_
  refine jx_aload_n C dL_law_136 rfl ?_
  refine jx_iload_n C dL_law_137 rfl ?_
  refine jx_iconst (v := nI 1) C dL_law_138 (by decide) ?_
  refine jx_iadd C dL_law_139 ?_
  refine jx_sld (i + 1) C hX hb hL dL_law_140 (nI_add _ _) (by omega) ?_
  refine jx_aload_n C dL_law_141 rfl ?_
  refine jx_iload_n C dL_law_142 rfl ?_
  refine jx_iconst (v := nI 2) C dL_law_143 (by decide) ?_
  refine jx_iadd C dL_law_144 ?_
  refine jx_sld (i + 2) C hX hb hL dL_law_145 (nI_add _ _) (by omega) ?_
  refine jx_aload_n C dL_law_146 rfl ?_
  refine jx_iload_n C dL_law_147 rfl ?_
  refine jx_iconst (v := nI 3) C dL_law_148 (by decide) ?_
  refine jx_iadd C dL_law_149 ?_
  refine jx_sld (i + 3) C hX hb hL dL_law_150 (nI_add _ _) (by omega) ?_
  refine jx_oneV C (jr_V C m3 vw_L_17 (by decide) gg_65 rfl rfl ⟨(Nat.le_of_ble_eq_true rfl), (Nat.le_of_ble_eq_true rfl)⟩ ⟨(Nat.le_of_ble_eq_true rfl), (Nat.le_of_ble_eq_true rfl)⟩ dL_law_151 rfl (Nat.le_of_ble_eq_true rfl)) ?_
  rintro w' I2 U2 P2 ⟨rfl, hR⟩
  refine jx_ic_eqT (tgt := 717) C dL_law_154 (by decide) rfl ?_
  exact kk _ _ _ hR
set_option maxRecDepth 100000 in
set_option maxHeartbeats 4000000 in
theorem lc_cut (C : CX p s m #[Value.ref b] meth c RL code 4 ret D K (AL s)) (hX : va_X b L xs s s.heap) (hb : b < s.heap.size) (hL : L ≤ 3072) (hi : i + 6 ≤ L) (h : RA I U P) (kk : ∀ (I' : TI) (U' : TU) (P' : TP), RA I' U' P' → GJ p l e room_1 s m #[Value.ref b] below meth c 4 D (AL s) Q 75 A (gg A K I' U' P') 75 2996 717 [some (.ref b), some (.ref (A 0)), some (.ref (A 65)), some (.int (nI i))] []) : GJ p l e room_1 s m #[Value.ref b] below meth c 4 D (AL s) Q 75 A (gg A K I U P) 75 2996 159 [some (.ref b), some (.ref (A 0)), some (.ref (A 65)), some (.int (nI i))] [] := by
  obtain ⟨q, m1, m2⟩ := two_cut (l := l) (D := D) (K := K) (A := A) (f := xs (i + 1)) (s0 := xs (i + 2)) h
  refine jx_aload_n C dL_law_159 rfl ?_
  refine jx_aload_n C dL_law_160 rfl ?_
  refine jx_iload_n C dL_law_161 rfl ?_
  refine jx_iconst (v := nI 1) C dL_law_162 (by decide) ?_
  refine jx_iadd C dL_law_163 ?_
  refine jx_sld (i + 1) C hX hb hL dL_law_164 (nI_add _ _) (by omega) ?_
  refine jx_aload_n C dL_law_165 rfl ?_
  refine jx_iload_n C dL_law_166 rfl ?_
  refine jx_iconst (v := nI 2) C dL_law_167 (by decide) ?_
  refine jx_iadd C dL_law_168 ?_
  refine jx_sld (i + 2) C hX hb hL dL_law_169 (nI_add _ _) (by omega) ?_
  refine jx_oneV C (jr_V C m1 vw_L_18 (by decide) gg_0 rfl rfl ⟨(Nat.le_of_ble_eq_true rfl), (Nat.le_of_ble_eq_true rfl)⟩ ⟨(Nat.le_of_ble_eq_true rfl), (Nat.le_of_ble_eq_true rfl)⟩ dL_law_170 rfl (Nat.le_of_ble_eq_true rfl)) ?_
  intro w I1 U1 P1 hq
  obtain ⟨⟨v, rfl⟩, m3⟩ := m2 _ _ _ _ hq
  refine jx_aload_n C dL_law_173 rfl ?_
  refine jx_aload_n C dL_law_174 rfl ?_
  refine jx_iload_n C dL_law_175 rfl ?_
  refine jx_iconst (v := nI 1) C dL_law_176 (by decide) ?_
  refine jx_iadd C dL_law_177 ?_
  refine jx_sld (i + 1) C hX hb hL dL_law_178 (nI_add _ _) (by omega) ?_
  refine jx_aload_n C dL_law_179 rfl ?_
  refine jx_iload_n C dL_law_180 rfl ?_
  refine jx_iconst (v := nI 2) C dL_law_181 (by decide) ?_
  refine jx_iadd C dL_law_182 ?_
  refine jx_sld (i + 2) C hX hb hL dL_law_183 (nI_add _ _) (by omega) ?_
  refine jx_oneV C (jr_V C m3 vw_L_22 (by decide) gg_65 rfl rfl ⟨(Nat.le_of_ble_eq_true rfl), (Nat.le_of_ble_eq_true rfl)⟩ ⟨(Nat.le_of_ble_eq_true rfl), (Nat.le_of_ble_eq_true rfl)⟩ dL_law_184 rfl (Nat.le_of_ble_eq_true rfl)) ?_
  rintro w' I2 U2 P2 ⟨rfl, hR⟩
  refine jx_ic_eqT (tgt := 717) C dL_law_187 (by decide) rfl ?_
  exact kk _ _ _ hR
set_option maxRecDepth 100000 in
set_option maxHeartbeats 4000000 in
theorem lc_tie (C : CX p s m #[Value.ref b] meth c RL code 4 ret D K (AL s)) (hX : va_X b L xs s s.heap) (hb : b < s.heap.size) (hL : L ≤ 3072) (hi : i + 6 ≤ L) (h : RA I U P) (kk : ∀ (I' : TI) (U' : TU) (P' : TP), RA I' U' P' → GJ p l e room_1 s m #[Value.ref b] below meth c 4 D (AL s) Q 75 A (gg A K I' U' P') 75 2996 717 [some (.ref b), some (.ref (A 0)), some (.ref (A 65)), some (.int (nI i))] []) : GJ p l e room_1 s m #[Value.ref b] below meth c 4 D (AL s) Q 75 A (gg A K I U P) 75 2996 192 [some (.ref b), some (.ref (A 0)), some (.ref (A 65)), some (.int (nI i))] [] := by
  obtain ⟨q, m1, m2⟩ := two_tie (l := l) (D := D) (K := K) (A := A) (f := xs (i + 1)) (s0 := xs (i + 2)) (n := xs (i + 3)) h
  refine jx_aload_n C dL_law_192 rfl ?_
  refine jx_aload_n C dL_law_193 rfl ?_
  refine jx_iload_n C dL_law_194 rfl ?_
  refine jx_iconst (v := nI 1) C dL_law_195 (by decide) ?_
  refine jx_iadd C dL_law_196 ?_
  refine jx_sld (i + 1) C hX hb hL dL_law_197 (nI_add _ _) (by omega) ?_
  refine jx_aload_n C dL_law_198 rfl ?_
  refine jx_iload_n C dL_law_199 rfl ?_
  refine jx_iconst (v := nI 2) C dL_law_200 (by decide) ?_
  refine jx_iadd C dL_law_201 ?_
  refine jx_sld (i + 2) C hX hb hL dL_law_202 (nI_add _ _) (by omega) ?_
  refine jx_aload_n C dL_law_203 rfl ?_
  refine jx_iload_n C dL_law_204 rfl ?_
  refine jx_iconst (v := nI 3) C dL_law_205 (by decide) ?_
  refine jx_iadd C dL_law_206 ?_
  refine jx_sld (i + 3) C hX hb hL dL_law_207 (nI_add _ _) (by omega) ?_
  refine jx_oneV C (jr_V C m1 vw_L_23 (by decide) gg_0 rfl rfl ⟨(Nat.le_of_ble_eq_true rfl), (Nat.le_of_ble_eq_true rfl)⟩ ⟨(Nat.le_of_ble_eq_true rfl), (Nat.le_of_ble_eq_true rfl)⟩ dL_law_208 rfl (Nat.le_of_ble_eq_true rfl)) ?_
  intro w I1 U1 P1 hq
  obtain ⟨⟨v, rfl⟩, m3⟩ := m2 _ _ _ _ hq
  refine jx_aload_n C dL_law_211 rfl ?_
  refine jx_aload_n C dL_law_212 rfl ?_
  refine jx_iload_n C dL_law_213 rfl ?_
  refine jx_iconst (v := nI 1) C dL_law_214 (by decide) ?_
  refine jx_iadd C dL_law_215 ?_
  refine jx_sld (i + 1) C hX hb hL dL_law_216 (nI_add _ _) (by omega) ?_
  refine jx_aload_n C dL_law_217 rfl ?_
  refine jx_iload_n C dL_law_218 rfl ?_
  refine jx_iconst (v := nI 2) C dL_law_219 (by decide) ?_
  refine jx_iadd C dL_law_220 ?_
  refine jx_sld (i + 2) C hX hb hL dL_law_221 (nI_add _ _) (by omega) ?_
  refine jx_aload_n C dL_law_222 rfl ?_
  refine jx_iload_n C dL_law_223 rfl ?_
  refine jx_iconst (v := nI 3) C dL_law_224 (by decide) ?_
  refine jx_iadd C dL_law_225 ?_
  refine jx_sld (i + 3) C hX hb hL dL_law_226 (nI_add _ _) (by omega) ?_
  refine jx_oneV C (jr_V C m3 vw_L_26 (by decide) gg_65 rfl rfl ⟨(Nat.le_of_ble_eq_true rfl), (Nat.le_of_ble_eq_true rfl)⟩ ⟨(Nat.le_of_ble_eq_true rfl), (Nat.le_of_ble_eq_true rfl)⟩ dL_law_227 rfl (Nat.le_of_ble_eq_true rfl)) ?_
  rintro w' I2 U2 P2 ⟨rfl, hR⟩
  refine jx_ic_eqT (tgt := 717) C dL_law_230 (by decide) rfl ?_
  exact kk _ _ _ hR
set_option maxRecDepth 100000 in
set_option maxHeartbeats 4000000 in
theorem lc_ends (C : CX p s m #[Value.ref b] meth c RL code 4 ret D K (AL s)) (hX : va_X b L xs s s.heap) (hb : b < s.heap.size) (hL : L ≤ 3072) (hi : i + 6 ≤ L) (h : RA I U P) (kk : ∀ (I' : TI) (U' : TU) (P' : TP), RA I' U' P' → GJ p l e room_1 s m #[Value.ref b] below meth c 4 D (AL s) Q 75 A (gg A K I' U' P') 75 2996 717 [some (.ref b), some (.ref (A 0)), some (.ref (A 65)), some (.int (nI i))] []) : GJ p l e room_1 s m #[Value.ref b] below meth c 4 D (AL s) Q 75 A (gg A K I U P) 75 2996 235 [some (.ref b), some (.ref (A 0)), some (.ref (A 65)), some (.int (nI i))] [] := by
  obtain ⟨q, m1, m2⟩ := two_ends (l := l) (D := D) (K := K) (A := A) (f := xs (i + 1)) (s0 := xs (i + 2)) h
  refine jx_aload_n C dL_law_235 rfl ?_
  refine jx_aload_n C dL_law_236 rfl ?_
  refine jx_iload_n C dL_law_237 rfl ?_
  refine jx_iconst (v := nI 1) C dL_law_238 (by decide) ?_
  refine jx_iadd C dL_law_239 ?_
  refine jx_sld (i + 1) C hX hb hL dL_law_240 (nI_add _ _) (by omega) ?_
  refine jx_aload_n C dL_law_241 rfl ?_
  refine jx_iload_n C dL_law_242 rfl ?_
  refine jx_iconst (v := nI 2) C dL_law_243 (by decide) ?_
  refine jx_iadd C dL_law_244 ?_
  refine jx_sld (i + 2) C hX hb hL dL_law_245 (nI_add _ _) (by omega) ?_
  refine jx_oneV C (jr_V C m1 vw_L_27 (by decide) gg_0 rfl rfl ⟨(Nat.le_of_ble_eq_true rfl), (Nat.le_of_ble_eq_true rfl)⟩ ⟨(Nat.le_of_ble_eq_true rfl), (Nat.le_of_ble_eq_true rfl)⟩ dL_law_246 rfl (Nat.le_of_ble_eq_true rfl)) ?_
  intro w I1 U1 P1 hq
  obtain ⟨⟨v, rfl⟩, m3⟩ := m2 _ _ _ _ hq
  refine jx_aload_n C dL_law_249 rfl ?_
  refine jx_aload_n C dL_law_250 rfl ?_
  refine jx_iload_n C dL_law_251 rfl ?_
  refine jx_iconst (v := nI 1) C dL_law_252 (by decide) ?_
  refine jx_iadd C dL_law_253 ?_
  refine jx_sld (i + 1) C hX hb hL dL_law_254 (nI_add _ _) (by omega) ?_
  refine jx_aload_n C dL_law_255 rfl ?_
  refine jx_iload_n C dL_law_256 rfl ?_
  refine jx_iconst (v := nI 2) C dL_law_257 (by decide) ?_
  refine jx_iadd C dL_law_258 ?_
  refine jx_sld (i + 2) C hX hb hL dL_law_259 (nI_add _ _) (by omega) ?_
  refine jx_oneV C (jr_V C m3 vw_L_30 (by decide) gg_65 rfl rfl ⟨(Nat.le_of_ble_eq_true rfl), (Nat.le_of_ble_eq_true rfl)⟩ ⟨(Nat.le_of_ble_eq_true rfl), (Nat.le_of_ble_eq_true rfl)⟩ dL_law_260 rfl (Nat.le_of_ble_eq_true rfl)) ?_
  rintro w' I2 U2 P2 ⟨rfl, hR⟩
  refine jx_ic_eqT (tgt := 717) C dL_law_263 (by decide) rfl ?_
  exact kk _ _ _ hR
set_option maxRecDepth 100000 in
set_option maxHeartbeats 4000000 in
theorem lc_spool (C : CX p s m #[Value.ref b] meth c RL code 4 ret D K (AL s)) (hX : va_X b L xs s s.heap) (hb : b < s.heap.size) (hL : L ≤ 3072) (hi : i + 6 ≤ L) (h : RA I U P) (kk : ∀ (I' : TI) (U' : TU) (P' : TP), RA I' U' P' → GJ p l e room_1 s m #[Value.ref b] below meth c 4 D (AL s) Q 75 A (gg A K I' U' P') 75 2996 717 [some (.ref b), some (.ref (A 0)), some (.ref (A 65)), some (.int (nI i))] []) : GJ p l e room_1 s m #[Value.ref b] below meth c 4 D (AL s) Q 75 A (gg A K I U P) 75 2996 268 [some (.ref b), some (.ref (A 0)), some (.ref (A 65)), some (.int (nI i))] [] := by
  obtain ⟨q, m1, m2⟩ := two_spool (l := l) (D := D) (K := K) (A := A) (v := xs (i + 1)) h
  refine jx_aload_n C dL_law_268 rfl ?_
  refine jx_aload_n C dL_law_269 rfl ?_
  refine jx_iload_n C dL_law_270 rfl ?_
  refine jx_iconst (v := nI 1) C dL_law_271 (by decide) ?_
  refine jx_iadd C dL_law_272 ?_
  refine jx_sld (i + 1) C hX hb hL dL_law_273 (nI_add _ _) (by omega) ?_
  refine jx_oneV C (jr_V C m1 vw_L_31 (by decide) gg_0 rfl rfl ⟨(Nat.le_of_ble_eq_true rfl), (Nat.le_of_ble_eq_true rfl)⟩ ⟨(Nat.le_of_ble_eq_true rfl), (Nat.le_of_ble_eq_true rfl)⟩ dL_law_274 rfl (Nat.le_of_ble_eq_true rfl)) ?_
  intro w I1 U1 P1 hq
  obtain ⟨⟨v, rfl⟩, m3⟩ := m2 _ _ _ _ hq
  refine jx_aload_n C dL_law_277 rfl ?_
  refine jx_aload_n C dL_law_278 rfl ?_
  refine jx_iload_n C dL_law_279 rfl ?_
  refine jx_iconst (v := nI 1) C dL_law_280 (by decide) ?_
  refine jx_iadd C dL_law_281 ?_
  refine jx_sld (i + 1) C hX hb hL dL_law_282 (nI_add _ _) (by omega) ?_
  refine jx_oneV C (jr_V C m3 vw_L_35 (by decide) gg_65 rfl rfl ⟨(Nat.le_of_ble_eq_true rfl), (Nat.le_of_ble_eq_true rfl)⟩ ⟨(Nat.le_of_ble_eq_true rfl), (Nat.le_of_ble_eq_true rfl)⟩ dL_law_283 rfl (Nat.le_of_ble_eq_true rfl)) ?_
  rintro w' I2 U2 P2 ⟨rfl, hR⟩
  refine jx_ic_eqT (tgt := 717) C dL_law_286 (by decide) rfl ?_
  exact kk _ _ _ hR
set_option maxRecDepth 100000 in
set_option maxHeartbeats 4000000 in
theorem lc_act (C : CX p s m #[Value.ref b] meth c RL code 4 ret D K (AL s)) (hX : va_X b L xs s s.heap) (hb : b < s.heap.size) (hL : L ≤ 3072) (hi : i + 6 ≤ L) (h : RA I U P) (kk : ∀ (I' : TI) (U' : TU) (P' : TP), RA I' U' P' → GJ p l e room_1 s m #[Value.ref b] below meth c 4 D (AL s) Q 75 A (gg A K I' U' P') 75 2996 717 [some (.ref b), some (.ref (A 0)), some (.ref (A 65)), some (.int (nI i))] []) : GJ p l e room_1 s m #[Value.ref b] below meth c 4 D (AL s) Q 75 A (gg A K I U P) 75 2996 291 [some (.ref b), some (.ref (A 0)), some (.ref (A 65)), some (.int (nI i))] [] := by
  obtain ⟨q, m1, m2⟩ := two_act (l := l) (D := D) (K := K) (A := A) (kd := xs (i + 1)) (f := xs (i + 2)) (s0 := xs (i + 3)) (x := xs (i + 4)) (v := xs (i + 5)) h
  refine jx_aload_n C dL_law_291 rfl ?_
  refine jx_aload_n C dL_law_292 rfl ?_
  refine jx_iload_n C dL_law_293 rfl ?_
  refine jx_iconst (v := nI 1) C dL_law_294 (by decide) ?_
  refine jx_iadd C dL_law_295 ?_
  refine jx_sld (i + 1) C hX hb hL dL_law_296 (nI_add _ _) (by omega) ?_
  refine jx_aload_n C dL_law_297 rfl ?_
  refine jx_iload_n C dL_law_298 rfl ?_
  refine jx_iconst (v := nI 2) C dL_law_299 (by decide) ?_
  refine jx_iadd C dL_law_300 ?_
  refine jx_sld (i + 2) C hX hb hL dL_law_301 (nI_add _ _) (by omega) ?_
  refine jx_aload_n C dL_law_302 rfl ?_
  refine jx_iload_n C dL_law_303 rfl ?_
  refine jx_iconst (v := nI 3) C dL_law_304 (by decide) ?_
  refine jx_iadd C dL_law_305 ?_
  refine jx_sld (i + 3) C hX hb hL dL_law_306 (nI_add _ _) (by omega) ?_
  refine jx_aload_n C dL_law_307 rfl ?_
  refine jx_iload_n C dL_law_308 rfl ?_
  refine jx_iconst (v := nI 4) C dL_law_309 (by decide) ?_
  refine jx_iadd C dL_law_310 ?_
  refine jx_sld (i + 4) C hX hb hL dL_law_311 (nI_add _ _) (by omega) ?_
  refine jx_aload_n C dL_law_312 rfl ?_
  refine jx_iload_n C dL_law_313 rfl ?_
  refine jx_iconst (v := nI 5) C dL_law_314 (by decide) ?_
  refine jx_iadd C dL_law_315 ?_
  refine jx_sld (i + 5) C hX hb hL dL_law_316 (nI_add _ _) (by omega) ?_
  refine jx_oneV C (jr_V C m1 vw_L_36 (by decide) gg_0 rfl rfl ⟨(Nat.le_of_ble_eq_true rfl), (Nat.le_of_ble_eq_true rfl)⟩ ⟨(Nat.le_of_ble_eq_true rfl), (Nat.le_of_ble_eq_true rfl)⟩ dL_law_317 rfl (Nat.le_of_ble_eq_true rfl)) ?_
  intro w I1 U1 P1 hq
  obtain ⟨⟨v, rfl⟩, m3⟩ := m2 _ _ _ _ hq
  refine jx_aload_n C dL_law_320 rfl ?_
  refine jx_aload_n C dL_law_321 rfl ?_
  refine jx_iload_n C dL_law_322 rfl ?_
  refine jx_iconst (v := nI 1) C dL_law_323 (by decide) ?_
  refine jx_iadd C dL_law_324 ?_
  refine jx_sld (i + 1) C hX hb hL dL_law_325 (nI_add _ _) (by omega) ?_
  refine jx_aload_n C dL_law_326 rfl ?_
  refine jx_iload_n C dL_law_327 rfl ?_
  refine jx_iconst (v := nI 2) C dL_law_328 (by decide) ?_
  refine jx_iadd C dL_law_329 ?_
  refine jx_sld (i + 2) C hX hb hL dL_law_330 (nI_add _ _) (by omega) ?_
  refine jx_aload_n C dL_law_331 rfl ?_
  refine jx_iload_n C dL_law_332 rfl ?_
  refine jx_iconst (v := nI 3) C dL_law_333 (by decide) ?_
  refine jx_iadd C dL_law_334 ?_
  refine jx_sld (i + 3) C hX hb hL dL_law_335 (nI_add _ _) (by omega) ?_
  refine jx_aload_n C dL_law_336 rfl ?_
  refine jx_iload_n C dL_law_337 rfl ?_
  refine jx_iconst (v := nI 4) C dL_law_338 (by decide) ?_
  refine jx_iadd C dL_law_339 ?_
  refine jx_sld (i + 4) C hX hb hL dL_law_340 (nI_add _ _) (by omega) ?_
  refine jx_aload_n C dL_law_341 rfl ?_
  refine jx_iload_n C dL_law_342 rfl ?_
  refine jx_iconst (v := nI 5) C dL_law_343 (by decide) ?_
  refine jx_iadd C dL_law_344 ?_
  refine jx_sld (i + 5) C hX hb hL dL_law_345 (nI_add _ _) (by omega) ?_
  refine jx_oneV C (jr_V C m3 vw_L_40 (by decide) gg_65 rfl rfl ⟨(Nat.le_of_ble_eq_true rfl), (Nat.le_of_ble_eq_true rfl)⟩ ⟨(Nat.le_of_ble_eq_true rfl), (Nat.le_of_ble_eq_true rfl)⟩ dL_law_346 rfl (Nat.le_of_ble_eq_true rfl)) ?_
  rintro w' I2 U2 P2 ⟨rfl, hR⟩
  refine jx_ic_eqT (tgt := 717) C dL_law_349 (by decide) rfl ?_
  exact kk _ _ _ hR
set_option maxRecDepth 100000 in
set_option maxHeartbeats 4000000 in
theorem lc_swap (C : CX p s m #[Value.ref b] meth c RL code 4 ret D K (AL s)) (hX : va_X b L xs s s.heap) (hb : b < s.heap.size) (hL : L ≤ 3072) (hi : i + 6 ≤ L) (h : RA I U P) (kk : ∀ (I' : TI) (U' : TU) (P' : TP), RA I' U' P' → GJ p l e room_1 s m #[Value.ref b] below meth c 4 D (AL s) Q 75 A (gg A K I' U' P') 75 2996 717 [some (.ref b), some (.ref (A 0)), some (.ref (A 65)), some (.int (nI i))] []) : GJ p l e room_1 s m #[Value.ref b] below meth c 4 D (AL s) Q 75 A (gg A K I U P) 75 2996 354 [some (.ref b), some (.ref (A 0)), some (.ref (A 65)), some (.int (nI i))] [] := by
  obtain ⟨q, m1, m2⟩ := two_swap (l := l) (D := D) (K := K) (A := A) (f := xs (i + 1)) (s0 := xs (i + 2)) (x := xs (i + 3)) (y := xs (i + 4)) h
  refine jx_aload_n C dL_law_354 rfl ?_
  refine jx_aload_n C dL_law_355 rfl ?_
  refine jx_iload_n C dL_law_356 rfl ?_
  refine jx_iconst (v := nI 1) C dL_law_357 (by decide) ?_
  refine jx_iadd C dL_law_358 ?_
  refine jx_sld (i + 1) C hX hb hL dL_law_359 (nI_add _ _) (by omega) ?_
  refine jx_aload_n C dL_law_360 rfl ?_
  refine jx_iload_n C dL_law_361 rfl ?_
  refine jx_iconst (v := nI 2) C dL_law_362 (by decide) ?_
  refine jx_iadd C dL_law_363 ?_
  refine jx_sld (i + 2) C hX hb hL dL_law_364 (nI_add _ _) (by omega) ?_
  refine jx_aload_n C dL_law_365 rfl ?_
  refine jx_iload_n C dL_law_366 rfl ?_
  refine jx_iconst (v := nI 3) C dL_law_367 (by decide) ?_
  refine jx_iadd C dL_law_368 ?_
  refine jx_sld (i + 3) C hX hb hL dL_law_369 (nI_add _ _) (by omega) ?_
  refine jx_aload_n C dL_law_370 rfl ?_
  refine jx_iload_n C dL_law_371 rfl ?_
  refine jx_iconst (v := nI 4) C dL_law_372 (by decide) ?_
  refine jx_iadd C dL_law_373 ?_
  refine jx_sld (i + 4) C hX hb hL dL_law_374 (nI_add _ _) (by omega) ?_
  refine jx_oneV C (jr_V C m1 vw_L_41 (by decide) gg_0 rfl rfl ⟨(Nat.le_of_ble_eq_true rfl), (Nat.le_of_ble_eq_true rfl)⟩ ⟨(Nat.le_of_ble_eq_true rfl), (Nat.le_of_ble_eq_true rfl)⟩ dL_law_375 rfl (Nat.le_of_ble_eq_true rfl)) ?_
  intro w I1 U1 P1 hq
  obtain ⟨⟨v, rfl⟩, m3⟩ := m2 _ _ _ _ hq
  refine jx_aload_n C dL_law_378 rfl ?_
  refine jx_aload_n C dL_law_379 rfl ?_
  refine jx_iload_n C dL_law_380 rfl ?_
  refine jx_iconst (v := nI 1) C dL_law_381 (by decide) ?_
  refine jx_iadd C dL_law_382 ?_
  refine jx_sld (i + 1) C hX hb hL dL_law_383 (nI_add _ _) (by omega) ?_
  refine jx_aload_n C dL_law_384 rfl ?_
  refine jx_iload_n C dL_law_385 rfl ?_
  refine jx_iconst (v := nI 2) C dL_law_386 (by decide) ?_
  refine jx_iadd C dL_law_387 ?_
  refine jx_sld (i + 2) C hX hb hL dL_law_388 (nI_add _ _) (by omega) ?_
  refine jx_aload_n C dL_law_389 rfl ?_
  refine jx_iload_n C dL_law_390 rfl ?_
  refine jx_iconst (v := nI 3) C dL_law_391 (by decide) ?_
  refine jx_iadd C dL_law_392 ?_
  refine jx_sld (i + 3) C hX hb hL dL_law_393 (nI_add _ _) (by omega) ?_
  refine jx_aload_n C dL_law_394 rfl ?_
  refine jx_iload_n C dL_law_395 rfl ?_
  refine jx_iconst (v := nI 4) C dL_law_396 (by decide) ?_
  refine jx_iadd C dL_law_397 ?_
  refine jx_sld (i + 4) C hX hb hL dL_law_398 (nI_add _ _) (by omega) ?_
  refine jx_oneV C (jr_V C m3 vw_L_45 (by decide) gg_65 rfl rfl ⟨(Nat.le_of_ble_eq_true rfl), (Nat.le_of_ble_eq_true rfl)⟩ ⟨(Nat.le_of_ble_eq_true rfl), (Nat.le_of_ble_eq_true rfl)⟩ dL_law_399 rfl (Nat.le_of_ble_eq_true rfl)) ?_
  rintro w' I2 U2 P2 ⟨rfl, hR⟩
  refine jx_ic_eqT (tgt := 717) C dL_law_402 (by decide) rfl ?_
  exact kk _ _ _ hR
set_option maxRecDepth 100000 in
set_option maxHeartbeats 4000000 in
theorem lc_cloth (C : CX p s m #[Value.ref b] meth c RL code 4 ret D K (AL s)) (hX : va_X b L xs s s.heap) (hb : b < s.heap.size) (hL : L ≤ 3072) (hi : i + 6 ≤ L) (h : RA I U P) (kk : ∀ (I' : TI) (U' : TU) (P' : TP), RA I' U' P' → GJ p l e room_1 s m #[Value.ref b] below meth c 4 D (AL s) Q 75 A (gg A K I' U' P') 75 2996 717 [some (.ref b), some (.ref (A 0)), some (.ref (A 65)), some (.int (nI i))] []) : GJ p l e room_1 s m #[Value.ref b] below meth c 4 D (AL s) Q 75 A (gg A K I U P) 75 2996 407 [some (.ref b), some (.ref (A 0)), some (.ref (A 65)), some (.int (nI i))] [] := by
  obtain ⟨q, m1, m2⟩ := two_cloth (l := l) (D := D) (K := K) (A := A) (n := xs (i + 1)) (w := xs (i + 2)) h
  refine jx_aload_n C dL_law_407 rfl ?_
  refine jx_aload_n C dL_law_408 rfl ?_
  refine jx_iload_n C dL_law_409 rfl ?_
  refine jx_iconst (v := nI 1) C dL_law_410 (by decide) ?_
  refine jx_iadd C dL_law_411 ?_
  refine jx_sld (i + 1) C hX hb hL dL_law_412 (nI_add _ _) (by omega) ?_
  refine jx_aload_n C dL_law_413 rfl ?_
  refine jx_iload_n C dL_law_414 rfl ?_
  refine jx_iconst (v := nI 2) C dL_law_415 (by decide) ?_
  refine jx_iadd C dL_law_416 ?_
  refine jx_sld (i + 2) C hX hb hL dL_law_417 (nI_add _ _) (by omega) ?_
  refine jx_oneV C (jr_V C m1 vw_L_46 (by decide) gg_0 rfl rfl ⟨(Nat.le_of_ble_eq_true rfl), (Nat.le_of_ble_eq_true rfl)⟩ ⟨(Nat.le_of_ble_eq_true rfl), (Nat.le_of_ble_eq_true rfl)⟩ dL_law_418 rfl (Nat.le_of_ble_eq_true rfl)) ?_
  intro w I1 U1 P1 hq
  obtain ⟨⟨v, rfl⟩, m3⟩ := m2 _ _ _ _ hq
  refine jx_aload_n C dL_law_421 rfl ?_
  refine jx_aload_n C dL_law_422 rfl ?_
  refine jx_iload_n C dL_law_423 rfl ?_
  refine jx_iconst (v := nI 1) C dL_law_424 (by decide) ?_
  refine jx_iadd C dL_law_425 ?_
  refine jx_sld (i + 1) C hX hb hL dL_law_426 (nI_add _ _) (by omega) ?_
  refine jx_aload_n C dL_law_427 rfl ?_
  refine jx_iload_n C dL_law_428 rfl ?_
  refine jx_iconst (v := nI 2) C dL_law_429 (by decide) ?_
  refine jx_iadd C dL_law_430 ?_
  refine jx_sld (i + 2) C hX hb hL dL_law_431 (nI_add _ _) (by omega) ?_
  refine jx_oneV C (jr_V C m3 vw_L_49 (by decide) gg_65 rfl rfl ⟨(Nat.le_of_ble_eq_true rfl), (Nat.le_of_ble_eq_true rfl)⟩ ⟨(Nat.le_of_ble_eq_true rfl), (Nat.le_of_ble_eq_true rfl)⟩ dL_law_432 rfl (Nat.le_of_ble_eq_true rfl)) ?_
  rintro w' I2 U2 P2 ⟨rfl, hR⟩
  refine jx_ic_eqT (tgt := 717) C dL_law_435 (by decide) rfl ?_
  exact kk _ _ _ hR
set_option maxRecDepth 100000 in
set_option maxHeartbeats 4000000 in
theorem lc_snip (C : CX p s m #[Value.ref b] meth c RL code 4 ret D K (AL s)) (hX : va_X b L xs s s.heap) (hb : b < s.heap.size) (hL : L ≤ 3072) (hi : i + 6 ≤ L) (h : RA I U P) (kk : ∀ (I' : TI) (U' : TU) (P' : TP), RA I' U' P' → GJ p l e room_1 s m #[Value.ref b] below meth c 4 D (AL s) Q 75 A (gg A K I' U' P') 75 2996 717 [some (.ref b), some (.ref (A 0)), some (.ref (A 65)), some (.int (nI i))] []) : GJ p l e room_1 s m #[Value.ref b] below meth c 4 D (AL s) Q 75 A (gg A K I U P) 75 2996 440 [some (.ref b), some (.ref (A 0)), some (.ref (A 65)), some (.int (nI i))] [] := by
  obtain ⟨q, m1, m2⟩ := two_snip (l := l) (D := D) (K := K) (A := A) (x := xs (i + 1)) h
  refine jx_aload_n C dL_law_440 rfl ?_
  refine jx_aload_n C dL_law_441 rfl ?_
  refine jx_iload_n C dL_law_442 rfl ?_
  refine jx_iconst (v := nI 1) C dL_law_443 (by decide) ?_
  refine jx_iadd C dL_law_444 ?_
  refine jx_sld (i + 1) C hX hb hL dL_law_445 (nI_add _ _) (by omega) ?_
  refine jx_oneV C (jr_V C m1 vw_L_50 (by decide) gg_0 rfl rfl ⟨(Nat.le_of_ble_eq_true rfl), (Nat.le_of_ble_eq_true rfl)⟩ ⟨(Nat.le_of_ble_eq_true rfl), (Nat.le_of_ble_eq_true rfl)⟩ dL_law_446 rfl (Nat.le_of_ble_eq_true rfl)) ?_
  intro w I1 U1 P1 hq
  obtain ⟨⟨v, rfl⟩, m3⟩ := m2 _ _ _ _ hq
  refine jx_aload_n C dL_law_449 rfl ?_
  refine jx_aload_n C dL_law_450 rfl ?_
  refine jx_iload_n C dL_law_451 rfl ?_
  refine jx_iconst (v := nI 1) C dL_law_452 (by decide) ?_
  refine jx_iadd C dL_law_453 ?_
  refine jx_sld (i + 1) C hX hb hL dL_law_454 (nI_add _ _) (by omega) ?_
  refine jx_oneV C (jr_V C m3 vw_L_53 (by decide) gg_65 rfl rfl ⟨(Nat.le_of_ble_eq_true rfl), (Nat.le_of_ble_eq_true rfl)⟩ ⟨(Nat.le_of_ble_eq_true rfl), (Nat.le_of_ble_eq_true rfl)⟩ dL_law_455 rfl (Nat.le_of_ble_eq_true rfl)) ?_
  rintro w' I2 U2 P2 ⟨rfl, hR⟩
  refine jx_ic_eqT (tgt := 717) C dL_law_458 (by decide) rfl ?_
  exact kk _ _ _ hR
set_option maxRecDepth 100000 in
set_option maxHeartbeats 4000000 in
theorem lc_hang (C : CX p s m #[Value.ref b] meth c RL code 4 ret D K (AL s)) (hX : va_X b L xs s s.heap) (hb : b < s.heap.size) (hL : L ≤ 3072) (hi : i + 6 ≤ L) (h : RA I U P) (kk : ∀ (I' : TI) (U' : TU) (P' : TP), RA I' U' P' → GJ p l e room_1 s m #[Value.ref b] below meth c 4 D (AL s) Q 75 A (gg A K I' U' P') 75 2996 717 [some (.ref b), some (.ref (A 0)), some (.ref (A 65)), some (.int (nI i))] []) : GJ p l e room_1 s m #[Value.ref b] below meth c 4 D (AL s) Q 75 A (gg A K I U P) 75 2996 463 [some (.ref b), some (.ref (A 0)), some (.ref (A 65)), some (.int (nI i))] [] := by
  obtain ⟨q, m1, m2⟩ := two_hang (l := l) (D := D) (K := K) (A := A) (x := xs (i + 1)) (y := xs (i + 2)) h
  refine jx_aload_n C dL_law_463 rfl ?_
  refine jx_aload_n C dL_law_464 rfl ?_
  refine jx_iload_n C dL_law_465 rfl ?_
  refine jx_iconst (v := nI 1) C dL_law_466 (by decide) ?_
  refine jx_iadd C dL_law_467 ?_
  refine jx_sld (i + 1) C hX hb hL dL_law_468 (nI_add _ _) (by omega) ?_
  refine jx_aload_n C dL_law_469 rfl ?_
  refine jx_iload_n C dL_law_470 rfl ?_
  refine jx_iconst (v := nI 2) C dL_law_471 (by decide) ?_
  refine jx_iadd C dL_law_472 ?_
  refine jx_sld (i + 2) C hX hb hL dL_law_473 (nI_add _ _) (by omega) ?_
  refine jx_oneV C (jr_V C m1 vw_L_54 (by decide) gg_0 rfl rfl ⟨(Nat.le_of_ble_eq_true rfl), (Nat.le_of_ble_eq_true rfl)⟩ ⟨(Nat.le_of_ble_eq_true rfl), (Nat.le_of_ble_eq_true rfl)⟩ dL_law_474 rfl (Nat.le_of_ble_eq_true rfl)) ?_
  intro w I1 U1 P1 hq
  obtain ⟨⟨v, rfl⟩, m3⟩ := m2 _ _ _ _ hq
  refine jx_aload_n C dL_law_477 rfl ?_
  refine jx_aload_n C dL_law_478 rfl ?_
  refine jx_iload_n C dL_law_479 rfl ?_
  refine jx_iconst (v := nI 1) C dL_law_480 (by decide) ?_
  refine jx_iadd C dL_law_481 ?_
  refine jx_sld (i + 1) C hX hb hL dL_law_482 (nI_add _ _) (by omega) ?_
  refine jx_aload_n C dL_law_483 rfl ?_
  refine jx_iload_n C dL_law_484 rfl ?_
  refine jx_iconst (v := nI 2) C dL_law_485 (by decide) ?_
  refine jx_iadd C dL_law_486 ?_
  refine jx_sld (i + 2) C hX hb hL dL_law_487 (nI_add _ _) (by omega) ?_
  refine jx_oneV C (jr_V C m3 vw_L_57 (by decide) gg_65 rfl rfl ⟨(Nat.le_of_ble_eq_true rfl), (Nat.le_of_ble_eq_true rfl)⟩ ⟨(Nat.le_of_ble_eq_true rfl), (Nat.le_of_ble_eq_true rfl)⟩ dL_law_488 rfl (Nat.le_of_ble_eq_true rfl)) ?_
  rintro w' I2 U2 P2 ⟨rfl, hR⟩
  refine jx_ic_eqT (tgt := 717) C dL_law_491 (by decide) rfl ?_
  exact kk _ _ _ hR
set_option maxRecDepth 100000 in
set_option maxHeartbeats 4000000 in
theorem lc_cell (C : CX p s m #[Value.ref b] meth c RL code 4 ret D K (AL s)) (hX : va_X b L xs s s.heap) (hb : b < s.heap.size) (hL : L ≤ 3072) (hi : i + 6 ≤ L) (h : RA I U P) (kk : ∀ (I' : TI) (U' : TU) (P' : TP), RA I' U' P' → GJ p l e room_1 s m #[Value.ref b] below meth c 4 D (AL s) Q 75 A (gg A K I' U' P') 75 2996 717 [some (.ref b), some (.ref (A 0)), some (.ref (A 65)), some (.int (nI i))] []) : GJ p l e room_1 s m #[Value.ref b] below meth c 4 D (AL s) Q 75 A (gg A K I U P) 75 2996 496 [some (.ref b), some (.ref (A 0)), some (.ref (A 65)), some (.int (nI i))] [] := by
  obtain ⟨q, m1, m2⟩ := two_cell (l := l) (D := D) (K := K) (A := A) (x := xs (i + 1)) (y := xs (i + 2)) h
  refine jx_aload_n C dL_law_496 rfl ?_
  refine jx_aload_n C dL_law_497 rfl ?_
  refine jx_iload_n C dL_law_498 rfl ?_
  refine jx_iconst (v := nI 1) C dL_law_499 (by decide) ?_
  refine jx_iadd C dL_law_500 ?_
  refine jx_sld (i + 1) C hX hb hL dL_law_501 (nI_add _ _) (by omega) ?_
  refine jx_aload_n C dL_law_502 rfl ?_
  refine jx_iload_n C dL_law_503 rfl ?_
  refine jx_iconst (v := nI 2) C dL_law_504 (by decide) ?_
  refine jx_iadd C dL_law_505 ?_
  refine jx_sld (i + 2) C hX hb hL dL_law_506 (nI_add _ _) (by omega) ?_
  refine jx_oneV C (jr_V C m1 vw_L_58 (by decide) gg_0 rfl rfl ⟨(Nat.le_of_ble_eq_true rfl), (Nat.le_of_ble_eq_true rfl)⟩ ⟨(Nat.le_of_ble_eq_true rfl), (Nat.le_of_ble_eq_true rfl)⟩ dL_law_507 rfl (Nat.le_of_ble_eq_true rfl)) ?_
  intro w I1 U1 P1 hq
  obtain ⟨⟨v, rfl⟩, m3⟩ := m2 _ _ _ _ hq
  refine jx_aload_n C dL_law_510 rfl ?_
  refine jx_aload_n C dL_law_511 rfl ?_
  refine jx_iload_n C dL_law_512 rfl ?_
  refine jx_iconst (v := nI 1) C dL_law_513 (by decide) ?_
  refine jx_iadd C dL_law_514 ?_
  refine jx_sld (i + 1) C hX hb hL dL_law_515 (nI_add _ _) (by omega) ?_
  refine jx_aload_n C dL_law_516 rfl ?_
  refine jx_iload_n C dL_law_517 rfl ?_
  refine jx_iconst (v := nI 2) C dL_law_518 (by decide) ?_
  refine jx_iadd C dL_law_519 ?_
  refine jx_sld (i + 2) C hX hb hL dL_law_520 (nI_add _ _) (by omega) ?_
  refine jx_oneV C (jr_V C m3 vw_L_61 (by decide) gg_65 rfl rfl ⟨(Nat.le_of_ble_eq_true rfl), (Nat.le_of_ble_eq_true rfl)⟩ ⟨(Nat.le_of_ble_eq_true rfl), (Nat.le_of_ble_eq_true rfl)⟩ dL_law_521 rfl (Nat.le_of_ble_eq_true rfl)) ?_
  rintro w' I2 U2 P2 ⟨rfl, hR⟩
  refine jx_ic_eqT (tgt := 717) C dL_law_524 (by decide) rfl ?_
  exact kk _ _ _ hR
set_option maxRecDepth 100000 in
set_option maxHeartbeats 4000000 in
theorem lc_weave (C : CX p s m #[Value.ref b] meth c RL code 4 ret D K (AL s)) (hX : va_X b L xs s s.heap) (hb : b < s.heap.size) (hL : L ≤ 3072) (hi : i + 6 ≤ L) (h : RA I U P) (kk : ∀ (I' : TI) (U' : TU) (P' : TP), RA I' U' P' → GJ p l e room_1 s m #[Value.ref b] below meth c 4 D (AL s) Q 75 A (gg A K I' U' P') 75 2996 717 [some (.ref b), some (.ref (A 0)), some (.ref (A 65)), some (.int (nI i))] []) : GJ p l e room_1 s m #[Value.ref b] below meth c 4 D (AL s) Q 75 A (gg A K I U P) 75 2996 529 [some (.ref b), some (.ref (A 0)), some (.ref (A 65)), some (.int (nI i))] [] := by
  obtain ⟨q, m1, m2⟩ := two_weave (l := l) (D := D) (K := K) (A := A) (f := xs (i + 1)) (x := xs (i + 2)) (weft := xs (i + 3)) h
  refine jx_aload_n C dL_law_529 rfl ?_
  refine jx_aload_n C dL_law_530 rfl ?_
  refine jx_iload_n C dL_law_531 rfl ?_
  refine jx_iconst (v := nI 1) C dL_law_532 (by decide) ?_
  refine jx_iadd C dL_law_533 ?_
  refine jx_sld (i + 1) C hX hb hL dL_law_534 (nI_add _ _) (by omega) ?_
  refine jx_aload_n C dL_law_535 rfl ?_
  refine jx_iload_n C dL_law_536 rfl ?_
  refine jx_iconst (v := nI 2) C dL_law_537 (by decide) ?_
  refine jx_iadd C dL_law_538 ?_
  refine jx_sld (i + 2) C hX hb hL dL_law_539 (nI_add _ _) (by omega) ?_
  refine jx_aload_n C dL_law_540 rfl ?_
  refine jx_iload_n C dL_law_541 rfl ?_
  refine jx_iconst (v := nI 3) C dL_law_542 (by decide) ?_
  refine jx_iadd C dL_law_543 ?_
  refine jx_sld (i + 3) C hX hb hL dL_law_544 (nI_add _ _) (by omega) ?_
  refine jx_oneV C (jr_V C m1 vw_L_62 (by decide) gg_0 rfl rfl ⟨(Nat.le_of_ble_eq_true rfl), (Nat.le_of_ble_eq_true rfl)⟩ ⟨(Nat.le_of_ble_eq_true rfl), (Nat.le_of_ble_eq_true rfl)⟩ dL_law_545 rfl (Nat.le_of_ble_eq_true rfl)) ?_
  intro w I1 U1 P1 hq
  obtain ⟨⟨v, rfl⟩, m3⟩ := m2 _ _ _ _ hq
  refine jx_aload_n C dL_law_548 rfl ?_
  refine jx_aload_n C dL_law_549 rfl ?_
  refine jx_iload_n C dL_law_550 rfl ?_
  refine jx_iconst (v := nI 1) C dL_law_551 (by decide) ?_
  refine jx_iadd C dL_law_552 ?_
  refine jx_sld (i + 1) C hX hb hL dL_law_553 (nI_add _ _) (by omega) ?_
  refine jx_aload_n C dL_law_554 rfl ?_
  refine jx_iload_n C dL_law_555 rfl ?_
  refine jx_iconst (v := nI 2) C dL_law_556 (by decide) ?_
  refine jx_iadd C dL_law_557 ?_
  refine jx_sld (i + 2) C hX hb hL dL_law_558 (nI_add _ _) (by omega) ?_
  refine jx_aload_n C dL_law_559 rfl ?_
  refine jx_iload_n C dL_law_560 rfl ?_
  refine jx_iconst (v := nI 3) C dL_law_561 (by decide) ?_
  refine jx_iadd C dL_law_562 ?_
  refine jx_sld (i + 3) C hX hb hL dL_law_563 (nI_add _ _) (by omega) ?_
  refine jx_oneV C (jr_V C m3 vw_L_65 (by decide) gg_65 rfl rfl ⟨(Nat.le_of_ble_eq_true rfl), (Nat.le_of_ble_eq_true rfl)⟩ ⟨(Nat.le_of_ble_eq_true rfl), (Nat.le_of_ble_eq_true rfl)⟩ dL_law_564 rfl (Nat.le_of_ble_eq_true rfl)) ?_
  rintro w' I2 U2 P2 ⟨rfl, hR⟩
  refine jx_ic_eqT (tgt := 717) C dL_law_567 (by decide) rfl ?_
  exact kk _ _ _ hR
set_option maxRecDepth 100000 in
set_option maxHeartbeats 4000000 in
theorem lc_card (C : CX p s m #[Value.ref b] meth c RL code 4 ret D K (AL s)) (hX : va_X b L xs s s.heap) (hb : b < s.heap.size) (hL : L ≤ 3072) (hi : i + 6 ≤ L) (h : RA I U P) (kk : ∀ (I' : TI) (U' : TU) (P' : TP), RA I' U' P' → GJ p l e room_1 s m #[Value.ref b] below meth c 4 D (AL s) Q 75 A (gg A K I' U' P') 75 2996 717 [some (.ref b), some (.ref (A 0)), some (.ref (A 65)), some (.int (nI i))] []) : GJ p l e room_1 s m #[Value.ref b] below meth c 4 D (AL s) Q 75 A (gg A K I U P) 75 2996 572 [some (.ref b), some (.ref (A 0)), some (.ref (A 65)), some (.int (nI i))] [] := by
  obtain ⟨q, m1, m2⟩ := two_card (l := l) (D := D) (K := K) (A := A) (kd := xs (i + 1)) (f := xs (i + 2)) (s0 := xs (i + 3)) (x := xs (i + 4)) (v := xs (i + 5)) h
  refine jx_aload_n C dL_law_572 rfl ?_
  refine jx_aload_n C dL_law_573 rfl ?_
  refine jx_iload_n C dL_law_574 rfl ?_
  refine jx_iconst (v := nI 1) C dL_law_575 (by decide) ?_
  refine jx_iadd C dL_law_576 ?_
  refine jx_sld (i + 1) C hX hb hL dL_law_577 (nI_add _ _) (by omega) ?_
  refine jx_aload_n C dL_law_578 rfl ?_
  refine jx_iload_n C dL_law_579 rfl ?_
  refine jx_iconst (v := nI 2) C dL_law_580 (by decide) ?_
  refine jx_iadd C dL_law_581 ?_
  refine jx_sld (i + 2) C hX hb hL dL_law_582 (nI_add _ _) (by omega) ?_
  refine jx_aload_n C dL_law_583 rfl ?_
  refine jx_iload_n C dL_law_584 rfl ?_
  refine jx_iconst (v := nI 3) C dL_law_585 (by decide) ?_
  refine jx_iadd C dL_law_586 ?_
  refine jx_sld (i + 3) C hX hb hL dL_law_587 (nI_add _ _) (by omega) ?_
  refine jx_aload_n C dL_law_588 rfl ?_
  refine jx_iload_n C dL_law_589 rfl ?_
  refine jx_iconst (v := nI 4) C dL_law_590 (by decide) ?_
  refine jx_iadd C dL_law_591 ?_
  refine jx_sld (i + 4) C hX hb hL dL_law_592 (nI_add _ _) (by omega) ?_
  refine jx_aload_n C dL_law_593 rfl ?_
  refine jx_iload_n C dL_law_594 rfl ?_
  refine jx_iconst (v := nI 5) C dL_law_595 (by decide) ?_
  refine jx_iadd C dL_law_596 ?_
  refine jx_sld (i + 5) C hX hb hL dL_law_597 (nI_add _ _) (by omega) ?_
  refine jx_oneV C (jr_V C m1 vw_L_66 (by decide) gg_0 rfl rfl ⟨(Nat.le_of_ble_eq_true rfl), (Nat.le_of_ble_eq_true rfl)⟩ ⟨(Nat.le_of_ble_eq_true rfl), (Nat.le_of_ble_eq_true rfl)⟩ dL_law_598 rfl (Nat.le_of_ble_eq_true rfl)) ?_
  intro w I1 U1 P1 hq
  obtain ⟨⟨v, rfl⟩, m3⟩ := m2 _ _ _ _ hq
  refine jx_aload_n C dL_law_601 rfl ?_
  refine jx_aload_n C dL_law_602 rfl ?_
  refine jx_iload_n C dL_law_603 rfl ?_
  refine jx_iconst (v := nI 1) C dL_law_604 (by decide) ?_
  refine jx_iadd C dL_law_605 ?_
  refine jx_sld (i + 1) C hX hb hL dL_law_606 (nI_add _ _) (by omega) ?_
  refine jx_aload_n C dL_law_607 rfl ?_
  refine jx_iload_n C dL_law_608 rfl ?_
  refine jx_iconst (v := nI 2) C dL_law_609 (by decide) ?_
  refine jx_iadd C dL_law_610 ?_
  refine jx_sld (i + 2) C hX hb hL dL_law_611 (nI_add _ _) (by omega) ?_
  refine jx_aload_n C dL_law_612 rfl ?_
  refine jx_iload_n C dL_law_613 rfl ?_
  refine jx_iconst (v := nI 3) C dL_law_614 (by decide) ?_
  refine jx_iadd C dL_law_615 ?_
  refine jx_sld (i + 3) C hX hb hL dL_law_616 (nI_add _ _) (by omega) ?_
  refine jx_aload_n C dL_law_617 rfl ?_
  refine jx_iload_n C dL_law_618 rfl ?_
  refine jx_iconst (v := nI 4) C dL_law_619 (by decide) ?_
  refine jx_iadd C dL_law_620 ?_
  refine jx_sld (i + 4) C hX hb hL dL_law_621 (nI_add _ _) (by omega) ?_
  refine jx_aload_n C dL_law_622 rfl ?_
  refine jx_iload_n C dL_law_623 rfl ?_
  refine jx_iconst (v := nI 5) C dL_law_624 (by decide) ?_
  refine jx_iadd C dL_law_625 ?_
  refine jx_sld (i + 5) C hX hb hL dL_law_626 (nI_add _ _) (by omega) ?_
  refine jx_oneV C (jr_V C m3 vw_L_69 (by decide) gg_65 rfl rfl ⟨(Nat.le_of_ble_eq_true rfl), (Nat.le_of_ble_eq_true rfl)⟩ ⟨(Nat.le_of_ble_eq_true rfl), (Nat.le_of_ble_eq_true rfl)⟩ dL_law_627 rfl (Nat.le_of_ble_eq_true rfl)) ?_
  rintro w' I2 U2 P2 ⟨rfl, hR⟩
  refine jx_ic_eqT (tgt := 717) C dL_law_630 (by decide) rfl ?_
  exact kk _ _ _ hR
set_option maxRecDepth 100000 in
set_option maxHeartbeats 4000000 in
theorem lc_unhook (C : CX p s m #[Value.ref b] meth c RL code 4 ret D K (AL s)) (hX : va_X b L xs s s.heap) (hb : b < s.heap.size) (hL : L ≤ 3072) (hi : i + 6 ≤ L) (h : RA I U P) (kk : ∀ (I' : TI) (U' : TU) (P' : TP), RA I' U' P' → GJ p l e room_1 s m #[Value.ref b] below meth c 4 D (AL s) Q 75 A (gg A K I' U' P') 75 2996 717 [some (.ref b), some (.ref (A 0)), some (.ref (A 65)), some (.int (nI i))] []) : GJ p l e room_1 s m #[Value.ref b] below meth c 4 D (AL s) Q 75 A (gg A K I U P) 75 2996 635 [some (.ref b), some (.ref (A 0)), some (.ref (A 65)), some (.int (nI i))] [] := by
  obtain ⟨q, m1, m2⟩ := two_unhook (l := l) (D := D) (K := K) (A := A)  h
  refine jx_aload_n C dL_law_635 rfl ?_
  refine jx_oneV C (jr_V C m1 vw_L_70 (by decide) gg_0 rfl rfl ⟨(Nat.le_of_ble_eq_true rfl), (Nat.le_of_ble_eq_true rfl)⟩ ⟨(Nat.le_of_ble_eq_true rfl), (Nat.le_of_ble_eq_true rfl)⟩ dL_law_636 rfl (Nat.le_of_ble_eq_true rfl)) ?_
  intro w I1 U1 P1 hq
  obtain ⟨⟨v, rfl⟩, m3⟩ := m2 _ _ _ _ hq
  refine jx_aload_n C dL_law_639 rfl ?_
  refine jx_oneV C (jr_V C m3 vw_L_74 (by decide) gg_65 rfl rfl ⟨(Nat.le_of_ble_eq_true rfl), (Nat.le_of_ble_eq_true rfl)⟩ ⟨(Nat.le_of_ble_eq_true rfl), (Nat.le_of_ble_eq_true rfl)⟩ dL_law_640 rfl (Nat.le_of_ble_eq_true rfl)) ?_
  rintro w' I2 U2 P2 ⟨rfl, hR⟩
  refine jx_ic_eqT (tgt := 717) C dL_law_643 (by decide) rfl ?_
  exact kk _ _ _ hR
set_option maxRecDepth 100000 in
set_option maxHeartbeats 4000000 in
theorem lc_keeper (C : CX p s m #[Value.ref b] meth c RL code 4 ret D K (AL s)) (hX : va_X b L xs s s.heap) (hb : b < s.heap.size) (hL : L ≤ 3072) (hi : i + 6 ≤ L) (h : RA I U P) (kk : ∀ (I' : TI) (U' : TU) (P' : TP), RA I' U' P' → GJ p l e room_1 s m #[Value.ref b] below meth c 4 D (AL s) Q 75 A (gg A K I' U' P') 75 2996 717 [some (.ref b), some (.ref (A 0)), some (.ref (A 65)), some (.int (nI i))] []) : GJ p l e room_1 s m #[Value.ref b] below meth c 4 D (AL s) Q 75 A (gg A K I U P) 75 2996 648 [some (.ref b), some (.ref (A 0)), some (.ref (A 65)), some (.int (nI i))] [] := by
  obtain ⟨q, m1, m2⟩ := two_keeper (l := l) (D := D) (K := K) (A := A) (v := xs (i + 1)) h
  refine jx_aload_n C dL_law_648 rfl ?_
  refine jx_aload_n C dL_law_649 rfl ?_
  refine jx_iload_n C dL_law_650 rfl ?_
  refine jx_iconst (v := nI 1) C dL_law_651 (by decide) ?_
  refine jx_iadd C dL_law_652 ?_
  refine jx_sld (i + 1) C hX hb hL dL_law_653 (nI_add _ _) (by omega) ?_
  refine jx_oneV C (jr_V C m1 vw_L_75 (by decide) gg_0 rfl rfl ⟨(Nat.le_of_ble_eq_true rfl), (Nat.le_of_ble_eq_true rfl)⟩ ⟨(Nat.le_of_ble_eq_true rfl), (Nat.le_of_ble_eq_true rfl)⟩ dL_law_654 rfl (Nat.le_of_ble_eq_true rfl)) ?_
  intro w I1 U1 P1 hq
  obtain ⟨⟨v, rfl⟩, m3⟩ := m2 _ _ _ _ hq
  refine jx_aload_n C dL_law_657 rfl ?_
  refine jx_aload_n C dL_law_658 rfl ?_
  refine jx_iload_n C dL_law_659 rfl ?_
  refine jx_iconst (v := nI 1) C dL_law_660 (by decide) ?_
  refine jx_iadd C dL_law_661 ?_
  refine jx_sld (i + 1) C hX hb hL dL_law_662 (nI_add _ _) (by omega) ?_
  refine jx_oneV C (jr_V C m3 vw_L_79 (by decide) gg_65 rfl rfl ⟨(Nat.le_of_ble_eq_true rfl), (Nat.le_of_ble_eq_true rfl)⟩ ⟨(Nat.le_of_ble_eq_true rfl), (Nat.le_of_ble_eq_true rfl)⟩ dL_law_663 rfl (Nat.le_of_ble_eq_true rfl)) ?_
  rintro w' I2 U2 P2 ⟨rfl, hR⟩
  refine jx_ic_eqT (tgt := 717) C dL_law_666 (by decide) rfl ?_
  exact kk _ _ _ hR
set_option maxRecDepth 100000 in
set_option maxHeartbeats 4000000 in
theorem lc_run (C : CX p s m #[Value.ref b] meth c RL code 4 ret D K (AL s)) (hX : va_X b L xs s s.heap) (hb : b < s.heap.size) (hL : L ≤ 3072) (hi : i + 6 ≤ L) (h : RA I U P) (kk : ∀ (I' : TI) (U' : TU) (P' : TP), RA I' U' P' → GJ p l e room_1 s m #[Value.ref b] below meth c 4 D (AL s) Q 75 A (gg A K I' U' P') 75 2996 717 [some (.ref b), some (.ref (A 0)), some (.ref (A 65)), some (.int (nI i))] []) : GJ p l e room_1 s m #[Value.ref b] below meth c 4 D (AL s) Q 75 A (gg A K I U P) 75 2996 671 [some (.ref b), some (.ref (A 0)), some (.ref (A 65)), some (.int (nI i))] [] := by
  obtain ⟨q, m1, m2⟩ := two_run (l := l) (D := D) (K := K) (A := A) (x := xs (i + 1)) h
  refine jx_aload_n C dL_law_671 rfl ?_
  refine jx_aload_n C dL_law_672 rfl ?_
  refine jx_iload_n C dL_law_673 rfl ?_
  refine jx_iconst (v := nI 1) C dL_law_674 (by decide) ?_
  refine jx_iadd C dL_law_675 ?_
  refine jx_sld (i + 1) C hX hb hL dL_law_676 (nI_add _ _) (by omega) ?_
  refine jx_oneV C (jr_V C m1 vw_L_80 (by decide) gg_0 rfl rfl ⟨(Nat.le_of_ble_eq_true rfl), (Nat.le_of_ble_eq_true rfl)⟩ ⟨(Nat.le_of_ble_eq_true rfl), (Nat.le_of_ble_eq_true rfl)⟩ dL_law_677 rfl (Nat.le_of_ble_eq_true rfl)) ?_
  intro w I1 U1 P1 hq
  obtain ⟨⟨v, rfl⟩, m3⟩ := m2 _ _ _ _ hq
  refine jx_aload_n C dL_law_680 rfl ?_
  refine jx_aload_n C dL_law_681 rfl ?_
  refine jx_iload_n C dL_law_682 rfl ?_
  refine jx_iconst (v := nI 1) C dL_law_683 (by decide) ?_
  refine jx_iadd C dL_law_684 ?_
  refine jx_sld (i + 1) C hX hb hL dL_law_685 (nI_add _ _) (by omega) ?_
  refine jx_oneV C (jr_V C m3 vw_L_83 (by decide) gg_65 rfl rfl ⟨(Nat.le_of_ble_eq_true rfl), (Nat.le_of_ble_eq_true rfl)⟩ ⟨(Nat.le_of_ble_eq_true rfl), (Nat.le_of_ble_eq_true rfl)⟩ dL_law_686 rfl (Nat.le_of_ble_eq_true rfl)) ?_
  rintro w' I2 U2 P2 ⟨rfl, hR⟩
  refine jx_ic_eqT (tgt := 717) C dL_law_689 (by decide) rfl ?_
  exact kk _ _ _ hR
set_option maxRecDepth 100000 in
set_option maxHeartbeats 4000000 in
theorem lc_told (C : CX p s m #[Value.ref b] meth c RL code 4 ret D K (AL s)) (hX : va_X b L xs s s.heap) (hb : b < s.heap.size) (hL : L ≤ 3072) (hi : i + 6 ≤ L) (h : RA I U P) (kk : ∀ (I' : TI) (U' : TU) (P' : TP), RA I' U' P' → GJ p l e room_1 s m #[Value.ref b] below meth c 4 D (AL s) Q 75 A (gg A K I' U' P') 75 2996 717 [some (.ref b), some (.ref (A 0)), some (.ref (A 65)), some (.int (nI i))] []) : GJ p l e room_1 s m #[Value.ref b] below meth c 4 D (AL s) Q 75 A (gg A K I U P) 75 2996 694 [some (.ref b), some (.ref (A 0)), some (.ref (A 65)), some (.int (nI i))] [] := by
  obtain ⟨q, m1, m2⟩ := two_told (l := l) (D := D) (K := K) (A := A) (v := xs (i + 1)) h
  refine jx_aload_n C dL_law_694 rfl ?_
  refine jx_aload_n C dL_law_695 rfl ?_
  refine jx_iload_n C dL_law_696 rfl ?_
  refine jx_iconst (v := nI 1) C dL_law_697 (by decide) ?_
  refine jx_iadd C dL_law_698 ?_
  refine jx_sld (i + 1) C hX hb hL dL_law_699 (nI_add _ _) (by omega) ?_
  refine jx_oneV C (jr_V C m1 vw_L_84 (by decide) gg_0 rfl rfl ⟨(Nat.le_of_ble_eq_true rfl), (Nat.le_of_ble_eq_true rfl)⟩ ⟨(Nat.le_of_ble_eq_true rfl), (Nat.le_of_ble_eq_true rfl)⟩ dL_law_700 rfl (Nat.le_of_ble_eq_true rfl)) ?_
  intro w I1 U1 P1 hq
  obtain ⟨⟨v, rfl⟩, m3⟩ := m2 _ _ _ _ hq
  refine jx_aload_n C dL_law_703 rfl ?_
  refine jx_aload_n C dL_law_704 rfl ?_
  refine jx_iload_n C dL_law_705 rfl ?_
  refine jx_iconst (v := nI 1) C dL_law_706 (by decide) ?_
  refine jx_iadd C dL_law_707 ?_
  refine jx_sld (i + 1) C hX hb hL dL_law_708 (nI_add _ _) (by omega) ?_
  refine jx_oneV C (jr_V C m3 vw_L_87 (by decide) gg_65 rfl rfl ⟨(Nat.le_of_ble_eq_true rfl), (Nat.le_of_ble_eq_true rfl)⟩ ⟨(Nat.le_of_ble_eq_true rfl), (Nat.le_of_ble_eq_true rfl)⟩ dL_law_709 rfl (Nat.le_of_ble_eq_true rfl)) ?_
  rintro w' I2 U2 P2 ⟨rfl, hR⟩
  refine jx_ic_eqT (tgt := 717) C dL_law_712 (by decide) rfl ?_
  exact kk _ _ _ hR
end CASES
