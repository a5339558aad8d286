/-! the law's cases: each calls both, and both answer alike -/
abbrev lvL (s : State) (b i : Nat) : List (Nat × Value) := [(3, .int (nI i)), (2, .ref (s.heap.size + 124)), (1, .ref (s.heap.size + 0)), (0, .ref b)]
theorem XR.km {E E' : Nat → Nat → Int32} {σ : Sg} (h : XR E σ) (h0 : ∀ a, a < 124 → E' a = E a) : XR E' σ := h.of (fun a _ _ _ _ g => h0 a g)
theorem MR.kx {E E' : Nat → Nat → Int32} {σ : Sg} (h : MR E σ) (h0 : ∀ a, 124 ≤ a → E' a = E a) : MR E' σ :=
  ⟨by unfold MT; rw [h0 125 (by decide)]; exact h.1, h.2.1.of (by rw [h0 124 (by decide)]) (h0 127 (by decide)), h.2.2.1.of (h0 129 (by decide)) (h0 128 (by decide)), h.2.2.2.1.of (by rw [h0 124 (by decide)]) (h0 130 (by decide)), by rw [h0 124 (by decide)]; exact h.2.2.2.2⟩
section
variable {p : Program} {l : Launch} {e : Env} {s : State} {m : MethodId} {below : List Frame} {meth : Method} {c : Code} {b L : Nat} {xs : Nat → Int32} {D : va_G} {k : Nat → ClassId}
set_option maxHeartbeats 4000000 in
set_option maxRecDepth 100000 in
theorem q_told (C : lw_At p s m meth c b L xs) (hL : L ≤ 2560) (D1 : Nat → Nat → Int32) (J1 : Nat → Nat → Int64) (σ : Sg) (i : Nat) (hi : i + 5 ≤ L) (hX : XR D1 σ) (hM : MR D1 σ) (ok : SgOk σ) (next : ∀ (σ' : Sg) (D' : Nat → Nat → Int32) (J' : Nat → Nat → Int64), XR D' σ' → MR D' σ' → SgOk σ' → LW p l e s m below meth c b D k 143 7378 799 (lvL s b i) [] (lay D' J')) : LW p l e s m below meth c b D k 143 7378 136 (lvL s b i) [] (lay D1 J1) := by
  have hL2 : L < 2 ^ 31 := by omega
  refine lx_aload C dL_law_136 rfl (List.mem_of_getElem? (i := 2) rfl) ?_
  refine lx_arg C hL2 (jn := 1) dL_law_137 dL_law_138 dL_law_139 dL_law_140 dL_law_141 (List.mem_of_getElem? (i := 3) rfl) (List.mem_of_getElem? (i := 0) rfl) rfl (by omega) ?_
  refine lx_call C (As := [.int (xs (i + 1))]) (i := 0) (st := []) dL_law_142 gL_13 rfl sh0 rfl rfl (Nat.le_of_ble_eq_true rfl) (c_told D1 J1 σ hX ok (xs (i + 1))) (by decide) (by decide) (by decide) (fun res D2 J2 hp => ?_)
  obtain ⟨rfl, hX2, hKX⟩ := hp
  have hM2 := hM.kx hKX.1
  refine lx_aload C (st := [.int (f_told σ (xs (i + 1)))]) dL_law_145 rfl (List.mem_of_getElem? (i := 1) rfl) ?_
  refine lx_arg C hL2 (jn := 1) dL_law_146 dL_law_147 dL_law_148 dL_law_149 dL_law_150 (List.mem_of_getElem? (i := 3) rfl) (List.mem_of_getElem? (i := 0) rfl) rfl (by omega) ?_
  refine lx_call C (As := [.int (xs (i + 1))]) (i := 124) (st := [.int (f_told σ (xs (i + 1)))]) dL_law_151 gL_17 rfl sh124 rfl rfl (Nat.le_of_ble_eq_true rfl) (m_told D2 J2 σ hM2 ok (xs (i + 1))) (by decide) (by decide) (by decide) (fun res D3 J3 hp => ?_)
  obtain ⟨rfl, hM3, hKM⟩ := hp
  exact lx_icmp_eq C (x := (f_told σ (xs (i + 1)))) (st := []) 799 dL_law_154 (by decide) (next (σ) D3 J3 (hX2.km hKM.1) hM3 (ok))
set_option maxHeartbeats 4000000 in
set_option maxRecDepth 100000 in
theorem q_row (C : lw_At p s m meth c b L xs) (hL : L ≤ 2560) (D1 : Nat → Nat → Int32) (J1 : Nat → Nat → Int64) (σ : Sg) (i : Nat) (hi : i + 5 ≤ L) (hX : XR D1 σ) (hM : MR D1 σ) (ok : SgOk σ) (next : ∀ (σ' : Sg) (D' : Nat → Nat → Int32) (J' : Nat → Nat → Int64), XR D' σ' → MR D' σ' → SgOk σ' → LW p l e s m below meth c b D k 143 7378 799 (lvL s b i) [] (lay D' J')) : LW p l e s m below meth c b D k 143 7378 159 (lvL s b i) [] (lay D1 J1) := by
  have hL2 : L < 2 ^ 31 := by omega
  refine lx_aload C dL_law_159 rfl (List.mem_of_getElem? (i := 2) rfl) ?_
  refine lx_arg C hL2 (jn := 1) dL_law_160 dL_law_161 dL_law_162 dL_law_163 dL_law_164 (List.mem_of_getElem? (i := 3) rfl) (List.mem_of_getElem? (i := 0) rfl) rfl (by omega) ?_
  refine lx_arg C hL2 (jn := 2) dL_law_165 dL_law_166 dL_law_167 dL_law_168 dL_law_169 (List.mem_of_getElem? (i := 3) rfl) (List.mem_of_getElem? (i := 0) rfl) rfl (by omega) ?_
  refine lx_call C (As := [.int (xs (i + 1)), .int (xs (i + 2))]) (i := 0) (st := []) dL_law_170 gL_18 rfl sh0 rfl rfl (Nat.le_of_ble_eq_true rfl) (c_row D1 J1 σ hX ok (xs (i + 1)) (xs (i + 2))) (by decide) (by decide) (by decide) (fun res D2 J2 hp => ?_)
  obtain ⟨rfl, hX2, hKX⟩ := hp
  have hM2 := hM.kx hKX.1
  refine lx_aload C (st := [.int (f_row σ (xs (i + 1)) (xs (i + 2)))]) dL_law_173 rfl (List.mem_of_getElem? (i := 1) rfl) ?_
  refine lx_arg C hL2 (jn := 1) dL_law_174 dL_law_175 dL_law_176 dL_law_177 dL_law_178 (List.mem_of_getElem? (i := 3) rfl) (List.mem_of_getElem? (i := 0) rfl) rfl (by omega) ?_
  refine lx_arg C hL2 (jn := 2) dL_law_179 dL_law_180 dL_law_181 dL_law_182 dL_law_183 (List.mem_of_getElem? (i := 3) rfl) (List.mem_of_getElem? (i := 0) rfl) rfl (by omega) ?_
  refine lx_call C (As := [.int (xs (i + 1)), .int (xs (i + 2))]) (i := 124) (st := [.int (f_row σ (xs (i + 1)) (xs (i + 2)))]) dL_law_184 gL_22 rfl sh124 rfl rfl (Nat.le_of_ble_eq_true rfl) (m_row D2 J2 σ hM2 ok (xs (i + 1)) (xs (i + 2))) (by decide) (by decide) (by decide) (fun res D3 J3 hp => ?_)
  obtain ⟨rfl, hM3, hKM⟩ := hp
  exact lx_icmp_eq C (x := (f_row σ (xs (i + 1)) (xs (i + 2)))) (st := []) 799 dL_law_187 (by decide) (next (σ) D3 J3 (hX2.km hKM.1) hM3 (ok))
set_option maxHeartbeats 4000000 in
set_option maxRecDepth 100000 in
theorem q_standing (C : lw_At p s m meth c b L xs) (hL : L ≤ 2560) (D1 : Nat → Nat → Int32) (J1 : Nat → Nat → Int64) (σ : Sg) (i : Nat) (hi : i + 5 ≤ L) (hX : XR D1 σ) (hM : MR D1 σ) (ok : SgOk σ) (next : ∀ (σ' : Sg) (D' : Nat → Nat → Int32) (J' : Nat → Nat → Int64), XR D' σ' → MR D' σ' → SgOk σ' → LW p l e s m below meth c b D k 143 7378 799 (lvL s b i) [] (lay D' J')) : LW p l e s m below meth c b D k 143 7378 192 (lvL s b i) [] (lay D1 J1) := by
  have hL2 : L < 2 ^ 31 := by omega
  refine lx_aload C dL_law_192 rfl (List.mem_of_getElem? (i := 2) rfl) ?_
  refine lx_arg C hL2 (jn := 1) dL_law_193 dL_law_194 dL_law_195 dL_law_196 dL_law_197 (List.mem_of_getElem? (i := 3) rfl) (List.mem_of_getElem? (i := 0) rfl) rfl (by omega) ?_
  refine lx_call C (As := [.int (xs (i + 1))]) (i := 0) (st := []) dL_law_198 gL_23 rfl sh0 rfl rfl (Nat.le_of_ble_eq_true rfl) (c_standing D1 J1 σ hX ok (xs (i + 1))) (by decide) (by decide) (by decide) (fun res D2 J2 hp => ?_)
  obtain ⟨rfl, hX2, hKX⟩ := hp
  have hM2 := hM.kx hKX.1
  refine lx_aload C (st := [.int (f_standing σ (xs (i + 1)))]) dL_law_201 rfl (List.mem_of_getElem? (i := 1) rfl) ?_
  refine lx_arg C hL2 (jn := 1) dL_law_202 dL_law_203 dL_law_204 dL_law_205 dL_law_206 (List.mem_of_getElem? (i := 3) rfl) (List.mem_of_getElem? (i := 0) rfl) rfl (by omega) ?_
  refine lx_call C (As := [.int (xs (i + 1))]) (i := 124) (st := [.int (f_standing σ (xs (i + 1)))]) dL_law_207 gL_26 rfl sh124 rfl rfl (Nat.le_of_ble_eq_true rfl) (m_standing D2 J2 σ hM2 ok (xs (i + 1))) (by decide) (by decide) (by decide) (fun res D3 J3 hp => ?_)
  obtain ⟨rfl, hM3, hKM⟩ := hp
  exact lx_icmp_eq C (x := (f_standing σ (xs (i + 1)))) (st := []) 799 dL_law_210 (by decide) (next (σ) D3 J3 (hX2.km hKM.1) hM3 (ok))
set_option maxHeartbeats 4000000 in
set_option maxRecDepth 100000 in
theorem q_put (C : lw_At p s m meth c b L xs) (hL : L ≤ 2560) (D1 : Nat → Nat → Int32) (J1 : Nat → Nat → Int64) (σ : Sg) (i : Nat) (hi : i + 5 ≤ L) (hX : XR D1 σ) (hM : MR D1 σ) (ok : SgOk σ) (next : ∀ (σ' : Sg) (D' : Nat → Nat → Int32) (J' : Nat → Nat → Int64), XR D' σ' → MR D' σ' → SgOk σ' → LW p l e s m below meth c b D k 143 7378 799 (lvL s b i) [] (lay D' J')) : LW p l e s m below meth c b D k 143 7378 215 (lvL s b i) [] (lay D1 J1) := by
  have hL2 : L < 2 ^ 31 := by omega
  refine lx_aload C dL_law_215 rfl (List.mem_of_getElem? (i := 2) rfl) ?_
  refine lx_arg C hL2 (jn := 1) dL_law_216 dL_law_217 dL_law_218 dL_law_219 dL_law_220 (List.mem_of_getElem? (i := 3) rfl) (List.mem_of_getElem? (i := 0) rfl) rfl (by omega) ?_
  refine lx_arg C hL2 (jn := 2) dL_law_221 dL_law_222 dL_law_223 dL_law_224 dL_law_225 (List.mem_of_getElem? (i := 3) rfl) (List.mem_of_getElem? (i := 0) rfl) rfl (by omega) ?_
  refine lx_arg C hL2 (jn := 3) dL_law_226 dL_law_227 dL_law_228 dL_law_229 dL_law_230 (List.mem_of_getElem? (i := 3) rfl) (List.mem_of_getElem? (i := 0) rfl) rfl (by omega) ?_
  refine lx_call C (As := [.int (xs (i + 1)), .int (xs (i + 2)), .int (xs (i + 3))]) (i := 0) (st := []) dL_law_231 gL_27 rfl sh0 rfl rfl (Nat.le_of_ble_eq_true rfl) (c_put D1 J1 σ hX ok (xs (i + 1)) (xs (i + 2)) (xs (i + 3))) (by decide) (by decide) (by decide) (fun res D2 J2 hp => ?_)
  obtain ⟨rfl, hX2, hKX⟩ := hp
  have hM2 := hM.kx hKX.1
  refine lx_aload C (st := [.int (f_put σ (xs (i + 1)) (xs (i + 2)) (xs (i + 3))).1]) dL_law_234 rfl (List.mem_of_getElem? (i := 1) rfl) ?_
  refine lx_arg C hL2 (jn := 1) dL_law_235 dL_law_236 dL_law_237 dL_law_238 dL_law_239 (List.mem_of_getElem? (i := 3) rfl) (List.mem_of_getElem? (i := 0) rfl) rfl (by omega) ?_
  refine lx_arg C hL2 (jn := 2) dL_law_240 dL_law_241 dL_law_242 dL_law_243 dL_law_244 (List.mem_of_getElem? (i := 3) rfl) (List.mem_of_getElem? (i := 0) rfl) rfl (by omega) ?_
  refine lx_arg C hL2 (jn := 3) dL_law_245 dL_law_246 dL_law_247 dL_law_248 dL_law_249 (List.mem_of_getElem? (i := 3) rfl) (List.mem_of_getElem? (i := 0) rfl) rfl (by omega) ?_
  refine lx_call C (As := [.int (xs (i + 1)), .int (xs (i + 2)), .int (xs (i + 3))]) (i := 124) (st := [.int (f_put σ (xs (i + 1)) (xs (i + 2)) (xs (i + 3))).1]) dL_law_250 gL_31 rfl sh124 rfl rfl (Nat.le_of_ble_eq_true rfl) (m_put D2 J2 σ hM2 ok (xs (i + 1)) (xs (i + 2)) (xs (i + 3))) (by decide) (by decide) (by decide) (fun res D3 J3 hp => ?_)
  obtain ⟨rfl, hM3, hKM⟩ := hp
  exact lx_icmp_eq C (x := (f_put σ (xs (i + 1)) (xs (i + 2)) (xs (i + 3))).1) (st := []) 799 dL_law_253 (by decide) (next ((f_put σ (xs (i + 1)) (xs (i + 2)) (xs (i + 3))).2) D3 J3 (hX2.km hKM.1) hM3 (ok_put ok (xs (i + 1)) (xs (i + 2)) (xs (i + 3))))
set_option maxHeartbeats 4000000 in
set_option maxRecDepth 100000 in
theorem q_take (C : lw_At p s m meth c b L xs) (hL : L ≤ 2560) (D1 : Nat → Nat → Int32) (J1 : Nat → Nat → Int64) (σ : Sg) (i : Nat) (hi : i + 5 ≤ L) (hX : XR D1 σ) (hM : MR D1 σ) (ok : SgOk σ) (next : ∀ (σ' : Sg) (D' : Nat → Nat → Int32) (J' : Nat → Nat → Int64), XR D' σ' → MR D' σ' → SgOk σ' → LW p l e s m below meth c b D k 143 7378 799 (lvL s b i) [] (lay D' J')) : LW p l e s m below meth c b D k 143 7378 258 (lvL s b i) [] (lay D1 J1) := by
  have hL2 : L < 2 ^ 31 := by omega
  refine lx_aload C dL_law_258 rfl (List.mem_of_getElem? (i := 2) rfl) ?_
  refine lx_arg C hL2 (jn := 1) dL_law_259 dL_law_260 dL_law_261 dL_law_262 dL_law_263 (List.mem_of_getElem? (i := 3) rfl) (List.mem_of_getElem? (i := 0) rfl) rfl (by omega) ?_
  refine lx_call C (As := [.int (xs (i + 1))]) (i := 0) (st := []) dL_law_264 gL_32 rfl sh0 rfl rfl (Nat.le_of_ble_eq_true rfl) (c_take D1 J1 σ hX ok (xs (i + 1))) (by decide) (by decide) (by decide) (fun res D2 J2 hp => ?_)
  obtain ⟨rfl, hX2, hKX⟩ := hp
  have hM2 := hM.kx hKX.1
  refine lx_aload C (st := [.int (f_take σ (xs (i + 1))).1]) dL_law_267 rfl (List.mem_of_getElem? (i := 1) rfl) ?_
  refine lx_arg C hL2 (jn := 1) dL_law_268 dL_law_269 dL_law_270 dL_law_271 dL_law_272 (List.mem_of_getElem? (i := 3) rfl) (List.mem_of_getElem? (i := 0) rfl) rfl (by omega) ?_
  refine lx_call C (As := [.int (xs (i + 1))]) (i := 124) (st := [.int (f_take σ (xs (i + 1))).1]) dL_law_273 gL_35 rfl sh124 rfl rfl (Nat.le_of_ble_eq_true rfl) (m_take D2 J2 σ hM2 ok (xs (i + 1))) (by decide) (by decide) (by decide) (fun res D3 J3 hp => ?_)
  obtain ⟨rfl, hM3, hKM⟩ := hp
  exact lx_icmp_eq C (x := (f_take σ (xs (i + 1))).1) (st := []) 799 dL_law_276 (by decide) (next ((f_take σ (xs (i + 1))).2) D3 J3 (hX2.km hKM.1) hM3 (ok_take ok (xs (i + 1))))
set_option maxHeartbeats 4000000 in
set_option maxRecDepth 100000 in
theorem q_change (C : lw_At p s m meth c b L xs) (hL : L ≤ 2560) (D1 : Nat → Nat → Int32) (J1 : Nat → Nat → Int64) (σ : Sg) (i : Nat) (hi : i + 5 ≤ L) (hX : XR D1 σ) (hM : MR D1 σ) (ok : SgOk σ) (next : ∀ (σ' : Sg) (D' : Nat → Nat → Int32) (J' : Nat → Nat → Int64), XR D' σ' → MR D' σ' → SgOk σ' → LW p l e s m below meth c b D k 143 7378 799 (lvL s b i) [] (lay D' J')) : LW p l e s m below meth c b D k 143 7378 281 (lvL s b i) [] (lay D1 J1) := by
  have hL2 : L < 2 ^ 31 := by omega
  refine lx_aload C dL_law_281 rfl (List.mem_of_getElem? (i := 2) rfl) ?_
  refine lx_arg C hL2 (jn := 1) dL_law_282 dL_law_283 dL_law_284 dL_law_285 dL_law_286 (List.mem_of_getElem? (i := 3) rfl) (List.mem_of_getElem? (i := 0) rfl) rfl (by omega) ?_
  refine lx_arg C hL2 (jn := 2) dL_law_287 dL_law_288 dL_law_289 dL_law_290 dL_law_291 (List.mem_of_getElem? (i := 3) rfl) (List.mem_of_getElem? (i := 0) rfl) rfl (by omega) ?_
  refine lx_arg C hL2 (jn := 3) dL_law_292 dL_law_293 dL_law_294 dL_law_295 dL_law_296 (List.mem_of_getElem? (i := 3) rfl) (List.mem_of_getElem? (i := 0) rfl) rfl (by omega) ?_
  refine lx_call C (As := [.int (xs (i + 1)), .int (xs (i + 2)), .int (xs (i + 3))]) (i := 0) (st := []) dL_law_297 gL_36 rfl sh0 rfl rfl (Nat.le_of_ble_eq_true rfl) (c_change D1 J1 σ hX ok (xs (i + 1)) (xs (i + 2)) (xs (i + 3))) (by decide) (by decide) (by decide) (fun res D2 J2 hp => ?_)
  obtain ⟨rfl, hX2, hKX⟩ := hp
  have hM2 := hM.kx hKX.1
  refine lx_aload C (st := [.int (f_change σ (xs (i + 1)) (xs (i + 2)) (xs (i + 3))).1]) dL_law_300 rfl (List.mem_of_getElem? (i := 1) rfl) ?_
  refine lx_arg C hL2 (jn := 1) dL_law_301 dL_law_302 dL_law_303 dL_law_304 dL_law_305 (List.mem_of_getElem? (i := 3) rfl) (List.mem_of_getElem? (i := 0) rfl) rfl (by omega) ?_
  refine lx_arg C hL2 (jn := 2) dL_law_306 dL_law_307 dL_law_308 dL_law_309 dL_law_310 (List.mem_of_getElem? (i := 3) rfl) (List.mem_of_getElem? (i := 0) rfl) rfl (by omega) ?_
  refine lx_arg C hL2 (jn := 3) dL_law_311 dL_law_312 dL_law_313 dL_law_314 dL_law_315 (List.mem_of_getElem? (i := 3) rfl) (List.mem_of_getElem? (i := 0) rfl) rfl (by omega) ?_
  refine lx_call C (As := [.int (xs (i + 1)), .int (xs (i + 2)), .int (xs (i + 3))]) (i := 124) (st := [.int (f_change σ (xs (i + 1)) (xs (i + 2)) (xs (i + 3))).1]) dL_law_316 gL_39 rfl sh124 rfl rfl (Nat.le_of_ble_eq_true rfl) (m_change D2 J2 σ hM2 ok (xs (i + 1)) (xs (i + 2)) (xs (i + 3))) (by decide) (by decide) (by decide) (fun res D3 J3 hp => ?_)
  obtain ⟨rfl, hM3, hKM⟩ := hp
  exact lx_icmp_eq C (x := (f_change σ (xs (i + 1)) (xs (i + 2)) (xs (i + 3))).1) (st := []) 799 dL_law_319 (by decide) (next ((f_change σ (xs (i + 1)) (xs (i + 2)) (xs (i + 3))).2) D3 J3 (hX2.km hKM.1) hM3 (ok_change ok (xs (i + 1)) (xs (i + 2)) (xs (i + 3))))
set_option maxHeartbeats 4000000 in
set_option maxRecDepth 100000 in
theorem q_frame (C : lw_At p s m meth c b L xs) (hL : L ≤ 2560) (D1 : Nat → Nat → Int32) (J1 : Nat → Nat → Int64) (σ : Sg) (i : Nat) (hi : i + 5 ≤ L) (hX : XR D1 σ) (hM : MR D1 σ) (ok : SgOk σ) (next : ∀ (σ' : Sg) (D' : Nat → Nat → Int32) (J' : Nat → Nat → Int64), XR D' σ' → MR D' σ' → SgOk σ' → LW p l e s m below meth c b D k 143 7378 799 (lvL s b i) [] (lay D' J')) : LW p l e s m below meth c b D k 143 7378 324 (lvL s b i) [] (lay D1 J1) := by
  have hL2 : L < 2 ^ 31 := by omega
  refine lx_aload C dL_law_324 rfl (List.mem_of_getElem? (i := 2) rfl) ?_
  refine lx_arg C hL2 (jn := 1) dL_law_325 dL_law_326 dL_law_327 dL_law_328 dL_law_329 (List.mem_of_getElem? (i := 3) rfl) (List.mem_of_getElem? (i := 0) rfl) rfl (by omega) ?_
  refine lx_arg C hL2 (jn := 2) dL_law_330 dL_law_331 dL_law_332 dL_law_333 dL_law_334 (List.mem_of_getElem? (i := 3) rfl) (List.mem_of_getElem? (i := 0) rfl) rfl (by omega) ?_
  refine lx_arg C hL2 (jn := 3) dL_law_335 dL_law_336 dL_law_337 dL_law_338 dL_law_339 (List.mem_of_getElem? (i := 3) rfl) (List.mem_of_getElem? (i := 0) rfl) rfl (by omega) ?_
  refine lx_arg C hL2 (jn := 4) dL_law_340 dL_law_341 dL_law_342 dL_law_343 dL_law_344 (List.mem_of_getElem? (i := 3) rfl) (List.mem_of_getElem? (i := 0) rfl) rfl (by omega) ?_
  refine lx_call C (As := [.int (xs (i + 1)), .int (xs (i + 2)), .int (xs (i + 3)), .int (xs (i + 4))]) (i := 0) (st := []) dL_law_345 gL_40 rfl sh0 rfl rfl (Nat.le_of_ble_eq_true rfl) (c_frame D1 J1 σ hX ok (xs (i + 1)) (xs (i + 2)) (xs (i + 3)) (xs (i + 4))) (by decide) (by decide) (by decide) (fun res D2 J2 hp => ?_)
  obtain ⟨rfl, hX2, hKX⟩ := hp
  have hM2 := hM.kx hKX.1
  refine lx_aload C (st := [.int (f_frame σ (xs (i + 1)) (xs (i + 2)) (xs (i + 3)) (xs (i + 4))).1]) dL_law_348 rfl (List.mem_of_getElem? (i := 1) rfl) ?_
  refine lx_arg C hL2 (jn := 1) dL_law_349 dL_law_350 dL_law_351 dL_law_352 dL_law_353 (List.mem_of_getElem? (i := 3) rfl) (List.mem_of_getElem? (i := 0) rfl) rfl (by omega) ?_
  refine lx_arg C hL2 (jn := 2) dL_law_354 dL_law_355 dL_law_356 dL_law_357 dL_law_358 (List.mem_of_getElem? (i := 3) rfl) (List.mem_of_getElem? (i := 0) rfl) rfl (by omega) ?_
  refine lx_arg C hL2 (jn := 3) dL_law_359 dL_law_360 dL_law_361 dL_law_362 dL_law_363 (List.mem_of_getElem? (i := 3) rfl) (List.mem_of_getElem? (i := 0) rfl) rfl (by omega) ?_
  refine lx_arg C hL2 (jn := 4) dL_law_364 dL_law_365 dL_law_366 dL_law_367 dL_law_368 (List.mem_of_getElem? (i := 3) rfl) (List.mem_of_getElem? (i := 0) rfl) rfl (by omega) ?_
  refine lx_call C (As := [.int (xs (i + 1)), .int (xs (i + 2)), .int (xs (i + 3)), .int (xs (i + 4))]) (i := 124) (st := [.int (f_frame σ (xs (i + 1)) (xs (i + 2)) (xs (i + 3)) (xs (i + 4))).1]) dL_law_369 gL_44 rfl sh124 rfl rfl (Nat.le_of_ble_eq_true rfl) (m_frame D2 J2 σ hM2 ok (xs (i + 1)) (xs (i + 2)) (xs (i + 3)) (xs (i + 4))) (by decide) (by decide) (by decide) (fun res D3 J3 hp => ?_)
  obtain ⟨rfl, hM3, hKM⟩ := hp
  exact lx_icmp_eq C (x := (f_frame σ (xs (i + 1)) (xs (i + 2)) (xs (i + 3)) (xs (i + 4))).1) (st := []) 799 dL_law_372 (by decide) (next ((f_frame σ (xs (i + 1)) (xs (i + 2)) (xs (i + 3)) (xs (i + 4))).2) D3 J3 (hX2.km hKM.1) hM3 (ok_frame ok (xs (i + 1)) (xs (i + 2)) (xs (i + 3)) (xs (i + 4))))
set_option maxHeartbeats 4000000 in
set_option maxRecDepth 100000 in
theorem q_ahead (C : lw_At p s m meth c b L xs) (hL : L ≤ 2560) (D1 : Nat → Nat → Int32) (J1 : Nat → Nat → Int64) (σ : Sg) (i : Nat) (hi : i + 5 ≤ L) (hX : XR D1 σ) (hM : MR D1 σ) (ok : SgOk σ) (next : ∀ (σ' : Sg) (D' : Nat → Nat → Int32) (J' : Nat → Nat → Int64), XR D' σ' → MR D' σ' → SgOk σ' → LW p l e s m below meth c b D k 143 7378 799 (lvL s b i) [] (lay D' J')) : LW p l e s m below meth c b D k 143 7378 377 (lvL s b i) [] (lay D1 J1) := by
  have hL2 : L < 2 ^ 31 := by omega
  refine lx_aload C dL_law_377 rfl (List.mem_of_getElem? (i := 2) rfl) ?_
  refine lx_arg C hL2 (jn := 1) dL_law_378 dL_law_379 dL_law_380 dL_law_381 dL_law_382 (List.mem_of_getElem? (i := 3) rfl) (List.mem_of_getElem? (i := 0) rfl) rfl (by omega) ?_
  refine lx_if_eq C 390 dL_law_383 (by decide) (fun z => ?_) (fun z => ?_)
  · refine lx_iconst C (v := 0) dL_law_390 rfl ?_
    refine lx_call C (As := [.int 0]) (i := 0) (st := []) dL_law_391 gL_45 rfl sh0 rfl rfl (Nat.le_of_ble_eq_true rfl) (c_ahead D1 J1 σ hX ok 0 (Or.inl rfl)) (by decide) (by decide) (by decide) (fun res D2 J2 hp => ?_)
    obtain ⟨rfl, hX2, hKX⟩ := hp
    have hM2 := hM.kx hKX.1
    refine lx_aload C (st := [.int (f_ahead σ 0).1]) dL_law_394 rfl (List.mem_of_getElem? (i := 1) rfl) ?_
    refine lx_arg C hL2 (jn := 1) dL_law_395 dL_law_396 dL_law_397 dL_law_398 dL_law_399 (List.mem_of_getElem? (i := 3) rfl) (List.mem_of_getElem? (i := 0) rfl) rfl (by omega) ?_
    refine lx_if_eq C (st := [.ref (s.heap.size + 124), .int (f_ahead σ 0).1]) 407 dL_law_400 (by decide) (fun _ => ?_) (fun y => absurd z y)
    refine lx_iconst C (v := 0) dL_law_407 rfl ?_
    refine lx_call C (As := [.int 0]) (i := 124) (st := [.int (f_ahead σ 0).1]) dL_law_408 gL_49 rfl sh124 rfl rfl (Nat.le_of_ble_eq_true rfl) (m_ahead D2 J2 σ hM2 ok 0 (Or.inl rfl)) (by decide) (by decide) (by decide) (fun res D3 J3 hp => ?_)
    obtain ⟨rfl, hM3, hKM⟩ := hp
    exact lx_icmp_eq C (x := (f_ahead σ 0).1) (st := []) 799 dL_law_411 (by decide) (next ((f_ahead σ 0).2) D3 J3 (hX2.km hKM.1) hM3 (ok_ahead ok (Or.inl rfl)))
  · refine lx_iconst C (v := 1) dL_law_386 rfl ?_
    refine lx_goto C 391 dL_law_387 (by decide) ?_
    refine lx_call C (As := [.int 1]) (i := 0) (st := []) dL_law_391 gL_45 rfl sh0 rfl rfl (Nat.le_of_ble_eq_true rfl) (c_ahead D1 J1 σ hX ok 1 (Or.inr rfl)) (by decide) (by decide) (by decide) (fun res D2 J2 hp => ?_)
    obtain ⟨rfl, hX2, hKX⟩ := hp
    have hM2 := hM.kx hKX.1
    refine lx_aload C (st := [.int (f_ahead σ 1).1]) dL_law_394 rfl (List.mem_of_getElem? (i := 1) rfl) ?_
    refine lx_arg C hL2 (jn := 1) dL_law_395 dL_law_396 dL_law_397 dL_law_398 dL_law_399 (List.mem_of_getElem? (i := 3) rfl) (List.mem_of_getElem? (i := 0) rfl) rfl (by omega) ?_
    refine lx_if_eq C (st := [.ref (s.heap.size + 124), .int (f_ahead σ 1).1]) 407 dL_law_400 (by decide) (fun y => absurd y z) (fun _ => ?_)
    refine lx_iconst C (v := 1) dL_law_403 rfl ?_
    refine lx_goto C 408 dL_law_404 (by decide) ?_
    refine lx_call C (As := [.int 1]) (i := 124) (st := [.int (f_ahead σ 1).1]) dL_law_408 gL_49 rfl sh124 rfl rfl (Nat.le_of_ble_eq_true rfl) (m_ahead D2 J2 σ hM2 ok 1 (Or.inr rfl)) (by decide) (by decide) (by decide) (fun res D3 J3 hp => ?_)
    obtain ⟨rfl, hM3, hKM⟩ := hp
    exact lx_icmp_eq C (x := (f_ahead σ 1).1) (st := []) 799 dL_law_411 (by decide) (next ((f_ahead σ 1).2) D3 J3 (hX2.km hKM.1) hM3 (ok_ahead ok (Or.inr rfl)))
set_option maxHeartbeats 4000000 in
set_option maxRecDepth 100000 in
theorem q_drift (C : lw_At p s m meth c b L xs) (hL : L ≤ 2560) (D1 : Nat → Nat → Int32) (J1 : Nat → Nat → Int64) (σ : Sg) (i : Nat) (hi : i + 5 ≤ L) (hX : XR D1 σ) (hM : MR D1 σ) (ok : SgOk σ) (next : ∀ (σ' : Sg) (D' : Nat → Nat → Int32) (J' : Nat → Nat → Int64), XR D' σ' → MR D' σ' → SgOk σ' → LW p l e s m below meth c b D k 143 7378 799 (lvL s b i) [] (lay D' J')) : LW p l e s m below meth c b D k 143 7378 416 (lvL s b i) [] (lay D1 J1) := by
  have hL2 : L < 2 ^ 31 := by omega
  refine lx_aload C dL_law_416 rfl (List.mem_of_getElem? (i := 2) rfl) ?_
  refine lx_arg C hL2 (jn := 1) dL_law_417 dL_law_418 dL_law_419 dL_law_420 dL_law_421 (List.mem_of_getElem? (i := 3) rfl) (List.mem_of_getElem? (i := 0) rfl) rfl (by omega) ?_
  refine lx_call C (As := [.int (xs (i + 1))]) (i := 0) (st := []) dL_law_422 gL_50 rfl sh0 rfl rfl (Nat.le_of_ble_eq_true rfl) (c_drift D1 J1 σ hX ok (xs (i + 1))) (by decide) (by decide) (by decide) (fun res D2 J2 hp => ?_)
  obtain ⟨rfl, hX2, hKX⟩ := hp
  have hM2 := hM.kx hKX.1
  refine lx_aload C (st := [.int (f_drift σ (xs (i + 1))).1]) dL_law_425 rfl (List.mem_of_getElem? (i := 1) rfl) ?_
  refine lx_arg C hL2 (jn := 1) dL_law_426 dL_law_427 dL_law_428 dL_law_429 dL_law_430 (List.mem_of_getElem? (i := 3) rfl) (List.mem_of_getElem? (i := 0) rfl) rfl (by omega) ?_
  refine lx_call C (As := [.int (xs (i + 1))]) (i := 124) (st := [.int (f_drift σ (xs (i + 1))).1]) dL_law_431 gL_53 rfl sh124 rfl rfl (Nat.le_of_ble_eq_true rfl) (m_drift D2 J2 σ hM2 ok (xs (i + 1))) (by decide) (by decide) (by decide) (fun res D3 J3 hp => ?_)
  obtain ⟨rfl, hM3, hKM⟩ := hp
  exact lx_icmp_eq C (x := (f_drift σ (xs (i + 1))).1) (st := []) 799 dL_law_434 (by decide) (next ((f_drift σ (xs (i + 1))).2) D3 J3 (hX2.km hKM.1) hM3 (ok_drift ok (xs (i + 1))))
set_option maxHeartbeats 4000000 in
set_option maxRecDepth 100000 in
theorem q_undo (C : lw_At p s m meth c b L xs) (hL : L ≤ 2560) (D1 : Nat → Nat → Int32) (J1 : Nat → Nat → Int64) (σ : Sg) (i : Nat) (hi : i + 5 ≤ L) (hX : XR D1 σ) (hM : MR D1 σ) (ok : SgOk σ) (next : ∀ (σ' : Sg) (D' : Nat → Nat → Int32) (J' : Nat → Nat → Int64), XR D' σ' → MR D' σ' → SgOk σ' → LW p l e s m below meth c b D k 143 7378 799 (lvL s b i) [] (lay D' J')) : LW p l e s m below meth c b D k 143 7378 439 (lvL s b i) [] (lay D1 J1) := by
  have hL2 : L < 2 ^ 31 := by omega
  refine lx_aload C dL_law_439 rfl (List.mem_of_getElem? (i := 2) rfl) ?_
  refine lx_arg C hL2 (jn := 1) dL_law_440 dL_law_441 dL_law_442 dL_law_443 dL_law_444 (List.mem_of_getElem? (i := 3) rfl) (List.mem_of_getElem? (i := 0) rfl) rfl (by omega) ?_
  refine lx_call C (As := [.int (xs (i + 1))]) (i := 0) (st := []) dL_law_445 gL_54 rfl sh0 rfl rfl (Nat.le_of_ble_eq_true rfl) (c_undo D1 J1 σ hX ok (xs (i + 1))) (by decide) (by decide) (by decide) (fun res D2 J2 hp => ?_)
  obtain ⟨rfl, hX2, hKX⟩ := hp
  have hM2 := hM.kx hKX.1
  refine lx_aload C (st := [.int (f_undo σ (xs (i + 1))).1]) dL_law_448 rfl (List.mem_of_getElem? (i := 1) rfl) ?_
  refine lx_arg C hL2 (jn := 1) dL_law_449 dL_law_450 dL_law_451 dL_law_452 dL_law_453 (List.mem_of_getElem? (i := 3) rfl) (List.mem_of_getElem? (i := 0) rfl) rfl (by omega) ?_
  refine lx_call C (As := [.int (xs (i + 1))]) (i := 124) (st := [.int (f_undo σ (xs (i + 1))).1]) dL_law_454 gL_57 rfl sh124 rfl rfl (Nat.le_of_ble_eq_true rfl) (m_undo D2 J2 σ hM2 ok (xs (i + 1))) (by decide) (by decide) (by decide) (fun res D3 J3 hp => ?_)
  obtain ⟨rfl, hM3, hKM⟩ := hp
  exact lx_icmp_eq C (x := (f_undo σ (xs (i + 1))).1) (st := []) 799 dL_law_457 (by decide) (next ((f_undo σ (xs (i + 1))).2) D3 J3 (hX2.km hKM.1) hM3 (ok_undo ok (xs (i + 1))))
set_option maxHeartbeats 4000000 in
set_option maxRecDepth 100000 in
theorem q_of (C : lw_At p s m meth c b L xs) (hL : L ≤ 2560) (D1 : Nat → Nat → Int32) (J1 : Nat → Nat → Int64) (σ : Sg) (i : Nat) (hi : i + 5 ≤ L) (hX : XR D1 σ) (hM : MR D1 σ) (ok : SgOk σ) (next : ∀ (σ' : Sg) (D' : Nat → Nat → Int32) (J' : Nat → Nat → Int64), XR D' σ' → MR D' σ' → SgOk σ' → LW p l e s m below meth c b D k 143 7378 799 (lvL s b i) [] (lay D' J')) : LW p l e s m below meth c b D k 143 7378 462 (lvL s b i) [] (lay D1 J1) := by
  have hL2 : L < 2 ^ 31 := by omega
  refine lx_aload C dL_law_462 rfl (List.mem_of_getElem? (i := 2) rfl) ?_
  refine lx_arg C hL2 (jn := 1) dL_law_463 dL_law_464 dL_law_465 dL_law_466 dL_law_467 (List.mem_of_getElem? (i := 3) rfl) (List.mem_of_getElem? (i := 0) rfl) rfl (by omega) ?_
  refine lx_arg C hL2 (jn := 2) dL_law_468 dL_law_469 dL_law_470 dL_law_471 dL_law_472 (List.mem_of_getElem? (i := 3) rfl) (List.mem_of_getElem? (i := 0) rfl) rfl (by omega) ?_
  refine lx_call C (As := [.int (xs (i + 1)), .int (xs (i + 2))]) (i := 0) (st := []) dL_law_473 gL_58 rfl sh0 rfl rfl (Nat.le_of_ble_eq_true rfl) (c_of D1 J1 σ hX ok (xs (i + 1)) (xs (i + 2))) (by decide) (by decide) (by decide) (fun res D2 J2 hp => ?_)
  obtain ⟨rfl, hX2, hKX⟩ := hp
  have hM2 := hM.kx hKX.1
  refine lx_aload C (st := [.int (f_of σ (xs (i + 1)) (xs (i + 2)))]) dL_law_476 rfl (List.mem_of_getElem? (i := 1) rfl) ?_
  refine lx_arg C hL2 (jn := 1) dL_law_477 dL_law_478 dL_law_479 dL_law_480 dL_law_481 (List.mem_of_getElem? (i := 3) rfl) (List.mem_of_getElem? (i := 0) rfl) rfl (by omega) ?_
  refine lx_arg C hL2 (jn := 2) dL_law_482 dL_law_483 dL_law_484 dL_law_485 dL_law_486 (List.mem_of_getElem? (i := 3) rfl) (List.mem_of_getElem? (i := 0) rfl) rfl (by omega) ?_
  refine lx_call C (As := [.int (xs (i + 1)), .int (xs (i + 2))]) (i := 124) (st := [.int (f_of σ (xs (i + 1)) (xs (i + 2)))]) dL_law_487 gL_61 rfl sh124 rfl rfl (Nat.le_of_ble_eq_true rfl) (m_of D2 J2 σ hM2 ok (xs (i + 1)) (xs (i + 2))) (by decide) (by decide) (by decide) (fun res D3 J3 hp => ?_)
  obtain ⟨rfl, hM3, hKM⟩ := hp
  exact lx_icmp_eq C (x := (f_of σ (xs (i + 1)) (xs (i + 2)))) (st := []) 799 dL_law_490 (by decide) (next (σ) D3 J3 (hX2.km hKM.1) hM3 (ok))
set_option maxHeartbeats 4000000 in
set_option maxRecDepth 100000 in
theorem q_rows (C : lw_At p s m meth c b L xs) (hL : L ≤ 2560) (D1 : Nat → Nat → Int32) (J1 : Nat → Nat → Int64) (σ : Sg) (i : Nat) (hi : i + 5 ≤ L) (hX : XR D1 σ) (hM : MR D1 σ) (ok : SgOk σ) (next : ∀ (σ' : Sg) (D' : Nat → Nat → Int32) (J' : Nat → Nat → Int64), XR D' σ' → MR D' σ' → SgOk σ' → LW p l e s m below meth c b D k 143 7378 799 (lvL s b i) [] (lay D' J')) : LW p l e s m below meth c b D k 143 7378 495 (lvL s b i) [] (lay D1 J1) := by
  have hL2 : L < 2 ^ 31 := by omega
  refine lx_aload C dL_law_495 rfl (List.mem_of_getElem? (i := 2) rfl) ?_
  refine lx_arg C hL2 (jn := 1) dL_law_496 dL_law_497 dL_law_498 dL_law_499 dL_law_500 (List.mem_of_getElem? (i := 3) rfl) (List.mem_of_getElem? (i := 0) rfl) rfl (by omega) ?_
  refine lx_call C (As := [.int (xs (i + 1))]) (i := 0) (st := []) dL_law_501 gL_62 rfl sh0 rfl rfl (Nat.le_of_ble_eq_true rfl) (c_rows D1 J1 σ hX ok (xs (i + 1))) (by decide) (by decide) (by decide) (fun res D2 J2 hp => ?_)
  obtain ⟨rfl, hX2, hKX⟩ := hp
  have hM2 := hM.kx hKX.1
  refine lx_aload C (st := [.long (f_rows σ (xs (i + 1)))]) dL_law_504 rfl (List.mem_of_getElem? (i := 1) rfl) ?_
  refine lx_arg C hL2 (jn := 1) dL_law_505 dL_law_506 dL_law_507 dL_law_508 dL_law_509 (List.mem_of_getElem? (i := 3) rfl) (List.mem_of_getElem? (i := 0) rfl) rfl (by omega) ?_
  refine lx_call C (As := [.int (xs (i + 1))]) (i := 124) (st := [.long (f_rows σ (xs (i + 1)))]) dL_law_510 gL_66 rfl sh124 rfl rfl (Nat.le_of_ble_eq_true rfl) (m_rows D2 J2 σ hM2 ok (xs (i + 1))) (by decide) (by decide) (by decide) (fun res D3 J3 hp => ?_)
  obtain ⟨rfl, hM3, hKM⟩ := hp
  refine lx_lcmp C (x := (f_rows σ (xs (i + 1)))) (y := (f_rows σ (xs (i + 1)))) (st := []) dL_law_513 ?_
  exact lx_if_eq C (st := []) 799 dL_law_514 (by decide) (fun _ => next (σ) D3 J3 (hX2.km hKM.1) hM3 (ok)) (fun h => absurd ((lcmp_0 _ _).mpr rfl) h)
set_option maxHeartbeats 4000000 in
set_option maxRecDepth 100000 in
theorem q_inFrame (C : lw_At p s m meth c b L xs) (hL : L ≤ 2560) (D1 : Nat → Nat → Int32) (J1 : Nat → Nat → Int64) (σ : Sg) (i : Nat) (hi : i + 5 ≤ L) (hX : XR D1 σ) (hM : MR D1 σ) (ok : SgOk σ) (next : ∀ (σ' : Sg) (D' : Nat → Nat → Int32) (J' : Nat → Nat → Int64), XR D' σ' → MR D' σ' → SgOk σ' → LW p l e s m below meth c b D k 143 7378 799 (lvL s b i) [] (lay D' J')) : LW p l e s m below meth c b D k 143 7378 519 (lvL s b i) [] (lay D1 J1) := by
  have hL2 : L < 2 ^ 31 := by omega
  refine lx_aload C dL_law_519 rfl (List.mem_of_getElem? (i := 2) rfl) ?_
  refine lx_arg C hL2 (jn := 1) dL_law_520 dL_law_521 dL_law_522 dL_law_523 dL_law_524 (List.mem_of_getElem? (i := 3) rfl) (List.mem_of_getElem? (i := 0) rfl) rfl (by omega) ?_
  refine lx_arg C hL2 (jn := 2) dL_law_525 dL_law_526 dL_law_527 dL_law_528 dL_law_529 (List.mem_of_getElem? (i := 3) rfl) (List.mem_of_getElem? (i := 0) rfl) rfl (by omega) ?_
  refine lx_call C (As := [.int (xs (i + 1)), .int (xs (i + 2))]) (i := 0) (st := []) dL_law_530 gL_67 rfl sh0 rfl rfl (Nat.le_of_ble_eq_true rfl) (c_inFrame D1 J1 σ hX ok (xs (i + 1)) (xs (i + 2))) (by decide) (by decide) (by decide) (fun res D2 J2 hp => ?_)
  obtain ⟨rfl, hX2, hKX⟩ := hp
  have hM2 := hM.kx hKX.1
  refine lx_aload C (st := [.int (f_inFrame σ (xs (i + 1)) (xs (i + 2)))]) dL_law_533 rfl (List.mem_of_getElem? (i := 1) rfl) ?_
  refine lx_arg C hL2 (jn := 1) dL_law_534 dL_law_535 dL_law_536 dL_law_537 dL_law_538 (List.mem_of_getElem? (i := 3) rfl) (List.mem_of_getElem? (i := 0) rfl) rfl (by omega) ?_
  refine lx_arg C hL2 (jn := 2) dL_law_539 dL_law_540 dL_law_541 dL_law_542 dL_law_543 (List.mem_of_getElem? (i := 3) rfl) (List.mem_of_getElem? (i := 0) rfl) rfl (by omega) ?_
  refine lx_call C (As := [.int (xs (i + 1)), .int (xs (i + 2))]) (i := 124) (st := [.int (f_inFrame σ (xs (i + 1)) (xs (i + 2)))]) dL_law_544 gL_70 rfl sh124 rfl rfl (Nat.le_of_ble_eq_true rfl) (m_inFrame D2 J2 σ hM2 ok (xs (i + 1)) (xs (i + 2))) (by decide) (by decide) (by decide) (fun res D3 J3 hp => ?_)
  obtain ⟨rfl, hM3, hKM⟩ := hp
  exact lx_icmp_eq C (x := (f_inFrame σ (xs (i + 1)) (xs (i + 2)))) (st := []) 799 dL_law_547 (by decide) (next (σ) D3 J3 (hX2.km hKM.1) hM3 (ok))
set_option maxHeartbeats 4000000 in
set_option maxRecDepth 100000 in
theorem q_heap (C : lw_At p s m meth c b L xs) (hL : L ≤ 2560) (D1 : Nat → Nat → Int32) (J1 : Nat → Nat → Int64) (σ : Sg) (i : Nat) (hi : i + 5 ≤ L) (hX : XR D1 σ) (hM : MR D1 σ) (ok : SgOk σ) (next : ∀ (σ' : Sg) (D' : Nat → Nat → Int32) (J' : Nat → Nat → Int64), XR D' σ' → MR D' σ' → SgOk σ' → LW p l e s m below meth c b D k 143 7378 799 (lvL s b i) [] (lay D' J')) : LW p l e s m below meth c b D k 143 7378 552 (lvL s b i) [] (lay D1 J1) := by
  have hL2 : L < 2 ^ 31 := by omega
  refine lx_aload C dL_law_552 rfl (List.mem_of_getElem? (i := 2) rfl) ?_
  refine lx_arg C hL2 (jn := 1) dL_law_553 dL_law_554 dL_law_555 dL_law_556 dL_law_557 (List.mem_of_getElem? (i := 3) rfl) (List.mem_of_getElem? (i := 0) rfl) rfl (by omega) ?_
  refine lx_arg C hL2 (jn := 2) dL_law_558 dL_law_559 dL_law_560 dL_law_561 dL_law_562 (List.mem_of_getElem? (i := 3) rfl) (List.mem_of_getElem? (i := 0) rfl) rfl (by omega) ?_
  refine lx_call C (As := [.int (xs (i + 1)), .int (xs (i + 2))]) (i := 0) (st := []) dL_law_563 gL_71 rfl sh0 rfl rfl (Nat.le_of_ble_eq_true rfl) (c_heap D1 J1 σ hX ok (xs (i + 1)) (xs (i + 2))) (by decide) (by decide) (by decide) (fun res D2 J2 hp => ?_)
  obtain ⟨rfl, hX2, hKX⟩ := hp
  have hM2 := hM.kx hKX.1
  refine lx_aload C (st := [.int (f_heap σ (xs (i + 1)) (xs (i + 2)))]) dL_law_566 rfl (List.mem_of_getElem? (i := 1) rfl) ?_
  refine lx_arg C hL2 (jn := 1) dL_law_567 dL_law_568 dL_law_569 dL_law_570 dL_law_571 (List.mem_of_getElem? (i := 3) rfl) (List.mem_of_getElem? (i := 0) rfl) rfl (by omega) ?_
  refine lx_arg C hL2 (jn := 2) dL_law_572 dL_law_573 dL_law_574 dL_law_575 dL_law_576 (List.mem_of_getElem? (i := 3) rfl) (List.mem_of_getElem? (i := 0) rfl) rfl (by omega) ?_
  refine lx_call C (As := [.int (xs (i + 1)), .int (xs (i + 2))]) (i := 124) (st := [.int (f_heap σ (xs (i + 1)) (xs (i + 2)))]) dL_law_577 gL_74 rfl sh124 rfl rfl (Nat.le_of_ble_eq_true rfl) (m_heap D2 J2 σ hM2 ok (xs (i + 1)) (xs (i + 2))) (by decide) (by decide) (by decide) (fun res D3 J3 hp => ?_)
  obtain ⟨rfl, hM3, hKM⟩ := hp
  exact lx_icmp_eq C (x := (f_heap σ (xs (i + 1)) (xs (i + 2)))) (st := []) 799 dL_law_580 (by decide) (next (σ) D3 J3 (hX2.km hKM.1) hM3 (ok))
set_option maxHeartbeats 4000000 in
set_option maxRecDepth 100000 in
theorem q_shift (C : lw_At p s m meth c b L xs) (hL : L ≤ 2560) (D1 : Nat → Nat → Int32) (J1 : Nat → Nat → Int64) (σ : Sg) (i : Nat) (hi : i + 5 ≤ L) (hX : XR D1 σ) (hM : MR D1 σ) (ok : SgOk σ) (next : ∀ (σ' : Sg) (D' : Nat → Nat → Int32) (J' : Nat → Nat → Int64), XR D' σ' → MR D' σ' → SgOk σ' → LW p l e s m below meth c b D k 143 7378 799 (lvL s b i) [] (lay D' J')) : LW p l e s m below meth c b D k 143 7378 585 (lvL s b i) [] (lay D1 J1) := by
  have hL2 : L < 2 ^ 31 := by omega
  refine lx_aload C dL_law_585 rfl (List.mem_of_getElem? (i := 2) rfl) ?_
  refine lx_arg C hL2 (jn := 1) dL_law_586 dL_law_587 dL_law_588 dL_law_589 dL_law_590 (List.mem_of_getElem? (i := 3) rfl) (List.mem_of_getElem? (i := 0) rfl) rfl (by omega) ?_
  refine lx_arg C hL2 (jn := 2) dL_law_591 dL_law_592 dL_law_593 dL_law_594 dL_law_595 (List.mem_of_getElem? (i := 3) rfl) (List.mem_of_getElem? (i := 0) rfl) rfl (by omega) ?_
  refine lx_call C (As := [.int (xs (i + 1)), .int (xs (i + 2))]) (i := 0) (st := []) dL_law_596 gL_75 rfl sh0 rfl rfl (Nat.le_of_ble_eq_true rfl) (c_shift D1 J1 σ hX ok (xs (i + 1)) (xs (i + 2))) (by decide) (by decide) (by decide) (fun res D2 J2 hp => ?_)
  obtain ⟨rfl, hX2, hKX⟩ := hp
  have hM2 := hM.kx hKX.1
  refine lx_aload C (st := [.int (f_shift σ (xs (i + 1)) (xs (i + 2)))]) dL_law_599 rfl (List.mem_of_getElem? (i := 1) rfl) ?_
  refine lx_arg C hL2 (jn := 1) dL_law_600 dL_law_601 dL_law_602 dL_law_603 dL_law_604 (List.mem_of_getElem? (i := 3) rfl) (List.mem_of_getElem? (i := 0) rfl) rfl (by omega) ?_
  refine lx_arg C hL2 (jn := 2) dL_law_605 dL_law_606 dL_law_607 dL_law_608 dL_law_609 (List.mem_of_getElem? (i := 3) rfl) (List.mem_of_getElem? (i := 0) rfl) rfl (by omega) ?_
  refine lx_call C (As := [.int (xs (i + 1)), .int (xs (i + 2))]) (i := 124) (st := [.int (f_shift σ (xs (i + 1)) (xs (i + 2)))]) dL_law_610 gL_78 rfl sh124 rfl rfl (Nat.le_of_ble_eq_true rfl) (m_shift D2 J2 σ hM2 ok (xs (i + 1)) (xs (i + 2))) (by decide) (by decide) (by decide) (fun res D3 J3 hp => ?_)
  obtain ⟨rfl, hM3, hKM⟩ := hp
  exact lx_icmp_eq C (x := (f_shift σ (xs (i + 1)) (xs (i + 2)))) (st := []) 799 dL_law_613 (by decide) (next (σ) D3 J3 (hX2.km hKM.1) hM3 (ok))
set_option maxHeartbeats 4000000 in
set_option maxRecDepth 100000 in
theorem q_best (C : lw_At p s m meth c b L xs) (hL : L ≤ 2560) (D1 : Nat → Nat → Int32) (J1 : Nat → Nat → Int64) (σ : Sg) (i : Nat) (hi : i + 5 ≤ L) (hX : XR D1 σ) (hM : MR D1 σ) (ok : SgOk σ) (next : ∀ (σ' : Sg) (D' : Nat → Nat → Int32) (J' : Nat → Nat → Int64), XR D' σ' → MR D' σ' → SgOk σ' → LW p l e s m below meth c b D k 143 7378 799 (lvL s b i) [] (lay D' J')) : LW p l e s m below meth c b D k 143 7378 618 (lvL s b i) [] (lay D1 J1) := by
  have hL2 : L < 2 ^ 31 := by omega
  refine lx_aload C dL_law_618 rfl (List.mem_of_getElem? (i := 2) rfl) ?_
  refine lx_arg C hL2 (jn := 1) dL_law_619 dL_law_620 dL_law_621 dL_law_622 dL_law_623 (List.mem_of_getElem? (i := 3) rfl) (List.mem_of_getElem? (i := 0) rfl) rfl (by omega) ?_
  refine lx_call C (As := [.int (xs (i + 1))]) (i := 0) (st := []) dL_law_624 gL_79 rfl sh0 rfl rfl (Nat.le_of_ble_eq_true rfl) (c_best D1 J1 σ hX ok (xs (i + 1))) (by decide) (by decide) (by decide) (fun res D2 J2 hp => ?_)
  obtain ⟨rfl, hX2, hKX⟩ := hp
  have hM2 := hM.kx hKX.1
  refine lx_aload C (st := [.int (f_best σ (xs (i + 1)))]) dL_law_627 rfl (List.mem_of_getElem? (i := 1) rfl) ?_
  refine lx_arg C hL2 (jn := 1) dL_law_628 dL_law_629 dL_law_630 dL_law_631 dL_law_632 (List.mem_of_getElem? (i := 3) rfl) (List.mem_of_getElem? (i := 0) rfl) rfl (by omega) ?_
  refine lx_call C (As := [.int (xs (i + 1))]) (i := 124) (st := [.int (f_best σ (xs (i + 1)))]) dL_law_633 gL_82 rfl sh124 rfl rfl (Nat.le_of_ble_eq_true rfl) (m_best D2 J2 σ hM2 ok (xs (i + 1))) (by decide) (by decide) (by decide) (fun res D3 J3 hp => ?_)
  obtain ⟨rfl, hM3, hKM⟩ := hp
  exact lx_icmp_eq C (x := (f_best σ (xs (i + 1)))) (st := []) 799 dL_law_636 (by decide) (next (σ) D3 J3 (hX2.km hKM.1) hM3 (ok))
set_option maxHeartbeats 4000000 in
set_option maxRecDepth 100000 in
theorem q_would (C : lw_At p s m meth c b L xs) (hL : L ≤ 2560) (D1 : Nat → Nat → Int32) (J1 : Nat → Nat → Int64) (σ : Sg) (i : Nat) (hi : i + 5 ≤ L) (hX : XR D1 σ) (hM : MR D1 σ) (ok : SgOk σ) (next : ∀ (σ' : Sg) (D' : Nat → Nat → Int32) (J' : Nat → Nat → Int64), XR D' σ' → MR D' σ' → SgOk σ' → LW p l e s m below meth c b D k 143 7378 799 (lvL s b i) [] (lay D' J')) : LW p l e s m below meth c b D k 143 7378 641 (lvL s b i) [] (lay D1 J1) := by
  have hL2 : L < 2 ^ 31 := by omega
  refine lx_aload C dL_law_641 rfl (List.mem_of_getElem? (i := 2) rfl) ?_
  refine lx_arg C hL2 (jn := 1) dL_law_642 dL_law_643 dL_law_644 dL_law_645 dL_law_646 (List.mem_of_getElem? (i := 3) rfl) (List.mem_of_getElem? (i := 0) rfl) rfl (by omega) ?_
  refine lx_arg C hL2 (jn := 2) dL_law_647 dL_law_648 dL_law_649 dL_law_650 dL_law_651 (List.mem_of_getElem? (i := 3) rfl) (List.mem_of_getElem? (i := 0) rfl) rfl (by omega) ?_
  refine lx_call C (As := [.int (xs (i + 1)), .int (xs (i + 2))]) (i := 0) (st := []) dL_law_652 gL_83 rfl sh0 rfl rfl (Nat.le_of_ble_eq_true rfl) (c_would D1 J1 σ hX ok (xs (i + 1)) (xs (i + 2))) (by decide) (by decide) (by decide) (fun res D2 J2 hp => ?_)
  obtain ⟨rfl, hX2, hKX⟩ := hp
  have hM2 := hM.kx hKX.1
  refine lx_aload C (st := [.int (f_would σ (xs (i + 1)) (xs (i + 2)))]) dL_law_655 rfl (List.mem_of_getElem? (i := 1) rfl) ?_
  refine lx_arg C hL2 (jn := 1) dL_law_656 dL_law_657 dL_law_658 dL_law_659 dL_law_660 (List.mem_of_getElem? (i := 3) rfl) (List.mem_of_getElem? (i := 0) rfl) rfl (by omega) ?_
  refine lx_arg C hL2 (jn := 2) dL_law_661 dL_law_662 dL_law_663 dL_law_664 dL_law_665 (List.mem_of_getElem? (i := 3) rfl) (List.mem_of_getElem? (i := 0) rfl) rfl (by omega) ?_
  refine lx_call C (As := [.int (xs (i + 1)), .int (xs (i + 2))]) (i := 124) (st := [.int (f_would σ (xs (i + 1)) (xs (i + 2)))]) dL_law_666 gL_86 rfl sh124 rfl rfl (Nat.le_of_ble_eq_true rfl) (m_would D2 J2 σ hM2 ok (xs (i + 1)) (xs (i + 2))) (by decide) (by decide) (by decide) (fun res D3 J3 hp => ?_)
  obtain ⟨rfl, hM3, hKM⟩ := hp
  exact lx_icmp_eq C (x := (f_would σ (xs (i + 1)) (xs (i + 2)))) (st := []) 799 dL_law_669 (by decide) (next (σ) D3 J3 (hX2.km hKM.1) hM3 (ok))
set_option maxHeartbeats 4000000 in
set_option maxRecDepth 100000 in
theorem q_write (C : lw_At p s m meth c b L xs) (hL : L ≤ 2560) (D1 : Nat → Nat → Int32) (J1 : Nat → Nat → Int64) (σ : Sg) (i : Nat) (hi : i + 5 ≤ L) (hX : XR D1 σ) (hM : MR D1 σ) (ok : SgOk σ) (next : ∀ (σ' : Sg) (D' : Nat → Nat → Int32) (J' : Nat → Nat → Int64), XR D' σ' → MR D' σ' → SgOk σ' → LW p l e s m below meth c b D k 143 7378 799 (lvL s b i) [] (lay D' J')) : LW p l e s m below meth c b D k 143 7378 674 (lvL s b i) [] (lay D1 J1) := by
  have hL2 : L < 2 ^ 31 := by omega
  refine lx_aload C dL_law_674 rfl (List.mem_of_getElem? (i := 2) rfl) ?_
  refine lx_arg C hL2 (jn := 1) dL_law_675 dL_law_676 dL_law_677 dL_law_678 dL_law_679 (List.mem_of_getElem? (i := 3) rfl) (List.mem_of_getElem? (i := 0) rfl) rfl (by omega) ?_
  refine lx_arg C hL2 (jn := 2) dL_law_680 dL_law_681 dL_law_682 dL_law_683 dL_law_684 (List.mem_of_getElem? (i := 3) rfl) (List.mem_of_getElem? (i := 0) rfl) rfl (by omega) ?_
  refine lx_arg C hL2 (jn := 3) dL_law_685 dL_law_686 dL_law_687 dL_law_688 dL_law_689 (List.mem_of_getElem? (i := 3) rfl) (List.mem_of_getElem? (i := 0) rfl) rfl (by omega) ?_
  refine lx_call C (As := [.int (xs (i + 1)), .int (xs (i + 2)), .int (xs (i + 3))]) (i := 0) (st := []) dL_law_690 gL_87 rfl sh0 rfl rfl (Nat.le_of_ble_eq_true rfl) (c_write D1 J1 σ hX ok (xs (i + 1)) (xs (i + 2)) (xs (i + 3))) (by decide) (by decide) (by decide) (fun res D2 J2 hp => ?_)
  obtain ⟨rfl, hX2, hKX⟩ := hp
  have hM2 := hM.kx hKX.1
  refine lx_aload C (st := [.int (f_write σ (xs (i + 1)) (xs (i + 2)) (xs (i + 3))).1]) dL_law_693 rfl (List.mem_of_getElem? (i := 1) rfl) ?_
  refine lx_arg C hL2 (jn := 1) dL_law_694 dL_law_695 dL_law_696 dL_law_697 dL_law_698 (List.mem_of_getElem? (i := 3) rfl) (List.mem_of_getElem? (i := 0) rfl) rfl (by omega) ?_
  refine lx_arg C hL2 (jn := 2) dL_law_699 dL_law_700 dL_law_701 dL_law_702 dL_law_703 (List.mem_of_getElem? (i := 3) rfl) (List.mem_of_getElem? (i := 0) rfl) rfl (by omega) ?_
  refine lx_arg C hL2 (jn := 3) dL_law_704 dL_law_705 dL_law_706 dL_law_707 dL_law_708 (List.mem_of_getElem? (i := 3) rfl) (List.mem_of_getElem? (i := 0) rfl) rfl (by omega) ?_
  refine lx_call C (As := [.int (xs (i + 1)), .int (xs (i + 2)), .int (xs (i + 3))]) (i := 124) (st := [.int (f_write σ (xs (i + 1)) (xs (i + 2)) (xs (i + 3))).1]) dL_law_709 gL_90 rfl sh124 rfl rfl (Nat.le_of_ble_eq_true rfl) (m_write D2 J2 σ hM2 ok (xs (i + 1)) (xs (i + 2)) (xs (i + 3))) (by decide) (by decide) (by decide) (fun res D3 J3 hp => ?_)
  obtain ⟨rfl, hM3, hKM⟩ := hp
  exact lx_icmp_eq C (x := (f_write σ (xs (i + 1)) (xs (i + 2)) (xs (i + 3))).1) (st := []) 799 dL_law_712 (by decide) (next ((f_write σ (xs (i + 1)) (xs (i + 2)) (xs (i + 3))).2) D3 J3 (hX2.km hKM.1) hM3 (ok_write ok (xs (i + 1)) (xs (i + 2)) (xs (i + 3))))
set_option maxHeartbeats 4000000 in
set_option maxRecDepth 100000 in
theorem q_tear (C : lw_At p s m meth c b L xs) (hL : L ≤ 2560) (D1 : Nat → Nat → Int32) (J1 : Nat → Nat → Int64) (σ : Sg) (i : Nat) (hi : i + 5 ≤ L) (hX : XR D1 σ) (hM : MR D1 σ) (ok : SgOk σ) (next : ∀ (σ' : Sg) (D' : Nat → Nat → Int32) (J' : Nat → Nat → Int64), XR D' σ' → MR D' σ' → SgOk σ' → LW p l e s m below meth c b D k 143 7378 799 (lvL s b i) [] (lay D' J')) : LW p l e s m below meth c b D k 143 7378 717 (lvL s b i) [] (lay D1 J1) := by
  have hL2 : L < 2 ^ 31 := by omega
  refine lx_aload C dL_law_717 rfl (List.mem_of_getElem? (i := 2) rfl) ?_
  refine lx_call C (As := []) (i := 0) (st := []) dL_law_718 gL_91 rfl sh0 rfl rfl (Nat.le_of_ble_eq_true rfl) (c_tear D1 J1 σ hX ok ) (by decide) (by decide) (by decide) (fun res D2 J2 hp => ?_)
  obtain ⟨rfl, hX2, hKX⟩ := hp
  have hM2 := hM.kx hKX.1
  refine lx_aload C (st := [.int (f_tear σ ).1]) dL_law_721 rfl (List.mem_of_getElem? (i := 1) rfl) ?_
  refine lx_call C (As := []) (i := 124) (st := [.int (f_tear σ ).1]) dL_law_722 gL_95 rfl sh124 rfl rfl (Nat.le_of_ble_eq_true rfl) (m_tear D2 J2 σ hM2 ok ) (by decide) (by decide) (by decide) (fun res D3 J3 hp => ?_)
  obtain ⟨rfl, hM3, hKM⟩ := hp
  exact lx_icmp_eq C (x := (f_tear σ ).1) (st := []) 799 dL_law_725 (by decide) (next ((f_tear σ ).2) D3 J3 (hX2.km hKM.1) hM3 (ok_tear ok ))
set_option maxHeartbeats 4000000 in
set_option maxRecDepth 100000 in
theorem q_seed (C : lw_At p s m meth c b L xs) (hL : L ≤ 2560) (D1 : Nat → Nat → Int32) (J1 : Nat → Nat → Int64) (σ : Sg) (i : Nat) (hi : i + 5 ≤ L) (hX : XR D1 σ) (hM : MR D1 σ) (ok : SgOk σ) (next : ∀ (σ' : Sg) (D' : Nat → Nat → Int32) (J' : Nat → Nat → Int64), XR D' σ' → MR D' σ' → SgOk σ' → LW p l e s m below meth c b D k 143 7378 799 (lvL s b i) [] (lay D' J')) : LW p l e s m below meth c b D k 143 7378 730 (lvL s b i) [] (lay D1 J1) := by
  have hL2 : L < 2 ^ 31 := by omega
  refine lx_aload C dL_law_730 rfl (List.mem_of_getElem? (i := 2) rfl) ?_
  refine lx_arg C hL2 (jn := 1) dL_law_731 dL_law_732 dL_law_733 dL_law_734 dL_law_735 (List.mem_of_getElem? (i := 3) rfl) (List.mem_of_getElem? (i := 0) rfl) rfl (by omega) ?_
  refine lx_call C (As := [.int (xs (i + 1))]) (i := 0) (st := []) dL_law_736 gL_96 rfl sh0 rfl rfl (Nat.le_of_ble_eq_true rfl) (c_seed D1 J1 σ hX ok (xs (i + 1))) (by decide) (by decide) (by decide) (fun res D2 J2 hp => ?_)
  obtain ⟨rfl, hX2, hKX⟩ := hp
  have hM2 := hM.kx hKX.1
  refine lx_aload C (st := [.int (f_seed σ (xs (i + 1))).1]) dL_law_739 rfl (List.mem_of_getElem? (i := 1) rfl) ?_
  refine lx_arg C hL2 (jn := 1) dL_law_740 dL_law_741 dL_law_742 dL_law_743 dL_law_744 (List.mem_of_getElem? (i := 3) rfl) (List.mem_of_getElem? (i := 0) rfl) rfl (by omega) ?_
  refine lx_call C (As := [.int (xs (i + 1))]) (i := 124) (st := [.int (f_seed σ (xs (i + 1))).1]) dL_law_745 gL_99 rfl sh124 rfl rfl (Nat.le_of_ble_eq_true rfl) (m_seed D2 J2 σ hM2 ok (xs (i + 1))) (by decide) (by decide) (by decide) (fun res D3 J3 hp => ?_)
  obtain ⟨rfl, hM3, hKM⟩ := hp
  exact lx_icmp_eq C (x := (f_seed σ (xs (i + 1))).1) (st := []) 799 dL_law_748 (by decide) (next ((f_seed σ (xs (i + 1))).2) D3 J3 (hX2.km hKM.1) hM3 (ok_seed ok (xs (i + 1))))
set_option maxHeartbeats 4000000 in
set_option maxRecDepth 100000 in
theorem q_keep (C : lw_At p s m meth c b L xs) (hL : L ≤ 2560) (D1 : Nat → Nat → Int32) (J1 : Nat → Nat → Int64) (σ : Sg) (i : Nat) (hi : i + 5 ≤ L) (hX : XR D1 σ) (hM : MR D1 σ) (ok : SgOk σ) (next : ∀ (σ' : Sg) (D' : Nat → Nat → Int32) (J' : Nat → Nat → Int64), XR D' σ' → MR D' σ' → SgOk σ' → LW p l e s m below meth c b D k 143 7378 799 (lvL s b i) [] (lay D' J')) : LW p l e s m below meth c b D k 143 7378 753 (lvL s b i) [] (lay D1 J1) := by
  have hL2 : L < 2 ^ 31 := by omega
  refine lx_aload C dL_law_753 rfl (List.mem_of_getElem? (i := 2) rfl) ?_
  refine lx_arg C hL2 (jn := 1) dL_law_754 dL_law_755 dL_law_756 dL_law_757 dL_law_758 (List.mem_of_getElem? (i := 3) rfl) (List.mem_of_getElem? (i := 0) rfl) rfl (by omega) ?_
  refine lx_call C (As := [.int (xs (i + 1))]) (i := 0) (st := []) dL_law_759 gL_100 rfl sh0 rfl rfl (Nat.le_of_ble_eq_true rfl) (c_keep D1 J1 σ hX ok (xs (i + 1))) (by decide) (by decide) (by decide) (fun res D2 J2 hp => ?_)
  obtain ⟨rfl, hX2, hKX⟩ := hp
  have hM2 := hM.kx hKX.1
  refine lx_aload C (st := [.int (f_keep σ (xs (i + 1))).1]) dL_law_762 rfl (List.mem_of_getElem? (i := 1) rfl) ?_
  refine lx_arg C hL2 (jn := 1) dL_law_763 dL_law_764 dL_law_765 dL_law_766 dL_law_767 (List.mem_of_getElem? (i := 3) rfl) (List.mem_of_getElem? (i := 0) rfl) rfl (by omega) ?_
  refine lx_call C (As := [.int (xs (i + 1))]) (i := 124) (st := [.int (f_keep σ (xs (i + 1))).1]) dL_law_768 gL_103 rfl sh124 rfl rfl (Nat.le_of_ble_eq_true rfl) (m_keep D2 J2 σ hM2 ok (xs (i + 1))) (by decide) (by decide) (by decide) (fun res D3 J3 hp => ?_)
  obtain ⟨rfl, hM3, hKM⟩ := hp
  exact lx_icmp_eq C (x := (f_keep σ (xs (i + 1))).1) (st := []) 799 dL_law_771 (by decide) (next ((f_keep σ (xs (i + 1))).2) D3 J3 (hX2.km hKM.1) hM3 (ok_keep ok (xs (i + 1))))
set_option maxHeartbeats 4000000 in
set_option maxRecDepth 100000 in
theorem q_goBack (C : lw_At p s m meth c b L xs) (hL : L ≤ 2560) (D1 : Nat → Nat → Int32) (J1 : Nat → Nat → Int64) (σ : Sg) (i : Nat) (hi : i + 5 ≤ L) (hX : XR D1 σ) (hM : MR D1 σ) (ok : SgOk σ) (next : ∀ (σ' : Sg) (D' : Nat → Nat → Int32) (J' : Nat → Nat → Int64), XR D' σ' → MR D' σ' → SgOk σ' → LW p l e s m below meth c b D k 143 7378 799 (lvL s b i) [] (lay D' J')) : LW p l e s m below meth c b D k 143 7378 776 (lvL s b i) [] (lay D1 J1) := by
  have hL2 : L < 2 ^ 31 := by omega
  refine lx_aload C dL_law_776 rfl (List.mem_of_getElem? (i := 2) rfl) ?_
  refine lx_arg C hL2 (jn := 1) dL_law_777 dL_law_778 dL_law_779 dL_law_780 dL_law_781 (List.mem_of_getElem? (i := 3) rfl) (List.mem_of_getElem? (i := 0) rfl) rfl (by omega) ?_
  refine lx_call C (As := [.int (xs (i + 1))]) (i := 0) (st := []) dL_law_782 gL_104 rfl sh0 rfl rfl (Nat.le_of_ble_eq_true rfl) (c_goBack D1 J1 σ hX ok (xs (i + 1))) (by decide) (by decide) (by decide) (fun res D2 J2 hp => ?_)
  obtain ⟨rfl, hX2, hKX⟩ := hp
  have hM2 := hM.kx hKX.1
  refine lx_aload C (st := [.int (f_goBack σ (xs (i + 1))).1]) dL_law_785 rfl (List.mem_of_getElem? (i := 1) rfl) ?_
  refine lx_arg C hL2 (jn := 1) dL_law_786 dL_law_787 dL_law_788 dL_law_789 dL_law_790 (List.mem_of_getElem? (i := 3) rfl) (List.mem_of_getElem? (i := 0) rfl) rfl (by omega) ?_
  refine lx_call C (As := [.int (xs (i + 1))]) (i := 124) (st := [.int (f_goBack σ (xs (i + 1))).1]) dL_law_791 gL_107 rfl sh124 rfl rfl (Nat.le_of_ble_eq_true rfl) (m_goBack D2 J2 σ hM2 ok (xs (i + 1))) (by decide) (by decide) (by decide) (fun res D3 J3 hp => ?_)
  obtain ⟨rfl, hM3, hKM⟩ := hp
  exact lx_icmp_eq C (x := (f_goBack σ (xs (i + 1))).1) (st := []) 799 dL_law_794 (by decide) (next ((f_goBack σ (xs (i + 1))).2) D3 J3 (hX2.km hKM.1) hM3 (ok_goBack ok (xs (i + 1))))
end
