def Sc (s : State) (A : Nat → Prop) (b L : Nat) (xs : Nat → Int32) : Prop := va_X b L xs s s.heap ∧ b < s.heap.size ∧ ¬ A b ∧ L ≤ 384
abbrev lvL (ad : Nat → Nat) (b i : Nat) : List (Nat × Value) := [(3, .int (nI i)), (2, .ref (ad 38)), (1, .ref (ad 0)), (0, .ref b)]
section LANES
variable {p : Program} {l : Launch} {e : Env} {s : State} {m : MethodId} {args : Array Value} {below : List Frame} {meth : Method} {c : Code} {cells slots : Nat} {Q : State → Prop} {D : va_G} {cs : Nat → ClassId} {A : Nat → Prop} {ad : Nat → Nat} {σ : vSg} {τ : vTa} {b L i : Nat} {xs : Nat → Int32} {nd ns nr : Nat} {pc : Nat} {rest : List Value}
theorem go_sarg (X : Cx p m c cL_law 4 s args wsL_law RL D cs A ad 58) (S : Sc s A b L xs) {k : Int} {kn : Nat} (d0 : decode cL_law pc = .ok (.aload_n 0, 1)) (d1 : decode cL_law (pc + 1) = .ok (.iload_n 3, 1)) (d2 : decode cL_law (pc + 1 + 1) = .ok (.iconst k, 1)) (d3 : decode cL_law (pc + 1 + 1 + 1) = .ok (.iadd, 1)) (d4 : decode cL_law (pc + 1 + 1 + 1 + 1) = .ok (.iaload, 1)) (hk : Int32.ofInt k = nI kn) (hi : i + kn < L) (kk : Go p l e room_1 s m args below meth c cells slots Q D cs A ad 58 (shP 0) 4 σ τ (pc + 1 + 1 + 1 + 1 + 1) (lvL ad b i) (.int (xs (i + kn)) :: rest)) : Go p l e room_1 s m args below meth c cells slots Q D cs A ad 58 (shP 0) 4 σ τ pc (lvL ad b i) rest := by
  have hL := S.2.2.2
  refine go_aload_n X d0 3 rfl rfl ?_
  refine go_iload_n X d1 0 rfl rfl ?_
  refine go_iconst X (v := nI kn) d2 hk ?_
  refine go_iadd X d3 ?_
  refine go_topi (v := nI (i + kn)) (nI_add i kn) ?_
  intro H locs ls hP hS hl
  refine va_sld X.1.1 X.1.2.1 S.1 S.2.1 S.2.2.1 hS (i := nI (i + kn)) (vp_in_nI hi (by omega)) d4 ?_
  rw [nI_clamp (by omega)]
  exact kk H locs ls hP hS hl
set_option maxHeartbeats 4000000 in
set_option maxRecDepth 100000 in
theorem ln_kingdom (X : Cx p m c cL_law 4 s args wsL_law RL D cs A ad 58) (S : Sc s A b L xs) (hi : i + 6 ≤ L) (hc : cells + 1 ≤ 600000 ∧ slots + 5 ≤ 7302250) (h : Rl σ σ nd ns nr) (kk : ∀ (σ' : vSg) (τ' : vTa), (∃ nd ns nr, Rl σ' σ' nd ns nr) → Go p l e room_1 s m args below meth c (cells + 1) (slots + 5) Q D cs A ad 58 (shP 0) 4 σ' τ' 1143 (lvL ad b i) []) : Go p l e room_1 s m args below meth c cells slots Q D cs A ad 58 (shP 0) 4 σ τ 160 (lvL ad b i) [] := by
  refine go_aload_n X dL_law_160 2 rfl rfl ?_
  refine go_sarg X S (kn := 1) dL_law_161 dL_law_162 dL_law_163 dL_law_164 dL_law_165 (by decide) (by omega) ?_
  refine go_sarg X S (kn := 2) dL_law_166 dL_law_167 dL_law_168 dL_law_169 dL_law_170 (by decide) (by omega) ?_
  refine go_sarg X S (kn := 3) dL_law_171 dL_law_172 dL_law_173 dL_law_174 dL_law_175 (by decide) (by omega) ?_
  refine go_sarg X S (kn := 4) dL_law_176 dL_law_177 dL_law_178 dL_law_179 dL_law_180 (by decide) (by omega) ?_
  refine go_callVI X (n := 0) (As := [.int (xs (i + 1)), .int (xs (i + 2)), .int (xs (i + 3)), .int (xs (i + 4))]) (rest := []) (kX6_kingdom l D cs ad 0 σ τ (xs (i + 1)) (xs (i + 2)) (xs (i + 3)) (xs (i + 4)) nd ns nr h.1) gL_law_X6_kingdom rfl hdX6_kingdom ⟨rfl, rfl, Nat.le_of_ble_eq_true rfl, Nat.le_of_ble_eq_true rfl, (by show cells + 1 ≤ 600000; omega), (by show slots + 5 ≤ 7302250; omega)⟩ (by omega) rfl rfl rfl rfl (Nat.le_of_ble_eq_true rfl) dL_law_181 (fun r1 σ1 τ1 h1 => ?_)
  have h2 := o_kingdom h (xs (i + 1)) (xs (i + 2)) (xs (i + 3)) (xs (i + 4)) h1
  refine go_aload_n X dL_law_184 1 rfl rfl ?_
  refine go_sarg X S (kn := 1) dL_law_185 dL_law_186 dL_law_187 dL_law_188 dL_law_189 (by decide) (by omega) ?_
  refine go_sarg X S (kn := 2) dL_law_190 dL_law_191 dL_law_192 dL_law_193 dL_law_194 (by decide) (by omega) ?_
  refine go_sarg X S (kn := 3) dL_law_195 dL_law_196 dL_law_197 dL_law_198 dL_law_199 (by decide) (by omega) ?_
  refine go_sarg X S (kn := 4) dL_law_200 dL_law_201 dL_law_202 dL_law_203 dL_law_204 (by decide) (by omega) ?_
  refine go_callVI X (n := 38) (As := [.int (xs (i + 1)), .int (xs (i + 2)), .int (xs (i + 3)), .int (xs (i + 4))]) (rest := [.int r1]) (kX7_kingdom l D cs ad 58 0 (by omega) σ1 τ1 (xs (i + 1)) (xs (i + 2)) (xs (i + 3)) (xs (i + 4)) nd ns nr h2.2.1) gL_law_X7_kingdom rfl hdX7_kingdom ⟨rfl, rfl, Nat.le_of_ble_eq_true rfl, Nat.le_of_ble_eq_true rfl, (by show cells + 1 + 0 ≤ 600000; omega), (by show slots + 5 + 0 ≤ 7302250; omega)⟩ (by omega) rfl rfl rfl rfl (Nat.le_of_ble_eq_true rfl) dL_law_205 (fun r2 σ2 τ2 h3 => ?_)
  obtain ⟨hr9, hR⟩ := p_kingdom h2 (xs (i + 1)) (xs (i + 2)) (xs (i + 3)) (xs (i + 4)) h1 h3
  refine go_icmp_eq X (tgt := 1143) dL_law_208 rfl (fun _ => ?_) (fun h9 => absurd hr9 h9)
  exact go_widen (by omega) (by omega) (kk _ _ hR)
set_option maxHeartbeats 4000000 in
set_option maxRecDepth 100000 in
theorem ln_ofDeed (X : Cx p m c cL_law 4 s args wsL_law RL D cs A ad 58) (S : Sc s A b L xs) (hi : i + 6 ≤ L) (hc : cells + 1 ≤ 600000 ∧ slots + 5 ≤ 7302250) (h : Rl σ σ nd ns nr) (kk : ∀ (σ' : vSg) (τ' : vTa), (∃ nd ns nr, Rl σ' σ' nd ns nr) → Go p l e room_1 s m args below meth c (cells + 1) (slots + 5) Q D cs A ad 58 (shP 0) 4 σ' τ' 1143 (lvL ad b i) []) : Go p l e room_1 s m args below meth c cells slots Q D cs A ad 58 (shP 0) 4 σ τ 213 (lvL ad b i) [] := by
  refine go_aload_n X dL_law_213 2 rfl rfl ?_
  refine go_sarg X S (kn := 1) dL_law_214 dL_law_215 dL_law_216 dL_law_217 dL_law_218 (by decide) (by omega) ?_
  refine go_sarg X S (kn := 2) dL_law_219 dL_law_220 dL_law_221 dL_law_222 dL_law_223 (by decide) (by omega) ?_
  refine go_callVI X (n := 0) (As := [.int (xs (i + 1)), .int (xs (i + 2))]) (rest := []) (kX6_ofDeed l D cs ad 58 0 (by omega) σ τ (xs (i + 1)) (xs (i + 2)) nd ns nr h.1) gL_law_X6_ofDeed rfl hdX6_ofDeed ⟨rfl, rfl, Nat.le_of_ble_eq_true rfl, Nat.le_of_ble_eq_true rfl, (by show cells + 0 ≤ 600000; omega), (by show slots + 0 ≤ 7302250; omega)⟩ (by omega) rfl rfl rfl rfl (Nat.le_of_ble_eq_true rfl) dL_law_224 (fun r1 σ1 τ1 h1 => ?_)
  have h2 := o_ofDeed h (xs (i + 1)) (xs (i + 2)) h1
  refine go_aload_n X dL_law_227 1 rfl rfl ?_
  refine go_sarg X S (kn := 1) dL_law_228 dL_law_229 dL_law_230 dL_law_231 dL_law_232 (by decide) (by omega) ?_
  refine go_sarg X S (kn := 2) dL_law_233 dL_law_234 dL_law_235 dL_law_236 dL_law_237 (by decide) (by omega) ?_
  refine go_callVI X (n := 38) (As := [.int (xs (i + 1)), .int (xs (i + 2))]) (rest := [.int r1]) (kX7_ofDeed l D cs ad 58 0 (by omega) σ1 τ1 (xs (i + 1)) (xs (i + 2)) nd ns nr h2.2.1) gL_law_X7_ofDeed rfl hdX7_ofDeed ⟨rfl, rfl, Nat.le_of_ble_eq_true rfl, Nat.le_of_ble_eq_true rfl, (by show cells + 0 + 0 ≤ 600000; omega), (by show slots + 0 + 0 ≤ 7302250; omega)⟩ (by omega) rfl rfl rfl rfl (Nat.le_of_ble_eq_true rfl) dL_law_238 (fun r2 σ2 τ2 h3 => ?_)
  obtain ⟨hr9, hR⟩ := p_ofDeed h2 (xs (i + 1)) (xs (i + 2)) h1 h3
  refine go_icmp_eq X (tgt := 1143) dL_law_241 rfl (fun _ => ?_) (fun h9 => absurd hr9 h9)
  exact go_widen (by omega) (by omega) (kk _ _ hR)
set_option maxHeartbeats 4000000 in
set_option maxRecDepth 100000 in
theorem ln_ofSubject (X : Cx p m c cL_law 4 s args wsL_law RL D cs A ad 58) (S : Sc s A b L xs) (hi : i + 6 ≤ L) (hc : cells + 1 ≤ 600000 ∧ slots + 5 ≤ 7302250) (h : Rl σ σ nd ns nr) (kk : ∀ (σ' : vSg) (τ' : vTa), (∃ nd ns nr, Rl σ' σ' nd ns nr) → Go p l e room_1 s m args below meth c (cells + 1) (slots + 5) Q D cs A ad 58 (shP 0) 4 σ' τ' 1143 (lvL ad b i) []) : Go p l e room_1 s m args below meth c cells slots Q D cs A ad 58 (shP 0) 4 σ τ 246 (lvL ad b i) [] := by
  refine go_aload_n X dL_law_246 2 rfl rfl ?_
  refine go_sarg X S (kn := 1) dL_law_247 dL_law_248 dL_law_249 dL_law_250 dL_law_251 (by decide) (by omega) ?_
  refine go_sarg X S (kn := 2) dL_law_252 dL_law_253 dL_law_254 dL_law_255 dL_law_256 (by decide) (by omega) ?_
  refine go_callVI X (n := 0) (As := [.int (xs (i + 1)), .int (xs (i + 2))]) (rest := []) (kX6_ofSubject l D cs ad 58 0 (by omega) σ τ (xs (i + 1)) (xs (i + 2)) nd ns nr h.1) gL_law_X6_ofSubject rfl hdX6_ofSubject ⟨rfl, rfl, Nat.le_of_ble_eq_true rfl, Nat.le_of_ble_eq_true rfl, (by show cells + 0 ≤ 600000; omega), (by show slots + 0 ≤ 7302250; omega)⟩ (by omega) rfl rfl rfl rfl (Nat.le_of_ble_eq_true rfl) dL_law_257 (fun r1 σ1 τ1 h1 => ?_)
  have h2 := o_ofSubject h (xs (i + 1)) (xs (i + 2)) h1
  refine go_aload_n X dL_law_260 1 rfl rfl ?_
  refine go_sarg X S (kn := 1) dL_law_261 dL_law_262 dL_law_263 dL_law_264 dL_law_265 (by decide) (by omega) ?_
  refine go_sarg X S (kn := 2) dL_law_266 dL_law_267 dL_law_268 dL_law_269 dL_law_270 (by decide) (by omega) ?_
  refine go_callVI X (n := 38) (As := [.int (xs (i + 1)), .int (xs (i + 2))]) (rest := [.int r1]) (kX7_ofSubject l D cs ad 58 0 (by omega) σ1 τ1 (xs (i + 1)) (xs (i + 2)) nd ns nr h2.2.1) gL_law_X7_ofSubject rfl hdX7_ofSubject ⟨rfl, rfl, Nat.le_of_ble_eq_true rfl, Nat.le_of_ble_eq_true rfl, (by show cells + 0 + 0 ≤ 600000; omega), (by show slots + 0 + 0 ≤ 7302250; omega)⟩ (by omega) rfl rfl rfl rfl (Nat.le_of_ble_eq_true rfl) dL_law_271 (fun r2 σ2 τ2 h3 => ?_)
  obtain ⟨hr9, hR⟩ := p_ofSubject h2 (xs (i + 1)) (xs (i + 2)) h1 h3
  refine go_icmp_eq X (tgt := 1143) dL_law_274 rfl (fun _ => ?_) (fun h9 => absurd hr9 h9)
  exact go_widen (by omega) (by omega) (kk _ _ hR)
set_option maxHeartbeats 4000000 in
set_option maxRecDepth 100000 in
theorem ln_fear (X : Cx p m c cL_law 4 s args wsL_law RL D cs A ad 58) (S : Sc s A b L xs) (hi : i + 6 ≤ L) (hc : cells + 1 ≤ 600000 ∧ slots + 5 ≤ 7302250) (h : Rl σ σ nd ns nr) (kk : ∀ (σ' : vSg) (τ' : vTa), (∃ nd ns nr, Rl σ' σ' nd ns nr) → Go p l e room_1 s m args below meth c (cells + 1) (slots + 5) Q D cs A ad 58 (shP 0) 4 σ' τ' 1143 (lvL ad b i) []) : Go p l e room_1 s m args below meth c cells slots Q D cs A ad 58 (shP 0) 4 σ τ 279 (lvL ad b i) [] := by
  refine go_aload_n X dL_law_279 2 rfl rfl ?_
  refine go_sarg X S (kn := 1) dL_law_280 dL_law_281 dL_law_282 dL_law_283 dL_law_284 (by decide) (by omega) ?_
  refine go_sarg X S (kn := 2) dL_law_285 dL_law_286 dL_law_287 dL_law_288 dL_law_289 (by decide) (by omega) ?_
  refine go_callVI X (n := 0) (As := [.int (xs (i + 1)), .int (xs (i + 2))]) (rest := []) (kX6_fear l D cs ad 58 0 (by omega) σ τ (xs (i + 1)) (xs (i + 2)) nd ns nr h.1) gL_law_X6_fear rfl hdX6_fear ⟨rfl, rfl, Nat.le_of_ble_eq_true rfl, Nat.le_of_ble_eq_true rfl, (by show cells + 0 ≤ 600000; omega), (by show slots + 0 ≤ 7302250; omega)⟩ (by omega) rfl rfl rfl rfl (Nat.le_of_ble_eq_true rfl) dL_law_290 (fun r1 σ1 τ1 h1 => ?_)
  have h2 := o_fear h (xs (i + 1)) (xs (i + 2)) h1
  refine go_aload_n X dL_law_293 1 rfl rfl ?_
  refine go_sarg X S (kn := 1) dL_law_294 dL_law_295 dL_law_296 dL_law_297 dL_law_298 (by decide) (by omega) ?_
  refine go_sarg X S (kn := 2) dL_law_299 dL_law_300 dL_law_301 dL_law_302 dL_law_303 (by decide) (by omega) ?_
  refine go_callVI X (n := 38) (As := [.int (xs (i + 1)), .int (xs (i + 2))]) (rest := [.int r1]) (kX7_fear l D cs ad 58 0 (by omega) σ1 τ1 (xs (i + 1)) (xs (i + 2)) nd ns nr h2.2.1) gL_law_X7_fear rfl hdX7_fear ⟨rfl, rfl, Nat.le_of_ble_eq_true rfl, Nat.le_of_ble_eq_true rfl, (by show cells + 0 + 0 ≤ 600000; omega), (by show slots + 0 + 0 ≤ 7302250; omega)⟩ (by omega) rfl rfl rfl rfl (Nat.le_of_ble_eq_true rfl) dL_law_304 (fun r2 σ2 τ2 h3 => ?_)
  obtain ⟨hr9, hR⟩ := p_fear h2 (xs (i + 1)) (xs (i + 2)) h1 h3
  refine go_icmp_eq X (tgt := 1143) dL_law_307 rfl (fun _ => ?_) (fun h9 => absurd hr9 h9)
  exact go_widen (by omega) (by omega) (kk _ _ hR)
set_option maxHeartbeats 4000000 in
set_option maxRecDepth 100000 in
theorem ln_alter (X : Cx p m c cL_law 4 s args wsL_law RL D cs A ad 58) (S : Sc s A b L xs) (hi : i + 6 ≤ L) (hc : cells + 1 ≤ 600000 ∧ slots + 5 ≤ 7302250) (h : Rl σ σ nd ns nr) (kk : ∀ (σ' : vSg) (τ' : vTa), (∃ nd ns nr, Rl σ' σ' nd ns nr) → Go p l e room_1 s m args below meth c (cells + 1) (slots + 5) Q D cs A ad 58 (shP 0) 4 σ' τ' 1143 (lvL ad b i) []) : Go p l e room_1 s m args below meth c cells slots Q D cs A ad 58 (shP 0) 4 σ τ 312 (lvL ad b i) [] := by
  refine go_aload_n X dL_law_312 2 rfl rfl ?_
  refine go_sarg X S (kn := 1) dL_law_313 dL_law_314 dL_law_315 dL_law_316 dL_law_317 (by decide) (by omega) ?_
  refine go_sarg X S (kn := 2) dL_law_318 dL_law_319 dL_law_320 dL_law_321 dL_law_322 (by decide) (by omega) ?_
  refine go_sarg X S (kn := 3) dL_law_323 dL_law_324 dL_law_325 dL_law_326 dL_law_327 (by decide) (by omega) ?_
  refine go_callVI X (n := 0) (As := [.int (xs (i + 1)), .int (xs (i + 2)), .int (xs (i + 3))]) (rest := []) (kX6_alter l D cs ad 58 0 (by omega) σ τ (xs (i + 1)) (xs (i + 2)) (xs (i + 3)) nd ns nr h.1) gL_law_X6_alter rfl hdX6_alter ⟨rfl, rfl, Nat.le_of_ble_eq_true rfl, Nat.le_of_ble_eq_true rfl, (by show cells + 0 ≤ 600000; omega), (by show slots + 0 ≤ 7302250; omega)⟩ (by omega) rfl rfl rfl rfl (Nat.le_of_ble_eq_true rfl) dL_law_328 (fun r1 σ1 τ1 h1 => ?_)
  have h2 := o_alter h (xs (i + 1)) (xs (i + 2)) (xs (i + 3)) h1
  refine go_aload_n X dL_law_331 1 rfl rfl ?_
  refine go_sarg X S (kn := 1) dL_law_332 dL_law_333 dL_law_334 dL_law_335 dL_law_336 (by decide) (by omega) ?_
  refine go_sarg X S (kn := 2) dL_law_337 dL_law_338 dL_law_339 dL_law_340 dL_law_341 (by decide) (by omega) ?_
  refine go_sarg X S (kn := 3) dL_law_342 dL_law_343 dL_law_344 dL_law_345 dL_law_346 (by decide) (by omega) ?_
  refine go_callVI X (n := 38) (As := [.int (xs (i + 1)), .int (xs (i + 2)), .int (xs (i + 3))]) (rest := [.int r1]) (kX7_alter l D cs ad 58 0 (by omega) σ1 τ1 (xs (i + 1)) (xs (i + 2)) (xs (i + 3)) nd ns nr h2.2.1) gL_law_X7_alter rfl hdX7_alter ⟨rfl, rfl, Nat.le_of_ble_eq_true rfl, Nat.le_of_ble_eq_true rfl, (by show cells + 0 + 0 ≤ 600000; omega), (by show slots + 0 + 0 ≤ 7302250; omega)⟩ (by omega) rfl rfl rfl rfl (Nat.le_of_ble_eq_true rfl) dL_law_347 (fun r2 σ2 τ2 h3 => ?_)
  obtain ⟨hr9, hR⟩ := p_alter h2 (xs (i + 1)) (xs (i + 2)) (xs (i + 3)) h1 h3
  refine go_icmp_eq X (tgt := 1143) dL_law_350 rfl (fun _ => ?_) (fun h9 => absurd hr9 h9)
  exact go_widen (by omega) (by omega) (kk _ _ hR)
set_option maxHeartbeats 4000000 in
set_option maxRecDepth 100000 in
theorem ln_grant (X : Cx p m c cL_law 4 s args wsL_law RL D cs A ad 58) (S : Sc s A b L xs) (hi : i + 6 ≤ L) (hc : cells + 1 ≤ 600000 ∧ slots + 5 ≤ 7302250) (h : Rl σ σ nd ns nr) (kk : ∀ (σ' : vSg) (τ' : vTa), (∃ nd ns nr, Rl σ' σ' nd ns nr) → Go p l e room_1 s m args below meth c (cells + 1) (slots + 5) Q D cs A ad 58 (shP 0) 4 σ' τ' 1143 (lvL ad b i) []) : Go p l e room_1 s m args below meth c cells slots Q D cs A ad 58 (shP 0) 4 σ τ 355 (lvL ad b i) [] := by
  refine go_aload_n X dL_law_355 2 rfl rfl ?_
  refine go_sarg X S (kn := 1) dL_law_356 dL_law_357 dL_law_358 dL_law_359 dL_law_360 (by decide) (by omega) ?_
  refine go_sarg X S (kn := 2) dL_law_361 dL_law_362 dL_law_363 dL_law_364 dL_law_365 (by decide) (by omega) ?_
  refine go_callVI X (n := 0) (As := [.int (xs (i + 1)), .int (xs (i + 2))]) (rest := []) (kX6_grant l D cs ad 58 0 (by omega) σ τ (xs (i + 1)) (xs (i + 2)) nd ns nr h.1) gL_law_X6_grant rfl hdX6_grant ⟨rfl, rfl, Nat.le_of_ble_eq_true rfl, Nat.le_of_ble_eq_true rfl, (by show cells + 0 ≤ 600000; omega), (by show slots + 0 ≤ 7302250; omega)⟩ (by omega) rfl rfl rfl rfl (Nat.le_of_ble_eq_true rfl) dL_law_366 (fun r1 σ1 τ1 h1 => ?_)
  have h2 := o_grant h (xs (i + 1)) (xs (i + 2)) h1
  refine go_aload_n X dL_law_369 1 rfl rfl ?_
  refine go_sarg X S (kn := 1) dL_law_370 dL_law_371 dL_law_372 dL_law_373 dL_law_374 (by decide) (by omega) ?_
  refine go_sarg X S (kn := 2) dL_law_375 dL_law_376 dL_law_377 dL_law_378 dL_law_379 (by decide) (by omega) ?_
  refine go_callVI X (n := 38) (As := [.int (xs (i + 1)), .int (xs (i + 2))]) (rest := [.int r1]) (kX7_grant l D cs ad 58 0 (by omega) σ1 τ1 (xs (i + 1)) (xs (i + 2)) nd ns nr h2.2.1) gL_law_X7_grant rfl hdX7_grant ⟨rfl, rfl, Nat.le_of_ble_eq_true rfl, Nat.le_of_ble_eq_true rfl, (by show cells + 0 + 0 ≤ 600000; omega), (by show slots + 0 + 0 ≤ 7302250; omega)⟩ (by omega) rfl rfl rfl rfl (Nat.le_of_ble_eq_true rfl) dL_law_380 (fun r2 σ2 τ2 h3 => ?_)
  obtain ⟨hr9, hR⟩ := p_grant h2 (xs (i + 1)) (xs (i + 2)) h1 h3
  refine go_icmp_eq X (tgt := 1143) dL_law_383 rfl (fun _ => ?_) (fun h9 => absurd hr9 h9)
  exact go_widen (by omega) (by omega) (kk _ _ hR)
set_option maxHeartbeats 4000000 in
set_option maxRecDepth 100000 in
theorem ln_year (X : Cx p m c cL_law 4 s args wsL_law RL D cs A ad 58) (S : Sc s A b L xs) (hi : i + 6 ≤ L) (hc : cells + 1 ≤ 600000 ∧ slots + 5 ≤ 7302250) (h : Rl σ σ nd ns nr) (kk : ∀ (σ' : vSg) (τ' : vTa), (∃ nd ns nr, Rl σ' σ' nd ns nr) → Go p l e room_1 s m args below meth c (cells + 1) (slots + 5) Q D cs A ad 58 (shP 0) 4 σ' τ' 1143 (lvL ad b i) []) : Go p l e room_1 s m args below meth c cells slots Q D cs A ad 58 (shP 0) 4 σ τ 388 (lvL ad b i) [] := by
  refine go_aload_n X dL_law_388 2 rfl rfl ?_
  refine go_sarg X S (kn := 1) dL_law_389 dL_law_390 dL_law_391 dL_law_392 dL_law_393 (by decide) (by omega) ?_
  refine go_sarg X S (kn := 2) dL_law_394 dL_law_395 dL_law_396 dL_law_397 dL_law_398 (by decide) (by omega) ?_
  refine go_sarg X S (kn := 3) dL_law_399 dL_law_400 dL_law_401 dL_law_402 dL_law_403 (by decide) (by omega) ?_
  refine go_sarg X S (kn := 4) dL_law_404 dL_law_405 dL_law_406 dL_law_407 dL_law_408 (by decide) (by omega) ?_
  refine go_sarg X S (kn := 5) dL_law_409 dL_law_410 dL_law_411 dL_law_412 dL_law_413 (by decide) (by omega) ?_
  refine go_callVI X (n := 0) (As := [.int (xs (i + 1)), .int (xs (i + 2)), .int (xs (i + 3)), .int (xs (i + 4)), .int (xs (i + 5))]) (rest := []) (kX6_year l D cs ad 58 0 (by omega) σ τ (xs (i + 1)) (xs (i + 2)) (xs (i + 3)) (xs (i + 4)) (xs (i + 5)) nd ns nr h.1) gL_law_X6_year rfl hdX6_year ⟨rfl, rfl, Nat.le_of_ble_eq_true rfl, Nat.le_of_ble_eq_true rfl, (by show cells + 0 ≤ 600000; omega), (by show slots + 0 ≤ 7302250; omega)⟩ (by omega) rfl rfl rfl rfl (Nat.le_of_ble_eq_true rfl) dL_law_414 (fun r1 σ1 τ1 h1 => ?_)
  have h2 := o_year h (xs (i + 1)) (xs (i + 2)) (xs (i + 3)) (xs (i + 4)) (xs (i + 5)) h1
  refine go_aload_n X dL_law_417 1 rfl rfl ?_
  refine go_sarg X S (kn := 1) dL_law_418 dL_law_419 dL_law_420 dL_law_421 dL_law_422 (by decide) (by omega) ?_
  refine go_sarg X S (kn := 2) dL_law_423 dL_law_424 dL_law_425 dL_law_426 dL_law_427 (by decide) (by omega) ?_
  refine go_sarg X S (kn := 3) dL_law_428 dL_law_429 dL_law_430 dL_law_431 dL_law_432 (by decide) (by omega) ?_
  refine go_sarg X S (kn := 4) dL_law_433 dL_law_434 dL_law_435 dL_law_436 dL_law_437 (by decide) (by omega) ?_
  refine go_sarg X S (kn := 5) dL_law_438 dL_law_439 dL_law_440 dL_law_441 dL_law_442 (by decide) (by omega) ?_
  refine go_callVI X (n := 38) (As := [.int (xs (i + 1)), .int (xs (i + 2)), .int (xs (i + 3)), .int (xs (i + 4)), .int (xs (i + 5))]) (rest := [.int r1]) (kX7_year l D cs ad 58 0 (by omega) σ1 τ1 (xs (i + 1)) (xs (i + 2)) (xs (i + 3)) (xs (i + 4)) (xs (i + 5)) nd ns nr h2.2.1) gL_law_X7_year rfl hdX7_year ⟨rfl, rfl, Nat.le_of_ble_eq_true rfl, Nat.le_of_ble_eq_true rfl, (by show cells + 0 + 0 ≤ 600000; omega), (by show slots + 0 + 0 ≤ 7302250; omega)⟩ (by omega) rfl rfl rfl rfl (Nat.le_of_ble_eq_true rfl) dL_law_443 (fun r2 σ2 τ2 h3 => ?_)
  obtain ⟨hr9, hR⟩ := p_year h2 (xs (i + 1)) (xs (i + 2)) (xs (i + 3)) (xs (i + 4)) (xs (i + 5)) h1 h3
  refine go_icmp_eq X (tgt := 1143) dL_law_446 rfl (fun _ => ?_) (fun h9 => absurd hr9 h9)
  exact go_widen (by omega) (by omega) (kk _ _ hR)
set_option maxHeartbeats 4000000 in
set_option maxRecDepth 100000 in
theorem ln_hope (X : Cx p m c cL_law 4 s args wsL_law RL D cs A ad 58) (S : Sc s A b L xs) (hi : i + 6 ≤ L) (hc : cells + 1 ≤ 600000 ∧ slots + 5 ≤ 7302250) (h : Rl σ σ nd ns nr) (kk : ∀ (σ' : vSg) (τ' : vTa), (∃ nd ns nr, Rl σ' σ' nd ns nr) → Go p l e room_1 s m args below meth c (cells + 1) (slots + 5) Q D cs A ad 58 (shP 0) 4 σ' τ' 1143 (lvL ad b i) []) : Go p l e room_1 s m args below meth c cells slots Q D cs A ad 58 (shP 0) 4 σ τ 451 (lvL ad b i) [] := by
  refine go_aload_n X dL_law_451 2 rfl rfl ?_
  refine go_sarg X S (kn := 1) dL_law_452 dL_law_453 dL_law_454 dL_law_455 dL_law_456 (by decide) (by omega) ?_
  refine go_sarg X S (kn := 2) dL_law_457 dL_law_458 dL_law_459 dL_law_460 dL_law_461 (by decide) (by omega) ?_
  refine go_sarg X S (kn := 3) dL_law_462 dL_law_463 dL_law_464 dL_law_465 dL_law_466 (by decide) (by omega) ?_
  refine go_sarg X S (kn := 4) dL_law_467 dL_law_468 dL_law_469 dL_law_470 dL_law_471 (by decide) (by omega) ?_
  refine go_callVL X (n := 0) (As := [.int (xs (i + 1)), .int (xs (i + 2)), .int (xs (i + 3)), .int (xs (i + 4))]) (rest := []) (kX6_hope l D cs ad 58 0 (by omega) σ τ (xs (i + 1)) (xs (i + 2)) (xs (i + 3)) (xs (i + 4)) nd ns nr h.1) gL_law_X6_hope rfl hdX6_hope ⟨rfl, rfl, Nat.le_of_ble_eq_true rfl, Nat.le_of_ble_eq_true rfl, (by show cells + 0 ≤ 600000; omega), (by show slots + 0 ≤ 7302250; omega)⟩ (by omega) rfl rfl rfl rfl (Nat.le_of_ble_eq_true rfl) dL_law_472 (fun r1 σ1 τ1 h1 => ?_)
  have h2 := o_hope h (xs (i + 1)) (xs (i + 2)) (xs (i + 3)) (xs (i + 4)) h1
  refine go_aload_n X dL_law_475 1 rfl rfl ?_
  refine go_sarg X S (kn := 1) dL_law_476 dL_law_477 dL_law_478 dL_law_479 dL_law_480 (by decide) (by omega) ?_
  refine go_sarg X S (kn := 2) dL_law_481 dL_law_482 dL_law_483 dL_law_484 dL_law_485 (by decide) (by omega) ?_
  refine go_sarg X S (kn := 3) dL_law_486 dL_law_487 dL_law_488 dL_law_489 dL_law_490 (by decide) (by omega) ?_
  refine go_sarg X S (kn := 4) dL_law_491 dL_law_492 dL_law_493 dL_law_494 dL_law_495 (by decide) (by omega) ?_
  refine go_callVL X (n := 38) (As := [.int (xs (i + 1)), .int (xs (i + 2)), .int (xs (i + 3)), .int (xs (i + 4))]) (rest := [.long r1]) (kX7_hope l D cs ad 58 0 (by omega) σ1 τ1 (xs (i + 1)) (xs (i + 2)) (xs (i + 3)) (xs (i + 4)) nd ns nr h2.2.1) gL_law_X7_hope rfl hdX7_hope ⟨rfl, rfl, Nat.le_of_ble_eq_true rfl, Nat.le_of_ble_eq_true rfl, (by show cells + 0 + 0 ≤ 600000; omega), (by show slots + 0 + 0 ≤ 7302250; omega)⟩ (by omega) rfl rfl rfl rfl (Nat.le_of_ble_eq_true rfl) dL_law_496 (fun r2 σ2 τ2 h3 => ?_)
  obtain ⟨hr9, hR⟩ := p_hope h2 (xs (i + 1)) (xs (i + 2)) (xs (i + 3)) (xs (i + 4)) h1 h3
  refine go_lcmp X dL_law_499 ?_
  refine go_lcmp_eq X (tgt := 1143) dL_law_500 rfl (fun _ => ?_) (fun h9 => absurd hr9 h9)
  exact go_widen (by omega) (by omega) (kk _ _ hR)
set_option maxHeartbeats 4000000 in
set_option maxRecDepth 100000 in
theorem ln_uses (X : Cx p m c cL_law 4 s args wsL_law RL D cs A ad 58) (S : Sc s A b L xs) (hi : i + 6 ≤ L) (hc : cells + 1 ≤ 600000 ∧ slots + 5 ≤ 7302250) (h : Rl σ σ nd ns nr) (kk : ∀ (σ' : vSg) (τ' : vTa), (∃ nd ns nr, Rl σ' σ' nd ns nr) → Go p l e room_1 s m args below meth c (cells + 1) (slots + 5) Q D cs A ad 58 (shP 0) 4 σ' τ' 1143 (lvL ad b i) []) : Go p l e room_1 s m args below meth c cells slots Q D cs A ad 58 (shP 0) 4 σ τ 505 (lvL ad b i) [] := by
  refine go_aload_n X dL_law_505 2 rfl rfl ?_
  refine go_sarg X S (kn := 1) dL_law_506 dL_law_507 dL_law_508 dL_law_509 dL_law_510 (by decide) (by omega) ?_
  refine go_sarg X S (kn := 2) dL_law_511 dL_law_512 dL_law_513 dL_law_514 dL_law_515 (by decide) (by omega) ?_
  refine go_sarg X S (kn := 3) dL_law_516 dL_law_517 dL_law_518 dL_law_519 dL_law_520 (by decide) (by omega) ?_
  refine go_callVI X (n := 0) (As := [.int (xs (i + 1)), .int (xs (i + 2)), .int (xs (i + 3))]) (rest := []) (kX6_uses l D cs ad 58 0 (by omega) σ τ (xs (i + 1)) (xs (i + 2)) (xs (i + 3)) nd ns nr h.1) gL_law_X6_uses rfl hdX6_uses ⟨rfl, rfl, Nat.le_of_ble_eq_true rfl, Nat.le_of_ble_eq_true rfl, (by show cells + 0 ≤ 600000; omega), (by show slots + 0 ≤ 7302250; omega)⟩ (by omega) rfl rfl rfl rfl (Nat.le_of_ble_eq_true rfl) dL_law_521 (fun r1 σ1 τ1 h1 => ?_)
  have h2 := o_uses h (xs (i + 1)) (xs (i + 2)) (xs (i + 3)) h1
  refine go_aload_n X dL_law_524 1 rfl rfl ?_
  refine go_sarg X S (kn := 1) dL_law_525 dL_law_526 dL_law_527 dL_law_528 dL_law_529 (by decide) (by omega) ?_
  refine go_sarg X S (kn := 2) dL_law_530 dL_law_531 dL_law_532 dL_law_533 dL_law_534 (by decide) (by omega) ?_
  refine go_sarg X S (kn := 3) dL_law_535 dL_law_536 dL_law_537 dL_law_538 dL_law_539 (by decide) (by omega) ?_
  refine go_callVI X (n := 38) (As := [.int (xs (i + 1)), .int (xs (i + 2)), .int (xs (i + 3))]) (rest := [.int r1]) (kX7_uses l D cs ad 58 0 (by omega) σ1 τ1 (xs (i + 1)) (xs (i + 2)) (xs (i + 3)) nd ns nr h2.2.1) gL_law_X7_uses rfl hdX7_uses ⟨rfl, rfl, Nat.le_of_ble_eq_true rfl, Nat.le_of_ble_eq_true rfl, (by show cells + 0 + 0 ≤ 600000; omega), (by show slots + 0 + 0 ≤ 7302250; omega)⟩ (by omega) rfl rfl rfl rfl (Nat.le_of_ble_eq_true rfl) dL_law_540 (fun r2 σ2 τ2 h3 => ?_)
  obtain ⟨hr9, hR⟩ := p_uses h2 (xs (i + 1)) (xs (i + 2)) (xs (i + 3)) h1 h3
  refine go_icmp_eq X (tgt := 1143) dL_law_543 rfl (fun _ => ?_) (fun h9 => absurd hr9 h9)
  exact go_widen (by omega) (by omega) (kk _ _ hR)
set_option maxHeartbeats 4000000 in
set_option maxRecDepth 100000 in
theorem ln_buyers (X : Cx p m c cL_law 4 s args wsL_law RL D cs A ad 58) (S : Sc s A b L xs) (hi : i + 6 ≤ L) (hc : cells + 1 ≤ 600000 ∧ slots + 5 ≤ 7302250) (h : Rl σ σ nd ns nr) (kk : ∀ (σ' : vSg) (τ' : vTa), (∃ nd ns nr, Rl σ' σ' nd ns nr) → Go p l e room_1 s m args below meth c (cells + 1) (slots + 5) Q D cs A ad 58 (shP 0) 4 σ' τ' 1143 (lvL ad b i) []) : Go p l e room_1 s m args below meth c cells slots Q D cs A ad 58 (shP 0) 4 σ τ 548 (lvL ad b i) [] := by
  refine go_aload_n X dL_law_548 2 rfl rfl ?_
  refine go_sarg X S (kn := 1) dL_law_549 dL_law_550 dL_law_551 dL_law_552 dL_law_553 (by decide) (by omega) ?_
  refine go_sarg X S (kn := 2) dL_law_554 dL_law_555 dL_law_556 dL_law_557 dL_law_558 (by decide) (by omega) ?_
  refine go_callVI X (n := 0) (As := [.int (xs (i + 1)), .int (xs (i + 2))]) (rest := []) (kX6_buyers l D cs ad 58 0 (by omega) σ τ (xs (i + 1)) (xs (i + 2)) nd ns nr h.1) gL_law_X6_buyers rfl hdX6_buyers ⟨rfl, rfl, Nat.le_of_ble_eq_true rfl, Nat.le_of_ble_eq_true rfl, (by show cells + 0 ≤ 600000; omega), (by show slots + 0 ≤ 7302250; omega)⟩ (by omega) rfl rfl rfl rfl (Nat.le_of_ble_eq_true rfl) dL_law_559 (fun r1 σ1 τ1 h1 => ?_)
  have h2 := o_buyers h (xs (i + 1)) (xs (i + 2)) h1
  refine go_aload_n X dL_law_562 1 rfl rfl ?_
  refine go_sarg X S (kn := 1) dL_law_563 dL_law_564 dL_law_565 dL_law_566 dL_law_567 (by decide) (by omega) ?_
  refine go_sarg X S (kn := 2) dL_law_568 dL_law_569 dL_law_570 dL_law_571 dL_law_572 (by decide) (by omega) ?_
  refine go_callVI X (n := 38) (As := [.int (xs (i + 1)), .int (xs (i + 2))]) (rest := [.int r1]) (kX7_buyers l D cs ad 58 0 (by omega) σ1 τ1 (xs (i + 1)) (xs (i + 2)) nd ns nr h2.2.1) gL_law_X7_buyers rfl hdX7_buyers ⟨rfl, rfl, Nat.le_of_ble_eq_true rfl, Nat.le_of_ble_eq_true rfl, (by show cells + 0 + 0 ≤ 600000; omega), (by show slots + 0 + 0 ≤ 7302250; omega)⟩ (by omega) rfl rfl rfl rfl (Nat.le_of_ble_eq_true rfl) dL_law_573 (fun r2 σ2 τ2 h3 => ?_)
  obtain ⟨hr9, hR⟩ := p_buyers h2 (xs (i + 1)) (xs (i + 2)) h1 h3
  refine go_icmp_eq X (tgt := 1143) dL_law_576 rfl (fun _ => ?_) (fun h9 => absurd hr9 h9)
  exact go_widen (by omega) (by omega) (kk _ _ hR)
set_option maxHeartbeats 4000000 in
set_option maxRecDepth 100000 in
theorem ln_best (X : Cx p m c cL_law 4 s args wsL_law RL D cs A ad 58) (S : Sc s A b L xs) (hi : i + 6 ≤ L) (hc : cells + 1 ≤ 600000 ∧ slots + 5 ≤ 7302250) (h : Rl σ σ nd ns nr) (kk : ∀ (σ' : vSg) (τ' : vTa), (∃ nd ns nr, Rl σ' σ' nd ns nr) → Go p l e room_1 s m args below meth c (cells + 1) (slots + 5) Q D cs A ad 58 (shP 0) 4 σ' τ' 1143 (lvL ad b i) []) : Go p l e room_1 s m args below meth c cells slots Q D cs A ad 58 (shP 0) 4 σ τ 581 (lvL ad b i) [] := by
  refine go_aload_n X dL_law_581 2 rfl rfl ?_
  refine go_sarg X S (kn := 1) dL_law_582 dL_law_583 dL_law_584 dL_law_585 dL_law_586 (by decide) (by omega) ?_
  refine go_callVI X (n := 0) (As := [.int (xs (i + 1))]) (rest := []) (kX6_best l D cs ad 58 0 (by omega) σ τ (xs (i + 1)) nd ns nr h.1) gL_law_X6_best rfl hdX6_best ⟨rfl, rfl, Nat.le_of_ble_eq_true rfl, Nat.le_of_ble_eq_true rfl, (by show cells + 0 ≤ 600000; omega), (by show slots + 0 ≤ 7302250; omega)⟩ (by omega) rfl rfl rfl rfl (Nat.le_of_ble_eq_true rfl) dL_law_587 (fun r1 σ1 τ1 h1 => ?_)
  have h2 := o_best h (xs (i + 1)) h1
  refine go_aload_n X dL_law_590 1 rfl rfl ?_
  refine go_sarg X S (kn := 1) dL_law_591 dL_law_592 dL_law_593 dL_law_594 dL_law_595 (by decide) (by omega) ?_
  refine go_callVI X (n := 38) (As := [.int (xs (i + 1))]) (rest := [.int r1]) (kX7_best l D cs ad 58 0 (by omega) σ1 τ1 (xs (i + 1)) nd ns nr h2.2.1) gL_law_X7_best rfl hdX7_best ⟨rfl, rfl, Nat.le_of_ble_eq_true rfl, Nat.le_of_ble_eq_true rfl, (by show cells + 0 + 0 ≤ 600000; omega), (by show slots + 0 + 0 ≤ 7302250; omega)⟩ (by omega) rfl rfl rfl rfl (Nat.le_of_ble_eq_true rfl) dL_law_596 (fun r2 σ2 τ2 h3 => ?_)
  obtain ⟨hr9, hR⟩ := p_best h2 (xs (i + 1)) h1 h3
  refine go_icmp_eq X (tgt := 1143) dL_law_599 rfl (fun _ => ?_) (fun h9 => absurd hr9 h9)
  exact go_widen (by omega) (by omega) (kk _ _ hR)
set_option maxHeartbeats 4000000 in
set_option maxRecDepth 100000 in
theorem ln_reading (X : Cx p m c cL_law 4 s args wsL_law RL D cs A ad 58) (S : Sc s A b L xs) (hi : i + 6 ≤ L) (hc : cells + 1 ≤ 600000 ∧ slots + 5 ≤ 7302250) (h : Rl σ σ nd ns nr) (kk : ∀ (σ' : vSg) (τ' : vTa), (∃ nd ns nr, Rl σ' σ' nd ns nr) → Go p l e room_1 s m args below meth c (cells + 1) (slots + 5) Q D cs A ad 58 (shP 0) 4 σ' τ' 1143 (lvL ad b i) []) : Go p l e room_1 s m args below meth c cells slots Q D cs A ad 58 (shP 0) 4 σ τ 604 (lvL ad b i) [] := by
  refine go_aload_n X dL_law_604 2 rfl rfl ?_
  refine go_sarg X S (kn := 1) dL_law_605 dL_law_606 dL_law_607 dL_law_608 dL_law_609 (by decide) (by omega) ?_
  refine go_sarg X S (kn := 2) dL_law_610 dL_law_611 dL_law_612 dL_law_613 dL_law_614 (by decide) (by omega) ?_
  refine go_sarg X S (kn := 3) dL_law_615 dL_law_616 dL_law_617 dL_law_618 dL_law_619 (by decide) (by omega) ?_
  refine go_if_eq X (tgt := 627) dL_law_620 rfl (fun c1 => ?_) (fun c1 => ?_)
  · skip
    refine go_iconst X (v := 0) dL_law_627 (by decide) ?_
    refine go_callVI X (n := 0) (As := [.int (xs (i + 1)), .int (xs (i + 2)), .int (0)]) (rest := []) (kX6_reading l D cs ad 58 0 (by omega) σ τ (xs (i + 1)) (xs (i + 2)) (0) nd ns nr h.1 (Or.inl rfl)) gL_law_X6_reading rfl hdX6_reading ⟨rfl, rfl, Nat.le_of_ble_eq_true rfl, Nat.le_of_ble_eq_true rfl, (by show cells + 0 ≤ 600000; omega), (by show slots + 0 ≤ 7302250; omega)⟩ (by omega) rfl rfl rfl rfl (Nat.le_of_ble_eq_true rfl) dL_law_628 (fun r1 σ1 τ1 h1 => ?_)
    have h2 := o_reading h (xs (i + 1)) (xs (i + 2)) (0) h1 (Or.inl rfl)
    refine go_aload_n X dL_law_631 1 rfl rfl ?_
    refine go_sarg X S (kn := 1) dL_law_632 dL_law_633 dL_law_634 dL_law_635 dL_law_636 (by decide) (by omega) ?_
    refine go_sarg X S (kn := 2) dL_law_637 dL_law_638 dL_law_639 dL_law_640 dL_law_641 (by decide) (by omega) ?_
    refine go_sarg X S (kn := 3) dL_law_642 dL_law_643 dL_law_644 dL_law_645 dL_law_646 (by decide) (by omega) ?_
    refine go_if_eq X (tgt := 654) dL_law_647 rfl (fun _ => ?_) (fun c2 => absurd c1 c2)
    refine go_iconst X (v := 0) dL_law_654 (by decide) ?_
    refine go_callVI X (n := 38) (As := [.int (xs (i + 1)), .int (xs (i + 2)), .int (0)]) (rest := [.int r1]) (kX7_reading l D cs ad 58 0 (by omega) σ1 τ1 (xs (i + 1)) (xs (i + 2)) (0) nd ns nr h2.2.1 (Or.inl rfl)) gL_law_X7_reading rfl hdX7_reading ⟨rfl, rfl, Nat.le_of_ble_eq_true rfl, Nat.le_of_ble_eq_true rfl, (by show cells + 0 + 0 ≤ 600000; omega), (by show slots + 0 + 0 ≤ 7302250; omega)⟩ (by omega) rfl rfl rfl rfl (Nat.le_of_ble_eq_true rfl) dL_law_655 (fun r2 σ2 τ2 h3 => ?_)
    obtain ⟨hr9, hR⟩ := p_reading h2 (xs (i + 1)) (xs (i + 2)) (0) h1 h3 (Or.inl rfl)
    refine go_icmp_eq X (tgt := 1143) dL_law_658 rfl (fun _ => ?_) (fun h9 => absurd hr9 h9)
    exact go_widen (by omega) (by omega) (kk _ _ hR)
  · skip
    refine go_iconst X (v := 1) dL_law_623 (by decide) ?_
    refine go_goto X (tgt := 628) dL_law_624 rfl ?_
    refine go_callVI X (n := 0) (As := [.int (xs (i + 1)), .int (xs (i + 2)), .int (1)]) (rest := []) (kX6_reading l D cs ad 58 0 (by omega) σ τ (xs (i + 1)) (xs (i + 2)) (1) nd ns nr h.1 (Or.inr rfl)) gL_law_X6_reading rfl hdX6_reading ⟨rfl, rfl, Nat.le_of_ble_eq_true rfl, Nat.le_of_ble_eq_true rfl, (by show cells + 0 ≤ 600000; omega), (by show slots + 0 ≤ 7302250; omega)⟩ (by omega) rfl rfl rfl rfl (Nat.le_of_ble_eq_true rfl) dL_law_628 (fun r1 σ1 τ1 h1 => ?_)
    have h2 := o_reading h (xs (i + 1)) (xs (i + 2)) (1) h1 (Or.inr rfl)
    refine go_aload_n X dL_law_631 1 rfl rfl ?_
    refine go_sarg X S (kn := 1) dL_law_632 dL_law_633 dL_law_634 dL_law_635 dL_law_636 (by decide) (by omega) ?_
    refine go_sarg X S (kn := 2) dL_law_637 dL_law_638 dL_law_639 dL_law_640 dL_law_641 (by decide) (by omega) ?_
    refine go_sarg X S (kn := 3) dL_law_642 dL_law_643 dL_law_644 dL_law_645 dL_law_646 (by decide) (by omega) ?_
    refine go_if_eq X (tgt := 654) dL_law_647 rfl (fun c2 => absurd c2 c1) (fun _ => ?_)
    refine go_iconst X (v := 1) dL_law_650 (by decide) ?_
    refine go_goto X (tgt := 655) dL_law_651 rfl ?_
    refine go_callVI X (n := 38) (As := [.int (xs (i + 1)), .int (xs (i + 2)), .int (1)]) (rest := [.int r1]) (kX7_reading l D cs ad 58 0 (by omega) σ1 τ1 (xs (i + 1)) (xs (i + 2)) (1) nd ns nr h2.2.1 (Or.inr rfl)) gL_law_X7_reading rfl hdX7_reading ⟨rfl, rfl, Nat.le_of_ble_eq_true rfl, Nat.le_of_ble_eq_true rfl, (by show cells + 0 + 0 ≤ 600000; omega), (by show slots + 0 + 0 ≤ 7302250; omega)⟩ (by omega) rfl rfl rfl rfl (Nat.le_of_ble_eq_true rfl) dL_law_655 (fun r2 σ2 τ2 h3 => ?_)
    obtain ⟨hr9, hR⟩ := p_reading h2 (xs (i + 1)) (xs (i + 2)) (1) h1 h3 (Or.inr rfl)
    refine go_icmp_eq X (tgt := 1143) dL_law_658 rfl (fun _ => ?_) (fun h9 => absurd hr9 h9)
    exact go_widen (by omega) (by omega) (kk _ _ hR)
set_option maxHeartbeats 4000000 in
set_option maxRecDepth 100000 in
theorem ln_back (X : Cx p m c cL_law 4 s args wsL_law RL D cs A ad 58) (S : Sc s A b L xs) (hi : i + 6 ≤ L) (hc : cells + 1 ≤ 600000 ∧ slots + 5 ≤ 7302250) (h : Rl σ σ nd ns nr) (kk : ∀ (σ' : vSg) (τ' : vTa), (∃ nd ns nr, Rl σ' σ' nd ns nr) → Go p l e room_1 s m args below meth c (cells + 1) (slots + 5) Q D cs A ad 58 (shP 0) 4 σ' τ' 1143 (lvL ad b i) []) : Go p l e room_1 s m args below meth c cells slots Q D cs A ad 58 (shP 0) 4 σ τ 663 (lvL ad b i) [] := by
  refine go_aload_n X dL_law_663 2 rfl rfl ?_
  refine go_sarg X S (kn := 1) dL_law_664 dL_law_665 dL_law_666 dL_law_667 dL_law_668 (by decide) (by omega) ?_
  refine go_callVI X (n := 0) (As := [.int (xs (i + 1))]) (rest := []) (kX6_back l D cs ad 58 0 (by omega) σ τ (xs (i + 1)) nd ns nr h.1) gL_law_X6_back rfl hdX6_back ⟨rfl, rfl, Nat.le_of_ble_eq_true rfl, Nat.le_of_ble_eq_true rfl, (by show cells + 0 ≤ 600000; omega), (by show slots + 0 ≤ 7302250; omega)⟩ (by omega) rfl rfl rfl rfl (Nat.le_of_ble_eq_true rfl) dL_law_669 (fun r1 σ1 τ1 h1 => ?_)
  have h2 := o_back h (xs (i + 1)) h1
  refine go_aload_n X dL_law_672 1 rfl rfl ?_
  refine go_sarg X S (kn := 1) dL_law_673 dL_law_674 dL_law_675 dL_law_676 dL_law_677 (by decide) (by omega) ?_
  refine go_callVI X (n := 38) (As := [.int (xs (i + 1))]) (rest := [.int r1]) (kX7_back l D cs ad 58 0 (by omega) σ1 τ1 (xs (i + 1)) nd ns nr h2.2.1) gL_law_X7_back rfl hdX7_back ⟨rfl, rfl, Nat.le_of_ble_eq_true rfl, Nat.le_of_ble_eq_true rfl, (by show cells + 0 + 0 ≤ 600000; omega), (by show slots + 0 + 0 ≤ 7302250; omega)⟩ (by omega) rfl rfl rfl rfl (Nat.le_of_ble_eq_true rfl) dL_law_678 (fun r2 σ2 τ2 h3 => ?_)
  obtain ⟨hr9, hR⟩ := p_back h2 (xs (i + 1)) h1 h3
  refine go_icmp_eq X (tgt := 1143) dL_law_681 rfl (fun _ => ?_) (fun h9 => absurd hr9 h9)
  exact go_widen (by omega) (by omega) (kk _ _ hR)
set_option maxHeartbeats 4000000 in
set_option maxRecDepth 100000 in
theorem ln_risks (X : Cx p m c cL_law 4 s args wsL_law RL D cs A ad 58) (S : Sc s A b L xs) (hi : i + 6 ≤ L) (hc : cells + 1 ≤ 600000 ∧ slots + 5 ≤ 7302250) (h : Rl σ σ nd ns nr) (kk : ∀ (σ' : vSg) (τ' : vTa), (∃ nd ns nr, Rl σ' σ' nd ns nr) → Go p l e room_1 s m args below meth c (cells + 1) (slots + 5) Q D cs A ad 58 (shP 0) 4 σ' τ' 1143 (lvL ad b i) []) : Go p l e room_1 s m args below meth c cells slots Q D cs A ad 58 (shP 0) 4 σ τ 686 (lvL ad b i) [] := by
  refine go_aload_n X dL_law_686 2 rfl rfl ?_
  refine go_sarg X S (kn := 1) dL_law_687 dL_law_688 dL_law_689 dL_law_690 dL_law_691 (by decide) (by omega) ?_
  refine go_callVI X (n := 0) (As := [.int (xs (i + 1))]) (rest := []) (kX6_risks l D cs ad 58 0 (by omega) σ τ (xs (i + 1)) nd ns nr h.1) gL_law_X6_risks rfl hdX6_risks ⟨rfl, rfl, Nat.le_of_ble_eq_true rfl, Nat.le_of_ble_eq_true rfl, (by show cells + 0 ≤ 600000; omega), (by show slots + 0 ≤ 7302250; omega)⟩ (by omega) rfl rfl rfl rfl (Nat.le_of_ble_eq_true rfl) dL_law_692 (fun r1 σ1 τ1 h1 => ?_)
  have h2 := o_risks h (xs (i + 1)) h1
  refine go_aload_n X dL_law_695 1 rfl rfl ?_
  refine go_sarg X S (kn := 1) dL_law_696 dL_law_697 dL_law_698 dL_law_699 dL_law_700 (by decide) (by omega) ?_
  refine go_callVI X (n := 38) (As := [.int (xs (i + 1))]) (rest := [.int r1]) (kX7_risks l D cs ad 58 0 (by omega) σ1 τ1 (xs (i + 1)) nd ns nr h2.2.1) gL_law_X7_risks rfl hdX7_risks ⟨rfl, rfl, Nat.le_of_ble_eq_true rfl, Nat.le_of_ble_eq_true rfl, (by show cells + 0 + 0 ≤ 600000; omega), (by show slots + 0 + 0 ≤ 7302250; omega)⟩ (by omega) rfl rfl rfl rfl (Nat.le_of_ble_eq_true rfl) dL_law_701 (fun r2 σ2 τ2 h3 => ?_)
  obtain ⟨hr9, hR⟩ := p_risks h2 (xs (i + 1)) h1 h3
  refine go_icmp_eq X (tgt := 1143) dL_law_704 rfl (fun _ => ?_) (fun h9 => absurd hr9 h9)
  exact go_widen (by omega) (by omega) (kk _ _ hR)
set_option maxHeartbeats 4000000 in
set_option maxRecDepth 100000 in
theorem ln_hurts (X : Cx p m c cL_law 4 s args wsL_law RL D cs A ad 58) (S : Sc s A b L xs) (hi : i + 6 ≤ L) (hc : cells + 1 ≤ 600000 ∧ slots + 5 ≤ 7302250) (h : Rl σ σ nd ns nr) (kk : ∀ (σ' : vSg) (τ' : vTa), (∃ nd ns nr, Rl σ' σ' nd ns nr) → Go p l e room_1 s m args below meth c (cells + 1) (slots + 5) Q D cs A ad 58 (shP 0) 4 σ' τ' 1143 (lvL ad b i) []) : Go p l e room_1 s m args below meth c cells slots Q D cs A ad 58 (shP 0) 4 σ τ 709 (lvL ad b i) [] := by
  refine go_aload_n X dL_law_709 2 rfl rfl ?_
  refine go_sarg X S (kn := 1) dL_law_710 dL_law_711 dL_law_712 dL_law_713 dL_law_714 (by decide) (by omega) ?_
  refine go_callVI X (n := 0) (As := [.int (xs (i + 1))]) (rest := []) (kX6_hurts l D cs ad 58 0 (by omega) σ τ (xs (i + 1)) nd ns nr h.1) gL_law_X6_hurts rfl hdX6_hurts ⟨rfl, rfl, Nat.le_of_ble_eq_true rfl, Nat.le_of_ble_eq_true rfl, (by show cells + 0 ≤ 600000; omega), (by show slots + 0 ≤ 7302250; omega)⟩ (by omega) rfl rfl rfl rfl (Nat.le_of_ble_eq_true rfl) dL_law_715 (fun r1 σ1 τ1 h1 => ?_)
  have h2 := o_hurts h (xs (i + 1)) h1
  refine go_aload_n X dL_law_718 1 rfl rfl ?_
  refine go_sarg X S (kn := 1) dL_law_719 dL_law_720 dL_law_721 dL_law_722 dL_law_723 (by decide) (by omega) ?_
  refine go_callVI X (n := 38) (As := [.int (xs (i + 1))]) (rest := [.int r1]) (kX7_hurts l D cs ad 58 0 (by omega) σ1 τ1 (xs (i + 1)) nd ns nr h2.2.1) gL_law_X7_hurts rfl hdX7_hurts ⟨rfl, rfl, Nat.le_of_ble_eq_true rfl, Nat.le_of_ble_eq_true rfl, (by show cells + 0 + 0 ≤ 600000; omega), (by show slots + 0 + 0 ≤ 7302250; omega)⟩ (by omega) rfl rfl rfl rfl (Nat.le_of_ble_eq_true rfl) dL_law_724 (fun r2 σ2 τ2 h3 => ?_)
  obtain ⟨hr9, hR⟩ := p_hurts h2 (xs (i + 1)) h1 h3
  refine go_icmp_eq X (tgt := 1143) dL_law_727 rfl (fun _ => ?_) (fun h9 => absurd hr9 h9)
  exact go_widen (by omega) (by omega) (kk _ _ hR)
set_option maxHeartbeats 4000000 in
set_option maxRecDepth 100000 in
theorem ln_kinds (X : Cx p m c cL_law 4 s args wsL_law RL D cs A ad 58) (S : Sc s A b L xs) (hi : i + 6 ≤ L) (hc : cells + 1 ≤ 600000 ∧ slots + 5 ≤ 7302250) (h : Rl σ σ nd ns nr) (kk : ∀ (σ' : vSg) (τ' : vTa), (∃ nd ns nr, Rl σ' σ' nd ns nr) → Go p l e room_1 s m args below meth c (cells + 1) (slots + 5) Q D cs A ad 58 (shP 0) 4 σ' τ' 1143 (lvL ad b i) []) : Go p l e room_1 s m args below meth c cells slots Q D cs A ad 58 (shP 0) 4 σ τ 732 (lvL ad b i) [] := by
  refine go_aload_n X dL_law_732 2 rfl rfl ?_
  refine go_sarg X S (kn := 1) dL_law_733 dL_law_734 dL_law_735 dL_law_736 dL_law_737 (by decide) (by omega) ?_
  refine go_callVI X (n := 0) (As := [.int (xs (i + 1))]) (rest := []) (kX6_kinds l D cs ad 58 0 (by omega) σ τ (xs (i + 1)) nd ns nr h.1) gL_law_X6_kinds rfl hdX6_kinds ⟨rfl, rfl, Nat.le_of_ble_eq_true rfl, Nat.le_of_ble_eq_true rfl, (by show cells + 0 ≤ 600000; omega), (by show slots + 0 ≤ 7302250; omega)⟩ (by omega) rfl rfl rfl rfl (Nat.le_of_ble_eq_true rfl) dL_law_738 (fun r1 σ1 τ1 h1 => ?_)
  have h2 := o_kinds h (xs (i + 1)) h1
  refine go_aload_n X dL_law_741 1 rfl rfl ?_
  refine go_sarg X S (kn := 1) dL_law_742 dL_law_743 dL_law_744 dL_law_745 dL_law_746 (by decide) (by omega) ?_
  refine go_callVI X (n := 38) (As := [.int (xs (i + 1))]) (rest := [.int r1]) (kX7_kinds l D cs ad 58 0 (by omega) σ1 τ1 (xs (i + 1)) nd ns nr h2.2.1) gL_law_X7_kinds rfl hdX7_kinds ⟨rfl, rfl, Nat.le_of_ble_eq_true rfl, Nat.le_of_ble_eq_true rfl, (by show cells + 0 + 0 ≤ 600000; omega), (by show slots + 0 + 0 ≤ 7302250; omega)⟩ (by omega) rfl rfl rfl rfl (Nat.le_of_ble_eq_true rfl) dL_law_747 (fun r2 σ2 τ2 h3 => ?_)
  obtain ⟨hr9, hR⟩ := p_kinds h2 (xs (i + 1)) h1 h3
  refine go_icmp_eq X (tgt := 1143) dL_law_750 rfl (fun _ => ?_) (fun h9 => absurd hr9 h9)
  exact go_widen (by omega) (by omega) (kk _ _ hR)
set_option maxHeartbeats 4000000 in
set_option maxRecDepth 100000 in
theorem ln_odds (X : Cx p m c cL_law 4 s args wsL_law RL D cs A ad 58) (S : Sc s A b L xs) (hi : i + 6 ≤ L) (hc : cells + 1 ≤ 600000 ∧ slots + 5 ≤ 7302250) (h : Rl σ σ nd ns nr) (kk : ∀ (σ' : vSg) (τ' : vTa), (∃ nd ns nr, Rl σ' σ' nd ns nr) → Go p l e room_1 s m args below meth c (cells + 1) (slots + 5) Q D cs A ad 58 (shP 0) 4 σ' τ' 1143 (lvL ad b i) []) : Go p l e room_1 s m args below meth c cells slots Q D cs A ad 58 (shP 0) 4 σ τ 755 (lvL ad b i) [] := by
  refine go_aload_n X dL_law_755 2 rfl rfl ?_
  refine go_sarg X S (kn := 1) dL_law_756 dL_law_757 dL_law_758 dL_law_759 dL_law_760 (by decide) (by omega) ?_
  refine go_sarg X S (kn := 2) dL_law_761 dL_law_762 dL_law_763 dL_law_764 dL_law_765 (by decide) (by omega) ?_
  refine go_sarg X S (kn := 3) dL_law_766 dL_law_767 dL_law_768 dL_law_769 dL_law_770 (by decide) (by omega) ?_
  refine go_callVL X (n := 0) (As := [.int (xs (i + 1)), .int (xs (i + 2)), .int (xs (i + 3))]) (rest := []) (kX6_odds l D cs ad 58 0 (by omega) σ τ (xs (i + 1)) (xs (i + 2)) (xs (i + 3)) nd ns nr h.1) gL_law_X6_odds rfl hdX6_odds ⟨rfl, rfl, Nat.le_of_ble_eq_true rfl, Nat.le_of_ble_eq_true rfl, (by show cells + 0 ≤ 600000; omega), (by show slots + 0 ≤ 7302250; omega)⟩ (by omega) rfl rfl rfl rfl (Nat.le_of_ble_eq_true rfl) dL_law_771 (fun r1 σ1 τ1 h1 => ?_)
  have h2 := o_odds h (xs (i + 1)) (xs (i + 2)) (xs (i + 3)) h1
  refine go_aload_n X dL_law_774 1 rfl rfl ?_
  refine go_sarg X S (kn := 1) dL_law_775 dL_law_776 dL_law_777 dL_law_778 dL_law_779 (by decide) (by omega) ?_
  refine go_sarg X S (kn := 2) dL_law_780 dL_law_781 dL_law_782 dL_law_783 dL_law_784 (by decide) (by omega) ?_
  refine go_sarg X S (kn := 3) dL_law_785 dL_law_786 dL_law_787 dL_law_788 dL_law_789 (by decide) (by omega) ?_
  refine go_callVL X (n := 38) (As := [.int (xs (i + 1)), .int (xs (i + 2)), .int (xs (i + 3))]) (rest := [.long r1]) (kX7_odds l D cs ad 58 0 (by omega) σ1 τ1 (xs (i + 1)) (xs (i + 2)) (xs (i + 3)) nd ns nr h2.2.1) gL_law_X7_odds rfl hdX7_odds ⟨rfl, rfl, Nat.le_of_ble_eq_true rfl, Nat.le_of_ble_eq_true rfl, (by show cells + 0 + 0 ≤ 600000; omega), (by show slots + 0 + 0 ≤ 7302250; omega)⟩ (by omega) rfl rfl rfl rfl (Nat.le_of_ble_eq_true rfl) dL_law_790 (fun r2 σ2 τ2 h3 => ?_)
  obtain ⟨hr9, hR⟩ := p_odds h2 (xs (i + 1)) (xs (i + 2)) (xs (i + 3)) h1 h3
  refine go_lcmp X dL_law_793 ?_
  refine go_lcmp_eq X (tgt := 1143) dL_law_794 rfl (fun _ => ?_) (fun h9 => absurd hr9 h9)
  exact go_widen (by omega) (by omega) (kk _ _ hR)
set_option maxHeartbeats 4000000 in
set_option maxRecDepth 100000 in
theorem ln_sheet (X : Cx p m c cL_law 4 s args wsL_law RL D cs A ad 58) (S : Sc s A b L xs) (hi : i + 6 ≤ L) (hc : cells + 1 ≤ 600000 ∧ slots + 5 ≤ 7302250) (h : Rl σ σ nd ns nr) (kk : ∀ (σ' : vSg) (τ' : vTa), (∃ nd ns nr, Rl σ' σ' nd ns nr) → Go p l e room_1 s m args below meth c (cells + 1) (slots + 5) Q D cs A ad 58 (shP 0) 4 σ' τ' 1143 (lvL ad b i) []) : Go p l e room_1 s m args below meth c cells slots Q D cs A ad 58 (shP 0) 4 σ τ 799 (lvL ad b i) [] := by
  refine go_aload_n X dL_law_799 2 rfl rfl ?_
  refine go_sarg X S (kn := 1) dL_law_800 dL_law_801 dL_law_802 dL_law_803 dL_law_804 (by decide) (by omega) ?_
  refine go_sarg X S (kn := 2) dL_law_805 dL_law_806 dL_law_807 dL_law_808 dL_law_809 (by decide) (by omega) ?_
  refine go_sarg X S (kn := 3) dL_law_810 dL_law_811 dL_law_812 dL_law_813 dL_law_814 (by decide) (by omega) ?_
  refine go_callVI X (n := 0) (As := [.int (xs (i + 1)), .int (xs (i + 2)), .int (xs (i + 3))]) (rest := []) (kX6_sheet l D cs ad 58 0 (by omega) σ τ (xs (i + 1)) (xs (i + 2)) (xs (i + 3)) nd ns nr h.1) gL_law_X6_sheet rfl hdX6_sheet ⟨rfl, rfl, Nat.le_of_ble_eq_true rfl, Nat.le_of_ble_eq_true rfl, (by show cells + 0 ≤ 600000; omega), (by show slots + 0 ≤ 7302250; omega)⟩ (by omega) rfl rfl rfl rfl (Nat.le_of_ble_eq_true rfl) dL_law_815 (fun r1 σ1 τ1 h1 => ?_)
  have h2 := o_sheet h (xs (i + 1)) (xs (i + 2)) (xs (i + 3)) h1
  refine go_aload_n X dL_law_818 1 rfl rfl ?_
  refine go_sarg X S (kn := 1) dL_law_819 dL_law_820 dL_law_821 dL_law_822 dL_law_823 (by decide) (by omega) ?_
  refine go_sarg X S (kn := 2) dL_law_824 dL_law_825 dL_law_826 dL_law_827 dL_law_828 (by decide) (by omega) ?_
  refine go_sarg X S (kn := 3) dL_law_829 dL_law_830 dL_law_831 dL_law_832 dL_law_833 (by decide) (by omega) ?_
  refine go_callVI X (n := 38) (As := [.int (xs (i + 1)), .int (xs (i + 2)), .int (xs (i + 3))]) (rest := [.int r1]) (kX7_sheet l D cs ad 58 0 (by omega) σ1 τ1 (xs (i + 1)) (xs (i + 2)) (xs (i + 3)) nd ns nr h2.2.1) gL_law_X7_sheet rfl hdX7_sheet ⟨rfl, rfl, Nat.le_of_ble_eq_true rfl, Nat.le_of_ble_eq_true rfl, (by show cells + 0 + 0 ≤ 600000; omega), (by show slots + 0 + 0 ≤ 7302250; omega)⟩ (by omega) rfl rfl rfl rfl (Nat.le_of_ble_eq_true rfl) dL_law_834 (fun r2 σ2 τ2 h3 => ?_)
  obtain ⟨hr9, hR⟩ := p_sheet h2 (xs (i + 1)) (xs (i + 2)) (xs (i + 3)) h1 h3
  refine go_icmp_eq X (tgt := 1143) dL_law_837 rfl (fun _ => ?_) (fun h9 => absurd hr9 h9)
  exact go_widen (by omega) (by omega) (kk _ _ hR)
set_option maxHeartbeats 4000000 in
set_option maxRecDepth 100000 in
theorem ln_lose (X : Cx p m c cL_law 4 s args wsL_law RL D cs A ad 58) (S : Sc s A b L xs) (hi : i + 6 ≤ L) (hc : cells + 1 ≤ 600000 ∧ slots + 5 ≤ 7302250) (h : Rl σ σ nd ns nr) (kk : ∀ (σ' : vSg) (τ' : vTa), (∃ nd ns nr, Rl σ' σ' nd ns nr) → Go p l e room_1 s m args below meth c (cells + 1) (slots + 5) Q D cs A ad 58 (shP 0) 4 σ' τ' 1143 (lvL ad b i) []) : Go p l e room_1 s m args below meth c cells slots Q D cs A ad 58 (shP 0) 4 σ τ 842 (lvL ad b i) [] := by
  refine go_aload_n X dL_law_842 2 rfl rfl ?_
  refine go_sarg X S (kn := 1) dL_law_843 dL_law_844 dL_law_845 dL_law_846 dL_law_847 (by decide) (by omega) ?_
  refine go_callVI X (n := 0) (As := [.int (xs (i + 1))]) (rest := []) (kX6_lose l D cs ad 58 0 (by omega) σ τ (xs (i + 1)) nd ns nr h.1) gL_law_X6_lose rfl hdX6_lose ⟨rfl, rfl, Nat.le_of_ble_eq_true rfl, Nat.le_of_ble_eq_true rfl, (by show cells + 0 ≤ 600000; omega), (by show slots + 0 ≤ 7302250; omega)⟩ (by omega) rfl rfl rfl rfl (Nat.le_of_ble_eq_true rfl) dL_law_848 (fun r1 σ1 τ1 h1 => ?_)
  have h2 := o_lose h (xs (i + 1)) h1
  refine go_aload_n X dL_law_851 1 rfl rfl ?_
  refine go_sarg X S (kn := 1) dL_law_852 dL_law_853 dL_law_854 dL_law_855 dL_law_856 (by decide) (by omega) ?_
  refine go_callVI X (n := 38) (As := [.int (xs (i + 1))]) (rest := [.int r1]) (kX7_lose l D cs ad 58 0 (by omega) σ1 τ1 (xs (i + 1)) nd ns nr h2.2.1) gL_law_X7_lose rfl hdX7_lose ⟨rfl, rfl, Nat.le_of_ble_eq_true rfl, Nat.le_of_ble_eq_true rfl, (by show cells + 0 + 0 ≤ 600000; omega), (by show slots + 0 + 0 ≤ 7302250; omega)⟩ (by omega) rfl rfl rfl rfl (Nat.le_of_ble_eq_true rfl) dL_law_857 (fun r2 σ2 τ2 h3 => ?_)
  obtain ⟨hr9, hR⟩ := p_lose h2 (xs (i + 1)) h1 h3
  refine go_icmp_eq X (tgt := 1143) dL_law_860 rfl (fun _ => ?_) (fun h9 => absurd hr9 h9)
  exact go_widen (by omega) (by omega) (kk _ _ hR)
set_option maxHeartbeats 4000000 in
set_option maxRecDepth 100000 in
theorem ln_put (X : Cx p m c cL_law 4 s args wsL_law RL D cs A ad 58) (S : Sc s A b L xs) (hi : i + 6 ≤ L) (hc : cells + 1 ≤ 600000 ∧ slots + 5 ≤ 7302250) (h : Rl σ σ nd ns nr) (kk : ∀ (σ' : vSg) (τ' : vTa), (∃ nd ns nr, Rl σ' σ' nd ns nr) → Go p l e room_1 s m args below meth c (cells + 1) (slots + 5) Q D cs A ad 58 (shP 0) 4 σ' τ' 1143 (lvL ad b i) []) : Go p l e room_1 s m args below meth c cells slots Q D cs A ad 58 (shP 0) 4 σ τ 865 (lvL ad b i) [] := by
  refine go_aload_n X dL_law_865 2 rfl rfl ?_
  refine go_sarg X S (kn := 1) dL_law_866 dL_law_867 dL_law_868 dL_law_869 dL_law_870 (by decide) (by omega) ?_
  refine go_sarg X S (kn := 2) dL_law_871 dL_law_872 dL_law_873 dL_law_874 dL_law_875 (by decide) (by omega) ?_
  refine go_sarg X S (kn := 3) dL_law_876 dL_law_877 dL_law_878 dL_law_879 dL_law_880 (by decide) (by omega) ?_
  refine go_callVI X (n := 0) (As := [.int (xs (i + 1)), .int (xs (i + 2)), .int (xs (i + 3))]) (rest := []) (kX6_put l D cs ad 58 0 (by omega) σ τ (xs (i + 1)) (xs (i + 2)) (xs (i + 3)) nd ns nr h.1) gL_law_X6_put rfl hdX6_put ⟨rfl, rfl, Nat.le_of_ble_eq_true rfl, Nat.le_of_ble_eq_true rfl, (by show cells + 0 ≤ 600000; omega), (by show slots + 0 ≤ 7302250; omega)⟩ (by omega) rfl rfl rfl rfl (Nat.le_of_ble_eq_true rfl) dL_law_881 (fun r1 σ1 τ1 h1 => ?_)
  have h2 := o_put h (xs (i + 1)) (xs (i + 2)) (xs (i + 3)) h1
  refine go_aload_n X dL_law_884 1 rfl rfl ?_
  refine go_sarg X S (kn := 1) dL_law_885 dL_law_886 dL_law_887 dL_law_888 dL_law_889 (by decide) (by omega) ?_
  refine go_sarg X S (kn := 2) dL_law_890 dL_law_891 dL_law_892 dL_law_893 dL_law_894 (by decide) (by omega) ?_
  refine go_sarg X S (kn := 3) dL_law_895 dL_law_896 dL_law_897 dL_law_898 dL_law_899 (by decide) (by omega) ?_
  refine go_callVI X (n := 38) (As := [.int (xs (i + 1)), .int (xs (i + 2)), .int (xs (i + 3))]) (rest := [.int r1]) (kX7_put l D cs ad 58 0 (by omega) σ1 τ1 (xs (i + 1)) (xs (i + 2)) (xs (i + 3)) nd ns nr h2.2.1) gL_law_X7_put rfl hdX7_put ⟨rfl, rfl, Nat.le_of_ble_eq_true rfl, Nat.le_of_ble_eq_true rfl, (by show cells + 0 + 0 ≤ 600000; omega), (by show slots + 0 + 0 ≤ 7302250; omega)⟩ (by omega) rfl rfl rfl rfl (Nat.le_of_ble_eq_true rfl) dL_law_900 (fun r2 σ2 τ2 h3 => ?_)
  obtain ⟨hr9, hR⟩ := p_put h2 (xs (i + 1)) (xs (i + 2)) (xs (i + 3)) h1 h3
  refine go_icmp_eq X (tgt := 1143) dL_law_903 rfl (fun _ => ?_) (fun h9 => absurd hr9 h9)
  exact go_widen (by omega) (by omega) (kk _ _ hR)
set_option maxHeartbeats 4000000 in
set_option maxRecDepth 100000 in
theorem ln_cell (X : Cx p m c cL_law 4 s args wsL_law RL D cs A ad 58) (S : Sc s A b L xs) (hi : i + 6 ≤ L) (hc : cells + 1 ≤ 600000 ∧ slots + 5 ≤ 7302250) (h : Rl σ σ nd ns nr) (kk : ∀ (σ' : vSg) (τ' : vTa), (∃ nd ns nr, Rl σ' σ' nd ns nr) → Go p l e room_1 s m args below meth c (cells + 1) (slots + 5) Q D cs A ad 58 (shP 0) 4 σ' τ' 1143 (lvL ad b i) []) : Go p l e room_1 s m args below meth c cells slots Q D cs A ad 58 (shP 0) 4 σ τ 908 (lvL ad b i) [] := by
  refine go_aload_n X dL_law_908 2 rfl rfl ?_
  refine go_sarg X S (kn := 1) dL_law_909 dL_law_910 dL_law_911 dL_law_912 dL_law_913 (by decide) (by omega) ?_
  refine go_sarg X S (kn := 2) dL_law_914 dL_law_915 dL_law_916 dL_law_917 dL_law_918 (by decide) (by omega) ?_
  refine go_sarg X S (kn := 3) dL_law_919 dL_law_920 dL_law_921 dL_law_922 dL_law_923 (by decide) (by omega) ?_
  refine go_callVL X (n := 0) (As := [.int (xs (i + 1)), .int (xs (i + 2)), .int (xs (i + 3))]) (rest := []) (kX6_cell l D cs ad 58 0 (by omega) σ τ (xs (i + 1)) (xs (i + 2)) (xs (i + 3)) nd ns nr h.1) gL_law_X6_cell rfl hdX6_cell ⟨rfl, rfl, Nat.le_of_ble_eq_true rfl, Nat.le_of_ble_eq_true rfl, (by show cells + 0 ≤ 600000; omega), (by show slots + 0 ≤ 7302250; omega)⟩ (by omega) rfl rfl rfl rfl (Nat.le_of_ble_eq_true rfl) dL_law_924 (fun r1 σ1 τ1 h1 => ?_)
  have h2 := o_cell h (xs (i + 1)) (xs (i + 2)) (xs (i + 3)) h1
  refine go_aload_n X dL_law_927 1 rfl rfl ?_
  refine go_sarg X S (kn := 1) dL_law_928 dL_law_929 dL_law_930 dL_law_931 dL_law_932 (by decide) (by omega) ?_
  refine go_sarg X S (kn := 2) dL_law_933 dL_law_934 dL_law_935 dL_law_936 dL_law_937 (by decide) (by omega) ?_
  refine go_sarg X S (kn := 3) dL_law_938 dL_law_939 dL_law_940 dL_law_941 dL_law_942 (by decide) (by omega) ?_
  refine go_callVL X (n := 38) (As := [.int (xs (i + 1)), .int (xs (i + 2)), .int (xs (i + 3))]) (rest := [.long r1]) (kX7_cell l D cs ad 58 0 (by omega) σ1 τ1 (xs (i + 1)) (xs (i + 2)) (xs (i + 3)) nd ns nr h2.2.1) gL_law_X7_cell rfl hdX7_cell ⟨rfl, rfl, Nat.le_of_ble_eq_true rfl, Nat.le_of_ble_eq_true rfl, (by show cells + 0 + 0 ≤ 600000; omega), (by show slots + 0 + 0 ≤ 7302250; omega)⟩ (by omega) rfl rfl rfl rfl (Nat.le_of_ble_eq_true rfl) dL_law_943 (fun r2 σ2 τ2 h3 => ?_)
  obtain ⟨hr9, hR⟩ := p_cell h2 (xs (i + 1)) (xs (i + 2)) (xs (i + 3)) h1 h3
  refine go_lcmp X dL_law_946 ?_
  refine go_lcmp_eq X (tgt := 1143) dL_law_947 rfl (fun _ => ?_) (fun h9 => absurd hr9 h9)
  exact go_widen (by omega) (by omega) (kk _ _ hR)
set_option maxHeartbeats 4000000 in
set_option maxRecDepth 100000 in
theorem ln_copy (X : Cx p m c cL_law 4 s args wsL_law RL D cs A ad 58) (S : Sc s A b L xs) (hi : i + 6 ≤ L) (hc : cells + 1 ≤ 600000 ∧ slots + 5 ≤ 7302250) (h : Rl σ σ nd ns nr) (kk : ∀ (σ' : vSg) (τ' : vTa), (∃ nd ns nr, Rl σ' σ' nd ns nr) → Go p l e room_1 s m args below meth c (cells + 1) (slots + 5) Q D cs A ad 58 (shP 0) 4 σ' τ' 1143 (lvL ad b i) []) : Go p l e room_1 s m args below meth c cells slots Q D cs A ad 58 (shP 0) 4 σ τ 952 (lvL ad b i) [] := by
  refine go_aload_n X dL_law_952 2 rfl rfl ?_
  refine go_sarg X S (kn := 1) dL_law_953 dL_law_954 dL_law_955 dL_law_956 dL_law_957 (by decide) (by omega) ?_
  refine go_sarg X S (kn := 2) dL_law_958 dL_law_959 dL_law_960 dL_law_961 dL_law_962 (by decide) (by omega) ?_
  refine go_sarg X S (kn := 3) dL_law_963 dL_law_964 dL_law_965 dL_law_966 dL_law_967 (by decide) (by omega) ?_
  refine go_sarg X S (kn := 4) dL_law_968 dL_law_969 dL_law_970 dL_law_971 dL_law_972 (by decide) (by omega) ?_
  refine go_sarg X S (kn := 5) dL_law_973 dL_law_974 dL_law_975 dL_law_976 dL_law_977 (by decide) (by omega) ?_
  refine go_callVI X (n := 0) (As := [.int (xs (i + 1)), .int (xs (i + 2)), .int (xs (i + 3)), .int (xs (i + 4)), .int (xs (i + 5))]) (rest := []) (kX6_copy l D cs ad 58 0 (by omega) σ τ (xs (i + 1)) (xs (i + 2)) (xs (i + 3)) (xs (i + 4)) (xs (i + 5)) nd ns nr h.1) gL_law_X6_copy rfl hdX6_copy ⟨rfl, rfl, Nat.le_of_ble_eq_true rfl, Nat.le_of_ble_eq_true rfl, (by show cells + 0 ≤ 600000; omega), (by show slots + 0 ≤ 7302250; omega)⟩ (by omega) rfl rfl rfl rfl (Nat.le_of_ble_eq_true rfl) dL_law_978 (fun r1 σ1 τ1 h1 => ?_)
  have h2 := o_copy h (xs (i + 1)) (xs (i + 2)) (xs (i + 3)) (xs (i + 4)) (xs (i + 5)) h1
  refine go_aload_n X dL_law_981 1 rfl rfl ?_
  refine go_sarg X S (kn := 1) dL_law_982 dL_law_983 dL_law_984 dL_law_985 dL_law_986 (by decide) (by omega) ?_
  refine go_sarg X S (kn := 2) dL_law_987 dL_law_988 dL_law_989 dL_law_990 dL_law_991 (by decide) (by omega) ?_
  refine go_sarg X S (kn := 3) dL_law_992 dL_law_993 dL_law_994 dL_law_995 dL_law_996 (by decide) (by omega) ?_
  refine go_sarg X S (kn := 4) dL_law_997 dL_law_998 dL_law_999 dL_law_1000 dL_law_1001 (by decide) (by omega) ?_
  refine go_sarg X S (kn := 5) dL_law_1002 dL_law_1003 dL_law_1004 dL_law_1005 dL_law_1006 (by decide) (by omega) ?_
  refine go_callVI X (n := 38) (As := [.int (xs (i + 1)), .int (xs (i + 2)), .int (xs (i + 3)), .int (xs (i + 4)), .int (xs (i + 5))]) (rest := [.int r1]) (kX7_copy l D cs ad 58 0 (by omega) σ1 τ1 (xs (i + 1)) (xs (i + 2)) (xs (i + 3)) (xs (i + 4)) (xs (i + 5)) nd ns nr h2.2.1) gL_law_X7_copy rfl hdX7_copy ⟨rfl, rfl, Nat.le_of_ble_eq_true rfl, Nat.le_of_ble_eq_true rfl, (by show cells + 0 + 0 ≤ 600000; omega), (by show slots + 0 + 0 ≤ 7302250; omega)⟩ (by omega) rfl rfl rfl rfl (Nat.le_of_ble_eq_true rfl) dL_law_1007 (fun r2 σ2 τ2 h3 => ?_)
  obtain ⟨hr9, hR⟩ := p_copy h2 (xs (i + 1)) (xs (i + 2)) (xs (i + 3)) (xs (i + 4)) (xs (i + 5)) h1 h3
  refine go_icmp_eq X (tgt := 1143) dL_law_1010 rfl (fun _ => ?_) (fun h9 => absurd hr9 h9)
  exact go_widen (by omega) (by omega) (kk _ _ hR)
set_option maxHeartbeats 4000000 in
set_option maxRecDepth 100000 in
theorem ln_tell (X : Cx p m c cL_law 4 s args wsL_law RL D cs A ad 58) (S : Sc s A b L xs) (hi : i + 6 ≤ L) (hc : cells + 1 ≤ 600000 ∧ slots + 5 ≤ 7302250) (h : Rl σ σ nd ns nr) (kk : ∀ (σ' : vSg) (τ' : vTa), (∃ nd ns nr, Rl σ' σ' nd ns nr) → Go p l e room_1 s m args below meth c (cells + 1) (slots + 5) Q D cs A ad 58 (shP 0) 4 σ' τ' 1143 (lvL ad b i) []) : Go p l e room_1 s m args below meth c cells slots Q D cs A ad 58 (shP 0) 4 σ τ 1015 (lvL ad b i) [] := by
  refine go_aload_n X dL_law_1015 2 rfl rfl ?_
  refine go_sarg X S (kn := 1) dL_law_1016 dL_law_1017 dL_law_1018 dL_law_1019 dL_law_1020 (by decide) (by omega) ?_
  refine go_callVI X (n := 0) (As := [.int (xs (i + 1))]) (rest := []) (kX6_tell l D cs ad 58 0 (by omega) σ τ (xs (i + 1)) nd ns nr h.1) gL_law_X6_tell rfl hdX6_tell ⟨rfl, rfl, Nat.le_of_ble_eq_true rfl, Nat.le_of_ble_eq_true rfl, (by show cells + 0 ≤ 600000; omega), (by show slots + 0 ≤ 7302250; omega)⟩ (by omega) rfl rfl rfl rfl (Nat.le_of_ble_eq_true rfl) dL_law_1021 (fun r1 σ1 τ1 h1 => ?_)
  have h2 := o_tell h (xs (i + 1)) h1
  refine go_aload_n X dL_law_1024 1 rfl rfl ?_
  refine go_sarg X S (kn := 1) dL_law_1025 dL_law_1026 dL_law_1027 dL_law_1028 dL_law_1029 (by decide) (by omega) ?_
  refine go_callVI X (n := 38) (As := [.int (xs (i + 1))]) (rest := [.int r1]) (kX7_tell l D cs ad 58 0 (by omega) σ1 τ1 (xs (i + 1)) nd ns nr h2.2.1) gL_law_X7_tell rfl hdX7_tell ⟨rfl, rfl, Nat.le_of_ble_eq_true rfl, Nat.le_of_ble_eq_true rfl, (by show cells + 0 + 0 ≤ 600000; omega), (by show slots + 0 + 0 ≤ 7302250; omega)⟩ (by omega) rfl rfl rfl rfl (Nat.le_of_ble_eq_true rfl) dL_law_1030 (fun r2 σ2 τ2 h3 => ?_)
  obtain ⟨hr9, hR⟩ := p_tell h2 (xs (i + 1)) h1 h3
  refine go_icmp_eq X (tgt := 1143) dL_law_1033 rfl (fun _ => ?_) (fun h9 => absurd hr9 h9)
  exact go_widen (by omega) (by omega) (kk _ _ hR)
set_option maxHeartbeats 4000000 in
set_option maxRecDepth 100000 in
theorem ln_name (X : Cx p m c cL_law 4 s args wsL_law RL D cs A ad 58) (S : Sc s A b L xs) (hi : i + 6 ≤ L) (hc : cells + 1 ≤ 600000 ∧ slots + 5 ≤ 7302250) (h : Rl σ σ nd ns nr) (kk : ∀ (σ' : vSg) (τ' : vTa), (∃ nd ns nr, Rl σ' σ' nd ns nr) → Go p l e room_1 s m args below meth c (cells + 1) (slots + 5) Q D cs A ad 58 (shP 0) 4 σ' τ' 1143 (lvL ad b i) []) : Go p l e room_1 s m args below meth c cells slots Q D cs A ad 58 (shP 0) 4 σ τ 1038 (lvL ad b i) [] := by
  refine go_aload_n X dL_law_1038 2 rfl rfl ?_
  refine go_sarg X S (kn := 1) dL_law_1039 dL_law_1040 dL_law_1041 dL_law_1042 dL_law_1043 (by decide) (by omega) ?_
  refine go_callVI X (n := 0) (As := [.int (xs (i + 1))]) (rest := []) (kX6_name l D cs ad 58 0 (by omega) σ τ (xs (i + 1)) nd ns nr h.1) gL_law_X6_name rfl hdX6_name ⟨rfl, rfl, Nat.le_of_ble_eq_true rfl, Nat.le_of_ble_eq_true rfl, (by show cells + 0 ≤ 600000; omega), (by show slots + 0 ≤ 7302250; omega)⟩ (by omega) rfl rfl rfl rfl (Nat.le_of_ble_eq_true rfl) dL_law_1044 (fun r1 σ1 τ1 h1 => ?_)
  have h2 := o_name h (xs (i + 1)) h1
  refine go_aload_n X dL_law_1047 1 rfl rfl ?_
  refine go_sarg X S (kn := 1) dL_law_1048 dL_law_1049 dL_law_1050 dL_law_1051 dL_law_1052 (by decide) (by omega) ?_
  refine go_callVI X (n := 38) (As := [.int (xs (i + 1))]) (rest := [.int r1]) (kX7_name l D cs ad 58 0 (by omega) σ1 τ1 (xs (i + 1)) nd ns nr h2.2.1) gL_law_X7_name rfl hdX7_name ⟨rfl, rfl, Nat.le_of_ble_eq_true rfl, Nat.le_of_ble_eq_true rfl, (by show cells + 0 + 0 ≤ 600000; omega), (by show slots + 0 + 0 ≤ 7302250; omega)⟩ (by omega) rfl rfl rfl rfl (Nat.le_of_ble_eq_true rfl) dL_law_1053 (fun r2 σ2 τ2 h3 => ?_)
  obtain ⟨hr9, hR⟩ := p_name h2 (xs (i + 1)) h1 h3
  refine go_icmp_eq X (tgt := 1143) dL_law_1056 rfl (fun _ => ?_) (fun h9 => absurd hr9 h9)
  exact go_widen (by omega) (by omega) (kk _ _ hR)
set_option maxHeartbeats 4000000 in
set_option maxRecDepth 100000 in
theorem ln_as (X : Cx p m c cL_law 4 s args wsL_law RL D cs A ad 58) (S : Sc s A b L xs) (hi : i + 6 ≤ L) (hc : cells + 1 ≤ 600000 ∧ slots + 5 ≤ 7302250) (h : Rl σ σ nd ns nr) (kk : ∀ (σ' : vSg) (τ' : vTa), (∃ nd ns nr, Rl σ' σ' nd ns nr) → Go p l e room_1 s m args below meth c (cells + 1) (slots + 5) Q D cs A ad 58 (shP 0) 4 σ' τ' 1143 (lvL ad b i) []) : Go p l e room_1 s m args below meth c cells slots Q D cs A ad 58 (shP 0) 4 σ τ 1061 (lvL ad b i) [] := by
  refine go_aload_n X dL_law_1061 2 rfl rfl ?_
  refine go_sarg X S (kn := 1) dL_law_1062 dL_law_1063 dL_law_1064 dL_law_1065 dL_law_1066 (by decide) (by omega) ?_
  refine go_sarg X S (kn := 2) dL_law_1067 dL_law_1068 dL_law_1069 dL_law_1070 dL_law_1071 (by decide) (by omega) ?_
  refine go_callVI X (n := 0) (As := [.int (xs (i + 1)), .int (xs (i + 2))]) (rest := []) (kX6_as l D cs ad 58 0 (by omega) σ τ (xs (i + 1)) (xs (i + 2)) nd ns nr h.1) gL_law_X6_as rfl hdX6_as ⟨rfl, rfl, Nat.le_of_ble_eq_true rfl, Nat.le_of_ble_eq_true rfl, (by show cells + 0 ≤ 600000; omega), (by show slots + 0 ≤ 7302250; omega)⟩ (by omega) rfl rfl rfl rfl (Nat.le_of_ble_eq_true rfl) dL_law_1072 (fun r1 σ1 τ1 h1 => ?_)
  have h2 := o_as h (xs (i + 1)) (xs (i + 2)) h1
  refine go_aload_n X dL_law_1075 1 rfl rfl ?_
  refine go_sarg X S (kn := 1) dL_law_1076 dL_law_1077 dL_law_1078 dL_law_1079 dL_law_1080 (by decide) (by omega) ?_
  refine go_sarg X S (kn := 2) dL_law_1081 dL_law_1082 dL_law_1083 dL_law_1084 dL_law_1085 (by decide) (by omega) ?_
  refine go_callVI X (n := 38) (As := [.int (xs (i + 1)), .int (xs (i + 2))]) (rest := [.int r1]) (kX7_as l D cs ad 58 0 (by omega) σ1 τ1 (xs (i + 1)) (xs (i + 2)) nd ns nr h2.2.1) gL_law_X7_as rfl hdX7_as ⟨rfl, rfl, Nat.le_of_ble_eq_true rfl, Nat.le_of_ble_eq_true rfl, (by show cells + 0 + 0 ≤ 600000; omega), (by show slots + 0 + 0 ≤ 7302250; omega)⟩ (by omega) rfl rfl rfl rfl (Nat.le_of_ble_eq_true rfl) dL_law_1086 (fun r2 σ2 τ2 h3 => ?_)
  obtain ⟨hr9, hR⟩ := p_as h2 (xs (i + 1)) (xs (i + 2)) h1 h3
  refine go_icmp_eq X (tgt := 1143) dL_law_1089 rfl (fun _ => ?_) (fun h9 => absurd hr9 h9)
  exact go_widen (by omega) (by omega) (kk _ _ hR)
set_option maxHeartbeats 4000000 in
set_option maxRecDepth 100000 in
theorem ln_trace (X : Cx p m c cL_law 4 s args wsL_law RL D cs A ad 58) (S : Sc s A b L xs) (hi : i + 6 ≤ L) (hc : cells + 1 ≤ 600000 ∧ slots + 5 ≤ 7302250) (h : Rl σ σ nd ns nr) (kk : ∀ (σ' : vSg) (τ' : vTa), (∃ nd ns nr, Rl σ' σ' nd ns nr) → Go p l e room_1 s m args below meth c (cells + 1) (slots + 5) Q D cs A ad 58 (shP 0) 4 σ' τ' 1143 (lvL ad b i) []) : Go p l e room_1 s m args below meth c cells slots Q D cs A ad 58 (shP 0) 4 σ τ 1094 (lvL ad b i) [] := by
  refine go_aload_n X dL_law_1094 2 rfl rfl ?_
  refine go_callVI X (n := 0) (As := []) (rest := []) (kX6_trace l D cs ad 58 0 (by omega) σ τ (σ 0 6) rfl) gL_law_X6_trace rfl hdX6_trace ⟨rfl, rfl, Nat.le_of_ble_eq_true rfl, Nat.le_of_ble_eq_true rfl, (by show cells + 0 ≤ 600000; omega), (by show slots + 0 ≤ 7302250; omega)⟩ (by omega) rfl rfl rfl rfl (Nat.le_of_ble_eq_true rfl) dL_law_1095 (fun r1 σ1 τ1 h1 => ?_)
  obtain ⟨rfl, rfl, rfl⟩ := h1
  refine go_aload_n X dL_law_1098 1 rfl rfl ?_
  refine go_callVI X (n := 38) (As := []) (rest := [.int (σ 0 6)]) (kX7_trace l D cs ad 58 0 (by omega) σ τ (σ 38 29) rfl) gL_law_X7_trace rfl hdX7_trace ⟨rfl, rfl, Nat.le_of_ble_eq_true rfl, Nat.le_of_ble_eq_true rfl, (by show cells + 0 + 0 ≤ 600000; omega), (by show slots + 0 + 0 ≤ 7302250; omega)⟩ (by omega) rfl rfl rfl rfl (Nat.le_of_ble_eq_true rfl) dL_law_1099 (fun r2 σ2 τ2 h3 => ?_)
  obtain ⟨rfl, rfl, rfl⟩ := h3
  refine go_icmp_eq X (tgt := 1143) dL_law_1102 rfl (fun _ => ?_) (fun h9 => absurd h.2.2.2.2.2.2.1 h9)
  exact go_widen (by omega) (by omega) (kk _ _ ⟨nd, ns, nr, h⟩)
set_option maxHeartbeats 4000000 in
set_option maxRecDepth 100000 in
theorem ln_fault (X : Cx p m c cL_law 4 s args wsL_law RL D cs A ad 58) (S : Sc s A b L xs) (hi : i + 6 ≤ L) (hc : cells + 1 ≤ 600000 ∧ slots + 5 ≤ 7302250) (h : Rl σ σ nd ns nr) (kk : ∀ (σ' : vSg) (τ' : vTa), (∃ nd ns nr, Rl σ' σ' nd ns nr) → Go p l e room_1 s m args below meth c (cells + 1) (slots + 5) Q D cs A ad 58 (shP 0) 4 σ' τ' 1143 (lvL ad b i) []) : Go p l e room_1 s m args below meth c cells slots Q D cs A ad 58 (shP 0) 4 σ τ 1107 (lvL ad b i) [] := by
  refine go_aload_n X dL_law_1107 2 rfl rfl ?_
  refine go_callVI X (n := 0) (As := []) (rest := []) (kX6_fault l D cs ad 58 0 (by omega) σ τ (σ 0 7) rfl) gL_law_X6_fault rfl hdX6_fault ⟨rfl, rfl, Nat.le_of_ble_eq_true rfl, Nat.le_of_ble_eq_true rfl, (by show cells + 0 ≤ 600000; omega), (by show slots + 0 ≤ 7302250; omega)⟩ (by omega) rfl rfl rfl rfl (Nat.le_of_ble_eq_true rfl) dL_law_1108 (fun r1 σ1 τ1 h1 => ?_)
  obtain ⟨rfl, rfl, rfl⟩ := h1
  refine go_aload_n X dL_law_1111 1 rfl rfl ?_
  refine go_callVI X (n := 38) (As := []) (rest := [.int (σ 0 7)]) (kX7_fault l D cs ad 58 0 (by omega) σ τ (σ 38 0) rfl) gL_law_X7_fault rfl hdX7_fault ⟨rfl, rfl, Nat.le_of_ble_eq_true rfl, Nat.le_of_ble_eq_true rfl, (by show cells + 0 + 0 ≤ 600000; omega), (by show slots + 0 + 0 ≤ 7302250; omega)⟩ (by omega) rfl rfl rfl rfl (Nat.le_of_ble_eq_true rfl) dL_law_1112 (fun r2 σ2 τ2 h3 => ?_)
  obtain ⟨rfl, rfl, rfl⟩ := h3
  refine go_icmp_eq X (tgt := 1143) dL_law_1115 rfl (fun _ => ?_) (fun h9 => absurd h.2.2.2.2.2.2.2 h9)
  exact go_widen (by omega) (by omega) (kk _ _ ⟨nd, ns, nr, h⟩)
set_option maxHeartbeats 4000000 in
set_option maxRecDepth 100000 in
theorem ln_many (X : Cx p m c cL_law 4 s args wsL_law RL D cs A ad 58) (S : Sc s A b L xs) (hi : i + 6 ≤ L) (hc : cells + 1 ≤ 600000 ∧ slots + 5 ≤ 7302250) (h : Rl σ σ nd ns nr) (kk : ∀ (σ' : vSg) (τ' : vTa), (∃ nd ns nr, Rl σ' σ' nd ns nr) → Go p l e room_1 s m args below meth c (cells + 1) (slots + 5) Q D cs A ad 58 (shP 0) 4 σ' τ' 1143 (lvL ad b i) []) : Go p l e room_1 s m args below meth c cells slots Q D cs A ad 58 (shP 0) 4 σ τ 1120 (lvL ad b i) [] := by
  refine go_aload_n X dL_law_1120 2 rfl rfl ?_
  refine go_sarg X S (kn := 1) dL_law_1121 dL_law_1122 dL_law_1123 dL_law_1124 dL_law_1125 (by decide) (by omega) ?_
  refine go_callVI X (n := 0) (As := [.int (xs (i + 1))]) (rest := []) (kX6_many l D cs ad 58 0 (by omega) σ τ (xs (i + 1)) nd ns nr h.1) gL_law_X6_many rfl hdX6_many ⟨rfl, rfl, Nat.le_of_ble_eq_true rfl, Nat.le_of_ble_eq_true rfl, (by show cells + 0 ≤ 600000; omega), (by show slots + 0 ≤ 7302250; omega)⟩ (by omega) rfl rfl rfl rfl (Nat.le_of_ble_eq_true rfl) dL_law_1126 (fun r1 σ1 τ1 h1 => ?_)
  have h2 := o_many h (xs (i + 1)) h1
  refine go_aload_n X dL_law_1129 1 rfl rfl ?_
  refine go_sarg X S (kn := 1) dL_law_1130 dL_law_1131 dL_law_1132 dL_law_1133 dL_law_1134 (by decide) (by omega) ?_
  refine go_callVI X (n := 38) (As := [.int (xs (i + 1))]) (rest := [.int r1]) (kX7_many l D cs ad 58 0 (by omega) σ1 τ1 (xs (i + 1)) nd ns nr h2.2.1) gL_law_X7_many rfl hdX7_many ⟨rfl, rfl, Nat.le_of_ble_eq_true rfl, Nat.le_of_ble_eq_true rfl, (by show cells + 0 + 0 ≤ 600000; omega), (by show slots + 0 + 0 ≤ 7302250; omega)⟩ (by omega) rfl rfl rfl rfl (Nat.le_of_ble_eq_true rfl) dL_law_1135 (fun r2 σ2 τ2 h3 => ?_)
  obtain ⟨hr9, hR⟩ := p_many h2 (xs (i + 1)) h1 h3
  refine go_icmp_eq X (tgt := 1143) dL_law_1138 rfl (fun _ => ?_) (fun h9 => absurd hr9 h9)
  exact go_widen (by omega) (by omega) (kk _ _ hR)
end LANES
