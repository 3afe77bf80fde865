/-! the law's cases 0 to 8 -/
set_option maxRecDepth 100000 in
theorem cs_feed {g : hc_G} {Ln : Nat} {xs : Nat → Int32} {k : Nat} {ac : Nat × Nat} {Λ : hc_L} {I : hc_I} {L : hc_J} {R : hc_R} {S : HS} (a : AtK g Ln xs k ac Λ I L R S) (K : Kt g k) : GW g ac 152 (lS (6 * k)) [] Λ I L R := by
  obtain ⟨G, hL, hk, hb0, hH, hM, hP⟩ := id a
  refine GW_aloadn G 1 dL_law_152 rfl rfl ?_
  refine GW_arg G (i := 6 * k) (n := 1) dL_law_153 dL_law_154 dL_law_155 dL_law_156 dL_law_157 rfl (by decide) rfl (by omega) ?_
  refine GW_arg G (i := 6 * k) (n := 2) dL_law_158 dL_law_159 dL_law_160 dL_law_161 dL_law_162 rfl (by decide) rfl (by omega) ?_
  refine GW_arg G (i := 6 * k) (n := 3) dL_law_163 dL_law_164 dL_law_165 dL_law_166 dL_law_167 rfl (by decide) rfl (by omega) ?_
  refine GW_arg G (i := 6 * k) (n := 4) dL_law_168 dL_law_169 dL_law_170 dL_law_171 dL_law_172 rfl (by decide) rfl (by omega) ?_
  refine GW_arg G (i := 6 * k) (n := 5) dL_law_173 dL_law_174 dL_law_175 dL_law_176 dL_law_177 rfl (by decide) rfl (by omega) ?_
  refine GW_x a (As := [.int (xs (6 * k + 1)), .int (xs (6 * k + 2)), .int (xs (6 * k + 3)), .int (xs (6 * k + 4)), .int (xs (6 * k + 5))]) (h_feed hH (xs (6 * k + 1)) (xs (6 * k + 2)) (xs (6 * k + 3)) (xs (6 * k + 4)) (xs (6 * k + 5))) YX10_feed rfl dL_law_178 mlL_13 rfl (Nat.le_of_ble_eq_true rfl) ⟨Nat.le_of_ble_eq_true rfl, Nat.le_of_ble_eq_true rfl⟩ rfl (fun ac2 Λ2 I2 L2 R2 hb hH2 hM2 => ?_)
  refine GW_aloadn G 2 dL_law_181 rfl rfl ?_
  refine GW_arg G (i := 6 * k) (n := 1) dL_law_182 dL_law_183 dL_law_184 dL_law_185 dL_law_186 rfl (by decide) rfl (by omega) ?_
  refine GW_arg G (i := 6 * k) (n := 2) dL_law_187 dL_law_188 dL_law_189 dL_law_190 dL_law_191 rfl (by decide) rfl (by omega) ?_
  refine GW_arg G (i := 6 * k) (n := 3) dL_law_192 dL_law_193 dL_law_194 dL_law_195 dL_law_196 rfl (by decide) rfl (by omega) ?_
  refine GW_arg G (i := 6 * k) (n := 4) dL_law_197 dL_law_198 dL_law_199 dL_law_200 dL_law_201 rfl (by decide) rfl (by omega) ?_
  refine GW_arg G (i := 6 * k) (n := 5) dL_law_202 dL_law_203 dL_law_204 dL_law_205 dL_law_206 rfl (by decide) rfl (by omega) ?_
  refine GW_m G hk hb hH2 (As := [.int (xs (6 * k + 1)), .int (xs (6 * k + 2)), .int (xs (6 * k + 3)), .int (xs (6 * k + 4)), .int (xs (6 * k + 5))]) (m_feed hM2 (xs (6 * k + 1)) (xs (6 * k + 2)) (xs (6 * k + 3)) (xs (6 * k + 4)) (xs (6 * k + 5))) YX11_feed rfl dL_law_207 mlL_17 rfl (Nat.le_of_ble_eq_true rfl) ⟨rfl, rfl⟩ (Nat.le_of_ble_eq_true rfl) rfl (fun I3 L3 hH3 hM3 => ?_)
  exact GW_tI G dL_law_210 rfl (K _ _ _ _ _ _ hb hH3 hM3 ((hP.feed _ _ _ _ _).mono (Nat.le_succ k)))
set_option maxRecDepth 100000 in
theorem cs_end {g : hc_G} {Ln : Nat} {xs : Nat → Int32} {k : Nat} {ac : Nat × Nat} {Λ : hc_L} {I : hc_I} {L : hc_J} {R : hc_R} {S : HS} (a : AtK g Ln xs k ac Λ I L R S) (K : Kt g k) : GW g ac 215 (lS (6 * k)) [] Λ I L R := by
  obtain ⟨G, hL, hk, hb0, hH, hM, hP⟩ := id a
  refine GW_aloadn G 1 dL_law_215 rfl rfl ?_
  refine GW_arg G (i := 6 * k) (n := 1) dL_law_216 dL_law_217 dL_law_218 dL_law_219 dL_law_220 rfl (by decide) rfl (by omega) ?_
  refine GW_x a (As := [.int (xs (6 * k + 1))]) (h_end hH (xs (6 * k + 1))) YX10_end rfl dL_law_221 mlL_18 rfl (Nat.le_of_ble_eq_true rfl) ⟨Nat.le_of_ble_eq_true rfl, Nat.le_of_ble_eq_true rfl⟩ rfl (fun ac2 Λ2 I2 L2 R2 hb hH2 hM2 => ?_)
  refine GW_aloadn G 2 dL_law_224 rfl rfl ?_
  refine GW_arg G (i := 6 * k) (n := 1) dL_law_225 dL_law_226 dL_law_227 dL_law_228 dL_law_229 rfl (by decide) rfl (by omega) ?_
  refine GW_m G hk hb hH2 (As := [.int (xs (6 * k + 1))]) (m_end hM2 (xs (6 * k + 1))) YX11_end rfl dL_law_230 mlL_22 rfl (Nat.le_of_ble_eq_true rfl) ⟨rfl, rfl⟩ (Nat.le_of_ble_eq_true rfl) rfl (fun I3 L3 hH3 hM3 => ?_)
  exact GW_tI G dL_law_233 rfl (K _ _ _ _ _ _ hb hH3 hM3 ((hP.nd _).mono (Nat.le_succ k)))
set_option maxRecDepth 100000 in
theorem cs_book {g : hc_G} {Ln : Nat} {xs : Nat → Int32} {k : Nat} {ac : Nat × Nat} {Λ : hc_L} {I : hc_I} {L : hc_J} {R : hc_R} {S : HS} (a : AtK g Ln xs k ac Λ I L R S) (K : Kt g k) : GW g ac 238 (lS (6 * k)) [] Λ I L R := by
  obtain ⟨G, hL, hk, hb0, hH, hM, hP⟩ := id a
  refine GW_aloadn G 1 dL_law_238 rfl rfl ?_
  have h0 : ∀ er, ∃ x, bkR S er = some x := fun er => pBk_some (n := sN S) (fun j hj => kd_far a.b hj) 700 0 _ _ (by have := hH.n7; omega)
  obtain ⟨X, hX⟩ := Classical.axiomOfChoice h0
  refine GW_y a (As := []) (T := fun v' S2 => ∃ er, v' = .int (qBook (X er)) ∧ S2 = nBook S (X er)) (h_book hH a.l hX) (fun r Λ' I' L' R' q => by obtain ⟨er, q⟩ := q; exact ⟨_, _, ⟨er, rfl, rfl⟩, q⟩) YX10_book rfl dL_law_239 mlL_23 rfl (Nat.le_of_ble_eq_true rfl) ⟨Nat.le_of_ble_eq_true rfl, Nat.le_of_ble_eq_true rfl⟩ rfl (fun v S2 ac2 Λ2 I2 L2 R2 hT hb hH2 hM2 => ?_)
  obtain ⟨er, rfl, rfl⟩ := hT
  have hok : ∀ q, X er = .inr q → wf q.2.1 ∧ lpOk q.2.2 := fun q e => by rw [e] at hH2; exact ⟨hH2.s.w, hH2.p⟩
  refine GW_aloadn G 2 dL_law_242 rfl rfl ?_
  refine GW_m G hk hb hH2 (As := []) (m_book hM2 (hX er) hok) YX11_book rfl dL_law_243 mlL_27 rfl (Nat.le_of_ble_eq_true rfl) ⟨rfl, rfl⟩ (Nat.le_of_ble_eq_true rfl) rfl (fun I3 L3 hH3 hM3 => ?_)
  exact GW_tI G dL_law_246 rfl (K _ _ _ _ _ _ hb hH3 hM3 (hP.book a.b (hX er)))
set_option maxRecDepth 100000 in
theorem cs_join {g : hc_G} {Ln : Nat} {xs : Nat → Int32} {k : Nat} {ac : Nat × Nat} {Λ : hc_L} {I : hc_I} {L : hc_J} {R : hc_R} {S : HS} (a : AtK g Ln xs k ac Λ I L R S) (K : Kt g k) : GW g ac 251 (lS (6 * k)) [] Λ I L R := by
  obtain ⟨G, hL, hk, hb0, hH, hM, hP⟩ := id a
  refine GW_aloadn G 1 dL_law_251 rfl rfl ?_
  have h0 : ∀ P, ∃ x, jnR S P = some x := fun P => by
    unfold jnR pJn
    split
    · exact ⟨_, rfl⟩
    · exact pJl_some 24 _ _ _ (Nat.le_add_left _ _)
  obtain ⟨X, hX⟩ := Classical.axiomOfChoice h0
  refine GW_y a (As := []) (T := fun v' S2 => ∃ P, v' = .int (qJoin (X P)) ∧ S2 = nJoin S (X P)) (h_join hH a.l hX) (fun r Λ' I' L' R' q => by obtain ⟨P, q⟩ := q; exact ⟨_, _, ⟨P, rfl, rfl⟩, q⟩) YX10_join rfl dL_law_252 mlL_28 rfl (Nat.le_of_ble_eq_true rfl) ⟨Nat.le_of_ble_eq_true rfl, Nat.le_of_ble_eq_true rfl⟩ rfl (fun v S2 ac2 Λ2 I2 L2 R2 hT hb hH2 hM2 => ?_)
  obtain ⟨P, rfl, rfl⟩ := hT
  have hok : ∀ q, X P = .inr q → wf (aJoin q.2.1) := fun q e => by rw [e] at hH2; exact hH2.s.w
  refine GW_aloadn G 2 dL_law_255 rfl rfl ?_
  refine GW_m G hk hb hH2 (As := []) (m_join hM2 a.kp hP.1.2.2.1 (hX P) hok) YX11_join rfl dL_law_256 mlL_31 rfl (Nat.le_of_ble_eq_true rfl) ⟨rfl, rfl⟩ (Nat.le_of_ble_eq_true rfl) rfl (fun I3 L3 hH3 hM3 => ?_)
  exact GW_tI G dL_law_259 rfl (K _ _ _ _ _ _ hb hH3 hM3 (hP.join a.w a.b (hX P) hok))
set_option maxRecDepth 100000 in
theorem cs_fault {g : hc_G} {Ln : Nat} {xs : Nat → Int32} {k : Nat} {ac : Nat × Nat} {Λ : hc_L} {I : hc_I} {L : hc_J} {R : hc_R} {S : HS} (a : AtK g Ln xs k ac Λ I L R S) (K : Kt g k) : GW g ac 264 (lS (6 * k)) [] Λ I L R := by
  obtain ⟨G, hL, hk, hb0, hH, hM, hP⟩ := id a
  refine GW_aloadn G 1 dL_law_264 rfl rfl ?_
  refine GW_arg G (i := 6 * k) (n := 1) dL_law_265 dL_law_266 dL_law_267 dL_law_268 dL_law_269 rfl (by decide) rfl (by omega) ?_
  refine GW_x a (As := [.int (xs (6 * k + 1))]) (h_fault hH (xs (6 * k + 1))) YX10_fault rfl dL_law_270 mlL_32 rfl (Nat.le_of_ble_eq_true rfl) ⟨Nat.le_of_ble_eq_true rfl, Nat.le_of_ble_eq_true rfl⟩ rfl (fun ac2 Λ2 I2 L2 R2 hb hH2 hM2 => ?_)
  refine GW_aloadn G 2 dL_law_273 rfl rfl ?_
  refine GW_arg G (i := 6 * k) (n := 1) dL_law_274 dL_law_275 dL_law_276 dL_law_277 dL_law_278 rfl (by decide) rfl (by omega) ?_
  refine GW_m G hk hb hH2 (As := [.int (xs (6 * k + 1))]) (m_fault hM2 (xs (6 * k + 1))) YX11_fault rfl dL_law_279 mlL_36 rfl (Nat.le_of_ble_eq_true rfl) ⟨rfl, rfl⟩ (Nat.le_of_ble_eq_true rfl) rfl (fun I3 L3 hH3 hM3 => ?_)
  exact GW_tI G dL_law_282 rfl (K _ _ _ _ _ _ hb hH3 hM3 (hP.mono (Nat.le_succ k)))
set_option maxRecDepth 100000 in
theorem cs_named {g : hc_G} {Ln : Nat} {xs : Nat → Int32} {k : Nat} {ac : Nat × Nat} {Λ : hc_L} {I : hc_I} {L : hc_J} {R : hc_R} {S : HS} (a : AtK g Ln xs k ac Λ I L R S) (K : Kt g k) : GW g ac 287 (lS (6 * k)) [] Λ I L R := by
  obtain ⟨G, hL, hk, hb0, hH, hM, hP⟩ := id a
  refine GW_aloadn G 1 dL_law_287 rfl rfl ?_
  refine GW_x a (As := []) (h_named hH) YX10_named rfl dL_law_288 mlL_37 rfl (Nat.le_of_ble_eq_true rfl) ⟨Nat.le_of_ble_eq_true rfl, Nat.le_of_ble_eq_true rfl⟩ rfl (fun ac2 Λ2 I2 L2 R2 hb hH2 hM2 => ?_)
  refine GW_aloadn G 2 dL_law_291 rfl rfl ?_
  refine GW_m G hk hb hH2 (As := []) (m_named hM2 a.2.2.2.2.2.2.1.2.1) YX11_named rfl dL_law_292 mlL_40 rfl (Nat.le_of_ble_eq_true rfl) ⟨rfl, rfl⟩ (Nat.le_of_ble_eq_true rfl) rfl (fun I3 L3 hH3 hM3 => ?_)
  exact GW_tI G dL_law_295 rfl (K _ _ _ _ _ _ hb hH3 hM3 ((hP.tape 0 (sB S)).mono (Nat.le_succ k)))
set_option maxRecDepth 100000 in
theorem cs_storm {g : hc_G} {Ln : Nat} {xs : Nat → Int32} {k : Nat} {ac : Nat × Nat} {Λ : hc_L} {I : hc_I} {L : hc_J} {R : hc_R} {S : HS} (a : AtK g Ln xs k ac Λ I L R S) (K : Kt g k) : GW g ac 300 (lS (6 * k)) [] Λ I L R := by
  obtain ⟨G, hL, hk, hb0, hH, hM, hP⟩ := id a
  refine GW_aloadn G 1 dL_law_300 rfl rfl ?_
  refine GW_arg G (i := 6 * k) (n := 1) dL_law_301 dL_law_302 dL_law_303 dL_law_304 dL_law_305 rfl (by decide) rfl (by omega) ?_
  refine GW_arg G (i := 6 * k) (n := 2) dL_law_306 dL_law_307 dL_law_308 dL_law_309 dL_law_310 rfl (by decide) rfl (by omega) ?_
  refine GW_arg G (i := 6 * k) (n := 3) dL_law_311 dL_law_312 dL_law_313 dL_law_314 dL_law_315 rfl (by decide) rfl (by omega) ?_
  refine GW_arg G (i := 6 * k) (n := 4) dL_law_316 dL_law_317 dL_law_318 dL_law_319 dL_law_320 rfl (by decide) rfl (by omega) ?_
  refine GW_arg G (i := 6 * k) (n := 5) dL_law_321 dL_law_322 dL_law_323 dL_law_324 dL_law_325 rfl (by decide) rfl (by omega) ?_
  refine GW_x a (As := [.int (xs (6 * k + 1)), .int (xs (6 * k + 2)), .int (xs (6 * k + 3)), .int (xs (6 * k + 4)), .int (xs (6 * k + 5))]) (h_storm hH a.l (xs (6 * k + 1)) (xs (6 * k + 2)) (xs (6 * k + 3)) (xs (6 * k + 4)) (xs (6 * k + 5))) YX10_storm rfl dL_law_326 mlL_41 rfl (Nat.le_of_ble_eq_true rfl) ⟨Nat.le_of_ble_eq_true rfl, Nat.le_of_ble_eq_true rfl⟩ rfl (fun ac2 Λ2 I2 L2 R2 hb hH2 hM2 => ?_)
  refine GW_aloadn G 2 dL_law_329 rfl rfl ?_
  refine GW_arg G (i := 6 * k) (n := 1) dL_law_330 dL_law_331 dL_law_332 dL_law_333 dL_law_334 rfl (by decide) rfl (by omega) ?_
  refine GW_arg G (i := 6 * k) (n := 2) dL_law_335 dL_law_336 dL_law_337 dL_law_338 dL_law_339 rfl (by decide) rfl (by omega) ?_
  refine GW_arg G (i := 6 * k) (n := 3) dL_law_340 dL_law_341 dL_law_342 dL_law_343 dL_law_344 rfl (by decide) rfl (by omega) ?_
  refine GW_arg G (i := 6 * k) (n := 4) dL_law_345 dL_law_346 dL_law_347 dL_law_348 dL_law_349 rfl (by decide) rfl (by omega) ?_
  refine GW_arg G (i := 6 * k) (n := 5) dL_law_350 dL_law_351 dL_law_352 dL_law_353 dL_law_354 rfl (by decide) rfl (by omega) ?_
  refine GW_m G hk hb hH2 (As := [.int (xs (6 * k + 1)), .int (xs (6 * k + 2)), .int (xs (6 * k + 3)), .int (xs (6 * k + 4)), .int (xs (6 * k + 5))]) (m_storm hM2 a.kp (xs (6 * k + 1)) (xs (6 * k + 2)) (xs (6 * k + 3)) (xs (6 * k + 4)) (xs (6 * k + 5))) YX11_storm rfl dL_law_355 mlL_44 rfl (Nat.le_of_ble_eq_true rfl) ⟨rfl, rfl⟩ (Nat.le_of_ble_eq_true rfl) rfl (fun I3 L3 hH3 hM3 => ?_)
  exact GW_tI G dL_law_358 rfl (K _ _ _ _ _ _ hb hH3 hM3 (hP.storm a.w _ _ _ _ _))
set_option maxRecDepth 100000 in
theorem cs_leave {g : hc_G} {Ln : Nat} {xs : Nat → Int32} {k : Nat} {ac : Nat × Nat} {Λ : hc_L} {I : hc_I} {L : hc_J} {R : hc_R} {S : HS} (a : AtK g Ln xs k ac Λ I L R S) (K : Kt g k) : GW g ac 363 (lS (6 * k)) [] Λ I L R := by
  obtain ⟨G, hL, hk, hb0, hH, hM, hP⟩ := id a
  refine GW_aloadn G 1 dL_law_363 rfl rfl ?_
  refine GW_arg G (i := 6 * k) (n := 1) dL_law_364 dL_law_365 dL_law_366 dL_law_367 dL_law_368 rfl (by decide) rfl (by omega) ?_
  refine GW_x a (As := [.int (xs (6 * k + 1))]) (h_leave hH (xs (6 * k + 1))) YX10_leave rfl dL_law_369 mlL_45 rfl (Nat.le_of_ble_eq_true rfl) ⟨Nat.le_of_ble_eq_true rfl, Nat.le_of_ble_eq_true rfl⟩ rfl (fun ac2 Λ2 I2 L2 R2 hb hH2 hM2 => ?_)
  refine GW_aloadn G 2 dL_law_372 rfl rfl ?_
  refine GW_arg G (i := 6 * k) (n := 1) dL_law_373 dL_law_374 dL_law_375 dL_law_376 dL_law_377 rfl (by decide) rfl (by omega) ?_
  refine GW_m G hk hb hH2 (As := [.int (xs (6 * k + 1))]) (m_leave hM2 a.kp (xs (6 * k + 1))) YX11_leave rfl dL_law_378 mlL_48 rfl (Nat.le_of_ble_eq_true rfl) ⟨rfl, rfl⟩ (Nat.le_of_ble_eq_true rfl) rfl (fun I3 L3 hH3 hM3 => ?_)
  exact GW_tI G dL_law_381 rfl (K _ _ _ _ _ _ hb hH3 hM3 (hP.leave a.w _))
set_option maxRecDepth 100000 in
theorem cs_close {g : hc_G} {Ln : Nat} {xs : Nat → Int32} {k : Nat} {ac : Nat × Nat} {Λ : hc_L} {I : hc_I} {L : hc_J} {R : hc_R} {S : HS} (a : AtK g Ln xs k ac Λ I L R S) (K : Kt g k) : GW g ac 386 (lS (6 * k)) [] Λ I L R := by
  obtain ⟨G, hL, hk, hb0, hH, hM, hP⟩ := id a
  refine GW_aloadn G 1 dL_law_386 rfl rfl ?_
  refine GW_x a (As := []) (h_close hH a.y a.ys) YX10_close rfl dL_law_387 mlL_49 rfl (Nat.le_of_ble_eq_true rfl) ⟨Nat.le_of_ble_eq_true rfl, Nat.le_of_ble_eq_true rfl⟩ rfl (fun ac2 Λ2 I2 L2 R2 hb hH2 hM2 => ?_)
  refine GW_aloadn G 2 dL_law_390 rfl rfl ?_
  refine GW_m G hk hb hH2 (As := []) (m_close hM2 a.kp a.rb a.y a.ys a.2.2.2.2.2.2.1.2.2.2.1) YX11_close rfl dL_law_391 mlL_53 rfl (Nat.le_of_ble_eq_true rfl) ⟨rfl, rfl⟩ (Nat.le_of_ble_eq_true rfl) rfl (fun I3 L3 hH3 hM3 => ?_)
  exact GW_tL G dL_law_394 dL_law_395 rfl (K _ _ _ _ _ _ hb hH3 hM3 (hP.close a.w))
