/-! THE LAW -/
def x_K1 : Option Value → xH → Prop := fun v _ => v = some (.int 1)
theorem x_Class.ob {h : xH} {Z : xZ} (H : x_Class h Z) : ∃ fs, h[2]? = some (.inr (7, fs)) := by
  obtain ⟨hb, db, E, Wd, nx, fw, lt, A, B, c1, cx, c0, _⟩ := H
  exact ⟨_, c0⟩
theorem x_Model.ob {h : xH} {Z : xZ} (H : x_Model h Z) : ∃ fs, h[372]? = some (.inr (8, fs)) := by
  obtain ⟨M, sd, kp, t, H1, H2⟩ := H
  exact ⟨_, H1.1⟩
def x_Nx (L : Nat) (xs : Nat → Int32) (i : Nat) : Prop := ∀ g Z, g[0]? = some (.inl (0, L, .inl xs)) → x_Class g Z → x_Model g Z → x_ZB (13 * (i + 4)) Z → x_Rn m_L_law 917 [some (.ref 0), some (.ref 2), some (.ref 372), some (.int (nI i))] [] g (393, 12804) x_K1
theorem w_feed {L i : Nat} {xs : Nat → Int32} {g : xH} {Z : xZ} (hL : L ≤ 2048) (hi : i + 4 ≤ L) (gs : g[0]? = some (.inl (0, L, .inl xs))) (HC : x_Class g Z) (HM : x_Model g Z) (hZ : x_ZB (13 * i) Z) (nx : x_Nx L xs i) : x_Rn m_L_law 164 [some (.ref 0), some (.ref 2), some (.ref 372), some (.int (nI i))] [] g (393, 12804) x_K1 := by
  obtain ⟨fC, c0⟩ := HC.ob
  obtain ⟨fM, m0⟩ := HM.ob
  obtain ⟨M, sd, kp, t, CM⟩ := id HM
  refine R_aload_n dL_law_164 rfl ?_
  refine R_aload_n dL_law_165 rfl ?_
  refine R_iload_n dL_law_166 rfl ?_
  refine R_iconst (nI 1) dL_law_167 rfl ?_
  refine R_iaddN dL_law_168 ?_
  refine R_iald dL_law_169 gs rfl (by omega) (by omega) ?_
  refine R_cV1i (N := m_X7_feed) dL_law_170 l_L_13 i_X7_feed c0 (c_feed HC hZ (by omega) (xs (i + 1))) rfl rfl (fun r170 h170 q_170 => ?_)
  obtain ⟨er1, HC, FC⟩ := q_170
  have HM := HM.kept (fun q hq => FC q (Or.inr hq))
  have gs := (FC 0 (Or.inl (by decide))).trans gs
  obtain ⟨fM, m0⟩ := HM.ob
  obtain ⟨M, sd, kp, t, CM⟩ := id HM
  refine R_aload_n dL_law_173 rfl ?_
  refine R_aload_n dL_law_174 rfl ?_
  refine R_iload_n dL_law_175 rfl ?_
  refine R_iconst (nI 1) dL_law_176 rfl ?_
  refine R_iaddN dL_law_177 ?_
  refine R_iald dL_law_178 gs rfl (by omega) (by omega) ?_
  refine R_cV1i (N := m_X8_feed) dL_law_179 l_L_17 i_X8_feed m0 (n_feed CM hZ (by omega) (xs (i + 1))) rfl rfl (fun r179 h179 q_179 => ?_)
  obtain ⟨er2, HM, FD⟩ := q_179
  have HC := HC.kept (fun q hq => FD q hq)
  have gs := (FD 0 (by decide)).trans gs
  have hU := u_feed hZ (by omega) (xs (i + 1))
  refine R_icmpeq 917 dL_law_182 rfl (fun c_182 => ?_) (fun c_182 => ?_)
  · exact nx _ _ gs HC HM (x_ZB.mono hU (by omega))
  · exact absurd (er1.trans er2.symm) c_182
theorem w_manor {L i : Nat} {xs : Nat → Int32} {g : xH} {Z : xZ} (hL : L ≤ 2048) (hi : i + 4 ≤ L) (gs : g[0]? = some (.inl (0, L, .inl xs))) (HC : x_Class g Z) (HM : x_Model g Z) (hZ : x_ZB (13 * i) Z) (nx : x_Nx L xs i) : x_Rn m_L_law 187 [some (.ref 0), some (.ref 2), some (.ref 372), some (.int (nI i))] [] g (393, 12804) x_K1 := by
  obtain ⟨fC, c0⟩ := HC.ob
  obtain ⟨fM, m0⟩ := HM.ob
  obtain ⟨M, sd, kp, t, CM⟩ := id HM
  refine R_aload_n dL_law_187 rfl ?_
  refine R_cV0i (N := m_X7_manor) dL_law_188 l_L_18 i_X7_manor c0 (c_manor HC hZ (by omega)) rfl rfl (fun r188 h188 q_188 => ?_)
  obtain ⟨Z', hm, HC, FC⟩ := q_188
  have HM := HM.kept (fun q hq => FC q (Or.inr hq))
  have gs := (FC 0 (Or.inl (by decide))).trans gs
  obtain ⟨fM, m0⟩ := HM.ob
  obtain ⟨M, sd, kp, t, CM⟩ := id HM
  refine R_aload_n dL_law_191 rfl ?_
  refine R_cV0i (N := m_X8_manor) dL_law_192 l_L_22 i_X8_manor m0 (n_manor CM hZ (by omega) hm) rfl rfl (fun r192 h192 q_192 => ?_)
  obtain ⟨er2, HM, FD⟩ := q_192
  have HC := HC.kept (fun q hq => FD q hq)
  have gs := (FD 0 (by decide)).trans gs
  refine R_icmpeq 917 dL_law_195 rfl (fun c_195 => ?_) (fun c_195 => ?_)
  · exact nx _ _ gs HC HM (x_ZB.mono (hm.ZB hZ) (by omega))
  · exact absurd er2.symm c_195
theorem w_fault {L i : Nat} {xs : Nat → Int32} {g : xH} {Z : xZ} (hL : L ≤ 2048) (hi : i + 4 ≤ L) (gs : g[0]? = some (.inl (0, L, .inl xs))) (HC : x_Class g Z) (HM : x_Model g Z) (hZ : x_ZB (13 * i) Z) (nx : x_Nx L xs i) : x_Rn m_L_law 200 [some (.ref 0), some (.ref 2), some (.ref 372), some (.int (nI i))] [] g (393, 12804) x_K1 := by
  obtain ⟨fC, c0⟩ := HC.ob
  obtain ⟨fM, m0⟩ := HM.ob
  obtain ⟨M, sd, kp, t, CM⟩ := id HM
  refine R_aload_n dL_law_200 rfl ?_
  refine R_cV0p (N := m_X7_fault) dL_law_201 l_L_23 i_X7_fault c0 (c_fault HC hZ (by omega) ) rfl rfl ?_
  refine R_aload_n dL_law_204 rfl ?_
  refine R_cV0p (N := m_X8_fault) dL_law_205 l_L_26 i_X8_fault m0 (n_fault CM hZ (by omega) ) rfl rfl ?_
  refine R_icmpeq 917 dL_law_208 rfl (fun c_208 => ?_) (fun c_208 => ?_)
  · exact nx g Z gs HC HM (x_ZB.mono hZ (by omega))
  · exact absurd rfl c_208
theorem w_told {L i : Nat} {xs : Nat → Int32} {g : xH} {Z : xZ} (hL : L ≤ 2048) (hi : i + 4 ≤ L) (gs : g[0]? = some (.inl (0, L, .inl xs))) (HC : x_Class g Z) (HM : x_Model g Z) (hZ : x_ZB (13 * i) Z) (nx : x_Nx L xs i) : x_Rn m_L_law 213 [some (.ref 0), some (.ref 2), some (.ref 372), some (.int (nI i))] [] g (393, 12804) x_K1 := by
  obtain ⟨fC, c0⟩ := HC.ob
  obtain ⟨fM, m0⟩ := HM.ob
  obtain ⟨M, sd, kp, t, CM⟩ := id HM
  refine R_aload_n dL_law_213 rfl ?_
  refine R_aload_n dL_law_214 rfl ?_
  refine R_iload_n dL_law_215 rfl ?_
  refine R_iconst (nI 1) dL_law_216 rfl ?_
  refine R_iaddN dL_law_217 ?_
  refine R_iald dL_law_218 gs rfl (by omega) (by omega) ?_
  refine R_cV1p (N := m_X7_told) dL_law_219 l_L_27 i_X7_told c0 (c_told HC hZ (by omega) (xs (i + 1))) rfl rfl ?_
  refine R_aload_n dL_law_222 rfl ?_
  refine R_aload_n dL_law_223 rfl ?_
  refine R_iload_n dL_law_224 rfl ?_
  refine R_iconst (nI 1) dL_law_225 rfl ?_
  refine R_iaddN dL_law_226 ?_
  refine R_iald dL_law_227 gs rfl (by omega) (by omega) ?_
  refine R_cV1p (N := m_X8_told) dL_law_228 l_L_30 i_X8_told m0 (n_told CM hZ (by omega) (xs (i + 1))) rfl rfl ?_
  refine R_icmpeq 917 dL_law_231 rfl (fun c_231 => ?_) (fun c_231 => ?_)
  · exact nx g Z gs HC HM (x_ZB.mono hZ (by omega))
  · exact absurd rfl c_231
theorem w_room {L i : Nat} {xs : Nat → Int32} {g : xH} {Z : xZ} (hL : L ≤ 2048) (hi : i + 4 ≤ L) (gs : g[0]? = some (.inl (0, L, .inl xs))) (HC : x_Class g Z) (HM : x_Model g Z) (hZ : x_ZB (13 * i) Z) (nx : x_Nx L xs i) : x_Rn m_L_law 236 [some (.ref 0), some (.ref 2), some (.ref 372), some (.int (nI i))] [] g (393, 12804) x_K1 := by
  obtain ⟨fC, c0⟩ := HC.ob
  obtain ⟨fM, m0⟩ := HM.ob
  obtain ⟨M, sd, kp, t, CM⟩ := id HM
  refine R_aload_n dL_law_236 rfl ?_
  refine R_aload_n dL_law_237 rfl ?_
  refine R_iload_n dL_law_238 rfl ?_
  refine R_iconst (nI 1) dL_law_239 rfl ?_
  refine R_iaddN dL_law_240 ?_
  refine R_iald dL_law_241 gs rfl (by omega) (by omega) ?_
  refine R_aload_n dL_law_242 rfl ?_
  refine R_iload_n dL_law_243 rfl ?_
  refine R_iconst (nI 2) dL_law_244 rfl ?_
  refine R_iaddN dL_law_245 ?_
  refine R_iald dL_law_246 gs rfl (by omega) (by omega) ?_
  refine R_cV2p (N := m_X7_room) dL_law_247 l_L_31 i_X7_room c0 (c_room HC hZ (by omega) (xs (i + 1)) (xs (i + 2))) rfl rfl ?_
  refine R_aload_n dL_law_250 rfl ?_
  refine R_aload_n dL_law_251 rfl ?_
  refine R_iload_n dL_law_252 rfl ?_
  refine R_iconst (nI 1) dL_law_253 rfl ?_
  refine R_iaddN dL_law_254 ?_
  refine R_iald dL_law_255 gs rfl (by omega) (by omega) ?_
  refine R_aload_n dL_law_256 rfl ?_
  refine R_iload_n dL_law_257 rfl ?_
  refine R_iconst (nI 2) dL_law_258 rfl ?_
  refine R_iaddN dL_law_259 ?_
  refine R_iald dL_law_260 gs rfl (by omega) (by omega) ?_
  refine R_cV2p (N := m_X8_room) dL_law_261 l_L_35 i_X8_room m0 (n_room CM hZ (by omega) (xs (i + 1)) (xs (i + 2))) rfl rfl ?_
  refine R_icmpeq 917 dL_law_264 rfl (fun c_264 => ?_) (fun c_264 => ?_)
  · exact nx g Z gs HC HM (x_ZB.mono hZ (by omega))
  · exact absurd rfl c_264
theorem w_door {L i : Nat} {xs : Nat → Int32} {g : xH} {Z : xZ} (hL : L ≤ 2048) (hi : i + 4 ≤ L) (gs : g[0]? = some (.inl (0, L, .inl xs))) (HC : x_Class g Z) (HM : x_Model g Z) (hZ : x_ZB (13 * i) Z) (nx : x_Nx L xs i) : x_Rn m_L_law 269 [some (.ref 0), some (.ref 2), some (.ref 372), some (.int (nI i))] [] g (393, 12804) x_K1 := by
  obtain ⟨fC, c0⟩ := HC.ob
  obtain ⟨fM, m0⟩ := HM.ob
  obtain ⟨M, sd, kp, t, CM⟩ := id HM
  refine R_aload_n dL_law_269 rfl ?_
  refine R_aload_n dL_law_270 rfl ?_
  refine R_iload_n dL_law_271 rfl ?_
  refine R_iconst (nI 1) dL_law_272 rfl ?_
  refine R_iaddN dL_law_273 ?_
  refine R_iald dL_law_274 gs rfl (by omega) (by omega) ?_
  refine R_aload_n dL_law_275 rfl ?_
  refine R_iload_n dL_law_276 rfl ?_
  refine R_iconst (nI 2) dL_law_277 rfl ?_
  refine R_iaddN dL_law_278 ?_
  refine R_iald dL_law_279 gs rfl (by omega) (by omega) ?_
  refine R_cV2p (N := m_X7_door) dL_law_280 l_L_36 i_X7_door c0 (c_door HC hZ (by omega) (xs (i + 1)) (xs (i + 2))) rfl rfl ?_
  refine R_aload_n dL_law_283 rfl ?_
  refine R_aload_n dL_law_284 rfl ?_
  refine R_iload_n dL_law_285 rfl ?_
  refine R_iconst (nI 1) dL_law_286 rfl ?_
  refine R_iaddN dL_law_287 ?_
  refine R_iald dL_law_288 gs rfl (by omega) (by omega) ?_
  refine R_aload_n dL_law_289 rfl ?_
  refine R_iload_n dL_law_290 rfl ?_
  refine R_iconst (nI 2) dL_law_291 rfl ?_
  refine R_iaddN dL_law_292 ?_
  refine R_iald dL_law_293 gs rfl (by omega) (by omega) ?_
  refine R_cV2p (N := m_X8_door) dL_law_294 l_L_39 i_X8_door m0 (n_door CM hZ (by omega) (xs (i + 1)) (xs (i + 2))) rfl rfl ?_
  refine R_icmpeq 917 dL_law_297 rfl (fun c_297 => ?_) (fun c_297 => ?_)
  · exact nx g Z gs HC HM (x_ZB.mono hZ (by omega))
  · exact absurd rfl c_297
theorem w_heir {L i : Nat} {xs : Nat → Int32} {g : xH} {Z : xZ} (hL : L ≤ 2048) (hi : i + 4 ≤ L) (gs : g[0]? = some (.inl (0, L, .inl xs))) (HC : x_Class g Z) (HM : x_Model g Z) (hZ : x_ZB (13 * i) Z) (nx : x_Nx L xs i) : x_Rn m_L_law 302 [some (.ref 0), some (.ref 2), some (.ref 372), some (.int (nI i))] [] g (393, 12804) x_K1 := by
  obtain ⟨fC, c0⟩ := HC.ob
  obtain ⟨fM, m0⟩ := HM.ob
  obtain ⟨M, sd, kp, t, CM⟩ := id HM
  refine R_aload_n dL_law_302 rfl ?_
  refine R_aload_n dL_law_303 rfl ?_
  refine R_iload_n dL_law_304 rfl ?_
  refine R_iconst (nI 1) dL_law_305 rfl ?_
  refine R_iaddN dL_law_306 ?_
  refine R_iald dL_law_307 gs rfl (by omega) (by omega) ?_
  refine R_aload_n dL_law_308 rfl ?_
  refine R_iload_n dL_law_309 rfl ?_
  refine R_iconst (nI 2) dL_law_310 rfl ?_
  refine R_iaddN dL_law_311 ?_
  refine R_iald dL_law_312 gs rfl (by omega) (by omega) ?_
  refine R_cV2p (N := m_X7_heir) dL_law_313 l_L_40 i_X7_heir c0 (c_heir HC hZ (by omega) (xs (i + 1)) (xs (i + 2))) rfl rfl ?_
  refine R_aload_n dL_law_316 rfl ?_
  refine R_aload_n dL_law_317 rfl ?_
  refine R_iload_n dL_law_318 rfl ?_
  refine R_iconst (nI 1) dL_law_319 rfl ?_
  refine R_iaddN dL_law_320 ?_
  refine R_iald dL_law_321 gs rfl (by omega) (by omega) ?_
  refine R_aload_n dL_law_322 rfl ?_
  refine R_iload_n dL_law_323 rfl ?_
  refine R_iconst (nI 2) dL_law_324 rfl ?_
  refine R_iaddN dL_law_325 ?_
  refine R_iald dL_law_326 gs rfl (by omega) (by omega) ?_
  refine R_cV2p (N := m_X8_heir) dL_law_327 l_L_43 i_X8_heir m0 (n_heir CM hZ (by omega) (xs (i + 1)) (xs (i + 2))) rfl rfl ?_
  refine R_icmpeq 917 dL_law_330 rfl (fun c_330 => ?_) (fun c_330 => ?_)
  · exact nx g Z gs HC HM (x_ZB.mono hZ (by omega))
  · exact absurd rfl c_330
theorem w_say {L i : Nat} {xs : Nat → Int32} {g : xH} {Z : xZ} (hL : L ≤ 2048) (hi : i + 4 ≤ L) (gs : g[0]? = some (.inl (0, L, .inl xs))) (HC : x_Class g Z) (HM : x_Model g Z) (hZ : x_ZB (13 * i) Z) (nx : x_Nx L xs i) : x_Rn m_L_law 335 [some (.ref 0), some (.ref 2), some (.ref 372), some (.int (nI i))] [] g (393, 12804) x_K1 := by
  obtain ⟨fC, c0⟩ := HC.ob
  obtain ⟨fM, m0⟩ := HM.ob
  obtain ⟨M, sd, kp, t, CM⟩ := id HM
  refine R_aload_n dL_law_335 rfl ?_
  refine R_aload_n dL_law_336 rfl ?_
  refine R_iload_n dL_law_337 rfl ?_
  refine R_iconst (nI 1) dL_law_338 rfl ?_
  refine R_iaddN dL_law_339 ?_
  refine R_iald dL_law_340 gs rfl (by omega) (by omega) ?_
  refine R_cV1i (N := m_X7_say) dL_law_341 l_L_44 i_X7_say c0 (c_say HC hZ (by omega) (xs (i + 1))) rfl rfl (fun r341 h341 q_341 => ?_)
  obtain ⟨er1, HC, FC⟩ := q_341
  have HM := HM.kept (fun q hq => FC q (Or.inr hq))
  have gs := (FC 0 (Or.inl (by decide))).trans gs
  obtain ⟨fM, m0⟩ := HM.ob
  obtain ⟨M, sd, kp, t, CM⟩ := id HM
  refine R_aload_n dL_law_344 rfl ?_
  refine R_aload_n dL_law_345 rfl ?_
  refine R_iload_n dL_law_346 rfl ?_
  refine R_iconst (nI 1) dL_law_347 rfl ?_
  refine R_iaddN dL_law_348 ?_
  refine R_iald dL_law_349 gs rfl (by omega) (by omega) ?_
  refine R_cV1i (N := m_X8_say) dL_law_350 l_L_47 i_X8_say m0 (n_say CM hZ (by omega) (xs (i + 1))) rfl rfl (fun r350 h350 q_350 => ?_)
  obtain ⟨er2, HM, FD⟩ := q_350
  have HC := HC.kept (fun q hq => FD q hq)
  have gs := (FD 0 (by decide)).trans gs
  have hU := u_say hZ (by omega) (xs (i + 1))
  refine R_icmpeq 917 dL_law_353 rfl (fun c_353 => ?_) (fun c_353 => ?_)
  · exact nx _ _ gs HC HM (x_ZB.mono hU (by omega))
  · exact absurd (er1.trans er2.symm) c_353
theorem w_go {L i : Nat} {xs : Nat → Int32} {g : xH} {Z : xZ} (hL : L ≤ 2048) (hi : i + 4 ≤ L) (gs : g[0]? = some (.inl (0, L, .inl xs))) (HC : x_Class g Z) (HM : x_Model g Z) (hZ : x_ZB (13 * i) Z) (nx : x_Nx L xs i) : x_Rn m_L_law 358 [some (.ref 0), some (.ref 2), some (.ref 372), some (.int (nI i))] [] g (393, 12804) x_K1 := by
  obtain ⟨fC, c0⟩ := HC.ob
  obtain ⟨fM, m0⟩ := HM.ob
  obtain ⟨M, sd, kp, t, CM⟩ := id HM
  refine R_aload_n dL_law_358 rfl ?_
  refine R_aload_n dL_law_359 rfl ?_
  refine R_iload_n dL_law_360 rfl ?_
  refine R_iconst (nI 1) dL_law_361 rfl ?_
  refine R_iaddN dL_law_362 ?_
  refine R_iald dL_law_363 gs rfl (by omega) (by omega) ?_
  refine R_aload_n dL_law_364 rfl ?_
  refine R_iload_n dL_law_365 rfl ?_
  refine R_iconst (nI 2) dL_law_366 rfl ?_
  refine R_iaddN dL_law_367 ?_
  refine R_iald dL_law_368 gs rfl (by omega) (by omega) ?_
  refine R_cV2i (N := m_X7_go) dL_law_369 l_L_48 i_X7_go c0 (c_go HC hZ (by omega) (xs (i + 1)) (xs (i + 2))) rfl rfl (fun r369 h369 q_369 => ?_)
  obtain ⟨er1, HC, FC⟩ := q_369
  have HM := HM.kept (fun q hq => FC q (Or.inr hq))
  have gs := (FC 0 (Or.inl (by decide))).trans gs
  obtain ⟨fM, m0⟩ := HM.ob
  obtain ⟨M, sd, kp, t, CM⟩ := id HM
  refine R_aload_n dL_law_372 rfl ?_
  refine R_aload_n dL_law_373 rfl ?_
  refine R_iload_n dL_law_374 rfl ?_
  refine R_iconst (nI 1) dL_law_375 rfl ?_
  refine R_iaddN dL_law_376 ?_
  refine R_iald dL_law_377 gs rfl (by omega) (by omega) ?_
  refine R_aload_n dL_law_378 rfl ?_
  refine R_iload_n dL_law_379 rfl ?_
  refine R_iconst (nI 2) dL_law_380 rfl ?_
  refine R_iaddN dL_law_381 ?_
  refine R_iald dL_law_382 gs rfl (by omega) (by omega) ?_
  refine R_cV2i (N := m_X8_go) dL_law_383 l_L_51 i_X8_go m0 (n_go CM hZ (by omega) (xs (i + 1)) (xs (i + 2))) rfl rfl (fun r383 h383 q_383 => ?_)
  obtain ⟨er2, HM, FD⟩ := q_383
  have HC := HC.kept (fun q hq => FD q hq)
  have gs := (FD 0 (by decide)).trans gs
  have hU := u_go hZ (by omega) (xs (i + 1)) (xs (i + 2))
  refine R_icmpeq 917 dL_law_386 rfl (fun c_386 => ?_) (fun c_386 => ?_)
  · exact nx _ _ gs HC HM (x_ZB.mono hU (by omega))
  · exact absurd (er1.trans er2.symm) c_386
theorem w_hour {L i : Nat} {xs : Nat → Int32} {g : xH} {Z : xZ} (hL : L ≤ 2048) (hi : i + 4 ≤ L) (gs : g[0]? = some (.inl (0, L, .inl xs))) (HC : x_Class g Z) (HM : x_Model g Z) (hZ : x_ZB (13 * i) Z) (nx : x_Nx L xs i) : x_Rn m_L_law 391 [some (.ref 0), some (.ref 2), some (.ref 372), some (.int (nI i))] [] g (393, 12804) x_K1 := by
  obtain ⟨fC, c0⟩ := HC.ob
  obtain ⟨fM, m0⟩ := HM.ob
  obtain ⟨M, sd, kp, t, CM⟩ := id HM
  refine R_aload_n dL_law_391 rfl ?_
  refine R_aload_n dL_law_392 rfl ?_
  refine R_iload_n dL_law_393 rfl ?_
  refine R_iconst (nI 1) dL_law_394 rfl ?_
  refine R_iaddN dL_law_395 ?_
  refine R_iald dL_law_396 gs rfl (by omega) (by omega) ?_
  refine R_cV1i (N := m_X7_hour) dL_law_397 l_L_52 i_X7_hour c0 (c_hour HC hZ (by omega) (xs (i + 1))) rfl rfl (fun r397 h397 q_397 => ?_)
  obtain ⟨er1, HC, FC⟩ := q_397
  have HM := HM.kept (fun q hq => FC q (Or.inr hq))
  have gs := (FC 0 (Or.inl (by decide))).trans gs
  obtain ⟨fM, m0⟩ := HM.ob
  obtain ⟨M, sd, kp, t, CM⟩ := id HM
  refine R_aload_n dL_law_400 rfl ?_
  refine R_aload_n dL_law_401 rfl ?_
  refine R_iload_n dL_law_402 rfl ?_
  refine R_iconst (nI 1) dL_law_403 rfl ?_
  refine R_iaddN dL_law_404 ?_
  refine R_iald dL_law_405 gs rfl (by omega) (by omega) ?_
  refine R_cV1i (N := m_X8_hour) dL_law_406 l_L_55 i_X8_hour m0 (n_hour CM hZ (by omega) (xs (i + 1))) rfl rfl (fun r406 h406 q_406 => ?_)
  obtain ⟨er2, HM, FD⟩ := q_406
  have HC := HC.kept (fun q hq => FD q hq)
  have gs := (FD 0 (by decide)).trans gs
  have hU := u_hour hZ (by omega) (xs (i + 1))
  refine R_icmpeq 917 dL_law_409 rfl (fun c_409 => ?_) (fun c_409 => ?_)
  · exact nx _ _ gs HC HM (x_ZB.mono hU (by omega))
  · exact absurd (er1.trans er2.symm) c_409
theorem w_out {L i : Nat} {xs : Nat → Int32} {g : xH} {Z : xZ} (hL : L ≤ 2048) (hi : i + 4 ≤ L) (gs : g[0]? = some (.inl (0, L, .inl xs))) (HC : x_Class g Z) (HM : x_Model g Z) (hZ : x_ZB (13 * i) Z) (nx : x_Nx L xs i) : x_Rn m_L_law 414 [some (.ref 0), some (.ref 2), some (.ref 372), some (.int (nI i))] [] g (393, 12804) x_K1 := by
  obtain ⟨fC, c0⟩ := HC.ob
  obtain ⟨fM, m0⟩ := HM.ob
  obtain ⟨M, sd, kp, t, CM⟩ := id HM
  refine R_aload_n dL_law_414 rfl ?_
  refine R_aload_n dL_law_415 rfl ?_
  refine R_iload_n dL_law_416 rfl ?_
  refine R_iconst (nI 1) dL_law_417 rfl ?_
  refine R_iaddN dL_law_418 ?_
  refine R_iald dL_law_419 gs rfl (by omega) (by omega) ?_
  refine R_cV1i (N := m_X7_out) dL_law_420 l_L_56 i_X7_out c0 (c_out HC hZ (by omega) (xs (i + 1))) rfl rfl (fun r420 h420 q_420 => ?_)
  obtain ⟨er1, HC, FC⟩ := q_420
  have HM := HM.kept (fun q hq => FC q (Or.inr hq))
  have gs := (FC 0 (Or.inl (by decide))).trans gs
  obtain ⟨fM, m0⟩ := HM.ob
  obtain ⟨M, sd, kp, t, CM⟩ := id HM
  refine R_aload_n dL_law_423 rfl ?_
  refine R_aload_n dL_law_424 rfl ?_
  refine R_iload_n dL_law_425 rfl ?_
  refine R_iconst (nI 1) dL_law_426 rfl ?_
  refine R_iaddN dL_law_427 ?_
  refine R_iald dL_law_428 gs rfl (by omega) (by omega) ?_
  refine R_cV1i (N := m_X8_out) dL_law_429 l_L_59 i_X8_out m0 (n_out CM hZ (by omega) (xs (i + 1))) rfl rfl (fun r429 h429 q_429 => ?_)
  obtain ⟨er2, HM, FD⟩ := q_429
  have HC := HC.kept (fun q hq => FD q hq)
  have gs := (FD 0 (by decide)).trans gs
  have hU := u_out hZ (by omega) (xs (i + 1))
  refine R_icmpeq 917 dL_law_432 rfl (fun c_432 => ?_) (fun c_432 => ?_)
  · exact nx _ _ gs HC HM (x_ZB.mono hU (by omega))
  · exact absurd (er1.trans er2.symm) c_432
theorem w_light {L i : Nat} {xs : Nat → Int32} {g : xH} {Z : xZ} (hL : L ≤ 2048) (hi : i + 4 ≤ L) (gs : g[0]? = some (.inl (0, L, .inl xs))) (HC : x_Class g Z) (HM : x_Model g Z) (hZ : x_ZB (13 * i) Z) (nx : x_Nx L xs i) : x_Rn m_L_law 437 [some (.ref 0), some (.ref 2), some (.ref 372), some (.int (nI i))] [] g (393, 12804) x_K1 := by
  obtain ⟨fC, c0⟩ := HC.ob
  obtain ⟨fM, m0⟩ := HM.ob
  obtain ⟨M, sd, kp, t, CM⟩ := id HM
  refine R_aload_n dL_law_437 rfl ?_
  refine R_aload_n dL_law_438 rfl ?_
  refine R_iload_n dL_law_439 rfl ?_
  refine R_iconst (nI 1) dL_law_440 rfl ?_
  refine R_iaddN dL_law_441 ?_
  refine R_iald dL_law_442 gs rfl (by omega) (by omega) ?_
  refine R_cV1i (N := m_X7_light) dL_law_443 l_L_60 i_X7_light c0 (c_light HC hZ (by omega) (xs (i + 1))) rfl rfl (fun r443 h443 q_443 => ?_)
  obtain ⟨er1, HC, FC⟩ := q_443
  have HM := HM.kept (fun q hq => FC q (Or.inr hq))
  have gs := (FC 0 (Or.inl (by decide))).trans gs
  obtain ⟨fM, m0⟩ := HM.ob
  obtain ⟨M, sd, kp, t, CM⟩ := id HM
  refine R_aload_n dL_law_446 rfl ?_
  refine R_aload_n dL_law_447 rfl ?_
  refine R_iload_n dL_law_448 rfl ?_
  refine R_iconst (nI 1) dL_law_449 rfl ?_
  refine R_iaddN dL_law_450 ?_
  refine R_iald dL_law_451 gs rfl (by omega) (by omega) ?_
  refine R_cV1i (N := m_X8_light) dL_law_452 l_L_63 i_X8_light m0 (n_light CM hZ (by omega) (xs (i + 1))) rfl rfl (fun r452 h452 q_452 => ?_)
  obtain ⟨er2, HM, FD⟩ := q_452
  have HC := HC.kept (fun q hq => FD q hq)
  have gs := (FD 0 (by decide)).trans gs
  have hU := u_light hZ (by omega) (xs (i + 1))
  refine R_icmpeq 917 dL_law_455 rfl (fun c_455 => ?_) (fun c_455 => ?_)
  · exact nx _ _ gs HC HM (x_ZB.mono hU (by omega))
  · exact absurd (er1.trans er2.symm) c_455
theorem w_candle {L i : Nat} {xs : Nat → Int32} {g : xH} {Z : xZ} (hL : L ≤ 2048) (hi : i + 4 ≤ L) (gs : g[0]? = some (.inl (0, L, .inl xs))) (HC : x_Class g Z) (HM : x_Model g Z) (hZ : x_ZB (13 * i) Z) (nx : x_Nx L xs i) : x_Rn m_L_law 460 [some (.ref 0), some (.ref 2), some (.ref 372), some (.int (nI i))] [] g (393, 12804) x_K1 := by
  obtain ⟨fC, c0⟩ := HC.ob
  obtain ⟨fM, m0⟩ := HM.ob
  obtain ⟨M, sd, kp, t, CM⟩ := id HM
  refine R_aload_n dL_law_460 rfl ?_
  refine R_aload_n dL_law_461 rfl ?_
  refine R_iload_n dL_law_462 rfl ?_
  refine R_iconst (nI 1) dL_law_463 rfl ?_
  refine R_iaddN dL_law_464 ?_
  refine R_iald dL_law_465 gs rfl (by omega) (by omega) ?_
  refine R_aload_n dL_law_466 rfl ?_
  refine R_iload_n dL_law_467 rfl ?_
  refine R_iconst (nI 2) dL_law_468 rfl ?_
  refine R_iaddN dL_law_469 ?_
  refine R_iald dL_law_470 gs rfl (by omega) (by omega) ?_
  refine R_cV2i (N := m_X7_candle) dL_law_471 l_L_64 i_X7_candle c0 (c_candle HC hZ (by omega) (xs (i + 1)) (xs (i + 2))) rfl rfl (fun r471 h471 q_471 => ?_)
  obtain ⟨er1, HC, FC⟩ := q_471
  have HM := HM.kept (fun q hq => FC q (Or.inr hq))
  have gs := (FC 0 (Or.inl (by decide))).trans gs
  obtain ⟨fM, m0⟩ := HM.ob
  obtain ⟨M, sd, kp, t, CM⟩ := id HM
  refine R_aload_n dL_law_474 rfl ?_
  refine R_aload_n dL_law_475 rfl ?_
  refine R_iload_n dL_law_476 rfl ?_
  refine R_iconst (nI 1) dL_law_477 rfl ?_
  refine R_iaddN dL_law_478 ?_
  refine R_iald dL_law_479 gs rfl (by omega) (by omega) ?_
  refine R_aload_n dL_law_480 rfl ?_
  refine R_iload_n dL_law_481 rfl ?_
  refine R_iconst (nI 2) dL_law_482 rfl ?_
  refine R_iaddN dL_law_483 ?_
  refine R_iald dL_law_484 gs rfl (by omega) (by omega) ?_
  refine R_cV2i (N := m_X8_candle) dL_law_485 l_L_67 i_X8_candle m0 (n_candle CM hZ (by omega) (xs (i + 1)) (xs (i + 2))) rfl rfl (fun r485 h485 q_485 => ?_)
  obtain ⟨er2, HM, FD⟩ := q_485
  have HC := HC.kept (fun q hq => FD q hq)
  have gs := (FD 0 (by decide)).trans gs
  have hU := u_candle hZ (by omega) (xs (i + 1)) (xs (i + 2))
  refine R_icmpeq 917 dL_law_488 rfl (fun c_488 => ?_) (fun c_488 => ?_)
  · exact nx _ _ gs HC HM (x_ZB.mono hU (by omega))
  · exact absurd (er1.trans er2.symm) c_488
theorem w_drift {L i : Nat} {xs : Nat → Int32} {g : xH} {Z : xZ} (hL : L ≤ 2048) (hi : i + 4 ≤ L) (gs : g[0]? = some (.inl (0, L, .inl xs))) (HC : x_Class g Z) (HM : x_Model g Z) (hZ : x_ZB (13 * i) Z) (nx : x_Nx L xs i) : x_Rn m_L_law 493 [some (.ref 0), some (.ref 2), some (.ref 372), some (.int (nI i))] [] g (393, 12804) x_K1 := by
  obtain ⟨fC, c0⟩ := HC.ob
  obtain ⟨fM, m0⟩ := HM.ob
  obtain ⟨M, sd, kp, t, CM⟩ := id HM
  refine R_aload_n dL_law_493 rfl ?_
  refine R_aload_n dL_law_494 rfl ?_
  refine R_iload_n dL_law_495 rfl ?_
  refine R_iconst (nI 1) dL_law_496 rfl ?_
  refine R_iaddN dL_law_497 ?_
  refine R_iald dL_law_498 gs rfl (by omega) (by omega) ?_
  refine R_cV1i (N := m_X7_drift) dL_law_499 l_L_68 i_X7_drift c0 (c_drift HC hZ (by omega) (xs (i + 1))) rfl rfl (fun r499 h499 q_499 => ?_)
  obtain ⟨er1, HC, FC⟩ := q_499
  have HM := HM.kept (fun q hq => FC q (Or.inr hq))
  have gs := (FC 0 (Or.inl (by decide))).trans gs
  obtain ⟨fM, m0⟩ := HM.ob
  obtain ⟨M, sd, kp, t, CM⟩ := id HM
  refine R_aload_n dL_law_502 rfl ?_
  refine R_aload_n dL_law_503 rfl ?_
  refine R_iload_n dL_law_504 rfl ?_
  refine R_iconst (nI 1) dL_law_505 rfl ?_
  refine R_iaddN dL_law_506 ?_
  refine R_iald dL_law_507 gs rfl (by omega) (by omega) ?_
  refine R_cV1i (N := m_X8_drift) dL_law_508 l_L_71 i_X8_drift m0 (n_drift CM hZ (by omega) (xs (i + 1))) rfl rfl (fun r508 h508 q_508 => ?_)
  obtain ⟨er2, HM, FD⟩ := q_508
  have HC := HC.kept (fun q hq => FD q hq)
  have gs := (FD 0 (by decide)).trans gs
  have hU := u_drift hZ (by omega) (xs (i + 1))
  refine R_icmpeq 917 dL_law_511 rfl (fun c_511 => ?_) (fun c_511 => ?_)
  · exact nx _ _ gs HC HM (x_ZB.mono hU (by omega))
  · exact absurd (er1.trans er2.symm) c_511
theorem w_undo {L i : Nat} {xs : Nat → Int32} {g : xH} {Z : xZ} (hL : L ≤ 2048) (hi : i + 4 ≤ L) (gs : g[0]? = some (.inl (0, L, .inl xs))) (HC : x_Class g Z) (HM : x_Model g Z) (hZ : x_ZB (13 * i) Z) (nx : x_Nx L xs i) : x_Rn m_L_law 516 [some (.ref 0), some (.ref 2), some (.ref 372), some (.int (nI i))] [] g (393, 12804) x_K1 := by
  obtain ⟨fC, c0⟩ := HC.ob
  obtain ⟨fM, m0⟩ := HM.ob
  obtain ⟨M, sd, kp, t, CM⟩ := id HM
  refine R_aload_n dL_law_516 rfl ?_
  refine R_aload_n dL_law_517 rfl ?_
  refine R_iload_n dL_law_518 rfl ?_
  refine R_iconst (nI 1) dL_law_519 rfl ?_
  refine R_iaddN dL_law_520 ?_
  refine R_iald dL_law_521 gs rfl (by omega) (by omega) ?_
  refine R_cV1i (N := m_X7_undo) dL_law_522 l_L_72 i_X7_undo c0 (c_undo HC hZ (by omega) (xs (i + 1))) rfl rfl (fun r522 h522 q_522 => ?_)
  obtain ⟨er1, HC, FC⟩ := q_522
  have HM := HM.kept (fun q hq => FC q (Or.inr hq))
  have gs := (FC 0 (Or.inl (by decide))).trans gs
  obtain ⟨fM, m0⟩ := HM.ob
  obtain ⟨M, sd, kp, t, CM⟩ := id HM
  refine R_aload_n dL_law_525 rfl ?_
  refine R_aload_n dL_law_526 rfl ?_
  refine R_iload_n dL_law_527 rfl ?_
  refine R_iconst (nI 1) dL_law_528 rfl ?_
  refine R_iaddN dL_law_529 ?_
  refine R_iald dL_law_530 gs rfl (by omega) (by omega) ?_
  refine R_cV1i (N := m_X8_undo) dL_law_531 l_L_75 i_X8_undo m0 (n_undo CM hZ (by omega) (xs (i + 1))) rfl rfl (fun r531 h531 q_531 => ?_)
  obtain ⟨er2, HM, FD⟩ := q_531
  have HC := HC.kept (fun q hq => FD q hq)
  have gs := (FD 0 (by decide)).trans gs
  have hU := u_undo hZ (by omega) (xs (i + 1))
  refine R_icmpeq 917 dL_law_534 rfl (fun c_534 => ?_) (fun c_534 => ?_)
  · exact nx _ _ gs HC HM (x_ZB.mono hU (by omega))
  · exact absurd (er1.trans er2.symm) c_534
theorem w_wall {L i : Nat} {xs : Nat → Int32} {g : xH} {Z : xZ} (hL : L ≤ 2048) (hi : i + 4 ≤ L) (gs : g[0]? = some (.inl (0, L, .inl xs))) (HC : x_Class g Z) (HM : x_Model g Z) (hZ : x_ZB (13 * i) Z) (nx : x_Nx L xs i) : x_Rn m_L_law 539 [some (.ref 0), some (.ref 2), some (.ref 372), some (.int (nI i))] [] g (393, 12804) x_K1 := by
  obtain ⟨fC, c0⟩ := HC.ob
  obtain ⟨fM, m0⟩ := HM.ob
  obtain ⟨M, sd, kp, t, CM⟩ := id HM
  refine R_aload_n dL_law_539 rfl ?_
  refine R_aload_n dL_law_540 rfl ?_
  refine R_iload_n dL_law_541 rfl ?_
  refine R_iconst (nI 1) dL_law_542 rfl ?_
  refine R_iaddN dL_law_543 ?_
  refine R_iald dL_law_544 gs rfl (by omega) (by omega) ?_
  refine R_aload_n dL_law_545 rfl ?_
  refine R_iload_n dL_law_546 rfl ?_
  refine R_iconst (nI 2) dL_law_547 rfl ?_
  refine R_iaddN dL_law_548 ?_
  refine R_iald dL_law_549 gs rfl (by omega) (by omega) ?_
  refine R_cV2p (N := m_X7_wall) dL_law_550 l_L_76 i_X7_wall c0 (c_wall HC hZ (by omega) (xs (i + 1)) (xs (i + 2))) rfl rfl ?_
  refine R_aload_n dL_law_553 rfl ?_
  refine R_aload_n dL_law_554 rfl ?_
  refine R_iload_n dL_law_555 rfl ?_
  refine R_iconst (nI 1) dL_law_556 rfl ?_
  refine R_iaddN dL_law_557 ?_
  refine R_iald dL_law_558 gs rfl (by omega) (by omega) ?_
  refine R_aload_n dL_law_559 rfl ?_
  refine R_iload_n dL_law_560 rfl ?_
  refine R_iconst (nI 2) dL_law_561 rfl ?_
  refine R_iaddN dL_law_562 ?_
  refine R_iald dL_law_563 gs rfl (by omega) (by omega) ?_
  refine R_cV2p (N := m_X8_wall) dL_law_564 l_L_79 i_X8_wall m0 (n_wall CM hZ (by omega) (xs (i + 1)) (xs (i + 2))) rfl rfl ?_
  refine R_icmpeq 917 dL_law_567 rfl (fun c_567 => ?_) (fun c_567 => ?_)
  · exact nx g Z gs HC HM (x_ZB.mono hZ (by omega))
  · exact absurd rfl c_567
theorem w_way {L i : Nat} {xs : Nat → Int32} {g : xH} {Z : xZ} (hL : L ≤ 2048) (hi : i + 4 ≤ L) (gs : g[0]? = some (.inl (0, L, .inl xs))) (HC : x_Class g Z) (HM : x_Model g Z) (hZ : x_ZB (13 * i) Z) (nx : x_Nx L xs i) : x_Rn m_L_law 572 [some (.ref 0), some (.ref 2), some (.ref 372), some (.int (nI i))] [] g (393, 12804) x_K1 := by
  obtain ⟨fC, c0⟩ := HC.ob
  obtain ⟨fM, m0⟩ := HM.ob
  obtain ⟨M, sd, kp, t, CM⟩ := id HM
  refine R_aload_n dL_law_572 rfl ?_
  refine R_aload_n dL_law_573 rfl ?_
  refine R_iload_n dL_law_574 rfl ?_
  refine R_iconst (nI 1) dL_law_575 rfl ?_
  refine R_iaddN dL_law_576 ?_
  refine R_iald dL_law_577 gs rfl (by omega) (by omega) ?_
  refine R_aload_n dL_law_578 rfl ?_
  refine R_iload_n dL_law_579 rfl ?_
  refine R_iconst (nI 2) dL_law_580 rfl ?_
  refine R_iaddN dL_law_581 ?_
  refine R_iald dL_law_582 gs rfl (by omega) (by omega) ?_
  refine R_cV2p (N := m_X7_way) dL_law_583 l_L_80 i_X7_way c0 (c_way HC hZ (by omega) (xs (i + 1)) (xs (i + 2))) rfl rfl ?_
  refine R_aload_n dL_law_586 rfl ?_
  refine R_aload_n dL_law_587 rfl ?_
  refine R_iload_n dL_law_588 rfl ?_
  refine R_iconst (nI 1) dL_law_589 rfl ?_
  refine R_iaddN dL_law_590 ?_
  refine R_iald dL_law_591 gs rfl (by omega) (by omega) ?_
  refine R_aload_n dL_law_592 rfl ?_
  refine R_iload_n dL_law_593 rfl ?_
  refine R_iconst (nI 2) dL_law_594 rfl ?_
  refine R_iaddN dL_law_595 ?_
  refine R_iald dL_law_596 gs rfl (by omega) (by omega) ?_
  refine R_cV2p (N := m_X8_way) dL_law_597 l_L_83 i_X8_way m0 (n_way CM hZ (by omega) (xs (i + 1)) (xs (i + 2))) rfl rfl ?_
  refine R_icmpeq 917 dL_law_600 rfl (fun c_600 => ?_) (fun c_600 => ?_)
  · exact nx g Z gs HC HM (x_ZB.mono hZ (by omega))
  · exact absurd rfl c_600
theorem w_fewest {L i : Nat} {xs : Nat → Int32} {g : xH} {Z : xZ} (hL : L ≤ 2048) (hi : i + 4 ≤ L) (gs : g[0]? = some (.inl (0, L, .inl xs))) (HC : x_Class g Z) (HM : x_Model g Z) (hZ : x_ZB (13 * i) Z) (nx : x_Nx L xs i) : x_Rn m_L_law 605 [some (.ref 0), some (.ref 2), some (.ref 372), some (.int (nI i))] [] g (393, 12804) x_K1 := by
  obtain ⟨fC, c0⟩ := HC.ob
  obtain ⟨fM, m0⟩ := HM.ob
  obtain ⟨M, sd, kp, t, CM⟩ := id HM
  refine R_aload_n dL_law_605 rfl ?_
  refine R_aload_n dL_law_606 rfl ?_
  refine R_iload_n dL_law_607 rfl ?_
  refine R_iconst (nI 1) dL_law_608 rfl ?_
  refine R_iaddN dL_law_609 ?_
  refine R_iald dL_law_610 gs rfl (by omega) (by omega) ?_
  refine R_aload_n dL_law_611 rfl ?_
  refine R_iload_n dL_law_612 rfl ?_
  refine R_iconst (nI 2) dL_law_613 rfl ?_
  refine R_iaddN dL_law_614 ?_
  refine R_iald dL_law_615 gs rfl (by omega) (by omega) ?_
  refine R_aload_n dL_law_616 rfl ?_
  refine R_iload_n dL_law_617 rfl ?_
  refine R_iconst (nI 3) dL_law_618 rfl ?_
  refine R_iaddN dL_law_619 ?_
  refine R_iald dL_law_620 gs rfl (by omega) (by omega) ?_
  refine R_cV3i (N := m_X7_fewest) dL_law_621 l_L_84 i_X7_fewest c0 (c_fewest HC hZ (by omega) (xs (i + 1)) (xs (i + 2)) (xs (i + 3))) rfl rfl (fun r621 h621 q_621 => ?_)
  obtain ⟨hf1, HC, FC⟩ := q_621
  have HM := HM.kept (fun q hq => FC q (Or.inr hq))
  have gs := (FC 0 (Or.inl (by decide))).trans gs
  obtain ⟨fM, m0⟩ := HM.ob
  obtain ⟨M, sd, kp, t, CM⟩ := id HM
  refine R_aload_n dL_law_624 rfl ?_
  refine R_aload_n dL_law_625 rfl ?_
  refine R_iload_n dL_law_626 rfl ?_
  refine R_iconst (nI 1) dL_law_627 rfl ?_
  refine R_iaddN dL_law_628 ?_
  refine R_iald dL_law_629 gs rfl (by omega) (by omega) ?_
  refine R_aload_n dL_law_630 rfl ?_
  refine R_iload_n dL_law_631 rfl ?_
  refine R_iconst (nI 2) dL_law_632 rfl ?_
  refine R_iaddN dL_law_633 ?_
  refine R_iald dL_law_634 gs rfl (by omega) (by omega) ?_
  refine R_aload_n dL_law_635 rfl ?_
  refine R_iload_n dL_law_636 rfl ?_
  refine R_iconst (nI 3) dL_law_637 rfl ?_
  refine R_iaddN dL_law_638 ?_
  refine R_iald dL_law_639 gs rfl (by omega) (by omega) ?_
  refine R_cV3i (N := m_X8_fewest) dL_law_640 l_L_88 i_X8_fewest m0 (n_fewest CM hZ (by omega) (xs (i + 1)) (xs (i + 2)) (xs (i + 3))) rfl rfl (fun r640 h640 q_640 => ?_)
  obtain ⟨hf2, HM, FD⟩ := q_640
  have HC := HC.kept (fun q hq => FD q hq)
  have gs := (FD 0 (by decide)).trans gs
  refine R_icmpeq 917 dL_law_643 rfl (fun c_643 => ?_) (fun c_643 => ?_)
  · exact nx _ _ gs HC HM (x_ZB.mono hZ (by omega))
  · exact absurd (x_few_eq hZ hf1 hf2) c_643
theorem w_reading {L i : Nat} {xs : Nat → Int32} {g : xH} {Z : xZ} (hL : L ≤ 2048) (hi : i + 4 ≤ L) (gs : g[0]? = some (.inl (0, L, .inl xs))) (HC : x_Class g Z) (HM : x_Model g Z) (hZ : x_ZB (13 * i) Z) (nx : x_Nx L xs i) : x_Rn m_L_law 648 [some (.ref 0), some (.ref 2), some (.ref 372), some (.int (nI i))] [] g (393, 12804) x_K1 := by
  obtain ⟨fC, c0⟩ := HC.ob
  obtain ⟨fM, m0⟩ := HM.ob
  obtain ⟨M, sd, kp, t, CM⟩ := id HM
  refine R_aload_n dL_law_648 rfl ?_
  refine R_aload_n dL_law_649 rfl ?_
  refine R_iload_n dL_law_650 rfl ?_
  refine R_iconst (nI 1) dL_law_651 rfl ?_
  refine R_iaddN dL_law_652 ?_
  refine R_iald dL_law_653 gs rfl (by omega) (by omega) ?_
  refine R_aload_n dL_law_654 rfl ?_
  refine R_iload_n dL_law_655 rfl ?_
  refine R_iconst (nI 2) dL_law_656 rfl ?_
  refine R_iaddN dL_law_657 ?_
  refine R_iald dL_law_658 gs rfl (by omega) (by omega) ?_
  refine R_cV2p (N := m_X7_reading) dL_law_659 l_L_89 i_X7_reading c0 (c_reading HC hZ (by omega) (xs (i + 1)) (xs (i + 2))) rfl rfl ?_
  refine R_aload_n dL_law_662 rfl ?_
  refine R_aload_n dL_law_663 rfl ?_
  refine R_iload_n dL_law_664 rfl ?_
  refine R_iconst (nI 1) dL_law_665 rfl ?_
  refine R_iaddN dL_law_666 ?_
  refine R_iald dL_law_667 gs rfl (by omega) (by omega) ?_
  refine R_aload_n dL_law_668 rfl ?_
  refine R_iload_n dL_law_669 rfl ?_
  refine R_iconst (nI 2) dL_law_670 rfl ?_
  refine R_iaddN dL_law_671 ?_
  refine R_iald dL_law_672 gs rfl (by omega) (by omega) ?_
  refine R_cV2p (N := m_X8_reading) dL_law_673 l_L_92 i_X8_reading m0 (n_reading CM hZ (by omega) (xs (i + 1)) (xs (i + 2))) rfl rfl ?_
  refine R_icmpeq 917 dL_law_676 rfl (fun c_676 => ?_) (fun c_676 => ?_)
  · exact nx g Z gs HC HM (x_ZB.mono hZ (by omega))
  · exact absurd rfl c_676
theorem w_quiet {L i : Nat} {xs : Nat → Int32} {g : xH} {Z : xZ} (hL : L ≤ 2048) (hi : i + 4 ≤ L) (gs : g[0]? = some (.inl (0, L, .inl xs))) (HC : x_Class g Z) (HM : x_Model g Z) (hZ : x_ZB (13 * i) Z) (nx : x_Nx L xs i) : x_Rn m_L_law 681 [some (.ref 0), some (.ref 2), some (.ref 372), some (.int (nI i))] [] g (393, 12804) x_K1 := by
  obtain ⟨fC, c0⟩ := HC.ob
  obtain ⟨fM, m0⟩ := HM.ob
  obtain ⟨M, sd, kp, t, CM⟩ := id HM
  refine R_aload_n dL_law_681 rfl ?_
  refine R_aload_n dL_law_682 rfl ?_
  refine R_iload_n dL_law_683 rfl ?_
  refine R_iconst (nI 1) dL_law_684 rfl ?_
  refine R_iaddN dL_law_685 ?_
  refine R_iald dL_law_686 gs rfl (by omega) (by omega) ?_
  refine R_aload_n dL_law_687 rfl ?_
  refine R_iload_n dL_law_688 rfl ?_
  refine R_iconst (nI 2) dL_law_689 rfl ?_
  refine R_iaddN dL_law_690 ?_
  refine R_iald dL_law_691 gs rfl (by omega) (by omega) ?_
  refine R_cV2p (N := m_X7_quiet) dL_law_692 l_L_93 i_X7_quiet c0 (c_quiet (xs (i + 1)) (xs (i + 2))) rfl rfl ?_
  refine R_aload_n dL_law_695 rfl ?_
  refine R_aload_n dL_law_696 rfl ?_
  refine R_iload_n dL_law_697 rfl ?_
  refine R_iconst (nI 1) dL_law_698 rfl ?_
  refine R_iaddN dL_law_699 ?_
  refine R_iald dL_law_700 gs rfl (by omega) (by omega) ?_
  refine R_aload_n dL_law_701 rfl ?_
  refine R_iload_n dL_law_702 rfl ?_
  refine R_iconst (nI 2) dL_law_703 rfl ?_
  refine R_iaddN dL_law_704 ?_
  refine R_iald dL_law_705 gs rfl (by omega) (by omega) ?_
  refine R_cV2p (N := m_X8_quiet) dL_law_706 l_L_96 i_X8_quiet m0 (n_quiet (xs (i + 1)) (xs (i + 2))) rfl rfl ?_
  refine R_icmpeq 917 dL_law_709 rfl (fun c_709 => ?_) (fun c_709 => ?_)
  · exact nx g Z gs HC HM (x_ZB.mono hZ (by omega))
  · exact absurd rfl c_709
theorem w_see {L i : Nat} {xs : Nat → Int32} {g : xH} {Z : xZ} (hL : L ≤ 2048) (hi : i + 4 ≤ L) (gs : g[0]? = some (.inl (0, L, .inl xs))) (HC : x_Class g Z) (HM : x_Model g Z) (hZ : x_ZB (13 * i) Z) (nx : x_Nx L xs i) : x_Rn m_L_law 714 [some (.ref 0), some (.ref 2), some (.ref 372), some (.int (nI i))] [] g (393, 12804) x_K1 := by
  obtain ⟨fC, c0⟩ := HC.ob
  obtain ⟨fM, m0⟩ := HM.ob
  obtain ⟨M, sd, kp, t, CM⟩ := id HM
  refine R_aload_n dL_law_714 rfl ?_
  refine R_aload_n dL_law_715 rfl ?_
  refine R_iload_n dL_law_716 rfl ?_
  refine R_iconst (nI 1) dL_law_717 rfl ?_
  refine R_iaddN dL_law_718 ?_
  refine R_iald dL_law_719 gs rfl (by omega) (by omega) ?_
  refine R_aload_n dL_law_720 rfl ?_
  refine R_iload_n dL_law_721 rfl ?_
  refine R_iconst (nI 2) dL_law_722 rfl ?_
  refine R_iaddN dL_law_723 ?_
  refine R_iald dL_law_724 gs rfl (by omega) (by omega) ?_
  refine R_ifeq 732 dL_law_725 rfl (fun c_725 => ?_) (fun c_725 => ?_)
  · skip
    refine R_iconst (nI 0) dL_law_732 rfl ?_
    rw [show nI 0 = x_b false from rfl]
    refine R_cV2i (N := m_X7_see) dL_law_733 l_L_97 i_X7_see c0 (c_see HC hZ (by omega) (xs (i + 1)) false) rfl rfl (fun r733 h733 q_733 => ?_)
    obtain ⟨er1, HC, FC⟩ := q_733
    have HM := HM.kept (fun q hq => FC q (Or.inr hq))
    have gs := (FC 0 (Or.inl (by decide))).trans gs
    obtain ⟨fM, m0⟩ := HM.ob
    obtain ⟨M, sd, kp, t, CM⟩ := id HM
    refine R_aload_n dL_law_736 rfl ?_
    refine R_aload_n dL_law_737 rfl ?_
    refine R_iload_n dL_law_738 rfl ?_
    refine R_iconst (nI 1) dL_law_739 rfl ?_
    refine R_iaddN dL_law_740 ?_
    refine R_iald dL_law_741 gs rfl (by omega) (by omega) ?_
    refine R_aload_n dL_law_742 rfl ?_
    refine R_iload_n dL_law_743 rfl ?_
    refine R_iconst (nI 2) dL_law_744 rfl ?_
    refine R_iaddN dL_law_745 ?_
    refine R_iald dL_law_746 gs rfl (by omega) (by omega) ?_
    refine R_ifeq 754 dL_law_747 rfl (fun c_747 => ?_) (fun c_747 => ?_)
    · skip
      refine R_iconst (nI 0) dL_law_754 rfl ?_
      rw [show nI 0 = x_b false from rfl]
      refine R_cV2i (N := m_X8_see) dL_law_755 l_L_101 i_X8_see m0 (n_see CM hZ (by omega) (xs (i + 1)) false) rfl rfl (fun r755 h755 q_755 => ?_)
      obtain ⟨er2, HM, FD⟩ := q_755
      have HC := HC.kept (fun q hq => FD q hq)
      have gs := (FD 0 (by decide)).trans gs
      have hU := u_see hZ (by omega) (xs (i + 1)) false
      refine R_icmpeq 917 dL_law_758 rfl (fun c_758 => ?_) (fun c_758 => ?_)
      · exact nx _ _ gs HC HM (x_ZB.mono hU (by omega))
      · exact absurd (er1.trans er2.symm) c_758
    · exact absurd c_725 c_747
  · skip
    refine R_iconst (nI 1) dL_law_728 rfl ?_
    refine R_goto 733 dL_law_729 rfl ?_
    rw [show nI 1 = x_b true from rfl]
    refine R_cV2i (N := m_X7_see) dL_law_733 l_L_97 i_X7_see c0 (c_see HC hZ (by omega) (xs (i + 1)) true) rfl rfl (fun r733 h733 q_733 => ?_)
    obtain ⟨er1, HC, FC⟩ := q_733
    have HM := HM.kept (fun q hq => FC q (Or.inr hq))
    have gs := (FC 0 (Or.inl (by decide))).trans gs
    obtain ⟨fM, m0⟩ := HM.ob
    obtain ⟨M, sd, kp, t, CM⟩ := id HM
    refine R_aload_n dL_law_736 rfl ?_
    refine R_aload_n dL_law_737 rfl ?_
    refine R_iload_n dL_law_738 rfl ?_
    refine R_iconst (nI 1) dL_law_739 rfl ?_
    refine R_iaddN dL_law_740 ?_
    refine R_iald dL_law_741 gs rfl (by omega) (by omega) ?_
    refine R_aload_n dL_law_742 rfl ?_
    refine R_iload_n dL_law_743 rfl ?_
    refine R_iconst (nI 2) dL_law_744 rfl ?_
    refine R_iaddN dL_law_745 ?_
    refine R_iald dL_law_746 gs rfl (by omega) (by omega) ?_
    refine R_ifeq 754 dL_law_747 rfl (fun c_747 => ?_) (fun c_747 => ?_)
    · exact absurd c_747 c_725
    · skip
      refine R_iconst (nI 1) dL_law_750 rfl ?_
      refine R_goto 755 dL_law_751 rfl ?_
      rw [show nI 1 = x_b true from rfl]
      refine R_cV2i (N := m_X8_see) dL_law_755 l_L_101 i_X8_see m0 (n_see CM hZ (by omega) (xs (i + 1)) true) rfl rfl (fun r755 h755 q_755 => ?_)
      obtain ⟨er2, HM, FD⟩ := q_755
      have HC := HC.kept (fun q hq => FD q hq)
      have gs := (FD 0 (by decide)).trans gs
      have hU := u_see hZ (by omega) (xs (i + 1)) true
      refine R_icmpeq 917 dL_law_758 rfl (fun c_758 => ?_) (fun c_758 => ?_)
      · exact nx _ _ gs HC HM (x_ZB.mono hU (by omega))
      · exact absurd (er1.trans er2.symm) c_758
theorem w_couldBe {L i : Nat} {xs : Nat → Int32} {g : xH} {Z : xZ} (hL : L ≤ 2048) (hi : i + 4 ≤ L) (gs : g[0]? = some (.inl (0, L, .inl xs))) (HC : x_Class g Z) (HM : x_Model g Z) (hZ : x_ZB (13 * i) Z) (nx : x_Nx L xs i) : x_Rn m_L_law 763 [some (.ref 0), some (.ref 2), some (.ref 372), some (.int (nI i))] [] g (393, 12804) x_K1 := by
  obtain ⟨fC, c0⟩ := HC.ob
  obtain ⟨fM, m0⟩ := HM.ob
  obtain ⟨M, sd, kp, t, CM⟩ := id HM
  refine R_aload_n dL_law_763 rfl ?_
  refine R_cV0p (N := m_X7_couldBe) dL_law_764 l_L_102 i_X7_couldBe c0 (c_couldBe HC hZ (by omega) ) rfl rfl ?_
  refine R_aload_n dL_law_767 rfl ?_
  refine R_cV0p (N := m_X8_couldBe) dL_law_768 l_L_105 i_X8_couldBe m0 (n_couldBe CM hZ (by omega) ) rfl rfl ?_
  refine R_icmpeq 917 dL_law_771 rfl (fun c_771 => ?_) (fun c_771 => ?_)
  · exact nx g Z gs HC HM (x_ZB.mono hZ (by omega))
  · exact absurd rfl c_771
theorem w_ask {L i : Nat} {xs : Nat → Int32} {g : xH} {Z : xZ} (hL : L ≤ 2048) (hi : i + 4 ≤ L) (gs : g[0]? = some (.inl (0, L, .inl xs))) (HC : x_Class g Z) (HM : x_Model g Z) (hZ : x_ZB (13 * i) Z) (nx : x_Nx L xs i) : x_Rn m_L_law 776 [some (.ref 0), some (.ref 2), some (.ref 372), some (.int (nI i))] [] g (393, 12804) x_K1 := by
  obtain ⟨fC, c0⟩ := HC.ob
  obtain ⟨fM, m0⟩ := HM.ob
  obtain ⟨M, sd, kp, t, CM⟩ := id HM
  refine R_aload_n dL_law_776 rfl ?_
  refine R_cV0p (N := m_X7_ask) dL_law_777 l_L_106 i_X7_ask c0 (c_ask HC hZ (by omega) ) rfl rfl ?_
  refine R_aload_n dL_law_780 rfl ?_
  refine R_cV0p (N := m_X8_ask) dL_law_781 l_L_109 i_X8_ask m0 (n_ask CM hZ (by omega) ) rfl rfl ?_
  refine R_icmpeq 917 dL_law_784 rfl (fun c_784 => ?_) (fun c_784 => ?_)
  · exact nx g Z gs HC HM (x_ZB.mono hZ (by omega))
  · exact absurd rfl c_784
theorem w_write {L i : Nat} {xs : Nat → Int32} {g : xH} {Z : xZ} (hL : L ≤ 2048) (hi : i + 4 ≤ L) (gs : g[0]? = some (.inl (0, L, .inl xs))) (HC : x_Class g Z) (HM : x_Model g Z) (hZ : x_ZB (13 * i) Z) (nx : x_Nx L xs i) : x_Rn m_L_law 789 [some (.ref 0), some (.ref 2), some (.ref 372), some (.int (nI i))] [] g (393, 12804) x_K1 := by
  obtain ⟨fC, c0⟩ := HC.ob
  obtain ⟨fM, m0⟩ := HM.ob
  obtain ⟨M, sd, kp, t, CM⟩ := id HM
  refine R_aload_n dL_law_789 rfl ?_
  refine R_aload_n dL_law_790 rfl ?_
  refine R_iload_n dL_law_791 rfl ?_
  refine R_iconst (nI 1) dL_law_792 rfl ?_
  refine R_iaddN dL_law_793 ?_
  refine R_iald dL_law_794 gs rfl (by omega) (by omega) ?_
  refine R_aload_n dL_law_795 rfl ?_
  refine R_iload_n dL_law_796 rfl ?_
  refine R_iconst (nI 2) dL_law_797 rfl ?_
  refine R_iaddN dL_law_798 ?_
  refine R_iald dL_law_799 gs rfl (by omega) (by omega) ?_
  refine R_cV2i (N := m_X7_write) dL_law_800 l_L_110 i_X7_write c0 (c_write HC hZ (by omega) (xs (i + 1)) (xs (i + 2))) rfl rfl (fun r800 h800 q_800 => ?_)
  obtain ⟨er1, HC, FC⟩ := q_800
  have HM := HM.kept (fun q hq => FC q (Or.inr hq))
  have gs := (FC 0 (Or.inl (by decide))).trans gs
  obtain ⟨fM, m0⟩ := HM.ob
  obtain ⟨M, sd, kp, t, CM⟩ := id HM
  refine R_aload_n dL_law_803 rfl ?_
  refine R_aload_n dL_law_804 rfl ?_
  refine R_iload_n dL_law_805 rfl ?_
  refine R_iconst (nI 1) dL_law_806 rfl ?_
  refine R_iaddN dL_law_807 ?_
  refine R_iald dL_law_808 gs rfl (by omega) (by omega) ?_
  refine R_aload_n dL_law_809 rfl ?_
  refine R_iload_n dL_law_810 rfl ?_
  refine R_iconst (nI 2) dL_law_811 rfl ?_
  refine R_iaddN dL_law_812 ?_
  refine R_iald dL_law_813 gs rfl (by omega) (by omega) ?_
  refine R_cV2i (N := m_X8_write) dL_law_814 l_L_113 i_X8_write m0 (n_write CM hZ (by omega) (xs (i + 1)) (xs (i + 2))) rfl rfl (fun r814 h814 q_814 => ?_)
  obtain ⟨er2, HM, FD⟩ := q_814
  have HC := HC.kept (fun q hq => FD q hq)
  have gs := (FD 0 (by decide)).trans gs
  have hU := u_write hZ (by omega) (xs (i + 1)) (xs (i + 2))
  refine R_icmpeq 917 dL_law_817 rfl (fun c_817 => ?_) (fun c_817 => ?_)
  · exact nx _ _ gs HC HM (x_ZB.mono hU (by omega))
  · exact absurd (er1.trans er2.symm) c_817
theorem w_judge {L i : Nat} {xs : Nat → Int32} {g : xH} {Z : xZ} (hL : L ≤ 2048) (hi : i + 4 ≤ L) (gs : g[0]? = some (.inl (0, L, .inl xs))) (HC : x_Class g Z) (HM : x_Model g Z) (hZ : x_ZB (13 * i) Z) (nx : x_Nx L xs i) : x_Rn m_L_law 822 [some (.ref 0), some (.ref 2), some (.ref 372), some (.int (nI i))] [] g (393, 12804) x_K1 := by
  obtain ⟨fC, c0⟩ := HC.ob
  obtain ⟨fM, m0⟩ := HM.ob
  obtain ⟨M, sd, kp, t, CM⟩ := id HM
  refine R_aload_n dL_law_822 rfl ?_
  refine R_cV0p (N := m_X7_judge) dL_law_823 l_L_114 i_X7_judge c0 (c_judge HC hZ (by omega) ) rfl rfl ?_
  refine R_aload_n dL_law_826 rfl ?_
  refine R_cV0p (N := m_X8_judge) dL_law_827 l_L_117 i_X8_judge m0 (n_judge CM hZ (by omega) ) rfl rfl ?_
  refine R_icmpeq 917 dL_law_830 rfl (fun c_830 => ?_) (fun c_830 => ?_)
  · exact nx g Z gs HC HM (x_ZB.mono hZ (by omega))
  · exact absurd rfl c_830
theorem w_tear {L i : Nat} {xs : Nat → Int32} {g : xH} {Z : xZ} (hL : L ≤ 2048) (hi : i + 4 ≤ L) (gs : g[0]? = some (.inl (0, L, .inl xs))) (HC : x_Class g Z) (HM : x_Model g Z) (hZ : x_ZB (13 * i) Z) (nx : x_Nx L xs i) : x_Rn m_L_law 835 [some (.ref 0), some (.ref 2), some (.ref 372), some (.int (nI i))] [] g (393, 12804) x_K1 := by
  obtain ⟨fC, c0⟩ := HC.ob
  obtain ⟨fM, m0⟩ := HM.ob
  obtain ⟨M, sd, kp, t, CM⟩ := id HM
  refine R_aload_n dL_law_835 rfl ?_
  refine R_cV0i (N := m_X7_tear) dL_law_836 l_L_118 i_X7_tear c0 (c_tear HC hZ (by omega) ) rfl rfl (fun r836 h836 q_836 => ?_)
  obtain ⟨er1, HC, FC⟩ := q_836
  have HM := HM.kept (fun q hq => FC q (Or.inr hq))
  have gs := (FC 0 (Or.inl (by decide))).trans gs
  obtain ⟨fM, m0⟩ := HM.ob
  obtain ⟨M, sd, kp, t, CM⟩ := id HM
  refine R_aload_n dL_law_839 rfl ?_
  refine R_cV0i (N := m_X8_tear) dL_law_840 l_L_121 i_X8_tear m0 (n_tear CM hZ (by omega) ) rfl rfl (fun r840 h840 q_840 => ?_)
  obtain ⟨er2, HM, FD⟩ := q_840
  have HC := HC.kept (fun q hq => FD q hq)
  have gs := (FD 0 (by decide)).trans gs
  have hU := u_tear hZ (by omega) 
  refine R_icmpeq 917 dL_law_843 rfl (fun c_843 => ?_) (fun c_843 => ?_)
  · exact nx _ _ gs HC HM (x_ZB.mono hU (by omega))
  · exact absurd (er1.trans er2.symm) c_843
theorem w_seed {L i : Nat} {xs : Nat → Int32} {g : xH} {Z : xZ} (hL : L ≤ 2048) (hi : i + 4 ≤ L) (gs : g[0]? = some (.inl (0, L, .inl xs))) (HC : x_Class g Z) (HM : x_Model g Z) (hZ : x_ZB (13 * i) Z) (nx : x_Nx L xs i) : x_Rn m_L_law 848 [some (.ref 0), some (.ref 2), some (.ref 372), some (.int (nI i))] [] g (393, 12804) x_K1 := by
  obtain ⟨fC, c0⟩ := HC.ob
  obtain ⟨fM, m0⟩ := HM.ob
  obtain ⟨M, sd, kp, t, CM⟩ := id HM
  refine R_aload_n dL_law_848 rfl ?_
  refine R_aload_n dL_law_849 rfl ?_
  refine R_iload_n dL_law_850 rfl ?_
  refine R_iconst (nI 1) dL_law_851 rfl ?_
  refine R_iaddN dL_law_852 ?_
  refine R_iald dL_law_853 gs rfl (by omega) (by omega) ?_
  refine R_cV1i (N := m_X7_seed) dL_law_854 l_L_122 i_X7_seed c0 (c_seed HC hZ (by omega) (xs (i + 1))) rfl rfl (fun r854 h854 q_854 => ?_)
  obtain ⟨er1, HC, FC⟩ := q_854
  have HM := HM.kept (fun q hq => FC q (Or.inr hq))
  have gs := (FC 0 (Or.inl (by decide))).trans gs
  obtain ⟨fM, m0⟩ := HM.ob
  obtain ⟨M, sd, kp, t, CM⟩ := id HM
  refine R_aload_n dL_law_857 rfl ?_
  refine R_aload_n dL_law_858 rfl ?_
  refine R_iload_n dL_law_859 rfl ?_
  refine R_iconst (nI 1) dL_law_860 rfl ?_
  refine R_iaddN dL_law_861 ?_
  refine R_iald dL_law_862 gs rfl (by omega) (by omega) ?_
  refine R_cV1i (N := m_X8_seed) dL_law_863 l_L_125 i_X8_seed m0 (n_seed CM hZ (by omega) (xs (i + 1))) rfl rfl (fun r863 h863 q_863 => ?_)
  obtain ⟨er2, HM, FD⟩ := q_863
  have HC := HC.kept (fun q hq => FD q hq)
  have gs := (FD 0 (by decide)).trans gs
  have hU := u_seed hZ (by omega) (xs (i + 1))
  refine R_icmpeq 917 dL_law_866 rfl (fun c_866 => ?_) (fun c_866 => ?_)
  · exact nx _ _ gs HC HM (x_ZB.mono hU (by omega))
  · exact absurd (er1.trans er2.symm) c_866
theorem w_keep {L i : Nat} {xs : Nat → Int32} {g : xH} {Z : xZ} (hL : L ≤ 2048) (hi : i + 4 ≤ L) (gs : g[0]? = some (.inl (0, L, .inl xs))) (HC : x_Class g Z) (HM : x_Model g Z) (hZ : x_ZB (13 * i) Z) (nx : x_Nx L xs i) : x_Rn m_L_law 871 [some (.ref 0), some (.ref 2), some (.ref 372), some (.int (nI i))] [] g (393, 12804) x_K1 := by
  obtain ⟨fC, c0⟩ := HC.ob
  obtain ⟨fM, m0⟩ := HM.ob
  obtain ⟨M, sd, kp, t, CM⟩ := id HM
  refine R_aload_n dL_law_871 rfl ?_
  refine R_aload_n dL_law_872 rfl ?_
  refine R_iload_n dL_law_873 rfl ?_
  refine R_iconst (nI 1) dL_law_874 rfl ?_
  refine R_iaddN dL_law_875 ?_
  refine R_iald dL_law_876 gs rfl (by omega) (by omega) ?_
  refine R_cV1i (N := m_X7_keep) dL_law_877 l_L_126 i_X7_keep c0 (c_keep HC hZ (by omega) (xs (i + 1))) rfl rfl (fun r877 h877 q_877 => ?_)
  obtain ⟨er1, HC, FC⟩ := q_877
  have HM := HM.kept (fun q hq => FC q (Or.inr hq))
  have gs := (FC 0 (Or.inl (by decide))).trans gs
  obtain ⟨fM, m0⟩ := HM.ob
  obtain ⟨M, sd, kp, t, CM⟩ := id HM
  refine R_aload_n dL_law_880 rfl ?_
  refine R_aload_n dL_law_881 rfl ?_
  refine R_iload_n dL_law_882 rfl ?_
  refine R_iconst (nI 1) dL_law_883 rfl ?_
  refine R_iaddN dL_law_884 ?_
  refine R_iald dL_law_885 gs rfl (by omega) (by omega) ?_
  refine R_cV1i (N := m_X8_keep) dL_law_886 l_L_129 i_X8_keep m0 (n_keep CM hZ (by omega) (xs (i + 1))) rfl rfl (fun r886 h886 q_886 => ?_)
  obtain ⟨er2, HM, FD⟩ := q_886
  have HC := HC.kept (fun q hq => FD q hq)
  have gs := (FD 0 (by decide)).trans gs
  have hU := u_keep hZ (by omega) (xs (i + 1))
  refine R_icmpeq 917 dL_law_889 rfl (fun c_889 => ?_) (fun c_889 => ?_)
  · exact nx _ _ gs HC HM (x_ZB.mono hU (by omega))
  · exact absurd (er1.trans er2.symm) c_889
theorem w_goBack {L i : Nat} {xs : Nat → Int32} {g : xH} {Z : xZ} (hL : L ≤ 2048) (hi : i + 4 ≤ L) (gs : g[0]? = some (.inl (0, L, .inl xs))) (HC : x_Class g Z) (HM : x_Model g Z) (hZ : x_ZB (13 * i) Z) (nx : x_Nx L xs i) : x_Rn m_L_law 894 [some (.ref 0), some (.ref 2), some (.ref 372), some (.int (nI i))] [] g (393, 12804) x_K1 := by
  obtain ⟨fC, c0⟩ := HC.ob
  obtain ⟨fM, m0⟩ := HM.ob
  obtain ⟨M, sd, kp, t, CM⟩ := id HM
  refine R_aload_n dL_law_894 rfl ?_
  refine R_aload_n dL_law_895 rfl ?_
  refine R_iload_n dL_law_896 rfl ?_
  refine R_iconst (nI 1) dL_law_897 rfl ?_
  refine R_iaddN dL_law_898 ?_
  refine R_iald dL_law_899 gs rfl (by omega) (by omega) ?_
  refine R_cV1i (N := m_X7_goBack) dL_law_900 l_L_130 i_X7_goBack c0 (c_goBack HC hZ (by omega) (xs (i + 1))) rfl rfl (fun r900 h900 q_900 => ?_)
  obtain ⟨er1, HC, FC⟩ := q_900
  have HM := HM.kept (fun q hq => FC q (Or.inr hq))
  have gs := (FC 0 (Or.inl (by decide))).trans gs
  obtain ⟨fM, m0⟩ := HM.ob
  obtain ⟨M, sd, kp, t, CM⟩ := id HM
  refine R_aload_n dL_law_903 rfl ?_
  refine R_aload_n dL_law_904 rfl ?_
  refine R_iload_n dL_law_905 rfl ?_
  refine R_iconst (nI 1) dL_law_906 rfl ?_
  refine R_iaddN dL_law_907 ?_
  refine R_iald dL_law_908 gs rfl (by omega) (by omega) ?_
  refine R_cV1i (N := m_X8_goBack) dL_law_909 l_L_133 i_X8_goBack m0 (n_goBack CM hZ (by omega) (xs (i + 1))) rfl rfl (fun r909 h909 q_909 => ?_)
  obtain ⟨er2, HM, FD⟩ := q_909
  have HC := HC.kept (fun q hq => FD q hq)
  have gs := (FD 0 (by decide)).trans gs
  have hU := u_goBack hZ (by omega) (xs (i + 1))
  refine R_icmpeq 917 dL_law_912 rfl (fun c_912 => ?_) (fun c_912 => ?_)
  · exact nx _ _ gs HC HM (x_ZB.mono hU (by omega))
  · exact absurd (er1.trans er2.symm) c_912
