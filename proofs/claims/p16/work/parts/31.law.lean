section KLAW
variable {p : Program} {l : Launch} {e : Env} {s : State} {m : MethodId} {below : List Frame} {meth : Method} {c : Code} {cs : Nat → ClassId} {D : va_G} {A : Nat → Prop} {Ag : wq_Ad → Prop} {N b : Nat} {xs : Nat → Int32}
theorem kl_end_ok {pc : Nat} (h0 : p.tables.exec = Jvm.exec ∧ c.code = code) (hr : meth.sig.returnType = ret) (hlk : meth.locks = false) (hd : decode code pc = .ok (.ireturn, 1)) (hA9 : ∀ q, A q → s.heap.size ≤ q) : wq_Snd p l e room_1 s m #[Value.ref b] below meth c 8 cs D kz_cl A Ag (lw_Z below #[Value.ref b] s) pc wq_lend := by
  intro L S w n1 n2 h ad ls H locs hG hl hP hD hS
  unfold wq_lend at h
  split at h
  · obtain ⟨rfl, h⟩ := h
    obtain ⟨h1, h2, -⟩ := wq_le2 h
    exact va_forget (fun q hq => hA9 _ (hS.2.2 q hq)) (W.widen h1 h2 (lw_ret h0.1 h0.2 hr hlk hd))
  · exact h.elim
set_option maxRecDepth 100000 in
set_option maxHeartbeats 40000000 in
theorem kl_ok (hl : l.stackTraces = false) (h0 : p.tables.exec = Jvm.exec ∧ c.code = code) (hr : meth.sig.returnType = ret) (hlk : meth.locks = false) (hml : c.maxLocals = 8) (hown : s.vm.findClass "BorderDeskLaw" = some m.cls) (hts : ∀ w ∈ kw_T, w.before #[Value.ref b] s = true) (hK : va_K D kz_cl (wq_tys cs) s) (hZ : wq_Z A s s.heap) (hN : wq_N s) (hA : ∀ q, s.heap.size ≤ q → A q) (hA9 : ∀ q, A q → s.heap.size ≤ q) (hAg : wq_AgOK Ag 0) (hX : va_X b N xs s s.heap) (hN9 : N < 2 ^ 31) (hbl : b < s.heap.size) (hbA : ¬ A b) (hg : ∀ ad, Ag ad → ad 100000 0 = b) (K : Nat → wq_T) (hKc : ∀ pc, pc ∈ [23] → wq_Snd p l e room_1 s m #[Value.ref b] below meth c 8 cs D kz_cl A Ag (lw_Z below #[Value.ref b] s) pc (K pc)) : wq_Snd p l e room_1 s m #[Value.ref b] below meth c 8 cs D kz_cl A Ag (lw_Z below #[Value.ref b] s) 23 (kh_W_law_23 N xs K) ∧ wq_Snd p l e room_1 s m #[Value.ref b] below meth c 8 cs D kz_cl A Ag (lw_Z below #[Value.ref b] s) 0 (kt_W_law_0 N xs K) := by
  have hb_1410 : wq_Snd p l e room_1 s m #[Value.ref b] below meth c 8 cs D kz_cl A Ag (lw_Z below #[Value.ref b] s) 1410 (kt_W_law_1410 N xs K) := by
    refine wq_iconst_ok h0 kd_W_law_1410 (by decide +kernel) ?_
    exact kl_end_ok h0 hr hlk kd_W_law_1411 hA9
  have hb_1404 : wq_Snd p l e room_1 s m #[Value.ref b] below meth c 8 cs D kz_cl A Ag (lw_Z below #[Value.ref b] s) 1404 (kt_W_law_1404 N xs K) := by
    refine wq_iinc_ok h0 kd_W_law_1404 (by decide +kernel) (Nat.le_of_ble_eq_true rfl) ?_
    refine wq_goto_ok (tgt := 23) h0 kd_W_law_1407 (by decide) ?_
    exact wq_can_ok (hKc 23 (by decide))
  have hb_152 : wq_Snd p l e room_1 s m #[Value.ref b] below meth c 8 cs D kz_cl A Ag (lw_Z below #[Value.ref b] s) 152 (kt_W_law_152 N xs K) := by
    refine wq_aload_n_ok h0 kd_W_law_152 rfl ?_
    refine wq_aload_n_ok h0 kd_W_law_153 rfl ?_
    refine wq_iload_ok h0 kd_W_law_154 ?_
    refine wq_iconst_ok h0 kd_W_law_156 (by decide +kernel) ?_
    refine wq_iadd_ok h0 kd_W_law_157 ?_
    refine wq_sld_ok h0 hX hN9 hbl hbA hg kd_W_law_158 ?_
    refine wq_aload_n_ok h0 kd_W_law_159 rfl ?_
    refine wq_call_ok hA (wq_runSH ⟨h0.1, h0.2, hml, hown, hts⟩ (kv_W_heading hl) kw_G kw_397 kw_0 kw_395 kw_396 ⟨by decide +kernel, by decide +kernel, by decide +kernel⟩ rfl rfl ⟨Nat.le_of_ble_eq_true rfl, Nat.le_of_ble_eq_true rfl⟩ hK hZ hN hA kd_W_law_160) wq_x0_ok ?_
    refine wq_istore_ok h0 kd_W_law_163 (Nat.le_of_ble_eq_true rfl) ?_
    refine wq_aload_n_ok h0 kd_W_law_165 rfl ?_
    refine wq_aload_n_ok h0 kd_W_law_166 rfl ?_
    refine wq_iload_ok h0 kd_W_law_167 ?_
    refine wq_iconst_ok h0 kd_W_law_169 (by decide +kernel) ?_
    refine wq_iadd_ok h0 kd_W_law_170 ?_
    refine wq_sld_ok h0 hX hN9 hbl hbA hg kd_W_law_171 ?_
    refine wq_call_ok hA (wq_runV (ci := 9) ⟨h0.1, h0.2, hml, hown, hts⟩ (kv_M_heading hl) ⟨(wq_cB hts kw_G kw_1194 kw_10 kw_1191 ⟨by decide +kernel, by decide +kernel, by decide +kernel⟩ rfl rfl ⟨Nat.le_of_ble_eq_true rfl, Nat.le_of_ble_eq_true rfl⟩), hts _ kw_1192, hts _ kw_1193⟩ rfl rfl hK hZ hN hA kd_W_law_172) wq_x0_ok ?_
    refine wq_istore_ok h0 kd_W_law_175 (Nat.le_of_ble_eq_true rfl) ?_
    refine wq_goto_ok (tgt := 1404) h0 kd_W_law_177 (by decide) ?_
    exact hb_1404
  have hb_180 : wq_Snd p l e room_1 s m #[Value.ref b] below meth c 8 cs D kz_cl A Ag (lw_Z below #[Value.ref b] s) 180 (kt_W_law_180 N xs K) := by
    refine wq_aload_n_ok h0 kd_W_law_180 rfl ?_
    refine wq_aload_n_ok h0 kd_W_law_181 rfl ?_
    refine wq_iload_ok h0 kd_W_law_182 ?_
    refine wq_iconst_ok h0 kd_W_law_184 (by decide +kernel) ?_
    refine wq_iadd_ok h0 kd_W_law_185 ?_
    refine wq_sld_ok h0 hX hN9 hbl hbA hg kd_W_law_186 ?_
    refine wq_aload_n_ok h0 kd_W_law_187 rfl ?_
    refine wq_iload_ok h0 kd_W_law_188 ?_
    refine wq_iconst_ok h0 kd_W_law_190 (by decide +kernel) ?_
    refine wq_iadd_ok h0 kd_W_law_191 ?_
    refine wq_sld_ok h0 hX hN9 hbl hbA hg kd_W_law_192 ?_
    refine wq_aload_n_ok h0 kd_W_law_193 rfl ?_
    refine wq_iload_ok h0 kd_W_law_194 ?_
    refine wq_iconst_ok h0 kd_W_law_196 (by decide +kernel) ?_
    refine wq_iadd_ok h0 kd_W_law_197 ?_
    refine wq_sld_ok h0 hX hN9 hbl hbA hg kd_W_law_198 ?_
    refine wq_aload_n_ok h0 kd_W_law_199 rfl ?_
    refine wq_iload_ok h0 kd_W_law_200 ?_
    refine wq_iconst_ok h0 kd_W_law_202 (by decide +kernel) ?_
    refine wq_iadd_ok h0 kd_W_law_203 ?_
    refine wq_sld_ok h0 hX hN9 hbl hbA hg kd_W_law_204 ?_
    refine wq_aload_n_ok h0 kd_W_law_205 rfl ?_
    refine wq_call_ok hA (wq_runSH ⟨h0.1, h0.2, hml, hown, hts⟩ (kv_W_note hl) kw_G kw_507 kw_0 kw_505 kw_506 ⟨by decide +kernel, by decide +kernel, by decide +kernel⟩ rfl rfl ⟨Nat.le_of_ble_eq_true rfl, Nat.le_of_ble_eq_true rfl⟩ hK hZ hN hA kd_W_law_206) wq_x0_ok ?_
    refine wq_istore_ok h0 kd_W_law_209 (Nat.le_of_ble_eq_true rfl) ?_
    refine wq_aload_n_ok h0 kd_W_law_211 rfl ?_
    refine wq_aload_n_ok h0 kd_W_law_212 rfl ?_
    refine wq_iload_ok h0 kd_W_law_213 ?_
    refine wq_iconst_ok h0 kd_W_law_215 (by decide +kernel) ?_
    refine wq_iadd_ok h0 kd_W_law_216 ?_
    refine wq_sld_ok h0 hX hN9 hbl hbA hg kd_W_law_217 ?_
    refine wq_aload_n_ok h0 kd_W_law_218 rfl ?_
    refine wq_iload_ok h0 kd_W_law_219 ?_
    refine wq_iconst_ok h0 kd_W_law_221 (by decide +kernel) ?_
    refine wq_iadd_ok h0 kd_W_law_222 ?_
    refine wq_sld_ok h0 hX hN9 hbl hbA hg kd_W_law_223 ?_
    refine wq_aload_n_ok h0 kd_W_law_224 rfl ?_
    refine wq_iload_ok h0 kd_W_law_225 ?_
    refine wq_iconst_ok h0 kd_W_law_227 (by decide +kernel) ?_
    refine wq_iadd_ok h0 kd_W_law_228 ?_
    refine wq_sld_ok h0 hX hN9 hbl hbA hg kd_W_law_229 ?_
    refine wq_aload_n_ok h0 kd_W_law_230 rfl ?_
    refine wq_iload_ok h0 kd_W_law_231 ?_
    refine wq_iconst_ok h0 kd_W_law_233 (by decide +kernel) ?_
    refine wq_iadd_ok h0 kd_W_law_234 ?_
    refine wq_sld_ok h0 hX hN9 hbl hbA hg kd_W_law_235 ?_
    refine wq_call_ok hA (wq_runV (ci := 9) ⟨h0.1, h0.2, hml, hown, hts⟩ (kv_M_note hl) ⟨(wq_cB hts kw_G kw_1206 kw_10 kw_1203 ⟨by decide +kernel, by decide +kernel, by decide +kernel⟩ rfl rfl ⟨Nat.le_of_ble_eq_true rfl, Nat.le_of_ble_eq_true rfl⟩), hts _ kw_1204, hts _ kw_1205⟩ rfl rfl hK hZ hN hA kd_W_law_236) wq_x0_ok ?_
    refine wq_istore_ok h0 kd_W_law_239 (Nat.le_of_ble_eq_true rfl) ?_
    refine wq_goto_ok (tgt := 1404) h0 kd_W_law_241 (by decide) ?_
    exact hb_1404
  have hb_244 : wq_Snd p l e room_1 s m #[Value.ref b] below meth c 8 cs D kz_cl A Ag (lw_Z below #[Value.ref b] s) 244 (kt_W_law_244 N xs K) := by
    refine wq_aload_n_ok h0 kd_W_law_244 rfl ?_
    refine wq_aload_n_ok h0 kd_W_law_245 rfl ?_
    refine wq_iload_ok h0 kd_W_law_246 ?_
    refine wq_iconst_ok h0 kd_W_law_248 (by decide +kernel) ?_
    refine wq_iadd_ok h0 kd_W_law_249 ?_
    refine wq_sld_ok h0 hX hN9 hbl hbA hg kd_W_law_250 ?_
    refine wq_aload_n_ok h0 kd_W_law_251 rfl ?_
    refine wq_iload_ok h0 kd_W_law_252 ?_
    refine wq_iconst_ok h0 kd_W_law_254 (by decide +kernel) ?_
    refine wq_iadd_ok h0 kd_W_law_255 ?_
    refine wq_sld_ok h0 hX hN9 hbl hbA hg kd_W_law_256 ?_
    refine wq_aload_n_ok h0 kd_W_law_257 rfl ?_
    refine wq_iload_ok h0 kd_W_law_258 ?_
    refine wq_iconst_ok h0 kd_W_law_260 (by decide +kernel) ?_
    refine wq_iadd_ok h0 kd_W_law_261 ?_
    refine wq_sld_ok h0 hX hN9 hbl hbA hg kd_W_law_262 ?_
    refine wq_aload_n_ok h0 kd_W_law_263 rfl ?_
    refine wq_call_ok hA (wq_runSH ⟨h0.1, h0.2, hml, hown, hts⟩ (kv_W_fact hl) kw_G kw_524 kw_0 kw_522 kw_523 ⟨by decide +kernel, by decide +kernel, by decide +kernel⟩ rfl rfl ⟨Nat.le_of_ble_eq_true rfl, Nat.le_of_ble_eq_true rfl⟩ hK hZ hN hA kd_W_law_264) wq_x0_ok ?_
    refine wq_istore_ok h0 kd_W_law_267 (Nat.le_of_ble_eq_true rfl) ?_
    refine wq_aload_n_ok h0 kd_W_law_269 rfl ?_
    refine wq_aload_n_ok h0 kd_W_law_270 rfl ?_
    refine wq_iload_ok h0 kd_W_law_271 ?_
    refine wq_iconst_ok h0 kd_W_law_273 (by decide +kernel) ?_
    refine wq_iadd_ok h0 kd_W_law_274 ?_
    refine wq_sld_ok h0 hX hN9 hbl hbA hg kd_W_law_275 ?_
    refine wq_aload_n_ok h0 kd_W_law_276 rfl ?_
    refine wq_iload_ok h0 kd_W_law_277 ?_
    refine wq_iconst_ok h0 kd_W_law_279 (by decide +kernel) ?_
    refine wq_iadd_ok h0 kd_W_law_280 ?_
    refine wq_sld_ok h0 hX hN9 hbl hbA hg kd_W_law_281 ?_
    refine wq_aload_n_ok h0 kd_W_law_282 rfl ?_
    refine wq_iload_ok h0 kd_W_law_283 ?_
    refine wq_iconst_ok h0 kd_W_law_285 (by decide +kernel) ?_
    refine wq_iadd_ok h0 kd_W_law_286 ?_
    refine wq_sld_ok h0 hX hN9 hbl hbA hg kd_W_law_287 ?_
    refine wq_call_ok hA (wq_runV (ci := 9) ⟨h0.1, h0.2, hml, hown, hts⟩ (kv_M_fact hl) ⟨(wq_cB hts kw_G kw_1213 kw_10 kw_1210 ⟨by decide +kernel, by decide +kernel, by decide +kernel⟩ rfl rfl ⟨Nat.le_of_ble_eq_true rfl, Nat.le_of_ble_eq_true rfl⟩), hts _ kw_1211, hts _ kw_1212⟩ rfl rfl hK hZ hN hA kd_W_law_288) wq_x0_ok ?_
    refine wq_istore_ok h0 kd_W_law_291 (Nat.le_of_ble_eq_true rfl) ?_
    refine wq_goto_ok (tgt := 1404) h0 kd_W_law_293 (by decide) ?_
    exact hb_1404
  have hb_296 : wq_Snd p l e room_1 s m #[Value.ref b] below meth c 8 cs D kz_cl A Ag (lw_Z below #[Value.ref b] s) 296 (kt_W_law_296 N xs K) := by
    refine wq_aload_n_ok h0 kd_W_law_296 rfl ?_
    refine wq_aload_n_ok h0 kd_W_law_297 rfl ?_
    refine wq_iload_ok h0 kd_W_law_298 ?_
    refine wq_iconst_ok h0 kd_W_law_300 (by decide +kernel) ?_
    refine wq_iadd_ok h0 kd_W_law_301 ?_
    refine wq_sld_ok h0 hX hN9 hbl hbA hg kd_W_law_302 ?_
    refine wq_aload_n_ok h0 kd_W_law_303 rfl ?_
    refine wq_call_ok hA (wq_runSH ⟨h0.1, h0.2, hml, hown, hts⟩ (kv_W_classify hl) kw_G kw_534 kw_0 kw_532 kw_533 ⟨by decide +kernel, by decide +kernel, by decide +kernel⟩ rfl rfl ⟨Nat.le_of_ble_eq_true rfl, Nat.le_of_ble_eq_true rfl⟩ hK hZ hN hA kd_W_law_304) wq_x0_ok ?_
    refine wq_istore_ok h0 kd_W_law_307 (Nat.le_of_ble_eq_true rfl) ?_
    refine wq_aload_n_ok h0 kd_W_law_309 rfl ?_
    refine wq_aload_n_ok h0 kd_W_law_310 rfl ?_
    refine wq_iload_ok h0 kd_W_law_311 ?_
    refine wq_iconst_ok h0 kd_W_law_313 (by decide +kernel) ?_
    refine wq_iadd_ok h0 kd_W_law_314 ?_
    refine wq_sld_ok h0 hX hN9 hbl hbA hg kd_W_law_315 ?_
    refine wq_call_ok hA (wq_runV (ci := 9) ⟨h0.1, h0.2, hml, hown, hts⟩ (kv_M_classify hl) ⟨(wq_cB hts kw_G kw_1217 kw_10 kw_1214 ⟨by decide +kernel, by decide +kernel, by decide +kernel⟩ rfl rfl ⟨Nat.le_of_ble_eq_true rfl, Nat.le_of_ble_eq_true rfl⟩), hts _ kw_1215, hts _ kw_1216⟩ rfl rfl hK hZ hN hA kd_W_law_316) wq_x0_ok ?_
    refine wq_istore_ok h0 kd_W_law_319 (Nat.le_of_ble_eq_true rfl) ?_
    refine wq_goto_ok (tgt := 1404) h0 kd_W_law_321 (by decide) ?_
    exact hb_1404
  have hb_324 : wq_Snd p l e room_1 s m #[Value.ref b] below meth c 8 cs D kz_cl A Ag (lw_Z below #[Value.ref b] s) 324 (kt_W_law_324 N xs K) := by
    refine wq_aload_n_ok h0 kd_W_law_324 rfl ?_
    refine wq_aload_n_ok h0 kd_W_law_325 rfl ?_
    refine wq_iload_ok h0 kd_W_law_326 ?_
    refine wq_iconst_ok h0 kd_W_law_328 (by decide +kernel) ?_
    refine wq_iadd_ok h0 kd_W_law_329 ?_
    refine wq_sld_ok h0 hX hN9 hbl hbA hg kd_W_law_330 ?_
    refine wq_aload_n_ok h0 kd_W_law_331 rfl ?_
    refine wq_iload_ok h0 kd_W_law_332 ?_
    refine wq_iconst_ok h0 kd_W_law_334 (by decide +kernel) ?_
    refine wq_iadd_ok h0 kd_W_law_335 ?_
    refine wq_sld_ok h0 hX hN9 hbl hbA hg kd_W_law_336 ?_
    refine wq_aload_n_ok h0 kd_W_law_337 rfl ?_
    refine wq_iload_ok h0 kd_W_law_338 ?_
    refine wq_iconst_ok h0 kd_W_law_340 (by decide +kernel) ?_
    refine wq_iadd_ok h0 kd_W_law_341 ?_
    refine wq_sld_ok h0 hX hN9 hbl hbA hg kd_W_law_342 ?_
    refine wq_aload_n_ok h0 kd_W_law_343 rfl ?_
    refine wq_iload_ok h0 kd_W_law_344 ?_
    refine wq_iconst_ok h0 kd_W_law_346 (by decide +kernel) ?_
    refine wq_iadd_ok h0 kd_W_law_347 ?_
    refine wq_sld_ok h0 hX hN9 hbl hbA hg kd_W_law_348 ?_
    refine wq_aload_n_ok h0 kd_W_law_349 rfl ?_
    refine wq_iload_ok h0 kd_W_law_350 ?_
    refine wq_iconst_ok h0 kd_W_law_352 (by decide +kernel) ?_
    refine wq_iadd_ok h0 kd_W_law_353 ?_
    refine wq_sld_ok h0 hX hN9 hbl hbA hg kd_W_law_354 ?_
    refine wq_aload_n_ok h0 kd_W_law_355 rfl ?_
    refine wq_iload_ok h0 kd_W_law_356 ?_
    refine wq_bipush_ok h0 kd_W_law_358 (by decide +kernel) ?_
    refine wq_iadd_ok h0 kd_W_law_360 ?_
    refine wq_sld_ok h0 hX hN9 hbl hbA hg kd_W_law_361 ?_
    refine wq_aload_n_ok h0 kd_W_law_362 rfl ?_
    refine wq_iload_ok h0 kd_W_law_363 ?_
    refine wq_bipush_ok h0 kd_W_law_365 (by decide +kernel) ?_
    refine wq_iadd_ok h0 kd_W_law_367 ?_
    refine wq_sld_ok h0 hX hN9 hbl hbA hg kd_W_law_368 ?_
    refine wq_aload_n_ok h0 kd_W_law_369 rfl ?_
    refine wq_call_ok hA (wq_runSH ⟨h0.1, h0.2, hml, hown, hts⟩ (kv_W_rate hl) kw_G kw_568 kw_0 kw_566 kw_567 ⟨by decide +kernel, by decide +kernel, by decide +kernel⟩ rfl rfl ⟨Nat.le_of_ble_eq_true rfl, Nat.le_of_ble_eq_true rfl⟩ hK hZ hN hA kd_W_law_370) wq_x0_ok ?_
    refine wq_istore_ok h0 kd_W_law_373 (Nat.le_of_ble_eq_true rfl) ?_
    refine wq_aload_n_ok h0 kd_W_law_375 rfl ?_
    refine wq_aload_n_ok h0 kd_W_law_376 rfl ?_
    refine wq_iload_ok h0 kd_W_law_377 ?_
    refine wq_iconst_ok h0 kd_W_law_379 (by decide +kernel) ?_
    refine wq_iadd_ok h0 kd_W_law_380 ?_
    refine wq_sld_ok h0 hX hN9 hbl hbA hg kd_W_law_381 ?_
    refine wq_aload_n_ok h0 kd_W_law_382 rfl ?_
    refine wq_iload_ok h0 kd_W_law_383 ?_
    refine wq_iconst_ok h0 kd_W_law_385 (by decide +kernel) ?_
    refine wq_iadd_ok h0 kd_W_law_386 ?_
    refine wq_sld_ok h0 hX hN9 hbl hbA hg kd_W_law_387 ?_
    refine wq_aload_n_ok h0 kd_W_law_388 rfl ?_
    refine wq_iload_ok h0 kd_W_law_389 ?_
    refine wq_iconst_ok h0 kd_W_law_391 (by decide +kernel) ?_
    refine wq_iadd_ok h0 kd_W_law_392 ?_
    refine wq_sld_ok h0 hX hN9 hbl hbA hg kd_W_law_393 ?_
    refine wq_aload_n_ok h0 kd_W_law_394 rfl ?_
    refine wq_iload_ok h0 kd_W_law_395 ?_
    refine wq_iconst_ok h0 kd_W_law_397 (by decide +kernel) ?_
    refine wq_iadd_ok h0 kd_W_law_398 ?_
    refine wq_sld_ok h0 hX hN9 hbl hbA hg kd_W_law_399 ?_
    refine wq_aload_n_ok h0 kd_W_law_400 rfl ?_
    refine wq_iload_ok h0 kd_W_law_401 ?_
    refine wq_iconst_ok h0 kd_W_law_403 (by decide +kernel) ?_
    refine wq_iadd_ok h0 kd_W_law_404 ?_
    refine wq_sld_ok h0 hX hN9 hbl hbA hg kd_W_law_405 ?_
    refine wq_aload_n_ok h0 kd_W_law_406 rfl ?_
    refine wq_iload_ok h0 kd_W_law_407 ?_
    refine wq_bipush_ok h0 kd_W_law_409 (by decide +kernel) ?_
    refine wq_iadd_ok h0 kd_W_law_411 ?_
    refine wq_sld_ok h0 hX hN9 hbl hbA hg kd_W_law_412 ?_
    refine wq_aload_n_ok h0 kd_W_law_413 rfl ?_
    refine wq_iload_ok h0 kd_W_law_414 ?_
    refine wq_bipush_ok h0 kd_W_law_416 (by decide +kernel) ?_
    refine wq_iadd_ok h0 kd_W_law_418 ?_
    refine wq_sld_ok h0 hX hN9 hbl hbA hg kd_W_law_419 ?_
    refine wq_call_ok hA (wq_runV (ci := 9) ⟨h0.1, h0.2, hml, hown, hts⟩ (kv_M_rate hl) ⟨(wq_cB hts kw_G kw_1241 kw_10 kw_1238 ⟨by decide +kernel, by decide +kernel, by decide +kernel⟩ rfl rfl ⟨Nat.le_of_ble_eq_true rfl, Nat.le_of_ble_eq_true rfl⟩), hts _ kw_1239, hts _ kw_1240⟩ rfl rfl hK hZ hN hA kd_W_law_420) wq_x0_ok ?_
    refine wq_istore_ok h0 kd_W_law_423 (Nat.le_of_ble_eq_true rfl) ?_
    refine wq_goto_ok (tgt := 1404) h0 kd_W_law_425 (by decide) ?_
    exact hb_1404
  have hb_428 : wq_Snd p l e room_1 s m #[Value.ref b] below meth c 8 cs D kz_cl A Ag (lw_Z below #[Value.ref b] s) 428 (kt_W_law_428 N xs K) := by
    refine wq_aload_n_ok h0 kd_W_law_428 rfl ?_
    refine wq_aload_n_ok h0 kd_W_law_429 rfl ?_
    refine wq_iload_ok h0 kd_W_law_430 ?_
    refine wq_iconst_ok h0 kd_W_law_432 (by decide +kernel) ?_
    refine wq_iadd_ok h0 kd_W_law_433 ?_
    refine wq_sld_ok h0 hX hN9 hbl hbA hg kd_W_law_434 ?_
    refine wq_aload_n_ok h0 kd_W_law_435 rfl ?_
    refine wq_iload_ok h0 kd_W_law_436 ?_
    refine wq_iconst_ok h0 kd_W_law_438 (by decide +kernel) ?_
    refine wq_iadd_ok h0 kd_W_law_439 ?_
    refine wq_sld_ok h0 hX hN9 hbl hbA hg kd_W_law_440 ?_
    refine wq_aload_n_ok h0 kd_W_law_441 rfl ?_
    refine wq_iload_ok h0 kd_W_law_442 ?_
    refine wq_iconst_ok h0 kd_W_law_444 (by decide +kernel) ?_
    refine wq_iadd_ok h0 kd_W_law_445 ?_
    refine wq_sld_ok h0 hX hN9 hbl hbA hg kd_W_law_446 ?_
    refine wq_aload_n_ok h0 kd_W_law_447 rfl ?_
    refine wq_call_ok hA (wq_runSH ⟨h0.1, h0.2, hml, hown, hts⟩ (kv_W_rateFor hl) kw_G kw_585 kw_0 kw_583 kw_584 ⟨by decide +kernel, by decide +kernel, by decide +kernel⟩ rfl rfl ⟨Nat.le_of_ble_eq_true rfl, Nat.le_of_ble_eq_true rfl⟩ hK hZ hN hA kd_W_law_448) wq_x0_ok ?_
    refine wq_istore_ok h0 kd_W_law_451 (Nat.le_of_ble_eq_true rfl) ?_
    refine wq_aload_n_ok h0 kd_W_law_453 rfl ?_
    refine wq_aload_n_ok h0 kd_W_law_454 rfl ?_
    refine wq_iload_ok h0 kd_W_law_455 ?_
    refine wq_iconst_ok h0 kd_W_law_457 (by decide +kernel) ?_
    refine wq_iadd_ok h0 kd_W_law_458 ?_
    refine wq_sld_ok h0 hX hN9 hbl hbA hg kd_W_law_459 ?_
    refine wq_aload_n_ok h0 kd_W_law_460 rfl ?_
    refine wq_iload_ok h0 kd_W_law_461 ?_
    refine wq_iconst_ok h0 kd_W_law_463 (by decide +kernel) ?_
    refine wq_iadd_ok h0 kd_W_law_464 ?_
    refine wq_sld_ok h0 hX hN9 hbl hbA hg kd_W_law_465 ?_
    refine wq_aload_n_ok h0 kd_W_law_466 rfl ?_
    refine wq_iload_ok h0 kd_W_law_467 ?_
    refine wq_iconst_ok h0 kd_W_law_469 (by decide +kernel) ?_
    refine wq_iadd_ok h0 kd_W_law_470 ?_
    refine wq_sld_ok h0 hX hN9 hbl hbA hg kd_W_law_471 ?_
    refine wq_call_ok hA (wq_runV (ci := 9) ⟨h0.1, h0.2, hml, hown, hts⟩ (kv_M_rateFor hl) ⟨(wq_cB hts kw_G kw_1245 kw_10 kw_1242 ⟨by decide +kernel, by decide +kernel, by decide +kernel⟩ rfl rfl ⟨Nat.le_of_ble_eq_true rfl, Nat.le_of_ble_eq_true rfl⟩), hts _ kw_1243, hts _ kw_1244⟩ rfl rfl hK hZ hN hA kd_W_law_472) wq_x0_ok ?_
    refine wq_istore_ok h0 kd_W_law_475 (Nat.le_of_ble_eq_true rfl) ?_
    refine wq_goto_ok (tgt := 1404) h0 kd_W_law_477 (by decide) ?_
    exact hb_1404
  have hb_480 : wq_Snd p l e room_1 s m #[Value.ref b] below meth c 8 cs D kz_cl A Ag (lw_Z below #[Value.ref b] s) 480 (kt_W_law_480 N xs K) := by
    refine wq_aload_n_ok h0 kd_W_law_480 rfl ?_
    refine wq_aload_n_ok h0 kd_W_law_481 rfl ?_
    refine wq_iload_ok h0 kd_W_law_482 ?_
    refine wq_iconst_ok h0 kd_W_law_484 (by decide +kernel) ?_
    refine wq_iadd_ok h0 kd_W_law_485 ?_
    refine wq_sld_ok h0 hX hN9 hbl hbA hg kd_W_law_486 ?_
    refine wq_aload_n_ok h0 kd_W_law_487 rfl ?_
    refine wq_iload_ok h0 kd_W_law_488 ?_
    refine wq_iconst_ok h0 kd_W_law_490 (by decide +kernel) ?_
    refine wq_iadd_ok h0 kd_W_law_491 ?_
    refine wq_sld_ok h0 hX hN9 hbl hbA hg kd_W_law_492 ?_
    refine wq_aload_n_ok h0 kd_W_law_493 rfl ?_
    refine wq_iload_ok h0 kd_W_law_494 ?_
    refine wq_iconst_ok h0 kd_W_law_496 (by decide +kernel) ?_
    refine wq_iadd_ok h0 kd_W_law_497 ?_
    refine wq_sld_ok h0 hX hN9 hbl hbA hg kd_W_law_498 ?_
    refine wq_aload_n_ok h0 kd_W_law_499 rfl ?_
    refine wq_iload_ok h0 kd_W_law_500 ?_
    refine wq_iconst_ok h0 kd_W_law_502 (by decide +kernel) ?_
    refine wq_iadd_ok h0 kd_W_law_503 ?_
    refine wq_sld_ok h0 hX hN9 hbl hbA hg kd_W_law_504 ?_
    refine wq_aload_n_ok h0 kd_W_law_505 rfl ?_
    refine wq_iload_ok h0 kd_W_law_506 ?_
    refine wq_iconst_ok h0 kd_W_law_508 (by decide +kernel) ?_
    refine wq_iadd_ok h0 kd_W_law_509 ?_
    refine wq_sld_ok h0 hX hN9 hbl hbA hg kd_W_law_510 ?_
    refine wq_aload_n_ok h0 kd_W_law_511 rfl ?_
    refine wq_iload_ok h0 kd_W_law_512 ?_
    refine wq_bipush_ok h0 kd_W_law_514 (by decide +kernel) ?_
    refine wq_iadd_ok h0 kd_W_law_516 ?_
    refine wq_sld_ok h0 hX hN9 hbl hbA hg kd_W_law_517 ?_
    refine wq_aload_n_ok h0 kd_W_law_518 rfl ?_
    refine wq_call_ok hA (wq_runSH ⟨h0.1, h0.2, hml, hown, hts⟩ (kv_W_quota hl) kw_G kw_601 kw_0 kw_599 kw_600 ⟨by decide +kernel, by decide +kernel, by decide +kernel⟩ rfl rfl ⟨Nat.le_of_ble_eq_true rfl, Nat.le_of_ble_eq_true rfl⟩ hK hZ hN hA kd_W_law_519) wq_x0_ok ?_
    refine wq_istore_ok h0 kd_W_law_522 (Nat.le_of_ble_eq_true rfl) ?_
    refine wq_aload_n_ok h0 kd_W_law_524 rfl ?_
    refine wq_aload_n_ok h0 kd_W_law_525 rfl ?_
    refine wq_iload_ok h0 kd_W_law_526 ?_
    refine wq_iconst_ok h0 kd_W_law_528 (by decide +kernel) ?_
    refine wq_iadd_ok h0 kd_W_law_529 ?_
    refine wq_sld_ok h0 hX hN9 hbl hbA hg kd_W_law_530 ?_
    refine wq_aload_n_ok h0 kd_W_law_531 rfl ?_
    refine wq_iload_ok h0 kd_W_law_532 ?_
    refine wq_iconst_ok h0 kd_W_law_534 (by decide +kernel) ?_
    refine wq_iadd_ok h0 kd_W_law_535 ?_
    refine wq_sld_ok h0 hX hN9 hbl hbA hg kd_W_law_536 ?_
    refine wq_aload_n_ok h0 kd_W_law_537 rfl ?_
    refine wq_iload_ok h0 kd_W_law_538 ?_
    refine wq_iconst_ok h0 kd_W_law_540 (by decide +kernel) ?_
    refine wq_iadd_ok h0 kd_W_law_541 ?_
    refine wq_sld_ok h0 hX hN9 hbl hbA hg kd_W_law_542 ?_
    refine wq_aload_n_ok h0 kd_W_law_543 rfl ?_
    refine wq_iload_ok h0 kd_W_law_544 ?_
    refine wq_iconst_ok h0 kd_W_law_546 (by decide +kernel) ?_
    refine wq_iadd_ok h0 kd_W_law_547 ?_
    refine wq_sld_ok h0 hX hN9 hbl hbA hg kd_W_law_548 ?_
    refine wq_aload_n_ok h0 kd_W_law_549 rfl ?_
    refine wq_iload_ok h0 kd_W_law_550 ?_
    refine wq_iconst_ok h0 kd_W_law_552 (by decide +kernel) ?_
    refine wq_iadd_ok h0 kd_W_law_553 ?_
    refine wq_sld_ok h0 hX hN9 hbl hbA hg kd_W_law_554 ?_
    refine wq_aload_n_ok h0 kd_W_law_555 rfl ?_
    refine wq_iload_ok h0 kd_W_law_556 ?_
    refine wq_bipush_ok h0 kd_W_law_558 (by decide +kernel) ?_
    refine wq_iadd_ok h0 kd_W_law_560 ?_
    refine wq_sld_ok h0 hX hN9 hbl hbA hg kd_W_law_561 ?_
    refine wq_call_ok hA (wq_runV (ci := 9) ⟨h0.1, h0.2, hml, hown, hts⟩ (kv_M_quota hl) ⟨(wq_cB hts kw_G kw_1257 kw_10 kw_1254 ⟨by decide +kernel, by decide +kernel, by decide +kernel⟩ rfl rfl ⟨Nat.le_of_ble_eq_true rfl, Nat.le_of_ble_eq_true rfl⟩), hts _ kw_1255, hts _ kw_1256⟩ rfl rfl hK hZ hN hA kd_W_law_562) wq_x0_ok ?_
    refine wq_istore_ok h0 kd_W_law_565 (Nat.le_of_ble_eq_true rfl) ?_
    refine wq_goto_ok (tgt := 1404) h0 kd_W_law_567 (by decide) ?_
    exact hb_1404
  have hb_570 : wq_Snd p l e room_1 s m #[Value.ref b] below meth c 8 cs D kz_cl A Ag (lw_Z below #[Value.ref b] s) 570 (kt_W_law_570 N xs K) := by
    refine wq_aload_n_ok h0 kd_W_law_570 rfl ?_
    refine wq_aload_n_ok h0 kd_W_law_571 rfl ?_
    refine wq_iload_ok h0 kd_W_law_572 ?_
    refine wq_iconst_ok h0 kd_W_law_574 (by decide +kernel) ?_
    refine wq_iadd_ok h0 kd_W_law_575 ?_
    refine wq_sld_ok h0 hX hN9 hbl hbA hg kd_W_law_576 ?_
    refine wq_aload_n_ok h0 kd_W_law_577 rfl ?_
    refine wq_call_ok hA (wq_runSH ⟨h0.1, h0.2, hml, hown, hts⟩ (kv_W_quotaLeft hl) kw_G kw_613 kw_0 kw_611 kw_612 ⟨by decide +kernel, by decide +kernel, by decide +kernel⟩ rfl rfl ⟨Nat.le_of_ble_eq_true rfl, Nat.le_of_ble_eq_true rfl⟩ hK hZ hN hA kd_W_law_578) wq_x0_ok ?_
    refine wq_istore_ok h0 kd_W_law_581 (Nat.le_of_ble_eq_true rfl) ?_
    refine wq_aload_n_ok h0 kd_W_law_583 rfl ?_
    refine wq_aload_n_ok h0 kd_W_law_584 rfl ?_
    refine wq_iload_ok h0 kd_W_law_585 ?_
    refine wq_iconst_ok h0 kd_W_law_587 (by decide +kernel) ?_
    refine wq_iadd_ok h0 kd_W_law_588 ?_
    refine wq_sld_ok h0 hX hN9 hbl hbA hg kd_W_law_589 ?_
    refine wq_call_ok hA (wq_runV (ci := 9) ⟨h0.1, h0.2, hml, hown, hts⟩ (kv_M_quotaLeft hl) ⟨(wq_cB hts kw_G kw_1262 kw_10 kw_1259 ⟨by decide +kernel, by decide +kernel, by decide +kernel⟩ rfl rfl ⟨Nat.le_of_ble_eq_true rfl, Nat.le_of_ble_eq_true rfl⟩), hts _ kw_1260, hts _ kw_1261⟩ rfl rfl hK hZ hN hA kd_W_law_590) wq_x0_ok ?_
    refine wq_istore_ok h0 kd_W_law_593 (Nat.le_of_ble_eq_true rfl) ?_
    refine wq_goto_ok (tgt := 1404) h0 kd_W_law_595 (by decide) ?_
    exact hb_1404
  have hb_598 : wq_Snd p l e room_1 s m #[Value.ref b] below meth c 8 cs D kz_cl A Ag (lw_Z below #[Value.ref b] s) 598 (kt_W_law_598 N xs K) := by
    refine wq_aload_n_ok h0 kd_W_law_598 rfl ?_
    refine wq_aload_n_ok h0 kd_W_law_599 rfl ?_
    refine wq_iload_ok h0 kd_W_law_600 ?_
    refine wq_iconst_ok h0 kd_W_law_602 (by decide +kernel) ?_
    refine wq_iadd_ok h0 kd_W_law_603 ?_
    refine wq_sld_ok h0 hX hN9 hbl hbA hg kd_W_law_604 ?_
    refine wq_aload_n_ok h0 kd_W_law_605 rfl ?_
    refine wq_iload_ok h0 kd_W_law_606 ?_
    refine wq_iconst_ok h0 kd_W_law_608 (by decide +kernel) ?_
    refine wq_iadd_ok h0 kd_W_law_609 ?_
    refine wq_sld_ok h0 hX hN9 hbl hbA hg kd_W_law_610 ?_
    refine wq_aload_n_ok h0 kd_W_law_611 rfl ?_
    refine wq_iload_ok h0 kd_W_law_612 ?_
    refine wq_iconst_ok h0 kd_W_law_614 (by decide +kernel) ?_
    refine wq_iadd_ok h0 kd_W_law_615 ?_
    refine wq_sld_ok h0 hX hN9 hbl hbA hg kd_W_law_616 ?_
    refine wq_aload_n_ok h0 kd_W_law_617 rfl ?_
    refine wq_iload_ok h0 kd_W_law_618 ?_
    refine wq_iconst_ok h0 kd_W_law_620 (by decide +kernel) ?_
    refine wq_iadd_ok h0 kd_W_law_621 ?_
    refine wq_sld_ok h0 hX hN9 hbl hbA hg kd_W_law_622 ?_
    refine wq_aload_n_ok h0 kd_W_law_623 rfl ?_
    refine wq_call_ok hA (wq_runSH ⟨h0.1, h0.2, hml, hown, hts⟩ (kv_W_part hl) kw_G kw_620 kw_0 kw_618 kw_619 ⟨by decide +kernel, by decide +kernel, by decide +kernel⟩ rfl rfl ⟨Nat.le_of_ble_eq_true rfl, Nat.le_of_ble_eq_true rfl⟩ hK hZ hN hA kd_W_law_624) wq_x0_ok ?_
    refine wq_istore_ok h0 kd_W_law_627 (Nat.le_of_ble_eq_true rfl) ?_
    refine wq_aload_n_ok h0 kd_W_law_629 rfl ?_
    refine wq_aload_n_ok h0 kd_W_law_630 rfl ?_
    refine wq_iload_ok h0 kd_W_law_631 ?_
    refine wq_iconst_ok h0 kd_W_law_633 (by decide +kernel) ?_
    refine wq_iadd_ok h0 kd_W_law_634 ?_
    refine wq_sld_ok h0 hX hN9 hbl hbA hg kd_W_law_635 ?_
    refine wq_aload_n_ok h0 kd_W_law_636 rfl ?_
    refine wq_iload_ok h0 kd_W_law_637 ?_
    refine wq_iconst_ok h0 kd_W_law_639 (by decide +kernel) ?_
    refine wq_iadd_ok h0 kd_W_law_640 ?_
    refine wq_sld_ok h0 hX hN9 hbl hbA hg kd_W_law_641 ?_
    refine wq_aload_n_ok h0 kd_W_law_642 rfl ?_
    refine wq_iload_ok h0 kd_W_law_643 ?_
    refine wq_iconst_ok h0 kd_W_law_645 (by decide +kernel) ?_
    refine wq_iadd_ok h0 kd_W_law_646 ?_
    refine wq_sld_ok h0 hX hN9 hbl hbA hg kd_W_law_647 ?_
    refine wq_aload_n_ok h0 kd_W_law_648 rfl ?_
    refine wq_iload_ok h0 kd_W_law_649 ?_
    refine wq_iconst_ok h0 kd_W_law_651 (by decide +kernel) ?_
    refine wq_iadd_ok h0 kd_W_law_652 ?_
    refine wq_sld_ok h0 hX hN9 hbl hbA hg kd_W_law_653 ?_
    refine wq_call_ok hA (wq_runV (ci := 9) ⟨h0.1, h0.2, hml, hown, hts⟩ (kv_M_part hl) ⟨(wq_cB hts kw_G kw_1266 kw_10 kw_1263 ⟨by decide +kernel, by decide +kernel, by decide +kernel⟩ rfl rfl ⟨Nat.le_of_ble_eq_true rfl, Nat.le_of_ble_eq_true rfl⟩), hts _ kw_1264, hts _ kw_1265⟩ rfl rfl hK hZ hN hA kd_W_law_654) wq_x0_ok ?_
    refine wq_istore_ok h0 kd_W_law_657 (Nat.le_of_ble_eq_true rfl) ?_
    refine wq_goto_ok (tgt := 1404) h0 kd_W_law_659 (by decide) ?_
    exact hb_1404
  have hb_662 : wq_Snd p l e room_1 s m #[Value.ref b] below meth c 8 cs D kz_cl A Ag (lw_Z below #[Value.ref b] s) 662 (kt_W_law_662 N xs K) := by
    refine wq_aload_n_ok h0 kd_W_law_662 rfl ?_
    refine wq_aload_n_ok h0 kd_W_law_663 rfl ?_
    refine wq_iload_ok h0 kd_W_law_664 ?_
    refine wq_iconst_ok h0 kd_W_law_666 (by decide +kernel) ?_
    refine wq_iadd_ok h0 kd_W_law_667 ?_
    refine wq_sld_ok h0 hX hN9 hbl hbA hg kd_W_law_668 ?_
    refine wq_aload_n_ok h0 kd_W_law_669 rfl ?_
    refine wq_iload_ok h0 kd_W_law_670 ?_
    refine wq_iconst_ok h0 kd_W_law_672 (by decide +kernel) ?_
    refine wq_iadd_ok h0 kd_W_law_673 ?_
    refine wq_sld_ok h0 hX hN9 hbl hbA hg kd_W_law_674 ?_
    refine wq_call_ok hA (wq_runSH ⟨h0.1, h0.2, hml, hown, hts⟩ (kv_W_zone hl) kw_G kw_639 kw_0 kw_637 kw_638 ⟨by decide +kernel, by decide +kernel, by decide +kernel⟩ rfl rfl ⟨Nat.le_of_ble_eq_true rfl, Nat.le_of_ble_eq_true rfl⟩ hK hZ hN hA kd_W_law_675) wq_x0_ok ?_
    refine wq_istore_ok h0 kd_W_law_678 (Nat.le_of_ble_eq_true rfl) ?_
    refine wq_aload_n_ok h0 kd_W_law_680 rfl ?_
    refine wq_aload_n_ok h0 kd_W_law_681 rfl ?_
    refine wq_iload_ok h0 kd_W_law_682 ?_
    refine wq_iconst_ok h0 kd_W_law_684 (by decide +kernel) ?_
    refine wq_iadd_ok h0 kd_W_law_685 ?_
    refine wq_sld_ok h0 hX hN9 hbl hbA hg kd_W_law_686 ?_
    refine wq_aload_n_ok h0 kd_W_law_687 rfl ?_
    refine wq_iload_ok h0 kd_W_law_688 ?_
    refine wq_iconst_ok h0 kd_W_law_690 (by decide +kernel) ?_
    refine wq_iadd_ok h0 kd_W_law_691 ?_
    refine wq_sld_ok h0 hX hN9 hbl hbA hg kd_W_law_692 ?_
    refine wq_call_ok hA (wq_runV (ci := 9) ⟨h0.1, h0.2, hml, hown, hts⟩ (kv_M_zone hl) ⟨(wq_cB hts kw_G kw_1275 kw_10 kw_1272 ⟨by decide +kernel, by decide +kernel, by decide +kernel⟩ rfl rfl ⟨Nat.le_of_ble_eq_true rfl, Nat.le_of_ble_eq_true rfl⟩), hts _ kw_1273, hts _ kw_1274⟩ rfl rfl hK hZ hN hA kd_W_law_693) wq_x0_ok ?_
    refine wq_goto_ok (tgt := 1404) h0 kd_W_law_696 (by decide) ?_
    exact hb_1404
  have hb_699 : wq_Snd p l e room_1 s m #[Value.ref b] below meth c 8 cs D kz_cl A Ag (lw_Z below #[Value.ref b] s) 699 (kt_W_law_699 N xs K) := by
    refine wq_aload_n_ok h0 kd_W_law_699 rfl ?_
    refine wq_aload_n_ok h0 kd_W_law_700 rfl ?_
    refine wq_iload_ok h0 kd_W_law_701 ?_
    refine wq_iconst_ok h0 kd_W_law_703 (by decide +kernel) ?_
    refine wq_iadd_ok h0 kd_W_law_704 ?_
    refine wq_sld_ok h0 hX hN9 hbl hbA hg kd_W_law_705 ?_
    refine wq_aload_n_ok h0 kd_W_law_706 rfl ?_
    refine wq_iload_ok h0 kd_W_law_707 ?_
    refine wq_iconst_ok h0 kd_W_law_709 (by decide +kernel) ?_
    refine wq_iadd_ok h0 kd_W_law_710 ?_
    refine wq_sld_ok h0 hX hN9 hbl hbA hg kd_W_law_711 ?_
    refine wq_aload_n_ok h0 kd_W_law_712 rfl ?_
    refine wq_iload_ok h0 kd_W_law_713 ?_
    refine wq_iconst_ok h0 kd_W_law_715 (by decide +kernel) ?_
    refine wq_iadd_ok h0 kd_W_law_716 ?_
    refine wq_sld_ok h0 hX hN9 hbl hbA hg kd_W_law_717 ?_
    refine wq_call_ok hA (wq_runSH ⟨h0.1, h0.2, hml, hown, hts⟩ (kv_W_rule hl) kw_G kw_646 kw_0 kw_644 kw_645 ⟨by decide +kernel, by decide +kernel, by decide +kernel⟩ rfl rfl ⟨Nat.le_of_ble_eq_true rfl, Nat.le_of_ble_eq_true rfl⟩ hK hZ hN hA kd_W_law_718) wq_x0_ok ?_
    refine wq_istore_ok h0 kd_W_law_721 (Nat.le_of_ble_eq_true rfl) ?_
    refine wq_aload_n_ok h0 kd_W_law_723 rfl ?_
    refine wq_aload_n_ok h0 kd_W_law_724 rfl ?_
    refine wq_iload_ok h0 kd_W_law_725 ?_
    refine wq_iconst_ok h0 kd_W_law_727 (by decide +kernel) ?_
    refine wq_iadd_ok h0 kd_W_law_728 ?_
    refine wq_sld_ok h0 hX hN9 hbl hbA hg kd_W_law_729 ?_
    refine wq_aload_n_ok h0 kd_W_law_730 rfl ?_
    refine wq_iload_ok h0 kd_W_law_731 ?_
    refine wq_iconst_ok h0 kd_W_law_733 (by decide +kernel) ?_
    refine wq_iadd_ok h0 kd_W_law_734 ?_
    refine wq_sld_ok h0 hX hN9 hbl hbA hg kd_W_law_735 ?_
    refine wq_aload_n_ok h0 kd_W_law_736 rfl ?_
    refine wq_iload_ok h0 kd_W_law_737 ?_
    refine wq_iconst_ok h0 kd_W_law_739 (by decide +kernel) ?_
    refine wq_iadd_ok h0 kd_W_law_740 ?_
    refine wq_sld_ok h0 hX hN9 hbl hbA hg kd_W_law_741 ?_
    refine wq_call_ok hA (wq_runV (ci := 9) ⟨h0.1, h0.2, hml, hown, hts⟩ (kv_M_rule hl) ⟨(wq_cB hts kw_G kw_1279 kw_10 kw_1276 ⟨by decide +kernel, by decide +kernel, by decide +kernel⟩ rfl rfl ⟨Nat.le_of_ble_eq_true rfl, Nat.le_of_ble_eq_true rfl⟩), hts _ kw_1277, hts _ kw_1278⟩ rfl rfl hK hZ hN hA kd_W_law_742) wq_x0_ok ?_
    refine wq_goto_ok (tgt := 1404) h0 kd_W_law_745 (by decide) ?_
    exact hb_1404
  have hb_748 : wq_Snd p l e room_1 s m #[Value.ref b] below meth c 8 cs D kz_cl A Ag (lw_Z below #[Value.ref b] s) 748 (kt_W_law_748 N xs K) := by
    refine wq_aload_n_ok h0 kd_W_law_748 rfl ?_
    refine wq_aload_n_ok h0 kd_W_law_749 rfl ?_
    refine wq_iload_ok h0 kd_W_law_750 ?_
    refine wq_iconst_ok h0 kd_W_law_752 (by decide +kernel) ?_
    refine wq_iadd_ok h0 kd_W_law_753 ?_
    refine wq_sld_ok h0 hX hN9 hbl hbA hg kd_W_law_754 ?_
    refine wq_aload_n_ok h0 kd_W_law_755 rfl ?_
    refine wq_iload_ok h0 kd_W_law_756 ?_
    refine wq_iconst_ok h0 kd_W_law_758 (by decide +kernel) ?_
    refine wq_iadd_ok h0 kd_W_law_759 ?_
    refine wq_sld_ok h0 hX hN9 hbl hbA hg kd_W_law_760 ?_
    refine wq_aload_n_ok h0 kd_W_law_761 rfl ?_
    refine wq_call_ok hA (wq_runSH ⟨h0.1, h0.2, hml, hown, hts⟩ (kv_W_madeIn hl) kw_G kw_653 kw_0 kw_651 kw_652 ⟨by decide +kernel, by decide +kernel, by decide +kernel⟩ rfl rfl ⟨Nat.le_of_ble_eq_true rfl, Nat.le_of_ble_eq_true rfl⟩ hK hZ hN hA kd_W_law_762) wq_x0_ok ?_
    refine wq_istore_ok h0 kd_W_law_765 (Nat.le_of_ble_eq_true rfl) ?_
    refine wq_aload_n_ok h0 kd_W_law_767 rfl ?_
    refine wq_aload_n_ok h0 kd_W_law_768 rfl ?_
    refine wq_iload_ok h0 kd_W_law_769 ?_
    refine wq_iconst_ok h0 kd_W_law_771 (by decide +kernel) ?_
    refine wq_iadd_ok h0 kd_W_law_772 ?_
    refine wq_sld_ok h0 hX hN9 hbl hbA hg kd_W_law_773 ?_
    refine wq_aload_n_ok h0 kd_W_law_774 rfl ?_
    refine wq_iload_ok h0 kd_W_law_775 ?_
    refine wq_iconst_ok h0 kd_W_law_777 (by decide +kernel) ?_
    refine wq_iadd_ok h0 kd_W_law_778 ?_
    refine wq_sld_ok h0 hX hN9 hbl hbA hg kd_W_law_779 ?_
    refine wq_call_ok hA (wq_runV (ci := 9) ⟨h0.1, h0.2, hml, hown, hts⟩ (kv_M_madeIn hl) ⟨(wq_cB hts kw_G kw_1283 kw_10 kw_1280 ⟨by decide +kernel, by decide +kernel, by decide +kernel⟩ rfl rfl ⟨Nat.le_of_ble_eq_true rfl, Nat.le_of_ble_eq_true rfl⟩), hts _ kw_1281, hts _ kw_1282⟩ rfl rfl hK hZ hN hA kd_W_law_780) wq_x0_ok ?_
    refine wq_istore_ok h0 kd_W_law_783 (Nat.le_of_ble_eq_true rfl) ?_
    refine wq_goto_ok (tgt := 1404) h0 kd_W_law_785 (by decide) ?_
    exact hb_1404
  have hb_788 : wq_Snd p l e room_1 s m #[Value.ref b] below meth c 8 cs D kz_cl A Ag (lw_Z below #[Value.ref b] s) 788 (kt_W_law_788 N xs K) := by
    refine wq_aload_n_ok h0 kd_W_law_788 rfl ?_
    refine wq_aload_n_ok h0 kd_W_law_789 rfl ?_
    refine wq_iload_ok h0 kd_W_law_790 ?_
    refine wq_iconst_ok h0 kd_W_law_792 (by decide +kernel) ?_
    refine wq_iadd_ok h0 kd_W_law_793 ?_
    refine wq_sld_ok h0 hX hN9 hbl hbA hg kd_W_law_794 ?_
    refine wq_aload_n_ok h0 kd_W_law_795 rfl ?_
    refine wq_iload_ok h0 kd_W_law_796 ?_
    refine wq_iconst_ok h0 kd_W_law_798 (by decide +kernel) ?_
    refine wq_iadd_ok h0 kd_W_law_799 ?_
    refine wq_sld_ok h0 hX hN9 hbl hbA hg kd_W_law_800 ?_
    refine wq_aload_n_ok h0 kd_W_law_801 rfl ?_
    refine wq_call_ok hA (wq_runSH ⟨h0.1, h0.2, hml, hown, hts⟩ (kv_W_declare hl) kw_G kw_692 kw_0 kw_690 kw_691 ⟨by decide +kernel, by decide +kernel, by decide +kernel⟩ rfl rfl ⟨Nat.le_of_ble_eq_true rfl, Nat.le_of_ble_eq_true rfl⟩ hK hZ hN hA kd_W_law_802) wq_x0_ok ?_
    refine wq_istore_ok h0 kd_W_law_805 (Nat.le_of_ble_eq_true rfl) ?_
    refine wq_aload_n_ok h0 kd_W_law_807 rfl ?_
    refine wq_aload_n_ok h0 kd_W_law_808 rfl ?_
    refine wq_iload_ok h0 kd_W_law_809 ?_
    refine wq_iconst_ok h0 kd_W_law_811 (by decide +kernel) ?_
    refine wq_iadd_ok h0 kd_W_law_812 ?_
    refine wq_sld_ok h0 hX hN9 hbl hbA hg kd_W_law_813 ?_
    refine wq_aload_n_ok h0 kd_W_law_814 rfl ?_
    refine wq_iload_ok h0 kd_W_law_815 ?_
    refine wq_iconst_ok h0 kd_W_law_817 (by decide +kernel) ?_
    refine wq_iadd_ok h0 kd_W_law_818 ?_
    refine wq_sld_ok h0 hX hN9 hbl hbA hg kd_W_law_819 ?_
    refine wq_call_ok hA (wq_runV (ci := 9) ⟨h0.1, h0.2, hml, hown, hts⟩ (kv_M_declare hl) ⟨(wq_cB hts kw_G kw_1292 kw_10 kw_1289 ⟨by decide +kernel, by decide +kernel, by decide +kernel⟩ rfl rfl ⟨Nat.le_of_ble_eq_true rfl, Nat.le_of_ble_eq_true rfl⟩), hts _ kw_1290, hts _ kw_1291⟩ rfl rfl hK hZ hN hA kd_W_law_820) wq_x0_ok ?_
    refine wq_istore_ok h0 kd_W_law_823 (Nat.le_of_ble_eq_true rfl) ?_
    refine wq_goto_ok (tgt := 1404) h0 kd_W_law_825 (by decide) ?_
    exact hb_1404
  have hb_940 : wq_Snd p l e room_1 s m #[Value.ref b] below meth c 8 cs D kz_cl A Ag (lw_Z below #[Value.ref b] s) 940 (kt_W_law_940 N xs K) := by
    refine wq_call_ok hA (wq_runV (ci := 9) ⟨h0.1, h0.2, hml, hown, hts⟩ (kv_M_line hl) ⟨(wq_cB hts kw_G kw_1296 kw_10 kw_1293 ⟨by decide +kernel, by decide +kernel, by decide +kernel⟩ rfl rfl ⟨Nat.le_of_ble_eq_true rfl, Nat.le_of_ble_eq_true rfl⟩), hts _ kw_1294, hts _ kw_1295⟩ rfl rfl hK hZ hN hA kd_W_law_940) wq_x0_ok ?_
    refine wq_istore_ok h0 kd_W_law_943 (Nat.le_of_ble_eq_true rfl) ?_
    refine wq_goto_ok (tgt := 1404) h0 kd_W_law_945 (by decide) ?_
    exact hb_1404
  have hb_939 : wq_Snd p l e room_1 s m #[Value.ref b] below meth c 8 cs D kz_cl A Ag (lw_Z below #[Value.ref b] s) 939 (kt_W_law_939 N xs K) := by
    refine wq_iconst_ok h0 kd_W_law_939 (by decide +kernel) ?_
    exact hb_940
  have hb_881 : wq_Snd p l e room_1 s m #[Value.ref b] below meth c 8 cs D kz_cl A Ag (lw_Z below #[Value.ref b] s) 881 (kt_W_law_881 N xs K) := by
    refine wq_aload_n_ok h0 kd_W_law_881 rfl ?_
    refine wq_call_ok hA (wq_runSH ⟨h0.1, h0.2, hml, hown, hts⟩ (kv_W_line hl) kw_G kw_703 kw_0 kw_701 kw_702 ⟨by decide +kernel, by decide +kernel, by decide +kernel⟩ rfl rfl ⟨Nat.le_of_ble_eq_true rfl, Nat.le_of_ble_eq_true rfl⟩ hK hZ hN hA kd_W_law_882) wq_x0_ok ?_
    refine wq_istore_ok h0 kd_W_law_885 (Nat.le_of_ble_eq_true rfl) ?_
    refine wq_aload_n_ok h0 kd_W_law_887 rfl ?_
    refine wq_aload_n_ok h0 kd_W_law_888 rfl ?_
    refine wq_iload_ok h0 kd_W_law_889 ?_
    refine wq_iconst_ok h0 kd_W_law_891 (by decide +kernel) ?_
    refine wq_iadd_ok h0 kd_W_law_892 ?_
    refine wq_sld_ok h0 hX hN9 hbl hbA hg kd_W_law_893 ?_
    refine wq_aload_n_ok h0 kd_W_law_894 rfl ?_
    refine wq_iload_ok h0 kd_W_law_895 ?_
    refine wq_iconst_ok h0 kd_W_law_897 (by decide +kernel) ?_
    refine wq_iadd_ok h0 kd_W_law_898 ?_
    refine wq_sld_ok h0 hX hN9 hbl hbA hg kd_W_law_899 ?_
    refine wq_aload_n_ok h0 kd_W_law_900 rfl ?_
    refine wq_iload_ok h0 kd_W_law_901 ?_
    refine wq_iconst_ok h0 kd_W_law_903 (by decide +kernel) ?_
    refine wq_iadd_ok h0 kd_W_law_904 ?_
    refine wq_sld_ok h0 hX hN9 hbl hbA hg kd_W_law_905 ?_
    refine wq_aload_n_ok h0 kd_W_law_906 rfl ?_
    refine wq_iload_ok h0 kd_W_law_907 ?_
    refine wq_iconst_ok h0 kd_W_law_909 (by decide +kernel) ?_
    refine wq_iadd_ok h0 kd_W_law_910 ?_
    refine wq_sld_ok h0 hX hN9 hbl hbA hg kd_W_law_911 ?_
    refine wq_aload_n_ok h0 kd_W_law_912 rfl ?_
    refine wq_iload_ok h0 kd_W_law_913 ?_
    refine wq_iconst_ok h0 kd_W_law_915 (by decide +kernel) ?_
    refine wq_iadd_ok h0 kd_W_law_916 ?_
    refine wq_sld_ok h0 hX hN9 hbl hbA hg kd_W_law_917 ?_
    refine wq_aload_n_ok h0 kd_W_law_918 rfl ?_
    refine wq_iload_ok h0 kd_W_law_919 ?_
    refine wq_bipush_ok h0 kd_W_law_921 (by decide +kernel) ?_
    refine wq_iadd_ok h0 kd_W_law_923 ?_
    refine wq_sld_ok h0 hX hN9 hbl hbA hg kd_W_law_924 ?_
    refine wq_aload_n_ok h0 kd_W_law_925 rfl ?_
    refine wq_iload_ok h0 kd_W_law_926 ?_
    refine wq_bipush_ok h0 kd_W_law_928 (by decide +kernel) ?_
    refine wq_iadd_ok h0 kd_W_law_930 ?_
    refine wq_sld_ok h0 hX hN9 hbl hbA hg kd_W_law_931 ?_
    refine wq_if_eq_ok (tgt := 939) h0 kd_W_law_932 (by decide) ?_ ?_
    · exact hb_939
    refine wq_iconst_ok h0 kd_W_law_935 (by decide +kernel) ?_
    refine wq_goto_ok (tgt := 940) h0 kd_W_law_936 (by decide) ?_
    exact hb_940
  have hb_880 : wq_Snd p l e room_1 s m #[Value.ref b] below meth c 8 cs D kz_cl A Ag (lw_Z below #[Value.ref b] s) 880 (kt_W_law_880 N xs K) := by
    refine wq_iconst_ok h0 kd_W_law_880 (by decide +kernel) ?_
    exact hb_881
  have hb_828 : wq_Snd p l e room_1 s m #[Value.ref b] below meth c 8 cs D kz_cl A Ag (lw_Z below #[Value.ref b] s) 828 (kt_W_law_828 N xs K) := by
    refine wq_aload_n_ok h0 kd_W_law_828 rfl ?_
    refine wq_aload_n_ok h0 kd_W_law_829 rfl ?_
    refine wq_iload_ok h0 kd_W_law_830 ?_
    refine wq_iconst_ok h0 kd_W_law_832 (by decide +kernel) ?_
    refine wq_iadd_ok h0 kd_W_law_833 ?_
    refine wq_sld_ok h0 hX hN9 hbl hbA hg kd_W_law_834 ?_
    refine wq_aload_n_ok h0 kd_W_law_835 rfl ?_
    refine wq_iload_ok h0 kd_W_law_836 ?_
    refine wq_iconst_ok h0 kd_W_law_838 (by decide +kernel) ?_
    refine wq_iadd_ok h0 kd_W_law_839 ?_
    refine wq_sld_ok h0 hX hN9 hbl hbA hg kd_W_law_840 ?_
    refine wq_aload_n_ok h0 kd_W_law_841 rfl ?_
    refine wq_iload_ok h0 kd_W_law_842 ?_
    refine wq_iconst_ok h0 kd_W_law_844 (by decide +kernel) ?_
    refine wq_iadd_ok h0 kd_W_law_845 ?_
    refine wq_sld_ok h0 hX hN9 hbl hbA hg kd_W_law_846 ?_
    refine wq_aload_n_ok h0 kd_W_law_847 rfl ?_
    refine wq_iload_ok h0 kd_W_law_848 ?_
    refine wq_iconst_ok h0 kd_W_law_850 (by decide +kernel) ?_
    refine wq_iadd_ok h0 kd_W_law_851 ?_
    refine wq_sld_ok h0 hX hN9 hbl hbA hg kd_W_law_852 ?_
    refine wq_aload_n_ok h0 kd_W_law_853 rfl ?_
    refine wq_iload_ok h0 kd_W_law_854 ?_
    refine wq_iconst_ok h0 kd_W_law_856 (by decide +kernel) ?_
    refine wq_iadd_ok h0 kd_W_law_857 ?_
    refine wq_sld_ok h0 hX hN9 hbl hbA hg kd_W_law_858 ?_
    refine wq_aload_n_ok h0 kd_W_law_859 rfl ?_
    refine wq_iload_ok h0 kd_W_law_860 ?_
    refine wq_bipush_ok h0 kd_W_law_862 (by decide +kernel) ?_
    refine wq_iadd_ok h0 kd_W_law_864 ?_
    refine wq_sld_ok h0 hX hN9 hbl hbA hg kd_W_law_865 ?_
    refine wq_aload_n_ok h0 kd_W_law_866 rfl ?_
    refine wq_iload_ok h0 kd_W_law_867 ?_
    refine wq_bipush_ok h0 kd_W_law_869 (by decide +kernel) ?_
    refine wq_iadd_ok h0 kd_W_law_871 ?_
    refine wq_sld_ok h0 hX hN9 hbl hbA hg kd_W_law_872 ?_
    refine wq_if_eq_ok (tgt := 880) h0 kd_W_law_873 (by decide) ?_ ?_
    · exact hb_880
    refine wq_iconst_ok h0 kd_W_law_876 (by decide +kernel) ?_
    refine wq_goto_ok (tgt := 881) h0 kd_W_law_877 (by decide) ?_
    exact hb_881
  have hb_1005 : wq_Snd p l e room_1 s m #[Value.ref b] below meth c 8 cs D kz_cl A Ag (lw_Z below #[Value.ref b] s) 1005 (kt_W_law_1005 N xs K) := by
    refine wq_goto_ok (tgt := 1404) h0 kd_W_law_1005 (by decide) ?_
    exact hb_1404
  have hb_948 : wq_Snd p l e room_1 s m #[Value.ref b] below meth c 8 cs D kz_cl A Ag (lw_Z below #[Value.ref b] s) 948 (kt_W_law_948 N xs K) := by
    refine wq_aload_n_ok h0 kd_W_law_948 rfl ?_
    refine wq_aload_n_ok h0 kd_W_law_949 rfl ?_
    refine wq_iload_ok h0 kd_W_law_950 ?_
    refine wq_iconst_ok h0 kd_W_law_952 (by decide +kernel) ?_
    refine wq_iadd_ok h0 kd_W_law_953 ?_
    refine wq_sld_ok h0 hX hN9 hbl hbA hg kd_W_law_954 ?_
    refine wq_aload_n_ok h0 kd_W_law_955 rfl ?_
    refine wq_iload_ok h0 kd_W_law_956 ?_
    refine wq_iconst_ok h0 kd_W_law_958 (by decide +kernel) ?_
    refine wq_iadd_ok h0 kd_W_law_959 ?_
    refine wq_sld_ok h0 hX hN9 hbl hbA hg kd_W_law_960 ?_
    refine wq_aload_n_ok h0 kd_W_law_961 rfl ?_
    refine wq_iload_ok h0 kd_W_law_962 ?_
    refine wq_iconst_ok h0 kd_W_law_964 (by decide +kernel) ?_
    refine wq_iadd_ok h0 kd_W_law_965 ?_
    refine wq_sld_ok h0 hX hN9 hbl hbA hg kd_W_law_966 ?_
    refine wq_call_ok hA (wq_runSH ⟨h0.1, h0.2, hml, hown, hts⟩ (kv_W_charge hl) kw_G kw_727 kw_0 kw_725 kw_726 ⟨by decide +kernel, by decide +kernel, by decide +kernel⟩ rfl rfl ⟨Nat.le_of_ble_eq_true rfl, Nat.le_of_ble_eq_true rfl⟩ hK hZ hN hA kd_W_law_967) wq_x0_ok ?_
    refine wq_istore_ok h0 kd_W_law_970 (Nat.le_of_ble_eq_true rfl) ?_
    refine wq_aload_n_ok h0 kd_W_law_972 rfl ?_
    refine wq_aload_n_ok h0 kd_W_law_973 rfl ?_
    refine wq_iload_ok h0 kd_W_law_974 ?_
    refine wq_iconst_ok h0 kd_W_law_976 (by decide +kernel) ?_
    refine wq_iadd_ok h0 kd_W_law_977 ?_
    refine wq_sld_ok h0 hX hN9 hbl hbA hg kd_W_law_978 ?_
    refine wq_aload_n_ok h0 kd_W_law_979 rfl ?_
    refine wq_iload_ok h0 kd_W_law_980 ?_
    refine wq_iconst_ok h0 kd_W_law_982 (by decide +kernel) ?_
    refine wq_iadd_ok h0 kd_W_law_983 ?_
    refine wq_sld_ok h0 hX hN9 hbl hbA hg kd_W_law_984 ?_
    refine wq_aload_n_ok h0 kd_W_law_985 rfl ?_
    refine wq_iload_ok h0 kd_W_law_986 ?_
    refine wq_iconst_ok h0 kd_W_law_988 (by decide +kernel) ?_
    refine wq_iadd_ok h0 kd_W_law_989 ?_
    refine wq_sld_ok h0 hX hN9 hbl hbA hg kd_W_law_990 ?_
    refine wq_call_ok hA (wq_runV (ci := 9) ⟨h0.1, h0.2, hml, hown, hts⟩ (kv_M_charge hl) ⟨(wq_cB hts kw_G kw_1308 kw_10 kw_1305 ⟨by decide +kernel, by decide +kernel, by decide +kernel⟩ rfl rfl ⟨Nat.le_of_ble_eq_true rfl, Nat.le_of_ble_eq_true rfl⟩), hts _ kw_1306, hts _ kw_1307⟩ rfl rfl hK hZ hN hA kd_W_law_991) wq_x0_ok ?_
    refine wq_aload_n_ok h0 kd_W_law_994 rfl ?_
    refine wq_call_ok hA (wq_runV (ci := 9) ⟨h0.1, h0.2, hml, hown, hts⟩ (kv_M_thrown hl) ⟨(wq_cB hts kw_G kw_1190 kw_10 kw_1187 ⟨by decide +kernel, by decide +kernel, by decide +kernel⟩ rfl rfl ⟨Nat.le_of_ble_eq_true rfl, Nat.le_of_ble_eq_true rfl⟩), hts _ kw_1188, hts _ kw_1189⟩ rfl rfl hK hZ hN hA kd_W_law_995) wq_x0_ok ?_
    refine wq_iload_ok h0 kd_W_law_998 ?_
    refine wq_icmp_eq_ok (tgt := 1005) h0 kd_W_law_1000 (by decide) ?_ ?_
    · exact hb_1005
    refine wq_iconst_ok h0 kd_W_law_1003 (by decide +kernel) ?_
    exact kl_end_ok h0 hr hlk kd_W_law_1004 hA9
  have hb_1008 : wq_Snd p l e room_1 s m #[Value.ref b] below meth c 8 cs D kz_cl A Ag (lw_Z below #[Value.ref b] s) 1008 (kt_W_law_1008 N xs K) := by
    refine wq_aload_n_ok h0 kd_W_law_1008 rfl ?_
    refine wq_aload_n_ok h0 kd_W_law_1009 rfl ?_
    refine wq_iload_ok h0 kd_W_law_1010 ?_
    refine wq_iconst_ok h0 kd_W_law_1012 (by decide +kernel) ?_
    refine wq_iadd_ok h0 kd_W_law_1013 ?_
    refine wq_sld_ok h0 hX hN9 hbl hbA hg kd_W_law_1014 ?_
    refine wq_aload_n_ok h0 kd_W_law_1015 rfl ?_
    refine wq_iload_ok h0 kd_W_law_1016 ?_
    refine wq_iconst_ok h0 kd_W_law_1018 (by decide +kernel) ?_
    refine wq_iadd_ok h0 kd_W_law_1019 ?_
    refine wq_sld_ok h0 hX hN9 hbl hbA hg kd_W_law_1020 ?_
    refine wq_aload_n_ok h0 kd_W_law_1021 rfl ?_
    refine wq_iload_ok h0 kd_W_law_1022 ?_
    refine wq_iconst_ok h0 kd_W_law_1024 (by decide +kernel) ?_
    refine wq_iadd_ok h0 kd_W_law_1025 ?_
    refine wq_sld_ok h0 hX hN9 hbl hbA hg kd_W_law_1026 ?_
    refine wq_aload_n_ok h0 kd_W_law_1027 rfl ?_
    refine wq_call_ok hA (wq_runSH ⟨h0.1, h0.2, hml, hown, hts⟩ (kv_W_lineOf hl) kw_G kw_735 kw_0 kw_733 kw_734 ⟨by decide +kernel, by decide +kernel, by decide +kernel⟩ rfl rfl ⟨Nat.le_of_ble_eq_true rfl, Nat.le_of_ble_eq_true rfl⟩ hK hZ hN hA kd_W_law_1028) wq_x0_ok ?_
    refine wq_istore_ok h0 kd_W_law_1031 (Nat.le_of_ble_eq_true rfl) ?_
    refine wq_aload_n_ok h0 kd_W_law_1033 rfl ?_
    refine wq_aload_n_ok h0 kd_W_law_1034 rfl ?_
    refine wq_iload_ok h0 kd_W_law_1035 ?_
    refine wq_iconst_ok h0 kd_W_law_1037 (by decide +kernel) ?_
    refine wq_iadd_ok h0 kd_W_law_1038 ?_
    refine wq_sld_ok h0 hX hN9 hbl hbA hg kd_W_law_1039 ?_
    refine wq_aload_n_ok h0 kd_W_law_1040 rfl ?_
    refine wq_iload_ok h0 kd_W_law_1041 ?_
    refine wq_iconst_ok h0 kd_W_law_1043 (by decide +kernel) ?_
    refine wq_iadd_ok h0 kd_W_law_1044 ?_
    refine wq_sld_ok h0 hX hN9 hbl hbA hg kd_W_law_1045 ?_
    refine wq_aload_n_ok h0 kd_W_law_1046 rfl ?_
    refine wq_iload_ok h0 kd_W_law_1047 ?_
    refine wq_iconst_ok h0 kd_W_law_1049 (by decide +kernel) ?_
    refine wq_iadd_ok h0 kd_W_law_1050 ?_
    refine wq_sld_ok h0 hX hN9 hbl hbA hg kd_W_law_1051 ?_
    refine wq_call_ok hA (wq_runV (ci := 9) ⟨h0.1, h0.2, hml, hown, hts⟩ (kv_M_lineOf hl) ⟨(wq_cB hts kw_G kw_1313 kw_10 kw_1310 ⟨by decide +kernel, by decide +kernel, by decide +kernel⟩ rfl rfl ⟨Nat.le_of_ble_eq_true rfl, Nat.le_of_ble_eq_true rfl⟩), hts _ kw_1311, hts _ kw_1312⟩ rfl rfl hK hZ hN hA kd_W_law_1052) wq_x0_ok ?_
    refine wq_lstore_ok h0 kd_W_law_1055 (Nat.le_of_ble_eq_true rfl) ?_
    refine wq_goto_ok (tgt := 1404) h0 kd_W_law_1057 (by decide) ?_
    exact hb_1404
  have hb_1060 : wq_Snd p l e room_1 s m #[Value.ref b] below meth c 8 cs D kz_cl A Ag (lw_Z below #[Value.ref b] s) 1060 (kt_W_law_1060 N xs K) := by
    refine wq_aload_n_ok h0 kd_W_law_1060 rfl ?_
    refine wq_aload_n_ok h0 kd_W_law_1061 rfl ?_
    refine wq_iload_ok h0 kd_W_law_1062 ?_
    refine wq_iconst_ok h0 kd_W_law_1064 (by decide +kernel) ?_
    refine wq_iadd_ok h0 kd_W_law_1065 ?_
    refine wq_sld_ok h0 hX hN9 hbl hbA hg kd_W_law_1066 ?_
    refine wq_aload_n_ok h0 kd_W_law_1067 rfl ?_
    refine wq_call_ok hA (wq_runSH ⟨h0.1, h0.2, hml, hown, hts⟩ (kv_W_accept hl) kw_G kw_842 kw_0 kw_840 kw_841 ⟨by decide +kernel, by decide +kernel, by decide +kernel⟩ rfl rfl ⟨Nat.le_of_ble_eq_true rfl, Nat.le_of_ble_eq_true rfl⟩ hK hZ hN hA kd_W_law_1068) wq_x0_ok ?_
    refine wq_istore_ok h0 kd_W_law_1071 (Nat.le_of_ble_eq_true rfl) ?_
    refine wq_aload_n_ok h0 kd_W_law_1073 rfl ?_
    refine wq_aload_n_ok h0 kd_W_law_1074 rfl ?_
    refine wq_iload_ok h0 kd_W_law_1075 ?_
    refine wq_iconst_ok h0 kd_W_law_1077 (by decide +kernel) ?_
    refine wq_iadd_ok h0 kd_W_law_1078 ?_
    refine wq_sld_ok h0 hX hN9 hbl hbA hg kd_W_law_1079 ?_
    refine wq_call_ok hA (wq_runV (ci := 9) ⟨h0.1, h0.2, hml, hown, hts⟩ (kv_M_accept hl) ⟨(wq_cB hts kw_G kw_1356 kw_10 kw_1353 ⟨by decide +kernel, by decide +kernel, by decide +kernel⟩ rfl rfl ⟨Nat.le_of_ble_eq_true rfl, Nat.le_of_ble_eq_true rfl⟩), hts _ kw_1354, hts _ kw_1355⟩ rfl rfl hK hZ hN hA kd_W_law_1080) wq_x0_ok ?_
    refine wq_lstore_ok h0 kd_W_law_1083 (Nat.le_of_ble_eq_true rfl) ?_
    refine wq_goto_ok (tgt := 1404) h0 kd_W_law_1085 (by decide) ?_
    exact hb_1404
  have hb_1088 : wq_Snd p l e room_1 s m #[Value.ref b] below meth c 8 cs D kz_cl A Ag (lw_Z below #[Value.ref b] s) 1088 (kt_W_law_1088 N xs K) := by
    refine wq_aload_n_ok h0 kd_W_law_1088 rfl ?_
    refine wq_aload_n_ok h0 kd_W_law_1089 rfl ?_
    refine wq_iload_ok h0 kd_W_law_1090 ?_
    refine wq_iconst_ok h0 kd_W_law_1092 (by decide +kernel) ?_
    refine wq_iadd_ok h0 kd_W_law_1093 ?_
    refine wq_sld_ok h0 hX hN9 hbl hbA hg kd_W_law_1094 ?_
    refine wq_aload_n_ok h0 kd_W_law_1095 rfl ?_
    refine wq_iload_ok h0 kd_W_law_1096 ?_
    refine wq_iconst_ok h0 kd_W_law_1098 (by decide +kernel) ?_
    refine wq_iadd_ok h0 kd_W_law_1099 ?_
    refine wq_sld_ok h0 hX hN9 hbl hbA hg kd_W_law_1100 ?_
    refine wq_aload_n_ok h0 kd_W_law_1101 rfl ?_
    refine wq_iload_ok h0 kd_W_law_1102 ?_
    refine wq_iconst_ok h0 kd_W_law_1104 (by decide +kernel) ?_
    refine wq_iadd_ok h0 kd_W_law_1105 ?_
    refine wq_sld_ok h0 hX hN9 hbl hbA hg kd_W_law_1106 ?_
    refine wq_aload_n_ok h0 kd_W_law_1107 rfl ?_
    refine wq_iload_ok h0 kd_W_law_1108 ?_
    refine wq_iconst_ok h0 kd_W_law_1110 (by decide +kernel) ?_
    refine wq_iadd_ok h0 kd_W_law_1111 ?_
    refine wq_sld_ok h0 hX hN9 hbl hbA hg kd_W_law_1112 ?_
    refine wq_aload_n_ok h0 kd_W_law_1113 rfl ?_
    refine wq_call_ok hA (wq_runSH ⟨h0.1, h0.2, hml, hown, hts⟩ (kv_W_amend hl) kw_G kw_892 kw_0 kw_890 kw_891 ⟨by decide +kernel, by decide +kernel, by decide +kernel⟩ rfl rfl ⟨Nat.le_of_ble_eq_true rfl, Nat.le_of_ble_eq_true rfl⟩ hK hZ hN hA kd_W_law_1114) wq_x0_ok ?_
    refine wq_istore_ok h0 kd_W_law_1117 (Nat.le_of_ble_eq_true rfl) ?_
    refine wq_aload_n_ok h0 kd_W_law_1119 rfl ?_
    refine wq_aload_n_ok h0 kd_W_law_1120 rfl ?_
    refine wq_iload_ok h0 kd_W_law_1121 ?_
    refine wq_iconst_ok h0 kd_W_law_1123 (by decide +kernel) ?_
    refine wq_iadd_ok h0 kd_W_law_1124 ?_
    refine wq_sld_ok h0 hX hN9 hbl hbA hg kd_W_law_1125 ?_
    refine wq_aload_n_ok h0 kd_W_law_1126 rfl ?_
    refine wq_iload_ok h0 kd_W_law_1127 ?_
    refine wq_iconst_ok h0 kd_W_law_1129 (by decide +kernel) ?_
    refine wq_iadd_ok h0 kd_W_law_1130 ?_
    refine wq_sld_ok h0 hX hN9 hbl hbA hg kd_W_law_1131 ?_
    refine wq_aload_n_ok h0 kd_W_law_1132 rfl ?_
    refine wq_iload_ok h0 kd_W_law_1133 ?_
    refine wq_iconst_ok h0 kd_W_law_1135 (by decide +kernel) ?_
    refine wq_iadd_ok h0 kd_W_law_1136 ?_
    refine wq_sld_ok h0 hX hN9 hbl hbA hg kd_W_law_1137 ?_
    refine wq_aload_n_ok h0 kd_W_law_1138 rfl ?_
    refine wq_iload_ok h0 kd_W_law_1139 ?_
    refine wq_iconst_ok h0 kd_W_law_1141 (by decide +kernel) ?_
    refine wq_iadd_ok h0 kd_W_law_1142 ?_
    refine wq_sld_ok h0 hX hN9 hbl hbA hg kd_W_law_1143 ?_
    refine wq_call_ok hA (wq_runV (ci := 9) ⟨h0.1, h0.2, hml, hown, hts⟩ (kv_M_amend hl) ⟨(wq_cB hts kw_G kw_1372 kw_10 kw_1369 ⟨by decide +kernel, by decide +kernel, by decide +kernel⟩ rfl rfl ⟨Nat.le_of_ble_eq_true rfl, Nat.le_of_ble_eq_true rfl⟩), hts _ kw_1370, hts _ kw_1371⟩ rfl rfl hK hZ hN hA kd_W_law_1144) wq_x0_ok ?_
    refine wq_lstore_ok h0 kd_W_law_1147 (Nat.le_of_ble_eq_true rfl) ?_
    refine wq_goto_ok (tgt := 1404) h0 kd_W_law_1149 (by decide) ?_
    exact hb_1404
  have hb_1152 : wq_Snd p l e room_1 s m #[Value.ref b] below meth c 8 cs D kz_cl A Ag (lw_Z below #[Value.ref b] s) 1152 (kt_W_law_1152 N xs K) := by
    refine wq_aload_n_ok h0 kd_W_law_1152 rfl ?_
    refine wq_aload_n_ok h0 kd_W_law_1153 rfl ?_
    refine wq_iload_ok h0 kd_W_law_1154 ?_
    refine wq_iconst_ok h0 kd_W_law_1156 (by decide +kernel) ?_
    refine wq_iadd_ok h0 kd_W_law_1157 ?_
    refine wq_sld_ok h0 hX hN9 hbl hbA hg kd_W_law_1158 ?_
    refine wq_aload_n_ok h0 kd_W_law_1159 rfl ?_
    refine wq_iload_ok h0 kd_W_law_1160 ?_
    refine wq_iconst_ok h0 kd_W_law_1162 (by decide +kernel) ?_
    refine wq_iadd_ok h0 kd_W_law_1163 ?_
    refine wq_sld_ok h0 hX hN9 hbl hbA hg kd_W_law_1164 ?_
    refine wq_aload_n_ok h0 kd_W_law_1165 rfl ?_
    refine wq_call_ok hA (wq_runSH ⟨h0.1, h0.2, hml, hown, hts⟩ (kv_W_release hl) kw_G kw_919 kw_0 kw_917 kw_918 ⟨by decide +kernel, by decide +kernel, by decide +kernel⟩ rfl rfl ⟨Nat.le_of_ble_eq_true rfl, Nat.le_of_ble_eq_true rfl⟩ hK hZ hN hA kd_W_law_1166) wq_x0_ok ?_
    refine wq_istore_ok h0 kd_W_law_1169 (Nat.le_of_ble_eq_true rfl) ?_
    refine wq_aload_n_ok h0 kd_W_law_1171 rfl ?_
    refine wq_aload_n_ok h0 kd_W_law_1172 rfl ?_
    refine wq_iload_ok h0 kd_W_law_1173 ?_
    refine wq_iconst_ok h0 kd_W_law_1175 (by decide +kernel) ?_
    refine wq_iadd_ok h0 kd_W_law_1176 ?_
    refine wq_sld_ok h0 hX hN9 hbl hbA hg kd_W_law_1177 ?_
    refine wq_aload_n_ok h0 kd_W_law_1178 rfl ?_
    refine wq_iload_ok h0 kd_W_law_1179 ?_
    refine wq_iconst_ok h0 kd_W_law_1181 (by decide +kernel) ?_
    refine wq_iadd_ok h0 kd_W_law_1182 ?_
    refine wq_sld_ok h0 hX hN9 hbl hbA hg kd_W_law_1183 ?_
    refine wq_call_ok hA (wq_runV (ci := 9) ⟨h0.1, h0.2, hml, hown, hts⟩ (kv_M_release hl) ⟨(wq_cB hts kw_G kw_1380 kw_10 kw_1377 ⟨by decide +kernel, by decide +kernel, by decide +kernel⟩ rfl rfl ⟨Nat.le_of_ble_eq_true rfl, Nat.le_of_ble_eq_true rfl⟩), hts _ kw_1378, hts _ kw_1379⟩ rfl rfl hK hZ hN hA kd_W_law_1184) wq_x0_ok ?_
    refine wq_lstore_ok h0 kd_W_law_1187 (Nat.le_of_ble_eq_true rfl) ?_
    refine wq_goto_ok (tgt := 1404) h0 kd_W_law_1189 (by decide) ?_
    exact hb_1404
  have hb_1192 : wq_Snd p l e room_1 s m #[Value.ref b] below meth c 8 cs D kz_cl A Ag (lw_Z below #[Value.ref b] s) 1192 (kt_W_law_1192 N xs K) := by
    refine wq_aload_n_ok h0 kd_W_law_1192 rfl ?_
    refine wq_aload_n_ok h0 kd_W_law_1193 rfl ?_
    refine wq_iload_ok h0 kd_W_law_1194 ?_
    refine wq_iconst_ok h0 kd_W_law_1196 (by decide +kernel) ?_
    refine wq_iadd_ok h0 kd_W_law_1197 ?_
    refine wq_sld_ok h0 hX hN9 hbl hbA hg kd_W_law_1198 ?_
    refine wq_aload_n_ok h0 kd_W_law_1199 rfl ?_
    refine wq_iload_ok h0 kd_W_law_1200 ?_
    refine wq_iconst_ok h0 kd_W_law_1202 (by decide +kernel) ?_
    refine wq_iadd_ok h0 kd_W_law_1203 ?_
    refine wq_sld_ok h0 hX hN9 hbl hbA hg kd_W_law_1204 ?_
    refine wq_aload_n_ok h0 kd_W_law_1205 rfl ?_
    refine wq_call_ok hA (wq_runSH ⟨h0.1, h0.2, hml, hown, hts⟩ (kv_W_export hl) kw_G kw_939 kw_0 kw_937 kw_938 ⟨by decide +kernel, by decide +kernel, by decide +kernel⟩ rfl rfl ⟨Nat.le_of_ble_eq_true rfl, Nat.le_of_ble_eq_true rfl⟩ hK hZ hN hA kd_W_law_1206) wq_x0_ok ?_
    refine wq_istore_ok h0 kd_W_law_1209 (Nat.le_of_ble_eq_true rfl) ?_
    refine wq_aload_n_ok h0 kd_W_law_1211 rfl ?_
    refine wq_aload_n_ok h0 kd_W_law_1212 rfl ?_
    refine wq_iload_ok h0 kd_W_law_1213 ?_
    refine wq_iconst_ok h0 kd_W_law_1215 (by decide +kernel) ?_
    refine wq_iadd_ok h0 kd_W_law_1216 ?_
    refine wq_sld_ok h0 hX hN9 hbl hbA hg kd_W_law_1217 ?_
    refine wq_aload_n_ok h0 kd_W_law_1218 rfl ?_
    refine wq_iload_ok h0 kd_W_law_1219 ?_
    refine wq_iconst_ok h0 kd_W_law_1221 (by decide +kernel) ?_
    refine wq_iadd_ok h0 kd_W_law_1222 ?_
    refine wq_sld_ok h0 hX hN9 hbl hbA hg kd_W_law_1223 ?_
    refine wq_call_ok hA (wq_runV (ci := 9) ⟨h0.1, h0.2, hml, hown, hts⟩ (kv_M_export hl) ⟨(wq_cB hts kw_G kw_1392 kw_10 kw_1389 ⟨by decide +kernel, by decide +kernel, by decide +kernel⟩ rfl rfl ⟨Nat.le_of_ble_eq_true rfl, Nat.le_of_ble_eq_true rfl⟩), hts _ kw_1390, hts _ kw_1391⟩ rfl rfl hK hZ hN hA kd_W_law_1224) wq_x0_ok ?_
    refine wq_lstore_ok h0 kd_W_law_1227 (Nat.le_of_ble_eq_true rfl) ?_
    refine wq_goto_ok (tgt := 1404) h0 kd_W_law_1229 (by decide) ?_
    exact hb_1404
  have hb_1232 : wq_Snd p l e room_1 s m #[Value.ref b] below meth c 8 cs D kz_cl A Ag (lw_Z below #[Value.ref b] s) 1232 (kt_W_law_1232 N xs K) := by
    refine wq_aload_n_ok h0 kd_W_law_1232 rfl ?_
    refine wq_aload_n_ok h0 kd_W_law_1233 rfl ?_
    refine wq_iload_ok h0 kd_W_law_1234 ?_
    refine wq_iconst_ok h0 kd_W_law_1236 (by decide +kernel) ?_
    refine wq_iadd_ok h0 kd_W_law_1237 ?_
    refine wq_sld_ok h0 hX hN9 hbl hbA hg kd_W_law_1238 ?_
    refine wq_aload_n_ok h0 kd_W_law_1239 rfl ?_
    refine wq_iload_ok h0 kd_W_law_1240 ?_
    refine wq_iconst_ok h0 kd_W_law_1242 (by decide +kernel) ?_
    refine wq_iadd_ok h0 kd_W_law_1243 ?_
    refine wq_sld_ok h0 hX hN9 hbl hbA hg kd_W_law_1244 ?_
    refine wq_aload_n_ok h0 kd_W_law_1245 rfl ?_
    refine wq_iload_ok h0 kd_W_law_1246 ?_
    refine wq_iconst_ok h0 kd_W_law_1248 (by decide +kernel) ?_
    refine wq_iadd_ok h0 kd_W_law_1249 ?_
    refine wq_sld_ok h0 hX hN9 hbl hbA hg kd_W_law_1250 ?_
    refine wq_aload_n_ok h0 kd_W_law_1251 rfl ?_
    refine wq_iload_ok h0 kd_W_law_1252 ?_
    refine wq_iconst_ok h0 kd_W_law_1254 (by decide +kernel) ?_
    refine wq_iadd_ok h0 kd_W_law_1255 ?_
    refine wq_sld_ok h0 hX hN9 hbl hbA hg kd_W_law_1256 ?_
    refine wq_aload_n_ok h0 kd_W_law_1257 rfl ?_
    refine wq_call_ok hA (wq_runSH ⟨h0.1, h0.2, hml, hown, hts⟩ (kv_W_work hl) kw_G kw_946 kw_0 kw_944 kw_945 ⟨by decide +kernel, by decide +kernel, by decide +kernel⟩ rfl rfl ⟨Nat.le_of_ble_eq_true rfl, Nat.le_of_ble_eq_true rfl⟩ hK hZ hN hA kd_W_law_1258) wq_x0_ok ?_
    refine wq_istore_ok h0 kd_W_law_1261 (Nat.le_of_ble_eq_true rfl) ?_
    refine wq_aload_n_ok h0 kd_W_law_1263 rfl ?_
    refine wq_aload_n_ok h0 kd_W_law_1264 rfl ?_
    refine wq_iload_ok h0 kd_W_law_1265 ?_
    refine wq_iconst_ok h0 kd_W_law_1267 (by decide +kernel) ?_
    refine wq_iadd_ok h0 kd_W_law_1268 ?_
    refine wq_sld_ok h0 hX hN9 hbl hbA hg kd_W_law_1269 ?_
    refine wq_aload_n_ok h0 kd_W_law_1270 rfl ?_
    refine wq_iload_ok h0 kd_W_law_1271 ?_
    refine wq_iconst_ok h0 kd_W_law_1273 (by decide +kernel) ?_
    refine wq_iadd_ok h0 kd_W_law_1274 ?_
    refine wq_sld_ok h0 hX hN9 hbl hbA hg kd_W_law_1275 ?_
    refine wq_aload_n_ok h0 kd_W_law_1276 rfl ?_
    refine wq_iload_ok h0 kd_W_law_1277 ?_
    refine wq_iconst_ok h0 kd_W_law_1279 (by decide +kernel) ?_
    refine wq_iadd_ok h0 kd_W_law_1280 ?_
    refine wq_sld_ok h0 hX hN9 hbl hbA hg kd_W_law_1281 ?_
    refine wq_aload_n_ok h0 kd_W_law_1282 rfl ?_
    refine wq_iload_ok h0 kd_W_law_1283 ?_
    refine wq_iconst_ok h0 kd_W_law_1285 (by decide +kernel) ?_
    refine wq_iadd_ok h0 kd_W_law_1286 ?_
    refine wq_sld_ok h0 hX hN9 hbl hbA hg kd_W_law_1287 ?_
    refine wq_call_ok hA (wq_runV (ci := 9) ⟨h0.1, h0.2, hml, hown, hts⟩ (kv_M_work hl) ⟨(wq_cB hts kw_G kw_1396 kw_10 kw_1393 ⟨by decide +kernel, by decide +kernel, by decide +kernel⟩ rfl rfl ⟨Nat.le_of_ble_eq_true rfl, Nat.le_of_ble_eq_true rfl⟩), hts _ kw_1394, hts _ kw_1395⟩ rfl rfl hK hZ hN hA kd_W_law_1288) wq_x0_ok ?_
    refine wq_istore_ok h0 kd_W_law_1291 (Nat.le_of_ble_eq_true rfl) ?_
    refine wq_goto_ok (tgt := 1404) h0 kd_W_law_1293 (by decide) ?_
    exact hb_1404
  have hb_1296 : wq_Snd p l e room_1 s m #[Value.ref b] below meth c 8 cs D kz_cl A Ag (lw_Z below #[Value.ref b] s) 1296 (kt_W_law_1296 N xs K) := by
    refine wq_aload_n_ok h0 kd_W_law_1296 rfl ?_
    refine wq_aload_n_ok h0 kd_W_law_1297 rfl ?_
    refine wq_iload_ok h0 kd_W_law_1298 ?_
    refine wq_iconst_ok h0 kd_W_law_1300 (by decide +kernel) ?_
    refine wq_iadd_ok h0 kd_W_law_1301 ?_
    refine wq_sld_ok h0 hX hN9 hbl hbA hg kd_W_law_1302 ?_
    refine wq_aload_n_ok h0 kd_W_law_1303 rfl ?_
    refine wq_iload_ok h0 kd_W_law_1304 ?_
    refine wq_iconst_ok h0 kd_W_law_1306 (by decide +kernel) ?_
    refine wq_iadd_ok h0 kd_W_law_1307 ?_
    refine wq_sld_ok h0 hX hN9 hbl hbA hg kd_W_law_1308 ?_
    refine wq_aload_n_ok h0 kd_W_law_1309 rfl ?_
    refine wq_call_ok hA (wq_runSH ⟨h0.1, h0.2, hml, hown, hts⟩ (kv_W_lot hl) kw_G kw_953 kw_0 kw_951 kw_952 ⟨by decide +kernel, by decide +kernel, by decide +kernel⟩ rfl rfl ⟨Nat.le_of_ble_eq_true rfl, Nat.le_of_ble_eq_true rfl⟩ hK hZ hN hA kd_W_law_1310) wq_x0_ok ?_
    refine wq_istore_ok h0 kd_W_law_1313 (Nat.le_of_ble_eq_true rfl) ?_
    refine wq_aload_n_ok h0 kd_W_law_1315 rfl ?_
    refine wq_aload_n_ok h0 kd_W_law_1316 rfl ?_
    refine wq_iload_ok h0 kd_W_law_1317 ?_
    refine wq_iconst_ok h0 kd_W_law_1319 (by decide +kernel) ?_
    refine wq_iadd_ok h0 kd_W_law_1320 ?_
    refine wq_sld_ok h0 hX hN9 hbl hbA hg kd_W_law_1321 ?_
    refine wq_aload_n_ok h0 kd_W_law_1322 rfl ?_
    refine wq_iload_ok h0 kd_W_law_1323 ?_
    refine wq_iconst_ok h0 kd_W_law_1325 (by decide +kernel) ?_
    refine wq_iadd_ok h0 kd_W_law_1326 ?_
    refine wq_sld_ok h0 hX hN9 hbl hbA hg kd_W_law_1327 ?_
    refine wq_call_ok hA (wq_runV (ci := 9) ⟨h0.1, h0.2, hml, hown, hts⟩ (kv_M_lot hl) ⟨(wq_cB hts kw_G kw_1400 kw_10 kw_1397 ⟨by decide +kernel, by decide +kernel, by decide +kernel⟩ rfl rfl ⟨Nat.le_of_ble_eq_true rfl, Nat.le_of_ble_eq_true rfl⟩), hts _ kw_1398, hts _ kw_1399⟩ rfl rfl hK hZ hN hA kd_W_law_1328) wq_x0_ok ?_
    refine wq_lstore_ok h0 kd_W_law_1331 (Nat.le_of_ble_eq_true rfl) ?_
    refine wq_goto_ok (tgt := 1404) h0 kd_W_law_1333 (by decide) ?_
    exact hb_1404
  have hb_1336 : wq_Snd p l e room_1 s m #[Value.ref b] below meth c 8 cs D kz_cl A Ag (lw_Z below #[Value.ref b] s) 1336 (kt_W_law_1336 N xs K) := by
    refine wq_aload_n_ok h0 kd_W_law_1336 rfl ?_
    refine wq_aload_n_ok h0 kd_W_law_1337 rfl ?_
    refine wq_iload_ok h0 kd_W_law_1338 ?_
    refine wq_iconst_ok h0 kd_W_law_1340 (by decide +kernel) ?_
    refine wq_iadd_ok h0 kd_W_law_1341 ?_
    refine wq_sld_ok h0 hX hN9 hbl hbA hg kd_W_law_1342 ?_
    refine wq_aload_n_ok h0 kd_W_law_1343 rfl ?_
    refine wq_iload_ok h0 kd_W_law_1344 ?_
    refine wq_iconst_ok h0 kd_W_law_1346 (by decide +kernel) ?_
    refine wq_iadd_ok h0 kd_W_law_1347 ?_
    refine wq_sld_ok h0 hX hN9 hbl hbA hg kd_W_law_1348 ?_
    refine wq_aload_n_ok h0 kd_W_law_1349 rfl ?_
    refine wq_call_ok hA (wq_runSH ⟨h0.1, h0.2, hml, hown, hts⟩ (kv_W_account hl) kw_G kw_960 kw_0 kw_958 kw_959 ⟨by decide +kernel, by decide +kernel, by decide +kernel⟩ rfl rfl ⟨Nat.le_of_ble_eq_true rfl, Nat.le_of_ble_eq_true rfl⟩ hK hZ hN hA kd_W_law_1350) wq_x0_ok ?_
    refine wq_istore_ok h0 kd_W_law_1353 (Nat.le_of_ble_eq_true rfl) ?_
    refine wq_aload_n_ok h0 kd_W_law_1355 rfl ?_
    refine wq_aload_n_ok h0 kd_W_law_1356 rfl ?_
    refine wq_iload_ok h0 kd_W_law_1357 ?_
    refine wq_iconst_ok h0 kd_W_law_1359 (by decide +kernel) ?_
    refine wq_iadd_ok h0 kd_W_law_1360 ?_
    refine wq_sld_ok h0 hX hN9 hbl hbA hg kd_W_law_1361 ?_
    refine wq_aload_n_ok h0 kd_W_law_1362 rfl ?_
    refine wq_iload_ok h0 kd_W_law_1363 ?_
    refine wq_iconst_ok h0 kd_W_law_1365 (by decide +kernel) ?_
    refine wq_iadd_ok h0 kd_W_law_1366 ?_
    refine wq_sld_ok h0 hX hN9 hbl hbA hg kd_W_law_1367 ?_
    refine wq_call_ok hA (wq_runV (ci := 9) ⟨h0.1, h0.2, hml, hown, hts⟩ (kv_M_account hl) ⟨(wq_cB hts kw_G kw_1404 kw_10 kw_1401 ⟨by decide +kernel, by decide +kernel, by decide +kernel⟩ rfl rfl ⟨Nat.le_of_ble_eq_true rfl, Nat.le_of_ble_eq_true rfl⟩), hts _ kw_1402, hts _ kw_1403⟩ rfl rfl hK hZ hN hA kd_W_law_1368) wq_x0_ok ?_
    refine wq_lstore_ok h0 kd_W_law_1371 (Nat.le_of_ble_eq_true rfl) ?_
    refine wq_goto_ok (tgt := 1404) h0 kd_W_law_1373 (by decide) ?_
    exact hb_1404
  have hb_1376 : wq_Snd p l e room_1 s m #[Value.ref b] below meth c 8 cs D kz_cl A Ag (lw_Z below #[Value.ref b] s) 1376 (kt_W_law_1376 N xs K) := by
    refine wq_aload_n_ok h0 kd_W_law_1376 rfl ?_
    refine wq_aload_n_ok h0 kd_W_law_1377 rfl ?_
    refine wq_iload_ok h0 kd_W_law_1378 ?_
    refine wq_iconst_ok h0 kd_W_law_1380 (by decide +kernel) ?_
    refine wq_iadd_ok h0 kd_W_law_1381 ?_
    refine wq_sld_ok h0 hX hN9 hbl hbA hg kd_W_law_1382 ?_
    refine wq_aload_n_ok h0 kd_W_law_1383 rfl ?_
    refine wq_call_ok hA (wq_runSH ⟨h0.1, h0.2, hml, hown, hts⟩ (kv_W_books hl) kw_G kw_971 kw_0 kw_969 kw_970 ⟨by decide +kernel, by decide +kernel, by decide +kernel⟩ rfl rfl ⟨Nat.le_of_ble_eq_true rfl, Nat.le_of_ble_eq_true rfl⟩ hK hZ hN hA kd_W_law_1384) wq_x0_ok ?_
    refine wq_istore_ok h0 kd_W_law_1387 (Nat.le_of_ble_eq_true rfl) ?_
    refine wq_aload_n_ok h0 kd_W_law_1389 rfl ?_
    refine wq_aload_n_ok h0 kd_W_law_1390 rfl ?_
    refine wq_iload_ok h0 kd_W_law_1391 ?_
    refine wq_iconst_ok h0 kd_W_law_1393 (by decide +kernel) ?_
    refine wq_iadd_ok h0 kd_W_law_1394 ?_
    refine wq_sld_ok h0 hX hN9 hbl hbA hg kd_W_law_1395 ?_
    refine wq_call_ok hA (wq_runV (ci := 9) ⟨h0.1, h0.2, hml, hown, hts⟩ (kv_M_books hl) ⟨(wq_cB hts kw_G kw_1412 kw_10 kw_1409 ⟨by decide +kernel, by decide +kernel, by decide +kernel⟩ rfl rfl ⟨Nat.le_of_ble_eq_true rfl, Nat.le_of_ble_eq_true rfl⟩), hts _ kw_1410, hts _ kw_1411⟩ rfl rfl hK hZ hN hA kd_W_law_1396) wq_x0_ok ?_
    refine wq_lstore_ok h0 kd_W_law_1399 (Nat.le_of_ble_eq_true rfl) ?_
    refine wq_goto_ok (tgt := 1404) h0 kd_W_law_1401 (by decide) ?_
    exact hb_1404
  have hb_23 : wq_Snd p l e room_1 s m #[Value.ref b] below meth c 8 cs D kz_cl A Ag (lw_Z below #[Value.ref b] s) 23 (kh_W_law_23 N xs K) := by
    refine wq_iload_ok h0 kd_W_law_23 ?_
    refine wq_aload_n_ok h0 kd_W_law_25 rfl ?_
    refine wq_slen_ok h0 hX hbl hbA hg kd_W_law_26 ?_
    refine wq_bipush_ok h0 kd_W_law_27 (by decide +kernel) ?_
    refine wq_isub_ok h0 kd_W_law_29 ?_
    refine wq_icmp_gt_ok (tgt := 1410) h0 kd_W_law_30 (by decide) ?_ ?_
    · exact hb_1410
    refine wq_aload_n_ok h0 kd_W_law_33 rfl ?_
    refine wq_iload_ok h0 kd_W_law_34 ?_
    refine wq_sld_ok h0 hX hN9 hbl hbA hg kd_W_law_36 ?_
    refine wq_bipush_ok h0 kd_W_law_37 (by decide +kernel) ?_
    refine wq_iand_ok h0 kd_W_law_39 ?_
    refine wq_sw_ok ?_ ?_
    · exact List.forall_mem_cons.mpr ⟨⟨152, (by exact hb_152), fun H locs n1 n2 ls rest hw => lv_tableIn (tgt := 152) (off := 112) h0.1 h0.2 kd_W_law_40 (show ¬ (nI 0).toInt < 0 by decide +kernel) (show ¬ 23 < (nI 0).toInt by decide +kernel) (show (#[112, 140, 204, 256, 284, 388, 440, 530, 558, 622, 659, 708, 748, 788, 908, 968, 1020, 1048, 1112, 1152, 1192, 1256, 1296, 1336] : Array Int)[((nI 0).toInt - 0).toNat]? = some 112 by decide +kernel) (by decide) hw⟩, List.forall_mem_cons.mpr ⟨⟨180, (by exact hb_180), fun H locs n1 n2 ls rest hw => lv_tableIn (tgt := 180) (off := 140) h0.1 h0.2 kd_W_law_40 (show ¬ (nI 1).toInt < 0 by decide +kernel) (show ¬ 23 < (nI 1).toInt by decide +kernel) (show (#[112, 140, 204, 256, 284, 388, 440, 530, 558, 622, 659, 708, 748, 788, 908, 968, 1020, 1048, 1112, 1152, 1192, 1256, 1296, 1336] : Array Int)[((nI 1).toInt - 0).toNat]? = some 140 by decide +kernel) (by decide) hw⟩, List.forall_mem_cons.mpr ⟨⟨244, (by exact hb_244), fun H locs n1 n2 ls rest hw => lv_tableIn (tgt := 244) (off := 204) h0.1 h0.2 kd_W_law_40 (show ¬ (nI 2).toInt < 0 by decide +kernel) (show ¬ 23 < (nI 2).toInt by decide +kernel) (show (#[112, 140, 204, 256, 284, 388, 440, 530, 558, 622, 659, 708, 748, 788, 908, 968, 1020, 1048, 1112, 1152, 1192, 1256, 1296, 1336] : Array Int)[((nI 2).toInt - 0).toNat]? = some 204 by decide +kernel) (by decide) hw⟩, List.forall_mem_cons.mpr ⟨⟨296, (by exact hb_296), fun H locs n1 n2 ls rest hw => lv_tableIn (tgt := 296) (off := 256) h0.1 h0.2 kd_W_law_40 (show ¬ (nI 3).toInt < 0 by decide +kernel) (show ¬ 23 < (nI 3).toInt by decide +kernel) (show (#[112, 140, 204, 256, 284, 388, 440, 530, 558, 622, 659, 708, 748, 788, 908, 968, 1020, 1048, 1112, 1152, 1192, 1256, 1296, 1336] : Array Int)[((nI 3).toInt - 0).toNat]? = some 256 by decide +kernel) (by decide) hw⟩, List.forall_mem_cons.mpr ⟨⟨324, (by exact hb_324), fun H locs n1 n2 ls rest hw => lv_tableIn (tgt := 324) (off := 284) h0.1 h0.2 kd_W_law_40 (show ¬ (nI 4).toInt < 0 by decide +kernel) (show ¬ 23 < (nI 4).toInt by decide +kernel) (show (#[112, 140, 204, 256, 284, 388, 440, 530, 558, 622, 659, 708, 748, 788, 908, 968, 1020, 1048, 1112, 1152, 1192, 1256, 1296, 1336] : Array Int)[((nI 4).toInt - 0).toNat]? = some 284 by decide +kernel) (by decide) hw⟩, List.forall_mem_cons.mpr ⟨⟨428, (by exact hb_428), fun H locs n1 n2 ls rest hw => lv_tableIn (tgt := 428) (off := 388) h0.1 h0.2 kd_W_law_40 (show ¬ (nI 5).toInt < 0 by decide +kernel) (show ¬ 23 < (nI 5).toInt by decide +kernel) (show (#[112, 140, 204, 256, 284, 388, 440, 530, 558, 622, 659, 708, 748, 788, 908, 968, 1020, 1048, 1112, 1152, 1192, 1256, 1296, 1336] : Array Int)[((nI 5).toInt - 0).toNat]? = some 388 by decide +kernel) (by decide) hw⟩, List.forall_mem_cons.mpr ⟨⟨480, (by exact hb_480), fun H locs n1 n2 ls rest hw => lv_tableIn (tgt := 480) (off := 440) h0.1 h0.2 kd_W_law_40 (show ¬ (nI 6).toInt < 0 by decide +kernel) (show ¬ 23 < (nI 6).toInt by decide +kernel) (show (#[112, 140, 204, 256, 284, 388, 440, 530, 558, 622, 659, 708, 748, 788, 908, 968, 1020, 1048, 1112, 1152, 1192, 1256, 1296, 1336] : Array Int)[((nI 6).toInt - 0).toNat]? = some 440 by decide +kernel) (by decide) hw⟩, List.forall_mem_cons.mpr ⟨⟨570, (by exact hb_570), fun H locs n1 n2 ls rest hw => lv_tableIn (tgt := 570) (off := 530) h0.1 h0.2 kd_W_law_40 (show ¬ (nI 7).toInt < 0 by decide +kernel) (show ¬ 23 < (nI 7).toInt by decide +kernel) (show (#[112, 140, 204, 256, 284, 388, 440, 530, 558, 622, 659, 708, 748, 788, 908, 968, 1020, 1048, 1112, 1152, 1192, 1256, 1296, 1336] : Array Int)[((nI 7).toInt - 0).toNat]? = some 530 by decide +kernel) (by decide) hw⟩, List.forall_mem_cons.mpr ⟨⟨598, (by exact hb_598), fun H locs n1 n2 ls rest hw => lv_tableIn (tgt := 598) (off := 558) h0.1 h0.2 kd_W_law_40 (show ¬ (nI 8).toInt < 0 by decide +kernel) (show ¬ 23 < (nI 8).toInt by decide +kernel) (show (#[112, 140, 204, 256, 284, 388, 440, 530, 558, 622, 659, 708, 748, 788, 908, 968, 1020, 1048, 1112, 1152, 1192, 1256, 1296, 1336] : Array Int)[((nI 8).toInt - 0).toNat]? = some 558 by decide +kernel) (by decide) hw⟩, List.forall_mem_cons.mpr ⟨⟨662, (by exact hb_662), fun H locs n1 n2 ls rest hw => lv_tableIn (tgt := 662) (off := 622) h0.1 h0.2 kd_W_law_40 (show ¬ (nI 9).toInt < 0 by decide +kernel) (show ¬ 23 < (nI 9).toInt by decide +kernel) (show (#[112, 140, 204, 256, 284, 388, 440, 530, 558, 622, 659, 708, 748, 788, 908, 968, 1020, 1048, 1112, 1152, 1192, 1256, 1296, 1336] : Array Int)[((nI 9).toInt - 0).toNat]? = some 622 by decide +kernel) (by decide) hw⟩, List.forall_mem_cons.mpr ⟨⟨699, (by exact hb_699), fun H locs n1 n2 ls rest hw => lv_tableIn (tgt := 699) (off := 659) h0.1 h0.2 kd_W_law_40 (show ¬ (nI 10).toInt < 0 by decide +kernel) (show ¬ 23 < (nI 10).toInt by decide +kernel) (show (#[112, 140, 204, 256, 284, 388, 440, 530, 558, 622, 659, 708, 748, 788, 908, 968, 1020, 1048, 1112, 1152, 1192, 1256, 1296, 1336] : Array Int)[((nI 10).toInt - 0).toNat]? = some 659 by decide +kernel) (by decide) hw⟩, List.forall_mem_cons.mpr ⟨⟨748, (by exact hb_748), fun H locs n1 n2 ls rest hw => lv_tableIn (tgt := 748) (off := 708) h0.1 h0.2 kd_W_law_40 (show ¬ (nI 11).toInt < 0 by decide +kernel) (show ¬ 23 < (nI 11).toInt by decide +kernel) (show (#[112, 140, 204, 256, 284, 388, 440, 530, 558, 622, 659, 708, 748, 788, 908, 968, 1020, 1048, 1112, 1152, 1192, 1256, 1296, 1336] : Array Int)[((nI 11).toInt - 0).toNat]? = some 708 by decide +kernel) (by decide) hw⟩, List.forall_mem_cons.mpr ⟨⟨788, (by exact hb_788), fun H locs n1 n2 ls rest hw => lv_tableIn (tgt := 788) (off := 748) h0.1 h0.2 kd_W_law_40 (show ¬ (nI 12).toInt < 0 by decide +kernel) (show ¬ 23 < (nI 12).toInt by decide +kernel) (show (#[112, 140, 204, 256, 284, 388, 440, 530, 558, 622, 659, 708, 748, 788, 908, 968, 1020, 1048, 1112, 1152, 1192, 1256, 1296, 1336] : Array Int)[((nI 12).toInt - 0).toNat]? = some 748 by decide +kernel) (by decide) hw⟩, List.forall_mem_cons.mpr ⟨⟨828, (by exact hb_828), fun H locs n1 n2 ls rest hw => lv_tableIn (tgt := 828) (off := 788) h0.1 h0.2 kd_W_law_40 (show ¬ (nI 13).toInt < 0 by decide +kernel) (show ¬ 23 < (nI 13).toInt by decide +kernel) (show (#[112, 140, 204, 256, 284, 388, 440, 530, 558, 622, 659, 708, 748, 788, 908, 968, 1020, 1048, 1112, 1152, 1192, 1256, 1296, 1336] : Array Int)[((nI 13).toInt - 0).toNat]? = some 788 by decide +kernel) (by decide) hw⟩, List.forall_mem_cons.mpr ⟨⟨948, (by exact hb_948), fun H locs n1 n2 ls rest hw => lv_tableIn (tgt := 948) (off := 908) h0.1 h0.2 kd_W_law_40 (show ¬ (nI 14).toInt < 0 by decide +kernel) (show ¬ 23 < (nI 14).toInt by decide +kernel) (show (#[112, 140, 204, 256, 284, 388, 440, 530, 558, 622, 659, 708, 748, 788, 908, 968, 1020, 1048, 1112, 1152, 1192, 1256, 1296, 1336] : Array Int)[((nI 14).toInt - 0).toNat]? = some 908 by decide +kernel) (by decide) hw⟩, List.forall_mem_cons.mpr ⟨⟨1008, (by exact hb_1008), fun H locs n1 n2 ls rest hw => lv_tableIn (tgt := 1008) (off := 968) h0.1 h0.2 kd_W_law_40 (show ¬ (nI 15).toInt < 0 by decide +kernel) (show ¬ 23 < (nI 15).toInt by decide +kernel) (show (#[112, 140, 204, 256, 284, 388, 440, 530, 558, 622, 659, 708, 748, 788, 908, 968, 1020, 1048, 1112, 1152, 1192, 1256, 1296, 1336] : Array Int)[((nI 15).toInt - 0).toNat]? = some 968 by decide +kernel) (by decide) hw⟩, List.forall_mem_cons.mpr ⟨⟨1060, (by exact hb_1060), fun H locs n1 n2 ls rest hw => lv_tableIn (tgt := 1060) (off := 1020) h0.1 h0.2 kd_W_law_40 (show ¬ (nI 16).toInt < 0 by decide +kernel) (show ¬ 23 < (nI 16).toInt by decide +kernel) (show (#[112, 140, 204, 256, 284, 388, 440, 530, 558, 622, 659, 708, 748, 788, 908, 968, 1020, 1048, 1112, 1152, 1192, 1256, 1296, 1336] : Array Int)[((nI 16).toInt - 0).toNat]? = some 1020 by decide +kernel) (by decide) hw⟩, List.forall_mem_cons.mpr ⟨⟨1088, (by exact hb_1088), fun H locs n1 n2 ls rest hw => lv_tableIn (tgt := 1088) (off := 1048) h0.1 h0.2 kd_W_law_40 (show ¬ (nI 17).toInt < 0 by decide +kernel) (show ¬ 23 < (nI 17).toInt by decide +kernel) (show (#[112, 140, 204, 256, 284, 388, 440, 530, 558, 622, 659, 708, 748, 788, 908, 968, 1020, 1048, 1112, 1152, 1192, 1256, 1296, 1336] : Array Int)[((nI 17).toInt - 0).toNat]? = some 1048 by decide +kernel) (by decide) hw⟩, List.forall_mem_cons.mpr ⟨⟨1152, (by exact hb_1152), fun H locs n1 n2 ls rest hw => lv_tableIn (tgt := 1152) (off := 1112) h0.1 h0.2 kd_W_law_40 (show ¬ (nI 18).toInt < 0 by decide +kernel) (show ¬ 23 < (nI 18).toInt by decide +kernel) (show (#[112, 140, 204, 256, 284, 388, 440, 530, 558, 622, 659, 708, 748, 788, 908, 968, 1020, 1048, 1112, 1152, 1192, 1256, 1296, 1336] : Array Int)[((nI 18).toInt - 0).toNat]? = some 1112 by decide +kernel) (by decide) hw⟩, List.forall_mem_cons.mpr ⟨⟨1192, (by exact hb_1192), fun H locs n1 n2 ls rest hw => lv_tableIn (tgt := 1192) (off := 1152) h0.1 h0.2 kd_W_law_40 (show ¬ (nI 19).toInt < 0 by decide +kernel) (show ¬ 23 < (nI 19).toInt by decide +kernel) (show (#[112, 140, 204, 256, 284, 388, 440, 530, 558, 622, 659, 708, 748, 788, 908, 968, 1020, 1048, 1112, 1152, 1192, 1256, 1296, 1336] : Array Int)[((nI 19).toInt - 0).toNat]? = some 1152 by decide +kernel) (by decide) hw⟩, List.forall_mem_cons.mpr ⟨⟨1232, (by exact hb_1232), fun H locs n1 n2 ls rest hw => lv_tableIn (tgt := 1232) (off := 1192) h0.1 h0.2 kd_W_law_40 (show ¬ (nI 20).toInt < 0 by decide +kernel) (show ¬ 23 < (nI 20).toInt by decide +kernel) (show (#[112, 140, 204, 256, 284, 388, 440, 530, 558, 622, 659, 708, 748, 788, 908, 968, 1020, 1048, 1112, 1152, 1192, 1256, 1296, 1336] : Array Int)[((nI 20).toInt - 0).toNat]? = some 1192 by decide +kernel) (by decide) hw⟩, List.forall_mem_cons.mpr ⟨⟨1296, (by exact hb_1296), fun H locs n1 n2 ls rest hw => lv_tableIn (tgt := 1296) (off := 1256) h0.1 h0.2 kd_W_law_40 (show ¬ (nI 21).toInt < 0 by decide +kernel) (show ¬ 23 < (nI 21).toInt by decide +kernel) (show (#[112, 140, 204, 256, 284, 388, 440, 530, 558, 622, 659, 708, 748, 788, 908, 968, 1020, 1048, 1112, 1152, 1192, 1256, 1296, 1336] : Array Int)[((nI 21).toInt - 0).toNat]? = some 1256 by decide +kernel) (by decide) hw⟩, List.forall_mem_cons.mpr ⟨⟨1336, (by exact hb_1336), fun H locs n1 n2 ls rest hw => lv_tableIn (tgt := 1336) (off := 1296) h0.1 h0.2 kd_W_law_40 (show ¬ (nI 22).toInt < 0 by decide +kernel) (show ¬ 23 < (nI 22).toInt by decide +kernel) (show (#[112, 140, 204, 256, 284, 388, 440, 530, 558, 622, 659, 708, 748, 788, 908, 968, 1020, 1048, 1112, 1152, 1192, 1256, 1296, 1336] : Array Int)[((nI 22).toInt - 0).toNat]? = some 1296 by decide +kernel) (by decide) hw⟩, List.forall_mem_cons.mpr ⟨⟨1376, (by exact hb_1376), fun H locs n1 n2 ls rest hw => lv_tableIn (tgt := 1376) (off := 1336) h0.1 h0.2 kd_W_law_40 (show ¬ (nI 23).toInt < 0 by decide +kernel) (show ¬ 23 < (nI 23).toInt by decide +kernel) (show (#[112, 140, 204, 256, 284, 388, 440, 530, 558, 622, 659, 708, 748, 788, 908, 968, 1020, 1048, 1112, 1152, 1192, 1256, 1296, 1336] : Array Int)[((nI 23).toInt - 0).toNat]? = some 1336 by decide +kernel) (by decide) hw⟩, fun _ h => absurd h List.not_mem_nil⟩⟩⟩⟩⟩⟩⟩⟩⟩⟩⟩⟩⟩⟩⟩⟩⟩⟩⟩⟩⟩⟩⟩⟩
    · exact ⟨1404, (by exact hb_1404), fun H locs n1 n2 ls rest x hq hw => lv_tableOut (tgt := 1404) h0.1 h0.2 kd_W_law_40 (wq_tabO 0 23 (by decide) (fun k h1 h2 => by rcases (show k = 0 ∨ k = 1 ∨ k = 2 ∨ k = 3 ∨ k = 4 ∨ k = 5 ∨ k = 6 ∨ k = 7 ∨ k = 8 ∨ k = 9 ∨ k = 10 ∨ k = 11 ∨ k = 12 ∨ k = 13 ∨ k = 14 ∨ k = 15 ∨ k = 16 ∨ k = 17 ∨ k = 18 ∨ k = 19 ∨ k = 20 ∨ k = 21 ∨ k = 22 ∨ k = 23 by omega) with rfl | rfl | rfl | rfl | rfl | rfl | rfl | rfl | rfl | rfl | rfl | rfl | rfl | rfl | rfl | rfl | rfl | rfl | rfl | rfl | rfl | rfl | rfl | rfl <;> first | exact hq _ List.mem_cons_self | exact hq _ (List.mem_cons_of_mem _ List.mem_cons_self) | exact hq _ (List.mem_cons_of_mem _ (List.mem_cons_of_mem _ List.mem_cons_self)) | exact hq _ (List.mem_cons_of_mem _ (List.mem_cons_of_mem _ (List.mem_cons_of_mem _ List.mem_cons_self))) | exact hq _ (List.mem_cons_of_mem _ (List.mem_cons_of_mem _ (List.mem_cons_of_mem _ (List.mem_cons_of_mem _ List.mem_cons_self)))) | exact hq _ (List.mem_cons_of_mem _ (List.mem_cons_of_mem _ (List.mem_cons_of_mem _ (List.mem_cons_of_mem _ (List.mem_cons_of_mem _ List.mem_cons_self))))) | exact hq _ (List.mem_cons_of_mem _ (List.mem_cons_of_mem _ (List.mem_cons_of_mem _ (List.mem_cons_of_mem _ (List.mem_cons_of_mem _ (List.mem_cons_of_mem _ List.mem_cons_self)))))) | exact hq _ (List.mem_cons_of_mem _ (List.mem_cons_of_mem _ (List.mem_cons_of_mem _ (List.mem_cons_of_mem _ (List.mem_cons_of_mem _ (List.mem_cons_of_mem _ (List.mem_cons_of_mem _ List.mem_cons_self))))))) | exact hq _ (List.mem_cons_of_mem _ (List.mem_cons_of_mem _ (List.mem_cons_of_mem _ (List.mem_cons_of_mem _ (List.mem_cons_of_mem _ (List.mem_cons_of_mem _ (List.mem_cons_of_mem _ (List.mem_cons_of_mem _ List.mem_cons_self)))))))) | exact hq _ (List.mem_cons_of_mem _ (List.mem_cons_of_mem _ (List.mem_cons_of_mem _ (List.mem_cons_of_mem _ (List.mem_cons_of_mem _ (List.mem_cons_of_mem _ (List.mem_cons_of_mem _ (List.mem_cons_of_mem _ (List.mem_cons_of_mem _ List.mem_cons_self))))))))) | exact hq _ (List.mem_cons_of_mem _ (List.mem_cons_of_mem _ (List.mem_cons_of_mem _ (List.mem_cons_of_mem _ (List.mem_cons_of_mem _ (List.mem_cons_of_mem _ (List.mem_cons_of_mem _ (List.mem_cons_of_mem _ (List.mem_cons_of_mem _ (List.mem_cons_of_mem _ List.mem_cons_self)))))))))) | exact hq _ (List.mem_cons_of_mem _ (List.mem_cons_of_mem _ (List.mem_cons_of_mem _ (List.mem_cons_of_mem _ (List.mem_cons_of_mem _ (List.mem_cons_of_mem _ (List.mem_cons_of_mem _ (List.mem_cons_of_mem _ (List.mem_cons_of_mem _ (List.mem_cons_of_mem _ (List.mem_cons_of_mem _ List.mem_cons_self))))))))))) | exact hq _ (List.mem_cons_of_mem _ (List.mem_cons_of_mem _ (List.mem_cons_of_mem _ (List.mem_cons_of_mem _ (List.mem_cons_of_mem _ (List.mem_cons_of_mem _ (List.mem_cons_of_mem _ (List.mem_cons_of_mem _ (List.mem_cons_of_mem _ (List.mem_cons_of_mem _ (List.mem_cons_of_mem _ (List.mem_cons_of_mem _ List.mem_cons_self)))))))))))) | exact hq _ (List.mem_cons_of_mem _ (List.mem_cons_of_mem _ (List.mem_cons_of_mem _ (List.mem_cons_of_mem _ (List.mem_cons_of_mem _ (List.mem_cons_of_mem _ (List.mem_cons_of_mem _ (List.mem_cons_of_mem _ (List.mem_cons_of_mem _ (List.mem_cons_of_mem _ (List.mem_cons_of_mem _ (List.mem_cons_of_mem _ (List.mem_cons_of_mem _ List.mem_cons_self))))))))))))) | exact hq _ (List.mem_cons_of_mem _ (List.mem_cons_of_mem _ (List.mem_cons_of_mem _ (List.mem_cons_of_mem _ (List.mem_cons_of_mem _ (List.mem_cons_of_mem _ (List.mem_cons_of_mem _ (List.mem_cons_of_mem _ (List.mem_cons_of_mem _ (List.mem_cons_of_mem _ (List.mem_cons_of_mem _ (List.mem_cons_of_mem _ (List.mem_cons_of_mem _ (List.mem_cons_of_mem _ List.mem_cons_self)))))))))))))) | exact hq _ (List.mem_cons_of_mem _ (List.mem_cons_of_mem _ (List.mem_cons_of_mem _ (List.mem_cons_of_mem _ (List.mem_cons_of_mem _ (List.mem_cons_of_mem _ (List.mem_cons_of_mem _ (List.mem_cons_of_mem _ (List.mem_cons_of_mem _ (List.mem_cons_of_mem _ (List.mem_cons_of_mem _ (List.mem_cons_of_mem _ (List.mem_cons_of_mem _ (List.mem_cons_of_mem _ (List.mem_cons_of_mem _ List.mem_cons_self))))))))))))))) | exact hq _ (List.mem_cons_of_mem _ (List.mem_cons_of_mem _ (List.mem_cons_of_mem _ (List.mem_cons_of_mem _ (List.mem_cons_of_mem _ (List.mem_cons_of_mem _ (List.mem_cons_of_mem _ (List.mem_cons_of_mem _ (List.mem_cons_of_mem _ (List.mem_cons_of_mem _ (List.mem_cons_of_mem _ (List.mem_cons_of_mem _ (List.mem_cons_of_mem _ (List.mem_cons_of_mem _ (List.mem_cons_of_mem _ (List.mem_cons_of_mem _ List.mem_cons_self)))))))))))))))) | exact hq _ (List.mem_cons_of_mem _ (List.mem_cons_of_mem _ (List.mem_cons_of_mem _ (List.mem_cons_of_mem _ (List.mem_cons_of_mem _ (List.mem_cons_of_mem _ (List.mem_cons_of_mem _ (List.mem_cons_of_mem _ (List.mem_cons_of_mem _ (List.mem_cons_of_mem _ (List.mem_cons_of_mem _ (List.mem_cons_of_mem _ (List.mem_cons_of_mem _ (List.mem_cons_of_mem _ (List.mem_cons_of_mem _ (List.mem_cons_of_mem _ (List.mem_cons_of_mem _ List.mem_cons_self))))))))))))))))) | exact hq _ (List.mem_cons_of_mem _ (List.mem_cons_of_mem _ (List.mem_cons_of_mem _ (List.mem_cons_of_mem _ (List.mem_cons_of_mem _ (List.mem_cons_of_mem _ (List.mem_cons_of_mem _ (List.mem_cons_of_mem _ (List.mem_cons_of_mem _ (List.mem_cons_of_mem _ (List.mem_cons_of_mem _ (List.mem_cons_of_mem _ (List.mem_cons_of_mem _ (List.mem_cons_of_mem _ (List.mem_cons_of_mem _ (List.mem_cons_of_mem _ (List.mem_cons_of_mem _ (List.mem_cons_of_mem _ List.mem_cons_self)))))))))))))))))) | exact hq _ (List.mem_cons_of_mem _ (List.mem_cons_of_mem _ (List.mem_cons_of_mem _ (List.mem_cons_of_mem _ (List.mem_cons_of_mem _ (List.mem_cons_of_mem _ (List.mem_cons_of_mem _ (List.mem_cons_of_mem _ (List.mem_cons_of_mem _ (List.mem_cons_of_mem _ (List.mem_cons_of_mem _ (List.mem_cons_of_mem _ (List.mem_cons_of_mem _ (List.mem_cons_of_mem _ (List.mem_cons_of_mem _ (List.mem_cons_of_mem _ (List.mem_cons_of_mem _ (List.mem_cons_of_mem _ (List.mem_cons_of_mem _ List.mem_cons_self))))))))))))))))))) | exact hq _ (List.mem_cons_of_mem _ (List.mem_cons_of_mem _ (List.mem_cons_of_mem _ (List.mem_cons_of_mem _ (List.mem_cons_of_mem _ (List.mem_cons_of_mem _ (List.mem_cons_of_mem _ (List.mem_cons_of_mem _ (List.mem_cons_of_mem _ (List.mem_cons_of_mem _ (List.mem_cons_of_mem _ (List.mem_cons_of_mem _ (List.mem_cons_of_mem _ (List.mem_cons_of_mem _ (List.mem_cons_of_mem _ (List.mem_cons_of_mem _ (List.mem_cons_of_mem _ (List.mem_cons_of_mem _ (List.mem_cons_of_mem _ (List.mem_cons_of_mem _ List.mem_cons_self)))))))))))))))))))) | exact hq _ (List.mem_cons_of_mem _ (List.mem_cons_of_mem _ (List.mem_cons_of_mem _ (List.mem_cons_of_mem _ (List.mem_cons_of_mem _ (List.mem_cons_of_mem _ (List.mem_cons_of_mem _ (List.mem_cons_of_mem _ (List.mem_cons_of_mem _ (List.mem_cons_of_mem _ (List.mem_cons_of_mem _ (List.mem_cons_of_mem _ (List.mem_cons_of_mem _ (List.mem_cons_of_mem _ (List.mem_cons_of_mem _ (List.mem_cons_of_mem _ (List.mem_cons_of_mem _ (List.mem_cons_of_mem _ (List.mem_cons_of_mem _ (List.mem_cons_of_mem _ (List.mem_cons_of_mem _ List.mem_cons_self))))))))))))))))))))) | exact hq _ (List.mem_cons_of_mem _ (List.mem_cons_of_mem _ (List.mem_cons_of_mem _ (List.mem_cons_of_mem _ (List.mem_cons_of_mem _ (List.mem_cons_of_mem _ (List.mem_cons_of_mem _ (List.mem_cons_of_mem _ (List.mem_cons_of_mem _ (List.mem_cons_of_mem _ (List.mem_cons_of_mem _ (List.mem_cons_of_mem _ (List.mem_cons_of_mem _ (List.mem_cons_of_mem _ (List.mem_cons_of_mem _ (List.mem_cons_of_mem _ (List.mem_cons_of_mem _ (List.mem_cons_of_mem _ (List.mem_cons_of_mem _ (List.mem_cons_of_mem _ (List.mem_cons_of_mem _ (List.mem_cons_of_mem _ List.mem_cons_self)))))))))))))))))))))) | exact hq _ (List.mem_cons_of_mem _ (List.mem_cons_of_mem _ (List.mem_cons_of_mem _ (List.mem_cons_of_mem _ (List.mem_cons_of_mem _ (List.mem_cons_of_mem _ (List.mem_cons_of_mem _ (List.mem_cons_of_mem _ (List.mem_cons_of_mem _ (List.mem_cons_of_mem _ (List.mem_cons_of_mem _ (List.mem_cons_of_mem _ (List.mem_cons_of_mem _ (List.mem_cons_of_mem _ (List.mem_cons_of_mem _ (List.mem_cons_of_mem _ (List.mem_cons_of_mem _ (List.mem_cons_of_mem _ (List.mem_cons_of_mem _ (List.mem_cons_of_mem _ (List.mem_cons_of_mem _ (List.mem_cons_of_mem _ (List.mem_cons_of_mem _ List.mem_cons_self))))))))))))))))))))))))) (by decide) hw⟩
  have hb_0 : wq_Snd p l e room_1 s m #[Value.ref b] below meth c 8 cs D kz_cl A Ag (lw_Z below #[Value.ref b] s) 0 (kt_W_law_0 N xs K) := by
    refine wq_new_ok h0 hK hA hAg hts ki_B ka_B kb_B hown (hts _ kw_21) (hts _ kw_22) (hts _ kw_1) (ci := 0) rfl (fun ad j hj => kf_B ad j hj) kd_W_law_0 ?_
    refine wq_dup_ok h0 kd_W_law_3 ?_
    refine wq_callA_ok hA hAg (wq_runI ⟨h0.1, h0.2, hml, hown, hts⟩ (kv_B_init hl) ⟨(wq_cB hts kw_G kw_25 kw_1 kw_23 ⟨by decide +kernel, by decide +kernel, by decide +kernel⟩ rfl rfl ⟨Nat.le_of_ble_eq_true rfl, Nat.le_of_ble_eq_true rfl⟩), rfl, hts _ kw_24⟩ hK hZ hN hA kd_W_law_4) ?_
    refine wq_astore_n_ok h0 kd_W_law_7 rfl (Nat.le_of_ble_eq_true rfl) ?_
    refine wq_new_ok h0 hK hA hAg hts ki_M ka_M kb_M hown (hts _ kw_976) (hts _ kw_977) (hts _ kw_10) (ci := 9) rfl (fun ad j hj => kf_M ad j hj) kd_W_law_8 ?_
    refine wq_dup_ok h0 kd_W_law_11 ?_
    refine wq_callA_ok hA hAg (wq_runI ⟨h0.1, h0.2, hml, hown, hts⟩ (kv_M_init hl) ⟨(wq_cB hts kw_G kw_980 kw_10 kw_978 ⟨by decide +kernel, by decide +kernel, by decide +kernel⟩ rfl rfl ⟨Nat.le_of_ble_eq_true rfl, Nat.le_of_ble_eq_true rfl⟩), rfl, hts _ kw_979⟩ hK hZ hN hA kd_W_law_12) ?_
    refine wq_astore_n_ok h0 kd_W_law_15 rfl (Nat.le_of_ble_eq_true rfl) ?_
    refine wq_iconst_ok h0 kd_W_law_16 (by decide +kernel) ?_
    refine wq_newa_ok (atype := .long) h0 hK hA hAg (hts _ kw_265) rfl (Or.inr (Or.inl ⟨rfl, rfl⟩)) kd_W_law_17 ?_
    refine wq_astore_n_ok h0 kd_W_law_19 rfl (Nat.le_of_ble_eq_true rfl) ?_
    refine wq_iconst_ok h0 kd_W_law_20 (by decide +kernel) ?_
    refine wq_istore_ok h0 kd_W_law_21 (Nat.le_of_ble_eq_true rfl) ?_
    exact wq_can_ok (hKc 23 (by decide))
  exact ⟨hb_23, hb_0⟩
end KLAW
