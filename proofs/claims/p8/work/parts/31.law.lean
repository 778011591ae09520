section KLAW
variable {p : Program} {l : Launch} {e : Env} {s : State} {m : MethodId} {below : List Frame} {meth : Method} {c : Code} {cs : Nat → ClassId} {D : va_G} {A : Nat → Prop} {Ag : wq_Ad → Prop} {N b : Nat} {xs : Nat → Int32}
theorem kl_end_ok {pc : Nat} (h0 : p.tables.exec = Jvm.exec ∧ c.code = code) (hr : meth.sig.returnType = ret) (hlk : meth.locks = false) (hd : decode code pc = .ok (.ireturn, 1)) (hA9 : ∀ q, A q → s.heap.size ≤ q) : wq_Snd p l e room_1 s m #[Value.ref b] below meth c 8 cs D kz_cl A Ag (lw_Z below #[Value.ref b] s) pc wq_lend := by
  intro L S w n1 n2 h ad ls H locs hG hl hP hD hS
  unfold wq_lend at h
  split at h
  · obtain ⟨rfl, h⟩ := h
    obtain ⟨h1, h2, -⟩ := wq_le2 h
    exact va_forget (fun q hq => hA9 _ (hS.2.2 q hq)) (W.widen h1 h2 (lw_ret h0.1 h0.2 hr hlk hd))
  · exact h.elim
set_option maxRecDepth 100000 in
set_option maxHeartbeats 40000000 in
theorem kl_ok (hl : l.stackTraces = false) (h0 : p.tables.exec = Jvm.exec ∧ c.code = code) (hr : meth.sig.returnType = ret) (hlk : meth.locks = false) (hml : c.maxLocals = 8) (hown : s.vm.findClass "BorderDeskLaw" = some m.cls) (hts : ∀ w ∈ kw_T, w.before #[Value.ref b] s = true) (hK : va_K D kz_cl (wq_tys cs) s) (hZ : wq_Z A s s.heap) (hN : wq_N s) (hA : ∀ q, s.heap.size ≤ q → A q) (hA9 : ∀ q, A q → s.heap.size ≤ q) (hAg : wq_AgOK Ag 0) (hX : va_X b N xs s s.heap) (hN9 : N < 2 ^ 31) (hbl : b < s.heap.size) (hbA : ¬ A b) (hg : ∀ ad, Ag ad → ad 100000 0 = b) (K : Nat → wq_T) (hKc : ∀ pc, pc ∈ [23] → wq_Snd p l e room_1 s m #[Value.ref b] below meth c 8 cs D kz_cl A Ag (lw_Z below #[Value.ref b] s) pc (K pc)) : wq_Snd p l e room_1 s m #[Value.ref b] below meth c 8 cs D kz_cl A Ag (lw_Z below #[Value.ref b] s) 23 (kh_W_law_23 N xs K) ∧ wq_Snd p l e room_1 s m #[Value.ref b] below meth c 8 cs D kz_cl A Ag (lw_Z below #[Value.ref b] s) 0 (kt_W_law_0 N xs K) := by
  have hb_1427 : wq_Snd p l e room_1 s m #[Value.ref b] below meth c 8 cs D kz_cl A Ag (lw_Z below #[Value.ref b] s) 1427 (kt_W_law_1427 N xs K) := by
    refine wq_iconst_ok h0 kd_W_law_1427 (by decide +kernel) ?_
    exact kl_end_ok h0 hr hlk kd_W_law_1428 hA9
  have hb_1421 : wq_Snd p l e room_1 s m #[Value.ref b] below meth c 8 cs D kz_cl A Ag (lw_Z below #[Value.ref b] s) 1421 (kt_W_law_1421 N xs K) := by
    refine wq_iinc_ok h0 kd_W_law_1421 (by decide +kernel) (Nat.le_of_ble_eq_true rfl) ?_
    refine wq_goto_ok (tgt := 23) h0 kd_W_law_1424 (by decide) ?_
    exact wq_can_ok (hKc 23 (by decide))
  have hb_152 : wq_Snd p l e room_1 s m #[Value.ref b] below meth c 8 cs D kz_cl A Ag (lw_Z below #[Value.ref b] s) 152 (kt_W_law_152 N xs K) := by
    refine wq_aload_n_ok h0 kd_W_law_152 rfl ?_
    refine wq_aload_n_ok h0 kd_W_law_153 rfl ?_
    refine wq_iload_ok h0 kd_W_law_154 ?_
    refine wq_iconst_ok h0 kd_W_law_156 (by decide +kernel) ?_
    refine wq_iadd_ok h0 kd_W_law_157 ?_
    refine wq_sld_ok h0 hX hN9 hbl hbA hg kd_W_law_158 ?_
    refine wq_aload_n_ok h0 kd_W_law_159 rfl ?_
    refine wq_call_ok hA (wq_runSH ⟨h0.1, h0.2, hml, hown, hts⟩ (kv_W_heading hl) kw_G kw_397 kw_0 kw_395 kw_396 ⟨by decide +kernel, by decide +kernel, by decide +kernel⟩ rfl rfl ⟨Nat.le_of_ble_eq_true rfl, Nat.le_of_ble_eq_true rfl⟩ hK hZ hN hA kd_W_law_160) wq_x0_ok ?_
    refine wq_istore_ok h0 kd_W_law_163 (Nat.le_of_ble_eq_true rfl) ?_
    refine wq_aload_n_ok h0 kd_W_law_165 rfl ?_
    refine wq_aload_n_ok h0 kd_W_law_166 rfl ?_
    refine wq_iload_ok h0 kd_W_law_167 ?_
    refine wq_iconst_ok h0 kd_W_law_169 (by decide +kernel) ?_
    refine wq_iadd_ok h0 kd_W_law_170 ?_
    refine wq_sld_ok h0 hX hN9 hbl hbA hg kd_W_law_171 ?_
    refine wq_call_ok hA (wq_runV (ci := 9) ⟨h0.1, h0.2, hml, hown, hts⟩ (kv_M_heading hl) ⟨(wq_cB hts kw_G kw_1194 kw_10 kw_1191 ⟨by decide +kernel, by decide +kernel, by decide +kernel⟩ rfl rfl ⟨Nat.le_of_ble_eq_true rfl, Nat.le_of_ble_eq_true rfl⟩), hts _ kw_1192, hts _ kw_1193⟩ rfl rfl hK hZ hN hA kd_W_law_172) wq_x0_ok ?_
    refine wq_istore_ok h0 kd_W_law_175 (Nat.le_of_ble_eq_true rfl) ?_
    refine wq_goto_ok (tgt := 1421) h0 kd_W_law_177 (by decide) ?_
    exact hb_1421
  have hb_180 : wq_Snd p l e room_1 s m #[Value.ref b] below meth c 8 cs D kz_cl A Ag (lw_Z below #[Value.ref b] s) 180 (kt_W_law_180 N xs K) := by
    refine wq_aload_n_ok h0 kd_W_law_180 rfl ?_
    refine wq_aload_n_ok h0 kd_W_law_181 rfl ?_
    refine wq_iload_ok h0 kd_W_law_182 ?_
    refine wq_iconst_ok h0 kd_W_law_184 (by decide +kernel) ?_
    refine wq_iadd_ok h0 kd_W_law_185 ?_
    refine wq_sld_ok h0 hX hN9 hbl hbA hg kd_W_law_186 ?_
    refine wq_aload_n_ok h0 kd_W_law_187 rfl ?_
    refine wq_iload_ok h0 kd_W_law_188 ?_
    refine wq_iconst_ok h0 kd_W_law_190 (by decide +kernel) ?_
    refine wq_iadd_ok h0 kd_W_law_191 ?_
    refine wq_sld_ok h0 hX hN9 hbl hbA hg kd_W_law_192 ?_
    refine wq_aload_n_ok h0 kd_W_law_193 rfl ?_
    refine wq_iload_ok h0 kd_W_law_194 ?_
    refine wq_iconst_ok h0 kd_W_law_196 (by decide +kernel) ?_
    refine wq_iadd_ok h0 kd_W_law_197 ?_
    refine wq_sld_ok h0 hX hN9 hbl hbA hg kd_W_law_198 ?_
    refine wq_aload_n_ok h0 kd_W_law_199 rfl ?_
    refine wq_iload_ok h0 kd_W_law_200 ?_
    refine wq_iconst_ok h0 kd_W_law_202 (by decide +kernel) ?_
    refine wq_iadd_ok h0 kd_W_law_203 ?_
    refine wq_sld_ok h0 hX hN9 hbl hbA hg kd_W_law_204 ?_
    refine wq_aload_n_ok h0 kd_W_law_205 rfl ?_
    refine wq_call_ok hA (wq_runSH ⟨h0.1, h0.2, hml, hown, hts⟩ (kv_W_note hl) kw_G kw_507 kw_0 kw_505 kw_506 ⟨by decide +kernel, by decide +kernel, by decide +kernel⟩ rfl rfl ⟨Nat.le_of_ble_eq_true rfl, Nat.le_of_ble_eq_true rfl⟩ hK hZ hN hA kd_W_law_206) wq_x0_ok ?_
    refine wq_istore_ok h0 kd_W_law_209 (Nat.le_of_ble_eq_true rfl) ?_
    refine wq_aload_n_ok h0 kd_W_law_211 rfl ?_
    refine wq_aload_n_ok h0 kd_W_law_212 rfl ?_
    refine wq_iload_ok h0 kd_W_law_213 ?_
    refine wq_iconst_ok h0 kd_W_law_215 (by decide +kernel) ?_
    refine wq_iadd_ok h0 kd_W_law_216 ?_
    refine wq_sld_ok h0 hX hN9 hbl hbA hg kd_W_law_217 ?_
    refine wq_aload_n_ok h0 kd_W_law_218 rfl ?_
    refine wq_iload_ok h0 kd_W_law_219 ?_
    refine wq_iconst_ok h0 kd_W_law_221 (by decide +kernel) ?_
    refine wq_iadd_ok h0 kd_W_law_222 ?_
    refine wq_sld_ok h0 hX hN9 hbl hbA hg kd_W_law_223 ?_
    refine wq_aload_n_ok h0 kd_W_law_224 rfl ?_
    refine wq_iload_ok h0 kd_W_law_225 ?_
    refine wq_iconst_ok h0 kd_W_law_227 (by decide +kernel) ?_
    refine wq_iadd_ok h0 kd_W_law_228 ?_
    refine wq_sld_ok h0 hX hN9 hbl hbA hg kd_W_law_229 ?_
    refine wq_aload_n_ok h0 kd_W_law_230 rfl ?_
    refine wq_iload_ok h0 kd_W_law_231 ?_
    refine wq_iconst_ok h0 kd_W_law_233 (by decide +kernel) ?_
    refine wq_iadd_ok h0 kd_W_law_234 ?_
    refine wq_sld_ok h0 hX hN9 hbl hbA hg kd_W_law_235 ?_
    refine wq_call_ok hA (wq_runV (ci := 9) ⟨h0.1, h0.2, hml, hown, hts⟩ (kv_M_note hl) ⟨(wq_cB hts kw_G kw_1206 kw_10 kw_1203 ⟨by decide +kernel, by decide +kernel, by decide +kernel⟩ rfl rfl ⟨Nat.le_of_ble_eq_true rfl, Nat.le_of_ble_eq_true rfl⟩), hts _ kw_1204, hts _ kw_1205⟩ rfl rfl hK hZ hN hA kd_W_law_236) wq_x0_ok ?_
    refine wq_istore_ok h0 kd_W_law_239 (Nat.le_of_ble_eq_true rfl) ?_
    refine wq_goto_ok (tgt := 1421) h0 kd_W_law_241 (by decide) ?_
    exact hb_1421
  have hb_244 : wq_Snd p l e room_1 s m #[Value.ref b] below meth c 8 cs D kz_cl A Ag (lw_Z below #[Value.ref b] s) 244 (kt_W_law_244 N xs K) := by
    refine wq_aload_n_ok h0 kd_W_law_244 rfl ?_
    refine wq_aload_n_ok h0 kd_W_law_245 rfl ?_
    refine wq_iload_ok h0 kd_W_law_246 ?_
    refine wq_iconst_ok h0 kd_W_law_248 (by decide +kernel) ?_
    refine wq_iadd_ok h0 kd_W_law_249 ?_
    refine wq_sld_ok h0 hX hN9 hbl hbA hg kd_W_law_250 ?_
    refine wq_aload_n_ok h0 kd_W_law_251 rfl ?_
    refine wq_iload_ok h0 kd_W_law_252 ?_
    refine wq_iconst_ok h0 kd_W_law_254 (by decide +kernel) ?_
    refine wq_iadd_ok h0 kd_W_law_255 ?_
    refine wq_sld_ok h0 hX hN9 hbl hbA hg kd_W_law_256 ?_
    refine wq_aload_n_ok h0 kd_W_law_257 rfl ?_
    refine wq_iload_ok h0 kd_W_law_258 ?_
    refine wq_iconst_ok h0 kd_W_law_260 (by decide +kernel) ?_
    refine wq_iadd_ok h0 kd_W_law_261 ?_
    refine wq_sld_ok h0 hX hN9 hbl hbA hg kd_W_law_262 ?_
    refine wq_aload_n_ok h0 kd_W_law_263 rfl ?_
    refine wq_call_ok hA (wq_runSH ⟨h0.1, h0.2, hml, hown, hts⟩ (kv_W_fact hl) kw_G kw_524 kw_0 kw_522 kw_523 ⟨by decide +kernel, by decide +kernel, by decide +kernel⟩ rfl rfl ⟨Nat.le_of_ble_eq_true rfl, Nat.le_of_ble_eq_true rfl⟩ hK hZ hN hA kd_W_law_264) wq_x0_ok ?_
    refine wq_istore_ok h0 kd_W_law_267 (Nat.le_of_ble_eq_true rfl) ?_
    refine wq_aload_n_ok h0 kd_W_law_269 rfl ?_
    refine wq_aload_n_ok h0 kd_W_law_270 rfl ?_
    refine wq_iload_ok h0 kd_W_law_271 ?_
    refine wq_iconst_ok h0 kd_W_law_273 (by decide +kernel) ?_
    refine wq_iadd_ok h0 kd_W_law_274 ?_
    refine wq_sld_ok h0 hX hN9 hbl hbA hg kd_W_law_275 ?_
    refine wq_aload_n_ok h0 kd_W_law_276 rfl ?_
    refine wq_iload_ok h0 kd_W_law_277 ?_
    refine wq_iconst_ok h0 kd_W_law_279 (by decide +kernel) ?_
    refine wq_iadd_ok h0 kd_W_law_280 ?_
    refine wq_sld_ok h0 hX hN9 hbl hbA hg kd_W_law_281 ?_
    refine wq_aload_n_ok h0 kd_W_law_282 rfl ?_
    refine wq_iload_ok h0 kd_W_law_283 ?_
    refine wq_iconst_ok h0 kd_W_law_285 (by decide +kernel) ?_
    refine wq_iadd_ok h0 kd_W_law_286 ?_
    refine wq_sld_ok h0 hX hN9 hbl hbA hg kd_W_law_287 ?_
    refine wq_call_ok hA (wq_runV (ci := 9) ⟨h0.1, h0.2, hml, hown, hts⟩ (kv_M_fact hl) ⟨(wq_cB hts kw_G kw_1213 kw_10 kw_1210 ⟨by decide +kernel, by decide +kernel, by decide +kernel⟩ rfl rfl ⟨Nat.le_of_ble_eq_true rfl, Nat.le_of_ble_eq_true rfl⟩), hts _ kw_1211, hts _ kw_1212⟩ rfl rfl hK hZ hN hA kd_W_law_288) wq_x0_ok ?_
    refine wq_istore_ok h0 kd_W_law_291 (Nat.le_of_ble_eq_true rfl) ?_
    refine wq_goto_ok (tgt := 1421) h0 kd_W_law_293 (by decide) ?_
    exact hb_1421
  have hb_296 : wq_Snd p l e room_1 s m #[Value.ref b] below meth c 8 cs D kz_cl A Ag (lw_Z below #[Value.ref b] s) 296 (kt_W_law_296 N xs K) := by
    refine wq_aload_n_ok h0 kd_W_law_296 rfl ?_
    refine wq_aload_n_ok h0 kd_W_law_297 rfl ?_
    refine wq_iload_ok h0 kd_W_law_298 ?_
    refine wq_iconst_ok h0 kd_W_law_300 (by decide +kernel) ?_
    refine wq_iadd_ok h0 kd_W_law_301 ?_
    refine wq_sld_ok h0 hX hN9 hbl hbA hg kd_W_law_302 ?_
    refine wq_aload_n_ok h0 kd_W_law_303 rfl ?_
    refine wq_call_ok hA (wq_runSH ⟨h0.1, h0.2, hml, hown, hts⟩ (kv_W_classify hl) kw_G kw_534 kw_0 kw_532 kw_533 ⟨by decide +kernel, by decide +kernel, by decide +kernel⟩ rfl rfl ⟨Nat.le_of_ble_eq_true rfl, Nat.le_of_ble_eq_true rfl⟩ hK hZ hN hA kd_W_law_304) wq_x0_ok ?_
    refine wq_istore_ok h0 kd_W_law_307 (Nat.le_of_ble_eq_true rfl) ?_
    refine wq_aload_n_ok h0 kd_W_law_309 rfl ?_
    refine wq_aload_n_ok h0 kd_W_law_310 rfl ?_
    refine wq_iload_ok h0 kd_W_law_311 ?_
    refine wq_iconst_ok h0 kd_W_law_313 (by decide +kernel) ?_
    refine wq_iadd_ok h0 kd_W_law_314 ?_
    refine wq_sld_ok h0 hX hN9 hbl hbA hg kd_W_law_315 ?_
    refine wq_call_ok hA (wq_runV (ci := 9) ⟨h0.1, h0.2, hml, hown, hts⟩ (kv_M_classify hl) ⟨(wq_cB hts kw_G kw_1217 kw_10 kw_1214 ⟨by decide +kernel, by decide +kernel, by decide +kernel⟩ rfl rfl ⟨Nat.le_of_ble_eq_true rfl, Nat.le_of_ble_eq_true rfl⟩), hts _ kw_1215, hts _ kw_1216⟩ rfl rfl hK hZ hN hA kd_W_law_316) wq_x0_ok ?_
    refine wq_istore_ok h0 kd_W_law_319 (Nat.le_of_ble_eq_true rfl) ?_
    refine wq_goto_ok (tgt := 1421) h0 kd_W_law_321 (by decide) ?_
    exact hb_1421
  have hb_324 : wq_Snd p l e room_1 s m #[Value.ref b] below meth c 8 cs D kz_cl A Ag (lw_Z below #[Value.ref b] s) 324 (kt_W_law_324 N xs K) := by
    refine wq_aload_n_ok h0 kd_W_law_324 rfl ?_
    refine wq_aload_n_ok h0 kd_W_law_325 rfl ?_
    refine wq_iload_ok h0 kd_W_law_326 ?_
    refine wq_iconst_ok h0 kd_W_law_328 (by decide +kernel) ?_
    refine wq_iadd_ok h0 kd_W_law_329 ?_
    refine wq_sld_ok h0 hX hN9 hbl hbA hg kd_W_law_330 ?_
    refine wq_aload_n_ok h0 kd_W_law_331 rfl ?_
    refine wq_iload_ok h0 kd_W_law_332 ?_
    refine wq_iconst_ok h0 kd_W_law_334 (by decide +kernel) ?_
    refine wq_iadd_ok h0 kd_W_law_335 ?_
    refine wq_sld_ok h0 hX hN9 hbl hbA hg kd_W_law_336 ?_
    refine wq_aload_n_ok h0 kd_W_law_337 rfl ?_
    refine wq_iload_ok h0 kd_W_law_338 ?_
    refine wq_iconst_ok h0 kd_W_law_340 (by decide +kernel) ?_
    refine wq_iadd_ok h0 kd_W_law_341 ?_
    refine wq_sld_ok h0 hX hN9 hbl hbA hg kd_W_law_342 ?_
    refine wq_aload_n_ok h0 kd_W_law_343 rfl ?_
    refine wq_iload_ok h0 kd_W_law_344 ?_
    refine wq_iconst_ok h0 kd_W_law_346 (by decide +kernel) ?_
    refine wq_iadd_ok h0 kd_W_law_347 ?_
    refine wq_sld_ok h0 hX hN9 hbl hbA hg kd_W_law_348 ?_
    refine wq_aload_n_ok h0 kd_W_law_349 rfl ?_
    refine wq_iload_ok h0 kd_W_law_350 ?_
    refine wq_iconst_ok h0 kd_W_law_352 (by decide +kernel) ?_
    refine wq_iadd_ok h0 kd_W_law_353 ?_
    refine wq_sld_ok h0 hX hN9 hbl hbA hg kd_W_law_354 ?_
    refine wq_aload_n_ok h0 kd_W_law_355 rfl ?_
    refine wq_iload_ok h0 kd_W_law_356 ?_
    refine wq_bipush_ok h0 kd_W_law_358 (by decide +kernel) ?_
    refine wq_iadd_ok h0 kd_W_law_360 ?_
    refine wq_sld_ok h0 hX hN9 hbl hbA hg kd_W_law_361 ?_
    refine wq_aload_n_ok h0 kd_W_law_362 rfl ?_
    refine wq_iload_ok h0 kd_W_law_363 ?_
    refine wq_bipush_ok h0 kd_W_law_365 (by decide +kernel) ?_
    refine wq_iadd_ok h0 kd_W_law_367 ?_
    refine wq_sld_ok h0 hX hN9 hbl hbA hg kd_W_law_368 ?_
    refine wq_aload_n_ok h0 kd_W_law_369 rfl ?_
    refine wq_call_ok hA (wq_runSH ⟨h0.1, h0.2, hml, hown, hts⟩ (kv_W_rate hl) kw_G kw_568 kw_0 kw_566 kw_567 ⟨by decide +kernel, by decide +kernel, by decide +kernel⟩ rfl rfl ⟨Nat.le_of_ble_eq_true rfl, Nat.le_of_ble_eq_true rfl⟩ hK hZ hN hA kd_W_law_370) wq_x0_ok ?_
    refine wq_istore_ok h0 kd_W_law_373 (Nat.le_of_ble_eq_true rfl) ?_
    refine wq_aload_n_ok h0 kd_W_law_375 rfl ?_
    refine wq_aload_n_ok h0 kd_W_law_376 rfl ?_
    refine wq_iload_ok h0 kd_W_law_377 ?_
    refine wq_iconst_ok h0 kd_W_law_379 (by decide +kernel) ?_
    refine wq_iadd_ok h0 kd_W_law_380 ?_
    refine wq_sld_ok h0 hX hN9 hbl hbA hg kd_W_law_381 ?_
    refine wq_aload_n_ok h0 kd_W_law_382 rfl ?_
    refine wq_iload_ok h0 kd_W_law_383 ?_
    refine wq_iconst_ok h0 kd_W_law_385 (by decide +kernel) ?_
    refine wq_iadd_ok h0 kd_W_law_386 ?_
    refine wq_sld_ok h0 hX hN9 hbl hbA hg kd_W_law_387 ?_
    refine wq_aload_n_ok h0 kd_W_law_388 rfl ?_
    refine wq_iload_ok h0 kd_W_law_389 ?_
    refine wq_iconst_ok h0 kd_W_law_391 (by decide +kernel) ?_
    refine wq_iadd_ok h0 kd_W_law_392 ?_
    refine wq_sld_ok h0 hX hN9 hbl hbA hg kd_W_law_393 ?_
    refine wq_aload_n_ok h0 kd_W_law_394 rfl ?_
    refine wq_iload_ok h0 kd_W_law_395 ?_
    refine wq_iconst_ok h0 kd_W_law_397 (by decide +kernel) ?_
    refine wq_iadd_ok h0 kd_W_law_398 ?_
    refine wq_sld_ok h0 hX hN9 hbl hbA hg kd_W_law_399 ?_
    refine wq_aload_n_ok h0 kd_W_law_400 rfl ?_
    refine wq_iload_ok h0 kd_W_law_401 ?_
    refine wq_iconst_ok h0 kd_W_law_403 (by decide +kernel) ?_
    refine wq_iadd_ok h0 kd_W_law_404 ?_
    refine wq_sld_ok h0 hX hN9 hbl hbA hg kd_W_law_405 ?_
    refine wq_aload_n_ok h0 kd_W_law_406 rfl ?_
    refine wq_iload_ok h0 kd_W_law_407 ?_
    refine wq_bipush_ok h0 kd_W_law_409 (by decide +kernel) ?_
    refine wq_iadd_ok h0 kd_W_law_411 ?_
    refine wq_sld_ok h0 hX hN9 hbl hbA hg kd_W_law_412 ?_
    refine wq_aload_n_ok h0 kd_W_law_413 rfl ?_
    refine wq_iload_ok h0 kd_W_law_414 ?_
    refine wq_bipush_ok h0 kd_W_law_416 (by decide +kernel) ?_
    refine wq_iadd_ok h0 kd_W_law_418 ?_
    refine wq_sld_ok h0 hX hN9 hbl hbA hg kd_W_law_419 ?_
    refine wq_call_ok hA (wq_runV (ci := 9) ⟨h0.1, h0.2, hml, hown, hts⟩ (kv_M_rate hl) ⟨(wq_cB hts kw_G kw_1241 kw_10 kw_1238 ⟨by decide +kernel, by decide +kernel, by decide +kernel⟩ rfl rfl ⟨Nat.le_of_ble_eq_true rfl, Nat.le_of_ble_eq_true rfl⟩), hts _ kw_1239, hts _ kw_1240⟩ rfl rfl hK hZ hN hA kd_W_law_420) wq_x0_ok ?_
    refine wq_istore_ok h0 kd_W_law_423 (Nat.le_of_ble_eq_true rfl) ?_
    refine wq_goto_ok (tgt := 1421) h0 kd_W_law_425 (by decide) ?_
    exact hb_1421
  have hb_428 : wq_Snd p l e room_1 s m #[Value.ref b] below meth c 8 cs D kz_cl A Ag (lw_Z below #[Value.ref b] s) 428 (kt_W_law_428 N xs K) := by
    refine wq_aload_n_ok h0 kd_W_law_428 rfl ?_
    refine wq_aload_n_ok h0 kd_W_law_429 rfl ?_
    refine wq_iload_ok h0 kd_W_law_430 ?_
    refine wq_iconst_ok h0 kd_W_law_432 (by decide +kernel) ?_
    refine wq_iadd_ok h0 kd_W_law_433 ?_
    refine wq_sld_ok h0 hX hN9 hbl hbA hg kd_W_law_434 ?_
    refine wq_aload_n_ok h0 kd_W_law_435 rfl ?_
    refine wq_iload_ok h0 kd_W_law_436 ?_
    refine wq_iconst_ok h0 kd_W_law_438 (by decide +kernel) ?_
    refine wq_iadd_ok h0 kd_W_law_439 ?_
    refine wq_sld_ok h0 hX hN9 hbl hbA hg kd_W_law_440 ?_
    refine wq_aload_n_ok h0 kd_W_law_441 rfl ?_
    refine wq_iload_ok h0 kd_W_law_442 ?_
    refine wq_iconst_ok h0 kd_W_law_444 (by decide +kernel) ?_
    refine wq_iadd_ok h0 kd_W_law_445 ?_
    refine wq_sld_ok h0 hX hN9 hbl hbA hg kd_W_law_446 ?_
    refine wq_aload_n_ok h0 kd_W_law_447 rfl ?_
    refine wq_call_ok hA (wq_runSH ⟨h0.1, h0.2, hml, hown, hts⟩ (kv_W_rateFor hl) kw_G kw_585 kw_0 kw_583 kw_584 ⟨by decide +kernel, by decide +kernel, by decide +kernel⟩ rfl rfl ⟨Nat.le_of_ble_eq_true rfl, Nat.le_of_ble_eq_true rfl⟩ hK hZ hN hA kd_W_law_448) wq_x0_ok ?_
    refine wq_istore_ok h0 kd_W_law_451 (Nat.le_of_ble_eq_true rfl) ?_
    refine wq_aload_n_ok h0 kd_W_law_453 rfl ?_
    refine wq_aload_n_ok h0 kd_W_law_454 rfl ?_
    refine wq_iload_ok h0 kd_W_law_455 ?_
    refine wq_iconst_ok h0 kd_W_law_457 (by decide +kernel) ?_
    refine wq_iadd_ok h0 kd_W_law_458 ?_
    refine wq_sld_ok h0 hX hN9 hbl hbA hg kd_W_law_459 ?_
    refine wq_aload_n_ok h0 kd_W_law_460 rfl ?_
    refine wq_iload_ok h0 kd_W_law_461 ?_
    refine wq_iconst_ok h0 kd_W_law_463 (by decide +kernel) ?_
    refine wq_iadd_ok h0 kd_W_law_464 ?_
    refine wq_sld_ok h0 hX hN9 hbl hbA hg kd_W_law_465 ?_
    refine wq_aload_n_ok h0 kd_W_law_466 rfl ?_
    refine wq_iload_ok h0 kd_W_law_467 ?_
    refine wq_iconst_ok h0 kd_W_law_469 (by decide +kernel) ?_
    refine wq_iadd_ok h0 kd_W_law_470 ?_
    refine wq_sld_ok h0 hX hN9 hbl hbA hg kd_W_law_471 ?_
    refine wq_call_ok hA (wq_runV (ci := 9) ⟨h0.1, h0.2, hml, hown, hts⟩ (kv_M_rateFor hl) ⟨(wq_cB hts kw_G kw_1245 kw_10 kw_1242 ⟨by decide +kernel, by decide +kernel, by decide +kernel⟩ rfl rfl ⟨Nat.le_of_ble_eq_true rfl, Nat.le_of_ble_eq_true rfl⟩), hts _ kw_1243, hts _ kw_1244⟩ rfl rfl hK hZ hN hA kd_W_law_472) wq_x0_ok ?_
    refine wq_istore_ok h0 kd_W_law_475 (Nat.le_of_ble_eq_true rfl) ?_
    refine wq_goto_ok (tgt := 1421) h0 kd_W_law_477 (by decide) ?_
    exact hb_1421
  have hb_595 : wq_Snd p l e room_1 s m #[Value.ref b] below meth c 8 cs D kz_cl A Ag (lw_Z below #[Value.ref b] s) 595 (kt_W_law_595 N xs K) := by
    refine wq_goto_ok (tgt := 1421) h0 kd_W_law_595 (by decide) ?_
    exact hb_1421
  have hb_578 : wq_Snd p l e room_1 s m #[Value.ref b] below meth c 8 cs D kz_cl A Ag (lw_Z below #[Value.ref b] s) 578 (kt_W_law_578 N xs K) := by
    refine wq_iload_ok h0 kd_W_law_578 ?_
    refine wq_if_ne_ok (tgt := 595) h0 kd_W_law_580 (by decide) ?_ ?_
    · exact hb_595
    refine wq_aload_n_ok h0 kd_W_law_583 rfl ?_
    refine wq_iconst_ok h0 kd_W_law_584 (by decide +kernel) ?_
    refine wq_lald_ok h0 hK kd_W_law_585 ?_
    refine wq_iload_ok h0 kd_W_law_586 ?_
    refine wq_i2l_ok h0 kd_W_law_588 ?_
    refine wq_lcmp_eq_ok (tgt := 595) h0 kd_W_law_589 kd_W_law_590 (by decide) ?_ ?_
    · exact hb_595
    refine wq_iconst_ok h0 kd_W_law_593 (by decide +kernel) ?_
    exact kl_end_ok h0 hr hlk kd_W_law_594 hA9
  have hb_480 : wq_Snd p l e room_1 s m #[Value.ref b] below meth c 8 cs D kz_cl A Ag (lw_Z below #[Value.ref b] s) 480 (kt_W_law_480 N xs K) := by
    refine wq_aload_n_ok h0 kd_W_law_480 rfl ?_
    refine wq_aload_n_ok h0 kd_W_law_481 rfl ?_
    refine wq_iload_ok h0 kd_W_law_482 ?_
    refine wq_iconst_ok h0 kd_W_law_484 (by decide +kernel) ?_
    refine wq_iadd_ok h0 kd_W_law_485 ?_
    refine wq_sld_ok h0 hX hN9 hbl hbA hg kd_W_law_486 ?_
    refine wq_aload_n_ok h0 kd_W_law_487 rfl ?_
    refine wq_iload_ok h0 kd_W_law_488 ?_
    refine wq_iconst_ok h0 kd_W_law_490 (by decide +kernel) ?_
    refine wq_iadd_ok h0 kd_W_law_491 ?_
    refine wq_sld_ok h0 hX hN9 hbl hbA hg kd_W_law_492 ?_
    refine wq_aload_n_ok h0 kd_W_law_493 rfl ?_
    refine wq_iload_ok h0 kd_W_law_494 ?_
    refine wq_iconst_ok h0 kd_W_law_496 (by decide +kernel) ?_
    refine wq_iadd_ok h0 kd_W_law_497 ?_
    refine wq_sld_ok h0 hX hN9 hbl hbA hg kd_W_law_498 ?_
    refine wq_aload_n_ok h0 kd_W_law_499 rfl ?_
    refine wq_iload_ok h0 kd_W_law_500 ?_
    refine wq_iconst_ok h0 kd_W_law_502 (by decide +kernel) ?_
    refine wq_iadd_ok h0 kd_W_law_503 ?_
    refine wq_sld_ok h0 hX hN9 hbl hbA hg kd_W_law_504 ?_
    refine wq_aload_n_ok h0 kd_W_law_505 rfl ?_
    refine wq_iload_ok h0 kd_W_law_506 ?_
    refine wq_iconst_ok h0 kd_W_law_508 (by decide +kernel) ?_
    refine wq_iadd_ok h0 kd_W_law_509 ?_
    refine wq_sld_ok h0 hX hN9 hbl hbA hg kd_W_law_510 ?_
    refine wq_aload_n_ok h0 kd_W_law_511 rfl ?_
    refine wq_iload_ok h0 kd_W_law_512 ?_
    refine wq_bipush_ok h0 kd_W_law_514 (by decide +kernel) ?_
    refine wq_iadd_ok h0 kd_W_law_516 ?_
    refine wq_sld_ok h0 hX hN9 hbl hbA hg kd_W_law_517 ?_
    refine wq_aload_n_ok h0 kd_W_law_518 rfl ?_
    refine wq_call_ok hA (wq_runSH ⟨h0.1, h0.2, hml, hown, hts⟩ (kv_W_quota hl) kw_G kw_601 kw_0 kw_599 kw_600 ⟨by decide +kernel, by decide +kernel, by decide +kernel⟩ rfl rfl ⟨Nat.le_of_ble_eq_true rfl, Nat.le_of_ble_eq_true rfl⟩ hK hZ hN hA kd_W_law_519) wq_x0_ok ?_
    refine wq_istore_ok h0 kd_W_law_522 (Nat.le_of_ble_eq_true rfl) ?_
    refine wq_aload_n_ok h0 kd_W_law_524 rfl ?_
    refine wq_aload_n_ok h0 kd_W_law_525 rfl ?_
    refine wq_iload_ok h0 kd_W_law_526 ?_
    refine wq_iconst_ok h0 kd_W_law_528 (by decide +kernel) ?_
    refine wq_iadd_ok h0 kd_W_law_529 ?_
    refine wq_sld_ok h0 hX hN9 hbl hbA hg kd_W_law_530 ?_
    refine wq_aload_n_ok h0 kd_W_law_531 rfl ?_
    refine wq_iload_ok h0 kd_W_law_532 ?_
    refine wq_iconst_ok h0 kd_W_law_534 (by decide +kernel) ?_
    refine wq_iadd_ok h0 kd_W_law_535 ?_
    refine wq_sld_ok h0 hX hN9 hbl hbA hg kd_W_law_536 ?_
    refine wq_aload_n_ok h0 kd_W_law_537 rfl ?_
    refine wq_iload_ok h0 kd_W_law_538 ?_
    refine wq_iconst_ok h0 kd_W_law_540 (by decide +kernel) ?_
    refine wq_iadd_ok h0 kd_W_law_541 ?_
    refine wq_sld_ok h0 hX hN9 hbl hbA hg kd_W_law_542 ?_
    refine wq_aload_n_ok h0 kd_W_law_543 rfl ?_
    refine wq_iload_ok h0 kd_W_law_544 ?_
    refine wq_iconst_ok h0 kd_W_law_546 (by decide +kernel) ?_
    refine wq_iadd_ok h0 kd_W_law_547 ?_
    refine wq_sld_ok h0 hX hN9 hbl hbA hg kd_W_law_548 ?_
    refine wq_aload_n_ok h0 kd_W_law_549 rfl ?_
    refine wq_iload_ok h0 kd_W_law_550 ?_
    refine wq_iconst_ok h0 kd_W_law_552 (by decide +kernel) ?_
    refine wq_iadd_ok h0 kd_W_law_553 ?_
    refine wq_sld_ok h0 hX hN9 hbl hbA hg kd_W_law_554 ?_
    refine wq_aload_n_ok h0 kd_W_law_555 rfl ?_
    refine wq_iload_ok h0 kd_W_law_556 ?_
    refine wq_bipush_ok h0 kd_W_law_558 (by decide +kernel) ?_
    refine wq_iadd_ok h0 kd_W_law_560 ?_
    refine wq_sld_ok h0 hX hN9 hbl hbA hg kd_W_law_561 ?_
    refine wq_call_ok hA (wq_runV (ci := 9) ⟨h0.1, h0.2, hml, hown, hts⟩ (kv_M_quota hl) ⟨(wq_cB hts kw_G kw_1257 kw_10 kw_1254 ⟨by decide +kernel, by decide +kernel, by decide +kernel⟩ rfl rfl ⟨Nat.le_of_ble_eq_true rfl, Nat.le_of_ble_eq_true rfl⟩), hts _ kw_1255, hts _ kw_1256⟩ rfl rfl hK hZ hN hA kd_W_law_562) wq_x0_ok ?_
    refine wq_istore_ok h0 kd_W_law_565 (Nat.le_of_ble_eq_true rfl) ?_
    refine wq_aload_n_ok h0 kd_W_law_567 rfl ?_
    refine wq_call_ok hA (wq_runV (ci := 9) ⟨h0.1, h0.2, hml, hown, hts⟩ (kv_M_thrown hl) ⟨(wq_cB hts kw_G kw_1190 kw_10 kw_1187 ⟨by decide +kernel, by decide +kernel, by decide +kernel⟩ rfl rfl ⟨Nat.le_of_ble_eq_true rfl, Nat.le_of_ble_eq_true rfl⟩), hts _ kw_1188, hts _ kw_1189⟩ rfl rfl hK hZ hN hA kd_W_law_568) wq_x0_ok ?_
    refine wq_iload_ok h0 kd_W_law_571 ?_
    refine wq_icmp_eq_ok (tgt := 578) h0 kd_W_law_573 (by decide) ?_ ?_
    · exact hb_578
    refine wq_iconst_ok h0 kd_W_law_576 (by decide +kernel) ?_
    exact kl_end_ok h0 hr hlk kd_W_law_577 hA9
  have hb_598 : wq_Snd p l e room_1 s m #[Value.ref b] below meth c 8 cs D kz_cl A Ag (lw_Z below #[Value.ref b] s) 598 (kt_W_law_598 N xs K) := by
    refine wq_aload_n_ok h0 kd_W_law_598 rfl ?_
    refine wq_aload_n_ok h0 kd_W_law_599 rfl ?_
    refine wq_iload_ok h0 kd_W_law_600 ?_
    refine wq_iconst_ok h0 kd_W_law_602 (by decide +kernel) ?_
    refine wq_iadd_ok h0 kd_W_law_603 ?_
    refine wq_sld_ok h0 hX hN9 hbl hbA hg kd_W_law_604 ?_
    refine wq_aload_n_ok h0 kd_W_law_605 rfl ?_
    refine wq_call_ok hA (wq_runSH ⟨h0.1, h0.2, hml, hown, hts⟩ (kv_W_quotaLeft hl) kw_G kw_613 kw_0 kw_611 kw_612 ⟨by decide +kernel, by decide +kernel, by decide +kernel⟩ rfl rfl ⟨Nat.le_of_ble_eq_true rfl, Nat.le_of_ble_eq_true rfl⟩ hK hZ hN hA kd_W_law_606) wq_x0_ok ?_
    refine wq_istore_ok h0 kd_W_law_609 (Nat.le_of_ble_eq_true rfl) ?_
    refine wq_aload_n_ok h0 kd_W_law_611 rfl ?_
    refine wq_aload_n_ok h0 kd_W_law_612 rfl ?_
    refine wq_iload_ok h0 kd_W_law_613 ?_
    refine wq_iconst_ok h0 kd_W_law_615 (by decide +kernel) ?_
    refine wq_iadd_ok h0 kd_W_law_616 ?_
    refine wq_sld_ok h0 hX hN9 hbl hbA hg kd_W_law_617 ?_
    refine wq_call_ok hA (wq_runV (ci := 9) ⟨h0.1, h0.2, hml, hown, hts⟩ (kv_M_quotaLeft hl) ⟨(wq_cB hts kw_G kw_1262 kw_10 kw_1259 ⟨by decide +kernel, by decide +kernel, by decide +kernel⟩ rfl rfl ⟨Nat.le_of_ble_eq_true rfl, Nat.le_of_ble_eq_true rfl⟩), hts _ kw_1260, hts _ kw_1261⟩ rfl rfl hK hZ hN hA kd_W_law_618) wq_x0_ok ?_
    refine wq_istore_ok h0 kd_W_law_621 (Nat.le_of_ble_eq_true rfl) ?_
    refine wq_goto_ok (tgt := 1421) h0 kd_W_law_623 (by decide) ?_
    exact hb_1421
  have hb_626 : wq_Snd p l e room_1 s m #[Value.ref b] below meth c 8 cs D kz_cl A Ag (lw_Z below #[Value.ref b] s) 626 (kt_W_law_626 N xs K) := by
    refine wq_aload_n_ok h0 kd_W_law_626 rfl ?_
    refine wq_aload_n_ok h0 kd_W_law_627 rfl ?_
    refine wq_iload_ok h0 kd_W_law_628 ?_
    refine wq_iconst_ok h0 kd_W_law_630 (by decide +kernel) ?_
    refine wq_iadd_ok h0 kd_W_law_631 ?_
    refine wq_sld_ok h0 hX hN9 hbl hbA hg kd_W_law_632 ?_
    refine wq_aload_n_ok h0 kd_W_law_633 rfl ?_
    refine wq_iload_ok h0 kd_W_law_634 ?_
    refine wq_iconst_ok h0 kd_W_law_636 (by decide +kernel) ?_
    refine wq_iadd_ok h0 kd_W_law_637 ?_
    refine wq_sld_ok h0 hX hN9 hbl hbA hg kd_W_law_638 ?_
    refine wq_aload_n_ok h0 kd_W_law_639 rfl ?_
    refine wq_iload_ok h0 kd_W_law_640 ?_
    refine wq_iconst_ok h0 kd_W_law_642 (by decide +kernel) ?_
    refine wq_iadd_ok h0 kd_W_law_643 ?_
    refine wq_sld_ok h0 hX hN9 hbl hbA hg kd_W_law_644 ?_
    refine wq_aload_n_ok h0 kd_W_law_645 rfl ?_
    refine wq_iload_ok h0 kd_W_law_646 ?_
    refine wq_iconst_ok h0 kd_W_law_648 (by decide +kernel) ?_
    refine wq_iadd_ok h0 kd_W_law_649 ?_
    refine wq_sld_ok h0 hX hN9 hbl hbA hg kd_W_law_650 ?_
    refine wq_aload_n_ok h0 kd_W_law_651 rfl ?_
    refine wq_call_ok hA (wq_runSH ⟨h0.1, h0.2, hml, hown, hts⟩ (kv_W_part hl) kw_G kw_620 kw_0 kw_618 kw_619 ⟨by decide +kernel, by decide +kernel, by decide +kernel⟩ rfl rfl ⟨Nat.le_of_ble_eq_true rfl, Nat.le_of_ble_eq_true rfl⟩ hK hZ hN hA kd_W_law_652) wq_x0_ok ?_
    refine wq_istore_ok h0 kd_W_law_655 (Nat.le_of_ble_eq_true rfl) ?_
    refine wq_aload_n_ok h0 kd_W_law_657 rfl ?_
    refine wq_aload_n_ok h0 kd_W_law_658 rfl ?_
    refine wq_iload_ok h0 kd_W_law_659 ?_
    refine wq_iconst_ok h0 kd_W_law_661 (by decide +kernel) ?_
    refine wq_iadd_ok h0 kd_W_law_662 ?_
    refine wq_sld_ok h0 hX hN9 hbl hbA hg kd_W_law_663 ?_
    refine wq_aload_n_ok h0 kd_W_law_664 rfl ?_
    refine wq_iload_ok h0 kd_W_law_665 ?_
    refine wq_iconst_ok h0 kd_W_law_667 (by decide +kernel) ?_
    refine wq_iadd_ok h0 kd_W_law_668 ?_
    refine wq_sld_ok h0 hX hN9 hbl hbA hg kd_W_law_669 ?_
    refine wq_aload_n_ok h0 kd_W_law_670 rfl ?_
    refine wq_iload_ok h0 kd_W_law_671 ?_
    refine wq_iconst_ok h0 kd_W_law_673 (by decide +kernel) ?_
    refine wq_iadd_ok h0 kd_W_law_674 ?_
    refine wq_sld_ok h0 hX hN9 hbl hbA hg kd_W_law_675 ?_
    refine wq_aload_n_ok h0 kd_W_law_676 rfl ?_
    refine wq_iload_ok h0 kd_W_law_677 ?_
    refine wq_iconst_ok h0 kd_W_law_679 (by decide +kernel) ?_
    refine wq_iadd_ok h0 kd_W_law_680 ?_
    refine wq_sld_ok h0 hX hN9 hbl hbA hg kd_W_law_681 ?_
    refine wq_call_ok hA (wq_runV (ci := 9) ⟨h0.1, h0.2, hml, hown, hts⟩ (kv_M_part hl) ⟨(wq_cB hts kw_G kw_1266 kw_10 kw_1263 ⟨by decide +kernel, by decide +kernel, by decide +kernel⟩ rfl rfl ⟨Nat.le_of_ble_eq_true rfl, Nat.le_of_ble_eq_true rfl⟩), hts _ kw_1264, hts _ kw_1265⟩ rfl rfl hK hZ hN hA kd_W_law_682) wq_x0_ok ?_
    refine wq_istore_ok h0 kd_W_law_685 (Nat.le_of_ble_eq_true rfl) ?_
    refine wq_goto_ok (tgt := 1421) h0 kd_W_law_687 (by decide) ?_
    exact hb_1421
  have hb_690 : wq_Snd p l e room_1 s m #[Value.ref b] below meth c 8 cs D kz_cl A Ag (lw_Z below #[Value.ref b] s) 690 (kt_W_law_690 N xs K) := by
    refine wq_aload_n_ok h0 kd_W_law_690 rfl ?_
    refine wq_aload_n_ok h0 kd_W_law_691 rfl ?_
    refine wq_iload_ok h0 kd_W_law_692 ?_
    refine wq_iconst_ok h0 kd_W_law_694 (by decide +kernel) ?_
    refine wq_iadd_ok h0 kd_W_law_695 ?_
    refine wq_sld_ok h0 hX hN9 hbl hbA hg kd_W_law_696 ?_
    refine wq_aload_n_ok h0 kd_W_law_697 rfl ?_
    refine wq_iload_ok h0 kd_W_law_698 ?_
    refine wq_iconst_ok h0 kd_W_law_700 (by decide +kernel) ?_
    refine wq_iadd_ok h0 kd_W_law_701 ?_
    refine wq_sld_ok h0 hX hN9 hbl hbA hg kd_W_law_702 ?_
    refine wq_call_ok hA (wq_runSH ⟨h0.1, h0.2, hml, hown, hts⟩ (kv_W_zone hl) kw_G kw_639 kw_0 kw_637 kw_638 ⟨by decide +kernel, by decide +kernel, by decide +kernel⟩ rfl rfl ⟨Nat.le_of_ble_eq_true rfl, Nat.le_of_ble_eq_true rfl⟩ hK hZ hN hA kd_W_law_703) wq_x0_ok ?_
    refine wq_istore_ok h0 kd_W_law_706 (Nat.le_of_ble_eq_true rfl) ?_
    refine wq_aload_n_ok h0 kd_W_law_708 rfl ?_
    refine wq_aload_n_ok h0 kd_W_law_709 rfl ?_
    refine wq_iload_ok h0 kd_W_law_710 ?_
    refine wq_iconst_ok h0 kd_W_law_712 (by decide +kernel) ?_
    refine wq_iadd_ok h0 kd_W_law_713 ?_
    refine wq_sld_ok h0 hX hN9 hbl hbA hg kd_W_law_714 ?_
    refine wq_aload_n_ok h0 kd_W_law_715 rfl ?_
    refine wq_iload_ok h0 kd_W_law_716 ?_
    refine wq_iconst_ok h0 kd_W_law_718 (by decide +kernel) ?_
    refine wq_iadd_ok h0 kd_W_law_719 ?_
    refine wq_sld_ok h0 hX hN9 hbl hbA hg kd_W_law_720 ?_
    refine wq_call_ok hA (wq_runV (ci := 9) ⟨h0.1, h0.2, hml, hown, hts⟩ (kv_M_zone hl) ⟨(wq_cB hts kw_G kw_1275 kw_10 kw_1272 ⟨by decide +kernel, by decide +kernel, by decide +kernel⟩ rfl rfl ⟨Nat.le_of_ble_eq_true rfl, Nat.le_of_ble_eq_true rfl⟩), hts _ kw_1273, hts _ kw_1274⟩ rfl rfl hK hZ hN hA kd_W_law_721) wq_x0_ok ?_
    refine wq_goto_ok (tgt := 1421) h0 kd_W_law_724 (by decide) ?_
    exact hb_1421
  have hb_727 : wq_Snd p l e room_1 s m #[Value.ref b] below meth c 8 cs D kz_cl A Ag (lw_Z below #[Value.ref b] s) 727 (kt_W_law_727 N xs K) := by
    refine wq_aload_n_ok h0 kd_W_law_727 rfl ?_
    refine wq_aload_n_ok h0 kd_W_law_728 rfl ?_
    refine wq_iload_ok h0 kd_W_law_729 ?_
    refine wq_iconst_ok h0 kd_W_law_731 (by decide +kernel) ?_
    refine wq_iadd_ok h0 kd_W_law_732 ?_
    refine wq_sld_ok h0 hX hN9 hbl hbA hg kd_W_law_733 ?_
    refine wq_aload_n_ok h0 kd_W_law_734 rfl ?_
    refine wq_iload_ok h0 kd_W_law_735 ?_
    refine wq_iconst_ok h0 kd_W_law_737 (by decide +kernel) ?_
    refine wq_iadd_ok h0 kd_W_law_738 ?_
    refine wq_sld_ok h0 hX hN9 hbl hbA hg kd_W_law_739 ?_
    refine wq_aload_n_ok h0 kd_W_law_740 rfl ?_
    refine wq_iload_ok h0 kd_W_law_741 ?_
    refine wq_iconst_ok h0 kd_W_law_743 (by decide +kernel) ?_
    refine wq_iadd_ok h0 kd_W_law_744 ?_
    refine wq_sld_ok h0 hX hN9 hbl hbA hg kd_W_law_745 ?_
    refine wq_call_ok hA (wq_runSH ⟨h0.1, h0.2, hml, hown, hts⟩ (kv_W_rule hl) kw_G kw_646 kw_0 kw_644 kw_645 ⟨by decide +kernel, by decide +kernel, by decide +kernel⟩ rfl rfl ⟨Nat.le_of_ble_eq_true rfl, Nat.le_of_ble_eq_true rfl⟩ hK hZ hN hA kd_W_law_746) wq_x0_ok ?_
    refine wq_istore_ok h0 kd_W_law_749 (Nat.le_of_ble_eq_true rfl) ?_
    refine wq_aload_n_ok h0 kd_W_law_751 rfl ?_
    refine wq_aload_n_ok h0 kd_W_law_752 rfl ?_
    refine wq_iload_ok h0 kd_W_law_753 ?_
    refine wq_iconst_ok h0 kd_W_law_755 (by decide +kernel) ?_
    refine wq_iadd_ok h0 kd_W_law_756 ?_
    refine wq_sld_ok h0 hX hN9 hbl hbA hg kd_W_law_757 ?_
    refine wq_aload_n_ok h0 kd_W_law_758 rfl ?_
    refine wq_iload_ok h0 kd_W_law_759 ?_
    refine wq_iconst_ok h0 kd_W_law_761 (by decide +kernel) ?_
    refine wq_iadd_ok h0 kd_W_law_762 ?_
    refine wq_sld_ok h0 hX hN9 hbl hbA hg kd_W_law_763 ?_
    refine wq_aload_n_ok h0 kd_W_law_764 rfl ?_
    refine wq_iload_ok h0 kd_W_law_765 ?_
    refine wq_iconst_ok h0 kd_W_law_767 (by decide +kernel) ?_
    refine wq_iadd_ok h0 kd_W_law_768 ?_
    refine wq_sld_ok h0 hX hN9 hbl hbA hg kd_W_law_769 ?_
    refine wq_call_ok hA (wq_runV (ci := 9) ⟨h0.1, h0.2, hml, hown, hts⟩ (kv_M_rule hl) ⟨(wq_cB hts kw_G kw_1279 kw_10 kw_1276 ⟨by decide +kernel, by decide +kernel, by decide +kernel⟩ rfl rfl ⟨Nat.le_of_ble_eq_true rfl, Nat.le_of_ble_eq_true rfl⟩), hts _ kw_1277, hts _ kw_1278⟩ rfl rfl hK hZ hN hA kd_W_law_770) wq_x0_ok ?_
    refine wq_goto_ok (tgt := 1421) h0 kd_W_law_773 (by decide) ?_
    exact hb_1421
  have hb_776 : wq_Snd p l e room_1 s m #[Value.ref b] below meth c 8 cs D kz_cl A Ag (lw_Z below #[Value.ref b] s) 776 (kt_W_law_776 N xs K) := by
    refine wq_aload_n_ok h0 kd_W_law_776 rfl ?_
    refine wq_aload_n_ok h0 kd_W_law_777 rfl ?_
    refine wq_iload_ok h0 kd_W_law_778 ?_
    refine wq_iconst_ok h0 kd_W_law_780 (by decide +kernel) ?_
    refine wq_iadd_ok h0 kd_W_law_781 ?_
    refine wq_sld_ok h0 hX hN9 hbl hbA hg kd_W_law_782 ?_
    refine wq_aload_n_ok h0 kd_W_law_783 rfl ?_
    refine wq_iload_ok h0 kd_W_law_784 ?_
    refine wq_iconst_ok h0 kd_W_law_786 (by decide +kernel) ?_
    refine wq_iadd_ok h0 kd_W_law_787 ?_
    refine wq_sld_ok h0 hX hN9 hbl hbA hg kd_W_law_788 ?_
    refine wq_aload_n_ok h0 kd_W_law_789 rfl ?_
    refine wq_call_ok hA (wq_runSH ⟨h0.1, h0.2, hml, hown, hts⟩ (kv_W_madeIn hl) kw_G kw_653 kw_0 kw_651 kw_652 ⟨by decide +kernel, by decide +kernel, by decide +kernel⟩ rfl rfl ⟨Nat.le_of_ble_eq_true rfl, Nat.le_of_ble_eq_true rfl⟩ hK hZ hN hA kd_W_law_790) wq_x0_ok ?_
    refine wq_istore_ok h0 kd_W_law_793 (Nat.le_of_ble_eq_true rfl) ?_
    refine wq_aload_n_ok h0 kd_W_law_795 rfl ?_
    refine wq_aload_n_ok h0 kd_W_law_796 rfl ?_
    refine wq_iload_ok h0 kd_W_law_797 ?_
    refine wq_iconst_ok h0 kd_W_law_799 (by decide +kernel) ?_
    refine wq_iadd_ok h0 kd_W_law_800 ?_
    refine wq_sld_ok h0 hX hN9 hbl hbA hg kd_W_law_801 ?_
    refine wq_aload_n_ok h0 kd_W_law_802 rfl ?_
    refine wq_iload_ok h0 kd_W_law_803 ?_
    refine wq_iconst_ok h0 kd_W_law_805 (by decide +kernel) ?_
    refine wq_iadd_ok h0 kd_W_law_806 ?_
    refine wq_sld_ok h0 hX hN9 hbl hbA hg kd_W_law_807 ?_
    refine wq_call_ok hA (wq_runV (ci := 9) ⟨h0.1, h0.2, hml, hown, hts⟩ (kv_M_madeIn hl) ⟨(wq_cB hts kw_G kw_1283 kw_10 kw_1280 ⟨by decide +kernel, by decide +kernel, by decide +kernel⟩ rfl rfl ⟨Nat.le_of_ble_eq_true rfl, Nat.le_of_ble_eq_true rfl⟩), hts _ kw_1281, hts _ kw_1282⟩ rfl rfl hK hZ hN hA kd_W_law_808) wq_x0_ok ?_
    refine wq_istore_ok h0 kd_W_law_811 (Nat.le_of_ble_eq_true rfl) ?_
    refine wq_goto_ok (tgt := 1421) h0 kd_W_law_813 (by decide) ?_
    exact hb_1421
  have hb_816 : wq_Snd p l e room_1 s m #[Value.ref b] below meth c 8 cs D kz_cl A Ag (lw_Z below #[Value.ref b] s) 816 (kt_W_law_816 N xs K) := by
    refine wq_aload_n_ok h0 kd_W_law_816 rfl ?_
    refine wq_aload_n_ok h0 kd_W_law_817 rfl ?_
    refine wq_iload_ok h0 kd_W_law_818 ?_
    refine wq_iconst_ok h0 kd_W_law_820 (by decide +kernel) ?_
    refine wq_iadd_ok h0 kd_W_law_821 ?_
    refine wq_sld_ok h0 hX hN9 hbl hbA hg kd_W_law_822 ?_
    refine wq_aload_n_ok h0 kd_W_law_823 rfl ?_
    refine wq_iload_ok h0 kd_W_law_824 ?_
    refine wq_iconst_ok h0 kd_W_law_826 (by decide +kernel) ?_
    refine wq_iadd_ok h0 kd_W_law_827 ?_
    refine wq_sld_ok h0 hX hN9 hbl hbA hg kd_W_law_828 ?_
    refine wq_aload_n_ok h0 kd_W_law_829 rfl ?_
    refine wq_call_ok hA (wq_runSH ⟨h0.1, h0.2, hml, hown, hts⟩ (kv_W_declare hl) kw_G kw_692 kw_0 kw_690 kw_691 ⟨by decide +kernel, by decide +kernel, by decide +kernel⟩ rfl rfl ⟨Nat.le_of_ble_eq_true rfl, Nat.le_of_ble_eq_true rfl⟩ hK hZ hN hA kd_W_law_830) wq_x0_ok ?_
    refine wq_istore_ok h0 kd_W_law_833 (Nat.le_of_ble_eq_true rfl) ?_
    refine wq_aload_n_ok h0 kd_W_law_835 rfl ?_
    refine wq_aload_n_ok h0 kd_W_law_836 rfl ?_
    refine wq_iload_ok h0 kd_W_law_837 ?_
    refine wq_iconst_ok h0 kd_W_law_839 (by decide +kernel) ?_
    refine wq_iadd_ok h0 kd_W_law_840 ?_
    refine wq_sld_ok h0 hX hN9 hbl hbA hg kd_W_law_841 ?_
    refine wq_aload_n_ok h0 kd_W_law_842 rfl ?_
    refine wq_iload_ok h0 kd_W_law_843 ?_
    refine wq_iconst_ok h0 kd_W_law_845 (by decide +kernel) ?_
    refine wq_iadd_ok h0 kd_W_law_846 ?_
    refine wq_sld_ok h0 hX hN9 hbl hbA hg kd_W_law_847 ?_
    refine wq_call_ok hA (wq_runV (ci := 9) ⟨h0.1, h0.2, hml, hown, hts⟩ (kv_M_declare hl) ⟨(wq_cB hts kw_G kw_1292 kw_10 kw_1289 ⟨by decide +kernel, by decide +kernel, by decide +kernel⟩ rfl rfl ⟨Nat.le_of_ble_eq_true rfl, Nat.le_of_ble_eq_true rfl⟩), hts _ kw_1290, hts _ kw_1291⟩ rfl rfl hK hZ hN hA kd_W_law_848) wq_x0_ok ?_
    refine wq_istore_ok h0 kd_W_law_851 (Nat.le_of_ble_eq_true rfl) ?_
    refine wq_goto_ok (tgt := 1421) h0 kd_W_law_853 (by decide) ?_
    exact hb_1421
  have hb_968 : wq_Snd p l e room_1 s m #[Value.ref b] below meth c 8 cs D kz_cl A Ag (lw_Z below #[Value.ref b] s) 968 (kt_W_law_968 N xs K) := by
    refine wq_call_ok hA (wq_runV (ci := 9) ⟨h0.1, h0.2, hml, hown, hts⟩ (kv_M_line hl) ⟨(wq_cB hts kw_G kw_1296 kw_10 kw_1293 ⟨by decide +kernel, by decide +kernel, by decide +kernel⟩ rfl rfl ⟨Nat.le_of_ble_eq_true rfl, Nat.le_of_ble_eq_true rfl⟩), hts _ kw_1294, hts _ kw_1295⟩ rfl rfl hK hZ hN hA kd_W_law_968) wq_x0_ok ?_
    refine wq_istore_ok h0 kd_W_law_971 (Nat.le_of_ble_eq_true rfl) ?_
    refine wq_goto_ok (tgt := 1421) h0 kd_W_law_973 (by decide) ?_
    exact hb_1421
  have hb_967 : wq_Snd p l e room_1 s m #[Value.ref b] below meth c 8 cs D kz_cl A Ag (lw_Z below #[Value.ref b] s) 967 (kt_W_law_967 N xs K) := by
    refine wq_iconst_ok h0 kd_W_law_967 (by decide +kernel) ?_
    exact hb_968
  have hb_909 : wq_Snd p l e room_1 s m #[Value.ref b] below meth c 8 cs D kz_cl A Ag (lw_Z below #[Value.ref b] s) 909 (kt_W_law_909 N xs K) := by
    refine wq_aload_n_ok h0 kd_W_law_909 rfl ?_
    refine wq_call_ok hA (wq_runSH ⟨h0.1, h0.2, hml, hown, hts⟩ (kv_W_line hl) kw_G kw_703 kw_0 kw_701 kw_702 ⟨by decide +kernel, by decide +kernel, by decide +kernel⟩ rfl rfl ⟨Nat.le_of_ble_eq_true rfl, Nat.le_of_ble_eq_true rfl⟩ hK hZ hN hA kd_W_law_910) wq_x0_ok ?_
    refine wq_istore_ok h0 kd_W_law_913 (Nat.le_of_ble_eq_true rfl) ?_
    refine wq_aload_n_ok h0 kd_W_law_915 rfl ?_
    refine wq_aload_n_ok h0 kd_W_law_916 rfl ?_
    refine wq_iload_ok h0 kd_W_law_917 ?_
    refine wq_iconst_ok h0 kd_W_law_919 (by decide +kernel) ?_
    refine wq_iadd_ok h0 kd_W_law_920 ?_
    refine wq_sld_ok h0 hX hN9 hbl hbA hg kd_W_law_921 ?_
    refine wq_aload_n_ok h0 kd_W_law_922 rfl ?_
    refine wq_iload_ok h0 kd_W_law_923 ?_
    refine wq_iconst_ok h0 kd_W_law_925 (by decide +kernel) ?_
    refine wq_iadd_ok h0 kd_W_law_926 ?_
    refine wq_sld_ok h0 hX hN9 hbl hbA hg kd_W_law_927 ?_
    refine wq_aload_n_ok h0 kd_W_law_928 rfl ?_
    refine wq_iload_ok h0 kd_W_law_929 ?_
    refine wq_iconst_ok h0 kd_W_law_931 (by decide +kernel) ?_
    refine wq_iadd_ok h0 kd_W_law_932 ?_
    refine wq_sld_ok h0 hX hN9 hbl hbA hg kd_W_law_933 ?_
    refine wq_aload_n_ok h0 kd_W_law_934 rfl ?_
    refine wq_iload_ok h0 kd_W_law_935 ?_
    refine wq_iconst_ok h0 kd_W_law_937 (by decide +kernel) ?_
    refine wq_iadd_ok h0 kd_W_law_938 ?_
    refine wq_sld_ok h0 hX hN9 hbl hbA hg kd_W_law_939 ?_
    refine wq_aload_n_ok h0 kd_W_law_940 rfl ?_
    refine wq_iload_ok h0 kd_W_law_941 ?_
    refine wq_iconst_ok h0 kd_W_law_943 (by decide +kernel) ?_
    refine wq_iadd_ok h0 kd_W_law_944 ?_
    refine wq_sld_ok h0 hX hN9 hbl hbA hg kd_W_law_945 ?_
    refine wq_aload_n_ok h0 kd_W_law_946 rfl ?_
    refine wq_iload_ok h0 kd_W_law_947 ?_
    refine wq_bipush_ok h0 kd_W_law_949 (by decide +kernel) ?_
    refine wq_iadd_ok h0 kd_W_law_951 ?_
    refine wq_sld_ok h0 hX hN9 hbl hbA hg kd_W_law_952 ?_
    refine wq_aload_n_ok h0 kd_W_law_953 rfl ?_
    refine wq_iload_ok h0 kd_W_law_954 ?_
    refine wq_bipush_ok h0 kd_W_law_956 (by decide +kernel) ?_
    refine wq_iadd_ok h0 kd_W_law_958 ?_
    refine wq_sld_ok h0 hX hN9 hbl hbA hg kd_W_law_959 ?_
    refine wq_if_eq_ok (tgt := 967) h0 kd_W_law_960 (by decide) ?_ ?_
    · exact hb_967
    refine wq_iconst_ok h0 kd_W_law_963 (by decide +kernel) ?_
    refine wq_goto_ok (tgt := 968) h0 kd_W_law_964 (by decide) ?_
    exact hb_968
  have hb_908 : wq_Snd p l e room_1 s m #[Value.ref b] below meth c 8 cs D kz_cl A Ag (lw_Z below #[Value.ref b] s) 908 (kt_W_law_908 N xs K) := by
    refine wq_iconst_ok h0 kd_W_law_908 (by decide +kernel) ?_
    exact hb_909
  have hb_856 : wq_Snd p l e room_1 s m #[Value.ref b] below meth c 8 cs D kz_cl A Ag (lw_Z below #[Value.ref b] s) 856 (kt_W_law_856 N xs K) := by
    refine wq_aload_n_ok h0 kd_W_law_856 rfl ?_
    refine wq_aload_n_ok h0 kd_W_law_857 rfl ?_
    refine wq_iload_ok h0 kd_W_law_858 ?_
    refine wq_iconst_ok h0 kd_W_law_860 (by decide +kernel) ?_
    refine wq_iadd_ok h0 kd_W_law_861 ?_
    refine wq_sld_ok h0 hX hN9 hbl hbA hg kd_W_law_862 ?_
    refine wq_aload_n_ok h0 kd_W_law_863 rfl ?_
    refine wq_iload_ok h0 kd_W_law_864 ?_
    refine wq_iconst_ok h0 kd_W_law_866 (by decide +kernel) ?_
    refine wq_iadd_ok h0 kd_W_law_867 ?_
    refine wq_sld_ok h0 hX hN9 hbl hbA hg kd_W_law_868 ?_
    refine wq_aload_n_ok h0 kd_W_law_869 rfl ?_
    refine wq_iload_ok h0 kd_W_law_870 ?_
    refine wq_iconst_ok h0 kd_W_law_872 (by decide +kernel) ?_
    refine wq_iadd_ok h0 kd_W_law_873 ?_
    refine wq_sld_ok h0 hX hN9 hbl hbA hg kd_W_law_874 ?_
    refine wq_aload_n_ok h0 kd_W_law_875 rfl ?_
    refine wq_iload_ok h0 kd_W_law_876 ?_
    refine wq_iconst_ok h0 kd_W_law_878 (by decide +kernel) ?_
    refine wq_iadd_ok h0 kd_W_law_879 ?_
    refine wq_sld_ok h0 hX hN9 hbl hbA hg kd_W_law_880 ?_
    refine wq_aload_n_ok h0 kd_W_law_881 rfl ?_
    refine wq_iload_ok h0 kd_W_law_882 ?_
    refine wq_iconst_ok h0 kd_W_law_884 (by decide +kernel) ?_
    refine wq_iadd_ok h0 kd_W_law_885 ?_
    refine wq_sld_ok h0 hX hN9 hbl hbA hg kd_W_law_886 ?_
    refine wq_aload_n_ok h0 kd_W_law_887 rfl ?_
    refine wq_iload_ok h0 kd_W_law_888 ?_
    refine wq_bipush_ok h0 kd_W_law_890 (by decide +kernel) ?_
    refine wq_iadd_ok h0 kd_W_law_892 ?_
    refine wq_sld_ok h0 hX hN9 hbl hbA hg kd_W_law_893 ?_
    refine wq_aload_n_ok h0 kd_W_law_894 rfl ?_
    refine wq_iload_ok h0 kd_W_law_895 ?_
    refine wq_bipush_ok h0 kd_W_law_897 (by decide +kernel) ?_
    refine wq_iadd_ok h0 kd_W_law_899 ?_
    refine wq_sld_ok h0 hX hN9 hbl hbA hg kd_W_law_900 ?_
    refine wq_if_eq_ok (tgt := 908) h0 kd_W_law_901 (by decide) ?_ ?_
    · exact hb_908
    refine wq_iconst_ok h0 kd_W_law_904 (by decide +kernel) ?_
    refine wq_goto_ok (tgt := 909) h0 kd_W_law_905 (by decide) ?_
    exact hb_909
  have hb_976 : wq_Snd p l e room_1 s m #[Value.ref b] below meth c 8 cs D kz_cl A Ag (lw_Z below #[Value.ref b] s) 976 (kt_W_law_976 N xs K) := by
    refine wq_aload_n_ok h0 kd_W_law_976 rfl ?_
    refine wq_aload_n_ok h0 kd_W_law_977 rfl ?_
    refine wq_iload_ok h0 kd_W_law_978 ?_
    refine wq_iconst_ok h0 kd_W_law_980 (by decide +kernel) ?_
    refine wq_iadd_ok h0 kd_W_law_981 ?_
    refine wq_sld_ok h0 hX hN9 hbl hbA hg kd_W_law_982 ?_
    refine wq_aload_n_ok h0 kd_W_law_983 rfl ?_
    refine wq_iload_ok h0 kd_W_law_984 ?_
    refine wq_iconst_ok h0 kd_W_law_986 (by decide +kernel) ?_
    refine wq_iadd_ok h0 kd_W_law_987 ?_
    refine wq_sld_ok h0 hX hN9 hbl hbA hg kd_W_law_988 ?_
    refine wq_aload_n_ok h0 kd_W_law_989 rfl ?_
    refine wq_iload_ok h0 kd_W_law_990 ?_
    refine wq_iconst_ok h0 kd_W_law_992 (by decide +kernel) ?_
    refine wq_iadd_ok h0 kd_W_law_993 ?_
    refine wq_sld_ok h0 hX hN9 hbl hbA hg kd_W_law_994 ?_
    refine wq_call_ok hA (wq_runSH ⟨h0.1, h0.2, hml, hown, hts⟩ (kv_W_charge hl) kw_G kw_727 kw_0 kw_725 kw_726 ⟨by decide +kernel, by decide +kernel, by decide +kernel⟩ rfl rfl ⟨Nat.le_of_ble_eq_true rfl, Nat.le_of_ble_eq_true rfl⟩ hK hZ hN hA kd_W_law_995) wq_x0_ok ?_
    refine wq_istore_ok h0 kd_W_law_998 (Nat.le_of_ble_eq_true rfl) ?_
    refine wq_aload_n_ok h0 kd_W_law_1000 rfl ?_
    refine wq_aload_n_ok h0 kd_W_law_1001 rfl ?_
    refine wq_iload_ok h0 kd_W_law_1002 ?_
    refine wq_iconst_ok h0 kd_W_law_1004 (by decide +kernel) ?_
    refine wq_iadd_ok h0 kd_W_law_1005 ?_
    refine wq_sld_ok h0 hX hN9 hbl hbA hg kd_W_law_1006 ?_
    refine wq_aload_n_ok h0 kd_W_law_1007 rfl ?_
    refine wq_iload_ok h0 kd_W_law_1008 ?_
    refine wq_iconst_ok h0 kd_W_law_1010 (by decide +kernel) ?_
    refine wq_iadd_ok h0 kd_W_law_1011 ?_
    refine wq_sld_ok h0 hX hN9 hbl hbA hg kd_W_law_1012 ?_
    refine wq_aload_n_ok h0 kd_W_law_1013 rfl ?_
    refine wq_iload_ok h0 kd_W_law_1014 ?_
    refine wq_iconst_ok h0 kd_W_law_1016 (by decide +kernel) ?_
    refine wq_iadd_ok h0 kd_W_law_1017 ?_
    refine wq_sld_ok h0 hX hN9 hbl hbA hg kd_W_law_1018 ?_
    refine wq_call_ok hA (wq_runV (ci := 9) ⟨h0.1, h0.2, hml, hown, hts⟩ (kv_M_charge hl) ⟨(wq_cB hts kw_G kw_1308 kw_10 kw_1305 ⟨by decide +kernel, by decide +kernel, by decide +kernel⟩ rfl rfl ⟨Nat.le_of_ble_eq_true rfl, Nat.le_of_ble_eq_true rfl⟩), hts _ kw_1306, hts _ kw_1307⟩ rfl rfl hK hZ hN hA kd_W_law_1019) wq_x0_ok ?_
    refine wq_goto_ok (tgt := 1421) h0 kd_W_law_1022 (by decide) ?_
    exact hb_1421
  have hb_1025 : wq_Snd p l e room_1 s m #[Value.ref b] below meth c 8 cs D kz_cl A Ag (lw_Z below #[Value.ref b] s) 1025 (kt_W_law_1025 N xs K) := by
    refine wq_aload_n_ok h0 kd_W_law_1025 rfl ?_
    refine wq_aload_n_ok h0 kd_W_law_1026 rfl ?_
    refine wq_iload_ok h0 kd_W_law_1027 ?_
    refine wq_iconst_ok h0 kd_W_law_1029 (by decide +kernel) ?_
    refine wq_iadd_ok h0 kd_W_law_1030 ?_
    refine wq_sld_ok h0 hX hN9 hbl hbA hg kd_W_law_1031 ?_
    refine wq_aload_n_ok h0 kd_W_law_1032 rfl ?_
    refine wq_iload_ok h0 kd_W_law_1033 ?_
    refine wq_iconst_ok h0 kd_W_law_1035 (by decide +kernel) ?_
    refine wq_iadd_ok h0 kd_W_law_1036 ?_
    refine wq_sld_ok h0 hX hN9 hbl hbA hg kd_W_law_1037 ?_
    refine wq_aload_n_ok h0 kd_W_law_1038 rfl ?_
    refine wq_iload_ok h0 kd_W_law_1039 ?_
    refine wq_iconst_ok h0 kd_W_law_1041 (by decide +kernel) ?_
    refine wq_iadd_ok h0 kd_W_law_1042 ?_
    refine wq_sld_ok h0 hX hN9 hbl hbA hg kd_W_law_1043 ?_
    refine wq_aload_n_ok h0 kd_W_law_1044 rfl ?_
    refine wq_call_ok hA (wq_runSH ⟨h0.1, h0.2, hml, hown, hts⟩ (kv_W_lineOf hl) kw_G kw_735 kw_0 kw_733 kw_734 ⟨by decide +kernel, by decide +kernel, by decide +kernel⟩ rfl rfl ⟨Nat.le_of_ble_eq_true rfl, Nat.le_of_ble_eq_true rfl⟩ hK hZ hN hA kd_W_law_1045) wq_x0_ok ?_
    refine wq_istore_ok h0 kd_W_law_1048 (Nat.le_of_ble_eq_true rfl) ?_
    refine wq_aload_n_ok h0 kd_W_law_1050 rfl ?_
    refine wq_aload_n_ok h0 kd_W_law_1051 rfl ?_
    refine wq_iload_ok h0 kd_W_law_1052 ?_
    refine wq_iconst_ok h0 kd_W_law_1054 (by decide +kernel) ?_
    refine wq_iadd_ok h0 kd_W_law_1055 ?_
    refine wq_sld_ok h0 hX hN9 hbl hbA hg kd_W_law_1056 ?_
    refine wq_aload_n_ok h0 kd_W_law_1057 rfl ?_
    refine wq_iload_ok h0 kd_W_law_1058 ?_
    refine wq_iconst_ok h0 kd_W_law_1060 (by decide +kernel) ?_
    refine wq_iadd_ok h0 kd_W_law_1061 ?_
    refine wq_sld_ok h0 hX hN9 hbl hbA hg kd_W_law_1062 ?_
    refine wq_aload_n_ok h0 kd_W_law_1063 rfl ?_
    refine wq_iload_ok h0 kd_W_law_1064 ?_
    refine wq_iconst_ok h0 kd_W_law_1066 (by decide +kernel) ?_
    refine wq_iadd_ok h0 kd_W_law_1067 ?_
    refine wq_sld_ok h0 hX hN9 hbl hbA hg kd_W_law_1068 ?_
    refine wq_call_ok hA (wq_runV (ci := 9) ⟨h0.1, h0.2, hml, hown, hts⟩ (kv_M_lineOf hl) ⟨(wq_cB hts kw_G kw_1313 kw_10 kw_1310 ⟨by decide +kernel, by decide +kernel, by decide +kernel⟩ rfl rfl ⟨Nat.le_of_ble_eq_true rfl, Nat.le_of_ble_eq_true rfl⟩), hts _ kw_1311, hts _ kw_1312⟩ rfl rfl hK hZ hN hA kd_W_law_1069) wq_x0_ok ?_
    refine wq_lstore_ok h0 kd_W_law_1072 (Nat.le_of_ble_eq_true rfl) ?_
    refine wq_goto_ok (tgt := 1421) h0 kd_W_law_1074 (by decide) ?_
    exact hb_1421
  have hb_1077 : wq_Snd p l e room_1 s m #[Value.ref b] below meth c 8 cs D kz_cl A Ag (lw_Z below #[Value.ref b] s) 1077 (kt_W_law_1077 N xs K) := by
    refine wq_aload_n_ok h0 kd_W_law_1077 rfl ?_
    refine wq_aload_n_ok h0 kd_W_law_1078 rfl ?_
    refine wq_iload_ok h0 kd_W_law_1079 ?_
    refine wq_iconst_ok h0 kd_W_law_1081 (by decide +kernel) ?_
    refine wq_iadd_ok h0 kd_W_law_1082 ?_
    refine wq_sld_ok h0 hX hN9 hbl hbA hg kd_W_law_1083 ?_
    refine wq_aload_n_ok h0 kd_W_law_1084 rfl ?_
    refine wq_call_ok hA (wq_runSH ⟨h0.1, h0.2, hml, hown, hts⟩ (kv_W_accept hl) kw_G kw_842 kw_0 kw_840 kw_841 ⟨by decide +kernel, by decide +kernel, by decide +kernel⟩ rfl rfl ⟨Nat.le_of_ble_eq_true rfl, Nat.le_of_ble_eq_true rfl⟩ hK hZ hN hA kd_W_law_1085) wq_x0_ok ?_
    refine wq_istore_ok h0 kd_W_law_1088 (Nat.le_of_ble_eq_true rfl) ?_
    refine wq_aload_n_ok h0 kd_W_law_1090 rfl ?_
    refine wq_aload_n_ok h0 kd_W_law_1091 rfl ?_
    refine wq_iload_ok h0 kd_W_law_1092 ?_
    refine wq_iconst_ok h0 kd_W_law_1094 (by decide +kernel) ?_
    refine wq_iadd_ok h0 kd_W_law_1095 ?_
    refine wq_sld_ok h0 hX hN9 hbl hbA hg kd_W_law_1096 ?_
    refine wq_call_ok hA (wq_runV (ci := 9) ⟨h0.1, h0.2, hml, hown, hts⟩ (kv_M_accept hl) ⟨(wq_cB hts kw_G kw_1356 kw_10 kw_1353 ⟨by decide +kernel, by decide +kernel, by decide +kernel⟩ rfl rfl ⟨Nat.le_of_ble_eq_true rfl, Nat.le_of_ble_eq_true rfl⟩), hts _ kw_1354, hts _ kw_1355⟩ rfl rfl hK hZ hN hA kd_W_law_1097) wq_x0_ok ?_
    refine wq_lstore_ok h0 kd_W_law_1100 (Nat.le_of_ble_eq_true rfl) ?_
    refine wq_goto_ok (tgt := 1421) h0 kd_W_law_1102 (by decide) ?_
    exact hb_1421
  have hb_1105 : wq_Snd p l e room_1 s m #[Value.ref b] below meth c 8 cs D kz_cl A Ag (lw_Z below #[Value.ref b] s) 1105 (kt_W_law_1105 N xs K) := by
    refine wq_aload_n_ok h0 kd_W_law_1105 rfl ?_
    refine wq_aload_n_ok h0 kd_W_law_1106 rfl ?_
    refine wq_iload_ok h0 kd_W_law_1107 ?_
    refine wq_iconst_ok h0 kd_W_law_1109 (by decide +kernel) ?_
    refine wq_iadd_ok h0 kd_W_law_1110 ?_
    refine wq_sld_ok h0 hX hN9 hbl hbA hg kd_W_law_1111 ?_
    refine wq_aload_n_ok h0 kd_W_law_1112 rfl ?_
    refine wq_iload_ok h0 kd_W_law_1113 ?_
    refine wq_iconst_ok h0 kd_W_law_1115 (by decide +kernel) ?_
    refine wq_iadd_ok h0 kd_W_law_1116 ?_
    refine wq_sld_ok h0 hX hN9 hbl hbA hg kd_W_law_1117 ?_
    refine wq_aload_n_ok h0 kd_W_law_1118 rfl ?_
    refine wq_iload_ok h0 kd_W_law_1119 ?_
    refine wq_iconst_ok h0 kd_W_law_1121 (by decide +kernel) ?_
    refine wq_iadd_ok h0 kd_W_law_1122 ?_
    refine wq_sld_ok h0 hX hN9 hbl hbA hg kd_W_law_1123 ?_
    refine wq_aload_n_ok h0 kd_W_law_1124 rfl ?_
    refine wq_iload_ok h0 kd_W_law_1125 ?_
    refine wq_iconst_ok h0 kd_W_law_1127 (by decide +kernel) ?_
    refine wq_iadd_ok h0 kd_W_law_1128 ?_
    refine wq_sld_ok h0 hX hN9 hbl hbA hg kd_W_law_1129 ?_
    refine wq_aload_n_ok h0 kd_W_law_1130 rfl ?_
    refine wq_call_ok hA (wq_runSH ⟨h0.1, h0.2, hml, hown, hts⟩ (kv_W_amend hl) kw_G kw_892 kw_0 kw_890 kw_891 ⟨by decide +kernel, by decide +kernel, by decide +kernel⟩ rfl rfl ⟨Nat.le_of_ble_eq_true rfl, Nat.le_of_ble_eq_true rfl⟩ hK hZ hN hA kd_W_law_1131) wq_x0_ok ?_
    refine wq_istore_ok h0 kd_W_law_1134 (Nat.le_of_ble_eq_true rfl) ?_
    refine wq_aload_n_ok h0 kd_W_law_1136 rfl ?_
    refine wq_aload_n_ok h0 kd_W_law_1137 rfl ?_
    refine wq_iload_ok h0 kd_W_law_1138 ?_
    refine wq_iconst_ok h0 kd_W_law_1140 (by decide +kernel) ?_
    refine wq_iadd_ok h0 kd_W_law_1141 ?_
    refine wq_sld_ok h0 hX hN9 hbl hbA hg kd_W_law_1142 ?_
    refine wq_aload_n_ok h0 kd_W_law_1143 rfl ?_
    refine wq_iload_ok h0 kd_W_law_1144 ?_
    refine wq_iconst_ok h0 kd_W_law_1146 (by decide +kernel) ?_
    refine wq_iadd_ok h0 kd_W_law_1147 ?_
    refine wq_sld_ok h0 hX hN9 hbl hbA hg kd_W_law_1148 ?_
    refine wq_aload_n_ok h0 kd_W_law_1149 rfl ?_
    refine wq_iload_ok h0 kd_W_law_1150 ?_
    refine wq_iconst_ok h0 kd_W_law_1152 (by decide +kernel) ?_
    refine wq_iadd_ok h0 kd_W_law_1153 ?_
    refine wq_sld_ok h0 hX hN9 hbl hbA hg kd_W_law_1154 ?_
    refine wq_aload_n_ok h0 kd_W_law_1155 rfl ?_
    refine wq_iload_ok h0 kd_W_law_1156 ?_
    refine wq_iconst_ok h0 kd_W_law_1158 (by decide +kernel) ?_
    refine wq_iadd_ok h0 kd_W_law_1159 ?_
    refine wq_sld_ok h0 hX hN9 hbl hbA hg kd_W_law_1160 ?_
    refine wq_call_ok hA (wq_runV (ci := 9) ⟨h0.1, h0.2, hml, hown, hts⟩ (kv_M_amend hl) ⟨(wq_cB hts kw_G kw_1372 kw_10 kw_1369 ⟨by decide +kernel, by decide +kernel, by decide +kernel⟩ rfl rfl ⟨Nat.le_of_ble_eq_true rfl, Nat.le_of_ble_eq_true rfl⟩), hts _ kw_1370, hts _ kw_1371⟩ rfl rfl hK hZ hN hA kd_W_law_1161) wq_x0_ok ?_
    refine wq_lstore_ok h0 kd_W_law_1164 (Nat.le_of_ble_eq_true rfl) ?_
    refine wq_goto_ok (tgt := 1421) h0 kd_W_law_1166 (by decide) ?_
    exact hb_1421
  have hb_1169 : wq_Snd p l e room_1 s m #[Value.ref b] below meth c 8 cs D kz_cl A Ag (lw_Z below #[Value.ref b] s) 1169 (kt_W_law_1169 N xs K) := by
    refine wq_aload_n_ok h0 kd_W_law_1169 rfl ?_
    refine wq_aload_n_ok h0 kd_W_law_1170 rfl ?_
    refine wq_iload_ok h0 kd_W_law_1171 ?_
    refine wq_iconst_ok h0 kd_W_law_1173 (by decide +kernel) ?_
    refine wq_iadd_ok h0 kd_W_law_1174 ?_
    refine wq_sld_ok h0 hX hN9 hbl hbA hg kd_W_law_1175 ?_
    refine wq_aload_n_ok h0 kd_W_law_1176 rfl ?_
    refine wq_iload_ok h0 kd_W_law_1177 ?_
    refine wq_iconst_ok h0 kd_W_law_1179 (by decide +kernel) ?_
    refine wq_iadd_ok h0 kd_W_law_1180 ?_
    refine wq_sld_ok h0 hX hN9 hbl hbA hg kd_W_law_1181 ?_
    refine wq_aload_n_ok h0 kd_W_law_1182 rfl ?_
    refine wq_call_ok hA (wq_runSH ⟨h0.1, h0.2, hml, hown, hts⟩ (kv_W_release hl) kw_G kw_919 kw_0 kw_917 kw_918 ⟨by decide +kernel, by decide +kernel, by decide +kernel⟩ rfl rfl ⟨Nat.le_of_ble_eq_true rfl, Nat.le_of_ble_eq_true rfl⟩ hK hZ hN hA kd_W_law_1183) wq_x0_ok ?_
    refine wq_istore_ok h0 kd_W_law_1186 (Nat.le_of_ble_eq_true rfl) ?_
    refine wq_aload_n_ok h0 kd_W_law_1188 rfl ?_
    refine wq_aload_n_ok h0 kd_W_law_1189 rfl ?_
    refine wq_iload_ok h0 kd_W_law_1190 ?_
    refine wq_iconst_ok h0 kd_W_law_1192 (by decide +kernel) ?_
    refine wq_iadd_ok h0 kd_W_law_1193 ?_
    refine wq_sld_ok h0 hX hN9 hbl hbA hg kd_W_law_1194 ?_
    refine wq_aload_n_ok h0 kd_W_law_1195 rfl ?_
    refine wq_iload_ok h0 kd_W_law_1196 ?_
    refine wq_iconst_ok h0 kd_W_law_1198 (by decide +kernel) ?_
    refine wq_iadd_ok h0 kd_W_law_1199 ?_
    refine wq_sld_ok h0 hX hN9 hbl hbA hg kd_W_law_1200 ?_
    refine wq_call_ok hA (wq_runV (ci := 9) ⟨h0.1, h0.2, hml, hown, hts⟩ (kv_M_release hl) ⟨(wq_cB hts kw_G kw_1380 kw_10 kw_1377 ⟨by decide +kernel, by decide +kernel, by decide +kernel⟩ rfl rfl ⟨Nat.le_of_ble_eq_true rfl, Nat.le_of_ble_eq_true rfl⟩), hts _ kw_1378, hts _ kw_1379⟩ rfl rfl hK hZ hN hA kd_W_law_1201) wq_x0_ok ?_
    refine wq_lstore_ok h0 kd_W_law_1204 (Nat.le_of_ble_eq_true rfl) ?_
    refine wq_goto_ok (tgt := 1421) h0 kd_W_law_1206 (by decide) ?_
    exact hb_1421
  have hb_1209 : wq_Snd p l e room_1 s m #[Value.ref b] below meth c 8 cs D kz_cl A Ag (lw_Z below #[Value.ref b] s) 1209 (kt_W_law_1209 N xs K) := by
    refine wq_aload_n_ok h0 kd_W_law_1209 rfl ?_
    refine wq_aload_n_ok h0 kd_W_law_1210 rfl ?_
    refine wq_iload_ok h0 kd_W_law_1211 ?_
    refine wq_iconst_ok h0 kd_W_law_1213 (by decide +kernel) ?_
    refine wq_iadd_ok h0 kd_W_law_1214 ?_
    refine wq_sld_ok h0 hX hN9 hbl hbA hg kd_W_law_1215 ?_
    refine wq_aload_n_ok h0 kd_W_law_1216 rfl ?_
    refine wq_iload_ok h0 kd_W_law_1217 ?_
    refine wq_iconst_ok h0 kd_W_law_1219 (by decide +kernel) ?_
    refine wq_iadd_ok h0 kd_W_law_1220 ?_
    refine wq_sld_ok h0 hX hN9 hbl hbA hg kd_W_law_1221 ?_
    refine wq_aload_n_ok h0 kd_W_law_1222 rfl ?_
    refine wq_call_ok hA (wq_runSH ⟨h0.1, h0.2, hml, hown, hts⟩ (kv_W_export hl) kw_G kw_939 kw_0 kw_937 kw_938 ⟨by decide +kernel, by decide +kernel, by decide +kernel⟩ rfl rfl ⟨Nat.le_of_ble_eq_true rfl, Nat.le_of_ble_eq_true rfl⟩ hK hZ hN hA kd_W_law_1223) wq_x0_ok ?_
    refine wq_istore_ok h0 kd_W_law_1226 (Nat.le_of_ble_eq_true rfl) ?_
    refine wq_aload_n_ok h0 kd_W_law_1228 rfl ?_
    refine wq_aload_n_ok h0 kd_W_law_1229 rfl ?_
    refine wq_iload_ok h0 kd_W_law_1230 ?_
    refine wq_iconst_ok h0 kd_W_law_1232 (by decide +kernel) ?_
    refine wq_iadd_ok h0 kd_W_law_1233 ?_
    refine wq_sld_ok h0 hX hN9 hbl hbA hg kd_W_law_1234 ?_
    refine wq_aload_n_ok h0 kd_W_law_1235 rfl ?_
    refine wq_iload_ok h0 kd_W_law_1236 ?_
    refine wq_iconst_ok h0 kd_W_law_1238 (by decide +kernel) ?_
    refine wq_iadd_ok h0 kd_W_law_1239 ?_
    refine wq_sld_ok h0 hX hN9 hbl hbA hg kd_W_law_1240 ?_
    refine wq_call_ok hA (wq_runV (ci := 9) ⟨h0.1, h0.2, hml, hown, hts⟩ (kv_M_export hl) ⟨(wq_cB hts kw_G kw_1392 kw_10 kw_1389 ⟨by decide +kernel, by decide +kernel, by decide +kernel⟩ rfl rfl ⟨Nat.le_of_ble_eq_true rfl, Nat.le_of_ble_eq_true rfl⟩), hts _ kw_1390, hts _ kw_1391⟩ rfl rfl hK hZ hN hA kd_W_law_1241) wq_x0_ok ?_
    refine wq_lstore_ok h0 kd_W_law_1244 (Nat.le_of_ble_eq_true rfl) ?_
    refine wq_goto_ok (tgt := 1421) h0 kd_W_law_1246 (by decide) ?_
    exact hb_1421
  have hb_1249 : wq_Snd p l e room_1 s m #[Value.ref b] below meth c 8 cs D kz_cl A Ag (lw_Z below #[Value.ref b] s) 1249 (kt_W_law_1249 N xs K) := by
    refine wq_aload_n_ok h0 kd_W_law_1249 rfl ?_
    refine wq_aload_n_ok h0 kd_W_law_1250 rfl ?_
    refine wq_iload_ok h0 kd_W_law_1251 ?_
    refine wq_iconst_ok h0 kd_W_law_1253 (by decide +kernel) ?_
    refine wq_iadd_ok h0 kd_W_law_1254 ?_
    refine wq_sld_ok h0 hX hN9 hbl hbA hg kd_W_law_1255 ?_
    refine wq_aload_n_ok h0 kd_W_law_1256 rfl ?_
    refine wq_iload_ok h0 kd_W_law_1257 ?_
    refine wq_iconst_ok h0 kd_W_law_1259 (by decide +kernel) ?_
    refine wq_iadd_ok h0 kd_W_law_1260 ?_
    refine wq_sld_ok h0 hX hN9 hbl hbA hg kd_W_law_1261 ?_
    refine wq_aload_n_ok h0 kd_W_law_1262 rfl ?_
    refine wq_iload_ok h0 kd_W_law_1263 ?_
    refine wq_iconst_ok h0 kd_W_law_1265 (by decide +kernel) ?_
    refine wq_iadd_ok h0 kd_W_law_1266 ?_
    refine wq_sld_ok h0 hX hN9 hbl hbA hg kd_W_law_1267 ?_
    refine wq_aload_n_ok h0 kd_W_law_1268 rfl ?_
    refine wq_iload_ok h0 kd_W_law_1269 ?_
    refine wq_iconst_ok h0 kd_W_law_1271 (by decide +kernel) ?_
    refine wq_iadd_ok h0 kd_W_law_1272 ?_
    refine wq_sld_ok h0 hX hN9 hbl hbA hg kd_W_law_1273 ?_
    refine wq_aload_n_ok h0 kd_W_law_1274 rfl ?_
    refine wq_call_ok hA (wq_runSH ⟨h0.1, h0.2, hml, hown, hts⟩ (kv_W_work hl) kw_G kw_946 kw_0 kw_944 kw_945 ⟨by decide +kernel, by decide +kernel, by decide +kernel⟩ rfl rfl ⟨Nat.le_of_ble_eq_true rfl, Nat.le_of_ble_eq_true rfl⟩ hK hZ hN hA kd_W_law_1275) wq_x0_ok ?_
    refine wq_istore_ok h0 kd_W_law_1278 (Nat.le_of_ble_eq_true rfl) ?_
    refine wq_aload_n_ok h0 kd_W_law_1280 rfl ?_
    refine wq_aload_n_ok h0 kd_W_law_1281 rfl ?_
    refine wq_iload_ok h0 kd_W_law_1282 ?_
    refine wq_iconst_ok h0 kd_W_law_1284 (by decide +kernel) ?_
    refine wq_iadd_ok h0 kd_W_law_1285 ?_
    refine wq_sld_ok h0 hX hN9 hbl hbA hg kd_W_law_1286 ?_
    refine wq_aload_n_ok h0 kd_W_law_1287 rfl ?_
    refine wq_iload_ok h0 kd_W_law_1288 ?_
    refine wq_iconst_ok h0 kd_W_law_1290 (by decide +kernel) ?_
    refine wq_iadd_ok h0 kd_W_law_1291 ?_
    refine wq_sld_ok h0 hX hN9 hbl hbA hg kd_W_law_1292 ?_
    refine wq_aload_n_ok h0 kd_W_law_1293 rfl ?_
    refine wq_iload_ok h0 kd_W_law_1294 ?_
    refine wq_iconst_ok h0 kd_W_law_1296 (by decide +kernel) ?_
    refine wq_iadd_ok h0 kd_W_law_1297 ?_
    refine wq_sld_ok h0 hX hN9 hbl hbA hg kd_W_law_1298 ?_
    refine wq_aload_n_ok h0 kd_W_law_1299 rfl ?_
    refine wq_iload_ok h0 kd_W_law_1300 ?_
    refine wq_iconst_ok h0 kd_W_law_1302 (by decide +kernel) ?_
    refine wq_iadd_ok h0 kd_W_law_1303 ?_
    refine wq_sld_ok h0 hX hN9 hbl hbA hg kd_W_law_1304 ?_
    refine wq_call_ok hA (wq_runV (ci := 9) ⟨h0.1, h0.2, hml, hown, hts⟩ (kv_M_work hl) ⟨(wq_cB hts kw_G kw_1396 kw_10 kw_1393 ⟨by decide +kernel, by decide +kernel, by decide +kernel⟩ rfl rfl ⟨Nat.le_of_ble_eq_true rfl, Nat.le_of_ble_eq_true rfl⟩), hts _ kw_1394, hts _ kw_1395⟩ rfl rfl hK hZ hN hA kd_W_law_1305) wq_x0_ok ?_
    refine wq_istore_ok h0 kd_W_law_1308 (Nat.le_of_ble_eq_true rfl) ?_
    refine wq_goto_ok (tgt := 1421) h0 kd_W_law_1310 (by decide) ?_
    exact hb_1421
  have hb_1313 : wq_Snd p l e room_1 s m #[Value.ref b] below meth c 8 cs D kz_cl A Ag (lw_Z below #[Value.ref b] s) 1313 (kt_W_law_1313 N xs K) := by
    refine wq_aload_n_ok h0 kd_W_law_1313 rfl ?_
    refine wq_aload_n_ok h0 kd_W_law_1314 rfl ?_
    refine wq_iload_ok h0 kd_W_law_1315 ?_
    refine wq_iconst_ok h0 kd_W_law_1317 (by decide +kernel) ?_
    refine wq_iadd_ok h0 kd_W_law_1318 ?_
    refine wq_sld_ok h0 hX hN9 hbl hbA hg kd_W_law_1319 ?_
    refine wq_aload_n_ok h0 kd_W_law_1320 rfl ?_
    refine wq_iload_ok h0 kd_W_law_1321 ?_
    refine wq_iconst_ok h0 kd_W_law_1323 (by decide +kernel) ?_
    refine wq_iadd_ok h0 kd_W_law_1324 ?_
    refine wq_sld_ok h0 hX hN9 hbl hbA hg kd_W_law_1325 ?_
    refine wq_aload_n_ok h0 kd_W_law_1326 rfl ?_
    refine wq_call_ok hA (wq_runSH ⟨h0.1, h0.2, hml, hown, hts⟩ (kv_W_lot hl) kw_G kw_953 kw_0 kw_951 kw_952 ⟨by decide +kernel, by decide +kernel, by decide +kernel⟩ rfl rfl ⟨Nat.le_of_ble_eq_true rfl, Nat.le_of_ble_eq_true rfl⟩ hK hZ hN hA kd_W_law_1327) wq_x0_ok ?_
    refine wq_istore_ok h0 kd_W_law_1330 (Nat.le_of_ble_eq_true rfl) ?_
    refine wq_aload_n_ok h0 kd_W_law_1332 rfl ?_
    refine wq_aload_n_ok h0 kd_W_law_1333 rfl ?_
    refine wq_iload_ok h0 kd_W_law_1334 ?_
    refine wq_iconst_ok h0 kd_W_law_1336 (by decide +kernel) ?_
    refine wq_iadd_ok h0 kd_W_law_1337 ?_
    refine wq_sld_ok h0 hX hN9 hbl hbA hg kd_W_law_1338 ?_
    refine wq_aload_n_ok h0 kd_W_law_1339 rfl ?_
    refine wq_iload_ok h0 kd_W_law_1340 ?_
    refine wq_iconst_ok h0 kd_W_law_1342 (by decide +kernel) ?_
    refine wq_iadd_ok h0 kd_W_law_1343 ?_
    refine wq_sld_ok h0 hX hN9 hbl hbA hg kd_W_law_1344 ?_
    refine wq_call_ok hA (wq_runV (ci := 9) ⟨h0.1, h0.2, hml, hown, hts⟩ (kv_M_lot hl) ⟨(wq_cB hts kw_G kw_1400 kw_10 kw_1397 ⟨by decide +kernel, by decide +kernel, by decide +kernel⟩ rfl rfl ⟨Nat.le_of_ble_eq_true rfl, Nat.le_of_ble_eq_true rfl⟩), hts _ kw_1398, hts _ kw_1399⟩ rfl rfl hK hZ hN hA kd_W_law_1345) wq_x0_ok ?_
    refine wq_lstore_ok h0 kd_W_law_1348 (Nat.le_of_ble_eq_true rfl) ?_
    refine wq_goto_ok (tgt := 1421) h0 kd_W_law_1350 (by decide) ?_
    exact hb_1421
  have hb_1353 : wq_Snd p l e room_1 s m #[Value.ref b] below meth c 8 cs D kz_cl A Ag (lw_Z below #[Value.ref b] s) 1353 (kt_W_law_1353 N xs K) := by
    refine wq_aload_n_ok h0 kd_W_law_1353 rfl ?_
    refine wq_aload_n_ok h0 kd_W_law_1354 rfl ?_
    refine wq_iload_ok h0 kd_W_law_1355 ?_
    refine wq_iconst_ok h0 kd_W_law_1357 (by decide +kernel) ?_
    refine wq_iadd_ok h0 kd_W_law_1358 ?_
    refine wq_sld_ok h0 hX hN9 hbl hbA hg kd_W_law_1359 ?_
    refine wq_aload_n_ok h0 kd_W_law_1360 rfl ?_
    refine wq_iload_ok h0 kd_W_law_1361 ?_
    refine wq_iconst_ok h0 kd_W_law_1363 (by decide +kernel) ?_
    refine wq_iadd_ok h0 kd_W_law_1364 ?_
    refine wq_sld_ok h0 hX hN9 hbl hbA hg kd_W_law_1365 ?_
    refine wq_aload_n_ok h0 kd_W_law_1366 rfl ?_
    refine wq_call_ok hA (wq_runSH ⟨h0.1, h0.2, hml, hown, hts⟩ (kv_W_account hl) kw_G kw_960 kw_0 kw_958 kw_959 ⟨by decide +kernel, by decide +kernel, by decide +kernel⟩ rfl rfl ⟨Nat.le_of_ble_eq_true rfl, Nat.le_of_ble_eq_true rfl⟩ hK hZ hN hA kd_W_law_1367) wq_x0_ok ?_
    refine wq_istore_ok h0 kd_W_law_1370 (Nat.le_of_ble_eq_true rfl) ?_
    refine wq_aload_n_ok h0 kd_W_law_1372 rfl ?_
    refine wq_aload_n_ok h0 kd_W_law_1373 rfl ?_
    refine wq_iload_ok h0 kd_W_law_1374 ?_
    refine wq_iconst_ok h0 kd_W_law_1376 (by decide +kernel) ?_
    refine wq_iadd_ok h0 kd_W_law_1377 ?_
    refine wq_sld_ok h0 hX hN9 hbl hbA hg kd_W_law_1378 ?_
    refine wq_aload_n_ok h0 kd_W_law_1379 rfl ?_
    refine wq_iload_ok h0 kd_W_law_1380 ?_
    refine wq_iconst_ok h0 kd_W_law_1382 (by decide +kernel) ?_
    refine wq_iadd_ok h0 kd_W_law_1383 ?_
    refine wq_sld_ok h0 hX hN9 hbl hbA hg kd_W_law_1384 ?_
    refine wq_call_ok hA (wq_runV (ci := 9) ⟨h0.1, h0.2, hml, hown, hts⟩ (kv_M_account hl) ⟨(wq_cB hts kw_G kw_1404 kw_10 kw_1401 ⟨by decide +kernel, by decide +kernel, by decide +kernel⟩ rfl rfl ⟨Nat.le_of_ble_eq_true rfl, Nat.le_of_ble_eq_true rfl⟩), hts _ kw_1402, hts _ kw_1403⟩ rfl rfl hK hZ hN hA kd_W_law_1385) wq_x0_ok ?_
    refine wq_lstore_ok h0 kd_W_law_1388 (Nat.le_of_ble_eq_true rfl) ?_
    refine wq_goto_ok (tgt := 1421) h0 kd_W_law_1390 (by decide) ?_
    exact hb_1421
  have hb_1393 : wq_Snd p l e room_1 s m #[Value.ref b] below meth c 8 cs D kz_cl A Ag (lw_Z below #[Value.ref b] s) 1393 (kt_W_law_1393 N xs K) := by
    refine wq_aload_n_ok h0 kd_W_law_1393 rfl ?_
    refine wq_aload_n_ok h0 kd_W_law_1394 rfl ?_
    refine wq_iload_ok h0 kd_W_law_1395 ?_
    refine wq_iconst_ok h0 kd_W_law_1397 (by decide +kernel) ?_
    refine wq_iadd_ok h0 kd_W_law_1398 ?_
    refine wq_sld_ok h0 hX hN9 hbl hbA hg kd_W_law_1399 ?_
    refine wq_aload_n_ok h0 kd_W_law_1400 rfl ?_
    refine wq_call_ok hA (wq_runSH ⟨h0.1, h0.2, hml, hown, hts⟩ (kv_W_books hl) kw_G kw_971 kw_0 kw_969 kw_970 ⟨by decide +kernel, by decide +kernel, by decide +kernel⟩ rfl rfl ⟨Nat.le_of_ble_eq_true rfl, Nat.le_of_ble_eq_true rfl⟩ hK hZ hN hA kd_W_law_1401) wq_x0_ok ?_
    refine wq_istore_ok h0 kd_W_law_1404 (Nat.le_of_ble_eq_true rfl) ?_
    refine wq_aload_n_ok h0 kd_W_law_1406 rfl ?_
    refine wq_aload_n_ok h0 kd_W_law_1407 rfl ?_
    refine wq_iload_ok h0 kd_W_law_1408 ?_
    refine wq_iconst_ok h0 kd_W_law_1410 (by decide +kernel) ?_
    refine wq_iadd_ok h0 kd_W_law_1411 ?_
    refine wq_sld_ok h0 hX hN9 hbl hbA hg kd_W_law_1412 ?_
    refine wq_call_ok hA (wq_runV (ci := 9) ⟨h0.1, h0.2, hml, hown, hts⟩ (kv_M_books hl) ⟨(wq_cB hts kw_G kw_1412 kw_10 kw_1409 ⟨by decide +kernel, by decide +kernel, by decide +kernel⟩ rfl rfl ⟨Nat.le_of_ble_eq_true rfl, Nat.le_of_ble_eq_true rfl⟩), hts _ kw_1410, hts _ kw_1411⟩ rfl rfl hK hZ hN hA kd_W_law_1413) wq_x0_ok ?_
    refine wq_lstore_ok h0 kd_W_law_1416 (Nat.le_of_ble_eq_true rfl) ?_
    refine wq_goto_ok (tgt := 1421) h0 kd_W_law_1418 (by decide) ?_
    exact hb_1421
  have hb_23 : wq_Snd p l e room_1 s m #[Value.ref b] below meth c 8 cs D kz_cl A Ag (lw_Z below #[Value.ref b] s) 23 (kh_W_law_23 N xs K) := by
    refine wq_iload_ok h0 kd_W_law_23 ?_
    refine wq_aload_n_ok h0 kd_W_law_25 rfl ?_
    refine wq_slen_ok h0 hX hbl hbA hg kd_W_law_26 ?_
    refine wq_bipush_ok h0 kd_W_law_27 (by decide +kernel) ?_
    refine wq_isub_ok h0 kd_W_law_29 ?_
    refine wq_icmp_gt_ok (tgt := 1427) h0 kd_W_law_30 (by decide) ?_ ?_
    · exact hb_1427
    refine wq_aload_n_ok h0 kd_W_law_33 rfl ?_
    refine wq_iload_ok h0 kd_W_law_34 ?_
    refine wq_sld_ok h0 hX hN9 hbl hbA hg kd_W_law_36 ?_
    refine wq_bipush_ok h0 kd_W_law_37 (by decide +kernel) ?_
    refine wq_iand_ok h0 kd_W_law_39 ?_
    refine wq_sw_ok ?_ ?_
    · exact List.forall_mem_cons.mpr ⟨⟨152, (by exact hb_152), fun H locs n1 n2 ls rest hw => lv_tableIn (tgt := 152) (off := 112) h0.1 h0.2 kd_W_law_40 (show ¬ (nI 0).toInt < 0 by decide +kernel) (show ¬ 23 < (nI 0).toInt by decide +kernel) (show (#[112, 140, 204, 256, 284, 388, 440, 558, 586, 650, 687, 736, 776, 816, 936, 985, 1037, 1065, 1129, 1169, 1209, 1273, 1313, 1353] : Array Int)[((nI 0).toInt - 0).toNat]? = some 112 by decide +kernel) (by decide) hw⟩, List.forall_mem_cons.mpr ⟨⟨180, (by exact hb_180), fun H locs n1 n2 ls rest hw => lv_tableIn (tgt := 180) (off := 140) h0.1 h0.2 kd_W_law_40 (show ¬ (nI 1).toInt < 0 by decide +kernel) (show ¬ 23 < (nI 1).toInt by decide +kernel) (show (#[112, 140, 204, 256, 284, 388, 440, 558, 586, 650, 687, 736, 776, 816, 936, 985, 1037, 1065, 1129, 1169, 1209, 1273, 1313, 1353] : Array Int)[((nI 1).toInt - 0).toNat]? = some 140 by decide +kernel) (by decide) hw⟩, List.forall_mem_cons.mpr ⟨⟨244, (by exact hb_244), fun H locs n1 n2 ls rest hw => lv_tableIn (tgt := 244) (off := 204) h0.1 h0.2 kd_W_law_40 (show ¬ (nI 2).toInt < 0 by decide +kernel) (show ¬ 23 < (nI 2).toInt by decide +kernel) (show (#[112, 140, 204, 256, 284, 388, 440, 558, 586, 650, 687, 736, 776, 816, 936, 985, 1037, 1065, 1129, 1169, 1209, 1273, 1313, 1353] : Array Int)[((nI 2).toInt - 0).toNat]? = some 204 by decide +kernel) (by decide) hw⟩, List.forall_mem_cons.mpr ⟨⟨296, (by exact hb_296), fun H locs n1 n2 ls rest hw => lv_tableIn (tgt := 296) (off := 256) h0.1 h0.2 kd_W_law_40 (show ¬ (nI 3).toInt < 0 by decide +kernel) (show ¬ 23 < (nI 3).toInt by decide +kernel) (show (#[112, 140, 204, 256, 284, 388, 440, 558, 586, 650, 687, 736, 776, 816, 936, 985, 1037, 1065, 1129, 1169, 1209, 1273, 1313, 1353] : Array Int)[((nI 3).toInt - 0).toNat]? = some 256 by decide +kernel) (by decide) hw⟩, List.forall_mem_cons.mpr ⟨⟨324, (by exact hb_324), fun H locs n1 n2 ls rest hw => lv_tableIn (tgt := 324) (off := 284) h0.1 h0.2 kd_W_law_40 (show ¬ (nI 4).toInt < 0 by decide +kernel) (show ¬ 23 < (nI 4).toInt by decide +kernel) (show (#[112, 140, 204, 256, 284, 388, 440, 558, 586, 650, 687, 736, 776, 816, 936, 985, 1037, 1065, 1129, 1169, 1209, 1273, 1313, 1353] : Array Int)[((nI 4).toInt - 0).toNat]? = some 284 by decide +kernel) (by decide) hw⟩, List.forall_mem_cons.mpr ⟨⟨428, (by exact hb_428), fun H locs n1 n2 ls rest hw => lv_tableIn (tgt := 428) (off := 388) h0.1 h0.2 kd_W_law_40 (show ¬ (nI 5).toInt < 0 by decide +kernel) (show ¬ 23 < (nI 5).toInt by decide +kernel) (show (#[112, 140, 204, 256, 284, 388, 440, 558, 586, 650, 687, 736, 776, 816, 936, 985, 1037, 1065, 1129, 1169, 1209, 1273, 1313, 1353] : Array Int)[((nI 5).toInt - 0).toNat]? = some 388 by decide +kernel) (by decide) hw⟩, List.forall_mem_cons.mpr ⟨⟨480, (by exact hb_480), fun H locs n1 n2 ls rest hw => lv_tableIn (tgt := 480) (off := 440) h0.1 h0.2 kd_W_law_40 (show ¬ (nI 6).toInt < 0 by decide +kernel) (show ¬ 23 < (nI 6).toInt by decide +kernel) (show (#[112, 140, 204, 256, 284, 388, 440, 558, 586, 650, 687, 736, 776, 816, 936, 985, 1037, 1065, 1129, 1169, 1209, 1273, 1313, 1353] : Array Int)[((nI 6).toInt - 0).toNat]? = some 440 by decide +kernel) (by decide) hw⟩, List.forall_mem_cons.mpr ⟨⟨598, (by exact hb_598), fun H locs n1 n2 ls rest hw => lv_tableIn (tgt := 598) (off := 558) h0.1 h0.2 kd_W_law_40 (show ¬ (nI 7).toInt < 0 by decide +kernel) (show ¬ 23 < (nI 7).toInt by decide +kernel) (show (#[112, 140, 204, 256, 284, 388, 440, 558, 586, 650, 687, 736, 776, 816, 936, 985, 1037, 1065, 1129, 1169, 1209, 1273, 1313, 1353] : Array Int)[((nI 7).toInt - 0).toNat]? = some 558 by decide +kernel) (by decide) hw⟩, List.forall_mem_cons.mpr ⟨⟨626, (by exact hb_626), fun H locs n1 n2 ls rest hw => lv_tableIn (tgt := 626) (off := 586) h0.1 h0.2 kd_W_law_40 (show ¬ (nI 8).toInt < 0 by decide +kernel) (show ¬ 23 < (nI 8).toInt by decide +kernel) (show (#[112, 140, 204, 256, 284, 388, 440, 558, 586, 650, 687, 736, 776, 816, 936, 985, 1037, 1065, 1129, 1169, 1209, 1273, 1313, 1353] : Array Int)[((nI 8).toInt - 0).toNat]? = some 586 by decide +kernel) (by decide) hw⟩, List.forall_mem_cons.mpr ⟨⟨690, (by exact hb_690), fun H locs n1 n2 ls rest hw => lv_tableIn (tgt := 690) (off := 650) h0.1 h0.2 kd_W_law_40 (show ¬ (nI 9).toInt < 0 by decide +kernel) (show ¬ 23 < (nI 9).toInt by decide +kernel) (show (#[112, 140, 204, 256, 284, 388, 440, 558, 586, 650, 687, 736, 776, 816, 936, 985, 1037, 1065, 1129, 1169, 1209, 1273, 1313, 1353] : Array Int)[((nI 9).toInt - 0).toNat]? = some 650 by decide +kernel) (by decide) hw⟩, List.forall_mem_cons.mpr ⟨⟨727, (by exact hb_727), fun H locs n1 n2 ls rest hw => lv_tableIn (tgt := 727) (off := 687) h0.1 h0.2 kd_W_law_40 (show ¬ (nI 10).toInt < 0 by decide +kernel) (show ¬ 23 < (nI 10).toInt by decide +kernel) (show (#[112, 140, 204, 256, 284, 388, 440, 558, 586, 650, 687, 736, 776, 816, 936, 985, 1037, 1065, 1129, 1169, 1209, 1273, 1313, 1353] : Array Int)[((nI 10).toInt - 0).toNat]? = some 687 by decide +kernel) (by decide) hw⟩, List.forall_mem_cons.mpr ⟨⟨776, (by exact hb_776), fun H locs n1 n2 ls rest hw => lv_tableIn (tgt := 776) (off := 736) h0.1 h0.2 kd_W_law_40 (show ¬ (nI 11).toInt < 0 by decide +kernel) (show ¬ 23 < (nI 11).toInt by decide +kernel) (show (#[112, 140, 204, 256, 284, 388, 440, 558, 586, 650, 687, 736, 776, 816, 936, 985, 1037, 1065, 1129, 1169, 1209, 1273, 1313, 1353] : Array Int)[((nI 11).toInt - 0).toNat]? = some 736 by decide +kernel) (by decide) hw⟩, List.forall_mem_cons.mpr ⟨⟨816, (by exact hb_816), fun H locs n1 n2 ls rest hw => lv_tableIn (tgt := 816) (off := 776) h0.1 h0.2 kd_W_law_40 (show ¬ (nI 12).toInt < 0 by decide +kernel) (show ¬ 23 < (nI 12).toInt by decide +kernel) (show (#[112, 140, 204, 256, 284, 388, 440, 558, 586, 650, 687, 736, 776, 816, 936, 985, 1037, 1065, 1129, 1169, 1209, 1273, 1313, 1353] : Array Int)[((nI 12).toInt - 0).toNat]? = some 776 by decide +kernel) (by decide) hw⟩, List.forall_mem_cons.mpr ⟨⟨856, (by exact hb_856), fun H locs n1 n2 ls rest hw => lv_tableIn (tgt := 856) (off := 816) h0.1 h0.2 kd_W_law_40 (show ¬ (nI 13).toInt < 0 by decide +kernel) (show ¬ 23 < (nI 13).toInt by decide +kernel) (show (#[112, 140, 204, 256, 284, 388, 440, 558, 586, 650, 687, 736, 776, 816, 936, 985, 1037, 1065, 1129, 1169, 1209, 1273, 1313, 1353] : Array Int)[((nI 13).toInt - 0).toNat]? = some 816 by decide +kernel) (by decide) hw⟩, List.forall_mem_cons.mpr ⟨⟨976, (by exact hb_976), fun H locs n1 n2 ls rest hw => lv_tableIn (tgt := 976) (off := 936) h0.1 h0.2 kd_W_law_40 (show ¬ (nI 14).toInt < 0 by decide +kernel) (show ¬ 23 < (nI 14).toInt by decide +kernel) (show (#[112, 140, 204, 256, 284, 388, 440, 558, 586, 650, 687, 736, 776, 816, 936, 985, 1037, 1065, 1129, 1169, 1209, 1273, 1313, 1353] : Array Int)[((nI 14).toInt - 0).toNat]? = some 936 by decide +kernel) (by decide) hw⟩, List.forall_mem_cons.mpr ⟨⟨1025, (by exact hb_1025), fun H locs n1 n2 ls rest hw => lv_tableIn (tgt := 1025) (off := 985) h0.1 h0.2 kd_W_law_40 (show ¬ (nI 15).toInt < 0 by decide +kernel) (show ¬ 23 < (nI 15).toInt by decide +kernel) (show (#[112, 140, 204, 256, 284, 388, 440, 558, 586, 650, 687, 736, 776, 816, 936, 985, 1037, 1065, 1129, 1169, 1209, 1273, 1313, 1353] : Array Int)[((nI 15).toInt - 0).toNat]? = some 985 by decide +kernel) (by decide) hw⟩, List.forall_mem_cons.mpr ⟨⟨1077, (by exact hb_1077), fun H locs n1 n2 ls rest hw => lv_tableIn (tgt := 1077) (off := 1037) h0.1 h0.2 kd_W_law_40 (show ¬ (nI 16).toInt < 0 by decide +kernel) (show ¬ 23 < (nI 16).toInt by decide +kernel) (show (#[112, 140, 204, 256, 284, 388, 440, 558, 586, 650, 687, 736, 776, 816, 936, 985, 1037, 1065, 1129, 1169, 1209, 1273, 1313, 1353] : Array Int)[((nI 16).toInt - 0).toNat]? = some 1037 by decide +kernel) (by decide) hw⟩, List.forall_mem_cons.mpr ⟨⟨1105, (by exact hb_1105), fun H locs n1 n2 ls rest hw => lv_tableIn (tgt := 1105) (off := 1065) h0.1 h0.2 kd_W_law_40 (show ¬ (nI 17).toInt < 0 by decide +kernel) (show ¬ 23 < (nI 17).toInt by decide +kernel) (show (#[112, 140, 204, 256, 284, 388, 440, 558, 586, 650, 687, 736, 776, 816, 936, 985, 1037, 1065, 1129, 1169, 1209, 1273, 1313, 1353] : Array Int)[((nI 17).toInt - 0).toNat]? = some 1065 by decide +kernel) (by decide) hw⟩, List.forall_mem_cons.mpr ⟨⟨1169, (by exact hb_1169), fun H locs n1 n2 ls rest hw => lv_tableIn (tgt := 1169) (off := 1129) h0.1 h0.2 kd_W_law_40 (show ¬ (nI 18).toInt < 0 by decide +kernel) (show ¬ 23 < (nI 18).toInt by decide +kernel) (show (#[112, 140, 204, 256, 284, 388, 440, 558, 586, 650, 687, 736, 776, 816, 936, 985, 1037, 1065, 1129, 1169, 1209, 1273, 1313, 1353] : Array Int)[((nI 18).toInt - 0).toNat]? = some 1129 by decide +kernel) (by decide) hw⟩, List.forall_mem_cons.mpr ⟨⟨1209, (by exact hb_1209), fun H locs n1 n2 ls rest hw => lv_tableIn (tgt := 1209) (off := 1169) h0.1 h0.2 kd_W_law_40 (show ¬ (nI 19).toInt < 0 by decide +kernel) (show ¬ 23 < (nI 19).toInt by decide +kernel) (show (#[112, 140, 204, 256, 284, 388, 440, 558, 586, 650, 687, 736, 776, 816, 936, 985, 1037, 1065, 1129, 1169, 1209, 1273, 1313, 1353] : Array Int)[((nI 19).toInt - 0).toNat]? = some 1169 by decide +kernel) (by decide) hw⟩, List.forall_mem_cons.mpr ⟨⟨1249, (by exact hb_1249), fun H locs n1 n2 ls rest hw => lv_tableIn (tgt := 1249) (off := 1209) h0.1 h0.2 kd_W_law_40 (show ¬ (nI 20).toInt < 0 by decide +kernel) (show ¬ 23 < (nI 20).toInt by decide +kernel) (show (#[112, 140, 204, 256, 284, 388, 440, 558, 586, 650, 687, 736, 776, 816, 936, 985, 1037, 1065, 1129, 1169, 1209, 1273, 1313, 1353] : Array Int)[((nI 20).toInt - 0).toNat]? = some 1209 by decide +kernel) (by decide) hw⟩, List.forall_mem_cons.mpr ⟨⟨1313, (by exact hb_1313), fun H locs n1 n2 ls rest hw => lv_tableIn (tgt := 1313) (off := 1273) h0.1 h0.2 kd_W_law_40 (show ¬ (nI 21).toInt < 0 by decide +kernel) (show ¬ 23 < (nI 21).toInt by decide +kernel) (show (#[112, 140, 204, 256, 284, 388, 440, 558, 586, 650, 687, 736, 776, 816, 936, 985, 1037, 1065, 1129, 1169, 1209, 1273, 1313, 1353] : Array Int)[((nI 21).toInt - 0).toNat]? = some 1273 by decide +kernel) (by decide) hw⟩, List.forall_mem_cons.mpr ⟨⟨1353, (by exact hb_1353), fun H locs n1 n2 ls rest hw => lv_tableIn (tgt := 1353) (off := 1313) h0.1 h0.2 kd_W_law_40 (show ¬ (nI 22).toInt < 0 by decide +kernel) (show ¬ 23 < (nI 22).toInt by decide +kernel) (show (#[112, 140, 204, 256, 284, 388, 440, 558, 586, 650, 687, 736, 776, 816, 936, 985, 1037, 1065, 1129, 1169, 1209, 1273, 1313, 1353] : Array Int)[((nI 22).toInt - 0).toNat]? = some 1313 by decide +kernel) (by decide) hw⟩, List.forall_mem_cons.mpr ⟨⟨1393, (by exact hb_1393), fun H locs n1 n2 ls rest hw => lv_tableIn (tgt := 1393) (off := 1353) h0.1 h0.2 kd_W_law_40 (show ¬ (nI 23).toInt < 0 by decide +kernel) (show ¬ 23 < (nI 23).toInt by decide +kernel) (show (#[112, 140, 204, 256, 284, 388, 440, 558, 586, 650, 687, 736, 776, 816, 936, 985, 1037, 1065, 1129, 1169, 1209, 1273, 1313, 1353] : Array Int)[((nI 23).toInt - 0).toNat]? = some 1353 by decide +kernel) (by decide) hw⟩, fun _ h => absurd h List.not_mem_nil⟩⟩⟩⟩⟩⟩⟩⟩⟩⟩⟩⟩⟩⟩⟩⟩⟩⟩⟩⟩⟩⟩⟩⟩
    · exact ⟨1421, (by exact hb_1421), fun H locs n1 n2 ls rest x hq hw => lv_tableOut (tgt := 1421) h0.1 h0.2 kd_W_law_40 (wq_tabO 0 23 (by decide) (fun k h1 h2 => by rcases (show k = 0 ∨ k = 1 ∨ k = 2 ∨ k = 3 ∨ k = 4 ∨ k = 5 ∨ k = 6 ∨ k = 7 ∨ k = 8 ∨ k = 9 ∨ k = 10 ∨ k = 11 ∨ k = 12 ∨ k = 13 ∨ k = 14 ∨ k = 15 ∨ k = 16 ∨ k = 17 ∨ k = 18 ∨ k = 19 ∨ k = 20 ∨ k = 21 ∨ k = 22 ∨ k = 23 by omega) with rfl | rfl | rfl | rfl | rfl | rfl | rfl | rfl | rfl | rfl | rfl | rfl | rfl | rfl | rfl | rfl | rfl | rfl | rfl | rfl | rfl | rfl | rfl | rfl <;> first | exact hq _ List.mem_cons_self | exact hq _ (List.mem_cons_of_mem _ List.mem_cons_self) | exact hq _ (List.mem_cons_of_mem _ (List.mem_cons_of_mem _ List.mem_cons_self)) | exact hq _ (List.mem_cons_of_mem _ (List.mem_cons_of_mem _ (List.mem_cons_of_mem _ List.mem_cons_self))) | exact hq _ (List.mem_cons_of_mem _ (List.mem_cons_of_mem _ (List.mem_cons_of_mem _ (List.mem_cons_of_mem _ List.mem_cons_self)))) | exact hq _ (List.mem_cons_of_mem _ (List.mem_cons_of_mem _ (List.mem_cons_of_mem _ (List.mem_cons_of_mem _ (List.mem_cons_of_mem _ List.mem_cons_self))))) | exact hq _ (List.mem_cons_of_mem _ (List.mem_cons_of_mem _ (List.mem_cons_of_mem _ (List.mem_cons_of_mem _ (List.mem_cons_of_mem _ (List.mem_cons_of_mem _ List.mem_cons_self)))))) | exact hq _ (List.mem_cons_of_mem _ (List.mem_cons_of_mem _ (List.mem_cons_of_mem _ (List.mem_cons_of_mem _ (List.mem_cons_of_mem _ (List.mem_cons_of_mem _ (List.mem_cons_of_mem _ List.mem_cons_self))))))) | exact hq _ (List.mem_cons_of_mem _ (List.mem_cons_of_mem _ (List.mem_cons_of_mem _ (List.mem_cons_of_mem _ (List.mem_cons_of_mem _ (List.mem_cons_of_mem _ (List.mem_cons_of_mem _ (List.mem_cons_of_mem _ List.mem_cons_self)))))))) | exact hq _ (List.mem_cons_of_mem _ (List.mem_cons_of_mem _ (List.mem_cons_of_mem _ (List.mem_cons_of_mem _ (List.mem_cons_of_mem _ (List.mem_cons_of_mem _ (List.mem_cons_of_mem _ (List.mem_cons_of_mem _ (List.mem_cons_of_mem _ List.mem_cons_self))))))))) | exact hq _ (List.mem_cons_of_mem _ (List.mem_cons_of_mem _ (List.mem_cons_of_mem _ (List.mem_cons_of_mem _ (List.mem_cons_of_mem _ (List.mem_cons_of_mem _ (List.mem_cons_of_mem _ (List.mem_cons_of_mem _ (List.mem_cons_of_mem _ (List.mem_cons_of_mem _ List.mem_cons_self)))))))))) | exact hq _ (List.mem_cons_of_mem _ (List.mem_cons_of_mem _ (List.mem_cons_of_mem _ (List.mem_cons_of_mem _ (List.mem_cons_of_mem _ (List.mem_cons_of_mem _ (List.mem_cons_of_mem _ (List.mem_cons_of_mem _ (List.mem_cons_of_mem _ (List.mem_cons_of_mem _ (List.mem_cons_of_mem _ List.mem_cons_self))))))))))) | exact hq _ (List.mem_cons_of_mem _ (List.mem_cons_of_mem _ (List.mem_cons_of_mem _ (List.mem_cons_of_mem _ (List.mem_cons_of_mem _ (List.mem_cons_of_mem _ (List.mem_cons_of_mem _ (List.mem_cons_of_mem _ (List.mem_cons_of_mem _ (List.mem_cons_of_mem _ (List.mem_cons_of_mem _ (List.mem_cons_of_mem _ List.mem_cons_self)))))))))))) | exact hq _ (List.mem_cons_of_mem _ (List.mem_cons_of_mem _ (List.mem_cons_of_mem _ (List.mem_cons_of_mem _ (List.mem_cons_of_mem _ (List.mem_cons_of_mem _ (List.mem_cons_of_mem _ (List.mem_cons_of_mem _ (List.mem_cons_of_mem _ (List.mem_cons_of_mem _ (List.mem_cons_of_mem _ (List.mem_cons_of_mem _ (List.mem_cons_of_mem _ List.mem_cons_self))))))))))))) | exact hq _ (List.mem_cons_of_mem _ (List.mem_cons_of_mem _ (List.mem_cons_of_mem _ (List.mem_cons_of_mem _ (List.mem_cons_of_mem _ (List.mem_cons_of_mem _ (List.mem_cons_of_mem _ (List.mem_cons_of_mem _ (List.mem_cons_of_mem _ (List.mem_cons_of_mem _ (List.mem_cons_of_mem _ (List.mem_cons_of_mem _ (List.mem_cons_of_mem _ (List.mem_cons_of_mem _ List.mem_cons_self)))))))))))))) | exact hq _ (List.mem_cons_of_mem _ (List.mem_cons_of_mem _ (List.mem_cons_of_mem _ (List.mem_cons_of_mem _ (List.mem_cons_of_mem _ (List.mem_cons_of_mem _ (List.mem_cons_of_mem _ (List.mem_cons_of_mem _ (List.mem_cons_of_mem _ (List.mem_cons_of_mem _ (List.mem_cons_of_mem _ (List.mem_cons_of_mem _ (List.mem_cons_of_mem _ (List.mem_cons_of_mem _ (List.mem_cons_of_mem _ List.mem_cons_self))))))))))))))) | exact hq _ (List.mem_cons_of_mem _ (List.mem_cons_of_mem _ (List.mem_cons_of_mem _ (List.mem_cons_of_mem _ (List.mem_cons_of_mem _ (List.mem_cons_of_mem _ (List.mem_cons_of_mem _ (List.mem_cons_of_mem _ (List.mem_cons_of_mem _ (List.mem_cons_of_mem _ (List.mem_cons_of_mem _ (List.mem_cons_of_mem _ (List.mem_cons_of_mem _ (List.mem_cons_of_mem _ (List.mem_cons_of_mem _ (List.mem_cons_of_mem _ List.mem_cons_self)))))))))))))))) | exact hq _ (List.mem_cons_of_mem _ (List.mem_cons_of_mem _ (List.mem_cons_of_mem _ (List.mem_cons_of_mem _ (List.mem_cons_of_mem _ (List.mem_cons_of_mem _ (List.mem_cons_of_mem _ (List.mem_cons_of_mem _ (List.mem_cons_of_mem _ (List.mem_cons_of_mem _ (List.mem_cons_of_mem _ (List.mem_cons_of_mem _ (List.mem_cons_of_mem _ (List.mem_cons_of_mem _ (List.mem_cons_of_mem _ (List.mem_cons_of_mem _ (List.mem_cons_of_mem _ List.mem_cons_self))))))))))))))))) | exact hq _ (List.mem_cons_of_mem _ (List.mem_cons_of_mem _ (List.mem_cons_of_mem _ (List.mem_cons_of_mem _ (List.mem_cons_of_mem _ (List.mem_cons_of_mem _ (List.mem_cons_of_mem _ (List.mem_cons_of_mem _ (List.mem_cons_of_mem _ (List.mem_cons_of_mem _ (List.mem_cons_of_mem _ (List.mem_cons_of_mem _ (List.mem_cons_of_mem _ (List.mem_cons_of_mem _ (List.mem_cons_of_mem _ (List.mem_cons_of_mem _ (List.mem_cons_of_mem _ (List.mem_cons_of_mem _ List.mem_cons_self)))))))))))))))))) | exact hq _ (List.mem_cons_of_mem _ (List.mem_cons_of_mem _ (List.mem_cons_of_mem _ (List.mem_cons_of_mem _ (List.mem_cons_of_mem _ (List.mem_cons_of_mem _ (List.mem_cons_of_mem _ (List.mem_cons_of_mem _ (List.mem_cons_of_mem _ (List.mem_cons_of_mem _ (List.mem_cons_of_mem _ (List.mem_cons_of_mem _ (List.mem_cons_of_mem _ (List.mem_cons_of_mem _ (List.mem_cons_of_mem _ (List.mem_cons_of_mem _ (List.mem_cons_of_mem _ (List.mem_cons_of_mem _ (List.mem_cons_of_mem _ List.mem_cons_self))))))))))))))))))) | exact hq _ (List.mem_cons_of_mem _ (List.mem_cons_of_mem _ (List.mem_cons_of_mem _ (List.mem_cons_of_mem _ (List.mem_cons_of_mem _ (List.mem_cons_of_mem _ (List.mem_cons_of_mem _ (List.mem_cons_of_mem _ (List.mem_cons_of_mem _ (List.mem_cons_of_mem _ (List.mem_cons_of_mem _ (List.mem_cons_of_mem _ (List.mem_cons_of_mem _ (List.mem_cons_of_mem _ (List.mem_cons_of_mem _ (List.mem_cons_of_mem _ (List.mem_cons_of_mem _ (List.mem_cons_of_mem _ (List.mem_cons_of_mem _ (List.mem_cons_of_mem _ List.mem_cons_self)))))))))))))))))))) | exact hq _ (List.mem_cons_of_mem _ (List.mem_cons_of_mem _ (List.mem_cons_of_mem _ (List.mem_cons_of_mem _ (List.mem_cons_of_mem _ (List.mem_cons_of_mem _ (List.mem_cons_of_mem _ (List.mem_cons_of_mem _ (List.mem_cons_of_mem _ (List.mem_cons_of_mem _ (List.mem_cons_of_mem _ (List.mem_cons_of_mem _ (List.mem_cons_of_mem _ (List.mem_cons_of_mem _ (List.mem_cons_of_mem _ (List.mem_cons_of_mem _ (List.mem_cons_of_mem _ (List.mem_cons_of_mem _ (List.mem_cons_of_mem _ (List.mem_cons_of_mem _ (List.mem_cons_of_mem _ List.mem_cons_self))))))))))))))))))))) | exact hq _ (List.mem_cons_of_mem _ (List.mem_cons_of_mem _ (List.mem_cons_of_mem _ (List.mem_cons_of_mem _ (List.mem_cons_of_mem _ (List.mem_cons_of_mem _ (List.mem_cons_of_mem _ (List.mem_cons_of_mem _ (List.mem_cons_of_mem _ (List.mem_cons_of_mem _ (List.mem_cons_of_mem _ (List.mem_cons_of_mem _ (List.mem_cons_of_mem _ (List.mem_cons_of_mem _ (List.mem_cons_of_mem _ (List.mem_cons_of_mem _ (List.mem_cons_of_mem _ (List.mem_cons_of_mem _ (List.mem_cons_of_mem _ (List.mem_cons_of_mem _ (List.mem_cons_of_mem _ (List.mem_cons_of_mem _ List.mem_cons_self)))))))))))))))))))))) | exact hq _ (List.mem_cons_of_mem _ (List.mem_cons_of_mem _ (List.mem_cons_of_mem _ (List.mem_cons_of_mem _ (List.mem_cons_of_mem _ (List.mem_cons_of_mem _ (List.mem_cons_of_mem _ (List.mem_cons_of_mem _ (List.mem_cons_of_mem _ (List.mem_cons_of_mem _ (List.mem_cons_of_mem _ (List.mem_cons_of_mem _ (List.mem_cons_of_mem _ (List.mem_cons_of_mem _ (List.mem_cons_of_mem _ (List.mem_cons_of_mem _ (List.mem_cons_of_mem _ (List.mem_cons_of_mem _ (List.mem_cons_of_mem _ (List.mem_cons_of_mem _ (List.mem_cons_of_mem _ (List.mem_cons_of_mem _ (List.mem_cons_of_mem _ List.mem_cons_self))))))))))))))))))))))))) (by decide) hw⟩
  have hb_0 : wq_Snd p l e room_1 s m #[Value.ref b] below meth c 8 cs D kz_cl A Ag (lw_Z below #[Value.ref b] s) 0 (kt_W_law_0 N xs K) := by
    refine wq_new_ok h0 hK hA hAg hts ki_B ka_B kb_B hown (hts _ kw_21) (hts _ kw_22) (hts _ kw_1) (ci := 0) rfl (fun ad j hj => kf_B ad j hj) kd_W_law_0 ?_
    refine wq_dup_ok h0 kd_W_law_3 ?_
    refine wq_callA_ok hA hAg (wq_runI ⟨h0.1, h0.2, hml, hown, hts⟩ (kv_B_init hl) ⟨(wq_cB hts kw_G kw_25 kw_1 kw_23 ⟨by decide +kernel, by decide +kernel, by decide +kernel⟩ rfl rfl ⟨Nat.le_of_ble_eq_true rfl, Nat.le_of_ble_eq_true rfl⟩), rfl, hts _ kw_24⟩ hK hZ hN hA kd_W_law_4) ?_
    refine wq_astore_n_ok h0 kd_W_law_7 rfl (Nat.le_of_ble_eq_true rfl) ?_
    refine wq_new_ok h0 hK hA hAg hts ki_M ka_M kb_M hown (hts _ kw_976) (hts _ kw_977) (hts _ kw_10) (ci := 9) rfl (fun ad j hj => kf_M ad j hj) kd_W_law_8 ?_
    refine wq_dup_ok h0 kd_W_law_11 ?_
    refine wq_callA_ok hA hAg (wq_runI ⟨h0.1, h0.2, hml, hown, hts⟩ (kv_M_init hl) ⟨(wq_cB hts kw_G kw_980 kw_10 kw_978 ⟨by decide +kernel, by decide +kernel, by decide +kernel⟩ rfl rfl ⟨Nat.le_of_ble_eq_true rfl, Nat.le_of_ble_eq_true rfl⟩), rfl, hts _ kw_979⟩ hK hZ hN hA kd_W_law_12) ?_
    refine wq_astore_n_ok h0 kd_W_law_15 rfl (Nat.le_of_ble_eq_true rfl) ?_
    refine wq_iconst_ok h0 kd_W_law_16 (by decide +kernel) ?_
    refine wq_newa_ok (atype := .long) h0 hK hA hAg (hts _ kw_265) rfl (Or.inr (Or.inl ⟨rfl, rfl⟩)) kd_W_law_17 ?_
    refine wq_astore_n_ok h0 kd_W_law_19 rfl (Nat.le_of_ble_eq_true rfl) ?_
    refine wq_iconst_ok h0 kd_W_law_20 (by decide +kernel) ?_
    refine wq_istore_ok h0 kd_W_law_21 (Nat.le_of_ble_eq_true rfl) ?_
    exact wq_can_ok (hKc 23 (by decide))
  exact ⟨hb_23, hb_0⟩
end KLAW
