-- ===== the law: its cases =====
abbrev mL (nm : String) : Mt := (⟨"FireApologiesLaw", nm, "([I)Z"⟩, code, 4, ret)
/-- the law's end -/
abbrev LQ : Qt := fun r _ _ _ => r = some (.int 1)
theorem ax_up {X : Option (Nat × (Nat → Int32))} {M : Mt} {d mc ms cu su cu' su' pc : Nat} {lv : Lv} {st : List Value} {Z : Zt} {G : Gt} {L : Lt} {Q : Qt} (h1 : cu ≤ cu') (h2 : su ≤ su') (k : AX X M d mc ms cu' su' pc lv st Z G L Q) : AX X M d mc ms cu su pc lv st Z G L Q := by
  intro p l e R s m args below meth c H locs ls dC dI tc ad A N0 ad0 Qr hC hW hl hs hv hg hn hr
  exact W.widen h1 h2 (k p l e R s m args below meth c H locs ls dC dI tc ad A N0 ad0 Qr hC hW hl hs hv hg hn hr)
theorem law_0 {nm : String} {len : Nat} {xs : Nat → Int32} {i cu su : Nat} {Z : Zt} {G : Gt} {L : Lt} {W : Wv} {H : Hv} {I : Option (Wv × Hv)} {T : Nat × (Nat → Nat)} {R : Nat × (Nat → Int32)} {P : Pt9} {n : Nat} (hI : IC Z G L W H I T R P n) (hM : IM G L W H I T R P n) (hin1 : vp_in (nI i + 1) len) (hin2 : vp_in (nI i + 2) len) (hin3 : vp_in (nI i + 3) len) (hin4 : vp_in (nI i + 4) len) (hin5 : vp_in (nI i + 5) len) (hcu : cu + 2 ≤ 600000) (hsu : su + 302 ≤ 7302250) (key : ∀ (Z : Zt) (G : Gt) (L : Lt) (W : Wv) (H : Hv) (I : Option (Wv × Hv)) (T : Nat × (Nat → Nat)) (R : Nat × (Nat → Int32)) (P : Pt9) (n : Nat), IC Z G L W H I T R P n → IM G L W H I T R P n → AX (some (len, xs)) (mL nm) 30 600000 7302250 (cu + 2) (su + 302) 1232 [(0, .ref 3000), (1, .ref 0), (2, .ref 75), (3, .int (nI i))] [] Z G L LQ) : AX (some (len, xs)) (mL nm) 30 600000 7302250 cu su 180 [(0, .ref 3000), (1, .ref 0), (2, .ref 75), (3, .int (nI i))] [] Z G L LQ := by
  refine ax_aload_n (i := 1) dL_law_180 rfl rfl ?_
  refine ax_aload_n (i := 0) dL_law_181 rfl rfl ?_
  refine ax_iload_n (i := 3) dL_law_182 rfl rfl ?_
  refine ax_iconst (v := 1) dL_law_183 (by decide) ?_
  refine ax_iadd dL_law_184 ?_
  refine ax_sld rfl dL_law_185 hin1 ?_
  refine ax_aload_n (i := 0) dL_law_186 rfl rfl ?_
  refine ax_iload_n (i := 3) dL_law_187 rfl rfl ?_
  refine ax_iconst (v := 2) dL_law_188 (by decide) ?_
  refine ax_iadd dL_law_189 ?_
  refine ax_sld rfl dL_law_190 hin2 ?_
  refine ax_aload_n (i := 0) dL_law_191 rfl rfl ?_
  refine ax_iload_n (i := 3) dL_law_192 rfl rfl ?_
  refine ax_iconst (v := 3) dL_law_193 (by decide) ?_
  refine ax_iadd dL_law_194 ?_
  refine ax_sld rfl dL_law_195 hin3 ?_
  refine ax_aload_n (i := 0) dL_law_196 rfl rfl ?_
  refine ax_iload_n (i := 3) dL_law_197 rfl rfl ?_
  refine ax_iconst (v := 4) dL_law_198 (by decide) ?_
  refine ax_iadd dL_law_199 ?_
  refine ax_sld rfl dL_law_200 hin4 ?_
  refine ax_cVq dL_law_201 lk_L_13 (x_rocket hI _ _ _ _) rfl (OKs hI.1 rfl) ⟨_, rfl, rfl⟩ rfl (Nat.le_of_ble_eq_true rfl) (Nat.le_of_ble_eq_true rfl) (by omega) (by omega) ?_
  rintro Z1 G1 L1 ⟨hI1, f1⟩
  have hM1 := IM_fC hM f1
  refine ax_aload_n (i := 2) dL_law_204 rfl rfl ?_
  refine ax_aload_n (i := 0) dL_law_205 rfl rfl ?_
  refine ax_iload_n (i := 3) dL_law_206 rfl rfl ?_
  refine ax_iconst (v := 1) dL_law_207 (by decide) ?_
  refine ax_iadd dL_law_208 ?_
  refine ax_sld rfl dL_law_209 hin1 ?_
  refine ax_aload_n (i := 0) dL_law_210 rfl rfl ?_
  refine ax_iload_n (i := 3) dL_law_211 rfl rfl ?_
  refine ax_iconst (v := 2) dL_law_212 (by decide) ?_
  refine ax_iadd dL_law_213 ?_
  refine ax_sld rfl dL_law_214 hin2 ?_
  refine ax_aload_n (i := 0) dL_law_215 rfl rfl ?_
  refine ax_iload_n (i := 3) dL_law_216 rfl rfl ?_
  refine ax_iconst (v := 3) dL_law_217 (by decide) ?_
  refine ax_iadd dL_law_218 ?_
  refine ax_sld rfl dL_law_219 hin3 ?_
  refine ax_aload_n (i := 0) dL_law_220 rfl rfl ?_
  refine ax_iload_n (i := 3) dL_law_221 rfl rfl ?_
  refine ax_iconst (v := 4) dL_law_222 (by decide) ?_
  refine ax_iadd dL_law_223 ?_
  refine ax_sld rfl dL_law_224 hin4 ?_
  refine ax_cVq dL_law_225 lk_L_17 (y_rocket hI1.1 (IC_ok hI) hM1 _ _ _ _) rfl (OKs hI1.1 rfl) ⟨_, rfl, rfl⟩ rfl (Nat.le_of_ble_eq_true rfl) (Nat.le_of_ble_eq_true rfl) (by omega) (by omega) ?_
  rintro Z2 G2 L2 ⟨hz2, hM2, f2⟩
  subst Z2
  have hI2 := IC_fM hI1 f2
  refine ax_icmp_eq (tgt := 1232) dL_law_228 (by decide) (fun _ => ?_) (fun c => absurd rfl c)
  exact ax_up (Nat.le_add_right _ _) (Nat.le_add_right _ _) (key _ _ _ _ _ _ _ _ _ _ hI2 hM2)
theorem law_1 {nm : String} {len : Nat} {xs : Nat → Int32} {i cu su : Nat} {Z : Zt} {G : Gt} {L : Lt} {W : Wv} {H : Hv} {I : Option (Wv × Hv)} {T : Nat × (Nat → Nat)} {R : Nat × (Nat → Int32)} {P : Pt9} {n : Nat} (hI : IC Z G L W H I T R P n) (hM : IM G L W H I T R P n) (hin1 : vp_in (nI i + 1) len) (hin2 : vp_in (nI i + 2) len) (hin3 : vp_in (nI i + 3) len) (hin4 : vp_in (nI i + 4) len) (hin5 : vp_in (nI i + 5) len) (hcu : cu + 2 ≤ 600000) (hsu : su + 302 ≤ 7302250) (key : ∀ (Z : Zt) (G : Gt) (L : Lt) (W : Wv) (H : Hv) (I : Option (Wv × Hv)) (T : Nat × (Nat → Nat)) (R : Nat × (Nat → Int32)) (P : Pt9) (n : Nat), IC Z G L W H I T R P n → IM G L W H I T R P n → AX (some (len, xs)) (mL nm) 30 600000 7302250 (cu + 2) (su + 302) 1232 [(0, .ref 3000), (1, .ref 0), (2, .ref 75), (3, .int (nI i))] [] Z G L LQ) : AX (some (len, xs)) (mL nm) 30 600000 7302250 cu su 233 [(0, .ref 3000), (1, .ref 0), (2, .ref 75), (3, .int (nI i))] [] Z G L LQ := by
  refine ax_aload_n (i := 1) dL_law_233 rfl rfl ?_
  refine ax_aload_n (i := 0) dL_law_234 rfl rfl ?_
  refine ax_iload_n (i := 3) dL_law_235 rfl rfl ?_
  refine ax_iconst (v := 1) dL_law_236 (by decide) ?_
  refine ax_iadd dL_law_237 ?_
  refine ax_sld rfl dL_law_238 hin1 ?_
  refine ax_aload_n (i := 0) dL_law_239 rfl rfl ?_
  refine ax_iload_n (i := 3) dL_law_240 rfl rfl ?_
  refine ax_iconst (v := 2) dL_law_241 (by decide) ?_
  refine ax_iadd dL_law_242 ?_
  refine ax_sld rfl dL_law_243 hin2 ?_
  refine ax_cVq dL_law_244 lk_L_18 (x_of hI _ _) rfl (OKs hI.1 rfl) ⟨_, rfl, rfl⟩ rfl (Nat.le_of_ble_eq_true rfl) (Nat.le_of_ble_eq_true rfl) (by omega) (by omega) ?_
  rintro Z1 G1 L1 ⟨hI1, f1⟩
  have hM1 := IM_fC hM f1
  refine ax_aload_n (i := 2) dL_law_247 rfl rfl ?_
  refine ax_aload_n (i := 0) dL_law_248 rfl rfl ?_
  refine ax_iload_n (i := 3) dL_law_249 rfl rfl ?_
  refine ax_iconst (v := 1) dL_law_250 (by decide) ?_
  refine ax_iadd dL_law_251 ?_
  refine ax_sld rfl dL_law_252 hin1 ?_
  refine ax_aload_n (i := 0) dL_law_253 rfl rfl ?_
  refine ax_iload_n (i := 3) dL_law_254 rfl rfl ?_
  refine ax_iconst (v := 2) dL_law_255 (by decide) ?_
  refine ax_iadd dL_law_256 ?_
  refine ax_sld rfl dL_law_257 hin2 ?_
  refine ax_cVq dL_law_258 lk_L_22 (y_of hI1.1 (IC_ok hI) hM1 _ _) rfl (OKs hI1.1 rfl) ⟨_, rfl, rfl⟩ rfl (Nat.le_of_ble_eq_true rfl) (Nat.le_of_ble_eq_true rfl) (by omega) (by omega) ?_
  rintro Z2 G2 L2 ⟨hz2, hM2, f2⟩
  subst Z2
  have hI2 := IC_fM hI1 f2
  refine ax_icmp_eq (tgt := 1232) dL_law_261 (by decide) (fun _ => ?_) (fun c => absurd rfl c)
  exact ax_up (Nat.le_add_right _ _) (Nat.le_add_right _ _) (key _ _ _ _ _ _ _ _ _ _ hI2 hM2)
theorem law_2 {nm : String} {len : Nat} {xs : Nat → Int32} {i cu su : Nat} {Z : Zt} {G : Gt} {L : Lt} {W : Wv} {H : Hv} {I : Option (Wv × Hv)} {T : Nat × (Nat → Nat)} {R : Nat × (Nat → Int32)} {P : Pt9} {n : Nat} (hI : IC Z G L W H I T R P n) (hM : IM G L W H I T R P n) (hin1 : vp_in (nI i + 1) len) (hin2 : vp_in (nI i + 2) len) (hin3 : vp_in (nI i + 3) len) (hin4 : vp_in (nI i + 4) len) (hin5 : vp_in (nI i + 5) len) (hcu : cu + 2 ≤ 600000) (hsu : su + 302 ≤ 7302250) (key : ∀ (Z : Zt) (G : Gt) (L : Lt) (W : Wv) (H : Hv) (I : Option (Wv × Hv)) (T : Nat × (Nat → Nat)) (R : Nat × (Nat → Int32)) (P : Pt9) (n : Nat), IC Z G L W H I T R P n → IM G L W H I T R P n → AX (some (len, xs)) (mL nm) 30 600000 7302250 (cu + 2) (su + 302) 1232 [(0, .ref 3000), (1, .ref 0), (2, .ref 75), (3, .int (nI i))] [] Z G L LQ) : AX (some (len, xs)) (mL nm) 30 600000 7302250 cu su 266 [(0, .ref 3000), (1, .ref 0), (2, .ref 75), (3, .int (nI i))] [] Z G L LQ := by
  refine ax_aload_n (i := 1) dL_law_266 rfl rfl ?_
  refine ax_aload_n (i := 0) dL_law_267 rfl rfl ?_
  refine ax_iload_n (i := 3) dL_law_268 rfl rfl ?_
  refine ax_iconst (v := 1) dL_law_269 (by decide) ?_
  refine ax_iadd dL_law_270 ?_
  refine ax_sld rfl dL_law_271 hin1 ?_
  refine ax_aload_n (i := 0) dL_law_272 rfl rfl ?_
  refine ax_iload_n (i := 3) dL_law_273 rfl rfl ?_
  refine ax_iconst (v := 2) dL_law_274 (by decide) ?_
  refine ax_iadd dL_law_275 ?_
  refine ax_sld rfl dL_law_276 hin2 ?_
  refine ax_aload_n (i := 0) dL_law_277 rfl rfl ?_
  refine ax_iload_n (i := 3) dL_law_278 rfl rfl ?_
  refine ax_iconst (v := 3) dL_law_279 (by decide) ?_
  refine ax_iadd dL_law_280 ?_
  refine ax_sld rfl dL_law_281 hin3 ?_
  refine ax_cVq dL_law_282 lk_L_23 (x_set hI _ _ _) rfl (OKs hI.1 rfl) ⟨_, rfl, rfl⟩ rfl (Nat.le_of_ble_eq_true rfl) (Nat.le_of_ble_eq_true rfl) (by omega) (by omega) ?_
  rintro Z1 G1 L1 ⟨hI1, f1⟩
  have hM1 := IM_fC hM f1
  refine ax_aload_n (i := 2) dL_law_285 rfl rfl ?_
  refine ax_aload_n (i := 0) dL_law_286 rfl rfl ?_
  refine ax_iload_n (i := 3) dL_law_287 rfl rfl ?_
  refine ax_iconst (v := 1) dL_law_288 (by decide) ?_
  refine ax_iadd dL_law_289 ?_
  refine ax_sld rfl dL_law_290 hin1 ?_
  refine ax_aload_n (i := 0) dL_law_291 rfl rfl ?_
  refine ax_iload_n (i := 3) dL_law_292 rfl rfl ?_
  refine ax_iconst (v := 2) dL_law_293 (by decide) ?_
  refine ax_iadd dL_law_294 ?_
  refine ax_sld rfl dL_law_295 hin2 ?_
  refine ax_aload_n (i := 0) dL_law_296 rfl rfl ?_
  refine ax_iload_n (i := 3) dL_law_297 rfl rfl ?_
  refine ax_iconst (v := 3) dL_law_298 (by decide) ?_
  refine ax_iadd dL_law_299 ?_
  refine ax_sld rfl dL_law_300 hin3 ?_
  refine ax_cVq dL_law_301 lk_L_27 (y_set hI1.1 (IC_ok hI) hM1 _ _ _) rfl (OKs hI1.1 rfl) ⟨_, rfl, rfl⟩ rfl (Nat.le_of_ble_eq_true rfl) (Nat.le_of_ble_eq_true rfl) (by omega) (by omega) ?_
  rintro Z2 G2 L2 ⟨hz2, hM2, f2⟩
  subst Z2
  have hI2 := IC_fM hI1 f2
  refine ax_icmp_eq (tgt := 1232) dL_law_304 (by decide) (fun _ => ?_) (fun c => absurd rfl c)
  exact ax_up (Nat.le_add_right _ _) (Nat.le_add_right _ _) (key _ _ _ _ _ _ _ _ _ _ hI2 hM2)
theorem law_3 {nm : String} {len : Nat} {xs : Nat → Int32} {i cu su : Nat} {Z : Zt} {G : Gt} {L : Lt} {W : Wv} {H : Hv} {I : Option (Wv × Hv)} {T : Nat × (Nat → Nat)} {R : Nat × (Nat → Int32)} {P : Pt9} {n : Nat} (hI : IC Z G L W H I T R P n) (hM : IM G L W H I T R P n) (hin1 : vp_in (nI i + 1) len) (hin2 : vp_in (nI i + 2) len) (hin3 : vp_in (nI i + 3) len) (hin4 : vp_in (nI i + 4) len) (hin5 : vp_in (nI i + 5) len) (hcu : cu + 2 ≤ 600000) (hsu : su + 302 ≤ 7302250) (key : ∀ (Z : Zt) (G : Gt) (L : Lt) (W : Wv) (H : Hv) (I : Option (Wv × Hv)) (T : Nat × (Nat → Nat)) (R : Nat × (Nat → Int32)) (P : Pt9) (n : Nat), IC Z G L W H I T R P n → IM G L W H I T R P n → AX (some (len, xs)) (mL nm) 30 600000 7302250 (cu + 2) (su + 302) 1232 [(0, .ref 3000), (1, .ref 0), (2, .ref 75), (3, .int (nI i))] [] Z G L LQ) : AX (some (len, xs)) (mL nm) 30 600000 7302250 cu su 309 [(0, .ref 3000), (1, .ref 0), (2, .ref 75), (3, .int (nI i))] [] Z G L LQ := by
  refine ax_aload_n (i := 1) dL_law_309 rfl rfl ?_
  refine ax_aload_n (i := 0) dL_law_310 rfl rfl ?_
  refine ax_iload_n (i := 3) dL_law_311 rfl rfl ?_
  refine ax_iconst (v := 1) dL_law_312 (by decide) ?_
  refine ax_iadd dL_law_313 ?_
  refine ax_sld rfl dL_law_314 hin1 ?_
  refine ax_cVq dL_law_315 lk_L_28 (x_light hI _) rfl (OKs hI.1 rfl) ⟨_, rfl, rfl⟩ rfl (Nat.le_of_ble_eq_true rfl) (Nat.le_of_ble_eq_true rfl) (by omega) (by omega) ?_
  rintro Z1 G1 L1 ⟨hI1, f1⟩
  have hM1 := IM_fC hM f1
  refine ax_aload_n (i := 2) dL_law_318 rfl rfl ?_
  refine ax_aload_n (i := 0) dL_law_319 rfl rfl ?_
  refine ax_iload_n (i := 3) dL_law_320 rfl rfl ?_
  refine ax_iconst (v := 1) dL_law_321 (by decide) ?_
  refine ax_iadd dL_law_322 ?_
  refine ax_sld rfl dL_law_323 hin1 ?_
  refine ax_cVq dL_law_324 lk_L_32 (y_light hI1.1 (IC_ok hI) hM1 _) rfl (OKs hI1.1 rfl) ⟨_, rfl, rfl⟩ rfl (Nat.le_of_ble_eq_true rfl) (Nat.le_of_ble_eq_true rfl) (by omega) (by omega) ?_
  rintro Z2 G2 L2 ⟨hz2, hM2, f2⟩
  subst Z2
  have hI2 := IC_fM hI1 f2
  refine ax_icmp_eq (tgt := 1232) dL_law_327 (by decide) (fun _ => ?_) (fun c => absurd rfl c)
  exact ax_up (Nat.le_add_right _ _) (Nat.le_add_right _ _) (key _ _ _ _ _ _ _ _ _ _ hI2 hM2)
theorem law_4 {nm : String} {len : Nat} {xs : Nat → Int32} {i cu su : Nat} {Z : Zt} {G : Gt} {L : Lt} {W : Wv} {H : Hv} {I : Option (Wv × Hv)} {T : Nat × (Nat → Nat)} {R : Nat × (Nat → Int32)} {P : Pt9} {n : Nat} (hI : IC Z G L W H I T R P n) (hM : IM G L W H I T R P n) (hin1 : vp_in (nI i + 1) len) (hin2 : vp_in (nI i + 2) len) (hin3 : vp_in (nI i + 3) len) (hin4 : vp_in (nI i + 4) len) (hin5 : vp_in (nI i + 5) len) (hcu : cu + 2 ≤ 600000) (hsu : su + 302 ≤ 7302250) (key : ∀ (Z : Zt) (G : Gt) (L : Lt) (W : Wv) (H : Hv) (I : Option (Wv × Hv)) (T : Nat × (Nat → Nat)) (R : Nat × (Nat → Int32)) (P : Pt9) (n : Nat), IC Z G L W H I T R P n → IM G L W H I T R P n → AX (some (len, xs)) (mL nm) 30 600000 7302250 (cu + 2) (su + 302) 1232 [(0, .ref 3000), (1, .ref 0), (2, .ref 75), (3, .int (nI i))] [] Z G L LQ) : AX (some (len, xs)) (mL nm) 30 600000 7302250 cu su 332 [(0, .ref 3000), (1, .ref 0), (2, .ref 75), (3, .int (nI i))] [] Z G L LQ := by
  refine ax_aload_n (i := 1) dL_law_332 rfl rfl ?_
  refine ax_aload_n (i := 0) dL_law_333 rfl rfl ?_
  refine ax_iload_n (i := 3) dL_law_334 rfl rfl ?_
  refine ax_iconst (v := 1) dL_law_335 (by decide) ?_
  refine ax_iadd dL_law_336 ?_
  refine ax_sld rfl dL_law_337 hin1 ?_
  refine ax_aload_n (i := 0) dL_law_338 rfl rfl ?_
  refine ax_iload_n (i := 3) dL_law_339 rfl rfl ?_
  refine ax_iconst (v := 2) dL_law_340 (by decide) ?_
  refine ax_iadd dL_law_341 ?_
  refine ax_sld rfl dL_law_342 hin2 ?_
  refine ax_cVq dL_law_343 lk_L_33 (x_grieve hI _ _) rfl (OKs hI.1 rfl) ⟨_, rfl, rfl⟩ rfl (Nat.le_of_ble_eq_true rfl) (Nat.le_of_ble_eq_true rfl) (by omega) (by omega) ?_
  rintro Z1 G1 L1 ⟨hI1, f1⟩
  have hM1 := IM_fC hM f1
  refine ax_aload_n (i := 2) dL_law_346 rfl rfl ?_
  refine ax_aload_n (i := 0) dL_law_347 rfl rfl ?_
  refine ax_iload_n (i := 3) dL_law_348 rfl rfl ?_
  refine ax_iconst (v := 1) dL_law_349 (by decide) ?_
  refine ax_iadd dL_law_350 ?_
  refine ax_sld rfl dL_law_351 hin1 ?_
  refine ax_aload_n (i := 0) dL_law_352 rfl rfl ?_
  refine ax_iload_n (i := 3) dL_law_353 rfl rfl ?_
  refine ax_iconst (v := 2) dL_law_354 (by decide) ?_
  refine ax_iadd dL_law_355 ?_
  refine ax_sld rfl dL_law_356 hin2 ?_
  refine ax_cVq dL_law_357 lk_L_36 (y_grieve hI1.1 (IC_ok hI) hM1 _ _) rfl (OKs hI1.1 rfl) ⟨_, rfl, rfl⟩ rfl (Nat.le_of_ble_eq_true rfl) (Nat.le_of_ble_eq_true rfl) (by omega) (by omega) ?_
  rintro Z2 G2 L2 ⟨hz2, hM2, f2⟩
  subst Z2
  have hI2 := IC_fM hI1 f2
  refine ax_icmp_eq (tgt := 1232) dL_law_360 (by decide) (fun _ => ?_) (fun c => absurd rfl c)
  exact ax_up (Nat.le_add_right _ _) (Nat.le_add_right _ _) (key _ _ _ _ _ _ _ _ _ _ hI2 hM2)
theorem law_5 {nm : String} {len : Nat} {xs : Nat → Int32} {i cu su : Nat} {Z : Zt} {G : Gt} {L : Lt} {W : Wv} {H : Hv} {I : Option (Wv × Hv)} {T : Nat × (Nat → Nat)} {R : Nat × (Nat → Int32)} {P : Pt9} {n : Nat} (hI : IC Z G L W H I T R P n) (hM : IM G L W H I T R P n) (hin1 : vp_in (nI i + 1) len) (hin2 : vp_in (nI i + 2) len) (hin3 : vp_in (nI i + 3) len) (hin4 : vp_in (nI i + 4) len) (hin5 : vp_in (nI i + 5) len) (hcu : cu + 2 ≤ 600000) (hsu : su + 302 ≤ 7302250) (key : ∀ (Z : Zt) (G : Gt) (L : Lt) (W : Wv) (H : Hv) (I : Option (Wv × Hv)) (T : Nat × (Nat → Nat)) (R : Nat × (Nat → Int32)) (P : Pt9) (n : Nat), IC Z G L W H I T R P n → IM G L W H I T R P n → AX (some (len, xs)) (mL nm) 30 600000 7302250 (cu + 2) (su + 302) 1232 [(0, .ref 3000), (1, .ref 0), (2, .ref 75), (3, .int (nI i))] [] Z G L LQ) : AX (some (len, xs)) (mL nm) 30 600000 7302250 cu su 365 [(0, .ref 3000), (1, .ref 0), (2, .ref 75), (3, .int (nI i))] [] Z G L LQ := by
  refine ax_aload_n (i := 1) dL_law_365 rfl rfl ?_
  refine ax_aload_n (i := 0) dL_law_366 rfl rfl ?_
  refine ax_iload_n (i := 3) dL_law_367 rfl rfl ?_
  refine ax_iconst (v := 1) dL_law_368 (by decide) ?_
  refine ax_iadd dL_law_369 ?_
  refine ax_sld rfl dL_law_370 hin1 ?_
  refine ax_aload_n (i := 0) dL_law_371 rfl rfl ?_
  refine ax_iload_n (i := 3) dL_law_372 rfl rfl ?_
  refine ax_iconst (v := 2) dL_law_373 (by decide) ?_
  refine ax_iadd dL_law_374 ?_
  refine ax_sld rfl dL_law_375 hin2 ?_
  refine ax_cVq dL_law_376 lk_L_37 (x_rain hI _ _) rfl (OKs hI.1 rfl) ⟨_, rfl, rfl⟩ rfl (Nat.le_of_ble_eq_true rfl) (Nat.le_of_ble_eq_true rfl) (by omega) (by omega) ?_
  rintro Z1 G1 L1 ⟨hI1, f1⟩
  have hM1 := IM_fC hM f1
  refine ax_aload_n (i := 2) dL_law_379 rfl rfl ?_
  refine ax_aload_n (i := 0) dL_law_380 rfl rfl ?_
  refine ax_iload_n (i := 3) dL_law_381 rfl rfl ?_
  refine ax_iconst (v := 1) dL_law_382 (by decide) ?_
  refine ax_iadd dL_law_383 ?_
  refine ax_sld rfl dL_law_384 hin1 ?_
  refine ax_aload_n (i := 0) dL_law_385 rfl rfl ?_
  refine ax_iload_n (i := 3) dL_law_386 rfl rfl ?_
  refine ax_iconst (v := 2) dL_law_387 (by decide) ?_
  refine ax_iadd dL_law_388 ?_
  refine ax_sld rfl dL_law_389 hin2 ?_
  refine ax_cVq dL_law_390 lk_L_40 (y_rain hI1.1 (IC_ok hI) hM1 _ _) rfl (OKs hI1.1 rfl) ⟨_, rfl, rfl⟩ rfl (Nat.le_of_ble_eq_true rfl) (Nat.le_of_ble_eq_true rfl) (by omega) (by omega) ?_
  rintro Z2 G2 L2 ⟨hz2, hM2, f2⟩
  subst Z2
  have hI2 := IC_fM hI1 f2
  refine ax_icmp_eq (tgt := 1232) dL_law_393 (by decide) (fun _ => ?_) (fun c => absurd rfl c)
  exact ax_up (Nat.le_add_right _ _) (Nat.le_add_right _ _) (key _ _ _ _ _ _ _ _ _ _ hI2 hM2)
theorem law_6 {nm : String} {len : Nat} {xs : Nat → Int32} {i cu su : Nat} {Z : Zt} {G : Gt} {L : Lt} {W : Wv} {H : Hv} {I : Option (Wv × Hv)} {T : Nat × (Nat → Nat)} {R : Nat × (Nat → Int32)} {P : Pt9} {n : Nat} (hI : IC Z G L W H I T R P n) (hM : IM G L W H I T R P n) (hin1 : vp_in (nI i + 1) len) (hin2 : vp_in (nI i + 2) len) (hin3 : vp_in (nI i + 3) len) (hin4 : vp_in (nI i + 4) len) (hin5 : vp_in (nI i + 5) len) (hcu : cu + 2 ≤ 600000) (hsu : su + 302 ≤ 7302250) (key : ∀ (Z : Zt) (G : Gt) (L : Lt) (W : Wv) (H : Hv) (I : Option (Wv × Hv)) (T : Nat × (Nat → Nat)) (R : Nat × (Nat → Int32)) (P : Pt9) (n : Nat), IC Z G L W H I T R P n → IM G L W H I T R P n → AX (some (len, xs)) (mL nm) 30 600000 7302250 (cu + 2) (su + 302) 1232 [(0, .ref 3000), (1, .ref 0), (2, .ref 75), (3, .int (nI i))] [] Z G L LQ) : AX (some (len, xs)) (mL nm) 30 600000 7302250 cu su 398 [(0, .ref 3000), (1, .ref 0), (2, .ref 75), (3, .int (nI i))] [] Z G L LQ := by
  refine ax_aload_n (i := 1) dL_law_398 rfl rfl ?_
  refine ax_aload_n (i := 0) dL_law_399 rfl rfl ?_
  refine ax_iload_n (i := 3) dL_law_400 rfl rfl ?_
  refine ax_iconst (v := 1) dL_law_401 (by decide) ?_
  refine ax_iadd dL_law_402 ?_
  refine ax_sld rfl dL_law_403 hin1 ?_
  refine ax_aload_n (i := 0) dL_law_404 rfl rfl ?_
  refine ax_iload_n (i := 3) dL_law_405 rfl rfl ?_
  refine ax_iconst (v := 2) dL_law_406 (by decide) ?_
  refine ax_iadd dL_law_407 ?_
  refine ax_sld rfl dL_law_408 hin2 ?_
  refine ax_aload_n (i := 0) dL_law_409 rfl rfl ?_
  refine ax_iload_n (i := 3) dL_law_410 rfl rfl ?_
  refine ax_iconst (v := 3) dL_law_411 (by decide) ?_
  refine ax_iadd dL_law_412 ?_
  refine ax_sld rfl dL_law_413 hin3 ?_
  refine ax_cVq dL_law_414 lk_L_41 (x_row hI _ _ _) rfl (OKs hI.1 rfl) ⟨_, rfl, rfl⟩ rfl (Nat.le_of_ble_eq_true rfl) (Nat.le_of_ble_eq_true rfl) (by omega) (by omega) ?_
  rintro Z1 G1 L1 ⟨hI1, f1⟩
  have hM1 := IM_fC hM f1
  refine ax_aload_n (i := 2) dL_law_417 rfl rfl ?_
  refine ax_aload_n (i := 0) dL_law_418 rfl rfl ?_
  refine ax_iload_n (i := 3) dL_law_419 rfl rfl ?_
  refine ax_iconst (v := 1) dL_law_420 (by decide) ?_
  refine ax_iadd dL_law_421 ?_
  refine ax_sld rfl dL_law_422 hin1 ?_
  refine ax_aload_n (i := 0) dL_law_423 rfl rfl ?_
  refine ax_iload_n (i := 3) dL_law_424 rfl rfl ?_
  refine ax_iconst (v := 2) dL_law_425 (by decide) ?_
  refine ax_iadd dL_law_426 ?_
  refine ax_sld rfl dL_law_427 hin2 ?_
  refine ax_aload_n (i := 0) dL_law_428 rfl rfl ?_
  refine ax_iload_n (i := 3) dL_law_429 rfl rfl ?_
  refine ax_iconst (v := 3) dL_law_430 (by decide) ?_
  refine ax_iadd dL_law_431 ?_
  refine ax_sld rfl dL_law_432 hin3 ?_
  refine ax_cVq dL_law_433 lk_L_44 (y_row hI1.1 (IC_ok hI) hM1 _ _ _) rfl (OKs hI1.1 rfl) ⟨_, rfl, rfl⟩ rfl (Nat.le_of_ble_eq_true rfl) (Nat.le_of_ble_eq_true rfl) (by omega) (by omega) ?_
  rintro Z2 G2 L2 ⟨hz2, hM2, f2⟩
  subst Z2
  have hI2 := IC_fM hI1 f2
  refine ax_icmp_eq (tgt := 1232) dL_law_436 (by decide) (fun _ => ?_) (fun c => absurd rfl c)
  exact ax_up (Nat.le_add_right _ _) (Nat.le_add_right _ _) (key _ _ _ _ _ _ _ _ _ _ hI2 hM2)
theorem law_7 {nm : String} {len : Nat} {xs : Nat → Int32} {i cu su : Nat} {Z : Zt} {G : Gt} {L : Lt} {W : Wv} {H : Hv} {I : Option (Wv × Hv)} {T : Nat × (Nat → Nat)} {R : Nat × (Nat → Int32)} {P : Pt9} {n : Nat} (hI : IC Z G L W H I T R P n) (hM : IM G L W H I T R P n) (hin1 : vp_in (nI i + 1) len) (hin2 : vp_in (nI i + 2) len) (hin3 : vp_in (nI i + 3) len) (hin4 : vp_in (nI i + 4) len) (hin5 : vp_in (nI i + 5) len) (hcu : cu + 2 ≤ 600000) (hsu : su + 302 ≤ 7302250) (key : ∀ (Z : Zt) (G : Gt) (L : Lt) (W : Wv) (H : Hv) (I : Option (Wv × Hv)) (T : Nat × (Nat → Nat)) (R : Nat × (Nat → Int32)) (P : Pt9) (n : Nat), IC Z G L W H I T R P n → IM G L W H I T R P n → AX (some (len, xs)) (mL nm) 30 600000 7302250 (cu + 2) (su + 302) 1232 [(0, .ref 3000), (1, .ref 0), (2, .ref 75), (3, .int (nI i))] [] Z G L LQ) : AX (some (len, xs)) (mL nm) 30 600000 7302250 cu su 441 [(0, .ref 3000), (1, .ref 0), (2, .ref 75), (3, .int (nI i))] [] Z G L LQ := by
  refine ax_aload_n (i := 1) dL_law_441 rfl rfl ?_
  refine ax_aload_n (i := 0) dL_law_442 rfl rfl ?_
  refine ax_iload_n (i := 3) dL_law_443 rfl rfl ?_
  refine ax_iconst (v := 1) dL_law_444 (by decide) ?_
  refine ax_iadd dL_law_445 ?_
  refine ax_sld rfl dL_law_446 hin1 ?_
  refine ax_cVq dL_law_447 lk_L_45 (x_feed hI _) rfl (OKs hI.1 rfl) ⟨_, rfl, rfl⟩ rfl (Nat.le_of_ble_eq_true rfl) (Nat.le_of_ble_eq_true rfl) (by omega) (by omega) ?_
  rintro Z1 G1 L1 ⟨hI1, f1⟩
  have hM1 := IM_fC hM f1
  refine ax_aload_n (i := 2) dL_law_450 rfl rfl ?_
  refine ax_aload_n (i := 0) dL_law_451 rfl rfl ?_
  refine ax_iload_n (i := 3) dL_law_452 rfl rfl ?_
  refine ax_iconst (v := 1) dL_law_453 (by decide) ?_
  refine ax_iadd dL_law_454 ?_
  refine ax_sld rfl dL_law_455 hin1 ?_
  refine ax_cVq dL_law_456 lk_L_48 (y_feed hI1.1 (IC_ok hI) hM1 _) rfl (OKs hI1.1 rfl) ⟨_, rfl, rfl⟩ rfl (Nat.le_of_ble_eq_true rfl) (Nat.le_of_ble_eq_true rfl) (by omega) (by omega) ?_
  rintro Z2 G2 L2 ⟨hz2, hM2, f2⟩
  subst Z2
  have hI2 := IC_fM hI1 f2
  refine ax_icmp_eq (tgt := 1232) dL_law_459 (by decide) (fun _ => ?_) (fun c => absurd rfl c)
  exact ax_up (Nat.le_add_right _ _) (Nat.le_add_right _ _) (key _ _ _ _ _ _ _ _ _ _ hI2 hM2)
theorem law_8 {nm : String} {len : Nat} {xs : Nat → Int32} {i cu su : Nat} {Z : Zt} {G : Gt} {L : Lt} {W : Wv} {H : Hv} {I : Option (Wv × Hv)} {T : Nat × (Nat → Nat)} {R : Nat × (Nat → Int32)} {P : Pt9} {n : Nat} (hI : IC Z G L W H I T R P n) (hM : IM G L W H I T R P n) (hin1 : vp_in (nI i + 1) len) (hin2 : vp_in (nI i + 2) len) (hin3 : vp_in (nI i + 3) len) (hin4 : vp_in (nI i + 4) len) (hin5 : vp_in (nI i + 5) len) (hcu : cu + 2 ≤ 600000) (hsu : su + 302 ≤ 7302250) (key : ∀ (Z : Zt) (G : Gt) (L : Lt) (W : Wv) (H : Hv) (I : Option (Wv × Hv)) (T : Nat × (Nat → Nat)) (R : Nat × (Nat → Int32)) (P : Pt9) (n : Nat), IC Z G L W H I T R P n → IM G L W H I T R P n → AX (some (len, xs)) (mL nm) 30 600000 7302250 (cu + 2) (su + 302) 1232 [(0, .ref 3000), (1, .ref 0), (2, .ref 75), (3, .int (nI i))] [] Z G L LQ) : AX (some (len, xs)) (mL nm) 30 600000 7302250 cu su 464 [(0, .ref 3000), (1, .ref 0), (2, .ref 75), (3, .int (nI i))] [] Z G L LQ := by
  refine ax_aload_n (i := 1) dL_law_464 rfl rfl ?_
  refine ax_callV dL_law_465 lk_L_49 (x_show hI) rfl (OKs hI.1 rfl) ⟨_, rfl, rfl⟩ rfl (Nat.le_of_ble_eq_true rfl) (Nat.le_of_ble_eq_true rfl) (by omega) (by omega) ?_
  rintro r Z1 G1 L1 ⟨rfl, hI1, f1⟩
  have hM1 := IM_fC hM f1
  refine ax_aload_n (i := 2) dL_law_468 rfl rfl ?_
  refine ax_cVq dL_law_469 lk_L_53 (y_show hI1.1 (IC_ok hI) hM1 ) rfl (OKs hI1.1 rfl) ⟨_, rfl, rfl⟩ rfl (Nat.le_of_ble_eq_true rfl) (Nat.le_of_ble_eq_true rfl) (show cu + 2 ≤ 600000 by omega) (show su + 302 ≤ 7302250 by omega) ?_
  rintro Z2 G2 L2 ⟨hz2, hM2, f2⟩
  subst Z2
  have hI2 := IC_fM hI1 f2
  refine ax_icmp_eq (tgt := 1232) dL_law_472 (by decide) (fun _ => ?_) (fun c => absurd rfl c)
  exact key _ _ _ _ _ _ _ _ _ _ hI2 hM2
theorem law_9 {nm : String} {len : Nat} {xs : Nat → Int32} {i cu su : Nat} {Z : Zt} {G : Gt} {L : Lt} {W : Wv} {H : Hv} {I : Option (Wv × Hv)} {T : Nat × (Nat → Nat)} {R : Nat × (Nat → Int32)} {P : Pt9} {n : Nat} (hI : IC Z G L W H I T R P n) (hM : IM G L W H I T R P n) (hin1 : vp_in (nI i + 1) len) (hin2 : vp_in (nI i + 2) len) (hin3 : vp_in (nI i + 3) len) (hin4 : vp_in (nI i + 4) len) (hin5 : vp_in (nI i + 5) len) (hcu : cu + 2 ≤ 600000) (hsu : su + 302 ≤ 7302250) (key : ∀ (Z : Zt) (G : Gt) (L : Lt) (W : Wv) (H : Hv) (I : Option (Wv × Hv)) (T : Nat × (Nat → Nat)) (R : Nat × (Nat → Int32)) (P : Pt9) (n : Nat), IC Z G L W H I T R P n → IM G L W H I T R P n → AX (some (len, xs)) (mL nm) 30 600000 7302250 (cu + 2) (su + 302) 1232 [(0, .ref 3000), (1, .ref 0), (2, .ref 75), (3, .int (nI i))] [] Z G L LQ) : AX (some (len, xs)) (mL nm) 30 600000 7302250 cu su 477 [(0, .ref 3000), (1, .ref 0), (2, .ref 75), (3, .int (nI i))] [] Z G L LQ := by
  refine ax_aload_n (i := 1) dL_law_477 rfl rfl ?_
  refine ax_aload_n (i := 0) dL_law_478 rfl rfl ?_
  refine ax_iload_n (i := 3) dL_law_479 rfl rfl ?_
  refine ax_iconst (v := 1) dL_law_480 (by decide) ?_
  refine ax_iadd dL_law_481 ?_
  refine ax_sld rfl dL_law_482 hin1 ?_
  refine ax_cVq dL_law_483 lk_L_54 (x_told hI _) rfl (OKs hI.1 rfl) ⟨_, rfl, rfl⟩ rfl (Nat.le_of_ble_eq_true rfl) (Nat.le_of_ble_eq_true rfl) (by omega) (by omega) ?_
  rintro Z1 G1 L1 ⟨hI1, f1⟩
  have hM1 := IM_fC hM f1
  refine ax_aload_n (i := 2) dL_law_486 rfl rfl ?_
  refine ax_aload_n (i := 0) dL_law_487 rfl rfl ?_
  refine ax_iload_n (i := 3) dL_law_488 rfl rfl ?_
  refine ax_iconst (v := 1) dL_law_489 (by decide) ?_
  refine ax_iadd dL_law_490 ?_
  refine ax_sld rfl dL_law_491 hin1 ?_
  refine ax_cVq dL_law_492 lk_L_57 (y_told hI1.1 (IC_ok hI) hM1 _) rfl (OKs hI1.1 rfl) ⟨_, rfl, rfl⟩ rfl (Nat.le_of_ble_eq_true rfl) (Nat.le_of_ble_eq_true rfl) (by omega) (by omega) ?_
  rintro Z2 G2 L2 ⟨hz2, hM2, f2⟩
  subst Z2
  have hI2 := IC_fM hI1 f2
  refine ax_icmp_eq (tgt := 1232) dL_law_495 (by decide) (fun _ => ?_) (fun c => absurd rfl c)
  exact ax_up (Nat.le_add_right _ _) (Nat.le_add_right _ _) (key _ _ _ _ _ _ _ _ _ _ hI2 hM2)
theorem law_10 {nm : String} {len : Nat} {xs : Nat → Int32} {i cu su : Nat} {Z : Zt} {G : Gt} {L : Lt} {W : Wv} {H : Hv} {I : Option (Wv × Hv)} {T : Nat × (Nat → Nat)} {R : Nat × (Nat → Int32)} {P : Pt9} {n : Nat} (hI : IC Z G L W H I T R P n) (hM : IM G L W H I T R P n) (hin1 : vp_in (nI i + 1) len) (hin2 : vp_in (nI i + 2) len) (hin3 : vp_in (nI i + 3) len) (hin4 : vp_in (nI i + 4) len) (hin5 : vp_in (nI i + 5) len) (hcu : cu + 2 ≤ 600000) (hsu : su + 302 ≤ 7302250) (key : ∀ (Z : Zt) (G : Gt) (L : Lt) (W : Wv) (H : Hv) (I : Option (Wv × Hv)) (T : Nat × (Nat → Nat)) (R : Nat × (Nat → Int32)) (P : Pt9) (n : Nat), IC Z G L W H I T R P n → IM G L W H I T R P n → AX (some (len, xs)) (mL nm) 30 600000 7302250 (cu + 2) (su + 302) 1232 [(0, .ref 3000), (1, .ref 0), (2, .ref 75), (3, .int (nI i))] [] Z G L LQ) : AX (some (len, xs)) (mL nm) 30 600000 7302250 cu su 500 [(0, .ref 3000), (1, .ref 0), (2, .ref 75), (3, .int (nI i))] [] Z G L LQ := by
  refine ax_aload_n (i := 1) dL_law_500 rfl rfl ?_
  refine ax_aload_n (i := 0) dL_law_501 rfl rfl ?_
  refine ax_iload_n (i := 3) dL_law_502 rfl rfl ?_
  refine ax_iconst (v := 1) dL_law_503 (by decide) ?_
  refine ax_iadd dL_law_504 ?_
  refine ax_sld rfl dL_law_505 hin1 ?_
  refine ax_cVq dL_law_506 lk_L_58 (x_pass hI _) rfl (OKs hI.1 rfl) ⟨_, rfl, rfl⟩ rfl (Nat.le_of_ble_eq_true rfl) (Nat.le_of_ble_eq_true rfl) (by omega) (by omega) ?_
  rintro Z1 G1 L1 ⟨hI1, f1⟩
  have hM1 := IM_fC hM f1
  refine ax_aload_n (i := 2) dL_law_509 rfl rfl ?_
  refine ax_aload_n (i := 0) dL_law_510 rfl rfl ?_
  refine ax_iload_n (i := 3) dL_law_511 rfl rfl ?_
  refine ax_iconst (v := 1) dL_law_512 (by decide) ?_
  refine ax_iadd dL_law_513 ?_
  refine ax_sld rfl dL_law_514 hin1 ?_
  refine ax_cVq dL_law_515 lk_L_61 (y_pass hI1.1 (IC_ok hI) hM1 _) rfl (OKs hI1.1 rfl) ⟨_, rfl, rfl⟩ rfl (Nat.le_of_ble_eq_true rfl) (Nat.le_of_ble_eq_true rfl) (by omega) (by omega) ?_
  rintro Z2 G2 L2 ⟨hz2, hM2, f2⟩
  subst Z2
  have hI2 := IC_fM hI1 f2
  refine ax_icmp_eq (tgt := 1232) dL_law_518 (by decide) (fun _ => ?_) (fun c => absurd rfl c)
  exact ax_up (Nat.le_add_right _ _) (Nat.le_add_right _ _) (key _ _ _ _ _ _ _ _ _ _ hI2 hM2)
theorem law_11 {nm : String} {len : Nat} {xs : Nat → Int32} {i cu su : Nat} {Z : Zt} {G : Gt} {L : Lt} {W : Wv} {H : Hv} {I : Option (Wv × Hv)} {T : Nat × (Nat → Nat)} {R : Nat × (Nat → Int32)} {P : Pt9} {n : Nat} (hI : IC Z G L W H I T R P n) (hM : IM G L W H I T R P n) (hin1 : vp_in (nI i + 1) len) (hin2 : vp_in (nI i + 2) len) (hin3 : vp_in (nI i + 3) len) (hin4 : vp_in (nI i + 4) len) (hin5 : vp_in (nI i + 5) len) (hcu : cu + 2 ≤ 600000) (hsu : su + 302 ≤ 7302250) (key : ∀ (Z : Zt) (G : Gt) (L : Lt) (W : Wv) (H : Hv) (I : Option (Wv × Hv)) (T : Nat × (Nat → Nat)) (R : Nat × (Nat → Int32)) (P : Pt9) (n : Nat), IC Z G L W H I T R P n → IM G L W H I T R P n → AX (some (len, xs)) (mL nm) 30 600000 7302250 (cu + 2) (su + 302) 1232 [(0, .ref 3000), (1, .ref 0), (2, .ref 75), (3, .int (nI i))] [] Z G L LQ) : AX (some (len, xs)) (mL nm) 30 600000 7302250 cu su 523 [(0, .ref 3000), (1, .ref 0), (2, .ref 75), (3, .int (nI i))] [] Z G L LQ := by
  refine ax_aload_n (i := 1) dL_law_523 rfl rfl ?_
  refine ax_aload_n (i := 0) dL_law_524 rfl rfl ?_
  refine ax_iload_n (i := 3) dL_law_525 rfl rfl ?_
  refine ax_iconst (v := 1) dL_law_526 (by decide) ?_
  refine ax_iadd dL_law_527 ?_
  refine ax_sld rfl dL_law_528 hin1 ?_
  refine ax_aload_n (i := 0) dL_law_529 rfl rfl ?_
  refine ax_iload_n (i := 3) dL_law_530 rfl rfl ?_
  refine ax_iconst (v := 2) dL_law_531 (by decide) ?_
  refine ax_iadd dL_law_532 ?_
  refine ax_sld rfl dL_law_533 hin2 ?_
  refine ax_cVq dL_law_534 lk_L_62 (x_on hI _ _) rfl (OKs hI.1 rfl) ⟨_, rfl, rfl⟩ rfl (Nat.le_of_ble_eq_true rfl) (Nat.le_of_ble_eq_true rfl) (by omega) (by omega) ?_
  rintro Z1 G1 L1 ⟨hI1, f1⟩
  have hM1 := IM_fC hM f1
  refine ax_aload_n (i := 2) dL_law_537 rfl rfl ?_
  refine ax_aload_n (i := 0) dL_law_538 rfl rfl ?_
  refine ax_iload_n (i := 3) dL_law_539 rfl rfl ?_
  refine ax_iconst (v := 1) dL_law_540 (by decide) ?_
  refine ax_iadd dL_law_541 ?_
  refine ax_sld rfl dL_law_542 hin1 ?_
  refine ax_aload_n (i := 0) dL_law_543 rfl rfl ?_
  refine ax_iload_n (i := 3) dL_law_544 rfl rfl ?_
  refine ax_iconst (v := 2) dL_law_545 (by decide) ?_
  refine ax_iadd dL_law_546 ?_
  refine ax_sld rfl dL_law_547 hin2 ?_
  refine ax_cVq dL_law_548 lk_L_65 (y_on hI1.1 (IC_ok hI) hM1 _ _) rfl (OKs hI1.1 rfl) ⟨_, rfl, rfl⟩ rfl (Nat.le_of_ble_eq_true rfl) (Nat.le_of_ble_eq_true rfl) (by omega) (by omega) ?_
  rintro Z2 G2 L2 ⟨hz2, hM2, f2⟩
  subst Z2
  have hI2 := IC_fM hI1 f2
  refine ax_icmp_eq (tgt := 1232) dL_law_551 (by decide) (fun _ => ?_) (fun c => absurd rfl c)
  exact ax_up (Nat.le_add_right _ _) (Nat.le_add_right _ _) (key _ _ _ _ _ _ _ _ _ _ hI2 hM2)
theorem law_12 {nm : String} {len : Nat} {xs : Nat → Int32} {i cu su : Nat} {Z : Zt} {G : Gt} {L : Lt} {W : Wv} {H : Hv} {I : Option (Wv × Hv)} {T : Nat × (Nat → Nat)} {R : Nat × (Nat → Int32)} {P : Pt9} {n : Nat} (hI : IC Z G L W H I T R P n) (hM : IM G L W H I T R P n) (hin1 : vp_in (nI i + 1) len) (hin2 : vp_in (nI i + 2) len) (hin3 : vp_in (nI i + 3) len) (hin4 : vp_in (nI i + 4) len) (hin5 : vp_in (nI i + 5) len) (hcu : cu + 2 ≤ 600000) (hsu : su + 302 ≤ 7302250) (key : ∀ (Z : Zt) (G : Gt) (L : Lt) (W : Wv) (H : Hv) (I : Option (Wv × Hv)) (T : Nat × (Nat → Nat)) (R : Nat × (Nat → Int32)) (P : Pt9) (n : Nat), IC Z G L W H I T R P n → IM G L W H I T R P n → AX (some (len, xs)) (mL nm) 30 600000 7302250 (cu + 2) (su + 302) 1232 [(0, .ref 3000), (1, .ref 0), (2, .ref 75), (3, .int (nI i))] [] Z G L LQ) : AX (some (len, xs)) (mL nm) 30 600000 7302250 cu su 556 [(0, .ref 3000), (1, .ref 0), (2, .ref 75), (3, .int (nI i))] [] Z G L LQ := by
  refine ax_aload_n (i := 1) dL_law_556 rfl rfl ?_
  refine ax_aload_n (i := 0) dL_law_557 rfl rfl ?_
  refine ax_iload_n (i := 3) dL_law_558 rfl rfl ?_
  refine ax_iconst (v := 1) dL_law_559 (by decide) ?_
  refine ax_iadd dL_law_560 ?_
  refine ax_sld rfl dL_law_561 hin1 ?_
  refine ax_aload_n (i := 0) dL_law_562 rfl rfl ?_
  refine ax_iload_n (i := 3) dL_law_563 rfl rfl ?_
  refine ax_iconst (v := 2) dL_law_564 (by decide) ?_
  refine ax_iadd dL_law_565 ?_
  refine ax_sld rfl dL_law_566 hin2 ?_
  refine ax_cVq dL_law_567 lk_L_66 (x_best hI _ _) rfl (OKs hI.1 rfl) ⟨_, rfl, rfl⟩ rfl (Nat.le_of_ble_eq_true rfl) (Nat.le_of_ble_eq_true rfl) (by omega) (by omega) ?_
  rintro Z1 G1 L1 ⟨hI1, f1⟩
  have hM1 := IM_fC hM f1
  refine ax_aload_n (i := 2) dL_law_570 rfl rfl ?_
  refine ax_aload_n (i := 0) dL_law_571 rfl rfl ?_
  refine ax_iload_n (i := 3) dL_law_572 rfl rfl ?_
  refine ax_iconst (v := 1) dL_law_573 (by decide) ?_
  refine ax_iadd dL_law_574 ?_
  refine ax_sld rfl dL_law_575 hin1 ?_
  refine ax_aload_n (i := 0) dL_law_576 rfl rfl ?_
  refine ax_iload_n (i := 3) dL_law_577 rfl rfl ?_
  refine ax_iconst (v := 2) dL_law_578 (by decide) ?_
  refine ax_iadd dL_law_579 ?_
  refine ax_sld rfl dL_law_580 hin2 ?_
  refine ax_cVq dL_law_581 lk_L_69 (y_best hI1.1 (IC_ok hI) hM1 _ _) rfl (OKs hI1.1 rfl) ⟨_, rfl, rfl⟩ rfl (Nat.le_of_ble_eq_true rfl) (Nat.le_of_ble_eq_true rfl) (by omega) (by omega) ?_
  rintro Z2 G2 L2 ⟨hz2, hM2, f2⟩
  subst Z2
  have hI2 := IC_fM hI1 f2
  refine ax_icmp_eq (tgt := 1232) dL_law_584 (by decide) (fun _ => ?_) (fun c => absurd rfl c)
  exact ax_up (Nat.le_add_right _ _) (Nat.le_add_right _ _) (key _ _ _ _ _ _ _ _ _ _ hI2 hM2)
theorem law_13 {nm : String} {len : Nat} {xs : Nat → Int32} {i cu su : Nat} {Z : Zt} {G : Gt} {L : Lt} {W : Wv} {H : Hv} {I : Option (Wv × Hv)} {T : Nat × (Nat → Nat)} {R : Nat × (Nat → Int32)} {P : Pt9} {n : Nat} (hI : IC Z G L W H I T R P n) (hM : IM G L W H I T R P n) (hin1 : vp_in (nI i + 1) len) (hin2 : vp_in (nI i + 2) len) (hin3 : vp_in (nI i + 3) len) (hin4 : vp_in (nI i + 4) len) (hin5 : vp_in (nI i + 5) len) (hcu : cu + 2 ≤ 600000) (hsu : su + 302 ≤ 7302250) (key : ∀ (Z : Zt) (G : Gt) (L : Lt) (W : Wv) (H : Hv) (I : Option (Wv × Hv)) (T : Nat × (Nat → Nat)) (R : Nat × (Nat → Int32)) (P : Pt9) (n : Nat), IC Z G L W H I T R P n → IM G L W H I T R P n → AX (some (len, xs)) (mL nm) 30 600000 7302250 (cu + 2) (su + 302) 1232 [(0, .ref 3000), (1, .ref 0), (2, .ref 75), (3, .int (nI i))] [] Z G L LQ) : AX (some (len, xs)) (mL nm) 30 600000 7302250 cu su 589 [(0, .ref 3000), (1, .ref 0), (2, .ref 75), (3, .int (nI i))] [] Z G L LQ := by
  refine ax_aload_n (i := 1) dL_law_589 rfl rfl ?_
  refine ax_aload_n (i := 0) dL_law_590 rfl rfl ?_
  refine ax_iload_n (i := 3) dL_law_591 rfl rfl ?_
  refine ax_iconst (v := 1) dL_law_592 (by decide) ?_
  refine ax_iadd dL_law_593 ?_
  refine ax_sld rfl dL_law_594 hin1 ?_
  refine ax_aload_n (i := 0) dL_law_595 rfl rfl ?_
  refine ax_iload_n (i := 3) dL_law_596 rfl rfl ?_
  refine ax_iconst (v := 2) dL_law_597 (by decide) ?_
  refine ax_iadd dL_law_598 ?_
  refine ax_sld rfl dL_law_599 hin2 ?_
  refine ax_aload_n (i := 0) dL_law_600 rfl rfl ?_
  refine ax_iload_n (i := 3) dL_law_601 rfl rfl ?_
  refine ax_iconst (v := 3) dL_law_602 (by decide) ?_
  refine ax_iadd dL_law_603 ?_
  refine ax_sld rfl dL_law_604 hin3 ?_
  refine ax_cVq dL_law_605 lk_L_70 (x_mark hI _ _ _) rfl (OKs hI.1 rfl) ⟨_, rfl, rfl⟩ rfl (Nat.le_of_ble_eq_true rfl) (Nat.le_of_ble_eq_true rfl) (by omega) (by omega) ?_
  rintro Z1 G1 L1 ⟨hI1, f1⟩
  have hM1 := IM_fC hM f1
  refine ax_aload_n (i := 2) dL_law_608 rfl rfl ?_
  refine ax_aload_n (i := 0) dL_law_609 rfl rfl ?_
  refine ax_iload_n (i := 3) dL_law_610 rfl rfl ?_
  refine ax_iconst (v := 1) dL_law_611 (by decide) ?_
  refine ax_iadd dL_law_612 ?_
  refine ax_sld rfl dL_law_613 hin1 ?_
  refine ax_aload_n (i := 0) dL_law_614 rfl rfl ?_
  refine ax_iload_n (i := 3) dL_law_615 rfl rfl ?_
  refine ax_iconst (v := 2) dL_law_616 (by decide) ?_
  refine ax_iadd dL_law_617 ?_
  refine ax_sld rfl dL_law_618 hin2 ?_
  refine ax_aload_n (i := 0) dL_law_619 rfl rfl ?_
  refine ax_iload_n (i := 3) dL_law_620 rfl rfl ?_
  refine ax_iconst (v := 3) dL_law_621 (by decide) ?_
  refine ax_iadd dL_law_622 ?_
  refine ax_sld rfl dL_law_623 hin3 ?_
  refine ax_cVq dL_law_624 lk_L_73 (y_mark hI1.1 (IC_ok hI) hM1 _ _ _) rfl (OKs hI1.1 rfl) ⟨_, rfl, rfl⟩ rfl (Nat.le_of_ble_eq_true rfl) (Nat.le_of_ble_eq_true rfl) (by omega) (by omega) ?_
  rintro Z2 G2 L2 ⟨hz2, hM2, f2⟩
  subst Z2
  have hI2 := IC_fM hI1 f2
  refine ax_icmp_eq (tgt := 1232) dL_law_627 (by decide) (fun _ => ?_) (fun c => absurd rfl c)
  exact ax_up (Nat.le_add_right _ _) (Nat.le_add_right _ _) (key _ _ _ _ _ _ _ _ _ _ hI2 hM2)
theorem law_14 {nm : String} {len : Nat} {xs : Nat → Int32} {i cu su : Nat} {Z : Zt} {G : Gt} {L : Lt} {W : Wv} {H : Hv} {I : Option (Wv × Hv)} {T : Nat × (Nat → Nat)} {R : Nat × (Nat → Int32)} {P : Pt9} {n : Nat} (hI : IC Z G L W H I T R P n) (hM : IM G L W H I T R P n) (hin1 : vp_in (nI i + 1) len) (hin2 : vp_in (nI i + 2) len) (hin3 : vp_in (nI i + 3) len) (hin4 : vp_in (nI i + 4) len) (hin5 : vp_in (nI i + 5) len) (hcu : cu + 2 ≤ 600000) (hsu : su + 302 ≤ 7302250) (key : ∀ (Z : Zt) (G : Gt) (L : Lt) (W : Wv) (H : Hv) (I : Option (Wv × Hv)) (T : Nat × (Nat → Nat)) (R : Nat × (Nat → Int32)) (P : Pt9) (n : Nat), IC Z G L W H I T R P n → IM G L W H I T R P n → AX (some (len, xs)) (mL nm) 30 600000 7302250 (cu + 2) (su + 302) 1232 [(0, .ref 3000), (1, .ref 0), (2, .ref 75), (3, .int (nI i))] [] Z G L LQ) : AX (some (len, xs)) (mL nm) 30 600000 7302250 cu su 632 [(0, .ref 3000), (1, .ref 0), (2, .ref 75), (3, .int (nI i))] [] Z G L LQ := by
  refine ax_aload_n (i := 1) dL_law_632 rfl rfl ?_
  refine ax_cVq dL_law_633 lk_L_74 (x_wrong hI ) rfl (OKs hI.1 rfl) ⟨_, rfl, rfl⟩ rfl (Nat.le_of_ble_eq_true rfl) (Nat.le_of_ble_eq_true rfl) (by omega) (by omega) ?_
  rintro Z1 G1 L1 ⟨hI1, f1⟩
  have hM1 := IM_fC hM f1
  refine ax_aload_n (i := 2) dL_law_636 rfl rfl ?_
  refine ax_cVq dL_law_637 lk_L_77 (y_wrong hI1.1 (IC_ok hI) hM1 ) rfl (OKs hI1.1 rfl) ⟨_, rfl, rfl⟩ rfl (Nat.le_of_ble_eq_true rfl) (Nat.le_of_ble_eq_true rfl) (by omega) (by omega) ?_
  rintro Z2 G2 L2 ⟨hz2, hM2, f2⟩
  subst Z2
  have hI2 := IC_fM hI1 f2
  refine ax_icmp_eq (tgt := 1232) dL_law_640 (by decide) (fun _ => ?_) (fun c => absurd rfl c)
  exact ax_up (Nat.le_add_right _ _) (Nat.le_add_right _ _) (key _ _ _ _ _ _ _ _ _ _ hI2 hM2)
theorem law_15 {nm : String} {len : Nat} {xs : Nat → Int32} {i cu su : Nat} {Z : Zt} {G : Gt} {L : Lt} {W : Wv} {H : Hv} {I : Option (Wv × Hv)} {T : Nat × (Nat → Nat)} {R : Nat × (Nat → Int32)} {P : Pt9} {n : Nat} (hI : IC Z G L W H I T R P n) (hM : IM G L W H I T R P n) (hin1 : vp_in (nI i + 1) len) (hin2 : vp_in (nI i + 2) len) (hin3 : vp_in (nI i + 3) len) (hin4 : vp_in (nI i + 4) len) (hin5 : vp_in (nI i + 5) len) (hcu : cu + 2 ≤ 600000) (hsu : su + 302 ≤ 7302250) (key : ∀ (Z : Zt) (G : Gt) (L : Lt) (W : Wv) (H : Hv) (I : Option (Wv × Hv)) (T : Nat × (Nat → Nat)) (R : Nat × (Nat → Int32)) (P : Pt9) (n : Nat), IC Z G L W H I T R P n → IM G L W H I T R P n → AX (some (len, xs)) (mL nm) 30 600000 7302250 (cu + 2) (su + 302) 1232 [(0, .ref 3000), (1, .ref 0), (2, .ref 75), (3, .int (nI i))] [] Z G L LQ) : AX (some (len, xs)) (mL nm) 30 600000 7302250 cu su 645 [(0, .ref 3000), (1, .ref 0), (2, .ref 75), (3, .int (nI i))] [] Z G L LQ := by
  refine ax_aload_n (i := 1) dL_law_645 rfl rfl ?_
  refine ax_aload_n (i := 0) dL_law_646 rfl rfl ?_
  refine ax_iload_n (i := 3) dL_law_647 rfl rfl ?_
  refine ax_iconst (v := 1) dL_law_648 (by decide) ?_
  refine ax_iadd dL_law_649 ?_
  refine ax_sld rfl dL_law_650 hin1 ?_
  refine ax_aload_n (i := 0) dL_law_651 rfl rfl ?_
  refine ax_iload_n (i := 3) dL_law_652 rfl rfl ?_
  refine ax_iconst (v := 2) dL_law_653 (by decide) ?_
  refine ax_iadd dL_law_654 ?_
  refine ax_sld rfl dL_law_655 hin2 ?_
  refine ax_cVq dL_law_656 lk_L_78 (x_can hI _ _) rfl (OKs hI.1 rfl) ⟨_, rfl, rfl⟩ rfl (Nat.le_of_ble_eq_true rfl) (Nat.le_of_ble_eq_true rfl) (by omega) (by omega) ?_
  rintro Z1 G1 L1 ⟨hI1, f1⟩
  have hM1 := IM_fC hM f1
  refine ax_aload_n (i := 2) dL_law_659 rfl rfl ?_
  refine ax_aload_n (i := 0) dL_law_660 rfl rfl ?_
  refine ax_iload_n (i := 3) dL_law_661 rfl rfl ?_
  refine ax_iconst (v := 1) dL_law_662 (by decide) ?_
  refine ax_iadd dL_law_663 ?_
  refine ax_sld rfl dL_law_664 hin1 ?_
  refine ax_aload_n (i := 0) dL_law_665 rfl rfl ?_
  refine ax_iload_n (i := 3) dL_law_666 rfl rfl ?_
  refine ax_iconst (v := 2) dL_law_667 (by decide) ?_
  refine ax_iadd dL_law_668 ?_
  refine ax_sld rfl dL_law_669 hin2 ?_
  refine ax_cVq dL_law_670 lk_L_81 (y_can hI1.1 (IC_ok hI) hM1 _ _) rfl (OKs hI1.1 rfl) ⟨_, rfl, rfl⟩ rfl (Nat.le_of_ble_eq_true rfl) (Nat.le_of_ble_eq_true rfl) (by omega) (by omega) ?_
  rintro Z2 G2 L2 ⟨hz2, hM2, f2⟩
  subst Z2
  have hI2 := IC_fM hI1 f2
  refine ax_icmp_eq (tgt := 1232) dL_law_673 (by decide) (fun _ => ?_) (fun c => absurd rfl c)
  exact ax_up (Nat.le_add_right _ _) (Nat.le_add_right _ _) (key _ _ _ _ _ _ _ _ _ _ hI2 hM2)
theorem law_16 {nm : String} {len : Nat} {xs : Nat → Int32} {i cu su : Nat} {Z : Zt} {G : Gt} {L : Lt} {W : Wv} {H : Hv} {I : Option (Wv × Hv)} {T : Nat × (Nat → Nat)} {R : Nat × (Nat → Int32)} {P : Pt9} {n : Nat} (hI : IC Z G L W H I T R P n) (hM : IM G L W H I T R P n) (hin1 : vp_in (nI i + 1) len) (hin2 : vp_in (nI i + 2) len) (hin3 : vp_in (nI i + 3) len) (hin4 : vp_in (nI i + 4) len) (hin5 : vp_in (nI i + 5) len) (hcu : cu + 2 ≤ 600000) (hsu : su + 302 ≤ 7302250) (key : ∀ (Z : Zt) (G : Gt) (L : Lt) (W : Wv) (H : Hv) (I : Option (Wv × Hv)) (T : Nat × (Nat → Nat)) (R : Nat × (Nat → Int32)) (P : Pt9) (n : Nat), IC Z G L W H I T R P n → IM G L W H I T R P n → AX (some (len, xs)) (mL nm) 30 600000 7302250 (cu + 2) (su + 302) 1232 [(0, .ref 3000), (1, .ref 0), (2, .ref 75), (3, .int (nI i))] [] Z G L LQ) : AX (some (len, xs)) (mL nm) 30 600000 7302250 cu su 678 [(0, .ref 3000), (1, .ref 0), (2, .ref 75), (3, .int (nI i))] [] Z G L LQ := by
  refine ax_aload_n (i := 1) dL_law_678 rfl rfl ?_
  refine ax_aload_n (i := 0) dL_law_679 rfl rfl ?_
  refine ax_iload_n (i := 3) dL_law_680 rfl rfl ?_
  refine ax_iconst (v := 1) dL_law_681 (by decide) ?_
  refine ax_iadd dL_law_682 ?_
  refine ax_sld rfl dL_law_683 hin1 ?_
  refine ax_aload_n (i := 0) dL_law_684 rfl rfl ?_
  refine ax_iload_n (i := 3) dL_law_685 rfl rfl ?_
  refine ax_iconst (v := 2) dL_law_686 (by decide) ?_
  refine ax_iadd dL_law_687 ?_
  refine ax_sld rfl dL_law_688 hin2 ?_
  refine ax_cVq dL_law_689 lk_L_82 (x_odds hI _ _) rfl (OKs hI.1 rfl) ⟨_, rfl, rfl⟩ rfl (Nat.le_of_ble_eq_true rfl) (Nat.le_of_ble_eq_true rfl) (by omega) (by omega) ?_
  rintro Z1 G1 L1 ⟨hI1, f1⟩
  have hM1 := IM_fC hM f1
  refine ax_aload_n (i := 2) dL_law_692 rfl rfl ?_
  refine ax_aload_n (i := 0) dL_law_693 rfl rfl ?_
  refine ax_iload_n (i := 3) dL_law_694 rfl rfl ?_
  refine ax_iconst (v := 1) dL_law_695 (by decide) ?_
  refine ax_iadd dL_law_696 ?_
  refine ax_sld rfl dL_law_697 hin1 ?_
  refine ax_aload_n (i := 0) dL_law_698 rfl rfl ?_
  refine ax_iload_n (i := 3) dL_law_699 rfl rfl ?_
  refine ax_iconst (v := 2) dL_law_700 (by decide) ?_
  refine ax_iadd dL_law_701 ?_
  refine ax_sld rfl dL_law_702 hin2 ?_
  refine ax_cVq dL_law_703 lk_L_86 (y_odds hI1.1 (IC_ok hI) hM1 _ _) rfl (OKs hI1.1 rfl) ⟨_, rfl, rfl⟩ rfl (Nat.le_of_ble_eq_true rfl) (Nat.le_of_ble_eq_true rfl) (by omega) (by omega) ?_
  rintro Z2 G2 L2 ⟨hz2, hM2, f2⟩
  subst Z2
  have hI2 := IC_fM hI1 f2
  refine ax_lcmp dL_law_706 ?_
  refine ax_if_eq (tgt := 1232) dL_law_707 (by decide) (fun _ => ?_) (fun c => absurd (lgc_0.mpr rfl) c)
  exact ax_up (Nat.le_add_right _ _) (Nat.le_add_right _ _) (key _ _ _ _ _ _ _ _ _ _ hI2 hM2)
