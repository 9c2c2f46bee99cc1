set_option maxHeartbeats 4000000 in
set_option maxRecDepth 100000 in
theorem law_c0 {V : gV} {G : gG} {b0 L : Nat} {xs : Nat → Int32} (E : gE V G cL_law 7 RL wsL_law room_1) (hX : va_X b0 L xs (gvS V) (gvH V)) (hbl : b0 < (gvH V).size) (hbA : ¬ gvO V b0) (hST : (gl G).stackTraces = false) (hL : L ≤ 2560) {i : Nat} (hi : i + 5 ≤ L) {A : gA} {bd : Nat} {x : gVa} {m : Nat → Nat} {o : Nat} {f : Nat → Int64} {u : gVu} {w : gRu} {cells slots : Nat} (hA : gAok bd A) (hb3 : 3600 ≤ bd) (hb : bd ≤ 40000) (hC : gClsI A u) (hR : gRefI A w) (hc : cells ≤ 20000) (hs : slots ≤ 400000)
    (next : ∀ (A' : gA) (f' : Nat → Int64) (u' : gVu) (w' : gRu), gAok (bd + 30) A' → gClsI A' u' → gRefI A' w' → gW V 7 (cells + 15) (slots + 430) (gLW G o f' x u' m w') (gLoc b0 x m o i) 2262 []) : gW V 7 cells slots (gLW G o f x u m w) (gLoc b0 x m o i) 180 [] := by
  refine g_aload_n E dL_law_180 rfl 1 rfl ?_
  refine g_aload_n E dL_law_181 rfl 0 rfl ?_
  refine g_iload E dL_law_182 4 rfl ?_
  refine g_iconst (v := nI 1) E dL_law_184 (by decide) ?_
  refine g_iaddN E dL_law_185 ?_
  refine g_sldN E hX hbl hbA (by omega) hL dL_law_186 ?_
  refine g_aload_n E dL_law_187 rfl 3 rfl ?_
  refine g_callSWI (As := [.ref (x.1 0), .int (xs (i + 1)), .ref o]) (F := wR G m w) E (wL_append (f := f) (o := o) hST hA (by omega) hC (xs (i + 1))) gL_law_L_append rfl hdL_append ⟨Nat.le_of_ble_eq_true rfl, Nat.le_of_ble_eq_true rfl⟩ (gPerm_rfl (gLW G o f x u m w)) rfl rfl ?_ dL_law_188 ?_ (fun r1 w1 hx => ?_)
  · exact Nat.le_of_ble_eq_true rfl
  · exact law_rm hc hs (by decide) (by decide)
  obtain ⟨f1, u1⟩ := w1
  obtain ⟨h1, h1b, h2, h3⟩ := hx
  refine g_istore (lv' := (5, .int r1) :: gLoc b0 x m o i) E dL_law_191 (by decide) rfl ?_
  refine g_aload_n E dL_law_193 rfl 3 rfl ?_
  refine g_aload_n E dL_law_194 rfl 1 rfl ?_
  refine g_iload E dL_law_195 5 rfl ?_
  refine g_iconst (v := nI 1) E dL_law_197 (by decide) ?_
  refine g_iaddN E dL_law_198 ?_
  refine g_sldN E hX hbl hbA (by omega) hL dL_law_199 ?_
  refine g_callVI (As := [.int (xs (i + 1))]) (F := (o, .inl (gy G 3, 1, .inr (.inl f1))) :: wV G x u1) E (rX8_append m hA (by omega) hR (xs (i + 1))) gL_law_X8_append rfl hdX8_append ⟨Nat.le_of_ble_eq_true rfl, Nat.le_of_ble_eq_true rfl⟩ 8 0 rfl rfl rfl (gPerm_cm (A := (o, .inl (gy G 3, 1, .inr (.inl f1))) :: wV G x u1) (B := wR G m w)) rfl rfl ?_ dL_law_200 ?_ (fun r2 w2 hp => ?_)
  · exact Nat.le_of_ble_eq_true rfl
  · exact law_rm (a := 1) (b := 6) hc hs (by decide) (by decide)
  refine g_perm (gPerm_cm (A := wR G m w2) (B := (o, .inl (gy G 3, 1, .inr (.inl f1))) :: wV G x u1)) ?_
  refine law_tail (K := fAppend A (xs (i + 1))) E h1 h1b h2 hp (by exact law_rm (a := 1) (b := 6) hc hs (by decide) (by decide)) dL_law_203 dL_law_205 dL_law_206 dL_law_209 dL_law_211 dL_law_216 dL_law_218 dL_law_221 dL_law_222 dL_law_223 dL_law_224 dL_law_226 dL_law_227 dL_law_228 dL_law_233 (by decide) ?_
  exact g_widen (by omega) (by omega) (next _ f1 u1 w2 (gAok_mono (gAok_append hA _) (by omega)) h3 hp.2.2)
set_option maxHeartbeats 4000000 in
set_option maxRecDepth 100000 in
theorem law_c1 {V : gV} {G : gG} {b0 L : Nat} {xs : Nat → Int32} (E : gE V G cL_law 7 RL wsL_law room_1) (hX : va_X b0 L xs (gvS V) (gvH V)) (hbl : b0 < (gvH V).size) (hbA : ¬ gvO V b0) (hST : (gl G).stackTraces = false) (hL : L ≤ 2560) {i : Nat} (hi : i + 5 ≤ L) {A : gA} {bd : Nat} {x : gVa} {m : Nat → Nat} {o : Nat} {f : Nat → Int64} {u : gVu} {w : gRu} {cells slots : Nat} (hA : gAok bd A) (hb3 : 3600 ≤ bd) (hb : bd ≤ 40000) (hC : gClsI A u) (hR : gRefI A w) (hc : cells ≤ 20000) (hs : slots ≤ 400000)
    (next : ∀ (A' : gA) (f' : Nat → Int64) (u' : gVu) (w' : gRu), gAok (bd + 30) A' → gClsI A' u' → gRefI A' w' → gW V 7 (cells + 15) (slots + 430) (gLW G o f' x u' m w') (gLoc b0 x m o i) 2262 []) : gW V 7 cells slots (gLW G o f x u m w) (gLoc b0 x m o i) 236 [] := by
  refine g_aload_n E dL_law_236 rfl 1 rfl ?_
  refine g_callVI (F := [(o, .inl (gy G 3, 1, .inr (.inl f)))] ++ wR G m w) E (lX7_clearText (G := G) (x := x) hA hC) gL_law_X7_clearText rfl hdX7_clearText ⟨Nat.le_of_ble_eq_true rfl, Nat.le_of_ble_eq_true rfl⟩ 7 0 rfl rfl rfl gPerm_c1 rfl rfl ?_ dL_law_237 ?_ (fun r u1 hx => ?_)
  · exact Nat.le_of_ble_eq_true rfl
  · exact law_rm (a := 0) (b := 0) hc hs (by decide) (by decide)
  obtain ⟨h1, h2, h3⟩ := hx
  refine g_perm gPerm_c2 ?_
  refine g_aload_n E dL_law_240 rfl 2 rfl ?_
  refine g_callVI (F := (o, .inl (gy G 3, 1, .inr (.inl f))) :: wV G x u1) E (rX8_clearText m hA (by omega) hR) gL_law_X8_clearText rfl hdX8_clearText ⟨Nat.le_of_ble_eq_true rfl, Nat.le_of_ble_eq_true rfl⟩ 8 0 rfl rfl rfl (gPerm_cm (A := (o, .inl (gy G 3, 1, .inr (.inl f))) :: wV G x u1) (B := wR G m w)) rfl rfl ?_ dL_law_241 ?_ (fun r2 w2 hp => ?_)
  · exact Nat.le_of_ble_eq_true rfl
  · exact law_rm (a := 0) (b := 0) hc hs (by decide) (by decide)
  refine g_perm (gPerm_cm (A := wR G m w2) (B := (o, .inl (gy G 3, 1, .inr (.inl f))) :: wV G x u1)) ?_
  refine g_icmp_eq (tgt := 2262) E dL_law_244 (by decide) (fun _ => ?_) (fun c => absurd (by rw [h2, hp.2.1 h1]) c)
  exact g_widen (by omega) (by omega) (next _ f u1 w2 (gAok_mono (gAok_clear hA) (by omega)) h3 hp.2.2)
set_option maxHeartbeats 4000000 in
set_option maxRecDepth 100000 in
theorem law_c2 {V : gV} {G : gG} {b0 L : Nat} {xs : Nat → Int32} (E : gE V G cL_law 7 RL wsL_law room_1) (hX : va_X b0 L xs (gvS V) (gvH V)) (hbl : b0 < (gvH V).size) (hbA : ¬ gvO V b0) (hST : (gl G).stackTraces = false) (hL : L ≤ 2560) {i : Nat} (hi : i + 5 ≤ L) {A : gA} {bd : Nat} {x : gVa} {m : Nat → Nat} {o : Nat} {f : Nat → Int64} {u : gVu} {w : gRu} {cells slots : Nat} (hA : gAok bd A) (hb3 : 3600 ≤ bd) (hb : bd ≤ 40000) (hC : gClsI A u) (hR : gRefI A w) (hc : cells ≤ 20000) (hs : slots ≤ 400000)
    (next : ∀ (A' : gA) (f' : Nat → Int64) (u' : gVu) (w' : gRu), gAok (bd + 30) A' → gClsI A' u' → gRefI A' w' → gW V 7 (cells + 15) (slots + 430) (gLW G o f' x u' m w') (gLoc b0 x m o i) 2262 []) : gW V 7 cells slots (gLW G o f x u m w) (gLoc b0 x m o i) 249 [] := by
  refine g_aload_n E dL_law_249 rfl 1 rfl ?_
  refine g_callVI (F := [(o, .inl (gy G 3, 1, .inr (.inl f)))] ++ wR G m w) E (lX7_errorPosition (G := G) (x := x) hA hC) gL_law_X7_errorPosition rfl hdX7_errorPosition ⟨Nat.le_of_ble_eq_true rfl, Nat.le_of_ble_eq_true rfl⟩ 7 0 rfl rfl rfl gPerm_c1 rfl rfl ?_ dL_law_250 ?_ (fun r u1 hx => ?_)
  · exact Nat.le_of_ble_eq_true rfl
  · exact law_rm (a := 0) (b := 0) hc hs (by decide) (by decide)
  obtain ⟨h1, h2, h3⟩ := hx
  refine g_perm gPerm_c2 ?_
  refine g_aload_n E dL_law_253 rfl 2 rfl ?_
  refine g_callVI (F := (o, .inl (gy G 3, 1, .inr (.inl f))) :: wV G x u1) E (rX8_errorPosition m hA (by omega) hR) gL_law_X8_errorPosition rfl hdX8_errorPosition ⟨Nat.le_of_ble_eq_true rfl, Nat.le_of_ble_eq_true rfl⟩ 8 0 rfl rfl rfl (gPerm_cm (A := (o, .inl (gy G 3, 1, .inr (.inl f))) :: wV G x u1) (B := wR G m w)) rfl rfl ?_ dL_law_254 ?_ (fun r2 w2 hp => ?_)
  · exact Nat.le_of_ble_eq_true rfl
  · exact law_rm (a := 0) (b := 0) hc hs (by decide) (by decide)
  refine g_perm (gPerm_cm (A := wR G m w2) (B := (o, .inl (gy G 3, 1, .inr (.inl f))) :: wV G x u1)) ?_
  refine g_icmp_eq (tgt := 2262) E dL_law_257 (by decide) (fun _ => ?_) (fun c => absurd (by rw [h2, hp.2.1 h1]) c)
  exact g_widen (by omega) (by omega) (next _ f u1 w2 (gAok_mono hA (by omega)) h3 hp.2.2)
set_option maxHeartbeats 4000000 in
set_option maxRecDepth 100000 in
theorem law_c3 {V : gV} {G : gG} {b0 L : Nat} {xs : Nat → Int32} (E : gE V G cL_law 7 RL wsL_law room_1) (hX : va_X b0 L xs (gvS V) (gvH V)) (hbl : b0 < (gvH V).size) (hbA : ¬ gvO V b0) (hST : (gl G).stackTraces = false) (hL : L ≤ 2560) {i : Nat} (hi : i + 5 ≤ L) {A : gA} {bd : Nat} {x : gVa} {m : Nat → Nat} {o : Nat} {f : Nat → Int64} {u : gVu} {w : gRu} {cells slots : Nat} (hA : gAok bd A) (hb3 : 3600 ≤ bd) (hb : bd ≤ 40000) (hC : gClsI A u) (hR : gRefI A w) (hc : cells ≤ 20000) (hs : slots ≤ 400000)
    (next : ∀ (A' : gA) (f' : Nat → Int64) (u' : gVu) (w' : gRu), gAok (bd + 30) A' → gClsI A' u' → gRefI A' w' → gW V 7 (cells + 15) (slots + 430) (gLW G o f' x u' m w') (gLoc b0 x m o i) 2262 []) : gW V 7 cells slots (gLW G o f x u m w) (gLoc b0 x m o i) 262 [] := by
  refine g_aload_n E dL_law_262 rfl 1 rfl ?_
  refine g_aload_n E dL_law_263 rfl 3 rfl ?_
  refine g_callSWI (As := [.ref (x.1 0), .ref o]) (F := wR G m w) E (wL_load (f := f) (o := o) hST hA (by omega) hC) gL_law_L_load rfl hdL_load ⟨Nat.le_of_ble_eq_true rfl, Nat.le_of_ble_eq_true rfl⟩ (gPerm_rfl (gLW G o f x u m w)) rfl rfl ?_ dL_law_264 ?_ (fun r1 w1 hx => ?_)
  · exact Nat.le_of_ble_eq_true rfl
  · exact law_rm hc hs (by decide) (by decide)
  obtain ⟨f1, u1⟩ := w1
  obtain ⟨h1, h1b, h2, h3⟩ := hx
  refine g_istore (lv' := (5, .int r1) :: gLoc b0 x m o i) E dL_law_267 (by decide) rfl ?_
  refine g_aload_n E dL_law_269 rfl 3 rfl ?_
  refine g_callVI (As := []) (F := (o, .inl (gy G 3, 1, .inr (.inl f1))) :: wV G x u1) E (rX8_load m hA (by omega) hR) gL_law_X8_load rfl hdX8_load ⟨Nat.le_of_ble_eq_true rfl, Nat.le_of_ble_eq_true rfl⟩ 8 0 rfl rfl rfl (gPerm_cm (A := (o, .inl (gy G 3, 1, .inr (.inl f1))) :: wV G x u1) (B := wR G m w)) rfl rfl ?_ dL_law_270 ?_ (fun r2 w2 hp => ?_)
  · exact Nat.le_of_ble_eq_true rfl
  · exact law_rm (a := 1) (b := 6) hc hs (by decide) (by decide)
  refine g_perm (gPerm_cm (A := wR G m w2) (B := (o, .inl (gy G 3, 1, .inr (.inl f1))) :: wV G x u1)) ?_
  refine law_tail (K := fLoad A) E h1 h1b h2 hp (by exact law_rm (a := 1) (b := 6) hc hs (by decide) (by decide)) dL_law_273 dL_law_275 dL_law_276 dL_law_279 dL_law_281 dL_law_286 dL_law_288 dL_law_291 dL_law_292 dL_law_293 dL_law_294 dL_law_296 dL_law_297 dL_law_298 dL_law_303 (by decide) ?_
  exact g_widen (by omega) (by omega) (next _ f1 u1 w2 (gAok_mono (gAok_load hA hb3) (by omega)) h3 hp.2.2)
set_option maxHeartbeats 4000000 in
set_option maxRecDepth 100000 in
theorem law_c4 {V : gV} {G : gG} {b0 L : Nat} {xs : Nat → Int32} (E : gE V G cL_law 7 RL wsL_law room_1) (hX : va_X b0 L xs (gvS V) (gvH V)) (hbl : b0 < (gvH V).size) (hbA : ¬ gvO V b0) (hST : (gl G).stackTraces = false) (hL : L ≤ 2560) {i : Nat} (hi : i + 5 ≤ L) {A : gA} {bd : Nat} {x : gVa} {m : Nat → Nat} {o : Nat} {f : Nat → Int64} {u : gVu} {w : gRu} {cells slots : Nat} (hA : gAok bd A) (hb3 : 3600 ≤ bd) (hb : bd ≤ 40000) (hC : gClsI A u) (hR : gRefI A w) (hc : cells ≤ 20000) (hs : slots ≤ 400000)
    (next : ∀ (A' : gA) (f' : Nat → Int64) (u' : gVu) (w' : gRu), gAok (bd + 30) A' → gClsI A' u' → gRefI A' w' → gW V 7 (cells + 15) (slots + 430) (gLW G o f' x u' m w') (gLoc b0 x m o i) 2262 []) : gW V 7 cells slots (gLW G o f x u m w) (gLoc b0 x m o i) 306 [] := by
  refine g_aload_n E dL_law_306 rfl 1 rfl ?_
  refine g_aload_n E dL_law_307 rfl 0 rfl ?_
  refine g_iload E dL_law_308 4 rfl ?_
  refine g_iconst (v := nI 1) E dL_law_310 (by decide) ?_
  refine g_iaddN E dL_law_311 ?_
  refine g_sldN E hX hbl hbA (by omega) hL dL_law_312 ?_
  refine g_aload_n E dL_law_313 rfl 3 rfl ?_
  refine g_callSWI (As := [.ref (x.1 0), .int (xs (i + 1)), .ref o]) (F := wR G m w) E (wL_about (f := f) (o := o) hST hA (by omega) hC (xs (i + 1))) gL_law_L_about rfl hdL_about ⟨Nat.le_of_ble_eq_true rfl, Nat.le_of_ble_eq_true rfl⟩ (gPerm_rfl (gLW G o f x u m w)) rfl rfl ?_ dL_law_314 ?_ (fun r1 w1 hx => ?_)
  · exact Nat.le_of_ble_eq_true rfl
  · exact law_rm hc hs (by decide) (by decide)
  obtain ⟨f1, u1⟩ := w1
  obtain ⟨h1, h1b, h2, h3⟩ := hx
  refine g_istore (lv' := (5, .int r1) :: gLoc b0 x m o i) E dL_law_317 (by decide) rfl ?_
  refine g_aload_n E dL_law_319 rfl 3 rfl ?_
  refine g_aload_n E dL_law_320 rfl 1 rfl ?_
  refine g_iload E dL_law_321 5 rfl ?_
  refine g_iconst (v := nI 1) E dL_law_323 (by decide) ?_
  refine g_iaddN E dL_law_324 ?_
  refine g_sldN E hX hbl hbA (by omega) hL dL_law_325 ?_
  refine g_callVI (As := [.int (xs (i + 1))]) (F := (o, .inl (gy G 3, 1, .inr (.inl f1))) :: wV G x u1) E (rX8_about m hA (by omega) hR (xs (i + 1))) gL_law_X8_about rfl hdX8_about ⟨Nat.le_of_ble_eq_true rfl, Nat.le_of_ble_eq_true rfl⟩ 8 0 rfl rfl rfl (gPerm_cm (A := (o, .inl (gy G 3, 1, .inr (.inl f1))) :: wV G x u1) (B := wR G m w)) rfl rfl ?_ dL_law_326 ?_ (fun r2 w2 hp => ?_)
  · exact Nat.le_of_ble_eq_true rfl
  · exact law_rm (a := 1) (b := 6) hc hs (by decide) (by decide)
  refine g_perm (gPerm_cm (A := wR G m w2) (B := (o, .inl (gy G 3, 1, .inr (.inl f1))) :: wV G x u1)) ?_
  refine law_tail (K := fAbout A (xs (i + 1))) E h1 h1b h2 hp (by exact law_rm (a := 1) (b := 6) hc hs (by decide) (by decide)) dL_law_329 dL_law_331 dL_law_332 dL_law_335 dL_law_337 dL_law_342 dL_law_344 dL_law_347 dL_law_348 dL_law_349 dL_law_350 dL_law_352 dL_law_353 dL_law_354 dL_law_359 (by decide) ?_
  exact g_widen (by omega) (by omega) (next _ f1 u1 w2 (by rw [gQ_about]; exact gAok_mono hA (by omega)) h3 hp.2.2)
set_option maxHeartbeats 4000000 in
set_option maxRecDepth 100000 in
theorem law_c5 {V : gV} {G : gG} {b0 L : Nat} {xs : Nat → Int32} (E : gE V G cL_law 7 RL wsL_law room_1) (hX : va_X b0 L xs (gvS V) (gvH V)) (hbl : b0 < (gvH V).size) (hbA : ¬ gvO V b0) (hST : (gl G).stackTraces = false) (hL : L ≤ 2560) {i : Nat} (hi : i + 5 ≤ L) {A : gA} {bd : Nat} {x : gVa} {m : Nat → Nat} {o : Nat} {f : Nat → Int64} {u : gVu} {w : gRu} {cells slots : Nat} (hA : gAok bd A) (hb3 : 3600 ≤ bd) (hb : bd ≤ 40000) (hC : gClsI A u) (hR : gRefI A w) (hc : cells ≤ 20000) (hs : slots ≤ 400000)
    (next : ∀ (A' : gA) (f' : Nat → Int64) (u' : gVu) (w' : gRu), gAok (bd + 30) A' → gClsI A' u' → gRefI A' w' → gW V 7 (cells + 15) (slots + 430) (gLW G o f' x u' m w') (gLoc b0 x m o i) 2262 []) : gW V 7 cells slots (gLW G o f x u m w) (gLoc b0 x m o i) 362 [] := by
  refine g_aload_n E dL_law_362 rfl 1 rfl ?_
  refine g_aload_n E dL_law_363 rfl 0 rfl ?_
  refine g_iload E dL_law_364 4 rfl ?_
  refine g_iconst (v := nI 1) E dL_law_366 (by decide) ?_
  refine g_iaddN E dL_law_367 ?_
  refine g_sldN E hX hbl hbA (by omega) hL dL_law_368 ?_
  refine g_aload_n E dL_law_369 rfl 0 rfl ?_
  refine g_iload E dL_law_370 4 rfl ?_
  refine g_iconst (v := nI 2) E dL_law_372 (by decide) ?_
  refine g_iaddN E dL_law_373 ?_
  refine g_sldN E hX hbl hbA (by omega) hL dL_law_374 ?_
  refine g_aload_n E dL_law_375 rfl 3 rfl ?_
  refine g_callSWI (As := [.ref (x.1 0), .int (xs (i + 1)), .int (xs (i + 2)), .ref o]) (F := wR G m w) E (wL_prisoner (f := f) (o := o) hST hA (by omega) hC (xs (i + 1)) (xs (i + 2))) gL_law_L_prisoner rfl hdL_prisoner ⟨Nat.le_of_ble_eq_true rfl, Nat.le_of_ble_eq_true rfl⟩ (gPerm_rfl (gLW G o f x u m w)) rfl rfl ?_ dL_law_376 ?_ (fun r1 w1 hx => ?_)
  · exact Nat.le_of_ble_eq_true rfl
  · exact law_rm hc hs (by decide) (by decide)
  obtain ⟨f1, u1⟩ := w1
  obtain ⟨h1, h1b, h2, h3⟩ := hx
  refine g_istore (lv' := (5, .int r1) :: gLoc b0 x m o i) E dL_law_379 (by decide) rfl ?_
  refine g_aload_n E dL_law_381 rfl 3 rfl ?_
  refine g_aload_n E dL_law_382 rfl 1 rfl ?_
  refine g_iload E dL_law_383 5 rfl ?_
  refine g_iconst (v := nI 1) E dL_law_385 (by decide) ?_
  refine g_iaddN E dL_law_386 ?_
  refine g_sldN E hX hbl hbA (by omega) hL dL_law_387 ?_
  refine g_aload_n E dL_law_388 rfl 1 rfl ?_
  refine g_iload E dL_law_389 5 rfl ?_
  refine g_iconst (v := nI 2) E dL_law_391 (by decide) ?_
  refine g_iaddN E dL_law_392 ?_
  refine g_sldN E hX hbl hbA (by omega) hL dL_law_393 ?_
  refine g_callVI (As := [.int (xs (i + 1)), .int (xs (i + 2))]) (F := (o, .inl (gy G 3, 1, .inr (.inl f1))) :: wV G x u1) E (rX8_prisoner m hA (by omega) hR (xs (i + 1)) (xs (i + 2))) gL_law_X8_prisoner rfl hdX8_prisoner ⟨Nat.le_of_ble_eq_true rfl, Nat.le_of_ble_eq_true rfl⟩ 8 0 rfl rfl rfl (gPerm_cm (A := (o, .inl (gy G 3, 1, .inr (.inl f1))) :: wV G x u1) (B := wR G m w)) rfl rfl ?_ dL_law_394 ?_ (fun r2 w2 hp => ?_)
  · exact Nat.le_of_ble_eq_true rfl
  · exact law_rm (a := 1) (b := 6) hc hs (by decide) (by decide)
  refine g_perm (gPerm_cm (A := wR G m w2) (B := (o, .inl (gy G 3, 1, .inr (.inl f1))) :: wV G x u1)) ?_
  refine law_tail (K := fPris A (xs (i + 1)) (xs (i + 2))) E h1 h1b h2 hp (by exact law_rm (a := 1) (b := 6) hc hs (by decide) (by decide)) dL_law_397 dL_law_399 dL_law_400 dL_law_403 dL_law_405 dL_law_410 dL_law_412 dL_law_415 dL_law_416 dL_law_417 dL_law_418 dL_law_420 dL_law_421 dL_law_422 dL_law_427 (by decide) ?_
  exact g_widen (by omega) (by omega) (next _ f1 u1 w2 (by rw [gQ_prisoner]; exact gAok_mono hA (by omega)) h3 hp.2.2)
set_option maxHeartbeats 4000000 in
set_option maxRecDepth 100000 in
theorem law_c6 {V : gV} {G : gG} {b0 L : Nat} {xs : Nat → Int32} (E : gE V G cL_law 7 RL wsL_law room_1) (hX : va_X b0 L xs (gvS V) (gvH V)) (hbl : b0 < (gvH V).size) (hbA : ¬ gvO V b0) (hST : (gl G).stackTraces = false) (hL : L ≤ 2560) {i : Nat} (hi : i + 5 ≤ L) {A : gA} {bd : Nat} {x : gVa} {m : Nat → Nat} {o : Nat} {f : Nat → Int64} {u : gVu} {w : gRu} {cells slots : Nat} (hA : gAok bd A) (hb3 : 3600 ≤ bd) (hb : bd ≤ 40000) (hC : gClsI A u) (hR : gRefI A w) (hc : cells ≤ 20000) (hs : slots ≤ 400000)
    (next : ∀ (A' : gA) (f' : Nat → Int64) (u' : gVu) (w' : gRu), gAok (bd + 30) A' → gClsI A' u' → gRefI A' w' → gW V 7 (cells + 15) (slots + 430) (gLW G o f' x u' m w') (gLoc b0 x m o i) 2262 []) : gW V 7 cells slots (gLW G o f x u m w) (gLoc b0 x m o i) 430 [] := by
  refine g_aload_n E dL_law_430 rfl 1 rfl ?_
  refine g_aload_n E dL_law_431 rfl 0 rfl ?_
  refine g_iload E dL_law_432 4 rfl ?_
  refine g_iconst (v := nI 1) E dL_law_434 (by decide) ?_
  refine g_iaddN E dL_law_435 ?_
  refine g_sldN E hX hbl hbA (by omega) hL dL_law_436 ?_
  refine g_aload_n E dL_law_437 rfl 0 rfl ?_
  refine g_iload E dL_law_438 4 rfl ?_
  refine g_iconst (v := nI 2) E dL_law_440 (by decide) ?_
  refine g_iaddN E dL_law_441 ?_
  refine g_sldN E hX hbl hbA (by omega) hL dL_law_442 ?_
  refine g_aload_n E dL_law_443 rfl 3 rfl ?_
  refine g_callSWI (As := [.ref (x.1 0), .int (xs (i + 1)), .int (xs (i + 2)), .ref o]) (F := wR G m w) E (wL_visitor (f := f) (o := o) hST hA (by omega) hC (xs (i + 1)) (xs (i + 2))) gL_law_L_visitor rfl hdL_visitor ⟨Nat.le_of_ble_eq_true rfl, Nat.le_of_ble_eq_true rfl⟩ (gPerm_rfl (gLW G o f x u m w)) rfl rfl ?_ dL_law_444 ?_ (fun r1 w1 hx => ?_)
  · exact Nat.le_of_ble_eq_true rfl
  · exact law_rm hc hs (by decide) (by decide)
  obtain ⟨f1, u1⟩ := w1
  obtain ⟨h1, h1b, h2, h3⟩ := hx
  refine g_istore (lv' := (5, .int r1) :: gLoc b0 x m o i) E dL_law_447 (by decide) rfl ?_
  refine g_aload_n E dL_law_449 rfl 3 rfl ?_
  refine g_aload_n E dL_law_450 rfl 1 rfl ?_
  refine g_iload E dL_law_451 5 rfl ?_
  refine g_iconst (v := nI 1) E dL_law_453 (by decide) ?_
  refine g_iaddN E dL_law_454 ?_
  refine g_sldN E hX hbl hbA (by omega) hL dL_law_455 ?_
  refine g_aload_n E dL_law_456 rfl 1 rfl ?_
  refine g_iload E dL_law_457 5 rfl ?_
  refine g_iconst (v := nI 2) E dL_law_459 (by decide) ?_
  refine g_iaddN E dL_law_460 ?_
  refine g_sldN E hX hbl hbA (by omega) hL dL_law_461 ?_
  refine g_callVI (As := [.int (xs (i + 1)), .int (xs (i + 2))]) (F := (o, .inl (gy G 3, 1, .inr (.inl f1))) :: wV G x u1) E (rX8_visitor m hA (by omega) hR (xs (i + 1)) (xs (i + 2))) gL_law_X8_visitor rfl hdX8_visitor ⟨Nat.le_of_ble_eq_true rfl, Nat.le_of_ble_eq_true rfl⟩ 8 0 rfl rfl rfl (gPerm_cm (A := (o, .inl (gy G 3, 1, .inr (.inl f1))) :: wV G x u1) (B := wR G m w)) rfl rfl ?_ dL_law_462 ?_ (fun r2 w2 hp => ?_)
  · exact Nat.le_of_ble_eq_true rfl
  · exact law_rm (a := 1) (b := 6) hc hs (by decide) (by decide)
  refine g_perm (gPerm_cm (A := wR G m w2) (B := (o, .inl (gy G 3, 1, .inr (.inl f1))) :: wV G x u1)) ?_
  refine law_tail (K := fVisr A (xs (i + 1)) (xs (i + 2))) E h1 h1b h2 hp (by exact law_rm (a := 1) (b := 6) hc hs (by decide) (by decide)) dL_law_465 dL_law_467 dL_law_468 dL_law_471 dL_law_473 dL_law_478 dL_law_480 dL_law_483 dL_law_484 dL_law_485 dL_law_486 dL_law_488 dL_law_489 dL_law_490 dL_law_495 (by decide) ?_
  exact g_widen (by omega) (by omega) (next _ f1 u1 w2 (by rw [gQ_visitor]; exact gAok_mono hA (by omega)) h3 hp.2.2)
set_option maxHeartbeats 4000000 in
set_option maxRecDepth 100000 in
theorem law_c7 {V : gV} {G : gG} {b0 L : Nat} {xs : Nat → Int32} (E : gE V G cL_law 7 RL wsL_law room_1) (hX : va_X b0 L xs (gvS V) (gvH V)) (hbl : b0 < (gvH V).size) (hbA : ¬ gvO V b0) (hST : (gl G).stackTraces = false) (hL : L ≤ 2560) {i : Nat} (hi : i + 5 ≤ L) {A : gA} {bd : Nat} {x : gVa} {m : Nat → Nat} {o : Nat} {f : Nat → Int64} {u : gVu} {w : gRu} {cells slots : Nat} (hA : gAok bd A) (hb3 : 3600 ≤ bd) (hb : bd ≤ 40000) (hC : gClsI A u) (hR : gRefI A w) (hc : cells ≤ 20000) (hs : slots ≤ 400000)
    (next : ∀ (A' : gA) (f' : Nat → Int64) (u' : gVu) (w' : gRu), gAok (bd + 30) A' → gClsI A' u' → gRefI A' w' → gW V 7 (cells + 15) (slots + 430) (gLW G o f' x u' m w') (gLoc b0 x m o i) 2262 []) : gW V 7 cells slots (gLW G o f x u m w) (gLoc b0 x m o i) 498 [] := by
  refine g_aload_n E dL_law_498 rfl 1 rfl ?_
  refine g_aload_n E dL_law_499 rfl 0 rfl ?_
  refine g_iload E dL_law_500 4 rfl ?_
  refine g_iconst (v := nI 1) E dL_law_502 (by decide) ?_
  refine g_iaddN E dL_law_503 ?_
  refine g_sldN E hX hbl hbA (by omega) hL dL_law_504 ?_
  refine g_aload_n E dL_law_505 rfl 0 rfl ?_
  refine g_iload E dL_law_506 4 rfl ?_
  refine g_iconst (v := nI 2) E dL_law_508 (by decide) ?_
  refine g_iaddN E dL_law_509 ?_
  refine g_sldN E hX hbl hbA (by omega) hL dL_law_510 ?_
  refine g_aload_n E dL_law_511 rfl 3 rfl ?_
  refine g_callSWI (As := [.ref (x.1 0), .int (xs (i + 1)), .int (xs (i + 2)), .ref o]) (F := wR G m w) E (wL_booking (f := f) (o := o) hST hA (by omega) hC (xs (i + 1)) (xs (i + 2))) gL_law_L_booking rfl hdL_booking ⟨Nat.le_of_ble_eq_true rfl, Nat.le_of_ble_eq_true rfl⟩ (gPerm_rfl (gLW G o f x u m w)) rfl rfl ?_ dL_law_512 ?_ (fun r1 w1 hx => ?_)
  · exact Nat.le_of_ble_eq_true rfl
  · exact law_rm hc hs (by decide) (by decide)
  obtain ⟨f1, u1⟩ := w1
  obtain ⟨h1, h1b, h2, h3⟩ := hx
  refine g_istore (lv' := (5, .int r1) :: gLoc b0 x m o i) E dL_law_515 (by decide) rfl ?_
  refine g_aload_n E dL_law_517 rfl 3 rfl ?_
  refine g_aload_n E dL_law_518 rfl 1 rfl ?_
  refine g_iload E dL_law_519 5 rfl ?_
  refine g_iconst (v := nI 1) E dL_law_521 (by decide) ?_
  refine g_iaddN E dL_law_522 ?_
  refine g_sldN E hX hbl hbA (by omega) hL dL_law_523 ?_
  refine g_aload_n E dL_law_524 rfl 1 rfl ?_
  refine g_iload E dL_law_525 5 rfl ?_
  refine g_iconst (v := nI 2) E dL_law_527 (by decide) ?_
  refine g_iaddN E dL_law_528 ?_
  refine g_sldN E hX hbl hbA (by omega) hL dL_law_529 ?_
  refine g_callVI (As := [.int (xs (i + 1)), .int (xs (i + 2))]) (F := (o, .inl (gy G 3, 1, .inr (.inl f1))) :: wV G x u1) E (rX8_booking m hA (by omega) hR (xs (i + 1)) (xs (i + 2))) gL_law_X8_booking rfl hdX8_booking ⟨Nat.le_of_ble_eq_true rfl, Nat.le_of_ble_eq_true rfl⟩ 8 0 rfl rfl rfl (gPerm_cm (A := (o, .inl (gy G 3, 1, .inr (.inl f1))) :: wV G x u1) (B := wR G m w)) rfl rfl ?_ dL_law_530 ?_ (fun r2 w2 hp => ?_)
  · exact Nat.le_of_ble_eq_true rfl
  · exact law_rm (a := 1) (b := 6) hc hs (by decide) (by decide)
  refine g_perm (gPerm_cm (A := wR G m w2) (B := (o, .inl (gy G 3, 1, .inr (.inl f1))) :: wV G x u1)) ?_
  refine law_tail (K := fBkng A (xs (i + 1)) (xs (i + 2))) E h1 h1b h2 hp (by exact law_rm (a := 1) (b := 6) hc hs (by decide) (by decide)) dL_law_533 dL_law_535 dL_law_536 dL_law_539 dL_law_541 dL_law_546 dL_law_548 dL_law_551 dL_law_552 dL_law_553 dL_law_554 dL_law_556 dL_law_557 dL_law_558 dL_law_563 (by decide) ?_
  exact g_widen (by omega) (by omega) (next _ f1 u1 w2 (by rw [gQ_booking]; exact gAok_mono hA (by omega)) h3 hp.2.2)
set_option maxHeartbeats 4000000 in
set_option maxRecDepth 100000 in
theorem law_c8 {V : gV} {G : gG} {b0 L : Nat} {xs : Nat → Int32} (E : gE V G cL_law 7 RL wsL_law room_1) (hX : va_X b0 L xs (gvS V) (gvH V)) (hbl : b0 < (gvH V).size) (hbA : ¬ gvO V b0) (hST : (gl G).stackTraces = false) (hL : L ≤ 2560) {i : Nat} (hi : i + 5 ≤ L) {A : gA} {bd : Nat} {x : gVa} {m : Nat → Nat} {o : Nat} {f : Nat → Int64} {u : gVu} {w : gRu} {cells slots : Nat} (hA : gAok bd A) (hb3 : 3600 ≤ bd) (hb : bd ≤ 40000) (hC : gClsI A u) (hR : gRefI A w) (hc : cells ≤ 20000) (hs : slots ≤ 400000)
    (next : ∀ (A' : gA) (f' : Nat → Int64) (u' : gVu) (w' : gRu), gAok (bd + 30) A' → gClsI A' u' → gRefI A' w' → gW V 7 (cells + 15) (slots + 430) (gLW G o f' x u' m w') (gLoc b0 x m o i) 2262 []) : gW V 7 cells slots (gLW G o f x u m w) (gLoc b0 x m o i) 566 [] := by
  refine g_aload_n E dL_law_566 rfl 1 rfl ?_
  refine g_aload_n E dL_law_567 rfl 0 rfl ?_
  refine g_iload E dL_law_568 4 rfl ?_
  refine g_iconst (v := nI 1) E dL_law_570 (by decide) ?_
  refine g_iaddN E dL_law_571 ?_
  refine g_sldN E hX hbl hbA (by omega) hL dL_law_572 ?_
  refine g_aload_n E dL_law_573 rfl 0 rfl ?_
  refine g_iload E dL_law_574 4 rfl ?_
  refine g_iconst (v := nI 2) E dL_law_576 (by decide) ?_
  refine g_iaddN E dL_law_577 ?_
  refine g_sldN E hX hbl hbA (by omega) hL dL_law_578 ?_
  refine g_aload_n E dL_law_579 rfl 3 rfl ?_
  refine g_callSWI (As := [.ref (x.1 0), .int (xs (i + 1)), .int (xs (i + 2)), .ref o]) (F := wR G m w) E (wL_line (f := f) (o := o) hST hA (by omega) hC (xs (i + 1)) (xs (i + 2))) gL_law_L_line rfl hdL_line ⟨Nat.le_of_ble_eq_true rfl, Nat.le_of_ble_eq_true rfl⟩ (gPerm_rfl (gLW G o f x u m w)) rfl rfl ?_ dL_law_580 ?_ (fun r1 w1 hx => ?_)
  · exact Nat.le_of_ble_eq_true rfl
  · exact law_rm hc hs (by decide) (by decide)
  obtain ⟨f1, u1⟩ := w1
  obtain ⟨h1, h1b, h2, h3⟩ := hx
  refine g_istore (lv' := (5, .int r1) :: gLoc b0 x m o i) E dL_law_583 (by decide) rfl ?_
  refine g_aload_n E dL_law_585 rfl 3 rfl ?_
  refine g_aload_n E dL_law_586 rfl 1 rfl ?_
  refine g_iload E dL_law_587 5 rfl ?_
  refine g_iconst (v := nI 1) E dL_law_589 (by decide) ?_
  refine g_iaddN E dL_law_590 ?_
  refine g_sldN E hX hbl hbA (by omega) hL dL_law_591 ?_
  refine g_aload_n E dL_law_592 rfl 1 rfl ?_
  refine g_iload E dL_law_593 5 rfl ?_
  refine g_iconst (v := nI 2) E dL_law_595 (by decide) ?_
  refine g_iaddN E dL_law_596 ?_
  refine g_sldN E hX hbl hbA (by omega) hL dL_law_597 ?_
  refine g_callVI (As := [.int (xs (i + 1)), .int (xs (i + 2))]) (F := (o, .inl (gy G 3, 1, .inr (.inl f1))) :: wV G x u1) E (rX8_line m hA (by omega) hR (xs (i + 1)) (xs (i + 2))) gL_law_X8_line rfl hdX8_line ⟨Nat.le_of_ble_eq_true rfl, Nat.le_of_ble_eq_true rfl⟩ 8 0 rfl rfl rfl (gPerm_cm (A := (o, .inl (gy G 3, 1, .inr (.inl f1))) :: wV G x u1) (B := wR G m w)) rfl rfl ?_ dL_law_598 ?_ (fun r2 w2 hp => ?_)
  · exact Nat.le_of_ble_eq_true rfl
  · exact law_rm (a := 14) (b := 428) hc hs (by decide) (by decide)
  refine g_perm (gPerm_cm (A := wR G m w2) (B := (o, .inl (gy G 3, 1, .inr (.inl f1))) :: wV G x u1)) ?_
  refine law_tail (K := fLine A (xs (i + 1)) (xs (i + 2))) E h1 h1b h2 hp (by exact law_rm (a := 14) (b := 428) hc hs (by decide) (by decide)) dL_law_601 dL_law_603 dL_law_604 dL_law_607 dL_law_609 dL_law_614 dL_law_616 dL_law_619 dL_law_620 dL_law_621 dL_law_622 dL_law_624 dL_law_625 dL_law_626 dL_law_631 (by decide) ?_
  exact g_widen (by omega) (by omega) (next _ f1 u1 w2 (by rw [gQ_line]; exact gAok_mono hA (by omega)) h3 hp.2.2)
set_option maxHeartbeats 4000000 in
set_option maxRecDepth 100000 in
theorem law_c9 {V : gV} {G : gG} {b0 L : Nat} {xs : Nat → Int32} (E : gE V G cL_law 7 RL wsL_law room_1) (hX : va_X b0 L xs (gvS V) (gvH V)) (hbl : b0 < (gvH V).size) (hbA : ¬ gvO V b0) (hST : (gl G).stackTraces = false) (hL : L ≤ 2560) {i : Nat} (hi : i + 5 ≤ L) {A : gA} {bd : Nat} {x : gVa} {m : Nat → Nat} {o : Nat} {f : Nat → Int64} {u : gVu} {w : gRu} {cells slots : Nat} (hA : gAok bd A) (hb3 : 3600 ≤ bd) (hb : bd ≤ 40000) (hC : gClsI A u) (hR : gRefI A w) (hc : cells ≤ 20000) (hs : slots ≤ 400000)
    (next : ∀ (A' : gA) (f' : Nat → Int64) (u' : gVu) (w' : gRu), gAok (bd + 30) A' → gClsI A' u' → gRefI A' w' → gW V 7 (cells + 15) (slots + 430) (gLW G o f' x u' m w') (gLoc b0 x m o i) 2262 []) : gW V 7 cells slots (gLW G o f x u m w) (gLoc b0 x m o i) 634 [] := by
  refine g_aload_n E dL_law_634 rfl 1 rfl ?_
  refine g_aload_n E dL_law_635 rfl 0 rfl ?_
  refine g_iload E dL_law_636 4 rfl ?_
  refine g_iconst (v := nI 1) E dL_law_638 (by decide) ?_
  refine g_iaddN E dL_law_639 ?_
  refine g_sldN E hX hbl hbA (by omega) hL dL_law_640 ?_
  refine g_aload_n E dL_law_641 rfl 3 rfl ?_
  refine g_callSWI (As := [.ref (x.1 0), .int (xs (i + 1)), .ref o]) (F := wR G m w) E (wL_wishAt (f := f) (o := o) hST hA (by omega) hC (xs (i + 1))) gL_law_L_wishAt rfl hdL_wishAt ⟨Nat.le_of_ble_eq_true rfl, Nat.le_of_ble_eq_true rfl⟩ (gPerm_rfl (gLW G o f x u m w)) rfl rfl ?_ dL_law_642 ?_ (fun r1 w1 hx => ?_)
  · exact Nat.le_of_ble_eq_true rfl
  · exact law_rm hc hs (by decide) (by decide)
  obtain ⟨f1, u1⟩ := w1
  obtain ⟨h1, h1b, h2, h3⟩ := hx
  refine g_istore (lv' := (5, .int r1) :: gLoc b0 x m o i) E dL_law_645 (by decide) rfl ?_
  refine g_aload_n E dL_law_647 rfl 3 rfl ?_
  refine g_aload_n E dL_law_648 rfl 1 rfl ?_
  refine g_iload E dL_law_649 5 rfl ?_
  refine g_iconst (v := nI 1) E dL_law_651 (by decide) ?_
  refine g_iaddN E dL_law_652 ?_
  refine g_sldN E hX hbl hbA (by omega) hL dL_law_653 ?_
  refine g_callVI (As := [.int (xs (i + 1))]) (F := (o, .inl (gy G 3, 1, .inr (.inl f1))) :: wV G x u1) E (rX8_wishAt m hA (by omega) hR (xs (i + 1))) gL_law_X8_wishAt rfl hdX8_wishAt ⟨Nat.le_of_ble_eq_true rfl, Nat.le_of_ble_eq_true rfl⟩ 8 0 rfl rfl rfl (gPerm_cm (A := (o, .inl (gy G 3, 1, .inr (.inl f1))) :: wV G x u1) (B := wR G m w)) rfl rfl ?_ dL_law_654 ?_ (fun r2 w2 hp => ?_)
  · exact Nat.le_of_ble_eq_true rfl
  · exact law_rm (a := 1) (b := 6) hc hs (by decide) (by decide)
  refine g_perm (gPerm_cm (A := wR G m w2) (B := (o, .inl (gy G 3, 1, .inr (.inl f1))) :: wV G x u1)) ?_
  refine law_tail (K := fWish A (xs (i + 1))) E h1 h1b h2 hp (by exact law_rm (a := 1) (b := 6) hc hs (by decide) (by decide)) dL_law_657 dL_law_659 dL_law_660 dL_law_663 dL_law_665 dL_law_670 dL_law_672 dL_law_675 dL_law_676 dL_law_677 dL_law_678 dL_law_680 dL_law_681 dL_law_682 dL_law_687 (by decide) ?_
  exact g_widen (by omega) (by omega) (next _ f1 u1 w2 (by rw [gQ_wishAt]; exact gAok_mono hA (by omega)) h3 hp.2.2)
set_option maxHeartbeats 4000000 in
set_option maxRecDepth 100000 in
theorem law_c10 {V : gV} {G : gG} {b0 L : Nat} {xs : Nat → Int32} (E : gE V G cL_law 7 RL wsL_law room_1) (hX : va_X b0 L xs (gvS V) (gvH V)) (hbl : b0 < (gvH V).size) (hbA : ¬ gvO V b0) (hST : (gl G).stackTraces = false) (hL : L ≤ 2560) {i : Nat} (hi : i + 5 ≤ L) {A : gA} {bd : Nat} {x : gVa} {m : Nat → Nat} {o : Nat} {f : Nat → Int64} {u : gVu} {w : gRu} {cells slots : Nat} (hA : gAok bd A) (hb3 : 3600 ≤ bd) (hb : bd ≤ 40000) (hC : gClsI A u) (hR : gRefI A w) (hc : cells ≤ 20000) (hs : slots ≤ 400000)
    (next : ∀ (A' : gA) (f' : Nat → Int64) (u' : gVu) (w' : gRu), gAok (bd + 30) A' → gClsI A' u' → gRefI A' w' → gW V 7 (cells + 15) (slots + 430) (gLW G o f' x u' m w') (gLoc b0 x m o i) 2262 []) : gW V 7 cells slots (gLW G o f x u m w) (gLoc b0 x m o i) 690 [] := by
  refine g_aload_n E dL_law_690 rfl 1 rfl ?_
  refine g_aload_n E dL_law_691 rfl 0 rfl ?_
  refine g_iload E dL_law_692 4 rfl ?_
  refine g_iconst (v := nI 1) E dL_law_694 (by decide) ?_
  refine g_iaddN E dL_law_695 ?_
  refine g_sldN E hX hbl hbA (by omega) hL dL_law_696 ?_
  refine g_aload_n E dL_law_697 rfl 3 rfl ?_
  refine g_callSWI (As := [.ref (x.1 0), .int (xs (i + 1)), .ref o]) (F := wR G m w) E (wL_setting (f := f) (o := o) hST hA (by omega) hC (xs (i + 1))) gL_law_L_setting rfl hdL_setting ⟨Nat.le_of_ble_eq_true rfl, Nat.le_of_ble_eq_true rfl⟩ (gPerm_rfl (gLW G o f x u m w)) rfl rfl ?_ dL_law_698 ?_ (fun r1 w1 hx => ?_)
  · exact Nat.le_of_ble_eq_true rfl
  · exact law_rm hc hs (by decide) (by decide)
  obtain ⟨f1, u1⟩ := w1
  obtain ⟨h1, h1b, h2, h3⟩ := hx
  refine g_istore (lv' := (5, .int r1) :: gLoc b0 x m o i) E dL_law_701 (by decide) rfl ?_
  refine g_aload_n E dL_law_703 rfl 3 rfl ?_
  refine g_aload_n E dL_law_704 rfl 1 rfl ?_
  refine g_iload E dL_law_705 5 rfl ?_
  refine g_iconst (v := nI 1) E dL_law_707 (by decide) ?_
  refine g_iaddN E dL_law_708 ?_
  refine g_sldN E hX hbl hbA (by omega) hL dL_law_709 ?_
  refine g_callVI (As := [.int (xs (i + 1))]) (F := (o, .inl (gy G 3, 1, .inr (.inl f1))) :: wV G x u1) E (rX8_setting m hA (by omega) hR (xs (i + 1))) gL_law_X8_setting rfl hdX8_setting ⟨Nat.le_of_ble_eq_true rfl, Nat.le_of_ble_eq_true rfl⟩ 8 0 rfl rfl rfl (gPerm_cm (A := (o, .inl (gy G 3, 1, .inr (.inl f1))) :: wV G x u1) (B := wR G m w)) rfl rfl ?_ dL_law_710 ?_ (fun r2 w2 hp => ?_)
  · exact Nat.le_of_ble_eq_true rfl
  · exact law_rm (a := 1) (b := 6) hc hs (by decide) (by decide)
  refine g_perm (gPerm_cm (A := wR G m w2) (B := (o, .inl (gy G 3, 1, .inr (.inl f1))) :: wV G x u1)) ?_
  refine law_tail (K := fSett A (xs (i + 1))) E h1 h1b h2 hp (by exact law_rm (a := 1) (b := 6) hc hs (by decide) (by decide)) dL_law_713 dL_law_715 dL_law_716 dL_law_719 dL_law_721 dL_law_726 dL_law_728 dL_law_731 dL_law_732 dL_law_733 dL_law_734 dL_law_736 dL_law_737 dL_law_738 dL_law_743 (by decide) ?_
  exact g_widen (by omega) (by omega) (next _ f1 u1 w2 (by rw [gQ_setting]; exact gAok_mono hA (by omega)) h3 hp.2.2)
set_option maxHeartbeats 4000000 in
set_option maxRecDepth 100000 in
theorem law_c11 {V : gV} {G : gG} {b0 L : Nat} {xs : Nat → Int32} (E : gE V G cL_law 7 RL wsL_law room_1) (hX : va_X b0 L xs (gvS V) (gvH V)) (hbl : b0 < (gvH V).size) (hbA : ¬ gvO V b0) (hST : (gl G).stackTraces = false) (hL : L ≤ 2560) {i : Nat} (hi : i + 5 ≤ L) {A : gA} {bd : Nat} {x : gVa} {m : Nat → Nat} {o : Nat} {f : Nat → Int64} {u : gVu} {w : gRu} {cells slots : Nat} (hA : gAok bd A) (hb3 : 3600 ≤ bd) (hb : bd ≤ 40000) (hC : gClsI A u) (hR : gRefI A w) (hc : cells ≤ 20000) (hs : slots ≤ 400000)
    (next : ∀ (A' : gA) (f' : Nat → Int64) (u' : gVu) (w' : gRu), gAok (bd + 30) A' → gClsI A' u' → gRefI A' w' → gW V 7 (cells + 15) (slots + 430) (gLW G o f' x u' m w') (gLoc b0 x m o i) 2262 []) : gW V 7 cells slots (gLW G o f x u m w) (gLoc b0 x m o i) 746 [] := by
  refine g_aload_n E dL_law_746 rfl 1 rfl ?_
  refine g_aload_n E dL_law_747 rfl 0 rfl ?_
  refine g_iload E dL_law_748 4 rfl ?_
  refine g_iconst (v := nI 1) E dL_law_750 (by decide) ?_
  refine g_iaddN E dL_law_751 ?_
  refine g_sldN E hX hbl hbA (by omega) hL dL_law_752 ?_
  refine g_aload_n E dL_law_753 rfl 3 rfl ?_
  refine g_callSWI (As := [.ref (x.1 0), .int (xs (i + 1)), .ref o]) (F := wR G m w) E (wL_addPrisoner (f := f) (o := o) hST hA (by omega) hC (xs (i + 1))) gL_law_L_addPrisoner rfl hdL_addPrisoner ⟨Nat.le_of_ble_eq_true rfl, Nat.le_of_ble_eq_true rfl⟩ (gPerm_rfl (gLW G o f x u m w)) rfl rfl ?_ dL_law_754 ?_ (fun r1 w1 hx => ?_)
  · exact Nat.le_of_ble_eq_true rfl
  · exact law_rm hc hs (by decide) (by decide)
  obtain ⟨f1, u1⟩ := w1
  obtain ⟨h1, h1b, h2, h3⟩ := hx
  refine g_istore (lv' := (5, .int r1) :: gLoc b0 x m o i) E dL_law_757 (by decide) rfl ?_
  refine g_aload_n E dL_law_759 rfl 3 rfl ?_
  refine g_aload_n E dL_law_760 rfl 1 rfl ?_
  refine g_iload E dL_law_761 5 rfl ?_
  refine g_iconst (v := nI 1) E dL_law_763 (by decide) ?_
  refine g_iaddN E dL_law_764 ?_
  refine g_sldN E hX hbl hbA (by omega) hL dL_law_765 ?_
  refine g_callVI (As := [.int (xs (i + 1))]) (F := (o, .inl (gy G 3, 1, .inr (.inl f1))) :: wV G x u1) E (rX8_addPrisoner m hA (by omega) hR (xs (i + 1))) gL_law_X8_addPrisoner rfl hdX8_addPrisoner ⟨Nat.le_of_ble_eq_true rfl, Nat.le_of_ble_eq_true rfl⟩ 8 0 rfl rfl rfl (gPerm_cm (A := (o, .inl (gy G 3, 1, .inr (.inl f1))) :: wV G x u1) (B := wR G m w)) rfl rfl ?_ dL_law_766 ?_ (fun r2 w2 hp => ?_)
  · exact Nat.le_of_ble_eq_true rfl
  · exact law_rm (a := 1) (b := 6) hc hs (by decide) (by decide)
  refine g_perm (gPerm_cm (A := wR G m w2) (B := (o, .inl (gy G 3, 1, .inr (.inl f1))) :: wV G x u1)) ?_
  refine law_tail (K := aAct 0 1 2 A (gTryAdd (aS A) (xs (i + 1)))) E h1 h1b h2 hp (by exact law_rm (a := 1) (b := 6) hc hs (by decide) (by decide)) dL_law_769 dL_law_771 dL_law_772 dL_law_775 dL_law_777 dL_law_782 dL_law_784 dL_law_787 dL_law_788 dL_law_789 dL_law_790 dL_law_792 dL_law_793 dL_law_794 dL_law_799 (by decide) ?_
  exact g_widen (by omega) (by omega) (next _ f1 u1 w2 (gAok_mono (gAok_act hA (gOk_tryAdd hA.2.1 _)) (by omega)) h3 hp.2.2)
set_option maxHeartbeats 4000000 in
set_option maxRecDepth 100000 in
theorem law_c12 {V : gV} {G : gG} {b0 L : Nat} {xs : Nat → Int32} (E : gE V G cL_law 7 RL wsL_law room_1) (hX : va_X b0 L xs (gvS V) (gvH V)) (hbl : b0 < (gvH V).size) (hbA : ¬ gvO V b0) (hST : (gl G).stackTraces = false) (hL : L ≤ 2560) {i : Nat} (hi : i + 5 ≤ L) {A : gA} {bd : Nat} {x : gVa} {m : Nat → Nat} {o : Nat} {f : Nat → Int64} {u : gVu} {w : gRu} {cells slots : Nat} (hA : gAok bd A) (hb3 : 3600 ≤ bd) (hb : bd ≤ 40000) (hC : gClsI A u) (hR : gRefI A w) (hc : cells ≤ 20000) (hs : slots ≤ 400000)
    (next : ∀ (A' : gA) (f' : Nat → Int64) (u' : gVu) (w' : gRu), gAok (bd + 30) A' → gClsI A' u' → gRefI A' w' → gW V 7 (cells + 15) (slots + 430) (gLW G o f' x u' m w') (gLoc b0 x m o i) 2262 []) : gW V 7 cells slots (gLW G o f x u m w) (gLoc b0 x m o i) 802 [] := by
  refine g_aload_n E dL_law_802 rfl 1 rfl ?_
  refine g_aload_n E dL_law_803 rfl 0 rfl ?_
  refine g_iload E dL_law_804 4 rfl ?_
  refine g_iconst (v := nI 1) E dL_law_806 (by decide) ?_
  refine g_iaddN E dL_law_807 ?_
  refine g_sldN E hX hbl hbA (by omega) hL dL_law_808 ?_
  refine g_aload_n E dL_law_809 rfl 0 rfl ?_
  refine g_iload E dL_law_810 4 rfl ?_
  refine g_iconst (v := nI 2) E dL_law_812 (by decide) ?_
  refine g_iaddN E dL_law_813 ?_
  refine g_sldN E hX hbl hbA (by omega) hL dL_law_814 ?_
  refine g_aload_n E dL_law_815 rfl 3 rfl ?_
  refine g_callSWI (As := [.ref (x.1 0), .int (xs (i + 1)), .int (xs (i + 2)), .ref o]) (F := wR G m w) E (wL_promote (f := f) (o := o) hST hA (by omega) hC (xs (i + 1)) (xs (i + 2))) gL_law_L_promote rfl hdL_promote ⟨Nat.le_of_ble_eq_true rfl, Nat.le_of_ble_eq_true rfl⟩ (gPerm_rfl (gLW G o f x u m w)) rfl rfl ?_ dL_law_816 ?_ (fun r1 w1 hx => ?_)
  · exact Nat.le_of_ble_eq_true rfl
  · exact law_rm hc hs (by decide) (by decide)
  obtain ⟨f1, u1⟩ := w1
  obtain ⟨h1, h1b, h2, h3⟩ := hx
  refine g_istore (lv' := (5, .int r1) :: gLoc b0 x m o i) E dL_law_819 (by decide) rfl ?_
  refine g_aload_n E dL_law_821 rfl 3 rfl ?_
  refine g_aload_n E dL_law_822 rfl 1 rfl ?_
  refine g_iload E dL_law_823 5 rfl ?_
  refine g_iconst (v := nI 1) E dL_law_825 (by decide) ?_
  refine g_iaddN E dL_law_826 ?_
  refine g_sldN E hX hbl hbA (by omega) hL dL_law_827 ?_
  refine g_aload_n E dL_law_828 rfl 1 rfl ?_
  refine g_iload E dL_law_829 5 rfl ?_
  refine g_iconst (v := nI 2) E dL_law_831 (by decide) ?_
  refine g_iaddN E dL_law_832 ?_
  refine g_sldN E hX hbl hbA (by omega) hL dL_law_833 ?_
  refine g_callVI (As := [.int (xs (i + 1)), .int (xs (i + 2))]) (F := (o, .inl (gy G 3, 1, .inr (.inl f1))) :: wV G x u1) E (rX8_promote m hA (by omega) hR (xs (i + 1)) (xs (i + 2))) gL_law_X8_promote rfl hdX8_promote ⟨Nat.le_of_ble_eq_true rfl, Nat.le_of_ble_eq_true rfl⟩ 8 0 rfl rfl rfl (gPerm_cm (A := (o, .inl (gy G 3, 1, .inr (.inl f1))) :: wV G x u1) (B := wR G m w)) rfl rfl ?_ dL_law_834 ?_ (fun r2 w2 hp => ?_)
  · exact Nat.le_of_ble_eq_true rfl
  · exact law_rm (a := 1) (b := 6) hc hs (by decide) (by decide)
  refine g_perm (gPerm_cm (A := wR G m w2) (B := (o, .inl (gy G 3, 1, .inr (.inl f1))) :: wV G x u1)) ?_
  refine law_tail (K := aAct 1 2 0 A (gTryPromote (aS A) (xs (i + 1)) (xs (i + 2)))) E h1 h1b h2 hp (by exact law_rm (a := 1) (b := 6) hc hs (by decide) (by decide)) dL_law_837 dL_law_839 dL_law_840 dL_law_843 dL_law_845 dL_law_850 dL_law_852 dL_law_855 dL_law_856 dL_law_857 dL_law_858 dL_law_860 dL_law_861 dL_law_862 dL_law_867 (by decide) ?_
  exact g_widen (by omega) (by omega) (next _ f1 u1 w2 (gAok_mono (gAok_act hA (gOk_tryPromote hA.2.1 _ _)) (by omega)) h3 hp.2.2)
set_option maxHeartbeats 4000000 in
set_option maxRecDepth 100000 in
theorem law_c13 {V : gV} {G : gG} {b0 L : Nat} {xs : Nat → Int32} (E : gE V G cL_law 7 RL wsL_law room_1) (hX : va_X b0 L xs (gvS V) (gvH V)) (hbl : b0 < (gvH V).size) (hbA : ¬ gvO V b0) (hST : (gl G).stackTraces = false) (hL : L ≤ 2560) {i : Nat} (hi : i + 5 ≤ L) {A : gA} {bd : Nat} {x : gVa} {m : Nat → Nat} {o : Nat} {f : Nat → Int64} {u : gVu} {w : gRu} {cells slots : Nat} (hA : gAok bd A) (hb3 : 3600 ≤ bd) (hb : bd ≤ 40000) (hC : gClsI A u) (hR : gRefI A w) (hc : cells ≤ 20000) (hs : slots ≤ 400000)
    (next : ∀ (A' : gA) (f' : Nat → Int64) (u' : gVu) (w' : gRu), gAok (bd + 30) A' → gClsI A' u' → gRefI A' w' → gW V 7 (cells + 15) (slots + 430) (gLW G o f' x u' m w') (gLoc b0 x m o i) 2262 []) : gW V 7 cells slots (gLW G o f x u m w) (gLoc b0 x m o i) 870 [] := by
  refine g_aload_n E dL_law_870 rfl 1 rfl ?_
  refine g_aload_n E dL_law_871 rfl 0 rfl ?_
  refine g_iload E dL_law_872 4 rfl ?_
  refine g_iconst (v := nI 1) E dL_law_874 (by decide) ?_
  refine g_iaddN E dL_law_875 ?_
  refine g_sldN E hX hbl hbA (by omega) hL dL_law_876 ?_
  refine g_aload_n E dL_law_877 rfl 0 rfl ?_
  refine g_iload E dL_law_878 4 rfl ?_
  refine g_iconst (v := nI 2) E dL_law_880 (by decide) ?_
  refine g_iaddN E dL_law_881 ?_
  refine g_sldN E hX hbl hbA (by omega) hL dL_law_882 ?_
  refine g_aload_n E dL_law_883 rfl 0 rfl ?_
  refine g_iload E dL_law_884 4 rfl ?_
  refine g_iconst (v := nI 3) E dL_law_886 (by decide) ?_
  refine g_iaddN E dL_law_887 ?_
  refine g_sldN E hX hbl hbA (by omega) hL dL_law_888 ?_
  refine law_bool E dL_law_889 dL_law_892 dL_law_893 dL_law_896 (by decide) (by decide) ?_
  refine g_aload_n E dL_law_897 rfl 3 rfl ?_
  refine g_callSWI (As := [.ref (x.1 0), .int (xs (i + 1)), .int (xs (i + 2)), .int (if xs (i + 3) = 0 then 0 else 1 : Int32), .ref o]) (F := wR G m w) E (wL_list (f := f) (o := o) hST hA (by omega) hC (xs (i + 1)) (xs (i + 2)) (if xs (i + 3) = 0 then 0 else 1 : Int32)) gL_law_L_list rfl hdL_list ⟨Nat.le_of_ble_eq_true rfl, Nat.le_of_ble_eq_true rfl⟩ (gPerm_rfl (gLW G o f x u m w)) rfl rfl ?_ dL_law_898 ?_ (fun r1 w1 hx => ?_)
  · exact Nat.le_of_ble_eq_true rfl
  · exact law_rm hc hs (by decide) (by decide)
  obtain ⟨f1, u1⟩ := w1
  obtain ⟨h1, h1b, h2, h3⟩ := hx
  refine g_istore (lv' := (5, .int r1) :: gLoc b0 x m o i) E dL_law_901 (by decide) rfl ?_
  refine g_aload_n E dL_law_903 rfl 3 rfl ?_
  refine g_aload_n E dL_law_904 rfl 1 rfl ?_
  refine g_iload E dL_law_905 5 rfl ?_
  refine g_iconst (v := nI 1) E dL_law_907 (by decide) ?_
  refine g_iaddN E dL_law_908 ?_
  refine g_sldN E hX hbl hbA (by omega) hL dL_law_909 ?_
  refine g_aload_n E dL_law_910 rfl 1 rfl ?_
  refine g_iload E dL_law_911 5 rfl ?_
  refine g_iconst (v := nI 2) E dL_law_913 (by decide) ?_
  refine g_iaddN E dL_law_914 ?_
  refine g_sldN E hX hbl hbA (by omega) hL dL_law_915 ?_
  refine g_aload_n E dL_law_916 rfl 1 rfl ?_
  refine g_iload E dL_law_917 5 rfl ?_
  refine g_iconst (v := nI 3) E dL_law_919 (by decide) ?_
  refine g_iaddN E dL_law_920 ?_
  refine g_sldN E hX hbl hbA (by omega) hL dL_law_921 ?_
  refine law_bool E dL_law_922 dL_law_925 dL_law_926 dL_law_929 (by decide) (by decide) ?_
  refine g_callVI (As := [.int (xs (i + 1)), .int (xs (i + 2)), .int (if xs (i + 3) = 0 then 0 else 1 : Int32)]) (F := (o, .inl (gy G 3, 1, .inr (.inl f1))) :: wV G x u1) E (rX8_list m hA (by omega) hR (xs (i + 1)) (xs (i + 2)) (if xs (i + 3) = 0 then 0 else 1 : Int32)) gL_law_X8_list rfl hdX8_list ⟨Nat.le_of_ble_eq_true rfl, Nat.le_of_ble_eq_true rfl⟩ 8 0 rfl rfl rfl (gPerm_cm (A := (o, .inl (gy G 3, 1, .inr (.inl f1))) :: wV G x u1) (B := wR G m w)) rfl rfl ?_ dL_law_930 ?_ (fun r2 w2 hp => ?_)
  · exact Nat.le_of_ble_eq_true rfl
  · exact law_rm (a := 1) (b := 6) hc hs (by decide) (by decide)
  refine g_perm (gPerm_cm (A := wR G m w2) (B := (o, .inl (gy G 3, 1, .inr (.inl f1))) :: wV G x u1)) ?_
  refine law_tail (K := aAct 1 0 0 A (gTryList (aS A) (xs (i + 1)) (xs (i + 2)) (if xs (i + 3) = 0 then 0 else 1 : Int32))) E h1 h1b h2 hp (by exact law_rm (a := 1) (b := 6) hc hs (by decide) (by decide)) dL_law_933 dL_law_935 dL_law_936 dL_law_939 dL_law_941 dL_law_946 dL_law_948 dL_law_951 dL_law_952 dL_law_953 dL_law_954 dL_law_956 dL_law_957 dL_law_958 dL_law_963 (by decide) ?_
  exact g_widen (by omega) (by omega) (next _ f1 u1 w2 (gAok_mono (gAok_act hA (gOk_tryList hA.2.1 _ _ _)) (by omega)) h3 hp.2.2)
set_option maxHeartbeats 4000000 in
set_option maxRecDepth 100000 in
theorem law_c14 {V : gV} {G : gG} {b0 L : Nat} {xs : Nat → Int32} (E : gE V G cL_law 7 RL wsL_law room_1) (hX : va_X b0 L xs (gvS V) (gvH V)) (hbl : b0 < (gvH V).size) (hbA : ¬ gvO V b0) (hST : (gl G).stackTraces = false) (hL : L ≤ 2560) {i : Nat} (hi : i + 5 ≤ L) {A : gA} {bd : Nat} {x : gVa} {m : Nat → Nat} {o : Nat} {f : Nat → Int64} {u : gVu} {w : gRu} {cells slots : Nat} (hA : gAok bd A) (hb3 : 3600 ≤ bd) (hb : bd ≤ 40000) (hC : gClsI A u) (hR : gRefI A w) (hc : cells ≤ 20000) (hs : slots ≤ 400000)
    (next : ∀ (A' : gA) (f' : Nat → Int64) (u' : gVu) (w' : gRu), gAok (bd + 30) A' → gClsI A' u' → gRefI A' w' → gW V 7 (cells + 15) (slots + 430) (gLW G o f' x u' m w') (gLoc b0 x m o i) 2262 []) : gW V 7 cells slots (gLW G o f x u m w) (gLoc b0 x m o i) 966 [] := by
  refine g_aload_n E dL_law_966 rfl 1 rfl ?_
  refine g_aload_n E dL_law_967 rfl 0 rfl ?_
  refine g_iload E dL_law_968 4 rfl ?_
  refine g_iconst (v := nI 1) E dL_law_970 (by decide) ?_
  refine g_iaddN E dL_law_971 ?_
  refine g_sldN E hX hbl hbA (by omega) hL dL_law_972 ?_
  refine g_aload_n E dL_law_973 rfl 0 rfl ?_
  refine g_iload E dL_law_974 4 rfl ?_
  refine g_iconst (v := nI 2) E dL_law_976 (by decide) ?_
  refine g_iaddN E dL_law_977 ?_
  refine g_sldN E hX hbl hbA (by omega) hL dL_law_978 ?_
  refine g_aload_n E dL_law_979 rfl 0 rfl ?_
  refine g_iload E dL_law_980 4 rfl ?_
  refine g_iconst (v := nI 3) E dL_law_982 (by decide) ?_
  refine g_iaddN E dL_law_983 ?_
  refine g_sldN E hX hbl hbA (by omega) hL dL_law_984 ?_
  refine law_bool E dL_law_985 dL_law_988 dL_law_989 dL_law_992 (by decide) (by decide) ?_
  refine g_aload_n E dL_law_993 rfl 3 rfl ?_
  refine g_callSWI (As := [.ref (x.1 0), .int (xs (i + 1)), .int (xs (i + 2)), .int (if xs (i + 3) = 0 then 0 else 1 : Int32), .ref o]) (F := wR G m w) E (wL_keepApart (f := f) (o := o) hST hA (by omega) hC (xs (i + 1)) (xs (i + 2)) (if xs (i + 3) = 0 then 0 else 1 : Int32)) gL_law_L_keepApart rfl hdL_keepApart ⟨Nat.le_of_ble_eq_true rfl, Nat.le_of_ble_eq_true rfl⟩ (gPerm_rfl (gLW G o f x u m w)) rfl rfl ?_ dL_law_994 ?_ (fun r1 w1 hx => ?_)
  · exact Nat.le_of_ble_eq_true rfl
  · exact law_rm hc hs (by decide) (by decide)
  obtain ⟨f1, u1⟩ := w1
  obtain ⟨h1, h1b, h2, h3⟩ := hx
  refine g_istore (lv' := (5, .int r1) :: gLoc b0 x m o i) E dL_law_997 (by decide) rfl ?_
  refine g_aload_n E dL_law_999 rfl 3 rfl ?_
  refine g_aload_n E dL_law_1000 rfl 1 rfl ?_
  refine g_iload E dL_law_1001 5 rfl ?_
  refine g_iconst (v := nI 1) E dL_law_1003 (by decide) ?_
  refine g_iaddN E dL_law_1004 ?_
  refine g_sldN E hX hbl hbA (by omega) hL dL_law_1005 ?_
  refine g_aload_n E dL_law_1006 rfl 1 rfl ?_
  refine g_iload E dL_law_1007 5 rfl ?_
  refine g_iconst (v := nI 2) E dL_law_1009 (by decide) ?_
  refine g_iaddN E dL_law_1010 ?_
  refine g_sldN E hX hbl hbA (by omega) hL dL_law_1011 ?_
  refine g_aload_n E dL_law_1012 rfl 1 rfl ?_
  refine g_iload E dL_law_1013 5 rfl ?_
  refine g_iconst (v := nI 3) E dL_law_1015 (by decide) ?_
  refine g_iaddN E dL_law_1016 ?_
  refine g_sldN E hX hbl hbA (by omega) hL dL_law_1017 ?_
  refine law_bool E dL_law_1018 dL_law_1021 dL_law_1022 dL_law_1025 (by decide) (by decide) ?_
  refine g_callVI (As := [.int (xs (i + 1)), .int (xs (i + 2)), .int (if xs (i + 3) = 0 then 0 else 1 : Int32)]) (F := (o, .inl (gy G 3, 1, .inr (.inl f1))) :: wV G x u1) E (rX8_keepApart m hA (by omega) hR (xs (i + 1)) (xs (i + 2)) (if xs (i + 3) = 0 then 0 else 1 : Int32)) gL_law_X8_keepApart rfl hdX8_keepApart ⟨Nat.le_of_ble_eq_true rfl, Nat.le_of_ble_eq_true rfl⟩ 8 0 rfl rfl rfl (gPerm_cm (A := (o, .inl (gy G 3, 1, .inr (.inl f1))) :: wV G x u1) (B := wR G m w)) rfl rfl ?_ dL_law_1026 ?_ (fun r2 w2 hp => ?_)
  · exact Nat.le_of_ble_eq_true rfl
  · exact law_rm (a := 1) (b := 6) hc hs (by decide) (by decide)
  refine g_perm (gPerm_cm (A := wR G m w2) (B := (o, .inl (gy G 3, 1, .inr (.inl f1))) :: wV G x u1)) ?_
  refine law_tail (K := aAct 1 0 2 A (gTryApart (aS A) (xs (i + 1)) (xs (i + 2)) (if xs (i + 3) = 0 then 0 else 1 : Int32))) E h1 h1b h2 hp (by exact law_rm (a := 1) (b := 6) hc hs (by decide) (by decide)) dL_law_1029 dL_law_1031 dL_law_1032 dL_law_1035 dL_law_1037 dL_law_1042 dL_law_1044 dL_law_1047 dL_law_1048 dL_law_1049 dL_law_1050 dL_law_1052 dL_law_1053 dL_law_1054 dL_law_1059 (by decide) ?_
  exact g_widen (by omega) (by omega) (next _ f1 u1 w2 (gAok_mono (gAok_act hA (gOk_tryApart hA.2.1 _ _ _)) (by omega)) h3 hp.2.2)
set_option maxHeartbeats 4000000 in
set_option maxRecDepth 100000 in
theorem law_c15 {V : gV} {G : gG} {b0 L : Nat} {xs : Nat → Int32} (E : gE V G cL_law 7 RL wsL_law room_1) (hX : va_X b0 L xs (gvS V) (gvH V)) (hbl : b0 < (gvH V).size) (hbA : ¬ gvO V b0) (hST : (gl G).stackTraces = false) (hL : L ≤ 2560) {i : Nat} (hi : i + 5 ≤ L) {A : gA} {bd : Nat} {x : gVa} {m : Nat → Nat} {o : Nat} {f : Nat → Int64} {u : gVu} {w : gRu} {cells slots : Nat} (hA : gAok bd A) (hb3 : 3600 ≤ bd) (hb : bd ≤ 40000) (hC : gClsI A u) (hR : gRefI A w) (hc : cells ≤ 20000) (hs : slots ≤ 400000)
    (next : ∀ (A' : gA) (f' : Nat → Int64) (u' : gVu) (w' : gRu), gAok (bd + 30) A' → gClsI A' u' → gRefI A' w' → gW V 7 (cells + 15) (slots + 430) (gLW G o f' x u' m w') (gLoc b0 x m o i) 2262 []) : gW V 7 cells slots (gLW G o f x u m w) (gLoc b0 x m o i) 1062 [] := by
  refine g_aload_n E dL_law_1062 rfl 1 rfl ?_
  refine g_aload_n E dL_law_1063 rfl 0 rfl ?_
  refine g_iload E dL_law_1064 4 rfl ?_
  refine g_iconst (v := nI 1) E dL_law_1066 (by decide) ?_
  refine g_iaddN E dL_law_1067 ?_
  refine g_sldN E hX hbl hbA (by omega) hL dL_law_1068 ?_
  refine g_aload_n E dL_law_1069 rfl 0 rfl ?_
  refine g_iload E dL_law_1070 4 rfl ?_
  refine g_iconst (v := nI 2) E dL_law_1072 (by decide) ?_
  refine g_iaddN E dL_law_1073 ?_
  refine g_sldN E hX hbl hbA (by omega) hL dL_law_1074 ?_
  refine g_aload_n E dL_law_1075 rfl 0 rfl ?_
  refine g_iload E dL_law_1076 4 rfl ?_
  refine g_iconst (v := nI 3) E dL_law_1078 (by decide) ?_
  refine g_iaddN E dL_law_1079 ?_
  refine g_sldN E hX hbl hbA (by omega) hL dL_law_1080 ?_
  refine g_aload_n E dL_law_1081 rfl 0 rfl ?_
  refine g_iload E dL_law_1082 4 rfl ?_
  refine g_iconst (v := nI 4) E dL_law_1084 (by decide) ?_
  refine g_iaddN E dL_law_1085 ?_
  refine g_sldN E hX hbl hbA (by omega) hL dL_law_1086 ?_
  refine g_aload_n E dL_law_1087 rfl 3 rfl ?_
  refine g_callSWI (As := [.ref (x.1 0), .int (xs (i + 1)), .int (xs (i + 2)), .int (xs (i + 3)), .int (xs (i + 4)), .ref o]) (F := wR G m w) E (wL_book (f := f) (o := o) hST hA (by omega) hC (xs (i + 1)) (xs (i + 2)) (xs (i + 3)) (xs (i + 4))) gL_law_L_book rfl hdL_book ⟨Nat.le_of_ble_eq_true rfl, Nat.le_of_ble_eq_true rfl⟩ (gPerm_rfl (gLW G o f x u m w)) rfl rfl ?_ dL_law_1088 ?_ (fun r1 w1 hx => ?_)
  · exact Nat.le_of_ble_eq_true rfl
  · exact law_rm hc hs (by decide) (by decide)
  obtain ⟨f1, u1⟩ := w1
  obtain ⟨h1, h1b, h2, h3⟩ := hx
  refine g_istore (lv' := (5, .int r1) :: gLoc b0 x m o i) E dL_law_1091 (by decide) rfl ?_
  refine g_aload_n E dL_law_1093 rfl 3 rfl ?_
  refine g_aload_n E dL_law_1094 rfl 1 rfl ?_
  refine g_iload E dL_law_1095 5 rfl ?_
  refine g_iconst (v := nI 1) E dL_law_1097 (by decide) ?_
  refine g_iaddN E dL_law_1098 ?_
  refine g_sldN E hX hbl hbA (by omega) hL dL_law_1099 ?_
  refine g_aload_n E dL_law_1100 rfl 1 rfl ?_
  refine g_iload E dL_law_1101 5 rfl ?_
  refine g_iconst (v := nI 2) E dL_law_1103 (by decide) ?_
  refine g_iaddN E dL_law_1104 ?_
  refine g_sldN E hX hbl hbA (by omega) hL dL_law_1105 ?_
  refine g_aload_n E dL_law_1106 rfl 1 rfl ?_
  refine g_iload E dL_law_1107 5 rfl ?_
  refine g_iconst (v := nI 3) E dL_law_1109 (by decide) ?_
  refine g_iaddN E dL_law_1110 ?_
  refine g_sldN E hX hbl hbA (by omega) hL dL_law_1111 ?_
  refine g_aload_n E dL_law_1112 rfl 1 rfl ?_
  refine g_iload E dL_law_1113 5 rfl ?_
  refine g_iconst (v := nI 4) E dL_law_1115 (by decide) ?_
  refine g_iaddN E dL_law_1116 ?_
  refine g_sldN E hX hbl hbA (by omega) hL dL_law_1117 ?_
  refine g_callVI (As := [.int (xs (i + 1)), .int (xs (i + 2)), .int (xs (i + 3)), .int (xs (i + 4))]) (F := (o, .inl (gy G 3, 1, .inr (.inl f1))) :: wV G x u1) E (rX8_book m hA (by omega) hR (xs (i + 1)) (xs (i + 2)) (xs (i + 3)) (xs (i + 4))) gL_law_X8_book rfl hdX8_book ⟨Nat.le_of_ble_eq_true rfl, Nat.le_of_ble_eq_true rfl⟩ 8 0 rfl rfl rfl (gPerm_cm (A := (o, .inl (gy G 3, 1, .inr (.inl f1))) :: wV G x u1) (B := wR G m w)) rfl rfl ?_ dL_law_1118 ?_ (fun r2 w2 hp => ?_)
  · exact Nat.le_of_ble_eq_true rfl
  · exact law_rm (a := 1) (b := 6) hc hs (by decide) (by decide)
  refine g_perm (gPerm_cm (A := wR G m w2) (B := (o, .inl (gy G 3, 1, .inr (.inl f1))) :: wV G x u1)) ?_
  refine law_tail (K := aAct 1 2 3 A (gTryBook (aS A) (xs (i + 1)) (xs (i + 2)) (xs (i + 3)) (xs (i + 4)))) E h1 h1b h2 hp (by exact law_rm (a := 1) (b := 6) hc hs (by decide) (by decide)) dL_law_1121 dL_law_1123 dL_law_1124 dL_law_1127 dL_law_1129 dL_law_1134 dL_law_1136 dL_law_1139 dL_law_1140 dL_law_1141 dL_law_1142 dL_law_1144 dL_law_1145 dL_law_1146 dL_law_1151 (by decide) ?_
  exact g_widen (by omega) (by omega) (next _ f1 u1 w2 (gAok_mono (gAok_act hA (gOk_tryBook hA.2.1 (by omega) _ _ _ _)) (by omega)) h3 hp.2.2)
set_option maxHeartbeats 4000000 in
set_option maxRecDepth 100000 in
theorem law_c16 {V : gV} {G : gG} {b0 L : Nat} {xs : Nat → Int32} (E : gE V G cL_law 7 RL wsL_law room_1) (hX : va_X b0 L xs (gvS V) (gvH V)) (hbl : b0 < (gvH V).size) (hbA : ¬ gvO V b0) (hST : (gl G).stackTraces = false) (hL : L ≤ 2560) {i : Nat} (hi : i + 5 ≤ L) {A : gA} {bd : Nat} {x : gVa} {m : Nat → Nat} {o : Nat} {f : Nat → Int64} {u : gVu} {w : gRu} {cells slots : Nat} (hA : gAok bd A) (hb3 : 3600 ≤ bd) (hb : bd ≤ 40000) (hC : gClsI A u) (hR : gRefI A w) (hc : cells ≤ 20000) (hs : slots ≤ 400000)
    (next : ∀ (A' : gA) (f' : Nat → Int64) (u' : gVu) (w' : gRu), gAok (bd + 30) A' → gClsI A' u' → gRefI A' w' → gW V 7 (cells + 15) (slots + 430) (gLW G o f' x u' m w') (gLoc b0 x m o i) 2262 []) : gW V 7 cells slots (gLW G o f x u m w) (gLoc b0 x m o i) 1154 [] := by
  refine g_aload_n E dL_law_1154 rfl 1 rfl ?_
  refine g_aload_n E dL_law_1155 rfl 0 rfl ?_
  refine g_iload E dL_law_1156 4 rfl ?_
  refine g_iconst (v := nI 1) E dL_law_1158 (by decide) ?_
  refine g_iaddN E dL_law_1159 ?_
  refine g_sldN E hX hbl hbA (by omega) hL dL_law_1160 ?_
  refine g_aload_n E dL_law_1161 rfl 3 rfl ?_
  refine g_callSWI (As := [.ref (x.1 0), .int (xs (i + 1)), .ref o]) (F := wR G m w) E (wL_cancel (f := f) (o := o) hST hA (by omega) hC (xs (i + 1))) gL_law_L_cancel rfl hdL_cancel ⟨Nat.le_of_ble_eq_true rfl, Nat.le_of_ble_eq_true rfl⟩ (gPerm_rfl (gLW G o f x u m w)) rfl rfl ?_ dL_law_1162 ?_ (fun r1 w1 hx => ?_)
  · exact Nat.le_of_ble_eq_true rfl
  · exact law_rm hc hs (by decide) (by decide)
  obtain ⟨f1, u1⟩ := w1
  obtain ⟨h1, h1b, h2, h3⟩ := hx
  refine g_istore (lv' := (5, .int r1) :: gLoc b0 x m o i) E dL_law_1165 (by decide) rfl ?_
  refine g_aload_n E dL_law_1167 rfl 3 rfl ?_
  refine g_aload_n E dL_law_1168 rfl 1 rfl ?_
  refine g_iload E dL_law_1169 5 rfl ?_
  refine g_iconst (v := nI 1) E dL_law_1171 (by decide) ?_
  refine g_iaddN E dL_law_1172 ?_
  refine g_sldN E hX hbl hbA (by omega) hL dL_law_1173 ?_
  refine g_callVI (As := [.int (xs (i + 1))]) (F := (o, .inl (gy G 3, 1, .inr (.inl f1))) :: wV G x u1) E (rX8_cancel m hA (by omega) hR (xs (i + 1))) gL_law_X8_cancel rfl hdX8_cancel ⟨Nat.le_of_ble_eq_true rfl, Nat.le_of_ble_eq_true rfl⟩ 8 0 rfl rfl rfl (gPerm_cm (A := (o, .inl (gy G 3, 1, .inr (.inl f1))) :: wV G x u1) (B := wR G m w)) rfl rfl ?_ dL_law_1174 ?_ (fun r2 w2 hp => ?_)
  · exact Nat.le_of_ble_eq_true rfl
  · exact law_rm (a := 1) (b := 6) hc hs (by decide) (by decide)
  refine g_perm (gPerm_cm (A := wR G m w2) (B := (o, .inl (gy G 3, 1, .inr (.inl f1))) :: wV G x u1)) ?_
  refine law_tail (K := aAct 1 0 0 A (gTryCancel (aS A) (xs (i + 1)))) E h1 h1b h2 hp (by exact law_rm (a := 1) (b := 6) hc hs (by decide) (by decide)) dL_law_1177 dL_law_1179 dL_law_1180 dL_law_1183 dL_law_1185 dL_law_1190 dL_law_1192 dL_law_1195 dL_law_1196 dL_law_1197 dL_law_1198 dL_law_1200 dL_law_1201 dL_law_1202 dL_law_1207 (by decide) ?_
  exact g_widen (by omega) (by omega) (next _ f1 u1 w2 (gAok_mono (gAok_act hA (gOk_tryCancel hA.2.1 _)) (by omega)) h3 hp.2.2)
set_option maxHeartbeats 4000000 in
set_option maxRecDepth 100000 in
theorem law_c17 {V : gV} {G : gG} {b0 L : Nat} {xs : Nat → Int32} (E : gE V G cL_law 7 RL wsL_law room_1) (hX : va_X b0 L xs (gvS V) (gvH V)) (hbl : b0 < (gvH V).size) (hbA : ¬ gvO V b0) (hST : (gl G).stackTraces = false) (hL : L ≤ 2560) {i : Nat} (hi : i + 5 ≤ L) {A : gA} {bd : Nat} {x : gVa} {m : Nat → Nat} {o : Nat} {f : Nat → Int64} {u : gVu} {w : gRu} {cells slots : Nat} (hA : gAok bd A) (hb3 : 3600 ≤ bd) (hb : bd ≤ 40000) (hC : gClsI A u) (hR : gRefI A w) (hc : cells ≤ 20000) (hs : slots ≤ 400000)
    (next : ∀ (A' : gA) (f' : Nat → Int64) (u' : gVu) (w' : gRu), gAok (bd + 30) A' → gClsI A' u' → gRefI A' w' → gW V 7 (cells + 15) (slots + 430) (gLW G o f' x u' m w') (gLoc b0 x m o i) 2262 []) : gW V 7 cells slots (gLW G o f x u m w) (gLoc b0 x m o i) 1210 [] := by
  refine g_aload_n E dL_law_1210 rfl 1 rfl ?_
  refine g_aload_n E dL_law_1211 rfl 0 rfl ?_
  refine g_iload E dL_law_1212 4 rfl ?_
  refine g_iconst (v := nI 1) E dL_law_1214 (by decide) ?_
  refine g_iaddN E dL_law_1215 ?_
  refine g_sldN E hX hbl hbA (by omega) hL dL_law_1216 ?_
  refine g_aload_n E dL_law_1217 rfl 0 rfl ?_
  refine g_iload E dL_law_1218 4 rfl ?_
  refine g_iconst (v := nI 2) E dL_law_1220 (by decide) ?_
  refine g_iaddN E dL_law_1221 ?_
  refine g_sldN E hX hbl hbA (by omega) hL dL_law_1222 ?_
  refine g_aload_n E dL_law_1223 rfl 3 rfl ?_
  refine g_callSWI (As := [.ref (x.1 0), .int (xs (i + 1)), .int (xs (i + 2)), .ref o]) (F := wR G m w) E (wL_late (f := f) (o := o) hST hA (by omega) hC (xs (i + 1)) (xs (i + 2))) gL_law_L_late rfl hdL_late ⟨Nat.le_of_ble_eq_true rfl, Nat.le_of_ble_eq_true rfl⟩ (gPerm_rfl (gLW G o f x u m w)) rfl rfl ?_ dL_law_1224 ?_ (fun r1 w1 hx => ?_)
  · exact Nat.le_of_ble_eq_true rfl
  · exact law_rm hc hs (by decide) (by decide)
  obtain ⟨f1, u1⟩ := w1
  obtain ⟨h1, h1b, h2, h3⟩ := hx
  refine g_istore (lv' := (5, .int r1) :: gLoc b0 x m o i) E dL_law_1227 (by decide) rfl ?_
  refine g_aload_n E dL_law_1229 rfl 3 rfl ?_
  refine g_aload_n E dL_law_1230 rfl 1 rfl ?_
  refine g_iload E dL_law_1231 5 rfl ?_
  refine g_iconst (v := nI 1) E dL_law_1233 (by decide) ?_
  refine g_iaddN E dL_law_1234 ?_
  refine g_sldN E hX hbl hbA (by omega) hL dL_law_1235 ?_
  refine g_aload_n E dL_law_1236 rfl 1 rfl ?_
  refine g_iload E dL_law_1237 5 rfl ?_
  refine g_iconst (v := nI 2) E dL_law_1239 (by decide) ?_
  refine g_iaddN E dL_law_1240 ?_
  refine g_sldN E hX hbl hbA (by omega) hL dL_law_1241 ?_
  refine g_callVI (As := [.int (xs (i + 1)), .int (xs (i + 2))]) (F := (o, .inl (gy G 3, 1, .inr (.inl f1))) :: wV G x u1) E (rX8_late m hA (by omega) hR (xs (i + 1)) (xs (i + 2))) gL_law_X8_late rfl hdX8_late ⟨Nat.le_of_ble_eq_true rfl, Nat.le_of_ble_eq_true rfl⟩ 8 0 rfl rfl rfl (gPerm_cm (A := (o, .inl (gy G 3, 1, .inr (.inl f1))) :: wV G x u1) (B := wR G m w)) rfl rfl ?_ dL_law_1242 ?_ (fun r2 w2 hp => ?_)
  · exact Nat.le_of_ble_eq_true rfl
  · exact law_rm (a := 1) (b := 6) hc hs (by decide) (by decide)
  refine g_perm (gPerm_cm (A := wR G m w2) (B := (o, .inl (gy G 3, 1, .inr (.inl f1))) :: wV G x u1)) ?_
  refine law_tail (K := aAct 1 2 0 A (gTryLate (aS A) (xs (i + 1)) (xs (i + 2)))) E h1 h1b h2 hp (by exact law_rm (a := 1) (b := 6) hc hs (by decide) (by decide)) dL_law_1245 dL_law_1247 dL_law_1248 dL_law_1251 dL_law_1253 dL_law_1258 dL_law_1260 dL_law_1263 dL_law_1264 dL_law_1265 dL_law_1266 dL_law_1268 dL_law_1269 dL_law_1270 dL_law_1275 (by decide) ?_
  exact g_widen (by omega) (by omega) (next _ f1 u1 w2 (gAok_mono (gAok_act hA (gOk_tryLate hA.2.1 _ _)) (by omega)) h3 hp.2.2)
set_option maxHeartbeats 4000000 in
set_option maxRecDepth 100000 in
theorem law_c18 {V : gV} {G : gG} {b0 L : Nat} {xs : Nat → Int32} (E : gE V G cL_law 7 RL wsL_law room_1) (hX : va_X b0 L xs (gvS V) (gvH V)) (hbl : b0 < (gvH V).size) (hbA : ¬ gvO V b0) (hST : (gl G).stackTraces = false) (hL : L ≤ 2560) {i : Nat} (hi : i + 5 ≤ L) {A : gA} {bd : Nat} {x : gVa} {m : Nat → Nat} {o : Nat} {f : Nat → Int64} {u : gVu} {w : gRu} {cells slots : Nat} (hA : gAok bd A) (hb3 : 3600 ≤ bd) (hb : bd ≤ 40000) (hC : gClsI A u) (hR : gRefI A w) (hc : cells ≤ 20000) (hs : slots ≤ 400000)
    (next : ∀ (A' : gA) (f' : Nat → Int64) (u' : gVu) (w' : gRu), gAok (bd + 30) A' → gClsI A' u' → gRefI A' w' → gW V 7 (cells + 15) (slots + 430) (gLW G o f' x u' m w') (gLoc b0 x m o i) 2262 []) : gW V 7 cells slots (gLW G o f x u m w) (gLoc b0 x m o i) 1278 [] := by
  refine g_aload_n E dL_law_1278 rfl 1 rfl ?_
  refine g_aload_n E dL_law_1279 rfl 0 rfl ?_
  refine g_iload E dL_law_1280 4 rfl ?_
  refine g_iconst (v := nI 1) E dL_law_1282 (by decide) ?_
  refine g_iaddN E dL_law_1283 ?_
  refine g_sldN E hX hbl hbA (by omega) hL dL_law_1284 ?_
  refine g_aload_n E dL_law_1285 rfl 0 rfl ?_
  refine g_iload E dL_law_1286 4 rfl ?_
  refine g_iconst (v := nI 2) E dL_law_1288 (by decide) ?_
  refine g_iaddN E dL_law_1289 ?_
  refine g_sldN E hX hbl hbA (by omega) hL dL_law_1290 ?_
  refine law_bool E dL_law_1291 dL_law_1294 dL_law_1295 dL_law_1298 (by decide) (by decide) ?_
  refine g_aload_n E dL_law_1299 rfl 3 rfl ?_
  refine g_callSWI (As := [.ref (x.1 0), .int (xs (i + 1)), .int (if xs (i + 2) = 0 then 0 else 1 : Int32), .ref o]) (F := wR G m w) E (wL_carry (f := f) (o := o) hST hA (by omega) hC (xs (i + 1)) (if xs (i + 2) = 0 then 0 else 1 : Int32)) gL_law_L_carry rfl hdL_carry ⟨Nat.le_of_ble_eq_true rfl, Nat.le_of_ble_eq_true rfl⟩ (gPerm_rfl (gLW G o f x u m w)) rfl rfl ?_ dL_law_1300 ?_ (fun r1 w1 hx => ?_)
  · exact Nat.le_of_ble_eq_true rfl
  · exact law_rm hc hs (by decide) (by decide)
  obtain ⟨f1, u1⟩ := w1
  obtain ⟨h1, h1b, h2, h3⟩ := hx
  refine g_istore (lv' := (5, .int r1) :: gLoc b0 x m o i) E dL_law_1303 (by decide) rfl ?_
  refine g_aload_n E dL_law_1305 rfl 3 rfl ?_
  refine g_aload_n E dL_law_1306 rfl 1 rfl ?_
  refine g_iload E dL_law_1307 5 rfl ?_
  refine g_iconst (v := nI 1) E dL_law_1309 (by decide) ?_
  refine g_iaddN E dL_law_1310 ?_
  refine g_sldN E hX hbl hbA (by omega) hL dL_law_1311 ?_
  refine g_aload_n E dL_law_1312 rfl 1 rfl ?_
  refine g_iload E dL_law_1313 5 rfl ?_
  refine g_iconst (v := nI 2) E dL_law_1315 (by decide) ?_
  refine g_iaddN E dL_law_1316 ?_
  refine g_sldN E hX hbl hbA (by omega) hL dL_law_1317 ?_
  refine law_bool E dL_law_1318 dL_law_1321 dL_law_1322 dL_law_1325 (by decide) (by decide) ?_
  refine g_callVI (As := [.int (xs (i + 1)), .int (if xs (i + 2) = 0 then 0 else 1 : Int32)]) (F := (o, .inl (gy G 3, 1, .inr (.inl f1))) :: wV G x u1) E (rX8_carry m hA (by omega) hR (xs (i + 1)) (if xs (i + 2) = 0 then 0 else 1 : Int32)) gL_law_X8_carry rfl hdX8_carry ⟨Nat.le_of_ble_eq_true rfl, Nat.le_of_ble_eq_true rfl⟩ 8 0 rfl rfl rfl (gPerm_cm (A := (o, .inl (gy G 3, 1, .inr (.inl f1))) :: wV G x u1) (B := wR G m w)) rfl rfl ?_ dL_law_1326 ?_ (fun r2 w2 hp => ?_)
  · exact Nat.le_of_ble_eq_true rfl
  · exact law_rm (a := 1) (b := 6) hc hs (by decide) (by decide)
  refine g_perm (gPerm_cm (A := wR G m w2) (B := (o, .inl (gy G 3, 1, .inr (.inl f1))) :: wV G x u1)) ?_
  refine law_tail (K := aAct 1 0 0 A (gTryCarry (aS A) (xs (i + 1)) (if xs (i + 2) = 0 then 0 else 1 : Int32))) E h1 h1b h2 hp (by exact law_rm (a := 1) (b := 6) hc hs (by decide) (by decide)) dL_law_1329 dL_law_1331 dL_law_1332 dL_law_1335 dL_law_1337 dL_law_1342 dL_law_1344 dL_law_1347 dL_law_1348 dL_law_1349 dL_law_1350 dL_law_1352 dL_law_1353 dL_law_1354 dL_law_1359 (by decide) ?_
  exact g_widen (by omega) (by omega) (next _ f1 u1 w2 (gAok_mono (gAok_act hA (gOk_tryCarry hA.2.1 _ _)) (by omega)) h3 hp.2.2)
set_option maxHeartbeats 4000000 in
set_option maxRecDepth 100000 in
theorem law_c19 {V : gV} {G : gG} {b0 L : Nat} {xs : Nat → Int32} (E : gE V G cL_law 7 RL wsL_law room_1) (hX : va_X b0 L xs (gvS V) (gvH V)) (hbl : b0 < (gvH V).size) (hbA : ¬ gvO V b0) (hST : (gl G).stackTraces = false) (hL : L ≤ 2560) {i : Nat} (hi : i + 5 ≤ L) {A : gA} {bd : Nat} {x : gVa} {m : Nat → Nat} {o : Nat} {f : Nat → Int64} {u : gVu} {w : gRu} {cells slots : Nat} (hA : gAok bd A) (hb3 : 3600 ≤ bd) (hb : bd ≤ 40000) (hC : gClsI A u) (hR : gRefI A w) (hc : cells ≤ 20000) (hs : slots ≤ 400000)
    (next : ∀ (A' : gA) (f' : Nat → Int64) (u' : gVu) (w' : gRu), gAok (bd + 30) A' → gClsI A' u' → gRefI A' w' → gW V 7 (cells + 15) (slots + 430) (gLW G o f' x u' m w') (gLoc b0 x m o i) 2262 []) : gW V 7 cells slots (gLW G o f x u m w) (gLoc b0 x m o i) 1362 [] := by
  refine g_aload_n E dL_law_1362 rfl 1 rfl ?_
  refine g_aload_n E dL_law_1363 rfl 0 rfl ?_
  refine g_iload E dL_law_1364 4 rfl ?_
  refine g_iconst (v := nI 1) E dL_law_1366 (by decide) ?_
  refine g_iaddN E dL_law_1367 ?_
  refine g_sldN E hX hbl hbA (by omega) hL dL_law_1368 ?_
  refine g_aload_n E dL_law_1369 rfl 0 rfl ?_
  refine g_iload E dL_law_1370 4 rfl ?_
  refine g_iconst (v := nI 2) E dL_law_1372 (by decide) ?_
  refine g_iaddN E dL_law_1373 ?_
  refine g_sldN E hX hbl hbA (by omega) hL dL_law_1374 ?_
  refine g_aload_n E dL_law_1375 rfl 3 rfl ?_
  refine g_callSWI (As := [.ref (x.1 0), .int (xs (i + 1)), .int (xs (i + 2)), .ref o]) (F := wR G m w) E (wL_punish (f := f) (o := o) hST hA (by omega) hC (xs (i + 1)) (xs (i + 2))) gL_law_L_punish rfl hdL_punish ⟨Nat.le_of_ble_eq_true rfl, Nat.le_of_ble_eq_true rfl⟩ (gPerm_rfl (gLW G o f x u m w)) rfl rfl ?_ dL_law_1376 ?_ (fun r1 w1 hx => ?_)
  · exact Nat.le_of_ble_eq_true rfl
  · exact law_rm hc hs (by decide) (by decide)
  obtain ⟨f1, u1⟩ := w1
  obtain ⟨h1, h1b, h2, h3⟩ := hx
  refine g_istore (lv' := (5, .int r1) :: gLoc b0 x m o i) E dL_law_1379 (by decide) rfl ?_
  refine g_aload_n E dL_law_1381 rfl 3 rfl ?_
  refine g_aload_n E dL_law_1382 rfl 1 rfl ?_
  refine g_iload E dL_law_1383 5 rfl ?_
  refine g_iconst (v := nI 1) E dL_law_1385 (by decide) ?_
  refine g_iaddN E dL_law_1386 ?_
  refine g_sldN E hX hbl hbA (by omega) hL dL_law_1387 ?_
  refine g_aload_n E dL_law_1388 rfl 1 rfl ?_
  refine g_iload E dL_law_1389 5 rfl ?_
  refine g_iconst (v := nI 2) E dL_law_1391 (by decide) ?_
  refine g_iaddN E dL_law_1392 ?_
  refine g_sldN E hX hbl hbA (by omega) hL dL_law_1393 ?_
  refine g_callVI (As := [.int (xs (i + 1)), .int (xs (i + 2))]) (F := (o, .inl (gy G 3, 1, .inr (.inl f1))) :: wV G x u1) E (rX8_punish m hA (by omega) hR (xs (i + 1)) (xs (i + 2))) gL_law_X8_punish rfl hdX8_punish ⟨Nat.le_of_ble_eq_true rfl, Nat.le_of_ble_eq_true rfl⟩ 8 0 rfl rfl rfl (gPerm_cm (A := (o, .inl (gy G 3, 1, .inr (.inl f1))) :: wV G x u1) (B := wR G m w)) rfl rfl ?_ dL_law_1394 ?_ (fun r2 w2 hp => ?_)
  · exact Nat.le_of_ble_eq_true rfl
  · exact law_rm (a := 1) (b := 6) hc hs (by decide) (by decide)
  refine g_perm (gPerm_cm (A := wR G m w2) (B := (o, .inl (gy G 3, 1, .inr (.inl f1))) :: wV G x u1)) ?_
  refine law_tail (K := aAct 1 2 0 A (gTryPunish (aS A) (xs (i + 1)) (xs (i + 2)))) E h1 h1b h2 hp (by exact law_rm (a := 1) (b := 6) hc hs (by decide) (by decide)) dL_law_1397 dL_law_1399 dL_law_1400 dL_law_1403 dL_law_1405 dL_law_1410 dL_law_1412 dL_law_1415 dL_law_1416 dL_law_1417 dL_law_1418 dL_law_1420 dL_law_1421 dL_law_1422 dL_law_1427 (by decide) ?_
  exact g_widen (by omega) (by omega) (next _ f1 u1 w2 (gAok_mono (gAok_act hA (gOk_tryPunish hA.2.1 (by omega) _ _)) (by omega)) h3 hp.2.2)
set_option maxHeartbeats 4000000 in
set_option maxRecDepth 100000 in
theorem law_c20 {V : gV} {G : gG} {b0 L : Nat} {xs : Nat → Int32} (E : gE V G cL_law 7 RL wsL_law room_1) (hX : va_X b0 L xs (gvS V) (gvH V)) (hbl : b0 < (gvH V).size) (hbA : ¬ gvO V b0) (hST : (gl G).stackTraces = false) (hL : L ≤ 2560) {i : Nat} (hi : i + 5 ≤ L) {A : gA} {bd : Nat} {x : gVa} {m : Nat → Nat} {o : Nat} {f : Nat → Int64} {u : gVu} {w : gRu} {cells slots : Nat} (hA : gAok bd A) (hb3 : 3600 ≤ bd) (hb : bd ≤ 40000) (hC : gClsI A u) (hR : gRefI A w) (hc : cells ≤ 20000) (hs : slots ≤ 400000)
    (next : ∀ (A' : gA) (f' : Nat → Int64) (u' : gVu) (w' : gRu), gAok (bd + 30) A' → gClsI A' u' → gRefI A' w' → gW V 7 (cells + 15) (slots + 430) (gLW G o f' x u' m w') (gLoc b0 x m o i) 2262 []) : gW V 7 cells slots (gLW G o f x u m w) (gLoc b0 x m o i) 1430 [] := by
  refine g_aload_n E dL_law_1430 rfl 1 rfl ?_
  refine g_aload_n E dL_law_1431 rfl 0 rfl ?_
  refine g_iload E dL_law_1432 4 rfl ?_
  refine g_iconst (v := nI 1) E dL_law_1434 (by decide) ?_
  refine g_iaddN E dL_law_1435 ?_
  refine g_sldN E hX hbl hbA (by omega) hL dL_law_1436 ?_
  refine g_aload_n E dL_law_1437 rfl 0 rfl ?_
  refine g_iload E dL_law_1438 4 rfl ?_
  refine g_iconst (v := nI 2) E dL_law_1440 (by decide) ?_
  refine g_iaddN E dL_law_1441 ?_
  refine g_sldN E hX hbl hbA (by omega) hL dL_law_1442 ?_
  refine g_aload_n E dL_law_1443 rfl 3 rfl ?_
  refine g_callSWI (As := [.ref (x.1 0), .int (xs (i + 1)), .int (xs (i + 2)), .ref o]) (F := wR G m w) E (wL_wish (f := f) (o := o) hST hA (by omega) hC (xs (i + 1)) (xs (i + 2))) gL_law_L_wish rfl hdL_wish ⟨Nat.le_of_ble_eq_true rfl, Nat.le_of_ble_eq_true rfl⟩ (gPerm_rfl (gLW G o f x u m w)) rfl rfl ?_ dL_law_1444 ?_ (fun r1 w1 hx => ?_)
  · exact Nat.le_of_ble_eq_true rfl
  · exact law_rm hc hs (by decide) (by decide)
  obtain ⟨f1, u1⟩ := w1
  obtain ⟨h1, h1b, h2, h3⟩ := hx
  refine g_istore (lv' := (5, .int r1) :: gLoc b0 x m o i) E dL_law_1447 (by decide) rfl ?_
  refine g_aload_n E dL_law_1449 rfl 3 rfl ?_
  refine g_aload_n E dL_law_1450 rfl 1 rfl ?_
  refine g_iload E dL_law_1451 5 rfl ?_
  refine g_iconst (v := nI 1) E dL_law_1453 (by decide) ?_
  refine g_iaddN E dL_law_1454 ?_
  refine g_sldN E hX hbl hbA (by omega) hL dL_law_1455 ?_
  refine g_aload_n E dL_law_1456 rfl 1 rfl ?_
  refine g_iload E dL_law_1457 5 rfl ?_
  refine g_iconst (v := nI 2) E dL_law_1459 (by decide) ?_
  refine g_iaddN E dL_law_1460 ?_
  refine g_sldN E hX hbl hbA (by omega) hL dL_law_1461 ?_
  refine g_callVI (As := [.int (xs (i + 1)), .int (xs (i + 2))]) (F := (o, .inl (gy G 3, 1, .inr (.inl f1))) :: wV G x u1) E (rX8_wish m hA (by omega) hR (xs (i + 1)) (xs (i + 2))) gL_law_X8_wish rfl hdX8_wish ⟨Nat.le_of_ble_eq_true rfl, Nat.le_of_ble_eq_true rfl⟩ 8 0 rfl rfl rfl (gPerm_cm (A := (o, .inl (gy G 3, 1, .inr (.inl f1))) :: wV G x u1) (B := wR G m w)) rfl rfl ?_ dL_law_1462 ?_ (fun r2 w2 hp => ?_)
  · exact Nat.le_of_ble_eq_true rfl
  · exact law_rm (a := 1) (b := 6) hc hs (by decide) (by decide)
  refine g_perm (gPerm_cm (A := wR G m w2) (B := (o, .inl (gy G 3, 1, .inr (.inl f1))) :: wV G x u1)) ?_
  refine law_tail (K := aAct 1 0 2 A (gTryWish (aS A) (xs (i + 1)) (xs (i + 2)))) E h1 h1b h2 hp (by exact law_rm (a := 1) (b := 6) hc hs (by decide) (by decide)) dL_law_1465 dL_law_1467 dL_law_1468 dL_law_1471 dL_law_1473 dL_law_1478 dL_law_1480 dL_law_1483 dL_law_1484 dL_law_1485 dL_law_1486 dL_law_1488 dL_law_1489 dL_law_1490 dL_law_1495 (by decide) ?_
  exact g_widen (by omega) (by omega) (next _ f1 u1 w2 (gAok_mono (gAok_act hA (gOk_tryWish hA.2.1 _ _)) (by omega)) h3 hp.2.2)
set_option maxHeartbeats 4000000 in
set_option maxRecDepth 100000 in
theorem law_c21 {V : gV} {G : gG} {b0 L : Nat} {xs : Nat → Int32} (E : gE V G cL_law 7 RL wsL_law room_1) (hX : va_X b0 L xs (gvS V) (gvH V)) (hbl : b0 < (gvH V).size) (hbA : ¬ gvO V b0) (hST : (gl G).stackTraces = false) (hL : L ≤ 2560) {i : Nat} (hi : i + 5 ≤ L) {A : gA} {bd : Nat} {x : gVa} {m : Nat → Nat} {o : Nat} {f : Nat → Int64} {u : gVu} {w : gRu} {cells slots : Nat} (hA : gAok bd A) (hb3 : 3600 ≤ bd) (hb : bd ≤ 40000) (hC : gClsI A u) (hR : gRefI A w) (hc : cells ≤ 20000) (hs : slots ≤ 400000)
    (next : ∀ (A' : gA) (f' : Nat → Int64) (u' : gVu) (w' : gRu), gAok (bd + 30) A' → gClsI A' u' → gRefI A' w' → gW V 7 (cells + 15) (slots + 430) (gLW G o f' x u' m w') (gLoc b0 x m o i) 2262 []) : gW V 7 cells slots (gLW G o f x u m w) (gLoc b0 x m o i) 1498 [] := by
  refine g_aload_n E dL_law_1498 rfl 1 rfl ?_
  refine g_aload_n E dL_law_1499 rfl 0 rfl ?_
  refine g_iload E dL_law_1500 4 rfl ?_
  refine g_iconst (v := nI 1) E dL_law_1502 (by decide) ?_
  refine g_iaddN E dL_law_1503 ?_
  refine g_sldN E hX hbl hbA (by omega) hL dL_law_1504 ?_
  refine g_aload_n E dL_law_1505 rfl 3 rfl ?_
  refine g_callSWI (As := [.ref (x.1 0), .int (xs (i + 1)), .ref o]) (F := wR G m w) E (wL_run (f := f) (o := o) hST hA (by omega) hC (xs (i + 1))) gL_law_L_run rfl hdL_run ⟨Nat.le_of_ble_eq_true rfl, Nat.le_of_ble_eq_true rfl⟩ (gPerm_rfl (gLW G o f x u m w)) rfl rfl ?_ dL_law_1506 ?_ (fun r1 w1 hx => ?_)
  · exact Nat.le_of_ble_eq_true rfl
  · exact law_rm hc hs (by decide) (by decide)
  obtain ⟨f1, u1⟩ := w1
  obtain ⟨h1, h1b, h2, h3⟩ := hx
  refine g_istore (lv' := (5, .int r1) :: gLoc b0 x m o i) E dL_law_1509 (by decide) rfl ?_
  refine g_aload_n E dL_law_1511 rfl 3 rfl ?_
  refine g_aload_n E dL_law_1512 rfl 1 rfl ?_
  refine g_iload E dL_law_1513 5 rfl ?_
  refine g_iconst (v := nI 1) E dL_law_1515 (by decide) ?_
  refine g_iaddN E dL_law_1516 ?_
  refine g_sldN E hX hbl hbA (by omega) hL dL_law_1517 ?_
  refine g_callVI (As := [.int (xs (i + 1))]) (F := (o, .inl (gy G 3, 1, .inr (.inl f1))) :: wV G x u1) E (rX8_run m hA (by omega) hR (xs (i + 1))) gL_law_X8_run rfl hdX8_run ⟨Nat.le_of_ble_eq_true rfl, Nat.le_of_ble_eq_true rfl⟩ 8 0 rfl rfl rfl (gPerm_cm (A := (o, .inl (gy G 3, 1, .inr (.inl f1))) :: wV G x u1) (B := wR G m w)) rfl rfl ?_ dL_law_1518 ?_ (fun r2 w2 hp => ?_)
  · exact Nat.le_of_ble_eq_true rfl
  · exact law_rm (a := 1) (b := 6) hc hs (by decide) (by decide)
  refine g_perm (gPerm_cm (A := wR G m w2) (B := (o, .inl (gy G 3, 1, .inr (.inl f1))) :: wV G x u1)) ?_
  refine law_tail (K := fRun A (xs (i + 1))) E h1 h1b h2 hp (by exact law_rm (a := 1) (b := 6) hc hs (by decide) (by decide)) dL_law_1521 dL_law_1523 dL_law_1524 dL_law_1527 dL_law_1529 dL_law_1534 dL_law_1536 dL_law_1539 dL_law_1540 dL_law_1541 dL_law_1542 dL_law_1544 dL_law_1545 dL_law_1546 dL_law_1551 (by decide) ?_
  exact g_widen (by omega) (by omega) (next _ f1 u1 w2 (gAok_run hA (by omega) _) h3 hp.2.2)
set_option maxHeartbeats 4000000 in
set_option maxRecDepth 100000 in
theorem law_c22 {V : gV} {G : gG} {b0 L : Nat} {xs : Nat → Int32} (E : gE V G cL_law 7 RL wsL_law room_1) (hX : va_X b0 L xs (gvS V) (gvH V)) (hbl : b0 < (gvH V).size) (hbA : ¬ gvO V b0) (hST : (gl G).stackTraces = false) (hL : L ≤ 2560) {i : Nat} (hi : i + 5 ≤ L) {A : gA} {bd : Nat} {x : gVa} {m : Nat → Nat} {o : Nat} {f : Nat → Int64} {u : gVu} {w : gRu} {cells slots : Nat} (hA : gAok bd A) (hb3 : 3600 ≤ bd) (hb : bd ≤ 40000) (hC : gClsI A u) (hR : gRefI A w) (hc : cells ≤ 20000) (hs : slots ≤ 400000)
    (next : ∀ (A' : gA) (f' : Nat → Int64) (u' : gVu) (w' : gRu), gAok (bd + 30) A' → gClsI A' u' → gRefI A' w' → gW V 7 (cells + 15) (slots + 430) (gLW G o f' x u' m w') (gLoc b0 x m o i) 2262 []) : gW V 7 cells slots (gLW G o f x u m w) (gLoc b0 x m o i) 1554 [] := by
  refine g_aload_n E dL_law_1554 rfl 1 rfl ?_
  refine g_aload_n E dL_law_1555 rfl 0 rfl ?_
  refine g_iload E dL_law_1556 4 rfl ?_
  refine g_iconst (v := nI 1) E dL_law_1558 (by decide) ?_
  refine g_iaddN E dL_law_1559 ?_
  refine g_sldN E hX hbl hbA (by omega) hL dL_law_1560 ?_
  refine g_aload_n E dL_law_1561 rfl 0 rfl ?_
  refine g_iload E dL_law_1562 4 rfl ?_
  refine g_iconst (v := nI 2) E dL_law_1564 (by decide) ?_
  refine g_iaddN E dL_law_1565 ?_
  refine g_sldN E hX hbl hbA (by omega) hL dL_law_1566 ?_
  refine g_aload_n E dL_law_1567 rfl 3 rfl ?_
  refine g_callSWI (As := [.ref (x.1 0), .int (xs (i + 1)), .int (xs (i + 2)), .ref o]) (F := wR G m w) E (wL_set (f := f) (o := o) hST hA (by omega) hC (xs (i + 1)) (xs (i + 2))) gL_law_L_set rfl hdL_set ⟨Nat.le_of_ble_eq_true rfl, Nat.le_of_ble_eq_true rfl⟩ (gPerm_rfl (gLW G o f x u m w)) rfl rfl ?_ dL_law_1568 ?_ (fun r1 w1 hx => ?_)
  · exact Nat.le_of_ble_eq_true rfl
  · exact law_rm hc hs (by decide) (by decide)
  obtain ⟨f1, u1⟩ := w1
  obtain ⟨h1, h1b, h2, h3⟩ := hx
  refine g_istore (lv' := (5, .int r1) :: gLoc b0 x m o i) E dL_law_1571 (by decide) rfl ?_
  refine g_aload_n E dL_law_1573 rfl 3 rfl ?_
  refine g_aload_n E dL_law_1574 rfl 1 rfl ?_
  refine g_iload E dL_law_1575 5 rfl ?_
  refine g_iconst (v := nI 1) E dL_law_1577 (by decide) ?_
  refine g_iaddN E dL_law_1578 ?_
  refine g_sldN E hX hbl hbA (by omega) hL dL_law_1579 ?_
  refine g_aload_n E dL_law_1580 rfl 1 rfl ?_
  refine g_iload E dL_law_1581 5 rfl ?_
  refine g_iconst (v := nI 2) E dL_law_1583 (by decide) ?_
  refine g_iaddN E dL_law_1584 ?_
  refine g_sldN E hX hbl hbA (by omega) hL dL_law_1585 ?_
  refine g_callVI (As := [.int (xs (i + 1)), .int (xs (i + 2))]) (F := (o, .inl (gy G 3, 1, .inr (.inl f1))) :: wV G x u1) E (rX8_set m hA (by omega) hR (xs (i + 1)) (xs (i + 2))) gL_law_X8_set rfl hdX8_set ⟨Nat.le_of_ble_eq_true rfl, Nat.le_of_ble_eq_true rfl⟩ 8 0 rfl rfl rfl (gPerm_cm (A := (o, .inl (gy G 3, 1, .inr (.inl f1))) :: wV G x u1) (B := wR G m w)) rfl rfl ?_ dL_law_1586 ?_ (fun r2 w2 hp => ?_)
  · exact Nat.le_of_ble_eq_true rfl
  · exact law_rm (a := 1) (b := 6) hc hs (by decide) (by decide)
  refine g_perm (gPerm_cm (A := wR G m w2) (B := (o, .inl (gy G 3, 1, .inr (.inl f1))) :: wV G x u1)) ?_
  refine law_tail (K := aAct 0 1 0 A (gTrySet (aS A) (xs (i + 1)) (xs (i + 2)))) E h1 h1b h2 hp (by exact law_rm (a := 1) (b := 6) hc hs (by decide) (by decide)) dL_law_1589 dL_law_1591 dL_law_1592 dL_law_1595 dL_law_1597 dL_law_1602 dL_law_1604 dL_law_1607 dL_law_1608 dL_law_1609 dL_law_1610 dL_law_1612 dL_law_1613 dL_law_1614 dL_law_1619 (by decide) ?_
  exact g_widen (by omega) (by omega) (next _ f1 u1 w2 (gAok_mono (gAok_act hA (gOk_trySet hA.2.1 _ _)) (by omega)) h3 hp.2.2)
set_option maxHeartbeats 4000000 in
set_option maxRecDepth 100000 in
theorem law_c23 {V : gV} {G : gG} {b0 L : Nat} {xs : Nat → Int32} (E : gE V G cL_law 7 RL wsL_law room_1) (hX : va_X b0 L xs (gvS V) (gvH V)) (hbl : b0 < (gvH V).size) (hbA : ¬ gvO V b0) (hST : (gl G).stackTraces = false) (hL : L ≤ 2560) {i : Nat} (hi : i + 5 ≤ L) {A : gA} {bd : Nat} {x : gVa} {m : Nat → Nat} {o : Nat} {f : Nat → Int64} {u : gVu} {w : gRu} {cells slots : Nat} (hA : gAok bd A) (hb3 : 3600 ≤ bd) (hb : bd ≤ 40000) (hC : gClsI A u) (hR : gRefI A w) (hc : cells ≤ 20000) (hs : slots ≤ 400000)
    (next : ∀ (A' : gA) (f' : Nat → Int64) (u' : gVu) (w' : gRu), gAok (bd + 30) A' → gClsI A' u' → gRefI A' w' → gW V 7 (cells + 15) (slots + 430) (gLW G o f' x u' m w') (gLoc b0 x m o i) 2262 []) : gW V 7 cells slots (gLW G o f x u m w) (gLoc b0 x m o i) 1622 [] := by
  refine g_aload_n E dL_law_1622 rfl 1 rfl ?_
  refine g_aload_n E dL_law_1623 rfl 3 rfl ?_
  refine g_callSWI (As := [.ref (x.1 0), .ref o]) (F := wR G m w) E (wL_undo (f := f) (o := o) hST hA (by omega) hC) gL_law_L_undo rfl hdL_undo ⟨Nat.le_of_ble_eq_true rfl, Nat.le_of_ble_eq_true rfl⟩ (gPerm_rfl (gLW G o f x u m w)) rfl rfl ?_ dL_law_1624 ?_ (fun r1 w1 hx => ?_)
  · exact Nat.le_of_ble_eq_true rfl
  · exact law_rm hc hs (by decide) (by decide)
  obtain ⟨f1, u1⟩ := w1
  obtain ⟨h1, h1b, h2, h3⟩ := hx
  refine g_istore (lv' := (5, .int r1) :: gLoc b0 x m o i) E dL_law_1627 (by decide) rfl ?_
  refine g_aload_n E dL_law_1629 rfl 3 rfl ?_
  refine g_callVI (As := []) (F := (o, .inl (gy G 3, 1, .inr (.inl f1))) :: wV G x u1) E (rX8_undo m hA (by omega) hR) gL_law_X8_undo rfl hdX8_undo ⟨Nat.le_of_ble_eq_true rfl, Nat.le_of_ble_eq_true rfl⟩ 8 0 rfl rfl rfl (gPerm_cm (A := (o, .inl (gy G 3, 1, .inr (.inl f1))) :: wV G x u1) (B := wR G m w)) rfl rfl ?_ dL_law_1630 ?_ (fun r2 w2 hp => ?_)
  · exact Nat.le_of_ble_eq_true rfl
  · exact law_rm (a := 1) (b := 6) hc hs (by decide) (by decide)
  refine g_perm (gPerm_cm (A := wR G m w2) (B := (o, .inl (gy G 3, 1, .inr (.inl f1))) :: wV G x u1)) ?_
  refine law_tail (K := fUndo A) E h1 h1b h2 hp (by exact law_rm (a := 1) (b := 6) hc hs (by decide) (by decide)) dL_law_1633 dL_law_1635 dL_law_1636 dL_law_1639 dL_law_1641 dL_law_1646 dL_law_1648 dL_law_1651 dL_law_1652 dL_law_1653 dL_law_1654 dL_law_1656 dL_law_1657 dL_law_1658 dL_law_1663 (by decide) ?_
  exact g_widen (by omega) (by omega) (next _ f1 u1 w2 (gAok_mono (gAok_undo hA) (by omega)) h3 hp.2.2)
set_option maxHeartbeats 4000000 in
set_option maxRecDepth 100000 in
theorem law_c24 {V : gV} {G : gG} {b0 L : Nat} {xs : Nat → Int32} (E : gE V G cL_law 7 RL wsL_law room_1) (hX : va_X b0 L xs (gvS V) (gvH V)) (hbl : b0 < (gvH V).size) (hbA : ¬ gvO V b0) (hST : (gl G).stackTraces = false) (hL : L ≤ 2560) {i : Nat} (hi : i + 5 ≤ L) {A : gA} {bd : Nat} {x : gVa} {m : Nat → Nat} {o : Nat} {f : Nat → Int64} {u : gVu} {w : gRu} {cells slots : Nat} (hA : gAok bd A) (hb3 : 3600 ≤ bd) (hb : bd ≤ 40000) (hC : gClsI A u) (hR : gRefI A w) (hc : cells ≤ 20000) (hs : slots ≤ 400000)
    (next : ∀ (A' : gA) (f' : Nat → Int64) (u' : gVu) (w' : gRu), gAok (bd + 30) A' → gClsI A' u' → gRefI A' w' → gW V 7 (cells + 15) (slots + 430) (gLW G o f' x u' m w') (gLoc b0 x m o i) 2262 []) : gW V 7 cells slots (gLW G o f x u m w) (gLoc b0 x m o i) 1666 [] := by
  refine g_aload_n E dL_law_1666 rfl 1 rfl ?_
  refine g_aload_n E dL_law_1667 rfl 0 rfl ?_
  refine g_iload E dL_law_1668 4 rfl ?_
  refine g_iconst (v := nI 1) E dL_law_1670 (by decide) ?_
  refine g_iaddN E dL_law_1671 ?_
  refine g_sldN E hX hbl hbA (by omega) hL dL_law_1672 ?_
  refine g_aload_n E dL_law_1673 rfl 0 rfl ?_
  refine g_iload E dL_law_1674 4 rfl ?_
  refine g_iconst (v := nI 2) E dL_law_1676 (by decide) ?_
  refine g_iaddN E dL_law_1677 ?_
  refine g_sldN E hX hbl hbA (by omega) hL dL_law_1678 ?_
  refine g_aload_n E dL_law_1679 rfl 0 rfl ?_
  refine g_iload E dL_law_1680 4 rfl ?_
  refine g_iconst (v := nI 3) E dL_law_1682 (by decide) ?_
  refine g_iaddN E dL_law_1683 ?_
  refine g_sldN E hX hbl hbA (by omega) hL dL_law_1684 ?_
  refine g_aload_n E dL_law_1685 rfl 0 rfl ?_
  refine g_iload E dL_law_1686 4 rfl ?_
  refine g_iconst (v := nI 4) E dL_law_1688 (by decide) ?_
  refine g_iaddN E dL_law_1689 ?_
  refine g_sldN E hX hbl hbA (by omega) hL dL_law_1690 ?_
  refine g_aload_n E dL_law_1691 rfl 3 rfl ?_
  refine g_callSWI (As := [.ref (x.1 0), .int (xs (i + 1)), .int (xs (i + 2)), .int (xs (i + 3)), .int (xs (i + 4)), .ref o]) (F := wR G m w) E (wL_whyNot (f := f) (o := o) hST hA (by omega) hC (xs (i + 1)) (xs (i + 2)) (xs (i + 3)) (xs (i + 4))) gL_law_L_whyNot rfl hdL_whyNot ⟨Nat.le_of_ble_eq_true rfl, Nat.le_of_ble_eq_true rfl⟩ (gPerm_rfl (gLW G o f x u m w)) rfl rfl ?_ dL_law_1692 ?_ (fun r1 w1 hx => ?_)
  · exact Nat.le_of_ble_eq_true rfl
  · exact law_rm hc hs (by decide) (by decide)
  obtain ⟨f1, u1⟩ := w1
  obtain ⟨h1, h1b, h2, h3⟩ := hx
  refine g_istore (lv' := (5, .int r1) :: gLoc b0 x m o i) E dL_law_1695 (by decide) rfl ?_
  refine g_aload_n E dL_law_1697 rfl 3 rfl ?_
  refine g_aload_n E dL_law_1698 rfl 1 rfl ?_
  refine g_iload E dL_law_1699 5 rfl ?_
  refine g_iconst (v := nI 1) E dL_law_1701 (by decide) ?_
  refine g_iaddN E dL_law_1702 ?_
  refine g_sldN E hX hbl hbA (by omega) hL dL_law_1703 ?_
  refine g_aload_n E dL_law_1704 rfl 1 rfl ?_
  refine g_iload E dL_law_1705 5 rfl ?_
  refine g_iconst (v := nI 2) E dL_law_1707 (by decide) ?_
  refine g_iaddN E dL_law_1708 ?_
  refine g_sldN E hX hbl hbA (by omega) hL dL_law_1709 ?_
  refine g_aload_n E dL_law_1710 rfl 1 rfl ?_
  refine g_iload E dL_law_1711 5 rfl ?_
  refine g_iconst (v := nI 3) E dL_law_1713 (by decide) ?_
  refine g_iaddN E dL_law_1714 ?_
  refine g_sldN E hX hbl hbA (by omega) hL dL_law_1715 ?_
  refine g_aload_n E dL_law_1716 rfl 1 rfl ?_
  refine g_iload E dL_law_1717 5 rfl ?_
  refine g_iconst (v := nI 4) E dL_law_1719 (by decide) ?_
  refine g_iaddN E dL_law_1720 ?_
  refine g_sldN E hX hbl hbA (by omega) hL dL_law_1721 ?_
  refine g_callVI (As := [.int (xs (i + 1)), .int (xs (i + 2)), .int (xs (i + 3)), .int (xs (i + 4))]) (F := (o, .inl (gy G 3, 1, .inr (.inl f1))) :: wV G x u1) E (rX8_whyNot m hA (by omega) hR (xs (i + 1)) (xs (i + 2)) (xs (i + 3)) (xs (i + 4))) gL_law_X8_whyNot rfl hdX8_whyNot ⟨Nat.le_of_ble_eq_true rfl, Nat.le_of_ble_eq_true rfl⟩ 8 0 rfl rfl rfl (gPerm_cm (A := (o, .inl (gy G 3, 1, .inr (.inl f1))) :: wV G x u1) (B := wR G m w)) rfl rfl ?_ dL_law_1722 ?_ (fun r2 w2 hp => ?_)
  · exact Nat.le_of_ble_eq_true rfl
  · exact law_rm (a := 1) (b := 6) hc hs (by decide) (by decide)
  refine g_perm (gPerm_cm (A := wR G m w2) (B := (o, .inl (gy G 3, 1, .inr (.inl f1))) :: wV G x u1)) ?_
  refine law_tail (K := fWhy A (xs (i + 1)) (xs (i + 2)) (xs (i + 3)) (xs (i + 4))) E h1 h1b h2 hp (by exact law_rm (a := 1) (b := 6) hc hs (by decide) (by decide)) dL_law_1725 dL_law_1727 dL_law_1728 dL_law_1731 dL_law_1733 dL_law_1738 dL_law_1740 dL_law_1743 dL_law_1744 dL_law_1745 dL_law_1746 dL_law_1748 dL_law_1749 dL_law_1750 dL_law_1755 (by decide) ?_
  exact g_widen (by omega) (by omega) (next _ f1 u1 w2 (by rw [gQ_whyNot]; exact gAok_mono hA (by omega)) h3 hp.2.2)
set_option maxHeartbeats 4000000 in
set_option maxRecDepth 100000 in
theorem law_c25 {V : gV} {G : gG} {b0 L : Nat} {xs : Nat → Int32} (E : gE V G cL_law 7 RL wsL_law room_1) (hX : va_X b0 L xs (gvS V) (gvH V)) (hbl : b0 < (gvH V).size) (hbA : ¬ gvO V b0) (hST : (gl G).stackTraces = false) (hL : L ≤ 2560) {i : Nat} (hi : i + 5 ≤ L) {A : gA} {bd : Nat} {x : gVa} {m : Nat → Nat} {o : Nat} {f : Nat → Int64} {u : gVu} {w : gRu} {cells slots : Nat} (hA : gAok bd A) (hb3 : 3600 ≤ bd) (hb : bd ≤ 40000) (hC : gClsI A u) (hR : gRefI A w) (hc : cells ≤ 20000) (hs : slots ≤ 400000)
    (next : ∀ (A' : gA) (f' : Nat → Int64) (u' : gVu) (w' : gRu), gAok (bd + 30) A' → gClsI A' u' → gRefI A' w' → gW V 7 (cells + 15) (slots + 430) (gLW G o f' x u' m w') (gLoc b0 x m o i) 2262 []) : gW V 7 cells slots (gLW G o f x u m w) (gLoc b0 x m o i) 1758 [] := by
  refine g_aload_n E dL_law_1758 rfl 1 rfl ?_
  refine g_aload_n E dL_law_1759 rfl 0 rfl ?_
  refine g_iload E dL_law_1760 4 rfl ?_
  refine g_iconst (v := nI 1) E dL_law_1762 (by decide) ?_
  refine g_iaddN E dL_law_1763 ?_
  refine g_sldN E hX hbl hbA (by omega) hL dL_law_1764 ?_
  refine g_aload_n E dL_law_1765 rfl 0 rfl ?_
  refine g_iload E dL_law_1766 4 rfl ?_
  refine g_iconst (v := nI 2) E dL_law_1768 (by decide) ?_
  refine g_iaddN E dL_law_1769 ?_
  refine g_sldN E hX hbl hbA (by omega) hL dL_law_1770 ?_
  refine g_aload_n E dL_law_1771 rfl 3 rfl ?_
  refine g_callSWI (As := [.ref (x.1 0), .int (xs (i + 1)), .int (xs (i + 2)), .ref o]) (F := wR G m w) E (wL_firstTime (f := f) (o := o) hST hA (by omega) hC (xs (i + 1)) (xs (i + 2))) gL_law_L_firstTime rfl hdL_firstTime ⟨Nat.le_of_ble_eq_true rfl, Nat.le_of_ble_eq_true rfl⟩ (gPerm_rfl (gLW G o f x u m w)) rfl rfl ?_ dL_law_1772 ?_ (fun r1 w1 hx => ?_)
  · exact Nat.le_of_ble_eq_true rfl
  · exact law_rm hc hs (by decide) (by decide)
  obtain ⟨f1, u1⟩ := w1
  obtain ⟨h1, h1b, h2, h3⟩ := hx
  refine g_istore (lv' := (5, .int r1) :: gLoc b0 x m o i) E dL_law_1775 (by decide) rfl ?_
  refine g_aload_n E dL_law_1777 rfl 3 rfl ?_
  refine g_aload_n E dL_law_1778 rfl 1 rfl ?_
  refine g_iload E dL_law_1779 5 rfl ?_
  refine g_iconst (v := nI 1) E dL_law_1781 (by decide) ?_
  refine g_iaddN E dL_law_1782 ?_
  refine g_sldN E hX hbl hbA (by omega) hL dL_law_1783 ?_
  refine g_aload_n E dL_law_1784 rfl 1 rfl ?_
  refine g_iload E dL_law_1785 5 rfl ?_
  refine g_iconst (v := nI 2) E dL_law_1787 (by decide) ?_
  refine g_iaddN E dL_law_1788 ?_
  refine g_sldN E hX hbl hbA (by omega) hL dL_law_1789 ?_
  refine g_callVI (As := [.int (xs (i + 1)), .int (xs (i + 2))]) (F := (o, .inl (gy G 3, 1, .inr (.inl f1))) :: wV G x u1) E (rX8_firstTime m hA (by omega) hR (xs (i + 1)) (xs (i + 2))) gL_law_X8_firstTime rfl hdX8_firstTime ⟨Nat.le_of_ble_eq_true rfl, Nat.le_of_ble_eq_true rfl⟩ 8 0 rfl rfl rfl (gPerm_cm (A := (o, .inl (gy G 3, 1, .inr (.inl f1))) :: wV G x u1) (B := wR G m w)) rfl rfl ?_ dL_law_1790 ?_ (fun r2 w2 hp => ?_)
  · exact Nat.le_of_ble_eq_true rfl
  · exact law_rm (a := 1) (b := 6) hc hs (by decide) (by decide)
  refine g_perm (gPerm_cm (A := wR G m w2) (B := (o, .inl (gy G 3, 1, .inr (.inl f1))) :: wV G x u1)) ?_
  refine law_tail (K := fFirst A (xs (i + 1)) (xs (i + 2))) E h1 h1b h2 hp (by exact law_rm (a := 1) (b := 6) hc hs (by decide) (by decide)) dL_law_1793 dL_law_1795 dL_law_1796 dL_law_1799 dL_law_1801 dL_law_1806 dL_law_1808 dL_law_1811 dL_law_1812 dL_law_1813 dL_law_1814 dL_law_1816 dL_law_1817 dL_law_1818 dL_law_1823 (by decide) ?_
  exact g_widen (by omega) (by omega) (next _ f1 u1 w2 (by rw [gQ_firstTime]; exact gAok_mono hA (by omega)) h3 hp.2.2)
set_option maxHeartbeats 4000000 in
set_option maxRecDepth 100000 in
theorem law_c26 {V : gV} {G : gG} {b0 L : Nat} {xs : Nat → Int32} (E : gE V G cL_law 7 RL wsL_law room_1) (hX : va_X b0 L xs (gvS V) (gvH V)) (hbl : b0 < (gvH V).size) (hbA : ¬ gvO V b0) (hST : (gl G).stackTraces = false) (hL : L ≤ 2560) {i : Nat} (hi : i + 5 ≤ L) {A : gA} {bd : Nat} {x : gVa} {m : Nat → Nat} {o : Nat} {f : Nat → Int64} {u : gVu} {w : gRu} {cells slots : Nat} (hA : gAok bd A) (hb3 : 3600 ≤ bd) (hb : bd ≤ 40000) (hC : gClsI A u) (hR : gRefI A w) (hc : cells ≤ 20000) (hs : slots ≤ 400000)
    (next : ∀ (A' : gA) (f' : Nat → Int64) (u' : gVu) (w' : gRu), gAok (bd + 30) A' → gClsI A' u' → gRefI A' w' → gW V 7 (cells + 15) (slots + 430) (gLW G o f' x u' m w') (gLoc b0 x m o i) 2262 []) : gW V 7 cells slots (gLW G o f x u m w) (gLoc b0 x m o i) 1826 [] := by
  refine g_aload_n E dL_law_1826 rfl 1 rfl ?_
  refine g_aload_n E dL_law_1827 rfl 0 rfl ?_
  refine g_iload E dL_law_1828 4 rfl ?_
  refine g_iconst (v := nI 1) E dL_law_1830 (by decide) ?_
  refine g_iaddN E dL_law_1831 ?_
  refine g_sldN E hX hbl hbA (by omega) hL dL_law_1832 ?_
  refine g_aload_n E dL_law_1833 rfl 0 rfl ?_
  refine g_iload E dL_law_1834 4 rfl ?_
  refine g_iconst (v := nI 2) E dL_law_1836 (by decide) ?_
  refine g_iaddN E dL_law_1837 ?_
  refine g_sldN E hX hbl hbA (by omega) hL dL_law_1838 ?_
  refine g_aload_n E dL_law_1839 rfl 3 rfl ?_
  refine g_callSWI (As := [.ref (x.1 0), .int (xs (i + 1)), .int (xs (i + 2)), .ref o]) (F := wR G m w) E (wL_coming (f := f) (o := o) hST hA (by omega) hC (xs (i + 1)) (xs (i + 2))) gL_law_L_coming rfl hdL_coming ⟨Nat.le_of_ble_eq_true rfl, Nat.le_of_ble_eq_true rfl⟩ (gPerm_rfl (gLW G o f x u m w)) rfl rfl ?_ dL_law_1840 ?_ (fun r1 w1 hx => ?_)
  · exact Nat.le_of_ble_eq_true rfl
  · exact law_rm hc hs (by decide) (by decide)
  obtain ⟨f1, u1⟩ := w1
  obtain ⟨h1, h1b, h2, h3⟩ := hx
  refine g_istore (lv' := (5, .int r1) :: gLoc b0 x m o i) E dL_law_1843 (by decide) rfl ?_
  refine g_aload_n E dL_law_1845 rfl 3 rfl ?_
  refine g_aload_n E dL_law_1846 rfl 1 rfl ?_
  refine g_iload E dL_law_1847 5 rfl ?_
  refine g_iconst (v := nI 1) E dL_law_1849 (by decide) ?_
  refine g_iaddN E dL_law_1850 ?_
  refine g_sldN E hX hbl hbA (by omega) hL dL_law_1851 ?_
  refine g_aload_n E dL_law_1852 rfl 1 rfl ?_
  refine g_iload E dL_law_1853 5 rfl ?_
  refine g_iconst (v := nI 2) E dL_law_1855 (by decide) ?_
  refine g_iaddN E dL_law_1856 ?_
  refine g_sldN E hX hbl hbA (by omega) hL dL_law_1857 ?_
  refine g_callVI (As := [.int (xs (i + 1)), .int (xs (i + 2))]) (F := (o, .inl (gy G 3, 1, .inr (.inl f1))) :: wV G x u1) E (rX8_coming m hA (by omega) hR (xs (i + 1)) (xs (i + 2))) gL_law_X8_coming rfl hdX8_coming ⟨Nat.le_of_ble_eq_true rfl, Nat.le_of_ble_eq_true rfl⟩ 8 0 rfl rfl rfl (gPerm_cm (A := (o, .inl (gy G 3, 1, .inr (.inl f1))) :: wV G x u1) (B := wR G m w)) rfl rfl ?_ dL_law_1858 ?_ (fun r2 w2 hp => ?_)
  · exact Nat.le_of_ble_eq_true rfl
  · exact law_rm (a := 1) (b := 6) hc hs (by decide) (by decide)
  refine g_perm (gPerm_cm (A := wR G m w2) (B := (o, .inl (gy G 3, 1, .inr (.inl f1))) :: wV G x u1)) ?_
  refine law_tail (K := fComing A (xs (i + 1)) (xs (i + 2))) E h1 h1b h2 hp (by exact law_rm (a := 1) (b := 6) hc hs (by decide) (by decide)) dL_law_1861 dL_law_1863 dL_law_1864 dL_law_1867 dL_law_1869 dL_law_1874 dL_law_1876 dL_law_1879 dL_law_1880 dL_law_1881 dL_law_1882 dL_law_1884 dL_law_1885 dL_law_1886 dL_law_1891 (by decide) ?_
  exact g_widen (by omega) (by omega) (next _ f1 u1 w2 (by rw [gQ_coming]; exact gAok_mono hA (by omega)) h3 hp.2.2)
set_option maxHeartbeats 4000000 in
set_option maxRecDepth 100000 in
theorem law_c27 {V : gV} {G : gG} {b0 L : Nat} {xs : Nat → Int32} (E : gE V G cL_law 7 RL wsL_law room_1) (hX : va_X b0 L xs (gvS V) (gvH V)) (hbl : b0 < (gvH V).size) (hbA : ¬ gvO V b0) (hST : (gl G).stackTraces = false) (hL : L ≤ 2560) {i : Nat} (hi : i + 5 ≤ L) {A : gA} {bd : Nat} {x : gVa} {m : Nat → Nat} {o : Nat} {f : Nat → Int64} {u : gVu} {w : gRu} {cells slots : Nat} (hA : gAok bd A) (hb3 : 3600 ≤ bd) (hb : bd ≤ 40000) (hC : gClsI A u) (hR : gRefI A w) (hc : cells ≤ 20000) (hs : slots ≤ 400000)
    (next : ∀ (A' : gA) (f' : Nat → Int64) (u' : gVu) (w' : gRu), gAok (bd + 30) A' → gClsI A' u' → gRefI A' w' → gW V 7 (cells + 15) (slots + 430) (gLW G o f' x u' m w') (gLoc b0 x m o i) 2262 []) : gW V 7 cells slots (gLW G o f x u m w) (gLoc b0 x m o i) 1894 [] := by
  refine g_aload_n E dL_law_1894 rfl 1 rfl ?_
  refine g_aload_n E dL_law_1895 rfl 0 rfl ?_
  refine g_iload E dL_law_1896 4 rfl ?_
  refine g_iconst (v := nI 1) E dL_law_1898 (by decide) ?_
  refine g_iaddN E dL_law_1899 ?_
  refine g_sldN E hX hbl hbA (by omega) hL dL_law_1900 ?_
  refine g_aload_n E dL_law_1901 rfl 3 rfl ?_
  refine g_callSWI (As := [.ref (x.1 0), .int (xs (i + 1)), .ref o]) (F := wR G m w) E (wL_becomes (f := f) (o := o) hST hA (by omega) hC (xs (i + 1))) gL_law_L_becomes rfl hdL_becomes ⟨Nat.le_of_ble_eq_true rfl, Nat.le_of_ble_eq_true rfl⟩ (gPerm_rfl (gLW G o f x u m w)) rfl rfl ?_ dL_law_1902 ?_ (fun r1 w1 hx => ?_)
  · exact Nat.le_of_ble_eq_true rfl
  · exact law_rm hc hs (by decide) (by decide)
  obtain ⟨f1, u1⟩ := w1
  obtain ⟨h1, h1b, h2, h3⟩ := hx
  refine g_istore (lv' := (5, .int r1) :: gLoc b0 x m o i) E dL_law_1905 (by decide) rfl ?_
  refine g_aload_n E dL_law_1907 rfl 3 rfl ?_
  refine g_aload_n E dL_law_1908 rfl 1 rfl ?_
  refine g_iload E dL_law_1909 5 rfl ?_
  refine g_iconst (v := nI 1) E dL_law_1911 (by decide) ?_
  refine g_iaddN E dL_law_1912 ?_
  refine g_sldN E hX hbl hbA (by omega) hL dL_law_1913 ?_
  refine g_callVI (As := [.int (xs (i + 1))]) (F := (o, .inl (gy G 3, 1, .inr (.inl f1))) :: wV G x u1) E (rX8_becomes m hA (by omega) hR (xs (i + 1))) gL_law_X8_becomes rfl hdX8_becomes ⟨Nat.le_of_ble_eq_true rfl, Nat.le_of_ble_eq_true rfl⟩ 8 0 rfl rfl rfl (gPerm_cm (A := (o, .inl (gy G 3, 1, .inr (.inl f1))) :: wV G x u1) (B := wR G m w)) rfl rfl ?_ dL_law_1914 ?_ (fun r2 w2 hp => ?_)
  · exact Nat.le_of_ble_eq_true rfl
  · exact law_rm (a := 1) (b := 6) hc hs (by decide) (by decide)
  refine g_perm (gPerm_cm (A := wR G m w2) (B := (o, .inl (gy G 3, 1, .inr (.inl f1))) :: wV G x u1)) ?_
  refine law_tail (K := fBecomes A (xs (i + 1))) E h1 h1b h2 hp (by exact law_rm (a := 1) (b := 6) hc hs (by decide) (by decide)) dL_law_1917 dL_law_1919 dL_law_1920 dL_law_1923 dL_law_1925 dL_law_1930 dL_law_1932 dL_law_1935 dL_law_1936 dL_law_1937 dL_law_1938 dL_law_1940 dL_law_1941 dL_law_1942 dL_law_1947 (by decide) ?_
  exact g_widen (by omega) (by omega) (next _ f1 u1 w2 (by rw [gQ_becomes]; exact gAok_mono hA (by omega)) h3 hp.2.2)
set_option maxHeartbeats 4000000 in
set_option maxRecDepth 100000 in
theorem law_c28 {V : gV} {G : gG} {b0 L : Nat} {xs : Nat → Int32} (E : gE V G cL_law 7 RL wsL_law room_1) (hX : va_X b0 L xs (gvS V) (gvH V)) (hbl : b0 < (gvH V).size) (hbA : ¬ gvO V b0) (hST : (gl G).stackTraces = false) (hL : L ≤ 2560) {i : Nat} (hi : i + 5 ≤ L) {A : gA} {bd : Nat} {x : gVa} {m : Nat → Nat} {o : Nat} {f : Nat → Int64} {u : gVu} {w : gRu} {cells slots : Nat} (hA : gAok bd A) (hb3 : 3600 ≤ bd) (hb : bd ≤ 40000) (hC : gClsI A u) (hR : gRefI A w) (hc : cells ≤ 20000) (hs : slots ≤ 400000)
    (next : ∀ (A' : gA) (f' : Nat → Int64) (u' : gVu) (w' : gRu), gAok (bd + 30) A' → gClsI A' u' → gRefI A' w' → gW V 7 (cells + 15) (slots + 430) (gLW G o f' x u' m w') (gLoc b0 x m o i) 2262 []) : gW V 7 cells slots (gLW G o f x u m w) (gLoc b0 x m o i) 1950 [] := by
  refine g_aload_n E dL_law_1950 rfl 1 rfl ?_
  refine g_aload_n E dL_law_1951 rfl 0 rfl ?_
  refine g_iload E dL_law_1952 4 rfl ?_
  refine g_iconst (v := nI 1) E dL_law_1954 (by decide) ?_
  refine g_iaddN E dL_law_1955 ?_
  refine g_sldN E hX hbl hbA (by omega) hL dL_law_1956 ?_
  refine g_aload_n E dL_law_1957 rfl 0 rfl ?_
  refine g_iload E dL_law_1958 4 rfl ?_
  refine g_iconst (v := nI 2) E dL_law_1960 (by decide) ?_
  refine g_iaddN E dL_law_1961 ?_
  refine g_sldN E hX hbl hbA (by omega) hL dL_law_1962 ?_
  refine g_i2l E dL_law_1963 rfl ?_
  refine g_bipush (v := 32) E dL_law_1964 (by decide) ?_
  refine g_lshl E dL_law_1966 rfl ?_
  refine g_aload_n E dL_law_1967 rfl 0 rfl ?_
  refine g_iload E dL_law_1968 4 rfl ?_
  refine g_iconst (v := nI 3) E dL_law_1970 (by decide) ?_
  refine g_iaddN E dL_law_1971 ?_
  refine g_sldN E hX hbl hbA (by omega) hL dL_law_1972 ?_
  refine g_i2l E dL_law_1973 rfl ?_
  refine g_ldc2 (v := 4294967295) E (by decide +kernel) dL_law_1974 ?_
  refine g_land E dL_law_1977 ?_
  refine g_lor E dL_law_1978 ?_
  refine g_aload_n E dL_law_1979 rfl 3 rfl ?_
  refine g_callSWI (As := [.ref (x.1 0), .int (xs (i + 1)), .long (gLg (xs (i + 2)) (xs (i + 3))), .ref o]) (F := wR G m w) E (wL_runScript (f := f) (o := o) hST hA (by omega) hC (xs (i + 1)) (gLg (xs (i + 2)) (xs (i + 3)))) gL_law_L_runScript rfl hdL_runScript ⟨Nat.le_of_ble_eq_true rfl, Nat.le_of_ble_eq_true rfl⟩ (gPerm_rfl (gLW G o f x u m w)) rfl rfl ?_ dL_law_1980 ?_ (fun r1 w1 hx => ?_)
  · exact Nat.le_of_ble_eq_true rfl
  · exact law_rm hc hs (by decide) (by decide)
  obtain ⟨f1, u1⟩ := w1
  obtain ⟨h1, h1b, h2, h3⟩ := hx
  refine g_istore (lv' := (5, .int r1) :: gLoc b0 x m o i) E dL_law_1983 (by decide) rfl ?_
  refine g_aload_n E dL_law_1985 rfl 3 rfl ?_
  refine g_aload_n E dL_law_1986 rfl 1 rfl ?_
  refine g_iload E dL_law_1987 5 rfl ?_
  refine g_iconst (v := nI 1) E dL_law_1989 (by decide) ?_
  refine g_iaddN E dL_law_1990 ?_
  refine g_sldN E hX hbl hbA (by omega) hL dL_law_1991 ?_
  refine g_aload_n E dL_law_1992 rfl 1 rfl ?_
  refine g_iload E dL_law_1993 5 rfl ?_
  refine g_iconst (v := nI 2) E dL_law_1995 (by decide) ?_
  refine g_iaddN E dL_law_1996 ?_
  refine g_sldN E hX hbl hbA (by omega) hL dL_law_1997 ?_
  refine g_i2l E dL_law_1998 rfl ?_
  refine g_bipush (v := 32) E dL_law_1999 (by decide) ?_
  refine g_lshl E dL_law_2001 rfl ?_
  refine g_aload_n E dL_law_2002 rfl 1 rfl ?_
  refine g_iload E dL_law_2003 5 rfl ?_
  refine g_iconst (v := nI 3) E dL_law_2005 (by decide) ?_
  refine g_iaddN E dL_law_2006 ?_
  refine g_sldN E hX hbl hbA (by omega) hL dL_law_2007 ?_
  refine g_i2l E dL_law_2008 rfl ?_
  refine g_ldc2 (v := 4294967295) E (by decide +kernel) dL_law_2009 ?_
  refine g_land E dL_law_2012 ?_
  refine g_lor E dL_law_2013 ?_
  refine g_callVI (As := [.int (xs (i + 1)), .long (gLg (xs (i + 2)) (xs (i + 3)))]) (F := (o, .inl (gy G 3, 1, .inr (.inl f1))) :: wV G x u1) E (rX8_runScript m hA (by omega) hR (xs (i + 1)) (gLg (xs (i + 2)) (xs (i + 3)))) gL_law_X8_runScript rfl hdX8_runScript ⟨Nat.le_of_ble_eq_true rfl, Nat.le_of_ble_eq_true rfl⟩ 8 0 rfl rfl rfl (gPerm_cm (A := (o, .inl (gy G 3, 1, .inr (.inl f1))) :: wV G x u1) (B := wR G m w)) rfl rfl ?_ dL_law_2014 ?_ (fun r2 w2 hp => ?_)
  · exact Nat.le_of_ble_eq_true rfl
  · exact law_rm (a := 1) (b := 6) hc hs (by decide) (by decide)
  refine g_perm (gPerm_cm (A := wR G m w2) (B := (o, .inl (gy G 3, 1, .inr (.inl f1))) :: wV G x u1)) ?_
  refine law_tail (K := fScript A (xs (i + 1)) (gLg (xs (i + 2)) (xs (i + 3)))) E h1 h1b h2 hp (by exact law_rm (a := 1) (b := 6) hc hs (by decide) (by decide)) dL_law_2017 dL_law_2019 dL_law_2020 dL_law_2023 dL_law_2025 dL_law_2030 dL_law_2032 dL_law_2035 dL_law_2036 dL_law_2037 dL_law_2038 dL_law_2040 dL_law_2041 dL_law_2042 dL_law_2047 (by decide) ?_
  exact g_widen (by omega) (by omega) (next _ f1 u1 w2 (by rw [gQ_runScript]; exact gAok_mono hA (by omega)) h3 hp.2.2)
set_option maxHeartbeats 4000000 in
set_option maxRecDepth 100000 in
theorem law_c29 {V : gV} {G : gG} {b0 L : Nat} {xs : Nat → Int32} (E : gE V G cL_law 7 RL wsL_law room_1) (hX : va_X b0 L xs (gvS V) (gvH V)) (hbl : b0 < (gvH V).size) (hbA : ¬ gvO V b0) (hST : (gl G).stackTraces = false) (hL : L ≤ 2560) {i : Nat} (hi : i + 5 ≤ L) {A : gA} {bd : Nat} {x : gVa} {m : Nat → Nat} {o : Nat} {f : Nat → Int64} {u : gVu} {w : gRu} {cells slots : Nat} (hA : gAok bd A) (hb3 : 3600 ≤ bd) (hb : bd ≤ 40000) (hC : gClsI A u) (hR : gRefI A w) (hc : cells ≤ 20000) (hs : slots ≤ 400000)
    (next : ∀ (A' : gA) (f' : Nat → Int64) (u' : gVu) (w' : gRu), gAok (bd + 30) A' → gClsI A' u' → gRefI A' w' → gW V 7 (cells + 15) (slots + 430) (gLW G o f' x u' m w') (gLoc b0 x m o i) 2262 []) : gW V 7 cells slots (gLW G o f x u m w) (gLoc b0 x m o i) 2050 [] := by
  refine g_aload_n E dL_law_2050 rfl 1 rfl ?_
  refine g_aload_n E dL_law_2051 rfl 0 rfl ?_
  refine g_iload E dL_law_2052 4 rfl ?_
  refine g_iconst (v := nI 1) E dL_law_2054 (by decide) ?_
  refine g_iaddN E dL_law_2055 ?_
  refine g_sldN E hX hbl hbA (by omega) hL dL_law_2056 ?_
  refine g_i2l E dL_law_2057 rfl ?_
  refine g_bipush (v := 32) E dL_law_2058 (by decide) ?_
  refine g_lshl E dL_law_2060 rfl ?_
  refine g_aload_n E dL_law_2061 rfl 0 rfl ?_
  refine g_iload E dL_law_2062 4 rfl ?_
  refine g_iconst (v := nI 2) E dL_law_2064 (by decide) ?_
  refine g_iaddN E dL_law_2065 ?_
  refine g_sldN E hX hbl hbA (by omega) hL dL_law_2066 ?_
  refine g_i2l E dL_law_2067 rfl ?_
  refine g_ldc2 (v := 4294967295) E (by decide +kernel) dL_law_2068 ?_
  refine g_land E dL_law_2071 ?_
  refine g_lor E dL_law_2072 ?_
  refine g_aload_n E dL_law_2073 rfl 0 rfl ?_
  refine g_iload E dL_law_2074 4 rfl ?_
  refine g_iconst (v := nI 3) E dL_law_2076 (by decide) ?_
  refine g_iaddN E dL_law_2077 ?_
  refine g_sldN E hX hbl hbA (by omega) hL dL_law_2078 ?_
  refine g_aload_n E dL_law_2079 rfl 3 rfl ?_
  refine g_callSWI (As := [.ref (x.1 0), .long (gLg (xs (i + 1)) (xs (i + 2))), .int (xs (i + 3)), .ref o]) (F := wR G m w) E (wL_simulate (f := f) (o := o) hST hA (by omega) hC (gLg (xs (i + 1)) (xs (i + 2))) (xs (i + 3))) gL_law_L_simulate rfl hdL_simulate ⟨Nat.le_of_ble_eq_true rfl, Nat.le_of_ble_eq_true rfl⟩ (gPerm_rfl (gLW G o f x u m w)) rfl rfl ?_ dL_law_2080 ?_ (fun r1 w1 hx => ?_)
  · exact Nat.le_of_ble_eq_true rfl
  · exact law_rm hc hs (by decide) (by decide)
  obtain ⟨f1, u1⟩ := w1
  obtain ⟨h1, h1b, h2, h3⟩ := hx
  refine g_istore (lv' := (5, .int r1) :: gLoc b0 x m o i) E dL_law_2083 (by decide) rfl ?_
  refine g_aload_n E dL_law_2085 rfl 3 rfl ?_
  refine g_aload_n E dL_law_2086 rfl 1 rfl ?_
  refine g_iload E dL_law_2087 5 rfl ?_
  refine g_iconst (v := nI 1) E dL_law_2089 (by decide) ?_
  refine g_iaddN E dL_law_2090 ?_
  refine g_sldN E hX hbl hbA (by omega) hL dL_law_2091 ?_
  refine g_i2l E dL_law_2092 rfl ?_
  refine g_bipush (v := 32) E dL_law_2093 (by decide) ?_
  refine g_lshl E dL_law_2095 rfl ?_
  refine g_aload_n E dL_law_2096 rfl 1 rfl ?_
  refine g_iload E dL_law_2097 5 rfl ?_
  refine g_iconst (v := nI 2) E dL_law_2099 (by decide) ?_
  refine g_iaddN E dL_law_2100 ?_
  refine g_sldN E hX hbl hbA (by omega) hL dL_law_2101 ?_
  refine g_i2l E dL_law_2102 rfl ?_
  refine g_ldc2 (v := 4294967295) E (by decide +kernel) dL_law_2103 ?_
  refine g_land E dL_law_2106 ?_
  refine g_lor E dL_law_2107 ?_
  refine g_aload_n E dL_law_2108 rfl 1 rfl ?_
  refine g_iload E dL_law_2109 5 rfl ?_
  refine g_iconst (v := nI 3) E dL_law_2111 (by decide) ?_
  refine g_iaddN E dL_law_2112 ?_
  refine g_sldN E hX hbl hbA (by omega) hL dL_law_2113 ?_
  refine g_callVI (As := [.long (gLg (xs (i + 1)) (xs (i + 2))), .int (xs (i + 3))]) (F := (o, .inl (gy G 3, 1, .inr (.inl f1))) :: wV G x u1) E (rX8_simulate m hA (by omega) hR (gLg (xs (i + 1)) (xs (i + 2))) (xs (i + 3))) gL_law_X8_simulate rfl hdX8_simulate ⟨Nat.le_of_ble_eq_true rfl, Nat.le_of_ble_eq_true rfl⟩ 8 0 rfl rfl rfl (gPerm_cm (A := (o, .inl (gy G 3, 1, .inr (.inl f1))) :: wV G x u1) (B := wR G m w)) rfl rfl ?_ dL_law_2114 ?_ (fun r2 w2 hp => ?_)
  · exact Nat.le_of_ble_eq_true rfl
  · exact law_rm (a := 1) (b := 6) hc hs (by decide) (by decide)
  refine g_perm (gPerm_cm (A := wR G m w2) (B := (o, .inl (gy G 3, 1, .inr (.inl f1))) :: wV G x u1)) ?_
  refine law_tail (K := fSim A (gLg (xs (i + 1)) (xs (i + 2))) (xs (i + 3))) E h1 h1b h2 hp (by exact law_rm (a := 1) (b := 6) hc hs (by decide) (by decide)) dL_law_2117 dL_law_2119 dL_law_2120 dL_law_2123 dL_law_2125 dL_law_2130 dL_law_2132 dL_law_2135 dL_law_2136 dL_law_2137 dL_law_2138 dL_law_2140 dL_law_2141 dL_law_2142 dL_law_2147 (by decide) ?_
  exact g_widen (by omega) (by omega) (next _ f1 u1 w2 (by rw [gQ_simulate]; exact gAok_mono hA (by omega)) h3 hp.2.2)
set_option maxHeartbeats 4000000 in
set_option maxRecDepth 100000 in
theorem law_c30 {V : gV} {G : gG} {b0 L : Nat} {xs : Nat → Int32} (E : gE V G cL_law 7 RL wsL_law room_1) (hX : va_X b0 L xs (gvS V) (gvH V)) (hbl : b0 < (gvH V).size) (hbA : ¬ gvO V b0) (hST : (gl G).stackTraces = false) (hL : L ≤ 2560) {i : Nat} (hi : i + 5 ≤ L) {A : gA} {bd : Nat} {x : gVa} {m : Nat → Nat} {o : Nat} {f : Nat → Int64} {u : gVu} {w : gRu} {cells slots : Nat} (hA : gAok bd A) (hb3 : 3600 ≤ bd) (hb : bd ≤ 40000) (hC : gClsI A u) (hR : gRefI A w) (hc : cells ≤ 20000) (hs : slots ≤ 400000)
    (next : ∀ (A' : gA) (f' : Nat → Int64) (u' : gVu) (w' : gRu), gAok (bd + 30) A' → gClsI A' u' → gRefI A' w' → gW V 7 (cells + 15) (slots + 430) (gLW G o f' x u' m w') (gLoc b0 x m o i) 2262 []) : gW V 7 cells slots (gLW G o f x u m w) (gLoc b0 x m o i) 2150 [] := by
  refine g_aload_n E dL_law_2150 rfl 1 rfl ?_
  refine g_aload_n E dL_law_2151 rfl 0 rfl ?_
  refine g_iload E dL_law_2152 4 rfl ?_
  refine g_iconst (v := nI 1) E dL_law_2154 (by decide) ?_
  refine g_iaddN E dL_law_2155 ?_
  refine g_sldN E hX hbl hbA (by omega) hL dL_law_2156 ?_
  refine g_aload_n E dL_law_2157 rfl 3 rfl ?_
  refine g_callSWI (As := [.ref (x.1 0), .int (xs (i + 1)), .ref o]) (F := wR G m w) E (wL_save (f := f) (o := o) hST hA (by omega) hC (xs (i + 1))) gL_law_L_save rfl hdL_save ⟨Nat.le_of_ble_eq_true rfl, Nat.le_of_ble_eq_true rfl⟩ (gPerm_rfl (gLW G o f x u m w)) rfl rfl ?_ dL_law_2158 ?_ (fun r1 w1 hx => ?_)
  · exact Nat.le_of_ble_eq_true rfl
  · exact law_rm hc hs (by decide) (by decide)
  obtain ⟨f1, u1⟩ := w1
  obtain ⟨h1, h1b, h2, h3⟩ := hx
  refine g_istore (lv' := (5, .int r1) :: gLoc b0 x m o i) E dL_law_2161 (by decide) rfl ?_
  refine g_aload_n E dL_law_2163 rfl 3 rfl ?_
  refine g_aload_n E dL_law_2164 rfl 1 rfl ?_
  refine g_iload E dL_law_2165 5 rfl ?_
  refine g_iconst (v := nI 1) E dL_law_2167 (by decide) ?_
  refine g_iaddN E dL_law_2168 ?_
  refine g_sldN E hX hbl hbA (by omega) hL dL_law_2169 ?_
  refine g_callVI (As := [.int (xs (i + 1))]) (F := (o, .inl (gy G 3, 1, .inr (.inl f1))) :: wV G x u1) E (rX8_save m hA (by omega) hR (xs (i + 1))) gL_law_X8_save rfl hdX8_save ⟨Nat.le_of_ble_eq_true rfl, Nat.le_of_ble_eq_true rfl⟩ 8 0 rfl rfl rfl (gPerm_cm (A := (o, .inl (gy G 3, 1, .inr (.inl f1))) :: wV G x u1) (B := wR G m w)) rfl rfl ?_ dL_law_2170 ?_ (fun r2 w2 hp => ?_)
  · exact Nat.le_of_ble_eq_true rfl
  · exact law_rm (a := 1) (b := 6) hc hs (by decide) (by decide)
  refine g_perm (gPerm_cm (A := wR G m w2) (B := (o, .inl (gy G 3, 1, .inr (.inl f1))) :: wV G x u1)) ?_
  refine law_tail (K := fSave A (xs (i + 1))) E h1 h1b h2 hp (by exact law_rm (a := 1) (b := 6) hc hs (by decide) (by decide)) dL_law_2173 dL_law_2175 dL_law_2176 dL_law_2179 dL_law_2181 dL_law_2186 dL_law_2188 dL_law_2191 dL_law_2192 dL_law_2193 dL_law_2194 dL_law_2196 dL_law_2197 dL_law_2198 dL_law_2203 (by decide) ?_
  exact g_widen (by omega) (by omega) (next _ f1 u1 w2 (gAok_mono (gAok_save hA _) (by omega)) h3 hp.2.2)
set_option maxHeartbeats 4000000 in
set_option maxRecDepth 100000 in
theorem law_c31 {V : gV} {G : gG} {b0 L : Nat} {xs : Nat → Int32} (E : gE V G cL_law 7 RL wsL_law room_1) (hX : va_X b0 L xs (gvS V) (gvH V)) (hbl : b0 < (gvH V).size) (hbA : ¬ gvO V b0) (hST : (gl G).stackTraces = false) (hL : L ≤ 2560) {i : Nat} (hi : i + 5 ≤ L) {A : gA} {bd : Nat} {x : gVa} {m : Nat → Nat} {o : Nat} {f : Nat → Int64} {u : gVu} {w : gRu} {cells slots : Nat} (hA : gAok bd A) (hb3 : 3600 ≤ bd) (hb : bd ≤ 40000) (hC : gClsI A u) (hR : gRefI A w) (hc : cells ≤ 20000) (hs : slots ≤ 400000)
    (next : ∀ (A' : gA) (f' : Nat → Int64) (u' : gVu) (w' : gRu), gAok (bd + 30) A' → gClsI A' u' → gRefI A' w' → gW V 7 (cells + 15) (slots + 430) (gLW G o f' x u' m w') (gLoc b0 x m o i) 2262 []) : gW V 7 cells slots (gLW G o f x u m w) (gLoc b0 x m o i) 2206 [] := by
  refine g_aload_n E dL_law_2206 rfl 1 rfl ?_
  refine g_aload_n E dL_law_2207 rfl 0 rfl ?_
  refine g_iload E dL_law_2208 4 rfl ?_
  refine g_iconst (v := nI 1) E dL_law_2210 (by decide) ?_
  refine g_iaddN E dL_law_2211 ?_
  refine g_sldN E hX hbl hbA (by omega) hL dL_law_2212 ?_
  refine g_aload_n E dL_law_2213 rfl 3 rfl ?_
  refine g_callSWI (As := [.ref (x.1 0), .int (xs (i + 1)), .ref o]) (F := wR G m w) E (wL_restore (f := f) (o := o) hST hA (by omega) hC (xs (i + 1))) gL_law_L_restore rfl hdL_restore ⟨Nat.le_of_ble_eq_true rfl, Nat.le_of_ble_eq_true rfl⟩ (gPerm_rfl (gLW G o f x u m w)) rfl rfl ?_ dL_law_2214 ?_ (fun r1 w1 hx => ?_)
  · exact Nat.le_of_ble_eq_true rfl
  · exact law_rm hc hs (by decide) (by decide)
  obtain ⟨f1, u1⟩ := w1
  obtain ⟨h1, h1b, h2, h3⟩ := hx
  refine g_istore (lv' := (5, .int r1) :: gLoc b0 x m o i) E dL_law_2217 (by decide) rfl ?_
  refine g_aload_n E dL_law_2219 rfl 3 rfl ?_
  refine g_aload_n E dL_law_2220 rfl 1 rfl ?_
  refine g_iload E dL_law_2221 5 rfl ?_
  refine g_iconst (v := nI 1) E dL_law_2223 (by decide) ?_
  refine g_iaddN E dL_law_2224 ?_
  refine g_sldN E hX hbl hbA (by omega) hL dL_law_2225 ?_
  refine g_callVI (As := [.int (xs (i + 1))]) (F := (o, .inl (gy G 3, 1, .inr (.inl f1))) :: wV G x u1) E (rX8_restore m hA (by omega) hR (xs (i + 1))) gL_law_X8_restore rfl hdX8_restore ⟨Nat.le_of_ble_eq_true rfl, Nat.le_of_ble_eq_true rfl⟩ 8 0 rfl rfl rfl (gPerm_cm (A := (o, .inl (gy G 3, 1, .inr (.inl f1))) :: wV G x u1) (B := wR G m w)) rfl rfl ?_ dL_law_2226 ?_ (fun r2 w2 hp => ?_)
  · exact Nat.le_of_ble_eq_true rfl
  · exact law_rm (a := 1) (b := 6) hc hs (by decide) (by decide)
  refine g_perm (gPerm_cm (A := wR G m w2) (B := (o, .inl (gy G 3, 1, .inr (.inl f1))) :: wV G x u1)) ?_
  refine law_tail (K := fRest A (xs (i + 1))) E h1 h1b h2 hp (by exact law_rm (a := 1) (b := 6) hc hs (by decide) (by decide)) dL_law_2229 dL_law_2231 dL_law_2232 dL_law_2235 dL_law_2237 dL_law_2242 dL_law_2244 dL_law_2247 dL_law_2248 dL_law_2249 dL_law_2250 dL_law_2252 dL_law_2253 dL_law_2254 dL_law_2259 (by decide) ?_
  exact g_widen (by omega) (by omega) (next _ f1 u1 w2 (gAok_mono (gAok_rest hA _) (by omega)) h3 hp.2.2)
