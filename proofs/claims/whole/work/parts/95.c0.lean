/-! ===== the cases of the law ===== -/
theorem lsL_t {b x m o d i : Nat} {l : List (Nat × Value)} (h : l.take 6 = lsL b x m o d i) : ∀ q ∈ lsL b x m o d i, q ∈ l := fun q hq => List.mem_of_mem_take (i := 6) (by rw [h]; exact hq)
set_option maxRecDepth 20000 in
set_option maxHeartbeats 1000000 in
theorem lc_0 {G : xG} {K : xK} {sa : Nat → Nat} (hGC : GC G K sa) (hGT : GT G sa) (hGE : GE G) (hCA : GCA G) {b L : Nat} {zs : Nat → Int} (hXs : x_zz G (fun _ U H => va_X b L (fun j => iI (zs j)) U H)) (hb : b < G.2.2.2) (hL : L ≤ 3072) (hz : ∀ j, in32 (zs j)) {x m o d : Nat} {ad : XA} {a : MA} (hDJ : DJW x ad m a o d) {i : Nat} (hi : i + 6 ≤ L) {h : xH} {S : XS} {c : Int} (hW : LW G K sa x m o d ad a S c h) {kc ks : Nat} {Q : xR → xH → Prop} (kk : ∀ (h9 : xH) (S9 : XS) (c9 : Int), LW G K sa x m o d ad a S9 c9 h9 → RR G ML_law 3134 (lsL b x m o d i) [] h9 kc ks Q) : RR G ML_law 288 (lsL b x m o d i) [] h (kc + 3) (ks + 18) Q := by
  obtain ⟨hX, hM, hI, hO, hD⟩ := hW
  obtain ⟨S1, w, hI1, cl, cm⟩ := s_appendText hGC hGT hGE (m := m) (a := a) hX hI (v1 := iI (zs (i + 1))) (v2 := iI (zs (i + 2))) (v3 := iI (zs (i + 3))) (v4 := iI (zs (i + 4))) (v5 := iI (zs (i + 5)))
  show RR G ML_law 288 [(0, .ref b), (1, .ref x), (2, .ref m), (3, .ref o), (4, .ref d), (5, .int (iI ((i : Int))))] [] h (kc + 3) (ks + 18) Q
  refine r_aload_n dL_law_288 1 rfl ?_
  refine r_aload_n dL_law_289 0 rfl ?_
  refine r_iload dL_law_290 5 rfl ?_
  refine i_const (1) dL_law_292 ?_
  refine i_add dL_law_293 ?_
  refine r_sld hXs hb (i + 1) (by omega) (by omega) (by omega) dL_law_294 ?_
  refine r_aload_n dL_law_295 0 rfl ?_
  refine r_iload dL_law_296 5 rfl ?_
  refine i_const (2) dL_law_298 ?_
  refine i_add dL_law_299 ?_
  refine r_sld hXs hb (i + 2) (by omega) (by omega) (by omega) dL_law_300 ?_
  refine r_aload_n dL_law_301 0 rfl ?_
  refine r_iload dL_law_302 5 rfl ?_
  refine i_const (3) dL_law_304 ?_
  refine i_add dL_law_305 ?_
  refine r_sld hXs hb (i + 3) (by omega) (by omega) (by omega) dL_law_306 ?_
  refine r_aload_n dL_law_307 0 rfl ?_
  refine r_iload dL_law_308 5 rfl ?_
  refine i_const (4) dL_law_310 ?_
  refine i_add dL_law_311 ?_
  refine r_sld hXs hb (i + 4) (by omega) (by omega) (by omega) dL_law_312 ?_
  refine r_aload_n dL_law_313 0 rfl ?_
  refine r_iload dL_law_314 5 rfl ?_
  refine i_const (5) dL_law_316 ?_
  refine i_add dL_law_317 ?_
  refine r_sld hXs hb (i + 5) (by omega) (by omega) (by omega) dL_law_318 ?_
  refine p_callV (As := [.int (iI (zs (i + 1))), .int (iI (zs (i + 2))), .int (iI (zs (i + 3))), .int (iI (zs (i + 4))), .int (iI (zs (i + 5)))]) (b := x) (rest := []) (w := (some (.int w))) (st' := [.int w]) kv_L_law_155 dL_law_319 rfl rfl (Nat.le_of_ble_eq_true rfl) (Nat.le_of_ble_eq_true rfl) (xb_rv hX) rfl rfl cl rfl (fun h2 e2 => ?_)
  obtain ⟨hX2, hF2x⟩ := e2
  have hF2 : FRp (o :: fpX x ad) h h2 := hF2x.mono (fun q hq => List.mem_cons_of_mem _ hq)
  have hM2 := hM.fr hF2 hDJ.mo hDJ.wo
  have hO2 : AOj G h2 o := hO.fr hF2x hDJ.2.2.1.1
  refine r_aload_n dL_law_322 2 rfl ?_
  refine r_aload_n dL_law_323 0 rfl ?_
  refine r_iload dL_law_324 5 rfl ?_
  refine i_const (1) dL_law_326 ?_
  refine i_add dL_law_327 ?_
  refine r_sld hXs hb (i + 1) (by omega) (by omega) (by omega) dL_law_328 ?_
  refine r_aload_n dL_law_329 0 rfl ?_
  refine r_iload dL_law_330 5 rfl ?_
  refine i_const (2) dL_law_332 ?_
  refine i_add dL_law_333 ?_
  refine r_sld hXs hb (i + 2) (by omega) (by omega) (by omega) dL_law_334 ?_
  refine r_aload_n dL_law_335 0 rfl ?_
  refine r_iload dL_law_336 5 rfl ?_
  refine i_const (3) dL_law_338 ?_
  refine i_add dL_law_339 ?_
  refine r_sld hXs hb (i + 3) (by omega) (by omega) (by omega) dL_law_340 ?_
  refine r_aload_n dL_law_341 0 rfl ?_
  refine r_iload dL_law_342 5 rfl ?_
  refine i_const (4) dL_law_344 ?_
  refine i_add dL_law_345 ?_
  refine r_sld hXs hb (i + 4) (by omega) (by omega) (by omega) dL_law_346 ?_
  refine r_aload_n dL_law_347 0 rfl ?_
  refine r_iload dL_law_348 5 rfl ?_
  refine i_const (5) dL_law_350 ?_
  refine i_add dL_law_351 ?_
  refine r_sld hXs hb (i + 5) (by omega) (by omega) (by omega) dL_law_352 ?_
  refine p_callV (As := [.int (iI (zs (i + 1))), .int (iI (zs (i + 2))), .int (iI (zs (i + 3))), .int (iI (zs (i + 4))), .int (iI (zs (i + 5)))]) (b := m) (rest := [.int w]) (w := (some (.int w))) (st' := [.int w, .int w]) kv_L_law_159 dL_law_353 rfl rfl (Nat.le_of_ble_eq_true rfl) (Nat.le_of_ble_eq_true rfl) (mb_rv hM2) rfl rfl (cm h2 c hM2) rfl (fun h3 e3 => ?_)
  obtain ⟨hM3, hF3⟩ := e3
  refine r_icmpeq dL_law_356 (tgt := 3134) (by decide) (fun _ => ?_) (fun c => absurd rfl c)
  refine rr_room (rr_sub (kk _ _ _ (LW.mk hDJ hD hX2 hO2 hF2 hM3 hF3 hI1)) (lsL_t rfl)) ?_ ?_
  · exact Nat.le_add_right _ _
  · exact Nat.le_add_right _ _
set_option maxRecDepth 20000 in
set_option maxHeartbeats 1000000 in
theorem lc_1 {G : xG} {K : xK} {sa : Nat → Nat} (hGC : GC G K sa) (hGT : GT G sa) (hGE : GE G) (hCA : GCA G) {b L : Nat} {zs : Nat → Int} (hXs : x_zz G (fun _ U H => va_X b L (fun j => iI (zs j)) U H)) (hb : b < G.2.2.2) (hL : L ≤ 3072) (hz : ∀ j, in32 (zs j)) {x m o d : Nat} {ad : XA} {a : MA} (hDJ : DJW x ad m a o d) {i : Nat} (hi : i + 6 ≤ L) {h : xH} {S : XS} {c : Int} (hW : LW G K sa x m o d ad a S c h) {kc ks : Nat} {Q : xR → xH → Prop} (kk : ∀ (h9 : xH) (S9 : XS) (c9 : Int), LW G K sa x m o d ad a S9 c9 h9 → RR G ML_law 3134 (lsL b x m o d i) [] h9 kc ks Q) : RR G ML_law 361 (lsL b x m o d i) [] h (kc + 3) (ks + 18) Q := by
  obtain ⟨hX, hM, hI, hO, hD⟩ := hW
  obtain ⟨S1, k, V, mv, hI1, hk, hr, cl, cm⟩ := s_loadBench hGC hGT hGE hCA (m := m) (a := a) hX hI hO hDJ.2.2.1.1 (hz (i + 1))
  obtain ⟨w, rfl, rfl⟩ := hr
  show RR G ML_law 361 [(0, .ref b), (1, .ref x), (2, .ref m), (3, .ref o), (4, .ref d), (5, .int (iI ((i : Int))))] [] h (kc + 3) (ks + 18) Q
  refine r_aload_n dL_law_361 1 rfl ?_
  refine r_aload_n dL_law_362 0 rfl ?_
  refine r_iload dL_law_363 5 rfl ?_
  refine i_const (1) dL_law_365 ?_
  refine i_add dL_law_366 ?_
  refine r_sld hXs hb (i + 1) (by omega) (by omega) (by omega) dL_law_367 ?_
  refine r_aload_n dL_law_368 3 rfl ?_
  refine k_callSW (As := [.ref x, .int (iI (zs (i + 1))), .ref o]) (rest := []) (w := some (.int (iI k))) (st' := [.int (iI k)]) kw_L_loadBench dL_law_369 rfl rfl (Nat.le_of_ble_eq_true rfl) (Nat.le_of_ble_eq_true rfl) (by show 1 ≤ kc + 3; omega) (by show 6 ≤ ks + 18; omega) cl rfl (fun h2 e2 => ?_)
  obtain ⟨hX2, ⟨mo2, g2, fo2, hg2⟩, hF2⟩ := e2
  have hM2 := hM.fr hF2 hDJ.mo hDJ.wo
  refine r_istore (ls' := [(0, .ref b), (1, .ref x), (2, .ref m), (3, .ref o), (4, .ref d), (5, .int (iI ((i : Int)))), (6, .int (iI k))]) dL_law_372 (by decide) rfl ?_
  refine r_aload_n dL_law_374 2 rfl ?_
  refine r_aload_n dL_law_375 0 rfl ?_
  refine r_iload dL_law_376 5 rfl ?_
  refine i_const (1) dL_law_378 ?_
  refine i_add dL_law_379 ?_
  refine r_sld hXs hb (i + 1) (by omega) (by omega) (by omega) dL_law_380 ?_
  refine p_callV (As := [.int (iI (zs (i + 1)))]) (b := m) (rest := []) (w := (some (.int w))) (st' := [.int w]) kv_L_law_165 dL_law_381 rfl rfl (Nat.le_of_ble_eq_true rfl) (Nat.le_of_ble_eq_true rfl) (mb_rv hM2) rfl rfl (cm h2 c hM2) rfl (fun h3 e3 => ?_)
  obtain ⟨hM3, hF3⟩ := e3
  have fo3 := (hF3.2 o hDJ.2.2.1.2.1).trans fo2
  have mo3 : o ∈ h3.1 := by rw [hF3.1]; exact mo2
  refine r_istore (ls' := [(0, .ref b), (1, .ref x), (2, .ref m), (3, .ref o), (4, .ref d), (5, .int (iI ((i : Int)))), (6, .int (iI k)), (7, .int w)]) dL_law_384 (by decide) rfl ?_
  refine r_aload_n dL_law_386 2 rfl ?_
  refine p_callV (As := []) (b := m) (rest := []) (w := (some (.int (iI k)))) (st' := [.int (iI k)]) kv_L_law_166 dL_law_387 rfl rfl (Nat.le_of_ble_eq_true rfl) (Nat.le_of_ble_eq_true rfl) (mb_rv hM3) rfl rfl (b_X12_thrown hM3) rfl (fun h9 e9 => ?_)
  rw [show h9 = h3 from e9]
  refine r_iload dL_law_390 6 rfl ?_
  refine i_icmpeq dL_law_392 (tgt := 397) (by decide) (in32_k hk) (in32_k hk) (fun _ => ?_) (fun c => absurd rfl c)
  refine r_iload dL_law_397 6 rfl ?_
  refine i_ifne dL_law_399 (tgt := 414) (by decide) (in32_k hk) (fun c399 => ?_) (fun c399 => ?_)
  · refine r_goto dL_law_414 (tgt := 3134) (by decide) ?_
    refine rr_room (rr_sub (kk _ _ _ (LW.mk hDJ hD hX2 ⟨mo2, g2, fo2⟩ hF2 hM3 hF3 hI1)) (lsL_t rfl)) ?_ ?_
    · show kc ≤ kc + 3 - 1; omega
    · show ks ≤ ks + 18 - 6; omega
  · refine r_aload_n dL_law_402 3 rfl ?_
    refine i_const (0) dL_law_403 ?_
    refine i_lald0 dL_law_404 mo3 fo3 (hg2 c399) ?_
    refine r_iload dL_law_405 7 rfl ?_
    refine r_i2l dL_law_407 ?_
    refine i_lcmpe dL_law_408 ?_
    refine i_ifeq dL_law_409 (tgt := 414) (by decide) ⟨by decide, by decide⟩ (fun _ => ?_) (fun c => absurd c (by decide))
    refine r_goto dL_law_414 (tgt := 3134) (by decide) ?_
    refine rr_room (rr_sub (kk _ _ _ (LW.mk hDJ hD hX2 ⟨mo2, g2, fo2⟩ hF2 hM3 hF3 hI1)) (lsL_t rfl)) ?_ ?_
    · show kc ≤ kc + 3 - 1; omega
    · show ks ≤ ks + 18 - 6; omega
set_option maxRecDepth 20000 in
set_option maxHeartbeats 1000000 in
theorem lc_2 {G : xG} {K : xK} {sa : Nat → Nat} (hGC : GC G K sa) (hGT : GT G sa) (hGE : GE G) (hCA : GCA G) {b L : Nat} {zs : Nat → Int} (hXs : x_zz G (fun _ U H => va_X b L (fun j => iI (zs j)) U H)) (hb : b < G.2.2.2) (hL : L ≤ 3072) (hz : ∀ j, in32 (zs j)) {x m o d : Nat} {ad : XA} {a : MA} (hDJ : DJW x ad m a o d) {i : Nat} (hi : i + 6 ≤ L) {h : xH} {S : XS} {c : Int} (hW : LW G K sa x m o d ad a S c h) {kc ks : Nat} {Q : xR → xH → Prop} (kk : ∀ (h9 : xH) (S9 : XS) (c9 : Int), LW G K sa x m o d ad a S9 c9 h9 → RR G ML_law 3134 (lsL b x m o d i) [] h9 kc ks Q) : RR G ML_law 417 (lsL b x m o d i) [] h (kc + 3) (ks + 18) Q := by
  obtain ⟨hX, hM, hI, hO, hD⟩ := hW
  obtain ⟨S1, w, hI1, cl, cm⟩ := s_errorCode hGC hGT hGE (m := m) (a := a) hX hI
  show RR G ML_law 417 [(0, .ref b), (1, .ref x), (2, .ref m), (3, .ref o), (4, .ref d), (5, .int (iI ((i : Int))))] [] h (kc + 3) (ks + 18) Q
  refine r_aload_n dL_law_417 1 rfl ?_
  refine p_callV (As := []) (b := x) (rest := []) (w := (some (.int w))) (st' := [.int w]) kv_L_law_169 dL_law_418 rfl rfl (Nat.le_of_ble_eq_true rfl) (Nat.le_of_ble_eq_true rfl) (xb_rv hX) rfl rfl cl rfl (fun h2 e2 => ?_)
  obtain ⟨hX2, hF2x⟩ := e2
  have hF2 : FRp (o :: fpX x ad) h h2 := hF2x.mono (fun q hq => List.mem_cons_of_mem _ hq)
  have hM2 := hM.fr hF2 hDJ.mo hDJ.wo
  have hO2 : AOj G h2 o := hO.fr hF2x hDJ.2.2.1.1
  refine r_aload_n dL_law_421 2 rfl ?_
  refine p_callV (As := []) (b := m) (rest := [.int w]) (w := (some (.int w))) (st' := [.int w, .int w]) kv_L_law_172 dL_law_422 rfl rfl (Nat.le_of_ble_eq_true rfl) (Nat.le_of_ble_eq_true rfl) (mb_rv hM2) rfl rfl (cm h2 c hM2) rfl (fun h3 e3 => ?_)
  obtain ⟨hM3, hF3⟩ := e3
  refine r_icmpeq dL_law_425 (tgt := 3134) (by decide) (fun _ => ?_) (fun c => absurd rfl c)
  refine rr_room (rr_sub (kk _ _ _ (LW.mk hDJ hD hX2 hO2 hF2 hM3 hF3 hI1)) (lsL_t rfl)) ?_ ?_
  · exact Nat.le_add_right _ _
  · exact Nat.le_add_right _ _
set_option maxRecDepth 20000 in
set_option maxHeartbeats 1000000 in
theorem lc_3 {G : xG} {K : xK} {sa : Nat → Nat} (hGC : GC G K sa) (hGT : GT G sa) (hGE : GE G) (hCA : GCA G) {b L : Nat} {zs : Nat → Int} (hXs : x_zz G (fun _ U H => va_X b L (fun j => iI (zs j)) U H)) (hb : b < G.2.2.2) (hL : L ≤ 3072) (hz : ∀ j, in32 (zs j)) {x m o d : Nat} {ad : XA} {a : MA} (hDJ : DJW x ad m a o d) {i : Nat} (hi : i + 6 ≤ L) {h : xH} {S : XS} {c : Int} (hW : LW G K sa x m o d ad a S c h) {kc ks : Nat} {Q : xR → xH → Prop} (kk : ∀ (h9 : xH) (S9 : XS) (c9 : Int), LW G K sa x m o d ad a S9 c9 h9 → RR G ML_law 3134 (lsL b x m o d i) [] h9 kc ks Q) : RR G ML_law 430 (lsL b x m o d i) [] h (kc + 3) (ks + 18) Q := by
  obtain ⟨hX, hM, hI, hO, hD⟩ := hW
  obtain ⟨S1, w, hI1, cl, cm⟩ := s_errorOffset hGC hGT hGE (m := m) (a := a) hX hI
  show RR G ML_law 430 [(0, .ref b), (1, .ref x), (2, .ref m), (3, .ref o), (4, .ref d), (5, .int (iI ((i : Int))))] [] h (kc + 3) (ks + 18) Q
  refine r_aload_n dL_law_430 1 rfl ?_
  refine p_callV (As := []) (b := x) (rest := []) (w := (some (.int w))) (st' := [.int w]) kv_L_law_173 dL_law_431 rfl rfl (Nat.le_of_ble_eq_true rfl) (Nat.le_of_ble_eq_true rfl) (xb_rv hX) rfl rfl cl rfl (fun h2 e2 => ?_)
  obtain ⟨hX2, hF2x⟩ := e2
  have hF2 : FRp (o :: fpX x ad) h h2 := hF2x.mono (fun q hq => List.mem_cons_of_mem _ hq)
  have hM2 := hM.fr hF2 hDJ.mo hDJ.wo
  have hO2 : AOj G h2 o := hO.fr hF2x hDJ.2.2.1.1
  refine r_aload_n dL_law_434 2 rfl ?_
  refine p_callV (As := []) (b := m) (rest := [.int w]) (w := (some (.int w))) (st' := [.int w, .int w]) kv_L_law_176 dL_law_435 rfl rfl (Nat.le_of_ble_eq_true rfl) (Nat.le_of_ble_eq_true rfl) (mb_rv hM2) rfl rfl (cm h2 c hM2) rfl (fun h3 e3 => ?_)
  obtain ⟨hM3, hF3⟩ := e3
  refine r_icmpeq dL_law_438 (tgt := 3134) (by decide) (fun _ => ?_) (fun c => absurd rfl c)
  refine rr_room (rr_sub (kk _ _ _ (LW.mk hDJ hD hX2 hO2 hF2 hM3 hF3 hI1)) (lsL_t rfl)) ?_ ?_
  · exact Nat.le_add_right _ _
  · exact Nat.le_add_right _ _
set_option maxRecDepth 20000 in
set_option maxHeartbeats 1000000 in
theorem lc_4 {G : xG} {K : xK} {sa : Nat → Nat} (hGC : GC G K sa) (hGT : GT G sa) (hGE : GE G) (hCA : GCA G) {b L : Nat} {zs : Nat → Int} (hXs : x_zz G (fun _ U H => va_X b L (fun j => iI (zs j)) U H)) (hb : b < G.2.2.2) (hL : L ≤ 3072) (hz : ∀ j, in32 (zs j)) {x m o d : Nat} {ad : XA} {a : MA} (hDJ : DJW x ad m a o d) {i : Nat} (hi : i + 6 ≤ L) {h : xH} {S : XS} {c : Int} (hW : LW G K sa x m o d ad a S c h) {kc ks : Nat} {Q : xR → xH → Prop} (kk : ∀ (h9 : xH) (S9 : XS) (c9 : Int), LW G K sa x m o d ad a S9 c9 h9 → RR G ML_law 3134 (lsL b x m o d i) [] h9 kc ks Q) : RR G ML_law 443 (lsL b x m o d i) [] h (kc + 3) (ks + 18) Q := by
  obtain ⟨hX, hM, hI, hO, hD⟩ := hW
  obtain ⟨S1, w, hI1, cl, cm⟩ := s_sheetCount hGC hGT hGE (m := m) (a := a) hX hI
  show RR G ML_law 443 [(0, .ref b), (1, .ref x), (2, .ref m), (3, .ref o), (4, .ref d), (5, .int (iI ((i : Int))))] [] h (kc + 3) (ks + 18) Q
  refine r_aload_n dL_law_443 1 rfl ?_
  refine p_callV (As := []) (b := x) (rest := []) (w := (some (.int w))) (st' := [.int w]) kv_L_law_177 dL_law_444 rfl rfl (Nat.le_of_ble_eq_true rfl) (Nat.le_of_ble_eq_true rfl) (xb_rv hX) rfl rfl cl rfl (fun h2 e2 => ?_)
  obtain ⟨hX2, hF2x⟩ := e2
  have hF2 : FRp (o :: fpX x ad) h h2 := hF2x.mono (fun q hq => List.mem_cons_of_mem _ hq)
  have hM2 := hM.fr hF2 hDJ.mo hDJ.wo
  have hO2 : AOj G h2 o := hO.fr hF2x hDJ.2.2.1.1
  refine r_aload_n dL_law_447 2 rfl ?_
  refine p_callV (As := []) (b := m) (rest := [.int w]) (w := (some (.int w))) (st' := [.int w, .int w]) kv_L_law_180 dL_law_448 rfl rfl (Nat.le_of_ble_eq_true rfl) (Nat.le_of_ble_eq_true rfl) (mb_rv hM2) rfl rfl (cm h2 c hM2) rfl (fun h3 e3 => ?_)
  obtain ⟨hM3, hF3⟩ := e3
  refine r_icmpeq dL_law_451 (tgt := 3134) (by decide) (fun _ => ?_) (fun c => absurd rfl c)
  refine rr_room (rr_sub (kk _ _ _ (LW.mk hDJ hD hX2 hO2 hF2 hM3 hF3 hI1)) (lsL_t rfl)) ?_ ?_
  · exact Nat.le_add_right _ _
  · exact Nat.le_add_right _ _
set_option maxRecDepth 20000 in
set_option maxHeartbeats 1000000 in
theorem lc_5 {G : xG} {K : xK} {sa : Nat → Nat} (hGC : GC G K sa) (hGT : GT G sa) (hGE : GE G) (hCA : GCA G) {b L : Nat} {zs : Nat → Int} (hXs : x_zz G (fun _ U H => va_X b L (fun j => iI (zs j)) U H)) (hb : b < G.2.2.2) (hL : L ≤ 3072) (hz : ∀ j, in32 (zs j)) {x m o d : Nat} {ad : XA} {a : MA} (hDJ : DJW x ad m a o d) {i : Nat} (hi : i + 6 ≤ L) {h : xH} {S : XS} {c : Int} (hW : LW G K sa x m o d ad a S c h) {kc ks : Nat} {Q : xR → xH → Prop} (kk : ∀ (h9 : xH) (S9 : XS) (c9 : Int), LW G K sa x m o d ad a S9 c9 h9 → RR G ML_law 3134 (lsL b x m o d i) [] h9 kc ks Q) : RR G ML_law 456 (lsL b x m o d i) [] h (kc + 3) (ks + 18) Q := by
  obtain ⟨hX, hM, hI, hO, hD⟩ := hW
  obtain ⟨S1, w, hI1, cl, cm⟩ := s_roomTemperature hGC hGT hGE (m := m) (a := a) hX hI
  show RR G ML_law 456 [(0, .ref b), (1, .ref x), (2, .ref m), (3, .ref o), (4, .ref d), (5, .int (iI ((i : Int))))] [] h (kc + 3) (ks + 18) Q
  refine r_aload_n dL_law_456 1 rfl ?_
  refine p_callV (As := []) (b := x) (rest := []) (w := (some (.int w))) (st' := [.int w]) kv_L_law_181 dL_law_457 rfl rfl (Nat.le_of_ble_eq_true rfl) (Nat.le_of_ble_eq_true rfl) (xb_rv hX) rfl rfl cl rfl (fun h2 e2 => ?_)
  obtain ⟨hX2, hF2x⟩ := e2
  have hF2 : FRp (o :: fpX x ad) h h2 := hF2x.mono (fun q hq => List.mem_cons_of_mem _ hq)
  have hM2 := hM.fr hF2 hDJ.mo hDJ.wo
  have hO2 : AOj G h2 o := hO.fr hF2x hDJ.2.2.1.1
  refine r_aload_n dL_law_460 2 rfl ?_
  refine p_callV (As := []) (b := m) (rest := [.int w]) (w := (some (.int w))) (st' := [.int w, .int w]) kv_L_law_184 dL_law_461 rfl rfl (Nat.le_of_ble_eq_true rfl) (Nat.le_of_ble_eq_true rfl) (mb_rv hM2) rfl rfl (cm h2 c hM2) rfl (fun h3 e3 => ?_)
  obtain ⟨hM3, hF3⟩ := e3
  refine r_icmpeq dL_law_464 (tgt := 3134) (by decide) (fun _ => ?_) (fun c => absurd rfl c)
  refine rr_room (rr_sub (kk _ _ _ (LW.mk hDJ hD hX2 hO2 hF2 hM3 hF3 hI1)) (lsL_t rfl)) ?_ ?_
  · exact Nat.le_add_right _ _
  · exact Nat.le_add_right _ _
set_option maxRecDepth 20000 in
set_option maxHeartbeats 1000000 in
theorem lc_6 {G : xG} {K : xK} {sa : Nat → Nat} (hGC : GC G K sa) (hGT : GT G sa) (hGE : GE G) (hCA : GCA G) {b L : Nat} {zs : Nat → Int} (hXs : x_zz G (fun _ U H => va_X b L (fun j => iI (zs j)) U H)) (hb : b < G.2.2.2) (hL : L ≤ 3072) (hz : ∀ j, in32 (zs j)) {x m o d : Nat} {ad : XA} {a : MA} (hDJ : DJW x ad m a o d) {i : Nat} (hi : i + 6 ≤ L) {h : xH} {S : XS} {c : Int} (hW : LW G K sa x m o d ad a S c h) {kc ks : Nat} {Q : xR → xH → Prop} (kk : ∀ (h9 : xH) (S9 : XS) (c9 : Int), LW G K sa x m o d ad a S9 c9 h9 → RR G ML_law 3134 (lsL b x m o d i) [] h9 kc ks Q) : RR G ML_law 469 (lsL b x m o d i) [] h (kc + 3) (ks + 18) Q := by
  obtain ⟨hX, hM, hI, hO, hD⟩ := hW
  obtain ⟨S1, w, hI1, cl, cm⟩ := s_meltingPoint hGC hGT hGE (m := m) (a := a) hX hI
  show RR G ML_law 469 [(0, .ref b), (1, .ref x), (2, .ref m), (3, .ref o), (4, .ref d), (5, .int (iI ((i : Int))))] [] h (kc + 3) (ks + 18) Q
  refine r_aload_n dL_law_469 1 rfl ?_
  refine p_callV (As := []) (b := x) (rest := []) (w := (some (.int w))) (st' := [.int w]) kv_L_law_185 dL_law_470 rfl rfl (Nat.le_of_ble_eq_true rfl) (Nat.le_of_ble_eq_true rfl) (xb_rv hX) rfl rfl cl rfl (fun h2 e2 => ?_)
  obtain ⟨hX2, hF2x⟩ := e2
  have hF2 : FRp (o :: fpX x ad) h h2 := hF2x.mono (fun q hq => List.mem_cons_of_mem _ hq)
  have hM2 := hM.fr hF2 hDJ.mo hDJ.wo
  have hO2 : AOj G h2 o := hO.fr hF2x hDJ.2.2.1.1
  refine r_aload_n dL_law_473 2 rfl ?_
  refine p_callV (As := []) (b := m) (rest := [.int w]) (w := (some (.int w))) (st' := [.int w, .int w]) kv_L_law_188 dL_law_474 rfl rfl (Nat.le_of_ble_eq_true rfl) (Nat.le_of_ble_eq_true rfl) (mb_rv hM2) rfl rfl (cm h2 c hM2) rfl (fun h3 e3 => ?_)
  obtain ⟨hM3, hF3⟩ := e3
  refine r_icmpeq dL_law_477 (tgt := 3134) (by decide) (fun _ => ?_) (fun c => absurd rfl c)
  refine rr_room (rr_sub (kk _ _ _ (LW.mk hDJ hD hX2 hO2 hF2 hM3 hF3 hI1)) (lsL_t rfl)) ?_ ?_
  · exact Nat.le_add_right _ _
  · exact Nat.le_add_right _ _
set_option maxRecDepth 20000 in
set_option maxHeartbeats 1000000 in
theorem lc_7 {G : xG} {K : xK} {sa : Nat → Nat} (hGC : GC G K sa) (hGT : GT G sa) (hGE : GE G) (hCA : GCA G) {b L : Nat} {zs : Nat → Int} (hXs : x_zz G (fun _ U H => va_X b L (fun j => iI (zs j)) U H)) (hb : b < G.2.2.2) (hL : L ≤ 3072) (hz : ∀ j, in32 (zs j)) {x m o d : Nat} {ad : XA} {a : MA} (hDJ : DJW x ad m a o d) {i : Nat} (hi : i + 6 ≤ L) {h : xH} {S : XS} {c : Int} (hW : LW G K sa x m o d ad a S c h) {kc ks : Nat} {Q : xR → xH → Prop} (kk : ∀ (h9 : xH) (S9 : XS) (c9 : Int), LW G K sa x m o d ad a S9 c9 h9 → RR G ML_law 3134 (lsL b x m o d i) [] h9 kc ks Q) : RR G ML_law 482 (lsL b x m o d i) [] h (kc + 3) (ks + 18) Q := by
  obtain ⟨hX, hM, hI, hO, hD⟩ := hW
  obtain ⟨S1, w, hI1, cl, cm⟩ := s_flour hGC hGT hGE (m := m) (a := a) hX hI
  show RR G ML_law 482 [(0, .ref b), (1, .ref x), (2, .ref m), (3, .ref o), (4, .ref d), (5, .int (iI ((i : Int))))] [] h (kc + 3) (ks + 18) Q
  refine r_aload_n dL_law_482 1 rfl ?_
  refine p_callV (As := []) (b := x) (rest := []) (w := (some (.int w))) (st' := [.int w]) kv_L_law_189 dL_law_483 rfl rfl (Nat.le_of_ble_eq_true rfl) (Nat.le_of_ble_eq_true rfl) (xb_rv hX) rfl rfl cl rfl (fun h2 e2 => ?_)
  obtain ⟨hX2, hF2x⟩ := e2
  have hF2 : FRp (o :: fpX x ad) h h2 := hF2x.mono (fun q hq => List.mem_cons_of_mem _ hq)
  have hM2 := hM.fr hF2 hDJ.mo hDJ.wo
  have hO2 : AOj G h2 o := hO.fr hF2x hDJ.2.2.1.1
  refine r_aload_n dL_law_486 2 rfl ?_
  refine p_callV (As := []) (b := m) (rest := [.int w]) (w := (some (.int w))) (st' := [.int w, .int w]) kv_L_law_192 dL_law_487 rfl rfl (Nat.le_of_ble_eq_true rfl) (Nat.le_of_ble_eq_true rfl) (mb_rv hM2) rfl rfl (cm h2 c hM2) rfl (fun h3 e3 => ?_)
  obtain ⟨hM3, hF3⟩ := e3
  refine r_icmpeq dL_law_490 (tgt := 3134) (by decide) (fun _ => ?_) (fun c => absurd rfl c)
  refine rr_room (rr_sub (kk _ _ _ (LW.mk hDJ hD hX2 hO2 hF2 hM3 hF3 hI1)) (lsL_t rfl)) ?_ ?_
  · exact Nat.le_add_right _ _
  · exact Nat.le_add_right _ _
set_option maxRecDepth 20000 in
set_option maxHeartbeats 1000000 in
theorem lc_8 {G : xG} {K : xK} {sa : Nat → Nat} (hGC : GC G K sa) (hGT : GT G sa) (hGE : GE G) (hCA : GCA G) {b L : Nat} {zs : Nat → Int} (hXs : x_zz G (fun _ U H => va_X b L (fun j => iI (zs j)) U H)) (hb : b < G.2.2.2) (hL : L ≤ 3072) (hz : ∀ j, in32 (zs j)) {x m o d : Nat} {ad : XA} {a : MA} (hDJ : DJW x ad m a o d) {i : Nat} (hi : i + 6 ≤ L) {h : xH} {S : XS} {c : Int} (hW : LW G K sa x m o d ad a S c h) {kc ks : Nat} {Q : xR → xH → Prop} (kk : ∀ (h9 : xH) (S9 : XS) (c9 : Int), LW G K sa x m o d ad a S9 c9 h9 → RR G ML_law 3134 (lsL b x m o d i) [] h9 kc ks Q) : RR G ML_law 495 (lsL b x m o d i) [] h (kc + 3) (ks + 18) Q := by
  obtain ⟨hX, hM, hI, hO, hD⟩ := hW
  obtain ⟨S1, w, hI1, cl, cm⟩ := s_hoursPassed hGC hGT hGE (m := m) (a := a) hX hI
  show RR G ML_law 495 [(0, .ref b), (1, .ref x), (2, .ref m), (3, .ref o), (4, .ref d), (5, .int (iI ((i : Int))))] [] h (kc + 3) (ks + 18) Q
  refine r_aload_n dL_law_495 1 rfl ?_
  refine p_callV (As := []) (b := x) (rest := []) (w := (some (.int w))) (st' := [.int w]) kv_L_law_193 dL_law_496 rfl rfl (Nat.le_of_ble_eq_true rfl) (Nat.le_of_ble_eq_true rfl) (xb_rv hX) rfl rfl cl rfl (fun h2 e2 => ?_)
  obtain ⟨hX2, hF2x⟩ := e2
  have hF2 : FRp (o :: fpX x ad) h h2 := hF2x.mono (fun q hq => List.mem_cons_of_mem _ hq)
  have hM2 := hM.fr hF2 hDJ.mo hDJ.wo
  have hO2 : AOj G h2 o := hO.fr hF2x hDJ.2.2.1.1
  refine r_aload_n dL_law_499 2 rfl ?_
  refine p_callV (As := []) (b := m) (rest := [.int w]) (w := (some (.int w))) (st' := [.int w, .int w]) kv_L_law_196 dL_law_500 rfl rfl (Nat.le_of_ble_eq_true rfl) (Nat.le_of_ble_eq_true rfl) (mb_rv hM2) rfl rfl (cm h2 c hM2) rfl (fun h3 e3 => ?_)
  obtain ⟨hM3, hF3⟩ := e3
  refine r_icmpeq dL_law_503 (tgt := 3134) (by decide) (fun _ => ?_) (fun c => absurd rfl c)
  refine rr_room (rr_sub (kk _ _ _ (LW.mk hDJ hD hX2 hO2 hF2 hM3 hF3 hI1)) (lsL_t rfl)) ?_ ?_
  · exact Nat.le_add_right _ _
  · exact Nat.le_add_right _ _
set_option maxRecDepth 20000 in
set_option maxHeartbeats 1000000 in
theorem lc_9 {G : xG} {K : xK} {sa : Nat → Nat} (hGC : GC G K sa) (hGT : GT G sa) (hGE : GE G) (hCA : GCA G) {b L : Nat} {zs : Nat → Int} (hXs : x_zz G (fun _ U H => va_X b L (fun j => iI (zs j)) U H)) (hb : b < G.2.2.2) (hL : L ≤ 3072) (hz : ∀ j, in32 (zs j)) {x m o d : Nat} {ad : XA} {a : MA} (hDJ : DJW x ad m a o d) {i : Nat} (hi : i + 6 ≤ L) {h : xH} {S : XS} {c : Int} (hW : LW G K sa x m o d ad a S c h) {kc ks : Nat} {Q : xR → xH → Prop} (kk : ∀ (h9 : xH) (S9 : XS) (c9 : Int), LW G K sa x m o d ad a S9 c9 h9 → RR G ML_law 3134 (lsL b x m o d i) [] h9 kc ks Q) : RR G ML_law 508 (lsL b x m o d i) [] h (kc + 3) (ks + 18) Q := by
  obtain ⟨hX, hM, hI, hO, hD⟩ := hW
  obtain ⟨S1, w, hI1, cl, cm⟩ := s_escapedButter hGC hGT hGE (m := m) (a := a) hX hI
  show RR G ML_law 508 [(0, .ref b), (1, .ref x), (2, .ref m), (3, .ref o), (4, .ref d), (5, .int (iI ((i : Int))))] [] h (kc + 3) (ks + 18) Q
  refine r_aload_n dL_law_508 1 rfl ?_
  refine p_callV (As := []) (b := x) (rest := []) (w := (some (.int w))) (st' := [.int w]) kv_L_law_197 dL_law_509 rfl rfl (Nat.le_of_ble_eq_true rfl) (Nat.le_of_ble_eq_true rfl) (xb_rv hX) rfl rfl cl rfl (fun h2 e2 => ?_)
  obtain ⟨hX2, hF2x⟩ := e2
  have hF2 : FRp (o :: fpX x ad) h h2 := hF2x.mono (fun q hq => List.mem_cons_of_mem _ hq)
  have hM2 := hM.fr hF2 hDJ.mo hDJ.wo
  have hO2 : AOj G h2 o := hO.fr hF2x hDJ.2.2.1.1
  refine r_aload_n dL_law_512 2 rfl ?_
  refine p_callV (As := []) (b := m) (rest := [.int w]) (w := (some (.int w))) (st' := [.int w, .int w]) kv_L_law_200 dL_law_513 rfl rfl (Nat.le_of_ble_eq_true rfl) (Nat.le_of_ble_eq_true rfl) (mb_rv hM2) rfl rfl (cm h2 c hM2) rfl (fun h3 e3 => ?_)
  obtain ⟨hM3, hF3⟩ := e3
  refine r_icmpeq dL_law_516 (tgt := 3134) (by decide) (fun _ => ?_) (fun c => absurd rfl c)
  refine rr_room (rr_sub (kk _ _ _ (LW.mk hDJ hD hX2 hO2 hF2 hM3 hF3 hI1)) (lsL_t rfl)) ?_ ?_
  · exact Nat.le_add_right _ _
  · exact Nat.le_add_right _ _
set_option maxRecDepth 20000 in
set_option maxHeartbeats 1000000 in
theorem lc_10 {G : xG} {K : xK} {sa : Nat → Nat} (hGC : GC G K sa) (hGT : GT G sa) (hGE : GE G) (hCA : GCA G) {b L : Nat} {zs : Nat → Int} (hXs : x_zz G (fun _ U H => va_X b L (fun j => iI (zs j)) U H)) (hb : b < G.2.2.2) (hL : L ≤ 3072) (hz : ∀ j, in32 (zs j)) {x m o d : Nat} {ad : XA} {a : MA} (hDJ : DJW x ad m a o d) {i : Nat} (hi : i + 6 ≤ L) {h : xH} {S : XS} {c : Int} (hW : LW G K sa x m o d ad a S c h) {kc ks : Nat} {Q : xR → xH → Prop} (kk : ∀ (h9 : xH) (S9 : XS) (c9 : Int), LW G K sa x m o d ad a S9 c9 h9 → RR G ML_law 3134 (lsL b x m o d i) [] h9 kc ks Q) : RR G ML_law 521 (lsL b x m o d i) [] h (kc + 3) (ks + 18) Q := by
  obtain ⟨hX, hM, hI, hO, hD⟩ := hW
  obtain ⟨S1, w, hI1, cl, cm⟩ := s_brokenLayers hGC hGT hGE (m := m) (a := a) hX hI
  show RR G ML_law 521 [(0, .ref b), (1, .ref x), (2, .ref m), (3, .ref o), (4, .ref d), (5, .int (iI ((i : Int))))] [] h (kc + 3) (ks + 18) Q
  refine r_aload_n dL_law_521 1 rfl ?_
  refine p_callV (As := []) (b := x) (rest := []) (w := (some (.int w))) (st' := [.int w]) kv_L_law_201 dL_law_522 rfl rfl (Nat.le_of_ble_eq_true rfl) (Nat.le_of_ble_eq_true rfl) (xb_rv hX) rfl rfl cl rfl (fun h2 e2 => ?_)
  obtain ⟨hX2, hF2x⟩ := e2
  have hF2 : FRp (o :: fpX x ad) h h2 := hF2x.mono (fun q hq => List.mem_cons_of_mem _ hq)
  have hM2 := hM.fr hF2 hDJ.mo hDJ.wo
  have hO2 : AOj G h2 o := hO.fr hF2x hDJ.2.2.1.1
  refine r_aload_n dL_law_525 2 rfl ?_
  refine p_callV (As := []) (b := m) (rest := [.int w]) (w := (some (.int w))) (st' := [.int w, .int w]) kv_L_law_204 dL_law_526 rfl rfl (Nat.le_of_ble_eq_true rfl) (Nat.le_of_ble_eq_true rfl) (mb_rv hM2) rfl rfl (cm h2 c hM2) rfl (fun h3 e3 => ?_)
  obtain ⟨hM3, hF3⟩ := e3
  refine r_icmpeq dL_law_529 (tgt := 3134) (by decide) (fun _ => ?_) (fun c => absurd rfl c)
  refine rr_room (rr_sub (kk _ _ _ (LW.mk hDJ hD hX2 hO2 hF2 hM3 hF3 hI1)) (lsL_t rfl)) ?_ ?_
  · exact Nat.le_add_right _ _
  · exact Nat.le_add_right _ _
set_option maxRecDepth 20000 in
set_option maxHeartbeats 1000000 in
theorem lc_11 {G : xG} {K : xK} {sa : Nat → Nat} (hGC : GC G K sa) (hGT : GT G sa) (hGE : GE G) (hCA : GCA G) {b L : Nat} {zs : Nat → Int} (hXs : x_zz G (fun _ U H => va_X b L (fun j => iI (zs j)) U H)) (hb : b < G.2.2.2) (hL : L ≤ 3072) (hz : ∀ j, in32 (zs j)) {x m o d : Nat} {ad : XA} {a : MA} (hDJ : DJW x ad m a o d) {i : Nat} (hi : i + 6 ≤ L) {h : xH} {S : XS} {c : Int} (hW : LW G K sa x m o d ad a S c h) {kc ks : Nat} {Q : xR → xH → Prop} (kk : ∀ (h9 : xH) (S9 : XS) (c9 : Int), LW G K sa x m o d ad a S9 c9 h9 → RR G ML_law 3134 (lsL b x m o d i) [] h9 kc ks Q) : RR G ML_law 534 (lsL b x m o d i) [] h (kc + 3) (ks + 18) Q := by
  obtain ⟨hX, hM, hI, hO, hD⟩ := hW
  obtain ⟨S1, w, hI1, cl, cm⟩ := s_warmestSheet hGC hGT hGE (m := m) (a := a) hX hI
  show RR G ML_law 534 [(0, .ref b), (1, .ref x), (2, .ref m), (3, .ref o), (4, .ref d), (5, .int (iI ((i : Int))))] [] h (kc + 3) (ks + 18) Q
  refine r_aload_n dL_law_534 1 rfl ?_
  refine p_callV (As := []) (b := x) (rest := []) (w := (some (.int w))) (st' := [.int w]) kv_L_law_205 dL_law_535 rfl rfl (Nat.le_of_ble_eq_true rfl) (Nat.le_of_ble_eq_true rfl) (xb_rv hX) rfl rfl cl rfl (fun h2 e2 => ?_)
  obtain ⟨hX2, hF2x⟩ := e2
  have hF2 : FRp (o :: fpX x ad) h h2 := hF2x.mono (fun q hq => List.mem_cons_of_mem _ hq)
  have hM2 := hM.fr hF2 hDJ.mo hDJ.wo
  have hO2 : AOj G h2 o := hO.fr hF2x hDJ.2.2.1.1
  refine r_aload_n dL_law_538 2 rfl ?_
  refine p_callV (As := []) (b := m) (rest := [.int w]) (w := (some (.int w))) (st' := [.int w, .int w]) kv_L_law_208 dL_law_539 rfl rfl (Nat.le_of_ble_eq_true rfl) (Nat.le_of_ble_eq_true rfl) (mb_rv hM2) rfl rfl (cm h2 c hM2) rfl (fun h3 e3 => ?_)
  obtain ⟨hM3, hF3⟩ := e3
  refine r_icmpeq dL_law_542 (tgt := 3134) (by decide) (fun _ => ?_) (fun c => absurd rfl c)
  refine rr_room (rr_sub (kk _ _ _ (LW.mk hDJ hD hX2 hO2 hF2 hM3 hF3 hI1)) (lsL_t rfl)) ?_ ?_
  · exact Nat.le_add_right _ _
  · exact Nat.le_add_right _ _
set_option maxRecDepth 20000 in
set_option maxHeartbeats 1000000 in
theorem lc_12 {G : xG} {K : xK} {sa : Nat → Nat} (hGC : GC G K sa) (hGT : GT G sa) (hGE : GE G) (hCA : GCA G) {b L : Nat} {zs : Nat → Int} (hXs : x_zz G (fun _ U H => va_X b L (fun j => iI (zs j)) U H)) (hb : b < G.2.2.2) (hL : L ≤ 3072) (hz : ∀ j, in32 (zs j)) {x m o d : Nat} {ad : XA} {a : MA} (hDJ : DJW x ad m a o d) {i : Nat} (hi : i + 6 ≤ L) {h : xH} {S : XS} {c : Int} (hW : LW G K sa x m o d ad a S c h) {kc ks : Nat} {Q : xR → xH → Prop} (kk : ∀ (h9 : xH) (S9 : XS) (c9 : Int), LW G K sa x m o d ad a S9 c9 h9 → RR G ML_law 3134 (lsL b x m o d i) [] h9 kc ks Q) : RR G ML_law 547 (lsL b x m o d i) [] h (kc + 3) (ks + 18) Q := by
  obtain ⟨hX, hM, hI, hO, hD⟩ := hW
  obtain ⟨S1, w, hI1, cl, cm⟩ := s_finestSheet hGC hGT hGE (m := m) (a := a) hX hI
  show RR G ML_law 547 [(0, .ref b), (1, .ref x), (2, .ref m), (3, .ref o), (4, .ref d), (5, .int (iI ((i : Int))))] [] h (kc + 3) (ks + 18) Q
  refine r_aload_n dL_law_547 1 rfl ?_
  refine p_callV (As := []) (b := x) (rest := []) (w := (some (.int w))) (st' := [.int w]) kv_L_law_209 dL_law_548 rfl rfl (Nat.le_of_ble_eq_true rfl) (Nat.le_of_ble_eq_true rfl) (xb_rv hX) rfl rfl cl rfl (fun h2 e2 => ?_)
  obtain ⟨hX2, hF2x⟩ := e2
  have hF2 : FRp (o :: fpX x ad) h h2 := hF2x.mono (fun q hq => List.mem_cons_of_mem _ hq)
  have hM2 := hM.fr hF2 hDJ.mo hDJ.wo
  have hO2 : AOj G h2 o := hO.fr hF2x hDJ.2.2.1.1
  refine r_aload_n dL_law_551 2 rfl ?_
  refine p_callV (As := []) (b := m) (rest := [.int w]) (w := (some (.int w))) (st' := [.int w, .int w]) kv_L_law_212 dL_law_552 rfl rfl (Nat.le_of_ble_eq_true rfl) (Nat.le_of_ble_eq_true rfl) (mb_rv hM2) rfl rfl (cm h2 c hM2) rfl (fun h3 e3 => ?_)
  obtain ⟨hM3, hF3⟩ := e3
  refine r_icmpeq dL_law_555 (tgt := 3134) (by decide) (fun _ => ?_) (fun c => absurd rfl c)
  refine rr_room (rr_sub (kk _ _ _ (LW.mk hDJ hD hX2 hO2 hF2 hM3 hF3 hI1)) (lsL_t rfl)) ?_ ?_
  · exact Nat.le_add_right _ _
  · exact Nat.le_add_right _ _
set_option maxRecDepth 20000 in
set_option maxHeartbeats 1000000 in
theorem lc_13 {G : xG} {K : xK} {sa : Nat → Nat} (hGC : GC G K sa) (hGT : GT G sa) (hGE : GE G) (hCA : GCA G) {b L : Nat} {zs : Nat → Int} (hXs : x_zz G (fun _ U H => va_X b L (fun j => iI (zs j)) U H)) (hb : b < G.2.2.2) (hL : L ≤ 3072) (hz : ∀ j, in32 (zs j)) {x m o d : Nat} {ad : XA} {a : MA} (hDJ : DJW x ad m a o d) {i : Nat} (hi : i + 6 ≤ L) {h : xH} {S : XS} {c : Int} (hW : LW G K sa x m o d ad a S c h) {kc ks : Nat} {Q : xR → xH → Prop} (kk : ∀ (h9 : xH) (S9 : XS) (c9 : Int), LW G K sa x m o d ad a S9 c9 h9 → RR G ML_law 3134 (lsL b x m o d i) [] h9 kc ks Q) : RR G ML_law 560 (lsL b x m o d i) [] h (kc + 3) (ks + 18) Q := by
  obtain ⟨hX, hM, hI, hO, hD⟩ := hW
  obtain ⟨S1, k, V, mv, hI1, hk, hr, cl, cm⟩ := s_layerCount hGC hGT hGE hCA (m := m) (a := a) hX hI hO hDJ.2.2.1.1 (hz (i + 1))
  obtain ⟨w, rfl, rfl⟩ := hr
  show RR G ML_law 560 [(0, .ref b), (1, .ref x), (2, .ref m), (3, .ref o), (4, .ref d), (5, .int (iI ((i : Int))))] [] h (kc + 3) (ks + 18) Q
  refine r_aload_n dL_law_560 1 rfl ?_
  refine r_aload_n dL_law_561 0 rfl ?_
  refine r_iload dL_law_562 5 rfl ?_
  refine i_const (1) dL_law_564 ?_
  refine i_add dL_law_565 ?_
  refine r_sld hXs hb (i + 1) (by omega) (by omega) (by omega) dL_law_566 ?_
  refine r_aload_n dL_law_567 3 rfl ?_
  refine k_callSW (As := [.ref x, .int (iI (zs (i + 1))), .ref o]) (rest := []) (w := some (.int (iI k))) (st' := [.int (iI k)]) kw_L_layerCount dL_law_568 rfl rfl (Nat.le_of_ble_eq_true rfl) (Nat.le_of_ble_eq_true rfl) (by show 1 ≤ kc + 3; omega) (by show 6 ≤ ks + 18; omega) cl rfl (fun h2 e2 => ?_)
  obtain ⟨hX2, ⟨mo2, g2, fo2, hg2⟩, hF2⟩ := e2
  have hM2 := hM.fr hF2 hDJ.mo hDJ.wo
  refine r_istore (ls' := [(0, .ref b), (1, .ref x), (2, .ref m), (3, .ref o), (4, .ref d), (5, .int (iI ((i : Int)))), (6, .int (iI k))]) dL_law_571 (by decide) rfl ?_
  refine r_aload_n dL_law_573 2 rfl ?_
  refine r_aload_n dL_law_574 0 rfl ?_
  refine r_iload dL_law_575 5 rfl ?_
  refine i_const (1) dL_law_577 ?_
  refine i_add dL_law_578 ?_
  refine r_sld hXs hb (i + 1) (by omega) (by omega) (by omega) dL_law_579 ?_
  refine p_callV (As := [.int (iI (zs (i + 1)))]) (b := m) (rest := []) (w := (some (.int w))) (st' := [.int w]) kv_L_law_215 dL_law_580 rfl rfl (Nat.le_of_ble_eq_true rfl) (Nat.le_of_ble_eq_true rfl) (mb_rv hM2) rfl rfl (cm h2 c hM2) rfl (fun h3 e3 => ?_)
  obtain ⟨hM3, hF3⟩ := e3
  have fo3 := (hF3.2 o hDJ.2.2.1.2.1).trans fo2
  have mo3 : o ∈ h3.1 := by rw [hF3.1]; exact mo2
  refine r_istore (ls' := [(0, .ref b), (1, .ref x), (2, .ref m), (3, .ref o), (4, .ref d), (5, .int (iI ((i : Int)))), (6, .int (iI k)), (7, .int w)]) dL_law_583 (by decide) rfl ?_
  refine r_aload_n dL_law_585 2 rfl ?_
  refine p_callV (As := []) (b := m) (rest := []) (w := (some (.int (iI k)))) (st' := [.int (iI k)]) kv_L_law_166 dL_law_586 rfl rfl (Nat.le_of_ble_eq_true rfl) (Nat.le_of_ble_eq_true rfl) (mb_rv hM3) rfl rfl (b_X12_thrown hM3) rfl (fun h9 e9 => ?_)
  rw [show h9 = h3 from e9]
  refine r_iload dL_law_589 6 rfl ?_
  refine i_icmpeq dL_law_591 (tgt := 596) (by decide) (in32_k hk) (in32_k hk) (fun _ => ?_) (fun c => absurd rfl c)
  refine r_iload dL_law_596 6 rfl ?_
  refine i_ifne dL_law_598 (tgt := 613) (by decide) (in32_k hk) (fun c598 => ?_) (fun c598 => ?_)
  · refine r_goto dL_law_613 (tgt := 3134) (by decide) ?_
    refine rr_room (rr_sub (kk _ _ _ (LW.mk hDJ hD hX2 ⟨mo2, g2, fo2⟩ hF2 hM3 hF3 hI1)) (lsL_t rfl)) ?_ ?_
    · show kc ≤ kc + 3 - 1; omega
    · show ks ≤ ks + 18 - 6; omega
  · refine r_aload_n dL_law_601 3 rfl ?_
    refine i_const (0) dL_law_602 ?_
    refine i_lald0 dL_law_603 mo3 fo3 (hg2 c598) ?_
    refine r_iload dL_law_604 7 rfl ?_
    refine r_i2l dL_law_606 ?_
    refine i_lcmpe dL_law_607 ?_
    refine i_ifeq dL_law_608 (tgt := 613) (by decide) ⟨by decide, by decide⟩ (fun _ => ?_) (fun c => absurd c (by decide))
    refine r_goto dL_law_613 (tgt := 3134) (by decide) ?_
    refine rr_room (rr_sub (kk _ _ _ (LW.mk hDJ hD hX2 ⟨mo2, g2, fo2⟩ hF2 hM3 hF3 hI1)) (lsL_t rfl)) ?_ ?_
    · show kc ≤ kc + 3 - 1; omega
    · show ks ≤ ks + 18 - 6; omega
set_option maxRecDepth 20000 in
set_option maxHeartbeats 1000000 in
theorem lc_14 {G : xG} {K : xK} {sa : Nat → Nat} (hGC : GC G K sa) (hGT : GT G sa) (hGE : GE G) (hCA : GCA G) {b L : Nat} {zs : Nat → Int} (hXs : x_zz G (fun _ U H => va_X b L (fun j => iI (zs j)) U H)) (hb : b < G.2.2.2) (hL : L ≤ 3072) (hz : ∀ j, in32 (zs j)) {x m o d : Nat} {ad : XA} {a : MA} (hDJ : DJW x ad m a o d) {i : Nat} (hi : i + 6 ≤ L) {h : xH} {S : XS} {c : Int} (hW : LW G K sa x m o d ad a S c h) {kc ks : Nat} {Q : xR → xH → Prop} (kk : ∀ (h9 : xH) (S9 : XS) (c9 : Int), LW G K sa x m o d ad a S9 c9 h9 → RR G ML_law 3134 (lsL b x m o d i) [] h9 kc ks Q) : RR G ML_law 616 (lsL b x m o d i) [] h (kc + 3) (ks + 18) Q := by
  obtain ⟨hX, hM, hI, hO, hD⟩ := hW
  obtain ⟨S1, k, V, mv, hI1, hk, hr, cl, cm⟩ := s_butterLayerCount hGC hGT hGE hCA (m := m) (a := a) hX hI hO hDJ.2.2.1.1 (hz (i + 1))
  obtain ⟨w, rfl, rfl⟩ := hr
  show RR G ML_law 616 [(0, .ref b), (1, .ref x), (2, .ref m), (3, .ref o), (4, .ref d), (5, .int (iI ((i : Int))))] [] h (kc + 3) (ks + 18) Q
  refine r_aload_n dL_law_616 1 rfl ?_
  refine r_aload_n dL_law_617 0 rfl ?_
  refine r_iload dL_law_618 5 rfl ?_
  refine i_const (1) dL_law_620 ?_
  refine i_add dL_law_621 ?_
  refine r_sld hXs hb (i + 1) (by omega) (by omega) (by omega) dL_law_622 ?_
  refine r_aload_n dL_law_623 3 rfl ?_
  refine k_callSW (As := [.ref x, .int (iI (zs (i + 1))), .ref o]) (rest := []) (w := some (.int (iI k))) (st' := [.int (iI k)]) kw_L_butterLayerCount dL_law_624 rfl rfl (Nat.le_of_ble_eq_true rfl) (Nat.le_of_ble_eq_true rfl) (by show 1 ≤ kc + 3; omega) (by show 6 ≤ ks + 18; omega) cl rfl (fun h2 e2 => ?_)
  obtain ⟨hX2, ⟨mo2, g2, fo2, hg2⟩, hF2⟩ := e2
  have hM2 := hM.fr hF2 hDJ.mo hDJ.wo
  refine r_istore (ls' := [(0, .ref b), (1, .ref x), (2, .ref m), (3, .ref o), (4, .ref d), (5, .int (iI ((i : Int)))), (6, .int (iI k))]) dL_law_627 (by decide) rfl ?_
  refine r_aload_n dL_law_629 2 rfl ?_
  refine r_aload_n dL_law_630 0 rfl ?_
  refine r_iload dL_law_631 5 rfl ?_
  refine i_const (1) dL_law_633 ?_
  refine i_add dL_law_634 ?_
  refine r_sld hXs hb (i + 1) (by omega) (by omega) (by omega) dL_law_635 ?_
  refine p_callV (As := [.int (iI (zs (i + 1)))]) (b := m) (rest := []) (w := (some (.int w))) (st' := [.int w]) kv_L_law_218 dL_law_636 rfl rfl (Nat.le_of_ble_eq_true rfl) (Nat.le_of_ble_eq_true rfl) (mb_rv hM2) rfl rfl (cm h2 c hM2) rfl (fun h3 e3 => ?_)
  obtain ⟨hM3, hF3⟩ := e3
  have fo3 := (hF3.2 o hDJ.2.2.1.2.1).trans fo2
  have mo3 : o ∈ h3.1 := by rw [hF3.1]; exact mo2
  refine r_istore (ls' := [(0, .ref b), (1, .ref x), (2, .ref m), (3, .ref o), (4, .ref d), (5, .int (iI ((i : Int)))), (6, .int (iI k)), (7, .int w)]) dL_law_639 (by decide) rfl ?_
  refine r_aload_n dL_law_641 2 rfl ?_
  refine p_callV (As := []) (b := m) (rest := []) (w := (some (.int (iI k)))) (st' := [.int (iI k)]) kv_L_law_166 dL_law_642 rfl rfl (Nat.le_of_ble_eq_true rfl) (Nat.le_of_ble_eq_true rfl) (mb_rv hM3) rfl rfl (b_X12_thrown hM3) rfl (fun h9 e9 => ?_)
  rw [show h9 = h3 from e9]
  refine r_iload dL_law_645 6 rfl ?_
  refine i_icmpeq dL_law_647 (tgt := 652) (by decide) (in32_k hk) (in32_k hk) (fun _ => ?_) (fun c => absurd rfl c)
  refine r_iload dL_law_652 6 rfl ?_
  refine i_ifne dL_law_654 (tgt := 669) (by decide) (in32_k hk) (fun c654 => ?_) (fun c654 => ?_)
  · refine r_goto dL_law_669 (tgt := 3134) (by decide) ?_
    refine rr_room (rr_sub (kk _ _ _ (LW.mk hDJ hD hX2 ⟨mo2, g2, fo2⟩ hF2 hM3 hF3 hI1)) (lsL_t rfl)) ?_ ?_
    · show kc ≤ kc + 3 - 1; omega
    · show ks ≤ ks + 18 - 6; omega
  · refine r_aload_n dL_law_657 3 rfl ?_
    refine i_const (0) dL_law_658 ?_
    refine i_lald0 dL_law_659 mo3 fo3 (hg2 c654) ?_
    refine r_iload dL_law_660 7 rfl ?_
    refine r_i2l dL_law_662 ?_
    refine i_lcmpe dL_law_663 ?_
    refine i_ifeq dL_law_664 (tgt := 669) (by decide) ⟨by decide, by decide⟩ (fun _ => ?_) (fun c => absurd c (by decide))
    refine r_goto dL_law_669 (tgt := 3134) (by decide) ?_
    refine rr_room (rr_sub (kk _ _ _ (LW.mk hDJ hD hX2 ⟨mo2, g2, fo2⟩ hF2 hM3 hF3 hI1)) (lsL_t rfl)) ?_ ?_
    · show kc ≤ kc + 3 - 1; omega
    · show ks ≤ ks + 18 - 6; omega
set_option maxRecDepth 20000 in
set_option maxHeartbeats 1000000 in
theorem lc_15 {G : xG} {K : xK} {sa : Nat → Nat} (hGC : GC G K sa) (hGT : GT G sa) (hGE : GE G) (hCA : GCA G) {b L : Nat} {zs : Nat → Int} (hXs : x_zz G (fun _ U H => va_X b L (fun j => iI (zs j)) U H)) (hb : b < G.2.2.2) (hL : L ≤ 3072) (hz : ∀ j, in32 (zs j)) {x m o d : Nat} {ad : XA} {a : MA} (hDJ : DJW x ad m a o d) {i : Nat} (hi : i + 6 ≤ L) {h : xH} {S : XS} {c : Int} (hW : LW G K sa x m o d ad a S c h) {kc ks : Nat} {Q : xR → xH → Prop} (kk : ∀ (h9 : xH) (S9 : XS) (c9 : Int), LW G K sa x m o d ad a S9 c9 h9 → RR G ML_law 3134 (lsL b x m o d i) [] h9 kc ks Q) : RR G ML_law 672 (lsL b x m o d i) [] h (kc + 3) (ks + 18) Q := by
  obtain ⟨hX, hM, hI, hO, hD⟩ := hW
  obtain ⟨S1, k, V, mv, hI1, hk, hr, cl, cm⟩ := s_isButter hGC hGT hGE hCA (m := m) (a := a) hX hI hO hDJ.2.2.1.1 (hz (i + 1)) (hz (i + 2))
  obtain ⟨w, rfl, rfl⟩ := hr
  show RR G ML_law 672 [(0, .ref b), (1, .ref x), (2, .ref m), (3, .ref o), (4, .ref d), (5, .int (iI ((i : Int))))] [] h (kc + 3) (ks + 18) Q
  refine r_aload_n dL_law_672 1 rfl ?_
  refine r_aload_n dL_law_673 0 rfl ?_
  refine r_iload dL_law_674 5 rfl ?_
  refine i_const (1) dL_law_676 ?_
  refine i_add dL_law_677 ?_
  refine r_sld hXs hb (i + 1) (by omega) (by omega) (by omega) dL_law_678 ?_
  refine r_aload_n dL_law_679 0 rfl ?_
  refine r_iload dL_law_680 5 rfl ?_
  refine i_const (2) dL_law_682 ?_
  refine i_add dL_law_683 ?_
  refine r_sld hXs hb (i + 2) (by omega) (by omega) (by omega) dL_law_684 ?_
  refine r_aload_n dL_law_685 3 rfl ?_
  refine k_callSW (As := [.ref x, .int (iI (zs (i + 1))), .int (iI (zs (i + 2))), .ref o]) (rest := []) (w := some (.int (iI k))) (st' := [.int (iI k)]) kw_L_isButter dL_law_686 rfl rfl (Nat.le_of_ble_eq_true rfl) (Nat.le_of_ble_eq_true rfl) (by show 2 ≤ kc + 3; omega) (by show 12 ≤ ks + 18; omega) cl rfl (fun h2 e2 => ?_)
  obtain ⟨hX2, ⟨mo2, g2, fo2, hg2⟩, hF2⟩ := e2
  have hM2 := hM.fr hF2 hDJ.mo hDJ.wo
  refine r_istore (ls' := [(0, .ref b), (1, .ref x), (2, .ref m), (3, .ref o), (4, .ref d), (5, .int (iI ((i : Int)))), (6, .int (iI k))]) dL_law_689 (by decide) rfl ?_
  refine r_aload_n dL_law_691 2 rfl ?_
  refine r_aload_n dL_law_692 0 rfl ?_
  refine r_iload dL_law_693 5 rfl ?_
  refine i_const (1) dL_law_695 ?_
  refine i_add dL_law_696 ?_
  refine r_sld hXs hb (i + 1) (by omega) (by omega) (by omega) dL_law_697 ?_
  refine r_aload_n dL_law_698 0 rfl ?_
  refine r_iload dL_law_699 5 rfl ?_
  refine i_const (2) dL_law_701 ?_
  refine i_add dL_law_702 ?_
  refine r_sld hXs hb (i + 2) (by omega) (by omega) (by omega) dL_law_703 ?_
  refine p_callV (As := [.int (iI (zs (i + 1))), .int (iI (zs (i + 2)))]) (b := m) (rest := []) (w := (some (.int (iI (b2 w))))) (st' := [.int (iI (b2 w))]) kv_L_law_222 dL_law_704 rfl rfl (Nat.le_of_ble_eq_true rfl) (Nat.le_of_ble_eq_true rfl) (mb_rv hM2) rfl rfl (cm h2 c hM2) rfl (fun h3 e3 => ?_)
  obtain ⟨hM3, hF3⟩ := e3
  have fo3 := (hF3.2 o hDJ.2.2.1.2.1).trans fo2
  have mo3 : o ∈ h3.1 := by rw [hF3.1]; exact mo2
  refine r_istore (ls' := [(0, .ref b), (1, .ref x), (2, .ref m), (3, .ref o), (4, .ref d), (5, .int (iI ((i : Int)))), (6, .int (iI k)), (7, .int (iI (b2 w)))]) dL_law_707 (by decide) rfl ?_
  refine r_aload_n dL_law_709 2 rfl ?_
  refine p_callV (As := []) (b := m) (rest := []) (w := (some (.int (iI k)))) (st' := [.int (iI k)]) kv_L_law_166 dL_law_710 rfl rfl (Nat.le_of_ble_eq_true rfl) (Nat.le_of_ble_eq_true rfl) (mb_rv hM3) rfl rfl (b_X12_thrown hM3) rfl (fun h9 e9 => ?_)
  rw [show h9 = h3 from e9]
  refine r_iload dL_law_713 6 rfl ?_
  refine i_icmpeq dL_law_715 (tgt := 720) (by decide) (in32_k hk) (in32_k hk) (fun _ => ?_) (fun c => absurd rfl c)
  refine r_iload dL_law_720 6 rfl ?_
  refine i_ifne dL_law_722 (tgt := 744) (by decide) (in32_k hk) (fun c722 => ?_) (fun c722 => ?_)
  · refine r_goto dL_law_744 (tgt := 3134) (by decide) ?_
    refine rr_room (rr_sub (kk _ _ _ (LW.mk hDJ hD hX2 ⟨mo2, g2, fo2⟩ hF2 hM3 hF3 hI1)) (lsL_t rfl)) ?_ ?_
    · show kc ≤ kc + 3 - 2; omega
    · show ks ≤ ks + 18 - 12; omega
  · refine r_aload_n dL_law_725 3 rfl ?_
    refine i_const (0) dL_law_726 ?_
    refine i_lald0 dL_law_727 mo3 fo3 (hg2 c722) ?_
    refine r_iload dL_law_728 7 rfl ?_
    refine i_ifeqb dL_law_730 (tgt := 737) (by decide) (fun cb => ?_) (fun cb => ?_)
    · subst cb
      refine r_lconst dL_law_737 ?_
      refine i_lcmpe dL_law_738 ?_
      refine i_ifeq dL_law_739 (tgt := 744) (by decide) ⟨by decide, by decide⟩ (fun _ => ?_) (fun c => absurd c (by decide))
      refine r_goto dL_law_744 (tgt := 3134) (by decide) ?_
      refine rr_room (rr_sub (kk _ _ _ (LW.mk hDJ hD hX2 ⟨mo2, g2, fo2⟩ hF2 hM3 hF3 hI1)) (lsL_t rfl)) ?_ ?_
      · show kc ≤ kc + 3 - 2; omega
      · show ks ≤ ks + 18 - 12; omega
    · subst cb
      refine r_lconst dL_law_733 ?_
      refine r_goto dL_law_734 (tgt := 738) (by decide) ?_
      refine i_lcmpe dL_law_738 ?_
      refine i_ifeq dL_law_739 (tgt := 744) (by decide) ⟨by decide, by decide⟩ (fun _ => ?_) (fun c => absurd c (by decide))
      refine r_goto dL_law_744 (tgt := 3134) (by decide) ?_
      refine rr_room (rr_sub (kk _ _ _ (LW.mk hDJ hD hX2 ⟨mo2, g2, fo2⟩ hF2 hM3 hF3 hI1)) (lsL_t rfl)) ?_ ?_
      · show kc ≤ kc + 3 - 2; omega
      · show ks ≤ ks + 18 - 12; omega
set_option maxRecDepth 20000 in
set_option maxHeartbeats 1000000 in
theorem lc_16 {G : xG} {K : xK} {sa : Nat → Nat} (hGC : GC G K sa) (hGT : GT G sa) (hGE : GE G) (hCA : GCA G) {b L : Nat} {zs : Nat → Int} (hXs : x_zz G (fun _ U H => va_X b L (fun j => iI (zs j)) U H)) (hb : b < G.2.2.2) (hL : L ≤ 3072) (hz : ∀ j, in32 (zs j)) {x m o d : Nat} {ad : XA} {a : MA} (hDJ : DJW x ad m a o d) {i : Nat} (hi : i + 6 ≤ L) {h : xH} {S : XS} {c : Int} (hW : LW G K sa x m o d ad a S c h) {kc ks : Nat} {Q : xR → xH → Prop} (kk : ∀ (h9 : xH) (S9 : XS) (c9 : Int), LW G K sa x m o d ad a S9 c9 h9 → RR G ML_law 3134 (lsL b x m o d i) [] h9 kc ks Q) : RR G ML_law 747 (lsL b x m o d i) [] h (kc + 3) (ks + 18) Q := by
  obtain ⟨hX, hM, hI, hO, hD⟩ := hW
  obtain ⟨S1, k, V, mv, hI1, hk, hr, cl, cm⟩ := s_thickness hGC hGT hGE hCA (m := m) (a := a) hX hI hO hDJ.2.2.1.1 (hz (i + 1)) (hz (i + 2))
  obtain ⟨w, rfl, rfl⟩ := hr
  show RR G ML_law 747 [(0, .ref b), (1, .ref x), (2, .ref m), (3, .ref o), (4, .ref d), (5, .int (iI ((i : Int))))] [] h (kc + 3) (ks + 18) Q
  refine r_aload_n dL_law_747 1 rfl ?_
  refine r_aload_n dL_law_748 0 rfl ?_
  refine r_iload dL_law_749 5 rfl ?_
  refine i_const (1) dL_law_751 ?_
  refine i_add dL_law_752 ?_
  refine r_sld hXs hb (i + 1) (by omega) (by omega) (by omega) dL_law_753 ?_
  refine r_aload_n dL_law_754 0 rfl ?_
  refine r_iload dL_law_755 5 rfl ?_
  refine i_const (2) dL_law_757 ?_
  refine i_add dL_law_758 ?_
  refine r_sld hXs hb (i + 2) (by omega) (by omega) (by omega) dL_law_759 ?_
  refine r_aload_n dL_law_760 3 rfl ?_
  refine k_callSW (As := [.ref x, .int (iI (zs (i + 1))), .int (iI (zs (i + 2))), .ref o]) (rest := []) (w := some (.int (iI k))) (st' := [.int (iI k)]) kw_L_thickness dL_law_761 rfl rfl (Nat.le_of_ble_eq_true rfl) (Nat.le_of_ble_eq_true rfl) (by show 2 ≤ kc + 3; omega) (by show 12 ≤ ks + 18; omega) cl rfl (fun h2 e2 => ?_)
  obtain ⟨hX2, ⟨mo2, g2, fo2, hg2⟩, hF2⟩ := e2
  have hM2 := hM.fr hF2 hDJ.mo hDJ.wo
  refine r_istore (ls' := [(0, .ref b), (1, .ref x), (2, .ref m), (3, .ref o), (4, .ref d), (5, .int (iI ((i : Int)))), (6, .int (iI k))]) dL_law_764 (by decide) rfl ?_
  refine r_aload_n dL_law_766 2 rfl ?_
  refine r_aload_n dL_law_767 0 rfl ?_
  refine r_iload dL_law_768 5 rfl ?_
  refine i_const (1) dL_law_770 ?_
  refine i_add dL_law_771 ?_
  refine r_sld hXs hb (i + 1) (by omega) (by omega) (by omega) dL_law_772 ?_
  refine r_aload_n dL_law_773 0 rfl ?_
  refine r_iload dL_law_774 5 rfl ?_
  refine i_const (2) dL_law_776 ?_
  refine i_add dL_law_777 ?_
  refine r_sld hXs hb (i + 2) (by omega) (by omega) (by omega) dL_law_778 ?_
  refine p_callV (As := [.int (iI (zs (i + 1))), .int (iI (zs (i + 2)))]) (b := m) (rest := []) (w := (some (.int w))) (st' := [.int w]) kv_L_law_225 dL_law_779 rfl rfl (Nat.le_of_ble_eq_true rfl) (Nat.le_of_ble_eq_true rfl) (mb_rv hM2) rfl rfl (cm h2 c hM2) rfl (fun h3 e3 => ?_)
  obtain ⟨hM3, hF3⟩ := e3
  have fo3 := (hF3.2 o hDJ.2.2.1.2.1).trans fo2
  have mo3 : o ∈ h3.1 := by rw [hF3.1]; exact mo2
  refine r_istore (ls' := [(0, .ref b), (1, .ref x), (2, .ref m), (3, .ref o), (4, .ref d), (5, .int (iI ((i : Int)))), (6, .int (iI k)), (7, .int w)]) dL_law_782 (by decide) rfl ?_
  refine r_aload_n dL_law_784 2 rfl ?_
  refine p_callV (As := []) (b := m) (rest := []) (w := (some (.int (iI k)))) (st' := [.int (iI k)]) kv_L_law_166 dL_law_785 rfl rfl (Nat.le_of_ble_eq_true rfl) (Nat.le_of_ble_eq_true rfl) (mb_rv hM3) rfl rfl (b_X12_thrown hM3) rfl (fun h9 e9 => ?_)
  rw [show h9 = h3 from e9]
  refine r_iload dL_law_788 6 rfl ?_
  refine i_icmpeq dL_law_790 (tgt := 795) (by decide) (in32_k hk) (in32_k hk) (fun _ => ?_) (fun c => absurd rfl c)
  refine r_iload dL_law_795 6 rfl ?_
  refine i_ifne dL_law_797 (tgt := 812) (by decide) (in32_k hk) (fun c797 => ?_) (fun c797 => ?_)
  · refine r_goto dL_law_812 (tgt := 3134) (by decide) ?_
    refine rr_room (rr_sub (kk _ _ _ (LW.mk hDJ hD hX2 ⟨mo2, g2, fo2⟩ hF2 hM3 hF3 hI1)) (lsL_t rfl)) ?_ ?_
    · show kc ≤ kc + 3 - 2; omega
    · show ks ≤ ks + 18 - 12; omega
  · refine r_aload_n dL_law_800 3 rfl ?_
    refine i_const (0) dL_law_801 ?_
    refine i_lald0 dL_law_802 mo3 fo3 (hg2 c797) ?_
    refine r_iload dL_law_803 7 rfl ?_
    refine r_i2l dL_law_805 ?_
    refine i_lcmpe dL_law_806 ?_
    refine i_ifeq dL_law_807 (tgt := 812) (by decide) ⟨by decide, by decide⟩ (fun _ => ?_) (fun c => absurd c (by decide))
    refine r_goto dL_law_812 (tgt := 3134) (by decide) ?_
    refine rr_room (rr_sub (kk _ _ _ (LW.mk hDJ hD hX2 ⟨mo2, g2, fo2⟩ hF2 hM3 hF3 hI1)) (lsL_t rfl)) ?_ ?_
    · show kc ≤ kc + 3 - 2; omega
    · show ks ≤ ks + 18 - 12; omega
set_option maxRecDepth 20000 in
set_option maxHeartbeats 1000000 in
theorem lc_17 {G : xG} {K : xK} {sa : Nat → Nat} (hGC : GC G K sa) (hGT : GT G sa) (hGE : GE G) (hCA : GCA G) {b L : Nat} {zs : Nat → Int} (hXs : x_zz G (fun _ U H => va_X b L (fun j => iI (zs j)) U H)) (hb : b < G.2.2.2) (hL : L ≤ 3072) (hz : ∀ j, in32 (zs j)) {x m o d : Nat} {ad : XA} {a : MA} (hDJ : DJW x ad m a o d) {i : Nat} (hi : i + 6 ≤ L) {h : xH} {S : XS} {c : Int} (hW : LW G K sa x m o d ad a S c h) {kc ks : Nat} {Q : xR → xH → Prop} (kk : ∀ (h9 : xH) (S9 : XS) (c9 : Int), LW G K sa x m o d ad a S9 c9 h9 → RR G ML_law 3134 (lsL b x m o d i) [] h9 kc ks Q) : RR G ML_law 815 (lsL b x m o d i) [] h (kc + 3) (ks + 18) Q := by
  obtain ⟨hX, hM, hI, hO, hD⟩ := hW
  obtain ⟨S1, k, V, mv, hI1, hk, hr, cl, cm⟩ := s_height hGC hGT hGE hCA (m := m) (a := a) hX hI hO hDJ.2.2.1.1 (hz (i + 1))
  obtain ⟨w, rfl, rfl⟩ := hr
  show RR G ML_law 815 [(0, .ref b), (1, .ref x), (2, .ref m), (3, .ref o), (4, .ref d), (5, .int (iI ((i : Int))))] [] h (kc + 3) (ks + 18) Q
  refine r_aload_n dL_law_815 1 rfl ?_
  refine r_aload_n dL_law_816 0 rfl ?_
  refine r_iload dL_law_817 5 rfl ?_
  refine i_const (1) dL_law_819 ?_
  refine i_add dL_law_820 ?_
  refine r_sld hXs hb (i + 1) (by omega) (by omega) (by omega) dL_law_821 ?_
  refine r_aload_n dL_law_822 3 rfl ?_
  refine k_callSW (As := [.ref x, .int (iI (zs (i + 1))), .ref o]) (rest := []) (w := some (.int (iI k))) (st' := [.int (iI k)]) kw_L_height dL_law_823 rfl rfl (Nat.le_of_ble_eq_true rfl) (Nat.le_of_ble_eq_true rfl) (by show 1 ≤ kc + 3; omega) (by show 6 ≤ ks + 18; omega) cl rfl (fun h2 e2 => ?_)
  obtain ⟨hX2, ⟨mo2, g2, fo2, hg2⟩, hF2⟩ := e2
  have hM2 := hM.fr hF2 hDJ.mo hDJ.wo
  refine r_istore (ls' := [(0, .ref b), (1, .ref x), (2, .ref m), (3, .ref o), (4, .ref d), (5, .int (iI ((i : Int)))), (6, .int (iI k))]) dL_law_826 (by decide) rfl ?_
  refine r_aload_n dL_law_828 2 rfl ?_
  refine r_aload_n dL_law_829 0 rfl ?_
  refine r_iload dL_law_830 5 rfl ?_
  refine i_const (1) dL_law_832 ?_
  refine i_add dL_law_833 ?_
  refine r_sld hXs hb (i + 1) (by omega) (by omega) (by omega) dL_law_834 ?_
  refine p_callV (As := [.int (iI (zs (i + 1)))]) (b := m) (rest := []) (w := (some (.int w))) (st' := [.int w]) kv_L_law_228 dL_law_835 rfl rfl (Nat.le_of_ble_eq_true rfl) (Nat.le_of_ble_eq_true rfl) (mb_rv hM2) rfl rfl (cm h2 c hM2) rfl (fun h3 e3 => ?_)
  obtain ⟨hM3, hF3⟩ := e3
  have fo3 := (hF3.2 o hDJ.2.2.1.2.1).trans fo2
  have mo3 : o ∈ h3.1 := by rw [hF3.1]; exact mo2
  refine r_istore (ls' := [(0, .ref b), (1, .ref x), (2, .ref m), (3, .ref o), (4, .ref d), (5, .int (iI ((i : Int)))), (6, .int (iI k)), (7, .int w)]) dL_law_838 (by decide) rfl ?_
  refine r_aload_n dL_law_840 2 rfl ?_
  refine p_callV (As := []) (b := m) (rest := []) (w := (some (.int (iI k)))) (st' := [.int (iI k)]) kv_L_law_166 dL_law_841 rfl rfl (Nat.le_of_ble_eq_true rfl) (Nat.le_of_ble_eq_true rfl) (mb_rv hM3) rfl rfl (b_X12_thrown hM3) rfl (fun h9 e9 => ?_)
  rw [show h9 = h3 from e9]
  refine r_iload dL_law_844 6 rfl ?_
  refine i_icmpeq dL_law_846 (tgt := 851) (by decide) (in32_k hk) (in32_k hk) (fun _ => ?_) (fun c => absurd rfl c)
  refine r_iload dL_law_851 6 rfl ?_
  refine i_ifne dL_law_853 (tgt := 868) (by decide) (in32_k hk) (fun c853 => ?_) (fun c853 => ?_)
  · refine r_goto dL_law_868 (tgt := 3134) (by decide) ?_
    refine rr_room (rr_sub (kk _ _ _ (LW.mk hDJ hD hX2 ⟨mo2, g2, fo2⟩ hF2 hM3 hF3 hI1)) (lsL_t rfl)) ?_ ?_
    · show kc ≤ kc + 3 - 1; omega
    · show ks ≤ ks + 18 - 6; omega
  · refine r_aload_n dL_law_856 3 rfl ?_
    refine i_const (0) dL_law_857 ?_
    refine i_lald0 dL_law_858 mo3 fo3 (hg2 c853) ?_
    refine r_iload dL_law_859 7 rfl ?_
    refine r_i2l dL_law_861 ?_
    refine i_lcmpe dL_law_862 ?_
    refine i_ifeq dL_law_863 (tgt := 868) (by decide) ⟨by decide, by decide⟩ (fun _ => ?_) (fun c => absurd c (by decide))
    refine r_goto dL_law_868 (tgt := 3134) (by decide) ?_
    refine rr_room (rr_sub (kk _ _ _ (LW.mk hDJ hD hX2 ⟨mo2, g2, fo2⟩ hF2 hM3 hF3 hI1)) (lsL_t rfl)) ?_ ?_
    · show kc ≤ kc + 3 - 1; omega
    · show ks ≤ ks + 18 - 6; omega
