/-! ===== the law: its changes ===== -/
set_option maxRecDepth 20000 in
set_option maxHeartbeats 1000000 in
theorem law_5 {G : xG} {K : xK} {sa : Nat → Nat} (hGC : GC G K sa) (hGT : GT G sa) (hGE : GE G) {b L : Nat} {zs : Nat → Int} (hXs : x_zz G (fun _ U H => va_X b L (fun j => iI (zs j)) U H)) (hb : b < G.2.2.2) (hL : L ≤ 260) {x w o : Nat} {ad : XA} {v : Int32} {n : Int} {q : Nat} {B : AB} (hE : EB B) {H' : Int} (hH : B.1.2.2.2.1 ≤ H') : ∀ j : Nat, j ≤ 5 → ∀ (h : xH) (S : XS), LS9 G h K x ad S (320 + 10 * (j : Int)) → S.2.2.2.1 = some B → ROW G h x ad q B → RR G ML_law 451 [(0, .ref b), (1, .ref x), (2, .ref w), (3, .int v), (4, .ref o), (5, .int (iI n)), (6, .ref q), (7, .int (iI ((j : Int))))] [] h 3 3900 (fun o9 _ => o9 = .inl (some (.int (iI 1)))) := by
  refine down (fun j hj ih => ?_)
  intro h S hL9 hS hR
  by_cases c5 : j < 5
  · refine r_iload dL_law_451 7 rfl ?_
    refine i_const (5) dL_law_453 ?_
    refine i_icmpge dL_law_454 (tgt := 481) (by decide) (by unfold in32; omega) ⟨by decide, by decide⟩ (fun c => (by exfalso; omega)) (fun _ => ?_)
    refine r_aload_n dL_law_457 1 rfl ?_
    refine r_aload_n dL_law_458 0 rfl ?_
    refine i_bipush (36) (by decide) dL_law_459 ?_
    refine r_iload dL_law_461 7 rfl ?_
    refine i_add dL_law_463 ?_
    rw [show (36 : Int) + (j : Int) = ((36 + j : Nat) : Int) by push_cast; rfl]
    refine p_callS (As := [.ref b, .int (iI (((36 + j : Nat) : Int)))]) (rest := [.ref x]) (w := (some (.int (iI (cel zs L (36 + j)))))) (st' := [.int (iI (cel zs L (36 + j))), .ref x]) kv_L_law_171 dL_law_464 rfl rfl (Nat.le_of_ble_eq_true rfl) (Nat.le_of_ble_eq_true rfl) rfl rfl (c_L_cell hXs hb hL (k := 36 + j) (by omega)) rfl (fun hk1 e9k1 => ?_)
    rw [show hk1 = h from e9k1]
    refine p_callS (As := [.ref x, .int (iI (cel zs L (36 + j)))]) (rest := []) (w := (some (.int (iI 1)))) (st' := [.int (iI 1)]) kv_L_law_224 dL_law_467 rfl rfl (Nat.le_of_ble_eq_true rfl) (Nat.le_of_ble_eq_true rfl) rfl rfl (k_act hGC hGT hGE hL9 (by omega) (v := iI (cel zs L (36 + j)))) rfl (fun hk2 e9k2 => ?_)
    obtain ⟨Lk2, hrk2⟩ := e9k2
    have Rq_k2 := hrk2 _ _ hR
    refine i_ifne dL_law_470 (tgt := 475) (by decide) ⟨by decide, by decide⟩ (fun _ => ?_) (fun c => absurd c (by decide))
    refine i_iinc (ls' := [(0, .ref b), (1, .ref x), (2, .ref w), (3, .int v), (4, .ref o), (5, .int (iI n)), (6, .ref q), (7, .int (iI ((j : Int) + 1)))]) (1) (v := (j : Int) + 1) dL_law_475 7 rfl (by omega) (by decide) rfl ?_
    refine r_goto dL_law_478 (tgt := 451) (by decide) ?_
    refine ih (j + 1) (by omega) (by omega) hk2 _ (Lk2.le (by push_cast; omega)) (upd_snap.trans hS) Rq_k2
  · have ej : j = 5 := by omega
    subst ej
    refine r_iload dL_law_451 7 rfl ?_
    refine i_const (5) dL_law_453 ?_
    refine i_icmpge dL_law_454 (tgt := 481) (by decide) (by unfold in32; omega) ⟨by decide, by decide⟩ (fun _ => ?_) (fun c => (by exfalso; omega))
    refine r_aload_n dL_law_481 1 rfl ?_
    refine p_callV (As := []) (b := x) (rest := []) (w := (some (.int (iI ((B.2.length : Int)))))) (st' := [.int (iI ((B.2.length : Int)))]) kv_L_law_238 dL_law_482 rfl rfl (Nat.le_of_ble_eq_true rfl) (Nat.le_of_ble_eq_true rfl) (xb_rv hL9.1) rfl rfl (k_rest hGC hGT hGE hL9 hS hE hH) rfl (fun hk1 e9k1 => ?_)
    obtain ⟨Lk1, hrk1⟩ := e9k1
    have Rq_k1 := hrk1 _ _ hR
    obtain ⟨⟨⟨mq, nq⟩, lq⟩, g, fq, hg⟩ := id Rq_k1
    have h0 : g 0 = iI (B.2.length : Int) := hg 0 (by rw [AL_len]; omega)
    have hAL := AL_len B
    refine r_aload dL_law_485 6 rfl ?_
    refine i_const (0) dL_law_487 ?_
    refine i_iald 0 rfl dL_law_488 mq fq (by omega) (by omega) h0 ?_
    refine i_icmpne dL_law_489 (tgt := 515) (by decide) (by unfold in32; omega) (by unfold in32; omega) (fun c => (by exfalso; omega)) (fun _ => ?_)
    refine r_aload_n dL_law_492 1 rfl ?_
    refine q_callS9 (c1 := 1) (c2 := 1300) (kc' := (3 - 1)) (ks' := (3900 - 1300)) (As := [.ref x]) (rest := []) kv_L_law_220 dL_law_493 rfl rfl (Nat.le_of_ble_eq_true rfl) (Nat.le_of_ble_eq_true rfl) rfl rfl (by omega) (by omega) (k_all hGC hGT hGE Lk1) (fun qk2 hk2 e9k2 => ?_)
    obtain ⟨Lk2, Rk2, hrk2⟩ := e9k2
    have Rq_k2 := hrk2 _ _ Rq_k1
    refine r_aload dL_law_496 6 rfl ?_
    refine p_callS (As := [.ref qk2, .ref q]) (rest := []) (w := (some (.int (iI 1)))) (st' := [.int (iI 1)]) kv_L_law_231 dL_law_498 rfl rfl (Nat.le_of_ble_eq_true rfl) (Nat.le_of_ble_eq_true rfl) rfl rfl (k_alike Rk2 Rq_k2) rfl (fun hk3 e9k3 => ?_)
    rw [show hk3 = hk2 from e9k3]
    refine i_ifeq dL_law_501 (tgt := 515) (by decide) ⟨by decide, by decide⟩ (fun c => absurd c (by decide)) (fun _ => ?_)
    refine r_aload_n dL_law_504 1 rfl ?_
    refine p_callV (As := []) (b := x) (rest := []) (w := (some (.int (iI 0)))) (st' := [.int (iI 0)]) kv_L_law_213 dL_law_505 rfl rfl (Nat.le_of_ble_eq_true rfl) (Nat.le_of_ble_eq_true rfl) (xb_rv Lk2.1) rfl rfl (c_X11_undoableCount hGC hGT hGE Lk2.1 Lk2.2.1.1) rfl (fun hk4 e9k4 => ?_)
    rw [show hk4 = hk2 from e9k4]
    refine i_ifne dL_law_508 (tgt := 515) (by decide) ⟨by decide, by decide⟩ (fun c => absurd c (by decide)) (fun _ => ?_)
    refine i_const (1) dL_law_511 ?_
    refine r_goto dL_law_512 (tgt := 516) (by decide) ?_
    refine r_ireturn rfl (b2_nar true) dL_law_516 ?_
    rfl
set_option maxRecDepth 20000 in
set_option maxHeartbeats 1000000 in
theorem law_t {G : xG} {K : xK} {sa : Nat → Nat} (hGC : GC G K sa) (hGT : GT G sa) (hGE : GE G) {b L : Nat} {zs : Nat → Int} (hXs : x_zz G (fun _ U H => va_X b L (fun j => iI (zs j)) U H)) (hb : b < G.2.2.2) (hL : L ≤ 260) {x w o : Nat} {ad : XA} {v : Int32} {n : Int} {h : xH} {S : XS} (hL9 : LS9 G h K x ad S 320) : RR G ML_law 438 [(0, .ref b), (1, .ref x), (2, .ref w), (3, .int v), (4, .ref o), (5, .int (iI n)), (6, .int (iI 32))] [] h 4 5200 (fun o9 _ => o9 = .inl (some (.int (iI 1)))) := by
  refine r_aload_n dL_law_438 1 rfl ?_
  refine p_callV (As := []) (b := x) (rest := []) (w := none) (st' := []) kv_L_law_235 dL_law_439 rfl rfl (Nat.le_of_ble_eq_true rfl) (Nat.le_of_ble_eq_true rfl) (xb_rv hL9.1) rfl rfl (k_save hGC hGT hGE hL9) rfl (fun hk1 e9k1 => ?_)
  obtain ⟨Lk1, hrk1⟩ := e9k1
  refine r_aload_n dL_law_442 1 rfl ?_
  refine q_callS9 (c1 := 1) (c2 := 1300) (kc' := (4 - 1)) (ks' := (5200 - 1300)) (As := [.ref x]) (rest := []) kv_L_law_220 dL_law_443 rfl rfl (Nat.le_of_ble_eq_true rfl) (Nat.le_of_ble_eq_true rfl) rfl rfl (by omega) (by omega) (k_all hGC hGT hGE Lk1) (fun qk2 hk2 e9k2 => ?_)
  obtain ⟨Lk2, Rk2, hrk2⟩ := e9k2
  refine r_astore (ls' := [(0, .ref b), (1, .ref x), (2, .ref w), (3, .int v), (4, .ref o), (5, .int (iI n)), (6, .ref qk2)]) dL_law_446 (by decide) rfl ?_
  refine i_const (0) dL_law_448 ?_
  refine r_istore (ls' := [(0, .ref b), (1, .ref x), (2, .ref w), (3, .int v), (4, .ref o), (5, .int (iI n)), (6, .ref qk2), (7, .int (iI 0))]) dL_law_449 (by decide) rfl ?_
  exact law_5 hGC hGT hGE hXs hb hL hL9.2.2.1 (Int.le_refl _) 0 (Nat.zero_le _) hk2 _ Lk2 rfl Rk2
set_option maxRecDepth 20000 in
set_option maxHeartbeats 1000000 in
theorem law_32 {G : xG} {K : xK} {sa : Nat → Nat} (hGC : GC G K sa) (hGT : GT G sa) (hGE : GE G) {b L : Nat} {zs : Nat → Int} (hXs : x_zz G (fun _ U H => va_X b L (fun j => iI (zs j)) U H)) (hb : b < G.2.2.2) (hL : L ≤ 260) {x w o : Nat} {ad : XA} {v : Int32} {n : Int} : ∀ k : Nat, k ≤ 32 → ∀ (h : xH) (S : XS), LS9 G h K x ad S (10 * (k : Int)) → RR G ML_law 268 [(0, .ref b), (1, .ref x), (2, .ref w), (3, .int v), (4, .ref o), (5, .int (iI n)), (6, .int (iI ((k : Int))))] [] h (4 * (33 - k)) (5200 * (33 - k)) (fun o9 _ => o9 = .inl (some (.int (iI 1)))) := by
  refine down (fun k hk ih => ?_)
  intro h S hL9
  by_cases c32 : k < 32
  · obtain ⟨u, hu⟩ : ∃ u : Int32, u = (iI (cel zs L (8 + k % 28))) >>> ((iI ((k : Int) / 28 * 2)) &&& 31) := ⟨_, rfl⟩
    have h88 := hL9.1.hist
    cases hr : actR S.2.2.1 u with
    | none =>
      refine r_iload dL_law_268 6 rfl ?_
      refine i_bipush (32) (by decide) dL_law_270 ?_
      refine i_icmpge dL_law_272 (tgt := 438) (by decide) (by unfold in32; omega) ⟨by decide, by decide⟩ (fun c => (by exfalso; omega)) (fun _ => ?_)
      refine r_aload_n dL_law_275 0 rfl ?_
      refine i_bipush (8) (by decide) dL_law_276 ?_
      refine r_iload dL_law_278 6 rfl ?_
      refine i_bipush (28) (by decide) dL_law_280 ?_
      refine i_rem dL_law_282 (by unfold in32; omega) ⟨by decide, by decide⟩ (by omega) (by omega) ?_
      refine i_add dL_law_283 ?_
      rw [show (8 : Int) + (k : Int) % 28 = ((8 + k % 28 : Nat) : Int) by push_cast; rfl]
      refine p_callS (As := [.ref b, .int (iI (((8 + k % 28 : Nat) : Int)))]) (rest := []) (w := (some (.int (iI (cel zs L (8 + k % 28)))))) (st' := [.int (iI (cel zs L (8 + k % 28)))]) kv_L_law_171 dL_law_284 rfl rfl (Nat.le_of_ble_eq_true rfl) (Nat.le_of_ble_eq_true rfl) rfl rfl (c_L_cell hXs hb hL (k := 8 + k % 28) (by omega)) rfl (fun hk1 e9k1 => ?_)
      rw [show hk1 = h from e9k1]
      refine r_iload dL_law_287 6 rfl ?_
      refine i_bipush (28) (by decide) dL_law_289 ?_
      refine i_div dL_law_291 (by unfold in32; omega) ⟨by decide, by decide⟩ (by omega) (by omega) ?_
      refine i_const (2) dL_law_292 ?_
      refine i_mul dL_law_293 ?_
      refine r_ishr dL_law_294 ?_
      rw [show (iI (cel zs L (8 + k % 28))) >>> ((iI (((k : Int) / 28) * 2)) &&& 31) = u from hu.symm]
      refine r_istore (ls' := [(0, .ref b), (1, .ref x), (2, .ref w), (3, .int v), (4, .ref o), (5, .int (iI n)), (6, .int (iI ((k : Int)))), (7, .int u)]) dL_law_295 (by decide) rfl ?_
      refine r_iload dL_law_297 6 rfl ?_
      refine i_const (3) dL_law_299 ?_
      refine i_rem dL_law_300 (by unfold in32; omega) ⟨by decide, by decide⟩ (by omega) (by omega) ?_
      refine i_ifne dL_law_301 (tgt := 313) (by decide) (by unfold in32; omega) (fun c301 => ?_) (fun c301 => ?_)
      · refine r_aload_n dL_law_313 1 rfl ?_
        refine q_callS9 (c1 := 1) (c2 := 1300) (kc' := (4 * (33 - k) - 1)) (ks' := (5200 * (33 - k) - 1300)) (As := [.ref x]) (rest := []) kv_L_law_220 dL_law_314 rfl rfl (Nat.le_of_ble_eq_true rfl) (Nat.le_of_ble_eq_true rfl) rfl rfl (by omega) (by omega) (k_all hGC hGT hGE hL9) (fun qk2 hk2 e9k2 => ?_)
        obtain ⟨Lk2, Rk2, hrk2⟩ := e9k2
        refine r_astore (ls' := [(0, .ref b), (1, .ref x), (2, .ref w), (3, .int v), (4, .ref o), (5, .int (iI n)), (6, .int (iI ((k : Int)))), (7, .int u), (8, .ref qk2)]) dL_law_317 (by decide) rfl ?_
        refine r_aload_n dL_law_319 1 rfl ?_
        refine p_callV (As := []) (b := x) (rest := []) (w := (some (.int (iI ((S.2.2.2.2.1.length : Int)))))) (st' := [.int (iI ((S.2.2.2.2.1.length : Int)))]) kv_L_law_213 dL_law_320 rfl rfl (Nat.le_of_ble_eq_true rfl) (Nat.le_of_ble_eq_true rfl) (xb_rv Lk2.1) rfl rfl (c_X11_undoableCount hGC hGT hGE Lk2.1 Lk2.2.1.1) rfl (fun hk3 e9k3 => ?_)
        rw [show hk3 = hk2 from e9k3]
        refine r_istore (ls' := [(0, .ref b), (1, .ref x), (2, .ref w), (3, .int v), (4, .ref o), (5, .int (iI n)), (6, .int (iI ((k : Int)))), (7, .int u), (8, .ref qk2), (9, .int (iI ((S.2.2.2.2.1.length : Int))))]) dL_law_323 (by decide) rfl ?_
        refine r_aload_n dL_law_325 1 rfl ?_
        refine r_iload dL_law_326 7 rfl ?_
        refine p_callS (As := [.ref x, .int u]) (rest := []) (w := (some (.int (iI 1)))) (st' := [.int (iI 1)]) kv_L_law_224 dL_law_328 rfl rfl (Nat.le_of_ble_eq_true rfl) (Nat.le_of_ble_eq_true rfl) rfl rfl (k_act hGC hGT hGE Lk2 (by omega) (v := u)) rfl (fun hk4 e9k4 => ?_)
        obtain ⟨Lk4, hrk4⟩ := e9k4
        have Rqk2_k4 := hrk4 _ _ Rk2
        rw [hr, upd_none] at Lk4
        refine i_ifne dL_law_331 (tgt := 336) (by decide) ⟨by decide, by decide⟩ (fun _ => ?_) (fun c => absurd c (by decide))
        refine r_aload_n dL_law_336 1 rfl ?_
        refine q_callS9 (c1 := 1) (c2 := 1300) (kc' := (4 * (33 - k) - 2)) (ks' := (5200 * (33 - k) - 2600)) (As := [.ref x]) (rest := []) kv_L_law_220 dL_law_337 rfl rfl (Nat.le_of_ble_eq_true rfl) (Nat.le_of_ble_eq_true rfl) rfl rfl (by omega) (by omega) (k_all hGC hGT hGE Lk4) (fun qk5 hk5 e9k5 => ?_)
        obtain ⟨Lk5, Rk5, hrk5⟩ := e9k5
        have Rqk2_k5 := hrk5 _ _ Rqk2_k4
        refine r_astore (ls' := [(0, .ref b), (1, .ref x), (2, .ref w), (3, .int v), (4, .ref o), (5, .int (iI n)), (6, .int (iI ((k : Int)))), (7, .int u), (8, .ref qk2), (9, .int (iI ((S.2.2.2.2.1.length : Int)))), (10, .ref qk5)]) dL_law_340 (by decide) rfl ?_
        refine r_aload_n dL_law_342 1 rfl ?_
        refine p_callV (As := []) (b := x) (rest := []) (w := (some (.int (iI ((S.2.2.2.2.1.length : Int)))))) (st' := [.int (iI ((S.2.2.2.2.1.length : Int)))]) kv_L_law_213 dL_law_343 rfl rfl (Nat.le_of_ble_eq_true rfl) (Nat.le_of_ble_eq_true rfl) (xb_rv Lk5.1) rfl rfl (c_X11_undoableCount hGC hGT hGE Lk5.1 Lk5.2.1.1) rfl (fun hk6 e9k6 => ?_)
        rw [show hk6 = hk5 from e9k6]
        refine r_iload dL_law_346 9 rfl ?_
        refine i_const (1) dL_law_348 ?_
        refine i_add dL_law_349 ?_
        refine i_icmpne dL_law_350 (tgt := 404) (by decide) (by unfold in32; omega) (by unfold in32; omega) (fun _ => ?_) (fun c => (by exfalso; omega))
        refine r_aload_n dL_law_404 1 rfl ?_
        refine p_callV (As := []) (b := x) (rest := []) (w := (some (.int (iI ((S.2.2.2.2.1.length : Int)))))) (st' := [.int (iI ((S.2.2.2.2.1.length : Int)))]) kv_L_law_213 dL_law_405 rfl rfl (Nat.le_of_ble_eq_true rfl) (Nat.le_of_ble_eq_true rfl) (xb_rv Lk5.1) rfl rfl (c_X11_undoableCount hGC hGT hGE Lk5.1 Lk5.2.1.1) rfl (fun hk7 e9k7 => ?_)
        rw [show hk7 = hk5 from e9k7]
        refine r_iload dL_law_408 9 rfl ?_
        refine i_icmpne dL_law_410 (tgt := 432) (by decide) (by unfold in32; omega) (by unfold in32; omega) (fun c => (by exfalso; omega)) (fun _ => ?_)
        refine r_iload dL_law_413 9 rfl ?_
        refine i_bipush (8) (by decide) dL_law_415 ?_
        refine i_icmpge dL_law_417 (tgt := 432) (by decide) (by unfold in32; omega) ⟨by decide, by decide⟩ (fun c417 => ?_) (fun c417 => ?_)
        · refine i_iinc (ls' := [(0, .ref b), (1, .ref x), (2, .ref w), (3, .int v), (4, .ref o), (5, .int (iI n)), (6, .int (iI ((k : Int) + 1))), (7, .int u), (8, .ref qk2), (9, .int (iI ((S.2.2.2.2.1.length : Int)))), (10, .ref qk5)]) (1) (v := (k : Int) + 1) dL_law_432 6 rfl (by omega) (by decide) rfl ?_
          refine r_goto dL_law_435 (tgt := 268) (by decide) ?_
          refine rr_take 7 rfl ?_
          refine rr_room (ih (k + 1) (by omega) (by omega) hk5 _ (Lk5.le (by push_cast; omega))) (by omega) (by omega)
        · refine r_aload dL_law_420 8 rfl ?_
          refine r_aload dL_law_422 10 rfl ?_
          refine p_callS (As := [.ref qk2, .ref qk5]) (rest := []) (w := (some (.int (iI 1)))) (st' := [.int (iI 1)]) kv_L_law_231 dL_law_424 rfl rfl (Nat.le_of_ble_eq_true rfl) (Nat.le_of_ble_eq_true rfl) rfl rfl (k_alike Rqk2_k5 Rk5) rfl (fun hk8 e9k8 => ?_)
          rw [show hk8 = hk5 from e9k8]
          refine i_ifne dL_law_427 (tgt := 432) (by decide) ⟨by decide, by decide⟩ (fun _ => ?_) (fun c => absurd c (by decide))
          refine i_iinc (ls' := [(0, .ref b), (1, .ref x), (2, .ref w), (3, .int v), (4, .ref o), (5, .int (iI n)), (6, .int (iI ((k : Int) + 1))), (7, .int u), (8, .ref qk2), (9, .int (iI ((S.2.2.2.2.1.length : Int)))), (10, .ref qk5)]) (1) (v := (k : Int) + 1) dL_law_432 6 rfl (by omega) (by decide) rfl ?_
          refine r_goto dL_law_435 (tgt := 268) (by decide) ?_
          refine rr_take 7 rfl ?_
          refine rr_room (ih (k + 1) (by omega) (by omega) hk5 _ (Lk5.le (by push_cast; omega))) (by omega) (by omega)
      · refine r_aload_n dL_law_304 1 rfl ?_
        refine p_callS (As := [.ref x]) (rest := []) (w := (some (.int (iI 1)))) (st' := [.int (iI 1)]) kv_L_law_216 dL_law_305 rfl rfl (Nat.le_of_ble_eq_true rfl) (Nat.le_of_ble_eq_true rfl) rfl rfl (c_L_isBench hGC hGT hGE hL9.1 hL9.2.1 hL9.2.2.1) rfl (fun hk9 e9k9 => ?_)
        rw [show hk9 = h from e9k9]
        refine i_ifne dL_law_308 (tgt := 313) (by decide) ⟨by decide, by decide⟩ (fun _ => ?_) (fun c => absurd c (by decide))
        refine r_aload_n dL_law_313 1 rfl ?_
        refine q_callS9 (c1 := 1) (c2 := 1300) (kc' := (4 * (33 - k) - 1)) (ks' := (5200 * (33 - k) - 1300)) (As := [.ref x]) (rest := []) kv_L_law_220 dL_law_314 rfl rfl (Nat.le_of_ble_eq_true rfl) (Nat.le_of_ble_eq_true rfl) rfl rfl (by omega) (by omega) (k_all hGC hGT hGE hL9) (fun qk10 hk10 e9k10 => ?_)
        obtain ⟨Lk10, Rk10, hrk10⟩ := e9k10
        refine r_astore (ls' := [(0, .ref b), (1, .ref x), (2, .ref w), (3, .int v), (4, .ref o), (5, .int (iI n)), (6, .int (iI ((k : Int)))), (7, .int u), (8, .ref qk10)]) dL_law_317 (by decide) rfl ?_
        refine r_aload_n dL_law_319 1 rfl ?_
        refine p_callV (As := []) (b := x) (rest := []) (w := (some (.int (iI ((S.2.2.2.2.1.length : Int)))))) (st' := [.int (iI ((S.2.2.2.2.1.length : Int)))]) kv_L_law_213 dL_law_320 rfl rfl (Nat.le_of_ble_eq_true rfl) (Nat.le_of_ble_eq_true rfl) (xb_rv Lk10.1) rfl rfl (c_X11_undoableCount hGC hGT hGE Lk10.1 Lk10.2.1.1) rfl (fun hk11 e9k11 => ?_)
        rw [show hk11 = hk10 from e9k11]
        refine r_istore (ls' := [(0, .ref b), (1, .ref x), (2, .ref w), (3, .int v), (4, .ref o), (5, .int (iI n)), (6, .int (iI ((k : Int)))), (7, .int u), (8, .ref qk10), (9, .int (iI ((S.2.2.2.2.1.length : Int))))]) dL_law_323 (by decide) rfl ?_
        refine r_aload_n dL_law_325 1 rfl ?_
        refine r_iload dL_law_326 7 rfl ?_
        refine p_callS (As := [.ref x, .int u]) (rest := []) (w := (some (.int (iI 1)))) (st' := [.int (iI 1)]) kv_L_law_224 dL_law_328 rfl rfl (Nat.le_of_ble_eq_true rfl) (Nat.le_of_ble_eq_true rfl) rfl rfl (k_act hGC hGT hGE Lk10 (by omega) (v := u)) rfl (fun hk12 e9k12 => ?_)
        obtain ⟨Lk12, hrk12⟩ := e9k12
        have Rqk10_k12 := hrk12 _ _ Rk10
        rw [hr, upd_none] at Lk12
        refine i_ifne dL_law_331 (tgt := 336) (by decide) ⟨by decide, by decide⟩ (fun _ => ?_) (fun c => absurd c (by decide))
        refine r_aload_n dL_law_336 1 rfl ?_
        refine q_callS9 (c1 := 1) (c2 := 1300) (kc' := (4 * (33 - k) - 2)) (ks' := (5200 * (33 - k) - 2600)) (As := [.ref x]) (rest := []) kv_L_law_220 dL_law_337 rfl rfl (Nat.le_of_ble_eq_true rfl) (Nat.le_of_ble_eq_true rfl) rfl rfl (by omega) (by omega) (k_all hGC hGT hGE Lk12) (fun qk13 hk13 e9k13 => ?_)
        obtain ⟨Lk13, Rk13, hrk13⟩ := e9k13
        have Rqk10_k13 := hrk13 _ _ Rqk10_k12
        refine r_astore (ls' := [(0, .ref b), (1, .ref x), (2, .ref w), (3, .int v), (4, .ref o), (5, .int (iI n)), (6, .int (iI ((k : Int)))), (7, .int u), (8, .ref qk10), (9, .int (iI ((S.2.2.2.2.1.length : Int)))), (10, .ref qk13)]) dL_law_340 (by decide) rfl ?_
        refine r_aload_n dL_law_342 1 rfl ?_
        refine p_callV (As := []) (b := x) (rest := []) (w := (some (.int (iI ((S.2.2.2.2.1.length : Int)))))) (st' := [.int (iI ((S.2.2.2.2.1.length : Int)))]) kv_L_law_213 dL_law_343 rfl rfl (Nat.le_of_ble_eq_true rfl) (Nat.le_of_ble_eq_true rfl) (xb_rv Lk13.1) rfl rfl (c_X11_undoableCount hGC hGT hGE Lk13.1 Lk13.2.1.1) rfl (fun hk14 e9k14 => ?_)
        rw [show hk14 = hk13 from e9k14]
        refine r_iload dL_law_346 9 rfl ?_
        refine i_const (1) dL_law_348 ?_
        refine i_add dL_law_349 ?_
        refine i_icmpne dL_law_350 (tgt := 404) (by decide) (by unfold in32; omega) (by unfold in32; omega) (fun _ => ?_) (fun c => (by exfalso; omega))
        refine r_aload_n dL_law_404 1 rfl ?_
        refine p_callV (As := []) (b := x) (rest := []) (w := (some (.int (iI ((S.2.2.2.2.1.length : Int)))))) (st' := [.int (iI ((S.2.2.2.2.1.length : Int)))]) kv_L_law_213 dL_law_405 rfl rfl (Nat.le_of_ble_eq_true rfl) (Nat.le_of_ble_eq_true rfl) (xb_rv Lk13.1) rfl rfl (c_X11_undoableCount hGC hGT hGE Lk13.1 Lk13.2.1.1) rfl (fun hk15 e9k15 => ?_)
        rw [show hk15 = hk13 from e9k15]
        refine r_iload dL_law_408 9 rfl ?_
        refine i_icmpne dL_law_410 (tgt := 432) (by decide) (by unfold in32; omega) (by unfold in32; omega) (fun c => (by exfalso; omega)) (fun _ => ?_)
        refine r_iload dL_law_413 9 rfl ?_
        refine i_bipush (8) (by decide) dL_law_415 ?_
        refine i_icmpge dL_law_417 (tgt := 432) (by decide) (by unfold in32; omega) ⟨by decide, by decide⟩ (fun c417 => ?_) (fun c417 => ?_)
        · refine i_iinc (ls' := [(0, .ref b), (1, .ref x), (2, .ref w), (3, .int v), (4, .ref o), (5, .int (iI n)), (6, .int (iI ((k : Int) + 1))), (7, .int u), (8, .ref qk10), (9, .int (iI ((S.2.2.2.2.1.length : Int)))), (10, .ref qk13)]) (1) (v := (k : Int) + 1) dL_law_432 6 rfl (by omega) (by decide) rfl ?_
          refine r_goto dL_law_435 (tgt := 268) (by decide) ?_
          refine rr_take 7 rfl ?_
          refine rr_room (ih (k + 1) (by omega) (by omega) hk13 _ (Lk13.le (by push_cast; omega))) (by omega) (by omega)
        · refine r_aload dL_law_420 8 rfl ?_
          refine r_aload dL_law_422 10 rfl ?_
          refine p_callS (As := [.ref qk10, .ref qk13]) (rest := []) (w := (some (.int (iI 1)))) (st' := [.int (iI 1)]) kv_L_law_231 dL_law_424 rfl rfl (Nat.le_of_ble_eq_true rfl) (Nat.le_of_ble_eq_true rfl) rfl rfl (k_alike Rqk10_k13 Rk13) rfl (fun hk16 e9k16 => ?_)
          rw [show hk16 = hk13 from e9k16]
          refine i_ifne dL_law_427 (tgt := 432) (by decide) ⟨by decide, by decide⟩ (fun _ => ?_) (fun c => absurd c (by decide))
          refine i_iinc (ls' := [(0, .ref b), (1, .ref x), (2, .ref w), (3, .int v), (4, .ref o), (5, .int (iI n)), (6, .int (iI ((k : Int) + 1))), (7, .int u), (8, .ref qk10), (9, .int (iI ((S.2.2.2.2.1.length : Int)))), (10, .ref qk13)]) (1) (v := (k : Int) + 1) dL_law_432 6 rfl (by omega) (by decide) rfl ?_
          refine r_goto dL_law_435 (tgt := 268) (by decide) ?_
          refine rr_take 7 rfl ?_
          refine rr_room (ih (k + 1) (by omega) (by omega) hk13 _ (Lk13.le (by push_cast; omega))) (by omega) (by omega)
    | some B' =>
      have hul := upd_len (S := S) (B' := B') h88
      by_cases h8 : S.2.2.2.2.1.length < 8
      · have hcn : ((updS S (some B')).2.2.2.2.1.length : Int) = (S.2.2.2.2.1.length : Int) + 1 := by rw [hul, if_pos h8]
        refine r_iload dL_law_268 6 rfl ?_
        refine i_bipush (32) (by decide) dL_law_270 ?_
        refine i_icmpge dL_law_272 (tgt := 438) (by decide) (by unfold in32; omega) ⟨by decide, by decide⟩ (fun c => (by exfalso; omega)) (fun _ => ?_)
        refine r_aload_n dL_law_275 0 rfl ?_
        refine i_bipush (8) (by decide) dL_law_276 ?_
        refine r_iload dL_law_278 6 rfl ?_
        refine i_bipush (28) (by decide) dL_law_280 ?_
        refine i_rem dL_law_282 (by unfold in32; omega) ⟨by decide, by decide⟩ (by omega) (by omega) ?_
        refine i_add dL_law_283 ?_
        rw [show (8 : Int) + (k : Int) % 28 = ((8 + k % 28 : Nat) : Int) by push_cast; rfl]
        refine p_callS (As := [.ref b, .int (iI (((8 + k % 28 : Nat) : Int)))]) (rest := []) (w := (some (.int (iI (cel zs L (8 + k % 28)))))) (st' := [.int (iI (cel zs L (8 + k % 28)))]) kv_L_law_171 dL_law_284 rfl rfl (Nat.le_of_ble_eq_true rfl) (Nat.le_of_ble_eq_true rfl) rfl rfl (c_L_cell hXs hb hL (k := 8 + k % 28) (by omega)) rfl (fun hk1 e9k1 => ?_)
        rw [show hk1 = h from e9k1]
        refine r_iload dL_law_287 6 rfl ?_
        refine i_bipush (28) (by decide) dL_law_289 ?_
        refine i_div dL_law_291 (by unfold in32; omega) ⟨by decide, by decide⟩ (by omega) (by omega) ?_
        refine i_const (2) dL_law_292 ?_
        refine i_mul dL_law_293 ?_
        refine r_ishr dL_law_294 ?_
        rw [show (iI (cel zs L (8 + k % 28))) >>> ((iI (((k : Int) / 28) * 2)) &&& 31) = u from hu.symm]
        refine r_istore (ls' := [(0, .ref b), (1, .ref x), (2, .ref w), (3, .int v), (4, .ref o), (5, .int (iI n)), (6, .int (iI ((k : Int)))), (7, .int u)]) dL_law_295 (by decide) rfl ?_
        refine r_iload dL_law_297 6 rfl ?_
        refine i_const (3) dL_law_299 ?_
        refine i_rem dL_law_300 (by unfold in32; omega) ⟨by decide, by decide⟩ (by omega) (by omega) ?_
        refine i_ifne dL_law_301 (tgt := 313) (by decide) (by unfold in32; omega) (fun c301 => ?_) (fun c301 => ?_)
        · refine r_aload_n dL_law_313 1 rfl ?_
          refine q_callS9 (c1 := 1) (c2 := 1300) (kc' := (4 * (33 - k) - 1)) (ks' := (5200 * (33 - k) - 1300)) (As := [.ref x]) (rest := []) kv_L_law_220 dL_law_314 rfl rfl (Nat.le_of_ble_eq_true rfl) (Nat.le_of_ble_eq_true rfl) rfl rfl (by omega) (by omega) (k_all hGC hGT hGE hL9) (fun qk2 hk2 e9k2 => ?_)
          obtain ⟨Lk2, Rk2, hrk2⟩ := e9k2
          refine r_astore (ls' := [(0, .ref b), (1, .ref x), (2, .ref w), (3, .int v), (4, .ref o), (5, .int (iI n)), (6, .int (iI ((k : Int)))), (7, .int u), (8, .ref qk2)]) dL_law_317 (by decide) rfl ?_
          refine r_aload_n dL_law_319 1 rfl ?_
          refine p_callV (As := []) (b := x) (rest := []) (w := (some (.int (iI ((S.2.2.2.2.1.length : Int)))))) (st' := [.int (iI ((S.2.2.2.2.1.length : Int)))]) kv_L_law_213 dL_law_320 rfl rfl (Nat.le_of_ble_eq_true rfl) (Nat.le_of_ble_eq_true rfl) (xb_rv Lk2.1) rfl rfl (c_X11_undoableCount hGC hGT hGE Lk2.1 Lk2.2.1.1) rfl (fun hk3 e9k3 => ?_)
          rw [show hk3 = hk2 from e9k3]
          refine r_istore (ls' := [(0, .ref b), (1, .ref x), (2, .ref w), (3, .int v), (4, .ref o), (5, .int (iI n)), (6, .int (iI ((k : Int)))), (7, .int u), (8, .ref qk2), (9, .int (iI ((S.2.2.2.2.1.length : Int))))]) dL_law_323 (by decide) rfl ?_
          refine r_aload_n dL_law_325 1 rfl ?_
          refine r_iload dL_law_326 7 rfl ?_
          refine p_callS (As := [.ref x, .int u]) (rest := []) (w := (some (.int (iI 1)))) (st' := [.int (iI 1)]) kv_L_law_224 dL_law_328 rfl rfl (Nat.le_of_ble_eq_true rfl) (Nat.le_of_ble_eq_true rfl) rfl rfl (k_act hGC hGT hGE Lk2 (by omega) (v := u)) rfl (fun hk4 e9k4 => ?_)
          obtain ⟨Lk4, hrk4⟩ := e9k4
          have Rqk2_k4 := hrk4 _ _ Rk2
          rw [hr] at Lk4
          refine i_ifne dL_law_331 (tgt := 336) (by decide) ⟨by decide, by decide⟩ (fun _ => ?_) (fun c => absurd c (by decide))
          refine r_aload_n dL_law_336 1 rfl ?_
          refine q_callS9 (c1 := 1) (c2 := 1300) (kc' := (4 * (33 - k) - 2)) (ks' := (5200 * (33 - k) - 2600)) (As := [.ref x]) (rest := []) kv_L_law_220 dL_law_337 rfl rfl (Nat.le_of_ble_eq_true rfl) (Nat.le_of_ble_eq_true rfl) rfl rfl (by omega) (by omega) (k_all hGC hGT hGE Lk4) (fun qk5 hk5 e9k5 => ?_)
          obtain ⟨Lk5, Rk5, hrk5⟩ := e9k5
          have Rqk2_k5 := hrk5 _ _ Rqk2_k4
          refine r_astore (ls' := [(0, .ref b), (1, .ref x), (2, .ref w), (3, .int v), (4, .ref o), (5, .int (iI n)), (6, .int (iI ((k : Int)))), (7, .int u), (8, .ref qk2), (9, .int (iI ((S.2.2.2.2.1.length : Int)))), (10, .ref qk5)]) dL_law_340 (by decide) rfl ?_
          refine r_aload_n dL_law_342 1 rfl ?_
          refine p_callV (As := []) (b := x) (rest := []) (w := (some (.int (iI ((S.2.2.2.2.1.length : Int) + 1))))) (st' := [.int (iI ((S.2.2.2.2.1.length : Int) + 1))]) kv_L_law_213 dL_law_343 rfl rfl (Nat.le_of_ble_eq_true rfl) (Nat.le_of_ble_eq_true rfl) (xb_rv Lk5.1) rfl rfl ((by have z := c_X11_undoableCount hGC hGT hGE Lk5.1 Lk5.2.1.1; rw [hcn] at z; exact z)) rfl (fun hk6 e9k6 => ?_)
          rw [show hk6 = hk5 from e9k6]
          refine r_iload dL_law_346 9 rfl ?_
          refine i_const (1) dL_law_348 ?_
          refine i_add dL_law_349 ?_
          refine i_icmpne dL_law_350 (tgt := 404) (by decide) (by unfold in32; omega) (by unfold in32; omega) (fun c => (by exfalso; omega)) (fun _ => ?_)
          refine r_iload dL_law_353 6 rfl ?_
          refine i_const (3) dL_law_355 ?_
          refine i_rem dL_law_356 (by unfold in32; omega) ⟨by decide, by decide⟩ (by omega) (by omega) ?_
          refine i_ifne dL_law_357 (tgt := 404) (by decide) (by unfold in32; omega) (fun c357 => ?_) (fun c357 => ?_)
          · refine r_aload_n dL_law_404 1 rfl ?_
            refine p_callV (As := []) (b := x) (rest := []) (w := (some (.int (iI ((S.2.2.2.2.1.length : Int) + 1))))) (st' := [.int (iI ((S.2.2.2.2.1.length : Int) + 1))]) kv_L_law_213 dL_law_405 rfl rfl (Nat.le_of_ble_eq_true rfl) (Nat.le_of_ble_eq_true rfl) (xb_rv Lk5.1) rfl rfl ((by have z := c_X11_undoableCount hGC hGT hGE Lk5.1 Lk5.2.1.1; rw [hcn] at z; exact z)) rfl (fun hk7 e9k7 => ?_)
            rw [show hk7 = hk5 from e9k7]
            refine r_iload dL_law_408 9 rfl ?_
            refine i_icmpne dL_law_410 (tgt := 432) (by decide) (by unfold in32; omega) (by unfold in32; omega) (fun _ => ?_) (fun c => (by exfalso; omega))
            refine i_iinc (ls' := [(0, .ref b), (1, .ref x), (2, .ref w), (3, .int v), (4, .ref o), (5, .int (iI n)), (6, .int (iI ((k : Int) + 1))), (7, .int u), (8, .ref qk2), (9, .int (iI ((S.2.2.2.2.1.length : Int)))), (10, .ref qk5)]) (1) (v := (k : Int) + 1) dL_law_432 6 rfl (by omega) (by decide) rfl ?_
            refine r_goto dL_law_435 (tgt := 268) (by decide) ?_
            refine rr_take 7 rfl ?_
            refine rr_room (ih (k + 1) (by omega) (by omega) hk5 _ (Lk5.le (by push_cast; omega))) (by omega) (by omega)
          · refine r_aload_n dL_law_360 1 rfl ?_
            refine p_callV (As := []) (b := x) (rest := []) (w := (some (.int (iI ((S.2.2.2.2.1.length : Int)))))) (st' := [.int (iI ((S.2.2.2.2.1.length : Int)))]) kv_L_law_228 dL_law_361 rfl rfl (Nat.le_of_ble_eq_true rfl) (Nat.le_of_ble_eq_true rfl) (xb_rv Lk5.1) rfl rfl (k_undo hGC hGT hGE Lk5 hL9.2.1 hL9.2.2.1 hL9.2.2.2.1 h8) rfl (fun hk8 e9k8 => ?_)
            obtain ⟨Lk8, hrk8⟩ := e9k8
            have Rqk2_k8 := hrk8 _ _ Rqk2_k5
            have Rqk5_k8 := hrk8 _ _ Rk5
            refine r_iload dL_law_364 9 rfl ?_
            refine i_icmpne dL_law_366 (tgt := 402) (by decide) (by unfold in32; omega) (by unfold in32; omega) (fun c => (by exfalso; omega)) (fun _ => ?_)
            refine r_aload_n dL_law_369 1 rfl ?_
            refine q_callS9 (c1 := 1) (c2 := 1300) (kc' := (4 * (33 - k) - 3)) (ks' := (5200 * (33 - k) - 3900)) (As := [.ref x]) (rest := []) kv_L_law_220 dL_law_370 rfl rfl (Nat.le_of_ble_eq_true rfl) (Nat.le_of_ble_eq_true rfl) rfl rfl (by omega) (by omega) (k_all hGC hGT hGE Lk8) (fun qk9 hk9 e9k9 => ?_)
            obtain ⟨Lk9, Rk9, hrk9⟩ := e9k9
            have Rqk2_k9 := hrk9 _ _ Rqk2_k8
            have Rqk5_k9 := hrk9 _ _ Rqk5_k8
            refine r_aload dL_law_373 8 rfl ?_
            refine p_callS (As := [.ref qk9, .ref qk2]) (rest := []) (w := (some (.int (iI 1)))) (st' := [.int (iI 1)]) kv_L_law_231 dL_law_375 rfl rfl (Nat.le_of_ble_eq_true rfl) (Nat.le_of_ble_eq_true rfl) rfl rfl (k_alike Rk9 Rqk2_k9) rfl (fun hk10 e9k10 => ?_)
            rw [show hk10 = hk9 from e9k10]
            refine i_ifeq dL_law_378 (tgt := 402) (by decide) ⟨by decide, by decide⟩ (fun c => absurd c (by decide)) (fun _ => ?_)
            refine r_aload_n dL_law_381 1 rfl ?_
            refine r_iload dL_law_382 7 rfl ?_
            refine p_callS (As := [.ref x, .int u]) (rest := []) (w := (some (.int (iI 1)))) (st' := [.int (iI 1)]) kv_L_law_224 dL_law_384 rfl rfl (Nat.le_of_ble_eq_true rfl) (Nat.le_of_ble_eq_true rfl) rfl rfl (k_act hGC hGT hGE Lk9 (by omega) (v := u)) rfl (fun hk11 e9k11 => ?_)
            obtain ⟨Lk11, hrk11⟩ := e9k11
            have Rqk2_k11 := hrk11 _ _ Rqk2_k9
            have Rqk5_k11 := hrk11 _ _ Rqk5_k9
            have Rqk9_k11 := hrk11 _ _ Rk9
            rw [hr] at Lk11
            refine i_ifeq dL_law_387 (tgt := 402) (by decide) ⟨by decide, by decide⟩ (fun c => absurd c (by decide)) (fun _ => ?_)
            refine r_aload_n dL_law_390 1 rfl ?_
            refine q_callS9 (c1 := 1) (c2 := 1300) (kc' := (4 * (33 - k) - 4)) (ks' := (5200 * (33 - k) - 5200)) (As := [.ref x]) (rest := []) kv_L_law_220 dL_law_391 rfl rfl (Nat.le_of_ble_eq_true rfl) (Nat.le_of_ble_eq_true rfl) rfl rfl (by omega) (by omega) (k_all hGC hGT hGE Lk11) (fun qk12 hk12 e9k12 => ?_)
            obtain ⟨Lk12, Rk12, hrk12⟩ := e9k12
            have Rqk2_k12 := hrk12 _ _ Rqk2_k11
            have Rqk5_k12 := hrk12 _ _ Rqk5_k11
            have Rqk9_k12 := hrk12 _ _ Rqk9_k11
            refine r_aload dL_law_394 10 rfl ?_
            refine p_callS (As := [.ref qk12, .ref qk5]) (rest := []) (w := (some (.int (iI 1)))) (st' := [.int (iI 1)]) kv_L_law_231 dL_law_396 rfl rfl (Nat.le_of_ble_eq_true rfl) (Nat.le_of_ble_eq_true rfl) rfl rfl (k_alike Rk12 Rqk5_k12) rfl (fun hk13 e9k13 => ?_)
            rw [show hk13 = hk12 from e9k13]
            refine i_ifne dL_law_399 (tgt := 404) (by decide) ⟨by decide, by decide⟩ (fun _ => ?_) (fun c => absurd c (by decide))
            refine r_aload_n dL_law_404 1 rfl ?_
            refine p_callV (As := []) (b := x) (rest := []) (w := (some (.int (iI ((S.2.2.2.2.1.length : Int) + 1))))) (st' := [.int (iI ((S.2.2.2.2.1.length : Int) + 1))]) kv_L_law_213 dL_law_405 rfl rfl (Nat.le_of_ble_eq_true rfl) (Nat.le_of_ble_eq_true rfl) (xb_rv Lk12.1) rfl rfl ((by have z := c_X11_undoableCount hGC hGT hGE Lk12.1 Lk12.2.1.1; rw [hcn] at z; exact z)) rfl (fun hk14 e9k14 => ?_)
            rw [show hk14 = hk12 from e9k14]
            refine r_iload dL_law_408 9 rfl ?_
            refine i_icmpne dL_law_410 (tgt := 432) (by decide) (by unfold in32; omega) (by unfold in32; omega) (fun _ => ?_) (fun c => (by exfalso; omega))
            refine i_iinc (ls' := [(0, .ref b), (1, .ref x), (2, .ref w), (3, .int v), (4, .ref o), (5, .int (iI n)), (6, .int (iI ((k : Int) + 1))), (7, .int u), (8, .ref qk2), (9, .int (iI ((S.2.2.2.2.1.length : Int)))), (10, .ref qk5)]) (1) (v := (k : Int) + 1) dL_law_432 6 rfl (by omega) (by decide) rfl ?_
            refine r_goto dL_law_435 (tgt := 268) (by decide) ?_
            refine rr_take 7 rfl ?_
            refine rr_room (ih (k + 1) (by omega) (by omega) hk12 _ (Lk12.le (by push_cast; omega))) (by omega) (by omega)
        · refine r_aload_n dL_law_304 1 rfl ?_
          refine p_callS (As := [.ref x]) (rest := []) (w := (some (.int (iI 1)))) (st' := [.int (iI 1)]) kv_L_law_216 dL_law_305 rfl rfl (Nat.le_of_ble_eq_true rfl) (Nat.le_of_ble_eq_true rfl) rfl rfl (c_L_isBench hGC hGT hGE hL9.1 hL9.2.1 hL9.2.2.1) rfl (fun hk15 e9k15 => ?_)
          rw [show hk15 = h from e9k15]
          refine i_ifne dL_law_308 (tgt := 313) (by decide) ⟨by decide, by decide⟩ (fun _ => ?_) (fun c => absurd c (by decide))
          refine r_aload_n dL_law_313 1 rfl ?_
          refine q_callS9 (c1 := 1) (c2 := 1300) (kc' := (4 * (33 - k) - 1)) (ks' := (5200 * (33 - k) - 1300)) (As := [.ref x]) (rest := []) kv_L_law_220 dL_law_314 rfl rfl (Nat.le_of_ble_eq_true rfl) (Nat.le_of_ble_eq_true rfl) rfl rfl (by omega) (by omega) (k_all hGC hGT hGE hL9) (fun qk16 hk16 e9k16 => ?_)
          obtain ⟨Lk16, Rk16, hrk16⟩ := e9k16
          refine r_astore (ls' := [(0, .ref b), (1, .ref x), (2, .ref w), (3, .int v), (4, .ref o), (5, .int (iI n)), (6, .int (iI ((k : Int)))), (7, .int u), (8, .ref qk16)]) dL_law_317 (by decide) rfl ?_
          refine r_aload_n dL_law_319 1 rfl ?_
          refine p_callV (As := []) (b := x) (rest := []) (w := (some (.int (iI ((S.2.2.2.2.1.length : Int)))))) (st' := [.int (iI ((S.2.2.2.2.1.length : Int)))]) kv_L_law_213 dL_law_320 rfl rfl (Nat.le_of_ble_eq_true rfl) (Nat.le_of_ble_eq_true rfl) (xb_rv Lk16.1) rfl rfl (c_X11_undoableCount hGC hGT hGE Lk16.1 Lk16.2.1.1) rfl (fun hk17 e9k17 => ?_)
          rw [show hk17 = hk16 from e9k17]
          refine r_istore (ls' := [(0, .ref b), (1, .ref x), (2, .ref w), (3, .int v), (4, .ref o), (5, .int (iI n)), (6, .int (iI ((k : Int)))), (7, .int u), (8, .ref qk16), (9, .int (iI ((S.2.2.2.2.1.length : Int))))]) dL_law_323 (by decide) rfl ?_
          refine r_aload_n dL_law_325 1 rfl ?_
          refine r_iload dL_law_326 7 rfl ?_
          refine p_callS (As := [.ref x, .int u]) (rest := []) (w := (some (.int (iI 1)))) (st' := [.int (iI 1)]) kv_L_law_224 dL_law_328 rfl rfl (Nat.le_of_ble_eq_true rfl) (Nat.le_of_ble_eq_true rfl) rfl rfl (k_act hGC hGT hGE Lk16 (by omega) (v := u)) rfl (fun hk18 e9k18 => ?_)
          obtain ⟨Lk18, hrk18⟩ := e9k18
          have Rqk16_k18 := hrk18 _ _ Rk16
          rw [hr] at Lk18
          refine i_ifne dL_law_331 (tgt := 336) (by decide) ⟨by decide, by decide⟩ (fun _ => ?_) (fun c => absurd c (by decide))
          refine r_aload_n dL_law_336 1 rfl ?_
          refine q_callS9 (c1 := 1) (c2 := 1300) (kc' := (4 * (33 - k) - 2)) (ks' := (5200 * (33 - k) - 2600)) (As := [.ref x]) (rest := []) kv_L_law_220 dL_law_337 rfl rfl (Nat.le_of_ble_eq_true rfl) (Nat.le_of_ble_eq_true rfl) rfl rfl (by omega) (by omega) (k_all hGC hGT hGE Lk18) (fun qk19 hk19 e9k19 => ?_)
          obtain ⟨Lk19, Rk19, hrk19⟩ := e9k19
          have Rqk16_k19 := hrk19 _ _ Rqk16_k18
          refine r_astore (ls' := [(0, .ref b), (1, .ref x), (2, .ref w), (3, .int v), (4, .ref o), (5, .int (iI n)), (6, .int (iI ((k : Int)))), (7, .int u), (8, .ref qk16), (9, .int (iI ((S.2.2.2.2.1.length : Int)))), (10, .ref qk19)]) dL_law_340 (by decide) rfl ?_
          refine r_aload_n dL_law_342 1 rfl ?_
          refine p_callV (As := []) (b := x) (rest := []) (w := (some (.int (iI ((S.2.2.2.2.1.length : Int) + 1))))) (st' := [.int (iI ((S.2.2.2.2.1.length : Int) + 1))]) kv_L_law_213 dL_law_343 rfl rfl (Nat.le_of_ble_eq_true rfl) (Nat.le_of_ble_eq_true rfl) (xb_rv Lk19.1) rfl rfl ((by have z := c_X11_undoableCount hGC hGT hGE Lk19.1 Lk19.2.1.1; rw [hcn] at z; exact z)) rfl (fun hk20 e9k20 => ?_)
          rw [show hk20 = hk19 from e9k20]
          refine r_iload dL_law_346 9 rfl ?_
          refine i_const (1) dL_law_348 ?_
          refine i_add dL_law_349 ?_
          refine i_icmpne dL_law_350 (tgt := 404) (by decide) (by unfold in32; omega) (by unfold in32; omega) (fun c => (by exfalso; omega)) (fun _ => ?_)
          refine r_iload dL_law_353 6 rfl ?_
          refine i_const (3) dL_law_355 ?_
          refine i_rem dL_law_356 (by unfold in32; omega) ⟨by decide, by decide⟩ (by omega) (by omega) ?_
          refine i_ifne dL_law_357 (tgt := 404) (by decide) (by unfold in32; omega) (fun c357 => ?_) (fun c357 => ?_)
          · refine r_aload_n dL_law_404 1 rfl ?_
            refine p_callV (As := []) (b := x) (rest := []) (w := (some (.int (iI ((S.2.2.2.2.1.length : Int) + 1))))) (st' := [.int (iI ((S.2.2.2.2.1.length : Int) + 1))]) kv_L_law_213 dL_law_405 rfl rfl (Nat.le_of_ble_eq_true rfl) (Nat.le_of_ble_eq_true rfl) (xb_rv Lk19.1) rfl rfl ((by have z := c_X11_undoableCount hGC hGT hGE Lk19.1 Lk19.2.1.1; rw [hcn] at z; exact z)) rfl (fun hk21 e9k21 => ?_)
            rw [show hk21 = hk19 from e9k21]
            refine r_iload dL_law_408 9 rfl ?_
            refine i_icmpne dL_law_410 (tgt := 432) (by decide) (by unfold in32; omega) (by unfold in32; omega) (fun _ => ?_) (fun c => (by exfalso; omega))
            refine i_iinc (ls' := [(0, .ref b), (1, .ref x), (2, .ref w), (3, .int v), (4, .ref o), (5, .int (iI n)), (6, .int (iI ((k : Int) + 1))), (7, .int u), (8, .ref qk16), (9, .int (iI ((S.2.2.2.2.1.length : Int)))), (10, .ref qk19)]) (1) (v := (k : Int) + 1) dL_law_432 6 rfl (by omega) (by decide) rfl ?_
            refine r_goto dL_law_435 (tgt := 268) (by decide) ?_
            refine rr_take 7 rfl ?_
            refine rr_room (ih (k + 1) (by omega) (by omega) hk19 _ (Lk19.le (by push_cast; omega))) (by omega) (by omega)
          · refine r_aload_n dL_law_360 1 rfl ?_
            refine p_callV (As := []) (b := x) (rest := []) (w := (some (.int (iI ((S.2.2.2.2.1.length : Int)))))) (st' := [.int (iI ((S.2.2.2.2.1.length : Int)))]) kv_L_law_228 dL_law_361 rfl rfl (Nat.le_of_ble_eq_true rfl) (Nat.le_of_ble_eq_true rfl) (xb_rv Lk19.1) rfl rfl (k_undo hGC hGT hGE Lk19 hL9.2.1 hL9.2.2.1 hL9.2.2.2.1 h8) rfl (fun hk22 e9k22 => ?_)
            obtain ⟨Lk22, hrk22⟩ := e9k22
            have Rqk16_k22 := hrk22 _ _ Rqk16_k19
            have Rqk19_k22 := hrk22 _ _ Rk19
            refine r_iload dL_law_364 9 rfl ?_
            refine i_icmpne dL_law_366 (tgt := 402) (by decide) (by unfold in32; omega) (by unfold in32; omega) (fun c => (by exfalso; omega)) (fun _ => ?_)
            refine r_aload_n dL_law_369 1 rfl ?_
            refine q_callS9 (c1 := 1) (c2 := 1300) (kc' := (4 * (33 - k) - 3)) (ks' := (5200 * (33 - k) - 3900)) (As := [.ref x]) (rest := []) kv_L_law_220 dL_law_370 rfl rfl (Nat.le_of_ble_eq_true rfl) (Nat.le_of_ble_eq_true rfl) rfl rfl (by omega) (by omega) (k_all hGC hGT hGE Lk22) (fun qk23 hk23 e9k23 => ?_)
            obtain ⟨Lk23, Rk23, hrk23⟩ := e9k23
            have Rqk16_k23 := hrk23 _ _ Rqk16_k22
            have Rqk19_k23 := hrk23 _ _ Rqk19_k22
            refine r_aload dL_law_373 8 rfl ?_
            refine p_callS (As := [.ref qk23, .ref qk16]) (rest := []) (w := (some (.int (iI 1)))) (st' := [.int (iI 1)]) kv_L_law_231 dL_law_375 rfl rfl (Nat.le_of_ble_eq_true rfl) (Nat.le_of_ble_eq_true rfl) rfl rfl (k_alike Rk23 Rqk16_k23) rfl (fun hk24 e9k24 => ?_)
            rw [show hk24 = hk23 from e9k24]
            refine i_ifeq dL_law_378 (tgt := 402) (by decide) ⟨by decide, by decide⟩ (fun c => absurd c (by decide)) (fun _ => ?_)
            refine r_aload_n dL_law_381 1 rfl ?_
            refine r_iload dL_law_382 7 rfl ?_
            refine p_callS (As := [.ref x, .int u]) (rest := []) (w := (some (.int (iI 1)))) (st' := [.int (iI 1)]) kv_L_law_224 dL_law_384 rfl rfl (Nat.le_of_ble_eq_true rfl) (Nat.le_of_ble_eq_true rfl) rfl rfl (k_act hGC hGT hGE Lk23 (by omega) (v := u)) rfl (fun hk25 e9k25 => ?_)
            obtain ⟨Lk25, hrk25⟩ := e9k25
            have Rqk16_k25 := hrk25 _ _ Rqk16_k23
            have Rqk19_k25 := hrk25 _ _ Rqk19_k23
            have Rqk23_k25 := hrk25 _ _ Rk23
            rw [hr] at Lk25
            refine i_ifeq dL_law_387 (tgt := 402) (by decide) ⟨by decide, by decide⟩ (fun c => absurd c (by decide)) (fun _ => ?_)
            refine r_aload_n dL_law_390 1 rfl ?_
            refine q_callS9 (c1 := 1) (c2 := 1300) (kc' := (4 * (33 - k) - 4)) (ks' := (5200 * (33 - k) - 5200)) (As := [.ref x]) (rest := []) kv_L_law_220 dL_law_391 rfl rfl (Nat.le_of_ble_eq_true rfl) (Nat.le_of_ble_eq_true rfl) rfl rfl (by omega) (by omega) (k_all hGC hGT hGE Lk25) (fun qk26 hk26 e9k26 => ?_)
            obtain ⟨Lk26, Rk26, hrk26⟩ := e9k26
            have Rqk16_k26 := hrk26 _ _ Rqk16_k25
            have Rqk19_k26 := hrk26 _ _ Rqk19_k25
            have Rqk23_k26 := hrk26 _ _ Rqk23_k25
            refine r_aload dL_law_394 10 rfl ?_
            refine p_callS (As := [.ref qk26, .ref qk19]) (rest := []) (w := (some (.int (iI 1)))) (st' := [.int (iI 1)]) kv_L_law_231 dL_law_396 rfl rfl (Nat.le_of_ble_eq_true rfl) (Nat.le_of_ble_eq_true rfl) rfl rfl (k_alike Rk26 Rqk19_k26) rfl (fun hk27 e9k27 => ?_)
            rw [show hk27 = hk26 from e9k27]
            refine i_ifne dL_law_399 (tgt := 404) (by decide) ⟨by decide, by decide⟩ (fun _ => ?_) (fun c => absurd c (by decide))
            refine r_aload_n dL_law_404 1 rfl ?_
            refine p_callV (As := []) (b := x) (rest := []) (w := (some (.int (iI ((S.2.2.2.2.1.length : Int) + 1))))) (st' := [.int (iI ((S.2.2.2.2.1.length : Int) + 1))]) kv_L_law_213 dL_law_405 rfl rfl (Nat.le_of_ble_eq_true rfl) (Nat.le_of_ble_eq_true rfl) (xb_rv Lk26.1) rfl rfl ((by have z := c_X11_undoableCount hGC hGT hGE Lk26.1 Lk26.2.1.1; rw [hcn] at z; exact z)) rfl (fun hk28 e9k28 => ?_)
            rw [show hk28 = hk26 from e9k28]
            refine r_iload dL_law_408 9 rfl ?_
            refine i_icmpne dL_law_410 (tgt := 432) (by decide) (by unfold in32; omega) (by unfold in32; omega) (fun _ => ?_) (fun c => (by exfalso; omega))
            refine i_iinc (ls' := [(0, .ref b), (1, .ref x), (2, .ref w), (3, .int v), (4, .ref o), (5, .int (iI n)), (6, .int (iI ((k : Int) + 1))), (7, .int u), (8, .ref qk16), (9, .int (iI ((S.2.2.2.2.1.length : Int)))), (10, .ref qk19)]) (1) (v := (k : Int) + 1) dL_law_432 6 rfl (by omega) (by decide) rfl ?_
            refine r_goto dL_law_435 (tgt := 268) (by decide) ?_
            refine rr_take 7 rfl ?_
            refine rr_room (ih (k + 1) (by omega) (by omega) hk26 _ (Lk26.le (by push_cast; omega))) (by omega) (by omega)
      · have hcn : ((updS S (some B')).2.2.2.2.1.length : Int) = 8 := by rw [hul, if_neg h8]
        refine r_iload dL_law_268 6 rfl ?_
        refine i_bipush (32) (by decide) dL_law_270 ?_
        refine i_icmpge dL_law_272 (tgt := 438) (by decide) (by unfold in32; omega) ⟨by decide, by decide⟩ (fun c => (by exfalso; omega)) (fun _ => ?_)
        refine r_aload_n dL_law_275 0 rfl ?_
        refine i_bipush (8) (by decide) dL_law_276 ?_
        refine r_iload dL_law_278 6 rfl ?_
        refine i_bipush (28) (by decide) dL_law_280 ?_
        refine i_rem dL_law_282 (by unfold in32; omega) ⟨by decide, by decide⟩ (by omega) (by omega) ?_
        refine i_add dL_law_283 ?_
        rw [show (8 : Int) + (k : Int) % 28 = ((8 + k % 28 : Nat) : Int) by push_cast; rfl]
        refine p_callS (As := [.ref b, .int (iI (((8 + k % 28 : Nat) : Int)))]) (rest := []) (w := (some (.int (iI (cel zs L (8 + k % 28)))))) (st' := [.int (iI (cel zs L (8 + k % 28)))]) kv_L_law_171 dL_law_284 rfl rfl (Nat.le_of_ble_eq_true rfl) (Nat.le_of_ble_eq_true rfl) rfl rfl (c_L_cell hXs hb hL (k := 8 + k % 28) (by omega)) rfl (fun hk1 e9k1 => ?_)
        rw [show hk1 = h from e9k1]
        refine r_iload dL_law_287 6 rfl ?_
        refine i_bipush (28) (by decide) dL_law_289 ?_
        refine i_div dL_law_291 (by unfold in32; omega) ⟨by decide, by decide⟩ (by omega) (by omega) ?_
        refine i_const (2) dL_law_292 ?_
        refine i_mul dL_law_293 ?_
        refine r_ishr dL_law_294 ?_
        rw [show (iI (cel zs L (8 + k % 28))) >>> ((iI (((k : Int) / 28) * 2)) &&& 31) = u from hu.symm]
        refine r_istore (ls' := [(0, .ref b), (1, .ref x), (2, .ref w), (3, .int v), (4, .ref o), (5, .int (iI n)), (6, .int (iI ((k : Int)))), (7, .int u)]) dL_law_295 (by decide) rfl ?_
        refine r_iload dL_law_297 6 rfl ?_
        refine i_const (3) dL_law_299 ?_
        refine i_rem dL_law_300 (by unfold in32; omega) ⟨by decide, by decide⟩ (by omega) (by omega) ?_
        refine i_ifne dL_law_301 (tgt := 313) (by decide) (by unfold in32; omega) (fun c301 => ?_) (fun c301 => ?_)
        · refine r_aload_n dL_law_313 1 rfl ?_
          refine q_callS9 (c1 := 1) (c2 := 1300) (kc' := (4 * (33 - k) - 1)) (ks' := (5200 * (33 - k) - 1300)) (As := [.ref x]) (rest := []) kv_L_law_220 dL_law_314 rfl rfl (Nat.le_of_ble_eq_true rfl) (Nat.le_of_ble_eq_true rfl) rfl rfl (by omega) (by omega) (k_all hGC hGT hGE hL9) (fun qk2 hk2 e9k2 => ?_)
          obtain ⟨Lk2, Rk2, hrk2⟩ := e9k2
          refine r_astore (ls' := [(0, .ref b), (1, .ref x), (2, .ref w), (3, .int v), (4, .ref o), (5, .int (iI n)), (6, .int (iI ((k : Int)))), (7, .int u), (8, .ref qk2)]) dL_law_317 (by decide) rfl ?_
          refine r_aload_n dL_law_319 1 rfl ?_
          refine p_callV (As := []) (b := x) (rest := []) (w := (some (.int (iI ((S.2.2.2.2.1.length : Int)))))) (st' := [.int (iI ((S.2.2.2.2.1.length : Int)))]) kv_L_law_213 dL_law_320 rfl rfl (Nat.le_of_ble_eq_true rfl) (Nat.le_of_ble_eq_true rfl) (xb_rv Lk2.1) rfl rfl (c_X11_undoableCount hGC hGT hGE Lk2.1 Lk2.2.1.1) rfl (fun hk3 e9k3 => ?_)
          rw [show hk3 = hk2 from e9k3]
          refine r_istore (ls' := [(0, .ref b), (1, .ref x), (2, .ref w), (3, .int v), (4, .ref o), (5, .int (iI n)), (6, .int (iI ((k : Int)))), (7, .int u), (8, .ref qk2), (9, .int (iI ((S.2.2.2.2.1.length : Int))))]) dL_law_323 (by decide) rfl ?_
          refine r_aload_n dL_law_325 1 rfl ?_
          refine r_iload dL_law_326 7 rfl ?_
          refine p_callS (As := [.ref x, .int u]) (rest := []) (w := (some (.int (iI 1)))) (st' := [.int (iI 1)]) kv_L_law_224 dL_law_328 rfl rfl (Nat.le_of_ble_eq_true rfl) (Nat.le_of_ble_eq_true rfl) rfl rfl (k_act hGC hGT hGE Lk2 (by omega) (v := u)) rfl (fun hk4 e9k4 => ?_)
          obtain ⟨Lk4, hrk4⟩ := e9k4
          have Rqk2_k4 := hrk4 _ _ Rk2
          rw [hr] at Lk4
          refine i_ifne dL_law_331 (tgt := 336) (by decide) ⟨by decide, by decide⟩ (fun _ => ?_) (fun c => absurd c (by decide))
          refine r_aload_n dL_law_336 1 rfl ?_
          refine q_callS9 (c1 := 1) (c2 := 1300) (kc' := (4 * (33 - k) - 2)) (ks' := (5200 * (33 - k) - 2600)) (As := [.ref x]) (rest := []) kv_L_law_220 dL_law_337 rfl rfl (Nat.le_of_ble_eq_true rfl) (Nat.le_of_ble_eq_true rfl) rfl rfl (by omega) (by omega) (k_all hGC hGT hGE Lk4) (fun qk5 hk5 e9k5 => ?_)
          obtain ⟨Lk5, Rk5, hrk5⟩ := e9k5
          have Rqk2_k5 := hrk5 _ _ Rqk2_k4
          refine r_astore (ls' := [(0, .ref b), (1, .ref x), (2, .ref w), (3, .int v), (4, .ref o), (5, .int (iI n)), (6, .int (iI ((k : Int)))), (7, .int u), (8, .ref qk2), (9, .int (iI ((S.2.2.2.2.1.length : Int)))), (10, .ref qk5)]) dL_law_340 (by decide) rfl ?_
          refine r_aload_n dL_law_342 1 rfl ?_
          refine p_callV (As := []) (b := x) (rest := []) (w := (some (.int (iI 8)))) (st' := [.int (iI 8)]) kv_L_law_213 dL_law_343 rfl rfl (Nat.le_of_ble_eq_true rfl) (Nat.le_of_ble_eq_true rfl) (xb_rv Lk5.1) rfl rfl ((by have z := c_X11_undoableCount hGC hGT hGE Lk5.1 Lk5.2.1.1; rw [hcn] at z; exact z)) rfl (fun hk6 e9k6 => ?_)
          rw [show hk6 = hk5 from e9k6]
          refine r_iload dL_law_346 9 rfl ?_
          refine i_const (1) dL_law_348 ?_
          refine i_add dL_law_349 ?_
          refine i_icmpne dL_law_350 (tgt := 404) (by decide) ⟨by decide, by decide⟩ (by unfold in32; omega) (fun _ => ?_) (fun c => (by exfalso; omega))
          refine r_aload_n dL_law_404 1 rfl ?_
          refine p_callV (As := []) (b := x) (rest := []) (w := (some (.int (iI 8)))) (st' := [.int (iI 8)]) kv_L_law_213 dL_law_405 rfl rfl (Nat.le_of_ble_eq_true rfl) (Nat.le_of_ble_eq_true rfl) (xb_rv Lk5.1) rfl rfl ((by have z := c_X11_undoableCount hGC hGT hGE Lk5.1 Lk5.2.1.1; rw [hcn] at z; exact z)) rfl (fun hk7 e9k7 => ?_)
          rw [show hk7 = hk5 from e9k7]
          refine r_iload dL_law_408 9 rfl ?_
          refine i_icmpne dL_law_410 (tgt := 432) (by decide) ⟨by decide, by decide⟩ (by unfold in32; omega) (fun c => (by exfalso; omega)) (fun _ => ?_)
          refine r_iload dL_law_413 9 rfl ?_
          refine i_bipush (8) (by decide) dL_law_415 ?_
          refine i_icmpge dL_law_417 (tgt := 432) (by decide) (by unfold in32; omega) ⟨by decide, by decide⟩ (fun _ => ?_) (fun c => (by exfalso; omega))
          refine i_iinc (ls' := [(0, .ref b), (1, .ref x), (2, .ref w), (3, .int v), (4, .ref o), (5, .int (iI n)), (6, .int (iI ((k : Int) + 1))), (7, .int u), (8, .ref qk2), (9, .int (iI ((S.2.2.2.2.1.length : Int)))), (10, .ref qk5)]) (1) (v := (k : Int) + 1) dL_law_432 6 rfl (by omega) (by decide) rfl ?_
          refine r_goto dL_law_435 (tgt := 268) (by decide) ?_
          refine rr_take 7 rfl ?_
          refine rr_room (ih (k + 1) (by omega) (by omega) hk5 _ (Lk5.le (by push_cast; omega))) (by omega) (by omega)
        · refine r_aload_n dL_law_304 1 rfl ?_
          refine p_callS (As := [.ref x]) (rest := []) (w := (some (.int (iI 1)))) (st' := [.int (iI 1)]) kv_L_law_216 dL_law_305 rfl rfl (Nat.le_of_ble_eq_true rfl) (Nat.le_of_ble_eq_true rfl) rfl rfl (c_L_isBench hGC hGT hGE hL9.1 hL9.2.1 hL9.2.2.1) rfl (fun hk8 e9k8 => ?_)
          rw [show hk8 = h from e9k8]
          refine i_ifne dL_law_308 (tgt := 313) (by decide) ⟨by decide, by decide⟩ (fun _ => ?_) (fun c => absurd c (by decide))
          refine r_aload_n dL_law_313 1 rfl ?_
          refine q_callS9 (c1 := 1) (c2 := 1300) (kc' := (4 * (33 - k) - 1)) (ks' := (5200 * (33 - k) - 1300)) (As := [.ref x]) (rest := []) kv_L_law_220 dL_law_314 rfl rfl (Nat.le_of_ble_eq_true rfl) (Nat.le_of_ble_eq_true rfl) rfl rfl (by omega) (by omega) (k_all hGC hGT hGE hL9) (fun qk9 hk9 e9k9 => ?_)
          obtain ⟨Lk9, Rk9, hrk9⟩ := e9k9
          refine r_astore (ls' := [(0, .ref b), (1, .ref x), (2, .ref w), (3, .int v), (4, .ref o), (5, .int (iI n)), (6, .int (iI ((k : Int)))), (7, .int u), (8, .ref qk9)]) dL_law_317 (by decide) rfl ?_
          refine r_aload_n dL_law_319 1 rfl ?_
          refine p_callV (As := []) (b := x) (rest := []) (w := (some (.int (iI ((S.2.2.2.2.1.length : Int)))))) (st' := [.int (iI ((S.2.2.2.2.1.length : Int)))]) kv_L_law_213 dL_law_320 rfl rfl (Nat.le_of_ble_eq_true rfl) (Nat.le_of_ble_eq_true rfl) (xb_rv Lk9.1) rfl rfl (c_X11_undoableCount hGC hGT hGE Lk9.1 Lk9.2.1.1) rfl (fun hk10 e9k10 => ?_)
          rw [show hk10 = hk9 from e9k10]
          refine r_istore (ls' := [(0, .ref b), (1, .ref x), (2, .ref w), (3, .int v), (4, .ref o), (5, .int (iI n)), (6, .int (iI ((k : Int)))), (7, .int u), (8, .ref qk9), (9, .int (iI ((S.2.2.2.2.1.length : Int))))]) dL_law_323 (by decide) rfl ?_
          refine r_aload_n dL_law_325 1 rfl ?_
          refine r_iload dL_law_326 7 rfl ?_
          refine p_callS (As := [.ref x, .int u]) (rest := []) (w := (some (.int (iI 1)))) (st' := [.int (iI 1)]) kv_L_law_224 dL_law_328 rfl rfl (Nat.le_of_ble_eq_true rfl) (Nat.le_of_ble_eq_true rfl) rfl rfl (k_act hGC hGT hGE Lk9 (by omega) (v := u)) rfl (fun hk11 e9k11 => ?_)
          obtain ⟨Lk11, hrk11⟩ := e9k11
          have Rqk9_k11 := hrk11 _ _ Rk9
          rw [hr] at Lk11
          refine i_ifne dL_law_331 (tgt := 336) (by decide) ⟨by decide, by decide⟩ (fun _ => ?_) (fun c => absurd c (by decide))
          refine r_aload_n dL_law_336 1 rfl ?_
          refine q_callS9 (c1 := 1) (c2 := 1300) (kc' := (4 * (33 - k) - 2)) (ks' := (5200 * (33 - k) - 2600)) (As := [.ref x]) (rest := []) kv_L_law_220 dL_law_337 rfl rfl (Nat.le_of_ble_eq_true rfl) (Nat.le_of_ble_eq_true rfl) rfl rfl (by omega) (by omega) (k_all hGC hGT hGE Lk11) (fun qk12 hk12 e9k12 => ?_)
          obtain ⟨Lk12, Rk12, hrk12⟩ := e9k12
          have Rqk9_k12 := hrk12 _ _ Rqk9_k11
          refine r_astore (ls' := [(0, .ref b), (1, .ref x), (2, .ref w), (3, .int v), (4, .ref o), (5, .int (iI n)), (6, .int (iI ((k : Int)))), (7, .int u), (8, .ref qk9), (9, .int (iI ((S.2.2.2.2.1.length : Int)))), (10, .ref qk12)]) dL_law_340 (by decide) rfl ?_
          refine r_aload_n dL_law_342 1 rfl ?_
          refine p_callV (As := []) (b := x) (rest := []) (w := (some (.int (iI 8)))) (st' := [.int (iI 8)]) kv_L_law_213 dL_law_343 rfl rfl (Nat.le_of_ble_eq_true rfl) (Nat.le_of_ble_eq_true rfl) (xb_rv Lk12.1) rfl rfl ((by have z := c_X11_undoableCount hGC hGT hGE Lk12.1 Lk12.2.1.1; rw [hcn] at z; exact z)) rfl (fun hk13 e9k13 => ?_)
          rw [show hk13 = hk12 from e9k13]
          refine r_iload dL_law_346 9 rfl ?_
          refine i_const (1) dL_law_348 ?_
          refine i_add dL_law_349 ?_
          refine i_icmpne dL_law_350 (tgt := 404) (by decide) ⟨by decide, by decide⟩ (by unfold in32; omega) (fun _ => ?_) (fun c => (by exfalso; omega))
          refine r_aload_n dL_law_404 1 rfl ?_
          refine p_callV (As := []) (b := x) (rest := []) (w := (some (.int (iI 8)))) (st' := [.int (iI 8)]) kv_L_law_213 dL_law_405 rfl rfl (Nat.le_of_ble_eq_true rfl) (Nat.le_of_ble_eq_true rfl) (xb_rv Lk12.1) rfl rfl ((by have z := c_X11_undoableCount hGC hGT hGE Lk12.1 Lk12.2.1.1; rw [hcn] at z; exact z)) rfl (fun hk14 e9k14 => ?_)
          rw [show hk14 = hk12 from e9k14]
          refine r_iload dL_law_408 9 rfl ?_
          refine i_icmpne dL_law_410 (tgt := 432) (by decide) ⟨by decide, by decide⟩ (by unfold in32; omega) (fun c => (by exfalso; omega)) (fun _ => ?_)
          refine r_iload dL_law_413 9 rfl ?_
          refine i_bipush (8) (by decide) dL_law_415 ?_
          refine i_icmpge dL_law_417 (tgt := 432) (by decide) (by unfold in32; omega) ⟨by decide, by decide⟩ (fun _ => ?_) (fun c => (by exfalso; omega))
          refine i_iinc (ls' := [(0, .ref b), (1, .ref x), (2, .ref w), (3, .int v), (4, .ref o), (5, .int (iI n)), (6, .int (iI ((k : Int) + 1))), (7, .int u), (8, .ref qk9), (9, .int (iI ((S.2.2.2.2.1.length : Int)))), (10, .ref qk12)]) (1) (v := (k : Int) + 1) dL_law_432 6 rfl (by omega) (by decide) rfl ?_
          refine r_goto dL_law_435 (tgt := 268) (by decide) ?_
          refine rr_take 7 rfl ?_
          refine rr_room (ih (k + 1) (by omega) (by omega) hk12 _ (Lk12.le (by push_cast; omega))) (by omega) (by omega)
  · have ek : k = 32 := by omega
    subst ek
    refine r_iload dL_law_268 6 rfl ?_
    refine i_bipush (32) (by decide) dL_law_270 ?_
    refine i_icmpge dL_law_272 (tgt := 438) (by decide) (by unfold in32; omega) ⟨by decide, by decide⟩ (fun _ => ?_) (fun c => (by exfalso; omega))
    exact law_t hGC hGT hGE hXs hb hL hL9
