/-! ===== what holds of every bench ===== -/
theorem loss_0 {s : AS} {m : Int} (h : s.2.2.2.2.2.1 = true ∨ s.2.2.1 ≤ m) : loss s m = 0 := by
  unfold loss
  rcases h with h | h
  · rw [h, if_pos rfl]
  · split <;> omega
theorem loss_1 {s : AS} {m : Int} (h : s.2.2.2.2.2.1 = false) (h2 : m < s.2.2.1) : 1 ≤ loss s m := by
  unfold loss
  rw [h, if_neg (by simp)]; omega
theorem grt_b {f : AS → Int} {L : List AS} (h : 1 ≤ L.length) : 0 ≤ grt f L ∧ grt f L < (L.length : Int) ∧ grt f L = (bst f L L.length : Int) := by
  unfold grt
  rw [if_neg (by omega)]
  rcases bst_lt f L L.length with z | z <;> omega
theorem grt_max {B : AB} (f : AS → Int) {k : Nat} (h : k < B.2.length) : f (sAt B (k : Int)) ≤ f (sAt B (grt f B.2)) := by
  have hg := (grt_b (f := f) (L := B.2) (by omega)).2.2
  rw [hg]
  exact bst_max f B.2 B.2.length k h
theorem seams_le2 {l : List Int} (h : 1 ≤ l.length) : 0 ≤ seams l l.length ∧ seams l l.length ≤ (l.length : Int) - 1 := by
  have := seams_le l (l.length - 1)
  rw [show l.length - 1 + 1 = l.length by omega] at this
  omega
theorem laf_t {s : AS} {q : Int} (h : obst s q = 0) : lafS s q = q * (s.1.length : Int) - (if s.2.2.2.2.1 then 0 else q - 1) := by
  unfold lafS folded
  rw [if_pos h, Int.mul_comm]
theorem laf_f {s : AS} {q : Int} (h : obst s q ≠ 0) : lafS s q = -1 := by unfold lafS; rw [if_neg h]
theorem laf_pos {s : AS} {q : Int} (h1 : 1 ≤ s.1.length) (hq : 2 ≤ q ∧ q ≤ 4) (h : obst s q = 0) : 1 ≤ lafS s q ∧ lafS s q ≤ 200 := by
  have h2 := (obst0 h).2.1
  have := folded_b (d := s.2.2.2.2.1) (n := (s.1.length : Int)) (by omega) hq
  unfold lafS
  rw [if_pos h]; omega
set_option maxRecDepth 20000 in
set_option maxHeartbeats 8000000 in
theorem c_L_isBench {G : xG} {h : xH} {K : xK} {sa : Nat → Nat} (hGC : GC G K sa) (hGT : GT G sa) (hGE : GE G) {x : Nat} {ad : XA} {S : XS} (hX : XB G h K x ad S) (hI : IV S) (hE : EB S.2.2.1) : CC G ML_isBench [.ref x] h (qI (1) h) := by
  have hW := hI.1
  have hWB := hW.1
  have hC3 := hI.2.1
  have hlen := hX.len
  have hl6 := hlen.1
  have hn1 := hE.2
  have hm := hWB.2.2.1
  have hfl := hWB.2.2.2.1
  have hro := hWB.2.1
  have LO : ∀ k, k ≤ S.2.2.1.2.length → RR G ML_isBench 4 [(0, .ref x), (1, .int (iI (cnt isC (S.2.2.1.2.take k)))), (2, .int (iI ((k : Int))))] [] h (xm_R ML_isBench).cells (xm_R ML_isBench).slots (qI (1) h) := by
    refine down (fun k hk ihk => ?_)
    by_cases hkn : k < S.2.2.1.2.length
    · have hzk : in32 (k : Int) := by unfold in32; omega
      have hsk : hasS S.2.2.1 (k : Int) = true := by unfold hasS; simp; omega
      have hlk : (sAt S.2.2.1 (k : Int)).1.length ≤ 200 := hlen.2 _ (getD_memS (i := k) (by omega))
      have hS := hWB.at hsk
      have hS1 := hS.1
      have hS3 := hS.2.2.1
      have hS4 := hS.2.2.2
      have hg1 := hgt_ge (sAt S.2.2.1 (k : Int)).1 hS.2.1
      have hes : (sAt S.2.2.1 (k : Int)).2.1 = ((sAt S.2.2.1 (k : Int)).1.length : Int) := hE.at hsk
      have hcnt := cnt_b isC (S.2.2.1.2.take k)
      have hct : (S.2.2.1.2.take k).length ≤ 6 := by rw [List.length_take]; omega
      have htn := thinB_lt (sAt S.2.2.1 (k : Int)).1 (sAt S.2.2.1 (k : Int)).1.length
      have htk := thickB_lt (sAt S.2.2.1 (k : Int)).1 (sAt S.2.2.1 (k : Int)).1.length
      have hlo := loss_b (m := S.2.2.1.1.2.1) hS4 (by omega)
      have hesc := esc_le hlo.1 (sAt S.2.2.1 (k : Int)).1
      have hbb := hBut_b (sAt S.2.2.1 (k : Int)).1
      have hnb := nBut_nn (sAt S.2.2.1 (k : Int)).1
      have htv : 0 ≤ sz ((sAt S.2.2.1 (k : Int)).1.getD (thinB (sAt S.2.2.1 (k : Int)).1 (sAt S.2.2.1 (k : Int)).1.length) 0) ∧ sz ((sAt S.2.2.1 (k : Int)).1.getD (thinB (sAt S.2.2.1 (k : Int)).1 (sAt S.2.2.1 (k : Int)).1.length) 0) ≤ 4000 := ⟨sz_nn _, by have := sz_le (l := (sAt S.2.2.1 (k : Int)).1) (i := thinB (sAt S.2.2.1 (k : Int)).1 (sAt S.2.2.1 (k : Int)).1.length) (by omega); omega⟩
      have hkv : 0 ≤ sz ((sAt S.2.2.1 (k : Int)).1.getD (thickB (sAt S.2.2.1 (k : Int)).1 (sAt S.2.2.1 (k : Int)).1.length) 0) ∧ sz ((sAt S.2.2.1 (k : Int)).1.getD (thickB (sAt S.2.2.1 (k : Int)).1 (sAt S.2.2.1 (k : Int)).1.length) 0) ≤ 4000 := ⟨sz_nn _, by have := sz_le (l := (sAt S.2.2.1 (k : Int)).1) (i := thickB (sAt S.2.2.1 (k : Int)).1 (sAt S.2.2.1 (k : Int)).1.length) (by omega); omega⟩
      have kO : RR G ML_isBench 538 [(0, .ref x), (1, .int (iI (cnt isC (S.2.2.1.2.take (k + 1))))), (2, .int (iI ((k : Int))))] [] h (xm_R ML_isBench).cells (xm_R ML_isBench).slots (qI (1) h) := by
        refine i_iinc (ls' := [(0, .ref x), (1, .int (iI (cnt isC (S.2.2.1.2.take (k + 1))))), (2, .int (iI ((k : Int) + 1)))]) (1) (v := (k : Int) + 1) dL_isBench_538 2 rfl (by omega) (by decide) rfl ?_
        refine r_goto dL_isBench_541 (tgt := 4) (by decide) ?_
        exact ihk (k + 1) (by omega) (by omega)
      have L395 : ∀ s9 : Int, ∀ j : Nat, j ≤ 3 → ∀ p : Int, p = (j : Int) + 2 → RR G ML_isBench 395 [(0, .ref x), (1, .int (iI (cnt isC (S.2.2.1.2.take (k + 1))))), (2, .int (iI ((k : Int)))), (3, .int (iI (((sAt S.2.2.1 (k : Int)).1.length : Int)))), (4, .int (iI (hgt (sAt S.2.2.1 (k : Int)).1))), (5, .int (iI (hBut (sAt S.2.2.1 (k : Int)).1))), (6, .int (iI (nBut (sAt S.2.2.1 (k : Int)).1))), (7, .int (iI (sz ((sAt S.2.2.1 (k : Int)).1.getD (thinB (sAt S.2.2.1 (k : Int)).1 (sAt S.2.2.1 (k : Int)).1.length) 0)))), (8, .int (iI (sz ((sAt S.2.2.1 (k : Int)).1.getD (thickB (sAt S.2.2.1 (k : Int)).1 (sAt S.2.2.1 (k : Int)).1.length) 0)))), (9, .int (iI s9)), (10, .int (iI (sumF (escF (loss (sAt S.2.2.1 (k : Int)) S.2.2.1.1.2.1)) (sAt S.2.2.1 (k : Int)).1))), (11, .int (iI p))] [] h (xm_R ML_isBench).cells (xm_R ML_isBench).slots (qI (1) h) := by
        intro s9
        refine down (fun j hj ih => ?_)
        intro p hp
        by_cases hp4 : p ≤ 4
        rotate_left
        · refine r_iload dL_isBench_395 11 rfl ?_
          refine i_const (5) dL_isBench_397 ?_
          refine i_icmpge dL_isBench_398 (tgt := 538) (by decide) (by unfold in32; omega) ⟨by decide, by decide⟩ (fun _ => ?_) (fun c => (by exfalso; omega))
          refine rr_take 3 rfl ?_
          exact kO
        · have hob := obst_nn (sAt S.2.2.1 (k : Int)) p
          have hbk := brk_le (f := p) (loss (sAt S.2.2.1 (k : Int)) S.2.2.1.1.2.1) (sAt S.2.2.1 (k : Int)).1
          have hbk1 := brk_le (f := p - 1) (loss (sAt S.2.2.1 (k : Int)) S.2.2.1.1.2.1) (sAt S.2.2.1 (k : Int)).1
          have hfb := fps_le (sAt S.2.2.1 (k : Int)) p
          have hmo : 3 ≤ p → sumF (brF (p - 1) (loss (sAt S.2.2.1 (k : Int)) S.2.2.1.1.2.1)) (sAt S.2.2.1 (k : Int)).1 ≤ sumF (brF p (loss (sAt S.2.2.1 (k : Int)) S.2.2.1.1.2.1)) (sAt S.2.2.1 (k : Int)).1 := fun z => by have := brk_mono (f := p - 1) (by omega) (lo := loss (sAt S.2.2.1 (k : Int)) S.2.2.1.1.2.1) (sAt S.2.2.1 (k : Int)).1; rw [show p - 1 + 1 = p by omega] at this; exact this
          have hmb := mul_b (x := ((sAt S.2.2.1 (k : Int)).1.length : Int)) (q := p) (by omega) (by omega)
          rw [Int.mul_comm] at hmb
          refine r_iload dL_isBench_395 11 rfl ?_
          refine i_const (5) dL_isBench_397 ?_
          refine i_icmpge dL_isBench_398 (tgt := 538) (by decide) (by unfold in32; omega) ⟨by decide, by decide⟩ (fun c => (by exfalso; omega)) (fun _ => ?_)
          refine r_aload_n dL_isBench_401 0 rfl ?_
          refine r_iload_n dL_isBench_402 2 rfl ?_
          refine r_iload dL_isBench_403 11 rfl ?_
          refine p_callV (As := [.int (iI ((k : Int))), .int (iI p)]) (b := x) (rest := []) (w := (some (.int (iI (obst (sAt S.2.2.1 (k : Int)) p))))) (st' := [.int (iI (obst (sAt S.2.2.1 (k : Int)) p))]) kv_L_isBench_116 dL_isBench_405 rfl rfl (Nat.le_of_ble_eq_true rfl) (Nat.le_of_ble_eq_true rfl) (xb_rv hX) rfl rfl (c_X11_foldObstacle_ok hGC hGT hGE hX hW hzk hsk (q := p) (by unfold in32; omega) (fac_i (by omega))) rfl (fun hk1 e9k1 => ?_)
          rw [show hk1 = h from e9k1]
          refine i_ifne dL_isBench_408 (tgt := 415) (by decide) (by unfold in32; omega) (fun c408 => ?_) (fun c408 => ?_)
          · refine i_const (0) dL_isBench_415 ?_
            refine r_istore (ls' := [(0, .ref x), (1, .int (iI (cnt isC (S.2.2.1.2.take (k + 1))))), (2, .int (iI ((k : Int)))), (3, .int (iI (((sAt S.2.2.1 (k : Int)).1.length : Int)))), (4, .int (iI (hgt (sAt S.2.2.1 (k : Int)).1))), (5, .int (iI (hBut (sAt S.2.2.1 (k : Int)).1))), (6, .int (iI (nBut (sAt S.2.2.1 (k : Int)).1))), (7, .int (iI (sz ((sAt S.2.2.1 (k : Int)).1.getD (thinB (sAt S.2.2.1 (k : Int)).1 (sAt S.2.2.1 (k : Int)).1.length) 0)))), (8, .int (iI (sz ((sAt S.2.2.1 (k : Int)).1.getD (thickB (sAt S.2.2.1 (k : Int)).1 (sAt S.2.2.1 (k : Int)).1.length) 0)))), (9, .int (iI s9)), (10, .int (iI (sumF (escF (loss (sAt S.2.2.1 (k : Int)) S.2.2.1.1.2.1)) (sAt S.2.2.1 (k : Int)).1))), (11, .int (iI p)), (12, .int (iI 0))]) dL_isBench_416 (by decide) rfl ?_
            refine r_aload_n dL_isBench_418 0 rfl ?_
            refine r_iload_n dL_isBench_419 2 rfl ?_
            refine r_iload dL_isBench_420 11 rfl ?_
            refine p_callV (As := [.int (iI ((k : Int))), .int (iI p)]) (b := x) (rest := []) (w := (some (.int (iI (lafS (sAt S.2.2.1 (k : Int)) p))))) (st' := [.int (iI (lafS (sAt S.2.2.1 (k : Int)) p))]) kv_L_isBench_119 dL_isBench_422 rfl rfl (Nat.le_of_ble_eq_true rfl) (Nat.le_of_ble_eq_true rfl) (xb_rv hX) rfl rfl (c_X11_layersAfterFold_ok hGC hGT hGE hX hW hzk hsk (q := p) (by unfold in32; omega) (fac_i (by omega))) rfl (fun hk2 e9k2 => ?_)
            rw [show hk2 = h from e9k2]
            refine r_istore (ls' := [(0, .ref x), (1, .int (iI (cnt isC (S.2.2.1.2.take (k + 1))))), (2, .int (iI ((k : Int)))), (3, .int (iI (((sAt S.2.2.1 (k : Int)).1.length : Int)))), (4, .int (iI (hgt (sAt S.2.2.1 (k : Int)).1))), (5, .int (iI (hBut (sAt S.2.2.1 (k : Int)).1))), (6, .int (iI (nBut (sAt S.2.2.1 (k : Int)).1))), (7, .int (iI (sz ((sAt S.2.2.1 (k : Int)).1.getD (thinB (sAt S.2.2.1 (k : Int)).1 (sAt S.2.2.1 (k : Int)).1.length) 0)))), (8, .int (iI (sz ((sAt S.2.2.1 (k : Int)).1.getD (thickB (sAt S.2.2.1 (k : Int)).1 (sAt S.2.2.1 (k : Int)).1.length) 0)))), (9, .int (iI s9)), (10, .int (iI (sumF (escF (loss (sAt S.2.2.1 (k : Int)) S.2.2.1.1.2.1)) (sAt S.2.2.1 (k : Int)).1))), (11, .int (iI p)), (12, .int (iI 0)), (13, .int (iI (lafS (sAt S.2.2.1 (k : Int)) p)))]) dL_isBench_425 (by decide) rfl ?_
            have hl9 := laf_f c408
            have hfp := fps_0 c408
            refine r_iload dL_isBench_427 13 rfl ?_
            refine i_ifge dL_isBench_429 (tgt := 436) (by decide) (by unfold in32; omega) (fun c => (by exfalso; omega)) (fun _ => ?_)
            refine i_const (1) dL_isBench_432 ?_
            refine r_goto dL_isBench_433 (tgt := 437) (by decide) ?_
            refine r_iload dL_isBench_437 12 rfl ?_
            refine i_icmpeq dL_isBench_439 (tgt := 530) (by decide) ⟨by decide, by decide⟩ ⟨by decide, by decide⟩ (fun c => absurd c (by decide)) (fun _ => ?_)
            refine r_iload dL_isBench_442 12 rfl ?_
            refine i_ifeq dL_isBench_444 (tgt := 473) (by decide) ⟨by decide, by decide⟩ (fun _ => ?_) (fun c => absurd c (by decide))
            refine r_aload_n dL_isBench_473 0 rfl ?_
            refine r_iload_n dL_isBench_474 2 rfl ?_
            refine r_iload dL_isBench_475 11 rfl ?_
            refine p_callV (As := [.int (iI ((k : Int))), .int (iI p)]) (b := x) (rest := []) (w := (some (.int (iI (fps (sAt S.2.2.1 (k : Int)) p))))) (st' := [.int (iI (fps (sAt S.2.2.1 (k : Int)) p))]) kv_L_isBench_122 dL_isBench_477 rfl rfl (Nat.le_of_ble_eq_true rfl) (Nat.le_of_ble_eq_true rfl) (xb_rv hX) rfl rfl (c_X11_foldsPossible_ok hGC hGT hGE hX hW hzk hsk (q := p) (by unfold in32; omega) (fac_i (by omega))) rfl (fun hk3 e9k3 => ?_)
            rw [show hk3 = h from e9k3]
            refine i_ifle dL_isBench_480 (tgt := 487) (by decide) (by unfold in32; omega) (fun _ => ?_) (fun c => (by exfalso; omega))
            refine i_const (0) dL_isBench_487 ?_
            refine r_iload dL_isBench_488 12 rfl ?_
            refine i_icmpne dL_isBench_490 (tgt := 530) (by decide) ⟨by decide, by decide⟩ ⟨by decide, by decide⟩ (fun c => absurd c (by decide)) (fun _ => ?_)
            refine r_aload_n dL_isBench_493 0 rfl ?_
            refine r_iload_n dL_isBench_494 2 rfl ?_
            refine r_iload dL_isBench_495 11 rfl ?_
            refine p_callV (As := [.int (iI ((k : Int))), .int (iI p)]) (b := x) (rest := []) (w := (some (.int (iI (sumF (brF p (loss (sAt S.2.2.1 (k : Int)) S.2.2.1.1.2.1)) (sAt S.2.2.1 (k : Int)).1))))) (st' := [.int (iI (sumF (brF p (loss (sAt S.2.2.1 (k : Int)) S.2.2.1.1.2.1)) (sAt S.2.2.1 (k : Int)).1))]) kv_L_isBench_125 dL_isBench_497 rfl rfl (Nat.le_of_ble_eq_true rfl) (Nat.le_of_ble_eq_true rfl) (xb_rv hX) rfl rfl (c_X11_layersAtRisk_ok hGC hGT hGE hX hW hzk hsk (q := p) (by unfold in32; omega) (fac_i (by omega))) rfl (fun hk4 e9k4 => ?_)
            rw [show hk4 = h from e9k4]
            refine r_iload dL_isBench_500 6 rfl ?_
            refine i_icmpgt dL_isBench_502 (tgt := 530) (by decide) (by unfold in32; omega) (by unfold in32; omega) (fun c => (by exfalso; omega)) (fun _ => ?_)
            refine r_iload dL_isBench_505 11 rfl ?_
            refine i_const (2) dL_isBench_507 ?_
            refine i_icmple dL_isBench_508 (tgt := 532) (by decide) (by unfold in32; omega) ⟨by decide, by decide⟩ (fun c508 => ?_) (fun c508 => ?_)
            · refine i_iinc (ls' := [(0, .ref x), (1, .int (iI (cnt isC (S.2.2.1.2.take (k + 1))))), (2, .int (iI ((k : Int)))), (3, .int (iI (((sAt S.2.2.1 (k : Int)).1.length : Int)))), (4, .int (iI (hgt (sAt S.2.2.1 (k : Int)).1))), (5, .int (iI (hBut (sAt S.2.2.1 (k : Int)).1))), (6, .int (iI (nBut (sAt S.2.2.1 (k : Int)).1))), (7, .int (iI (sz ((sAt S.2.2.1 (k : Int)).1.getD (thinB (sAt S.2.2.1 (k : Int)).1 (sAt S.2.2.1 (k : Int)).1.length) 0)))), (8, .int (iI (sz ((sAt S.2.2.1 (k : Int)).1.getD (thickB (sAt S.2.2.1 (k : Int)).1 (sAt S.2.2.1 (k : Int)).1.length) 0)))), (9, .int (iI s9)), (10, .int (iI (sumF (escF (loss (sAt S.2.2.1 (k : Int)) S.2.2.1.1.2.1)) (sAt S.2.2.1 (k : Int)).1))), (11, .int (iI (p + 1))), (12, .int (iI 0)), (13, .int (iI (lafS (sAt S.2.2.1 (k : Int)) p)))]) (1) (v := p + 1) dL_isBench_532 11 rfl (by omega) (by decide) rfl ?_
              refine r_goto dL_isBench_535 (tgt := 395) (by decide) ?_
              refine rr_take 12 rfl ?_
              exact ih (j + 1) (by omega) (by omega) (p + 1) (by omega)
            · refine r_aload_n dL_isBench_511 0 rfl ?_
              refine r_iload_n dL_isBench_512 2 rfl ?_
              refine r_iload dL_isBench_513 11 rfl ?_
              refine p_callV (As := [.int (iI ((k : Int))), .int (iI p)]) (b := x) (rest := []) (w := (some (.int (iI (sumF (brF p (loss (sAt S.2.2.1 (k : Int)) S.2.2.1.1.2.1)) (sAt S.2.2.1 (k : Int)).1))))) (st' := [.int (iI (sumF (brF p (loss (sAt S.2.2.1 (k : Int)) S.2.2.1.1.2.1)) (sAt S.2.2.1 (k : Int)).1))]) kv_L_isBench_125 dL_isBench_515 rfl rfl (Nat.le_of_ble_eq_true rfl) (Nat.le_of_ble_eq_true rfl) (xb_rv hX) rfl rfl (c_X11_layersAtRisk_ok hGC hGT hGE hX hW hzk hsk (q := p) (by unfold in32; omega) (fac_i (by omega))) rfl (fun hk5 e9k5 => ?_)
              rw [show hk5 = h from e9k5]
              refine r_aload_n dL_isBench_518 0 rfl ?_
              refine r_iload_n dL_isBench_519 2 rfl ?_
              refine r_iload dL_isBench_520 11 rfl ?_
              refine i_const (1) dL_isBench_522 ?_
              refine i_sub dL_isBench_523 ?_
              refine p_callV (As := [.int (iI ((k : Int))), .int (iI (p - 1))]) (b := x) (rest := [.int (iI (sumF (brF p (loss (sAt S.2.2.1 (k : Int)) S.2.2.1.1.2.1)) (sAt S.2.2.1 (k : Int)).1))]) (w := (some (.int (iI (sumF (brF (p - 1) (loss (sAt S.2.2.1 (k : Int)) S.2.2.1.1.2.1)) (sAt S.2.2.1 (k : Int)).1))))) (st' := [.int (iI (sumF (brF (p - 1) (loss (sAt S.2.2.1 (k : Int)) S.2.2.1.1.2.1)) (sAt S.2.2.1 (k : Int)).1)), .int (iI (sumF (brF p (loss (sAt S.2.2.1 (k : Int)) S.2.2.1.1.2.1)) (sAt S.2.2.1 (k : Int)).1))]) kv_L_isBench_125 dL_isBench_524 rfl rfl (Nat.le_of_ble_eq_true rfl) (Nat.le_of_ble_eq_true rfl) (xb_rv hX) rfl rfl (c_X11_layersAtRisk_ok hGC hGT hGE hX hW hzk hsk (q := (p - 1)) (by unfold in32; omega) (fac_i (by omega))) rfl (fun hk6 e9k6 => ?_)
              rw [show hk6 = h from e9k6]
              refine i_icmpge dL_isBench_527 (tgt := 532) (by decide) (by unfold in32; omega) (by unfold in32; omega) (fun _ => ?_) (fun c => (by exfalso; omega))
              refine i_iinc (ls' := [(0, .ref x), (1, .int (iI (cnt isC (S.2.2.1.2.take (k + 1))))), (2, .int (iI ((k : Int)))), (3, .int (iI (((sAt S.2.2.1 (k : Int)).1.length : Int)))), (4, .int (iI (hgt (sAt S.2.2.1 (k : Int)).1))), (5, .int (iI (hBut (sAt S.2.2.1 (k : Int)).1))), (6, .int (iI (nBut (sAt S.2.2.1 (k : Int)).1))), (7, .int (iI (sz ((sAt S.2.2.1 (k : Int)).1.getD (thinB (sAt S.2.2.1 (k : Int)).1 (sAt S.2.2.1 (k : Int)).1.length) 0)))), (8, .int (iI (sz ((sAt S.2.2.1 (k : Int)).1.getD (thickB (sAt S.2.2.1 (k : Int)).1 (sAt S.2.2.1 (k : Int)).1.length) 0)))), (9, .int (iI s9)), (10, .int (iI (sumF (escF (loss (sAt S.2.2.1 (k : Int)) S.2.2.1.1.2.1)) (sAt S.2.2.1 (k : Int)).1))), (11, .int (iI (p + 1))), (12, .int (iI 0)), (13, .int (iI (lafS (sAt S.2.2.1 (k : Int)) p)))]) (1) (v := p + 1) dL_isBench_532 11 rfl (by omega) (by decide) rfl ?_
              refine r_goto dL_isBench_535 (tgt := 395) (by decide) ?_
              refine rr_take 12 rfl ?_
              exact ih (j + 1) (by omega) (by omega) (p + 1) (by omega)
          · refine i_const (1) dL_isBench_411 ?_
            refine r_goto dL_isBench_412 (tgt := 416) (by decide) ?_
            refine r_istore (ls' := [(0, .ref x), (1, .int (iI (cnt isC (S.2.2.1.2.take (k + 1))))), (2, .int (iI ((k : Int)))), (3, .int (iI (((sAt S.2.2.1 (k : Int)).1.length : Int)))), (4, .int (iI (hgt (sAt S.2.2.1 (k : Int)).1))), (5, .int (iI (hBut (sAt S.2.2.1 (k : Int)).1))), (6, .int (iI (nBut (sAt S.2.2.1 (k : Int)).1))), (7, .int (iI (sz ((sAt S.2.2.1 (k : Int)).1.getD (thinB (sAt S.2.2.1 (k : Int)).1 (sAt S.2.2.1 (k : Int)).1.length) 0)))), (8, .int (iI (sz ((sAt S.2.2.1 (k : Int)).1.getD (thickB (sAt S.2.2.1 (k : Int)).1 (sAt S.2.2.1 (k : Int)).1.length) 0)))), (9, .int (iI s9)), (10, .int (iI (sumF (escF (loss (sAt S.2.2.1 (k : Int)) S.2.2.1.1.2.1)) (sAt S.2.2.1 (k : Int)).1))), (11, .int (iI p)), (12, .int (iI 1))]) dL_isBench_416 (by decide) rfl ?_
            refine r_aload_n dL_isBench_418 0 rfl ?_
            refine r_iload_n dL_isBench_419 2 rfl ?_
            refine r_iload dL_isBench_420 11 rfl ?_
            refine p_callV (As := [.int (iI ((k : Int))), .int (iI p)]) (b := x) (rest := []) (w := (some (.int (iI (lafS (sAt S.2.2.1 (k : Int)) p))))) (st' := [.int (iI (lafS (sAt S.2.2.1 (k : Int)) p))]) kv_L_isBench_119 dL_isBench_422 rfl rfl (Nat.le_of_ble_eq_true rfl) (Nat.le_of_ble_eq_true rfl) (xb_rv hX) rfl rfl (c_X11_layersAfterFold_ok hGC hGT hGE hX hW hzk hsk (q := p) (by unfold in32; omega) (fac_i (by omega))) rfl (fun hk7 e9k7 => ?_)
            rw [show hk7 = h from e9k7]
            refine r_istore (ls' := [(0, .ref x), (1, .int (iI (cnt isC (S.2.2.1.2.take (k + 1))))), (2, .int (iI ((k : Int)))), (3, .int (iI (((sAt S.2.2.1 (k : Int)).1.length : Int)))), (4, .int (iI (hgt (sAt S.2.2.1 (k : Int)).1))), (5, .int (iI (hBut (sAt S.2.2.1 (k : Int)).1))), (6, .int (iI (nBut (sAt S.2.2.1 (k : Int)).1))), (7, .int (iI (sz ((sAt S.2.2.1 (k : Int)).1.getD (thinB (sAt S.2.2.1 (k : Int)).1 (sAt S.2.2.1 (k : Int)).1.length) 0)))), (8, .int (iI (sz ((sAt S.2.2.1 (k : Int)).1.getD (thickB (sAt S.2.2.1 (k : Int)).1 (sAt S.2.2.1 (k : Int)).1.length) 0)))), (9, .int (iI s9)), (10, .int (iI (sumF (escF (loss (sAt S.2.2.1 (k : Int)) S.2.2.1.1.2.1)) (sAt S.2.2.1 (k : Int)).1))), (11, .int (iI p)), (12, .int (iI 1)), (13, .int (iI (lafS (sAt S.2.2.1 (k : Int)) p)))]) dL_isBench_425 (by decide) rfl ?_
            have hl9 := laf_pos hS1 (by omega) c408
            have hl8 := laf_t c408
            have hfp := (fps_pos (sAt S.2.2.1 (k : Int)) p).mpr c408
            refine r_iload dL_isBench_427 13 rfl ?_
            refine i_ifge dL_isBench_429 (tgt := 436) (by decide) (by unfold in32; omega) (fun _ => ?_) (fun c => (by exfalso; omega))
            refine i_const (0) dL_isBench_436 ?_
            refine r_iload dL_isBench_437 12 rfl ?_
            refine i_icmpeq dL_isBench_439 (tgt := 530) (by decide) ⟨by decide, by decide⟩ ⟨by decide, by decide⟩ (fun c => absurd c (by decide)) (fun _ => ?_)
            refine r_iload dL_isBench_442 12 rfl ?_
            refine i_ifeq dL_isBench_444 (tgt := 473) (by decide) ⟨by decide, by decide⟩ (fun c => absurd c (by decide)) (fun _ => ?_)
            refine r_iload dL_isBench_447 13 rfl ?_
            refine r_iload dL_isBench_449 11 rfl ?_
            refine r_iload_n dL_isBench_451 3 rfl ?_
            refine i_mul dL_isBench_452 ?_
            refine r_aload_n dL_isBench_453 0 rfl ?_
            refine r_iload_n dL_isBench_454 2 rfl ?_
            refine p_callV (As := [.int (iI ((k : Int)))]) (b := x) (rest := [.int (iI (p * ((sAt S.2.2.1 (k : Int)).1.length : Int))), .int (iI (lafS (sAt S.2.2.1 (k : Int)) p))]) (w := (some (.int (iI (b2 (sAt S.2.2.1 (k : Int)).2.2.2.2.1))))) (st' := [.int (iI (b2 (sAt S.2.2.1 (k : Int)).2.2.2.2.1)), .int (iI (p * ((sAt S.2.2.1 (k : Int)).1.length : Int))), .int (iI (lafS (sAt S.2.2.1 (k : Int)) p))]) kv_L_isBench_58 dL_isBench_455 rfl rfl (Nat.le_of_ble_eq_true rfl) (Nat.le_of_ble_eq_true rfl) (xb_rv hX) rfl rfl (c_X11_isDusted_ok hGC hGT hGE hX hW hzk hsk) rfl (fun hk8 e9k8 => ?_)
            rw [show hk8 = h from e9k8]
            refine i_ifeqb dL_isBench_458 (tgt := 465) (by decide) (fun c458 => ?_) (fun c458 => ?_)
            · refine r_iload dL_isBench_465 11 rfl ?_
              refine i_const (1) dL_isBench_467 ?_
              refine i_sub dL_isBench_468 ?_
              refine i_sub dL_isBench_469 ?_
              have hl7 := hl8
              rw [c458] at hl7
              simp only [Bool.false_eq_true, if_false, if_true] at hl7
              refine i_icmpne dL_isBench_470 (tgt := 530) (by decide) (by unfold in32; omega) (by unfold in32; omega) (fun c => (by exfalso; omega)) (fun _ => ?_)
              refine r_aload_n dL_isBench_473 0 rfl ?_
              refine r_iload_n dL_isBench_474 2 rfl ?_
              refine r_iload dL_isBench_475 11 rfl ?_
              refine p_callV (As := [.int (iI ((k : Int))), .int (iI p)]) (b := x) (rest := []) (w := (some (.int (iI (fps (sAt S.2.2.1 (k : Int)) p))))) (st' := [.int (iI (fps (sAt S.2.2.1 (k : Int)) p))]) kv_L_isBench_122 dL_isBench_477 rfl rfl (Nat.le_of_ble_eq_true rfl) (Nat.le_of_ble_eq_true rfl) (xb_rv hX) rfl rfl (c_X11_foldsPossible_ok hGC hGT hGE hX hW hzk hsk (q := p) (by unfold in32; omega) (fac_i (by omega))) rfl (fun hk9 e9k9 => ?_)
              rw [show hk9 = h from e9k9]
              refine i_ifle dL_isBench_480 (tgt := 487) (by decide) (by unfold in32; omega) (fun c => (by exfalso; omega)) (fun _ => ?_)
              refine i_const (1) dL_isBench_483 ?_
              refine r_goto dL_isBench_484 (tgt := 488) (by decide) ?_
              refine r_iload dL_isBench_488 12 rfl ?_
              refine i_icmpne dL_isBench_490 (tgt := 530) (by decide) ⟨by decide, by decide⟩ ⟨by decide, by decide⟩ (fun c => absurd c (by decide)) (fun _ => ?_)
              refine r_aload_n dL_isBench_493 0 rfl ?_
              refine r_iload_n dL_isBench_494 2 rfl ?_
              refine r_iload dL_isBench_495 11 rfl ?_
              refine p_callV (As := [.int (iI ((k : Int))), .int (iI p)]) (b := x) (rest := []) (w := (some (.int (iI (sumF (brF p (loss (sAt S.2.2.1 (k : Int)) S.2.2.1.1.2.1)) (sAt S.2.2.1 (k : Int)).1))))) (st' := [.int (iI (sumF (brF p (loss (sAt S.2.2.1 (k : Int)) S.2.2.1.1.2.1)) (sAt S.2.2.1 (k : Int)).1))]) kv_L_isBench_125 dL_isBench_497 rfl rfl (Nat.le_of_ble_eq_true rfl) (Nat.le_of_ble_eq_true rfl) (xb_rv hX) rfl rfl (c_X11_layersAtRisk_ok hGC hGT hGE hX hW hzk hsk (q := p) (by unfold in32; omega) (fac_i (by omega))) rfl (fun hk10 e9k10 => ?_)
              rw [show hk10 = h from e9k10]
              refine r_iload dL_isBench_500 6 rfl ?_
              refine i_icmpgt dL_isBench_502 (tgt := 530) (by decide) (by unfold in32; omega) (by unfold in32; omega) (fun c => (by exfalso; omega)) (fun _ => ?_)
              refine r_iload dL_isBench_505 11 rfl ?_
              refine i_const (2) dL_isBench_507 ?_
              refine i_icmple dL_isBench_508 (tgt := 532) (by decide) (by unfold in32; omega) ⟨by decide, by decide⟩ (fun c508 => ?_) (fun c508 => ?_)
              · refine i_iinc (ls' := [(0, .ref x), (1, .int (iI (cnt isC (S.2.2.1.2.take (k + 1))))), (2, .int (iI ((k : Int)))), (3, .int (iI (((sAt S.2.2.1 (k : Int)).1.length : Int)))), (4, .int (iI (hgt (sAt S.2.2.1 (k : Int)).1))), (5, .int (iI (hBut (sAt S.2.2.1 (k : Int)).1))), (6, .int (iI (nBut (sAt S.2.2.1 (k : Int)).1))), (7, .int (iI (sz ((sAt S.2.2.1 (k : Int)).1.getD (thinB (sAt S.2.2.1 (k : Int)).1 (sAt S.2.2.1 (k : Int)).1.length) 0)))), (8, .int (iI (sz ((sAt S.2.2.1 (k : Int)).1.getD (thickB (sAt S.2.2.1 (k : Int)).1 (sAt S.2.2.1 (k : Int)).1.length) 0)))), (9, .int (iI s9)), (10, .int (iI (sumF (escF (loss (sAt S.2.2.1 (k : Int)) S.2.2.1.1.2.1)) (sAt S.2.2.1 (k : Int)).1))), (11, .int (iI (p + 1))), (12, .int (iI 1)), (13, .int (iI (lafS (sAt S.2.2.1 (k : Int)) p)))]) (1) (v := p + 1) dL_isBench_532 11 rfl (by omega) (by decide) rfl ?_
                refine r_goto dL_isBench_535 (tgt := 395) (by decide) ?_
                refine rr_take 12 rfl ?_
                exact ih (j + 1) (by omega) (by omega) (p + 1) (by omega)
              · refine r_aload_n dL_isBench_511 0 rfl ?_
                refine r_iload_n dL_isBench_512 2 rfl ?_
                refine r_iload dL_isBench_513 11 rfl ?_
                refine p_callV (As := [.int (iI ((k : Int))), .int (iI p)]) (b := x) (rest := []) (w := (some (.int (iI (sumF (brF p (loss (sAt S.2.2.1 (k : Int)) S.2.2.1.1.2.1)) (sAt S.2.2.1 (k : Int)).1))))) (st' := [.int (iI (sumF (brF p (loss (sAt S.2.2.1 (k : Int)) S.2.2.1.1.2.1)) (sAt S.2.2.1 (k : Int)).1))]) kv_L_isBench_125 dL_isBench_515 rfl rfl (Nat.le_of_ble_eq_true rfl) (Nat.le_of_ble_eq_true rfl) (xb_rv hX) rfl rfl (c_X11_layersAtRisk_ok hGC hGT hGE hX hW hzk hsk (q := p) (by unfold in32; omega) (fac_i (by omega))) rfl (fun hk11 e9k11 => ?_)
                rw [show hk11 = h from e9k11]
                refine r_aload_n dL_isBench_518 0 rfl ?_
                refine r_iload_n dL_isBench_519 2 rfl ?_
                refine r_iload dL_isBench_520 11 rfl ?_
                refine i_const (1) dL_isBench_522 ?_
                refine i_sub dL_isBench_523 ?_
                refine p_callV (As := [.int (iI ((k : Int))), .int (iI (p - 1))]) (b := x) (rest := [.int (iI (sumF (brF p (loss (sAt S.2.2.1 (k : Int)) S.2.2.1.1.2.1)) (sAt S.2.2.1 (k : Int)).1))]) (w := (some (.int (iI (sumF (brF (p - 1) (loss (sAt S.2.2.1 (k : Int)) S.2.2.1.1.2.1)) (sAt S.2.2.1 (k : Int)).1))))) (st' := [.int (iI (sumF (brF (p - 1) (loss (sAt S.2.2.1 (k : Int)) S.2.2.1.1.2.1)) (sAt S.2.2.1 (k : Int)).1)), .int (iI (sumF (brF p (loss (sAt S.2.2.1 (k : Int)) S.2.2.1.1.2.1)) (sAt S.2.2.1 (k : Int)).1))]) kv_L_isBench_125 dL_isBench_524 rfl rfl (Nat.le_of_ble_eq_true rfl) (Nat.le_of_ble_eq_true rfl) (xb_rv hX) rfl rfl (c_X11_layersAtRisk_ok hGC hGT hGE hX hW hzk hsk (q := (p - 1)) (by unfold in32; omega) (fac_i (by omega))) rfl (fun hk12 e9k12 => ?_)
                rw [show hk12 = h from e9k12]
                refine i_icmpge dL_isBench_527 (tgt := 532) (by decide) (by unfold in32; omega) (by unfold in32; omega) (fun _ => ?_) (fun c => (by exfalso; omega))
                refine i_iinc (ls' := [(0, .ref x), (1, .int (iI (cnt isC (S.2.2.1.2.take (k + 1))))), (2, .int (iI ((k : Int)))), (3, .int (iI (((sAt S.2.2.1 (k : Int)).1.length : Int)))), (4, .int (iI (hgt (sAt S.2.2.1 (k : Int)).1))), (5, .int (iI (hBut (sAt S.2.2.1 (k : Int)).1))), (6, .int (iI (nBut (sAt S.2.2.1 (k : Int)).1))), (7, .int (iI (sz ((sAt S.2.2.1 (k : Int)).1.getD (thinB (sAt S.2.2.1 (k : Int)).1 (sAt S.2.2.1 (k : Int)).1.length) 0)))), (8, .int (iI (sz ((sAt S.2.2.1 (k : Int)).1.getD (thickB (sAt S.2.2.1 (k : Int)).1 (sAt S.2.2.1 (k : Int)).1.length) 0)))), (9, .int (iI s9)), (10, .int (iI (sumF (escF (loss (sAt S.2.2.1 (k : Int)) S.2.2.1.1.2.1)) (sAt S.2.2.1 (k : Int)).1))), (11, .int (iI (p + 1))), (12, .int (iI 1)), (13, .int (iI (lafS (sAt S.2.2.1 (k : Int)) p)))]) (1) (v := p + 1) dL_isBench_532 11 rfl (by omega) (by decide) rfl ?_
                refine r_goto dL_isBench_535 (tgt := 395) (by decide) ?_
                refine rr_take 12 rfl ?_
                exact ih (j + 1) (by omega) (by omega) (p + 1) (by omega)
            · refine i_const (0) dL_isBench_461 ?_
              refine r_goto dL_isBench_462 (tgt := 469) (by decide) ?_
              refine i_sub dL_isBench_469 ?_
              have hl7 := hl8
              rw [c458] at hl7
              simp only [Bool.false_eq_true, if_false, if_true] at hl7
              refine i_icmpne dL_isBench_470 (tgt := 530) (by decide) (by unfold in32; omega) (by unfold in32; omega) (fun c => (by exfalso; omega)) (fun _ => ?_)
              refine r_aload_n dL_isBench_473 0 rfl ?_
              refine r_iload_n dL_isBench_474 2 rfl ?_
              refine r_iload dL_isBench_475 11 rfl ?_
              refine p_callV (As := [.int (iI ((k : Int))), .int (iI p)]) (b := x) (rest := []) (w := (some (.int (iI (fps (sAt S.2.2.1 (k : Int)) p))))) (st' := [.int (iI (fps (sAt S.2.2.1 (k : Int)) p))]) kv_L_isBench_122 dL_isBench_477 rfl rfl (Nat.le_of_ble_eq_true rfl) (Nat.le_of_ble_eq_true rfl) (xb_rv hX) rfl rfl (c_X11_foldsPossible_ok hGC hGT hGE hX hW hzk hsk (q := p) (by unfold in32; omega) (fac_i (by omega))) rfl (fun hk13 e9k13 => ?_)
              rw [show hk13 = h from e9k13]
              refine i_ifle dL_isBench_480 (tgt := 487) (by decide) (by unfold in32; omega) (fun c => (by exfalso; omega)) (fun _ => ?_)
              refine i_const (1) dL_isBench_483 ?_
              refine r_goto dL_isBench_484 (tgt := 488) (by decide) ?_
              refine r_iload dL_isBench_488 12 rfl ?_
              refine i_icmpne dL_isBench_490 (tgt := 530) (by decide) ⟨by decide, by decide⟩ ⟨by decide, by decide⟩ (fun c => absurd c (by decide)) (fun _ => ?_)
              refine r_aload_n dL_isBench_493 0 rfl ?_
              refine r_iload_n dL_isBench_494 2 rfl ?_
              refine r_iload dL_isBench_495 11 rfl ?_
              refine p_callV (As := [.int (iI ((k : Int))), .int (iI p)]) (b := x) (rest := []) (w := (some (.int (iI (sumF (brF p (loss (sAt S.2.2.1 (k : Int)) S.2.2.1.1.2.1)) (sAt S.2.2.1 (k : Int)).1))))) (st' := [.int (iI (sumF (brF p (loss (sAt S.2.2.1 (k : Int)) S.2.2.1.1.2.1)) (sAt S.2.2.1 (k : Int)).1))]) kv_L_isBench_125 dL_isBench_497 rfl rfl (Nat.le_of_ble_eq_true rfl) (Nat.le_of_ble_eq_true rfl) (xb_rv hX) rfl rfl (c_X11_layersAtRisk_ok hGC hGT hGE hX hW hzk hsk (q := p) (by unfold in32; omega) (fac_i (by omega))) rfl (fun hk14 e9k14 => ?_)
              rw [show hk14 = h from e9k14]
              refine r_iload dL_isBench_500 6 rfl ?_
              refine i_icmpgt dL_isBench_502 (tgt := 530) (by decide) (by unfold in32; omega) (by unfold in32; omega) (fun c => (by exfalso; omega)) (fun _ => ?_)
              refine r_iload dL_isBench_505 11 rfl ?_
              refine i_const (2) dL_isBench_507 ?_
              refine i_icmple dL_isBench_508 (tgt := 532) (by decide) (by unfold in32; omega) ⟨by decide, by decide⟩ (fun c508 => ?_) (fun c508 => ?_)
              · refine i_iinc (ls' := [(0, .ref x), (1, .int (iI (cnt isC (S.2.2.1.2.take (k + 1))))), (2, .int (iI ((k : Int)))), (3, .int (iI (((sAt S.2.2.1 (k : Int)).1.length : Int)))), (4, .int (iI (hgt (sAt S.2.2.1 (k : Int)).1))), (5, .int (iI (hBut (sAt S.2.2.1 (k : Int)).1))), (6, .int (iI (nBut (sAt S.2.2.1 (k : Int)).1))), (7, .int (iI (sz ((sAt S.2.2.1 (k : Int)).1.getD (thinB (sAt S.2.2.1 (k : Int)).1 (sAt S.2.2.1 (k : Int)).1.length) 0)))), (8, .int (iI (sz ((sAt S.2.2.1 (k : Int)).1.getD (thickB (sAt S.2.2.1 (k : Int)).1 (sAt S.2.2.1 (k : Int)).1.length) 0)))), (9, .int (iI s9)), (10, .int (iI (sumF (escF (loss (sAt S.2.2.1 (k : Int)) S.2.2.1.1.2.1)) (sAt S.2.2.1 (k : Int)).1))), (11, .int (iI (p + 1))), (12, .int (iI 1)), (13, .int (iI (lafS (sAt S.2.2.1 (k : Int)) p)))]) (1) (v := p + 1) dL_isBench_532 11 rfl (by omega) (by decide) rfl ?_
                refine r_goto dL_isBench_535 (tgt := 395) (by decide) ?_
                refine rr_take 12 rfl ?_
                exact ih (j + 1) (by omega) (by omega) (p + 1) (by omega)
              · refine r_aload_n dL_isBench_511 0 rfl ?_
                refine r_iload_n dL_isBench_512 2 rfl ?_
                refine r_iload dL_isBench_513 11 rfl ?_
                refine p_callV (As := [.int (iI ((k : Int))), .int (iI p)]) (b := x) (rest := []) (w := (some (.int (iI (sumF (brF p (loss (sAt S.2.2.1 (k : Int)) S.2.2.1.1.2.1)) (sAt S.2.2.1 (k : Int)).1))))) (st' := [.int (iI (sumF (brF p (loss (sAt S.2.2.1 (k : Int)) S.2.2.1.1.2.1)) (sAt S.2.2.1 (k : Int)).1))]) kv_L_isBench_125 dL_isBench_515 rfl rfl (Nat.le_of_ble_eq_true rfl) (Nat.le_of_ble_eq_true rfl) (xb_rv hX) rfl rfl (c_X11_layersAtRisk_ok hGC hGT hGE hX hW hzk hsk (q := p) (by unfold in32; omega) (fac_i (by omega))) rfl (fun hk15 e9k15 => ?_)
                rw [show hk15 = h from e9k15]
                refine r_aload_n dL_isBench_518 0 rfl ?_
                refine r_iload_n dL_isBench_519 2 rfl ?_
                refine r_iload dL_isBench_520 11 rfl ?_
                refine i_const (1) dL_isBench_522 ?_
                refine i_sub dL_isBench_523 ?_
                refine p_callV (As := [.int (iI ((k : Int))), .int (iI (p - 1))]) (b := x) (rest := [.int (iI (sumF (brF p (loss (sAt S.2.2.1 (k : Int)) S.2.2.1.1.2.1)) (sAt S.2.2.1 (k : Int)).1))]) (w := (some (.int (iI (sumF (brF (p - 1) (loss (sAt S.2.2.1 (k : Int)) S.2.2.1.1.2.1)) (sAt S.2.2.1 (k : Int)).1))))) (st' := [.int (iI (sumF (brF (p - 1) (loss (sAt S.2.2.1 (k : Int)) S.2.2.1.1.2.1)) (sAt S.2.2.1 (k : Int)).1)), .int (iI (sumF (brF p (loss (sAt S.2.2.1 (k : Int)) S.2.2.1.1.2.1)) (sAt S.2.2.1 (k : Int)).1))]) kv_L_isBench_125 dL_isBench_524 rfl rfl (Nat.le_of_ble_eq_true rfl) (Nat.le_of_ble_eq_true rfl) (xb_rv hX) rfl rfl (c_X11_layersAtRisk_ok hGC hGT hGE hX hW hzk hsk (q := (p - 1)) (by unfold in32; omega) (fac_i (by omega))) rfl (fun hk16 e9k16 => ?_)
                rw [show hk16 = h from e9k16]
                refine i_icmpge dL_isBench_527 (tgt := 532) (by decide) (by unfold in32; omega) (by unfold in32; omega) (fun _ => ?_) (fun c => (by exfalso; omega))
                refine i_iinc (ls' := [(0, .ref x), (1, .int (iI (cnt isC (S.2.2.1.2.take (k + 1))))), (2, .int (iI ((k : Int)))), (3, .int (iI (((sAt S.2.2.1 (k : Int)).1.length : Int)))), (4, .int (iI (hgt (sAt S.2.2.1 (k : Int)).1))), (5, .int (iI (hBut (sAt S.2.2.1 (k : Int)).1))), (6, .int (iI (nBut (sAt S.2.2.1 (k : Int)).1))), (7, .int (iI (sz ((sAt S.2.2.1 (k : Int)).1.getD (thinB (sAt S.2.2.1 (k : Int)).1 (sAt S.2.2.1 (k : Int)).1.length) 0)))), (8, .int (iI (sz ((sAt S.2.2.1 (k : Int)).1.getD (thickB (sAt S.2.2.1 (k : Int)).1 (sAt S.2.2.1 (k : Int)).1.length) 0)))), (9, .int (iI s9)), (10, .int (iI (sumF (escF (loss (sAt S.2.2.1 (k : Int)) S.2.2.1.1.2.1)) (sAt S.2.2.1 (k : Int)).1))), (11, .int (iI (p + 1))), (12, .int (iI 1)), (13, .int (iI (lafS (sAt S.2.2.1 (k : Int)) p)))]) (1) (v := p + 1) dL_isBench_532 11 rfl (by omega) (by decide) rfl ?_
                refine r_goto dL_isBench_535 (tgt := 395) (by decide) ?_
                refine rr_take 12 rfl ?_
                exact ih (j + 1) (by omega) (by omega) (p + 1) (by omega)
      have L161 : RR G ML_isBench 161 [(0, .ref x), (1, .int (iI (cnt isC (S.2.2.1.2.take (k + 1))))), (2, .int (iI ((k : Int)))), (3, .int (iI (((sAt S.2.2.1 (k : Int)).1.length : Int)))), (4, .int (iI (hgt (sAt S.2.2.1 (k : Int)).1))), (5, .int (iI (hBut (sAt S.2.2.1 (k : Int)).1))), (6, .int (iI (nBut (sAt S.2.2.1 (k : Int)).1))), (7, .int (iI (sz ((sAt S.2.2.1 (k : Int)).1.getD (thinB (sAt S.2.2.1 (k : Int)).1 (sAt S.2.2.1 (k : Int)).1.length) 0)))), (8, .int (iI (sz ((sAt S.2.2.1 (k : Int)).1.getD (thickB (sAt S.2.2.1 (k : Int)).1 (sAt S.2.2.1 (k : Int)).1.length) 0)))), (9, .int (iI (((sAt S.2.2.1 (k : Int)).1.length : Int))))] [] h (xm_R ML_isBench).cells (xm_R ML_isBench).slots (qI (1) h) := by
        refine r_aload_n dL_isBench_161 0 rfl ?_
        refine r_iload_n dL_isBench_162 2 rfl ?_
        refine p_callV (As := [.int (iI ((k : Int)))]) (b := x) (rest := []) (w := (some (.int (iI (b2 (sAt S.2.2.1 (k : Int)).2.2.2.2.2.1))))) (st' := [.int (iI (b2 (sAt S.2.2.1 (k : Int)).2.2.2.2.2.1))]) kv_L_isBench_62 dL_isBench_163 rfl rfl (Nat.le_of_ble_eq_true rfl) (Nat.le_of_ble_eq_true rfl) (xb_rv hX) rfl rfl (c_X11_isSealed_ok hGC hGT hGE hX hW hzk hsk) rfl (fun hk1 e9k1 => ?_)
        rw [show hk1 = h from e9k1]
        refine i_ifneb dL_isBench_166 (tgt := 181) (by decide) (fun c166 => ?_) (fun c166 => ?_)
        · refine i_const (1) dL_isBench_181 ?_
          refine r_goto dL_isBench_182 (tgt := 186) (by decide) ?_
          refine r_istore (ls' := [(0, .ref x), (1, .int (iI (cnt isC (S.2.2.1.2.take (k + 1))))), (2, .int (iI ((k : Int)))), (3, .int (iI (((sAt S.2.2.1 (k : Int)).1.length : Int)))), (4, .int (iI (hgt (sAt S.2.2.1 (k : Int)).1))), (5, .int (iI (hBut (sAt S.2.2.1 (k : Int)).1))), (6, .int (iI (nBut (sAt S.2.2.1 (k : Int)).1))), (7, .int (iI (sz ((sAt S.2.2.1 (k : Int)).1.getD (thinB (sAt S.2.2.1 (k : Int)).1 (sAt S.2.2.1 (k : Int)).1.length) 0)))), (8, .int (iI (sz ((sAt S.2.2.1 (k : Int)).1.getD (thickB (sAt S.2.2.1 (k : Int)).1 (sAt S.2.2.1 (k : Int)).1.length) 0)))), (9, .int (iI 1))]) dL_isBench_186 (by decide) rfl ?_
          refine r_aload_n dL_isBench_188 0 rfl ?_
          refine r_iload_n dL_isBench_189 2 rfl ?_
          refine p_callV (As := [.int (iI ((k : Int)))]) (b := x) (rest := []) (w := (some (.int (iI (sumF (escF (loss (sAt S.2.2.1 (k : Int)) S.2.2.1.1.2.1)) (sAt S.2.2.1 (k : Int)).1))))) (st' := [.int (iI (sumF (escF (loss (sAt S.2.2.1 (k : Int)) S.2.2.1.1.2.1)) (sAt S.2.2.1 (k : Int)).1))]) kv_L_isBench_85 dL_isBench_190 rfl rfl (Nat.le_of_ble_eq_true rfl) (Nat.le_of_ble_eq_true rfl) (xb_rv hX) rfl rfl (c_X11_butterAtRisk_ok hGC hGT hGE hX hW hzk hsk) rfl (fun hk2 e9k2 => ?_)
          rw [show hk2 = h from e9k2]
          refine r_istore (ls' := [(0, .ref x), (1, .int (iI (cnt isC (S.2.2.1.2.take (k + 1))))), (2, .int (iI ((k : Int)))), (3, .int (iI (((sAt S.2.2.1 (k : Int)).1.length : Int)))), (4, .int (iI (hgt (sAt S.2.2.1 (k : Int)).1))), (5, .int (iI (hBut (sAt S.2.2.1 (k : Int)).1))), (6, .int (iI (nBut (sAt S.2.2.1 (k : Int)).1))), (7, .int (iI (sz ((sAt S.2.2.1 (k : Int)).1.getD (thinB (sAt S.2.2.1 (k : Int)).1 (sAt S.2.2.1 (k : Int)).1.length) 0)))), (8, .int (iI (sz ((sAt S.2.2.1 (k : Int)).1.getD (thickB (sAt S.2.2.1 (k : Int)).1 (sAt S.2.2.1 (k : Int)).1.length) 0)))), (9, .int (iI 1)), (10, .int (iI (sumF (escF (loss (sAt S.2.2.1 (k : Int)) S.2.2.1.1.2.1)) (sAt S.2.2.1 (k : Int)).1)))]) dL_isBench_193 (by decide) rfl ?_
          refine r_iload_n dL_isBench_195 3 rfl ?_
          refine r_aload_n dL_isBench_196 0 rfl ?_
          refine r_iload_n dL_isBench_197 2 rfl ?_
          refine p_callV (As := [.int (iI ((k : Int)))]) (b := x) (rest := [.int (iI (((sAt S.2.2.1 (k : Int)).1.length : Int)))]) (w := (some (.int (iI ((sAt S.2.2.1 (k : Int)).2.1))))) (st' := [.int (iI ((sAt S.2.2.1 (k : Int)).2.1)), .int (iI (((sAt S.2.2.1 (k : Int)).1.length : Int)))]) kv_L_isBench_49 dL_isBench_198 rfl rfl (Nat.le_of_ble_eq_true rfl) (Nat.le_of_ble_eq_true rfl) (xb_rv hX) rfl rfl (c_X11_expectedLayers_ok hGC hGT hGE hX hW hzk hsk) rfl (fun hk3 e9k3 => ?_)
          rw [show hk3 = h from e9k3]
          refine i_icmpne dL_isBench_201 (tgt := 344) (by decide) (by unfold in32; omega) (by unfold in32; omega) (fun c => (by exfalso; omega)) (fun _ => ?_)
          refine r_iload_n dL_isBench_204 3 rfl ?_
          refine i_const (1) dL_isBench_205 ?_
          refine i_icmplt dL_isBench_206 (tgt := 344) (by decide) (by unfold in32; omega) ⟨by decide, by decide⟩ (fun c => (by exfalso; omega)) (fun _ => ?_)
          refine r_iload_n dL_isBench_209 3 rfl ?_
          refine i_sipush (200) (by decide) dL_isBench_210 ?_
          refine i_icmpgt dL_isBench_213 (tgt := 344) (by decide) (by unfold in32; omega) ⟨by decide, by decide⟩ (fun c => (by exfalso; omega)) (fun _ => ?_)
          refine r_iload dL_isBench_216 4 rfl ?_
          refine r_aload_n dL_isBench_218 0 rfl ?_
          refine r_iload_n dL_isBench_219 2 rfl ?_
          refine p_callV (As := [.int (iI ((k : Int)))]) (b := x) (rest := [.int (iI (hgt (sAt S.2.2.1 (k : Int)).1))]) (w := (some (.int (iI (hgt (sAt S.2.2.1 (k : Int)).1))))) (st' := [.int (iI (hgt (sAt S.2.2.1 (k : Int)).1)), .int (iI (hgt (sAt S.2.2.1 (k : Int)).1))]) kv_L_isBench_88 dL_isBench_220 rfl rfl (Nat.le_of_ble_eq_true rfl) (Nat.le_of_ble_eq_true rfl) (xb_rv hX) rfl rfl (c_X11_height_ok hGC hGT hGE hX hW hzk hsk) rfl (fun hk4 e9k4 => ?_)
          rw [show hk4 = h from e9k4]
          refine i_icmpne dL_isBench_223 (tgt := 344) (by decide) (by unfold in32; omega) (by unfold in32; omega) (fun c => (by exfalso; omega)) (fun _ => ?_)
          refine r_iload dL_isBench_226 4 rfl ?_
          refine i_sipush (4000) (by decide) dL_isBench_228 ?_
          refine i_icmpgt dL_isBench_231 (tgt := 344) (by decide) (by unfold in32; omega) ⟨by decide, by decide⟩ (fun c => (by exfalso; omega)) (fun _ => ?_)
          refine r_iload dL_isBench_234 5 rfl ?_
          refine r_aload_n dL_isBench_236 0 rfl ?_
          refine r_iload_n dL_isBench_237 2 rfl ?_
          refine p_callV (As := [.int (iI ((k : Int)))]) (b := x) (rest := [.int (iI (hBut (sAt S.2.2.1 (k : Int)).1))]) (w := (some (.int (iI (hBut (sAt S.2.2.1 (k : Int)).1))))) (st' := [.int (iI (hBut (sAt S.2.2.1 (k : Int)).1)), .int (iI (hBut (sAt S.2.2.1 (k : Int)).1))]) kv_L_isBench_91 dL_isBench_238 rfl rfl (Nat.le_of_ble_eq_true rfl) (Nat.le_of_ble_eq_true rfl) (xb_rv hX) rfl rfl (c_X11_butterHeight_ok hGC hGT hGE hX hW hzk hsk) rfl (fun hk5 e9k5 => ?_)
          rw [show hk5 = h from e9k5]
          refine i_icmpne dL_isBench_241 (tgt := 344) (by decide) (by unfold in32; omega) (by unfold in32; omega) (fun c => (by exfalso; omega)) (fun _ => ?_)
          refine r_iload dL_isBench_244 6 rfl ?_
          refine r_aload_n dL_isBench_246 0 rfl ?_
          refine r_iload_n dL_isBench_247 2 rfl ?_
          refine p_callV (As := [.int (iI ((k : Int)))]) (b := x) (rest := [.int (iI (nBut (sAt S.2.2.1 (k : Int)).1))]) (w := (some (.int (iI (nBut (sAt S.2.2.1 (k : Int)).1))))) (st' := [.int (iI (nBut (sAt S.2.2.1 (k : Int)).1)), .int (iI (nBut (sAt S.2.2.1 (k : Int)).1))]) kv_L_isBench_94 dL_isBench_248 rfl rfl (Nat.le_of_ble_eq_true rfl) (Nat.le_of_ble_eq_true rfl) (xb_rv hX) rfl rfl (c_X11_butterLayerCount_ok hGC hGT hGE hX hW hzk hsk) rfl (fun hk6 e9k6 => ?_)
          rw [show hk6 = h from e9k6]
          refine i_icmpne dL_isBench_251 (tgt := 344) (by decide) (by unfold in32; omega) (by unfold in32; omega) (fun c => (by exfalso; omega)) (fun _ => ?_)
          refine r_iload dL_isBench_254 10 rfl ?_
          refine r_iload dL_isBench_256 5 rfl ?_
          refine i_icmpgt dL_isBench_258 (tgt := 344) (by decide) (by unfold in32; omega) (by unfold in32; omega) (fun c => (by exfalso; omega)) (fun _ => ?_)
          have hr0 : sumF (escF (loss (sAt S.2.2.1 (k : Int)) S.2.2.1.1.2.1)) (sAt S.2.2.1 (k : Int)).1 = 0 := by rw [loss_0 (Or.inl c166)]; exact esc_0 _
          refine r_iload dL_isBench_261 9 rfl ?_
          refine i_ifeq dL_isBench_263 (tgt := 271) (by decide) ⟨by decide, by decide⟩ (fun c => absurd c (by decide)) (fun _ => ?_)
          refine r_iload dL_isBench_266 10 rfl ?_
          refine i_ifgt dL_isBench_268 (tgt := 344) (by decide) (by unfold in32; omega) (fun c => (by exfalso; omega)) (fun _ => ?_)
          refine r_iload dL_isBench_271 9 rfl ?_
          refine i_ifne dL_isBench_273 (tgt := 286) (by decide) ⟨by decide, by decide⟩ (fun _ => ?_) (fun c => absurd c (by decide))
          have hs0 : safeH S.2.2.1.1.2.1 40 (sAt S.2.2.1 (k : Int)).2.2.1 = 0 ↔ (sAt S.2.2.1 (k : Int)).2.2.1 ≤ S.2.2.1.1.2.1 := safe_0 S.2.2.1.1.2.1 39 (sAt S.2.2.1 (k : Int)).2.2.1
          have hsb := safe_b S.2.2.1.1.2.1 40 (sAt S.2.2.1 (k : Int)).2.2.1
          refine r_aload_n dL_isBench_286 0 rfl ?_
          refine r_iload_n dL_isBench_287 2 rfl ?_
          refine p_callV (As := [.int (iI ((k : Int)))]) (b := x) (rest := []) (w := (some (.int (iI (safeH S.2.2.1.1.2.1 40 (sAt S.2.2.1 (k : Int)).2.2.1))))) (st' := [.int (iI (safeH S.2.2.1.1.2.1 40 (sAt S.2.2.1 (k : Int)).2.2.1))]) kv_L_isBench_97 dL_isBench_288 rfl rfl (Nat.le_of_ble_eq_true rfl) (Nat.le_of_ble_eq_true rfl) (xb_rv hX) rfl rfl (c_X11_hoursToSafety_ok hGC hGT hGE hX hW hzk hsk) rfl (fun hk7 e9k7 => ?_)
          rw [show hk7 = h from e9k7]
          refine i_ifne dL_isBench_291 (tgt := 298) (by decide) (by unfold in32; omega) (fun c291 => ?_) (fun c291 => ?_)
          · refine i_const (0) dL_isBench_298 ?_
            refine r_aload_n dL_isBench_299 0 rfl ?_
            refine r_iload_n dL_isBench_300 2 rfl ?_
            refine p_callV (As := [.int (iI ((k : Int)))]) (b := x) (rest := [.int (iI 0)]) (w := (some (.int (iI ((sAt S.2.2.1 (k : Int)).2.2.1))))) (st' := [.int (iI ((sAt S.2.2.1 (k : Int)).2.2.1)), .int (iI 0)]) kv_L_isBench_52 dL_isBench_301 rfl rfl (Nat.le_of_ble_eq_true rfl) (Nat.le_of_ble_eq_true rfl) (xb_rv hX) rfl rfl (c_X11_temperature_ok hGC hGT hGE hX hW hzk hsk) rfl (fun hk8 e9k8 => ?_)
            rw [show hk8 = h from e9k8]
            refine r_aload_n dL_isBench_304 0 rfl ?_
            refine p_callV (As := []) (b := x) (rest := [.int (iI ((sAt S.2.2.1 (k : Int)).2.2.1)), .int (iI 0)]) (w := (some (.int (iI S.2.2.1.1.2.1)))) (st' := [.int (iI S.2.2.1.1.2.1), .int (iI ((sAt S.2.2.1 (k : Int)).2.2.1)), .int (iI 0)]) kv_L_isBench_82 dL_isBench_305 rfl rfl (Nat.le_of_ble_eq_true rfl) (Nat.le_of_ble_eq_true rfl) (xb_rv hX) rfl rfl (c_X11_meltingPoint hGC hGT hGE hX hW) rfl (fun hk9 e9k9 => ?_)
            rw [show hk9 = h from e9k9]
            refine i_icmpgt dL_isBench_308 (tgt := 315) (by decide) (by unfold in32; omega) (by unfold in32; omega) (fun _ => ?_) (fun c => (by exfalso; omega))
            refine i_const (0) dL_isBench_315 ?_
            refine i_icmpne dL_isBench_316 (tgt := 344) (by decide) ⟨by decide, by decide⟩ ⟨by decide, by decide⟩ (fun c => absurd c (by decide)) (fun _ => ?_)
            refine r_aload_n dL_isBench_319 0 rfl ?_
            refine r_iload_n dL_isBench_320 2 rfl ?_
            refine i_const (0) dL_isBench_321 ?_
            refine p_callV (As := [.int (iI ((k : Int))), .int (iI 0)]) (b := x) (rest := []) (w := (some (.int (iI (warmAt (sAt S.2.2.1 (k : Int)) S.2.2.1.1.1 0))))) (st' := [.int (iI (warmAt (sAt S.2.2.1 (k : Int)) S.2.2.1.1.1 0))]) kv_L_isBench_100 dL_isBench_322 rfl rfl (Nat.le_of_ble_eq_true rfl) (Nat.le_of_ble_eq_true rfl) (xb_rv hX) rfl rfl (c_X11_temperatureAfter_ok hGC hGT hGE hX hW hzk hsk (q := 0) (by decide)) rfl (fun hk10 e9k10 => ?_)
            rw [show hk10 = h from e9k10]
            refine r_aload_n dL_isBench_325 0 rfl ?_
            refine r_iload_n dL_isBench_326 2 rfl ?_
            refine p_callV (As := [.int (iI ((k : Int)))]) (b := x) (rest := [.int (iI (warmAt (sAt S.2.2.1 (k : Int)) S.2.2.1.1.1 0))]) (w := (some (.int (iI ((sAt S.2.2.1 (k : Int)).2.2.1))))) (st' := [.int (iI ((sAt S.2.2.1 (k : Int)).2.2.1)), .int (iI (warmAt (sAt S.2.2.1 (k : Int)) S.2.2.1.1.1 0))]) kv_L_isBench_52 dL_isBench_327 rfl rfl (Nat.le_of_ble_eq_true rfl) (Nat.le_of_ble_eq_true rfl) (xb_rv hX) rfl rfl (c_X11_temperature_ok hGC hGT hGE hX hW hzk hsk) rfl (fun hk11 e9k11 => ?_)
            rw [show hk11 = h from e9k11]
            have hwa : warmAt (sAt S.2.2.1 (k : Int)) S.2.2.1.1.1 0 = (sAt S.2.2.1 (k : Int)).2.2.1 := rfl
            refine i_icmpne dL_isBench_330 (tgt := 344) (by decide) (by unfold in32; omega) (by unfold in32; omega) (fun c => (by exfalso; omega)) (fun _ => ?_)
            have hse := seams_le2 hS1
            refine r_aload_n dL_isBench_333 0 rfl ?_
            refine r_iload_n dL_isBench_334 2 rfl ?_
            refine p_callV (As := [.int (iI ((k : Int)))]) (b := x) (rest := []) (w := (some (.int (iI (seams (sAt S.2.2.1 (k : Int)).1 (sAt S.2.2.1 (k : Int)).1.length))))) (st' := [.int (iI (seams (sAt S.2.2.1 (k : Int)).1 (sAt S.2.2.1 (k : Int)).1.length))]) kv_L_isBench_103 dL_isBench_335 rfl rfl (Nat.le_of_ble_eq_true rfl) (Nat.le_of_ble_eq_true rfl) (xb_rv hX) rfl rfl (c_X11_seamCount_ok hGC hGT hGE hX hW hzk hsk) rfl (fun hk12 e9k12 => ?_)
            rw [show hk12 = h from e9k12]
            refine r_iload_n dL_isBench_338 3 rfl ?_
            refine i_const (1) dL_isBench_339 ?_
            refine i_sub dL_isBench_340 ?_
            refine i_icmple dL_isBench_341 (tgt := 346) (by decide) (by unfold in32; omega) (by unfold in32; omega) (fun _ => ?_) (fun c => (by exfalso; omega))
            have hgw := grt_b (f := dgS) hn1
            have hgf := grt_b (f := lnS) hn1
            have hsw : hasS S.2.2.1 (grt dgS S.2.2.1.2) = true := by unfold hasS; simp; omega
            have hsf : hasS S.2.2.1 (grt lnS S.2.2.1.2) = true := by unfold hasS; simp; omega
            have hmx : (sAt S.2.2.1 (k : Int)).2.2.1 ≤ (sAt S.2.2.1 (grt dgS S.2.2.1.2)).2.2.1 := grt_max dgS (by omega)
            have hmf : ((sAt S.2.2.1 (k : Int)).1.length : Int) ≤ ((sAt S.2.2.1 (grt lnS S.2.2.1.2)).1.length : Int) := grt_max lnS (by omega)
            have hw2 := (hWB.at hsw).2.2.2
            have hf2 : (sAt S.2.2.1 (grt lnS S.2.2.1.2)).1.length ≤ 200 := hlen.2 _ (getD_memS (hasS_n hsf).1)
            refine r_aload_n dL_isBench_346 0 rfl ?_
            refine r_iload_n dL_isBench_347 2 rfl ?_
            refine p_callV (As := [.int (iI ((k : Int)))]) (b := x) (rest := []) (w := (some (.int (iI ((sAt S.2.2.1 (k : Int)).2.2.1))))) (st' := [.int (iI ((sAt S.2.2.1 (k : Int)).2.2.1))]) kv_L_isBench_52 dL_isBench_348 rfl rfl (Nat.le_of_ble_eq_true rfl) (Nat.le_of_ble_eq_true rfl) (xb_rv hX) rfl rfl (c_X11_temperature_ok hGC hGT hGE hX hW hzk hsk) rfl (fun hk13 e9k13 => ?_)
            rw [show hk13 = h from e9k13]
            refine r_aload_n dL_isBench_351 0 rfl ?_
            refine r_aload_n dL_isBench_352 0 rfl ?_
            refine p_callV (As := []) (b := x) (rest := [.ref x, .int (iI ((sAt S.2.2.1 (k : Int)).2.2.1))]) (w := (some (.int (iI (grt dgS S.2.2.1.2))))) (st' := [.int (iI (grt dgS S.2.2.1.2)), .ref x, .int (iI ((sAt S.2.2.1 (k : Int)).2.2.1))]) kv_L_isBench_106 dL_isBench_353 rfl rfl (Nat.le_of_ble_eq_true rfl) (Nat.le_of_ble_eq_true rfl) (xb_rv hX) rfl rfl (c_X11_warmestSheet hGC hGT hGE hX hW) rfl (fun hk14 e9k14 => ?_)
            rw [show hk14 = h from e9k14]
            refine p_callV (As := [.int (iI (grt dgS S.2.2.1.2))]) (b := x) (rest := [.int (iI ((sAt S.2.2.1 (k : Int)).2.2.1))]) (w := (some (.int (iI ((sAt S.2.2.1 (grt dgS S.2.2.1.2)).2.2.1))))) (st' := [.int (iI ((sAt S.2.2.1 (grt dgS S.2.2.1.2)).2.2.1)), .int (iI ((sAt S.2.2.1 (k : Int)).2.2.1))]) kv_L_isBench_52 dL_isBench_356 rfl rfl (Nat.le_of_ble_eq_true rfl) (Nat.le_of_ble_eq_true rfl) (xb_rv hX) rfl rfl (c_X11_temperature_ok hGC hGT hGE hX hW (z := (grt dgS S.2.2.1.2)) (by unfold in32; omega) hsw) rfl (fun hk15 e9k15 => ?_)
            rw [show hk15 = h from e9k15]
            refine i_icmpgt dL_isBench_359 (tgt := 390) (by decide) (by unfold in32; omega) (by unfold in32; omega) (fun c => (by exfalso; omega)) (fun _ => ?_)
            refine r_iload_n dL_isBench_362 3 rfl ?_
            refine r_aload_n dL_isBench_363 0 rfl ?_
            refine r_aload_n dL_isBench_364 0 rfl ?_
            refine p_callV (As := []) (b := x) (rest := [.ref x, .int (iI (((sAt S.2.2.1 (k : Int)).1.length : Int)))]) (w := (some (.int (iI (grt lnS S.2.2.1.2))))) (st' := [.int (iI (grt lnS S.2.2.1.2)), .ref x, .int (iI (((sAt S.2.2.1 (k : Int)).1.length : Int)))]) kv_L_isBench_109 dL_isBench_365 rfl rfl (Nat.le_of_ble_eq_true rfl) (Nat.le_of_ble_eq_true rfl) (xb_rv hX) rfl rfl (c_X11_finestSheet hGC hGT hGE hX hW) rfl (fun hk16 e9k16 => ?_)
            rw [show hk16 = h from e9k16]
            refine p_callV (As := [.int (iI (grt lnS S.2.2.1.2))]) (b := x) (rest := [.int (iI (((sAt S.2.2.1 (k : Int)).1.length : Int)))]) (w := (some (.int (iI (((sAt S.2.2.1 (grt lnS S.2.2.1.2)).1.length : Int)))))) (st' := [.int (iI (((sAt S.2.2.1 (grt lnS S.2.2.1.2)).1.length : Int))), .int (iI (((sAt S.2.2.1 (k : Int)).1.length : Int)))]) kv_L_isBench_33 dL_isBench_368 rfl rfl (Nat.le_of_ble_eq_true rfl) (Nat.le_of_ble_eq_true rfl) (xb_rv hX) rfl rfl (c_X11_layerCount_ok hGC hGT hGE hX hW (z := (grt lnS S.2.2.1.2)) (by unfold in32; omega) hsf) rfl (fun hk17 e9k17 => ?_)
            rw [show hk17 = h from e9k17]
            refine i_icmpgt dL_isBench_371 (tgt := 390) (by decide) (by unfold in32; omega) (by unfold in32; omega) (fun c => (by exfalso; omega)) (fun _ => ?_)
            refine r_aload_n dL_isBench_374 0 rfl ?_
            refine r_iload_n dL_isBench_375 2 rfl ?_
            refine p_callV (As := [.int (iI ((k : Int)))]) (b := x) (rest := []) (w := (some (.float (FP.fdiv (FP.i2f (iI (hBut (sAt S.2.2.1 (k : Int)).1))) (FP.i2f (iI (hgt (sAt S.2.2.1 (k : Int)).1))))))) (st' := [.float (FP.fdiv (FP.i2f (iI (hBut (sAt S.2.2.1 (k : Int)).1))) (FP.i2f (iI (hgt (sAt S.2.2.1 (k : Int)).1))))]) kv_L_isBench_112 dL_isBench_376 rfl rfl (Nat.le_of_ble_eq_true rfl) (Nat.le_of_ble_eq_true rfl) (xb_rv hX) rfl rfl (c_X11_butterShare_ok hGC hGT hGE hX hW hzk hsk) rfl (fun hk18 e9k18 => ?_)
            rw [show hk18 = h from e9k18]
            refine r_iload dL_isBench_379 5 rfl ?_
            refine r_i2f dL_isBench_381 ?_
            refine r_iload dL_isBench_382 4 rfl ?_
            refine r_i2f dL_isBench_384 ?_
            refine r_fdiv dL_isBench_385 ((nanF _ _ (by omega) (by omega))) ?_
            refine r_fcmp dL_isBench_386 ?_
            rw [fcmp_self (nanF _ _ (by omega) (by omega)), show Op.cmpValue (some .eq) .l = iI 0 from rfl]
            refine i_ifeq dL_isBench_387 (tgt := 392) (by decide) ⟨by decide, by decide⟩ (fun _ => ?_) (fun c => absurd c (by decide))
            refine i_const (2) dL_isBench_392 ?_
            refine r_istore (ls' := [(0, .ref x), (1, .int (iI (cnt isC (S.2.2.1.2.take (k + 1))))), (2, .int (iI ((k : Int)))), (3, .int (iI (((sAt S.2.2.1 (k : Int)).1.length : Int)))), (4, .int (iI (hgt (sAt S.2.2.1 (k : Int)).1))), (5, .int (iI (hBut (sAt S.2.2.1 (k : Int)).1))), (6, .int (iI (nBut (sAt S.2.2.1 (k : Int)).1))), (7, .int (iI (sz ((sAt S.2.2.1 (k : Int)).1.getD (thinB (sAt S.2.2.1 (k : Int)).1 (sAt S.2.2.1 (k : Int)).1.length) 0)))), (8, .int (iI (sz ((sAt S.2.2.1 (k : Int)).1.getD (thickB (sAt S.2.2.1 (k : Int)).1 (sAt S.2.2.1 (k : Int)).1.length) 0)))), (9, .int (iI 1)), (10, .int (iI (sumF (escF (loss (sAt S.2.2.1 (k : Int)) S.2.2.1.1.2.1)) (sAt S.2.2.1 (k : Int)).1))), (11, .int (iI 2))]) dL_isBench_393 (by decide) rfl ?_
            exact L395 (1) 0 (by decide) 2 (by decide)
          · refine i_const (1) dL_isBench_294 ?_
            refine r_goto dL_isBench_295 (tgt := 299) (by decide) ?_
            refine r_aload_n dL_isBench_299 0 rfl ?_
            refine r_iload_n dL_isBench_300 2 rfl ?_
            refine p_callV (As := [.int (iI ((k : Int)))]) (b := x) (rest := [.int (iI 1)]) (w := (some (.int (iI ((sAt S.2.2.1 (k : Int)).2.2.1))))) (st' := [.int (iI ((sAt S.2.2.1 (k : Int)).2.2.1)), .int (iI 1)]) kv_L_isBench_52 dL_isBench_301 rfl rfl (Nat.le_of_ble_eq_true rfl) (Nat.le_of_ble_eq_true rfl) (xb_rv hX) rfl rfl (c_X11_temperature_ok hGC hGT hGE hX hW hzk hsk) rfl (fun hk19 e9k19 => ?_)
            rw [show hk19 = h from e9k19]
            refine r_aload_n dL_isBench_304 0 rfl ?_
            refine p_callV (As := []) (b := x) (rest := [.int (iI ((sAt S.2.2.1 (k : Int)).2.2.1)), .int (iI 1)]) (w := (some (.int (iI S.2.2.1.1.2.1)))) (st' := [.int (iI S.2.2.1.1.2.1), .int (iI ((sAt S.2.2.1 (k : Int)).2.2.1)), .int (iI 1)]) kv_L_isBench_82 dL_isBench_305 rfl rfl (Nat.le_of_ble_eq_true rfl) (Nat.le_of_ble_eq_true rfl) (xb_rv hX) rfl rfl (c_X11_meltingPoint hGC hGT hGE hX hW) rfl (fun hk20 e9k20 => ?_)
            rw [show hk20 = h from e9k20]
            refine i_icmpgt dL_isBench_308 (tgt := 315) (by decide) (by unfold in32; omega) (by unfold in32; omega) (fun c => (by exfalso; omega)) (fun _ => ?_)
            refine i_const (1) dL_isBench_311 ?_
            refine r_goto dL_isBench_312 (tgt := 316) (by decide) ?_
            refine i_icmpne dL_isBench_316 (tgt := 344) (by decide) ⟨by decide, by decide⟩ ⟨by decide, by decide⟩ (fun c => absurd c (by decide)) (fun _ => ?_)
            refine r_aload_n dL_isBench_319 0 rfl ?_
            refine r_iload_n dL_isBench_320 2 rfl ?_
            refine i_const (0) dL_isBench_321 ?_
            refine p_callV (As := [.int (iI ((k : Int))), .int (iI 0)]) (b := x) (rest := []) (w := (some (.int (iI (warmAt (sAt S.2.2.1 (k : Int)) S.2.2.1.1.1 0))))) (st' := [.int (iI (warmAt (sAt S.2.2.1 (k : Int)) S.2.2.1.1.1 0))]) kv_L_isBench_100 dL_isBench_322 rfl rfl (Nat.le_of_ble_eq_true rfl) (Nat.le_of_ble_eq_true rfl) (xb_rv hX) rfl rfl (c_X11_temperatureAfter_ok hGC hGT hGE hX hW hzk hsk (q := 0) (by decide)) rfl (fun hk21 e9k21 => ?_)
            rw [show hk21 = h from e9k21]
            refine r_aload_n dL_isBench_325 0 rfl ?_
            refine r_iload_n dL_isBench_326 2 rfl ?_
            refine p_callV (As := [.int (iI ((k : Int)))]) (b := x) (rest := [.int (iI (warmAt (sAt S.2.2.1 (k : Int)) S.2.2.1.1.1 0))]) (w := (some (.int (iI ((sAt S.2.2.1 (k : Int)).2.2.1))))) (st' := [.int (iI ((sAt S.2.2.1 (k : Int)).2.2.1)), .int (iI (warmAt (sAt S.2.2.1 (k : Int)) S.2.2.1.1.1 0))]) kv_L_isBench_52 dL_isBench_327 rfl rfl (Nat.le_of_ble_eq_true rfl) (Nat.le_of_ble_eq_true rfl) (xb_rv hX) rfl rfl (c_X11_temperature_ok hGC hGT hGE hX hW hzk hsk) rfl (fun hk22 e9k22 => ?_)
            rw [show hk22 = h from e9k22]
            have hwa : warmAt (sAt S.2.2.1 (k : Int)) S.2.2.1.1.1 0 = (sAt S.2.2.1 (k : Int)).2.2.1 := rfl
            refine i_icmpne dL_isBench_330 (tgt := 344) (by decide) (by unfold in32; omega) (by unfold in32; omega) (fun c => (by exfalso; omega)) (fun _ => ?_)
            have hse := seams_le2 hS1
            refine r_aload_n dL_isBench_333 0 rfl ?_
            refine r_iload_n dL_isBench_334 2 rfl ?_
            refine p_callV (As := [.int (iI ((k : Int)))]) (b := x) (rest := []) (w := (some (.int (iI (seams (sAt S.2.2.1 (k : Int)).1 (sAt S.2.2.1 (k : Int)).1.length))))) (st' := [.int (iI (seams (sAt S.2.2.1 (k : Int)).1 (sAt S.2.2.1 (k : Int)).1.length))]) kv_L_isBench_103 dL_isBench_335 rfl rfl (Nat.le_of_ble_eq_true rfl) (Nat.le_of_ble_eq_true rfl) (xb_rv hX) rfl rfl (c_X11_seamCount_ok hGC hGT hGE hX hW hzk hsk) rfl (fun hk23 e9k23 => ?_)
            rw [show hk23 = h from e9k23]
            refine r_iload_n dL_isBench_338 3 rfl ?_
            refine i_const (1) dL_isBench_339 ?_
            refine i_sub dL_isBench_340 ?_
            refine i_icmple dL_isBench_341 (tgt := 346) (by decide) (by unfold in32; omega) (by unfold in32; omega) (fun _ => ?_) (fun c => (by exfalso; omega))
            have hgw := grt_b (f := dgS) hn1
            have hgf := grt_b (f := lnS) hn1
            have hsw : hasS S.2.2.1 (grt dgS S.2.2.1.2) = true := by unfold hasS; simp; omega
            have hsf : hasS S.2.2.1 (grt lnS S.2.2.1.2) = true := by unfold hasS; simp; omega
            have hmx : (sAt S.2.2.1 (k : Int)).2.2.1 ≤ (sAt S.2.2.1 (grt dgS S.2.2.1.2)).2.2.1 := grt_max dgS (by omega)
            have hmf : ((sAt S.2.2.1 (k : Int)).1.length : Int) ≤ ((sAt S.2.2.1 (grt lnS S.2.2.1.2)).1.length : Int) := grt_max lnS (by omega)
            have hw2 := (hWB.at hsw).2.2.2
            have hf2 : (sAt S.2.2.1 (grt lnS S.2.2.1.2)).1.length ≤ 200 := hlen.2 _ (getD_memS (hasS_n hsf).1)
            refine r_aload_n dL_isBench_346 0 rfl ?_
            refine r_iload_n dL_isBench_347 2 rfl ?_
            refine p_callV (As := [.int (iI ((k : Int)))]) (b := x) (rest := []) (w := (some (.int (iI ((sAt S.2.2.1 (k : Int)).2.2.1))))) (st' := [.int (iI ((sAt S.2.2.1 (k : Int)).2.2.1))]) kv_L_isBench_52 dL_isBench_348 rfl rfl (Nat.le_of_ble_eq_true rfl) (Nat.le_of_ble_eq_true rfl) (xb_rv hX) rfl rfl (c_X11_temperature_ok hGC hGT hGE hX hW hzk hsk) rfl (fun hk24 e9k24 => ?_)
            rw [show hk24 = h from e9k24]
            refine r_aload_n dL_isBench_351 0 rfl ?_
            refine r_aload_n dL_isBench_352 0 rfl ?_
            refine p_callV (As := []) (b := x) (rest := [.ref x, .int (iI ((sAt S.2.2.1 (k : Int)).2.2.1))]) (w := (some (.int (iI (grt dgS S.2.2.1.2))))) (st' := [.int (iI (grt dgS S.2.2.1.2)), .ref x, .int (iI ((sAt S.2.2.1 (k : Int)).2.2.1))]) kv_L_isBench_106 dL_isBench_353 rfl rfl (Nat.le_of_ble_eq_true rfl) (Nat.le_of_ble_eq_true rfl) (xb_rv hX) rfl rfl (c_X11_warmestSheet hGC hGT hGE hX hW) rfl (fun hk25 e9k25 => ?_)
            rw [show hk25 = h from e9k25]
            refine p_callV (As := [.int (iI (grt dgS S.2.2.1.2))]) (b := x) (rest := [.int (iI ((sAt S.2.2.1 (k : Int)).2.2.1))]) (w := (some (.int (iI ((sAt S.2.2.1 (grt dgS S.2.2.1.2)).2.2.1))))) (st' := [.int (iI ((sAt S.2.2.1 (grt dgS S.2.2.1.2)).2.2.1)), .int (iI ((sAt S.2.2.1 (k : Int)).2.2.1))]) kv_L_isBench_52 dL_isBench_356 rfl rfl (Nat.le_of_ble_eq_true rfl) (Nat.le_of_ble_eq_true rfl) (xb_rv hX) rfl rfl (c_X11_temperature_ok hGC hGT hGE hX hW (z := (grt dgS S.2.2.1.2)) (by unfold in32; omega) hsw) rfl (fun hk26 e9k26 => ?_)
            rw [show hk26 = h from e9k26]
            refine i_icmpgt dL_isBench_359 (tgt := 390) (by decide) (by unfold in32; omega) (by unfold in32; omega) (fun c => (by exfalso; omega)) (fun _ => ?_)
            refine r_iload_n dL_isBench_362 3 rfl ?_
            refine r_aload_n dL_isBench_363 0 rfl ?_
            refine r_aload_n dL_isBench_364 0 rfl ?_
            refine p_callV (As := []) (b := x) (rest := [.ref x, .int (iI (((sAt S.2.2.1 (k : Int)).1.length : Int)))]) (w := (some (.int (iI (grt lnS S.2.2.1.2))))) (st' := [.int (iI (grt lnS S.2.2.1.2)), .ref x, .int (iI (((sAt S.2.2.1 (k : Int)).1.length : Int)))]) kv_L_isBench_109 dL_isBench_365 rfl rfl (Nat.le_of_ble_eq_true rfl) (Nat.le_of_ble_eq_true rfl) (xb_rv hX) rfl rfl (c_X11_finestSheet hGC hGT hGE hX hW) rfl (fun hk27 e9k27 => ?_)
            rw [show hk27 = h from e9k27]
            refine p_callV (As := [.int (iI (grt lnS S.2.2.1.2))]) (b := x) (rest := [.int (iI (((sAt S.2.2.1 (k : Int)).1.length : Int)))]) (w := (some (.int (iI (((sAt S.2.2.1 (grt lnS S.2.2.1.2)).1.length : Int)))))) (st' := [.int (iI (((sAt S.2.2.1 (grt lnS S.2.2.1.2)).1.length : Int))), .int (iI (((sAt S.2.2.1 (k : Int)).1.length : Int)))]) kv_L_isBench_33 dL_isBench_368 rfl rfl (Nat.le_of_ble_eq_true rfl) (Nat.le_of_ble_eq_true rfl) (xb_rv hX) rfl rfl (c_X11_layerCount_ok hGC hGT hGE hX hW (z := (grt lnS S.2.2.1.2)) (by unfold in32; omega) hsf) rfl (fun hk28 e9k28 => ?_)
            rw [show hk28 = h from e9k28]
            refine i_icmpgt dL_isBench_371 (tgt := 390) (by decide) (by unfold in32; omega) (by unfold in32; omega) (fun c => (by exfalso; omega)) (fun _ => ?_)
            refine r_aload_n dL_isBench_374 0 rfl ?_
            refine r_iload_n dL_isBench_375 2 rfl ?_
            refine p_callV (As := [.int (iI ((k : Int)))]) (b := x) (rest := []) (w := (some (.float (FP.fdiv (FP.i2f (iI (hBut (sAt S.2.2.1 (k : Int)).1))) (FP.i2f (iI (hgt (sAt S.2.2.1 (k : Int)).1))))))) (st' := [.float (FP.fdiv (FP.i2f (iI (hBut (sAt S.2.2.1 (k : Int)).1))) (FP.i2f (iI (hgt (sAt S.2.2.1 (k : Int)).1))))]) kv_L_isBench_112 dL_isBench_376 rfl rfl (Nat.le_of_ble_eq_true rfl) (Nat.le_of_ble_eq_true rfl) (xb_rv hX) rfl rfl (c_X11_butterShare_ok hGC hGT hGE hX hW hzk hsk) rfl (fun hk29 e9k29 => ?_)
            rw [show hk29 = h from e9k29]
            refine r_iload dL_isBench_379 5 rfl ?_
            refine r_i2f dL_isBench_381 ?_
            refine r_iload dL_isBench_382 4 rfl ?_
            refine r_i2f dL_isBench_384 ?_
            refine r_fdiv dL_isBench_385 ((nanF _ _ (by omega) (by omega))) ?_
            refine r_fcmp dL_isBench_386 ?_
            rw [fcmp_self (nanF _ _ (by omega) (by omega)), show Op.cmpValue (some .eq) .l = iI 0 from rfl]
            refine i_ifeq dL_isBench_387 (tgt := 392) (by decide) ⟨by decide, by decide⟩ (fun _ => ?_) (fun c => absurd c (by decide))
            refine i_const (2) dL_isBench_392 ?_
            refine r_istore (ls' := [(0, .ref x), (1, .int (iI (cnt isC (S.2.2.1.2.take (k + 1))))), (2, .int (iI ((k : Int)))), (3, .int (iI (((sAt S.2.2.1 (k : Int)).1.length : Int)))), (4, .int (iI (hgt (sAt S.2.2.1 (k : Int)).1))), (5, .int (iI (hBut (sAt S.2.2.1 (k : Int)).1))), (6, .int (iI (nBut (sAt S.2.2.1 (k : Int)).1))), (7, .int (iI (sz ((sAt S.2.2.1 (k : Int)).1.getD (thinB (sAt S.2.2.1 (k : Int)).1 (sAt S.2.2.1 (k : Int)).1.length) 0)))), (8, .int (iI (sz ((sAt S.2.2.1 (k : Int)).1.getD (thickB (sAt S.2.2.1 (k : Int)).1 (sAt S.2.2.1 (k : Int)).1.length) 0)))), (9, .int (iI 1)), (10, .int (iI (sumF (escF (loss (sAt S.2.2.1 (k : Int)) S.2.2.1.1.2.1)) (sAt S.2.2.1 (k : Int)).1))), (11, .int (iI 2))]) dL_isBench_393 (by decide) rfl ?_
            exact L395 (1) 0 (by decide) 2 (by decide)
        · refine r_aload_n dL_isBench_169 0 rfl ?_
          refine r_iload_n dL_isBench_170 2 rfl ?_
          refine p_callV (As := [.int (iI ((k : Int)))]) (b := x) (rest := []) (w := (some (.int (iI ((sAt S.2.2.1 (k : Int)).2.2.1))))) (st' := [.int (iI ((sAt S.2.2.1 (k : Int)).2.2.1))]) kv_L_isBench_52 dL_isBench_171 rfl rfl (Nat.le_of_ble_eq_true rfl) (Nat.le_of_ble_eq_true rfl) (xb_rv hX) rfl rfl (c_X11_temperature_ok hGC hGT hGE hX hW hzk hsk) rfl (fun hk30 e9k30 => ?_)
          rw [show hk30 = h from e9k30]
          refine r_aload_n dL_isBench_174 0 rfl ?_
          refine p_callV (As := []) (b := x) (rest := [.int (iI ((sAt S.2.2.1 (k : Int)).2.2.1))]) (w := (some (.int (iI S.2.2.1.1.2.1)))) (st' := [.int (iI S.2.2.1.1.2.1), .int (iI ((sAt S.2.2.1 (k : Int)).2.2.1))]) kv_L_isBench_82 dL_isBench_175 rfl rfl (Nat.le_of_ble_eq_true rfl) (Nat.le_of_ble_eq_true rfl) (xb_rv hX) rfl rfl (c_X11_meltingPoint hGC hGT hGE hX hW) rfl (fun hk31 e9k31 => ?_)
          rw [show hk31 = h from e9k31]
          refine i_icmpgt dL_isBench_178 (tgt := 185) (by decide) (by unfold in32; omega) (by unfold in32; omega) (fun c178 => ?_) (fun c178 => ?_)
          · refine i_const (0) dL_isBench_185 ?_
            refine r_istore (ls' := [(0, .ref x), (1, .int (iI (cnt isC (S.2.2.1.2.take (k + 1))))), (2, .int (iI ((k : Int)))), (3, .int (iI (((sAt S.2.2.1 (k : Int)).1.length : Int)))), (4, .int (iI (hgt (sAt S.2.2.1 (k : Int)).1))), (5, .int (iI (hBut (sAt S.2.2.1 (k : Int)).1))), (6, .int (iI (nBut (sAt S.2.2.1 (k : Int)).1))), (7, .int (iI (sz ((sAt S.2.2.1 (k : Int)).1.getD (thinB (sAt S.2.2.1 (k : Int)).1 (sAt S.2.2.1 (k : Int)).1.length) 0)))), (8, .int (iI (sz ((sAt S.2.2.1 (k : Int)).1.getD (thickB (sAt S.2.2.1 (k : Int)).1 (sAt S.2.2.1 (k : Int)).1.length) 0)))), (9, .int (iI 0))]) dL_isBench_186 (by decide) rfl ?_
            refine r_aload_n dL_isBench_188 0 rfl ?_
            refine r_iload_n dL_isBench_189 2 rfl ?_
            refine p_callV (As := [.int (iI ((k : Int)))]) (b := x) (rest := []) (w := (some (.int (iI (sumF (escF (loss (sAt S.2.2.1 (k : Int)) S.2.2.1.1.2.1)) (sAt S.2.2.1 (k : Int)).1))))) (st' := [.int (iI (sumF (escF (loss (sAt S.2.2.1 (k : Int)) S.2.2.1.1.2.1)) (sAt S.2.2.1 (k : Int)).1))]) kv_L_isBench_85 dL_isBench_190 rfl rfl (Nat.le_of_ble_eq_true rfl) (Nat.le_of_ble_eq_true rfl) (xb_rv hX) rfl rfl (c_X11_butterAtRisk_ok hGC hGT hGE hX hW hzk hsk) rfl (fun hk32 e9k32 => ?_)
            rw [show hk32 = h from e9k32]
            refine r_istore (ls' := [(0, .ref x), (1, .int (iI (cnt isC (S.2.2.1.2.take (k + 1))))), (2, .int (iI ((k : Int)))), (3, .int (iI (((sAt S.2.2.1 (k : Int)).1.length : Int)))), (4, .int (iI (hgt (sAt S.2.2.1 (k : Int)).1))), (5, .int (iI (hBut (sAt S.2.2.1 (k : Int)).1))), (6, .int (iI (nBut (sAt S.2.2.1 (k : Int)).1))), (7, .int (iI (sz ((sAt S.2.2.1 (k : Int)).1.getD (thinB (sAt S.2.2.1 (k : Int)).1 (sAt S.2.2.1 (k : Int)).1.length) 0)))), (8, .int (iI (sz ((sAt S.2.2.1 (k : Int)).1.getD (thickB (sAt S.2.2.1 (k : Int)).1 (sAt S.2.2.1 (k : Int)).1.length) 0)))), (9, .int (iI 0)), (10, .int (iI (sumF (escF (loss (sAt S.2.2.1 (k : Int)) S.2.2.1.1.2.1)) (sAt S.2.2.1 (k : Int)).1)))]) dL_isBench_193 (by decide) rfl ?_
            refine r_iload_n dL_isBench_195 3 rfl ?_
            refine r_aload_n dL_isBench_196 0 rfl ?_
            refine r_iload_n dL_isBench_197 2 rfl ?_
            refine p_callV (As := [.int (iI ((k : Int)))]) (b := x) (rest := [.int (iI (((sAt S.2.2.1 (k : Int)).1.length : Int)))]) (w := (some (.int (iI ((sAt S.2.2.1 (k : Int)).2.1))))) (st' := [.int (iI ((sAt S.2.2.1 (k : Int)).2.1)), .int (iI (((sAt S.2.2.1 (k : Int)).1.length : Int)))]) kv_L_isBench_49 dL_isBench_198 rfl rfl (Nat.le_of_ble_eq_true rfl) (Nat.le_of_ble_eq_true rfl) (xb_rv hX) rfl rfl (c_X11_expectedLayers_ok hGC hGT hGE hX hW hzk hsk) rfl (fun hk33 e9k33 => ?_)
            rw [show hk33 = h from e9k33]
            refine i_icmpne dL_isBench_201 (tgt := 344) (by decide) (by unfold in32; omega) (by unfold in32; omega) (fun c => (by exfalso; omega)) (fun _ => ?_)
            refine r_iload_n dL_isBench_204 3 rfl ?_
            refine i_const (1) dL_isBench_205 ?_
            refine i_icmplt dL_isBench_206 (tgt := 344) (by decide) (by unfold in32; omega) ⟨by decide, by decide⟩ (fun c => (by exfalso; omega)) (fun _ => ?_)
            refine r_iload_n dL_isBench_209 3 rfl ?_
            refine i_sipush (200) (by decide) dL_isBench_210 ?_
            refine i_icmpgt dL_isBench_213 (tgt := 344) (by decide) (by unfold in32; omega) ⟨by decide, by decide⟩ (fun c => (by exfalso; omega)) (fun _ => ?_)
            refine r_iload dL_isBench_216 4 rfl ?_
            refine r_aload_n dL_isBench_218 0 rfl ?_
            refine r_iload_n dL_isBench_219 2 rfl ?_
            refine p_callV (As := [.int (iI ((k : Int)))]) (b := x) (rest := [.int (iI (hgt (sAt S.2.2.1 (k : Int)).1))]) (w := (some (.int (iI (hgt (sAt S.2.2.1 (k : Int)).1))))) (st' := [.int (iI (hgt (sAt S.2.2.1 (k : Int)).1)), .int (iI (hgt (sAt S.2.2.1 (k : Int)).1))]) kv_L_isBench_88 dL_isBench_220 rfl rfl (Nat.le_of_ble_eq_true rfl) (Nat.le_of_ble_eq_true rfl) (xb_rv hX) rfl rfl (c_X11_height_ok hGC hGT hGE hX hW hzk hsk) rfl (fun hk34 e9k34 => ?_)
            rw [show hk34 = h from e9k34]
            refine i_icmpne dL_isBench_223 (tgt := 344) (by decide) (by unfold in32; omega) (by unfold in32; omega) (fun c => (by exfalso; omega)) (fun _ => ?_)
            refine r_iload dL_isBench_226 4 rfl ?_
            refine i_sipush (4000) (by decide) dL_isBench_228 ?_
            refine i_icmpgt dL_isBench_231 (tgt := 344) (by decide) (by unfold in32; omega) ⟨by decide, by decide⟩ (fun c => (by exfalso; omega)) (fun _ => ?_)
            refine r_iload dL_isBench_234 5 rfl ?_
            refine r_aload_n dL_isBench_236 0 rfl ?_
            refine r_iload_n dL_isBench_237 2 rfl ?_
            refine p_callV (As := [.int (iI ((k : Int)))]) (b := x) (rest := [.int (iI (hBut (sAt S.2.2.1 (k : Int)).1))]) (w := (some (.int (iI (hBut (sAt S.2.2.1 (k : Int)).1))))) (st' := [.int (iI (hBut (sAt S.2.2.1 (k : Int)).1)), .int (iI (hBut (sAt S.2.2.1 (k : Int)).1))]) kv_L_isBench_91 dL_isBench_238 rfl rfl (Nat.le_of_ble_eq_true rfl) (Nat.le_of_ble_eq_true rfl) (xb_rv hX) rfl rfl (c_X11_butterHeight_ok hGC hGT hGE hX hW hzk hsk) rfl (fun hk35 e9k35 => ?_)
            rw [show hk35 = h from e9k35]
            refine i_icmpne dL_isBench_241 (tgt := 344) (by decide) (by unfold in32; omega) (by unfold in32; omega) (fun c => (by exfalso; omega)) (fun _ => ?_)
            refine r_iload dL_isBench_244 6 rfl ?_
            refine r_aload_n dL_isBench_246 0 rfl ?_
            refine r_iload_n dL_isBench_247 2 rfl ?_
            refine p_callV (As := [.int (iI ((k : Int)))]) (b := x) (rest := [.int (iI (nBut (sAt S.2.2.1 (k : Int)).1))]) (w := (some (.int (iI (nBut (sAt S.2.2.1 (k : Int)).1))))) (st' := [.int (iI (nBut (sAt S.2.2.1 (k : Int)).1)), .int (iI (nBut (sAt S.2.2.1 (k : Int)).1))]) kv_L_isBench_94 dL_isBench_248 rfl rfl (Nat.le_of_ble_eq_true rfl) (Nat.le_of_ble_eq_true rfl) (xb_rv hX) rfl rfl (c_X11_butterLayerCount_ok hGC hGT hGE hX hW hzk hsk) rfl (fun hk36 e9k36 => ?_)
            rw [show hk36 = h from e9k36]
            refine i_icmpne dL_isBench_251 (tgt := 344) (by decide) (by unfold in32; omega) (by unfold in32; omega) (fun c => (by exfalso; omega)) (fun _ => ?_)
            refine r_iload dL_isBench_254 10 rfl ?_
            refine r_iload dL_isBench_256 5 rfl ?_
            refine i_icmpgt dL_isBench_258 (tgt := 344) (by decide) (by unfold in32; omega) (by unfold in32; omega) (fun c => (by exfalso; omega)) (fun _ => ?_)
            have hr1 : 1 ≤ nBut (sAt S.2.2.1 (k : Int)).1 → 1 ≤ sumF (escF (loss (sAt S.2.2.1 (k : Int)) S.2.2.1.1.2.1)) (sAt S.2.2.1 (k : Int)).1 := fun z => esc_pos (loss_1 c166 (by omega)) hS.2.1 z
            refine r_iload dL_isBench_261 9 rfl ?_
            refine i_ifeq dL_isBench_263 (tgt := 271) (by decide) ⟨by decide, by decide⟩ (fun _ => ?_) (fun c => absurd c (by decide))
            refine r_iload dL_isBench_271 9 rfl ?_
            refine i_ifne dL_isBench_273 (tgt := 286) (by decide) ⟨by decide, by decide⟩ (fun c => absurd c (by decide)) (fun _ => ?_)
            refine r_iload dL_isBench_276 6 rfl ?_
            refine i_ifle dL_isBench_278 (tgt := 286) (by decide) (by unfold in32; omega) (fun c278 => ?_) (fun c278 => ?_)
            · have hs0 : safeH S.2.2.1.1.2.1 40 (sAt S.2.2.1 (k : Int)).2.2.1 = 0 ↔ (sAt S.2.2.1 (k : Int)).2.2.1 ≤ S.2.2.1.1.2.1 := safe_0 S.2.2.1.1.2.1 39 (sAt S.2.2.1 (k : Int)).2.2.1
              have hsb := safe_b S.2.2.1.1.2.1 40 (sAt S.2.2.1 (k : Int)).2.2.1
              refine r_aload_n dL_isBench_286 0 rfl ?_
              refine r_iload_n dL_isBench_287 2 rfl ?_
              refine p_callV (As := [.int (iI ((k : Int)))]) (b := x) (rest := []) (w := (some (.int (iI (safeH S.2.2.1.1.2.1 40 (sAt S.2.2.1 (k : Int)).2.2.1))))) (st' := [.int (iI (safeH S.2.2.1.1.2.1 40 (sAt S.2.2.1 (k : Int)).2.2.1))]) kv_L_isBench_97 dL_isBench_288 rfl rfl (Nat.le_of_ble_eq_true rfl) (Nat.le_of_ble_eq_true rfl) (xb_rv hX) rfl rfl (c_X11_hoursToSafety_ok hGC hGT hGE hX hW hzk hsk) rfl (fun hk37 e9k37 => ?_)
              rw [show hk37 = h from e9k37]
              refine i_ifne dL_isBench_291 (tgt := 298) (by decide) (by unfold in32; omega) (fun c291 => ?_) (fun c291 => ?_)
              · refine i_const (0) dL_isBench_298 ?_
                refine r_aload_n dL_isBench_299 0 rfl ?_
                refine r_iload_n dL_isBench_300 2 rfl ?_
                refine p_callV (As := [.int (iI ((k : Int)))]) (b := x) (rest := [.int (iI 0)]) (w := (some (.int (iI ((sAt S.2.2.1 (k : Int)).2.2.1))))) (st' := [.int (iI ((sAt S.2.2.1 (k : Int)).2.2.1)), .int (iI 0)]) kv_L_isBench_52 dL_isBench_301 rfl rfl (Nat.le_of_ble_eq_true rfl) (Nat.le_of_ble_eq_true rfl) (xb_rv hX) rfl rfl (c_X11_temperature_ok hGC hGT hGE hX hW hzk hsk) rfl (fun hk38 e9k38 => ?_)
                rw [show hk38 = h from e9k38]
                refine r_aload_n dL_isBench_304 0 rfl ?_
                refine p_callV (As := []) (b := x) (rest := [.int (iI ((sAt S.2.2.1 (k : Int)).2.2.1)), .int (iI 0)]) (w := (some (.int (iI S.2.2.1.1.2.1)))) (st' := [.int (iI S.2.2.1.1.2.1), .int (iI ((sAt S.2.2.1 (k : Int)).2.2.1)), .int (iI 0)]) kv_L_isBench_82 dL_isBench_305 rfl rfl (Nat.le_of_ble_eq_true rfl) (Nat.le_of_ble_eq_true rfl) (xb_rv hX) rfl rfl (c_X11_meltingPoint hGC hGT hGE hX hW) rfl (fun hk39 e9k39 => ?_)
                rw [show hk39 = h from e9k39]
                refine i_icmpgt dL_isBench_308 (tgt := 315) (by decide) (by unfold in32; omega) (by unfold in32; omega) (fun _ => ?_) (fun c => (by exfalso; omega))
                refine i_const (0) dL_isBench_315 ?_
                refine i_icmpne dL_isBench_316 (tgt := 344) (by decide) ⟨by decide, by decide⟩ ⟨by decide, by decide⟩ (fun c => absurd c (by decide)) (fun _ => ?_)
                refine r_aload_n dL_isBench_319 0 rfl ?_
                refine r_iload_n dL_isBench_320 2 rfl ?_
                refine i_const (0) dL_isBench_321 ?_
                refine p_callV (As := [.int (iI ((k : Int))), .int (iI 0)]) (b := x) (rest := []) (w := (some (.int (iI (warmAt (sAt S.2.2.1 (k : Int)) S.2.2.1.1.1 0))))) (st' := [.int (iI (warmAt (sAt S.2.2.1 (k : Int)) S.2.2.1.1.1 0))]) kv_L_isBench_100 dL_isBench_322 rfl rfl (Nat.le_of_ble_eq_true rfl) (Nat.le_of_ble_eq_true rfl) (xb_rv hX) rfl rfl (c_X11_temperatureAfter_ok hGC hGT hGE hX hW hzk hsk (q := 0) (by decide)) rfl (fun hk40 e9k40 => ?_)
                rw [show hk40 = h from e9k40]
                refine r_aload_n dL_isBench_325 0 rfl ?_
                refine r_iload_n dL_isBench_326 2 rfl ?_
                refine p_callV (As := [.int (iI ((k : Int)))]) (b := x) (rest := [.int (iI (warmAt (sAt S.2.2.1 (k : Int)) S.2.2.1.1.1 0))]) (w := (some (.int (iI ((sAt S.2.2.1 (k : Int)).2.2.1))))) (st' := [.int (iI ((sAt S.2.2.1 (k : Int)).2.2.1)), .int (iI (warmAt (sAt S.2.2.1 (k : Int)) S.2.2.1.1.1 0))]) kv_L_isBench_52 dL_isBench_327 rfl rfl (Nat.le_of_ble_eq_true rfl) (Nat.le_of_ble_eq_true rfl) (xb_rv hX) rfl rfl (c_X11_temperature_ok hGC hGT hGE hX hW hzk hsk) rfl (fun hk41 e9k41 => ?_)
                rw [show hk41 = h from e9k41]
                have hwa : warmAt (sAt S.2.2.1 (k : Int)) S.2.2.1.1.1 0 = (sAt S.2.2.1 (k : Int)).2.2.1 := rfl
                refine i_icmpne dL_isBench_330 (tgt := 344) (by decide) (by unfold in32; omega) (by unfold in32; omega) (fun c => (by exfalso; omega)) (fun _ => ?_)
                have hse := seams_le2 hS1
                refine r_aload_n dL_isBench_333 0 rfl ?_
                refine r_iload_n dL_isBench_334 2 rfl ?_
                refine p_callV (As := [.int (iI ((k : Int)))]) (b := x) (rest := []) (w := (some (.int (iI (seams (sAt S.2.2.1 (k : Int)).1 (sAt S.2.2.1 (k : Int)).1.length))))) (st' := [.int (iI (seams (sAt S.2.2.1 (k : Int)).1 (sAt S.2.2.1 (k : Int)).1.length))]) kv_L_isBench_103 dL_isBench_335 rfl rfl (Nat.le_of_ble_eq_true rfl) (Nat.le_of_ble_eq_true rfl) (xb_rv hX) rfl rfl (c_X11_seamCount_ok hGC hGT hGE hX hW hzk hsk) rfl (fun hk42 e9k42 => ?_)
                rw [show hk42 = h from e9k42]
                refine r_iload_n dL_isBench_338 3 rfl ?_
                refine i_const (1) dL_isBench_339 ?_
                refine i_sub dL_isBench_340 ?_
                refine i_icmple dL_isBench_341 (tgt := 346) (by decide) (by unfold in32; omega) (by unfold in32; omega) (fun _ => ?_) (fun c => (by exfalso; omega))
                have hgw := grt_b (f := dgS) hn1
                have hgf := grt_b (f := lnS) hn1
                have hsw : hasS S.2.2.1 (grt dgS S.2.2.1.2) = true := by unfold hasS; simp; omega
                have hsf : hasS S.2.2.1 (grt lnS S.2.2.1.2) = true := by unfold hasS; simp; omega
                have hmx : (sAt S.2.2.1 (k : Int)).2.2.1 ≤ (sAt S.2.2.1 (grt dgS S.2.2.1.2)).2.2.1 := grt_max dgS (by omega)
                have hmf : ((sAt S.2.2.1 (k : Int)).1.length : Int) ≤ ((sAt S.2.2.1 (grt lnS S.2.2.1.2)).1.length : Int) := grt_max lnS (by omega)
                have hw2 := (hWB.at hsw).2.2.2
                have hf2 : (sAt S.2.2.1 (grt lnS S.2.2.1.2)).1.length ≤ 200 := hlen.2 _ (getD_memS (hasS_n hsf).1)
                refine r_aload_n dL_isBench_346 0 rfl ?_
                refine r_iload_n dL_isBench_347 2 rfl ?_
                refine p_callV (As := [.int (iI ((k : Int)))]) (b := x) (rest := []) (w := (some (.int (iI ((sAt S.2.2.1 (k : Int)).2.2.1))))) (st' := [.int (iI ((sAt S.2.2.1 (k : Int)).2.2.1))]) kv_L_isBench_52 dL_isBench_348 rfl rfl (Nat.le_of_ble_eq_true rfl) (Nat.le_of_ble_eq_true rfl) (xb_rv hX) rfl rfl (c_X11_temperature_ok hGC hGT hGE hX hW hzk hsk) rfl (fun hk43 e9k43 => ?_)
                rw [show hk43 = h from e9k43]
                refine r_aload_n dL_isBench_351 0 rfl ?_
                refine r_aload_n dL_isBench_352 0 rfl ?_
                refine p_callV (As := []) (b := x) (rest := [.ref x, .int (iI ((sAt S.2.2.1 (k : Int)).2.2.1))]) (w := (some (.int (iI (grt dgS S.2.2.1.2))))) (st' := [.int (iI (grt dgS S.2.2.1.2)), .ref x, .int (iI ((sAt S.2.2.1 (k : Int)).2.2.1))]) kv_L_isBench_106 dL_isBench_353 rfl rfl (Nat.le_of_ble_eq_true rfl) (Nat.le_of_ble_eq_true rfl) (xb_rv hX) rfl rfl (c_X11_warmestSheet hGC hGT hGE hX hW) rfl (fun hk44 e9k44 => ?_)
                rw [show hk44 = h from e9k44]
                refine p_callV (As := [.int (iI (grt dgS S.2.2.1.2))]) (b := x) (rest := [.int (iI ((sAt S.2.2.1 (k : Int)).2.2.1))]) (w := (some (.int (iI ((sAt S.2.2.1 (grt dgS S.2.2.1.2)).2.2.1))))) (st' := [.int (iI ((sAt S.2.2.1 (grt dgS S.2.2.1.2)).2.2.1)), .int (iI ((sAt S.2.2.1 (k : Int)).2.2.1))]) kv_L_isBench_52 dL_isBench_356 rfl rfl (Nat.le_of_ble_eq_true rfl) (Nat.le_of_ble_eq_true rfl) (xb_rv hX) rfl rfl (c_X11_temperature_ok hGC hGT hGE hX hW (z := (grt dgS S.2.2.1.2)) (by unfold in32; omega) hsw) rfl (fun hk45 e9k45 => ?_)
                rw [show hk45 = h from e9k45]
                refine i_icmpgt dL_isBench_359 (tgt := 390) (by decide) (by unfold in32; omega) (by unfold in32; omega) (fun c => (by exfalso; omega)) (fun _ => ?_)
                refine r_iload_n dL_isBench_362 3 rfl ?_
                refine r_aload_n dL_isBench_363 0 rfl ?_
                refine r_aload_n dL_isBench_364 0 rfl ?_
                refine p_callV (As := []) (b := x) (rest := [.ref x, .int (iI (((sAt S.2.2.1 (k : Int)).1.length : Int)))]) (w := (some (.int (iI (grt lnS S.2.2.1.2))))) (st' := [.int (iI (grt lnS S.2.2.1.2)), .ref x, .int (iI (((sAt S.2.2.1 (k : Int)).1.length : Int)))]) kv_L_isBench_109 dL_isBench_365 rfl rfl (Nat.le_of_ble_eq_true rfl) (Nat.le_of_ble_eq_true rfl) (xb_rv hX) rfl rfl (c_X11_finestSheet hGC hGT hGE hX hW) rfl (fun hk46 e9k46 => ?_)
                rw [show hk46 = h from e9k46]
                refine p_callV (As := [.int (iI (grt lnS S.2.2.1.2))]) (b := x) (rest := [.int (iI (((sAt S.2.2.1 (k : Int)).1.length : Int)))]) (w := (some (.int (iI (((sAt S.2.2.1 (grt lnS S.2.2.1.2)).1.length : Int)))))) (st' := [.int (iI (((sAt S.2.2.1 (grt lnS S.2.2.1.2)).1.length : Int))), .int (iI (((sAt S.2.2.1 (k : Int)).1.length : Int)))]) kv_L_isBench_33 dL_isBench_368 rfl rfl (Nat.le_of_ble_eq_true rfl) (Nat.le_of_ble_eq_true rfl) (xb_rv hX) rfl rfl (c_X11_layerCount_ok hGC hGT hGE hX hW (z := (grt lnS S.2.2.1.2)) (by unfold in32; omega) hsf) rfl (fun hk47 e9k47 => ?_)
                rw [show hk47 = h from e9k47]
                refine i_icmpgt dL_isBench_371 (tgt := 390) (by decide) (by unfold in32; omega) (by unfold in32; omega) (fun c => (by exfalso; omega)) (fun _ => ?_)
                refine r_aload_n dL_isBench_374 0 rfl ?_
                refine r_iload_n dL_isBench_375 2 rfl ?_
                refine p_callV (As := [.int (iI ((k : Int)))]) (b := x) (rest := []) (w := (some (.float (FP.fdiv (FP.i2f (iI (hBut (sAt S.2.2.1 (k : Int)).1))) (FP.i2f (iI (hgt (sAt S.2.2.1 (k : Int)).1))))))) (st' := [.float (FP.fdiv (FP.i2f (iI (hBut (sAt S.2.2.1 (k : Int)).1))) (FP.i2f (iI (hgt (sAt S.2.2.1 (k : Int)).1))))]) kv_L_isBench_112 dL_isBench_376 rfl rfl (Nat.le_of_ble_eq_true rfl) (Nat.le_of_ble_eq_true rfl) (xb_rv hX) rfl rfl (c_X11_butterShare_ok hGC hGT hGE hX hW hzk hsk) rfl (fun hk48 e9k48 => ?_)
                rw [show hk48 = h from e9k48]
                refine r_iload dL_isBench_379 5 rfl ?_
                refine r_i2f dL_isBench_381 ?_
                refine r_iload dL_isBench_382 4 rfl ?_
                refine r_i2f dL_isBench_384 ?_
                refine r_fdiv dL_isBench_385 ((nanF _ _ (by omega) (by omega))) ?_
                refine r_fcmp dL_isBench_386 ?_
                rw [fcmp_self (nanF _ _ (by omega) (by omega)), show Op.cmpValue (some .eq) .l = iI 0 from rfl]
                refine i_ifeq dL_isBench_387 (tgt := 392) (by decide) ⟨by decide, by decide⟩ (fun _ => ?_) (fun c => absurd c (by decide))
                refine i_const (2) dL_isBench_392 ?_
                refine r_istore (ls' := [(0, .ref x), (1, .int (iI (cnt isC (S.2.2.1.2.take (k + 1))))), (2, .int (iI ((k : Int)))), (3, .int (iI (((sAt S.2.2.1 (k : Int)).1.length : Int)))), (4, .int (iI (hgt (sAt S.2.2.1 (k : Int)).1))), (5, .int (iI (hBut (sAt S.2.2.1 (k : Int)).1))), (6, .int (iI (nBut (sAt S.2.2.1 (k : Int)).1))), (7, .int (iI (sz ((sAt S.2.2.1 (k : Int)).1.getD (thinB (sAt S.2.2.1 (k : Int)).1 (sAt S.2.2.1 (k : Int)).1.length) 0)))), (8, .int (iI (sz ((sAt S.2.2.1 (k : Int)).1.getD (thickB (sAt S.2.2.1 (k : Int)).1 (sAt S.2.2.1 (k : Int)).1.length) 0)))), (9, .int (iI 0)), (10, .int (iI (sumF (escF (loss (sAt S.2.2.1 (k : Int)) S.2.2.1.1.2.1)) (sAt S.2.2.1 (k : Int)).1))), (11, .int (iI 2))]) dL_isBench_393 (by decide) rfl ?_
                exact L395 (0) 0 (by decide) 2 (by decide)
              · refine i_const (1) dL_isBench_294 ?_
                refine r_goto dL_isBench_295 (tgt := 299) (by decide) ?_
                refine r_aload_n dL_isBench_299 0 rfl ?_
                refine r_iload_n dL_isBench_300 2 rfl ?_
                refine p_callV (As := [.int (iI ((k : Int)))]) (b := x) (rest := [.int (iI 1)]) (w := (some (.int (iI ((sAt S.2.2.1 (k : Int)).2.2.1))))) (st' := [.int (iI ((sAt S.2.2.1 (k : Int)).2.2.1)), .int (iI 1)]) kv_L_isBench_52 dL_isBench_301 rfl rfl (Nat.le_of_ble_eq_true rfl) (Nat.le_of_ble_eq_true rfl) (xb_rv hX) rfl rfl (c_X11_temperature_ok hGC hGT hGE hX hW hzk hsk) rfl (fun hk49 e9k49 => ?_)
                rw [show hk49 = h from e9k49]
                refine r_aload_n dL_isBench_304 0 rfl ?_
                refine p_callV (As := []) (b := x) (rest := [.int (iI ((sAt S.2.2.1 (k : Int)).2.2.1)), .int (iI 1)]) (w := (some (.int (iI S.2.2.1.1.2.1)))) (st' := [.int (iI S.2.2.1.1.2.1), .int (iI ((sAt S.2.2.1 (k : Int)).2.2.1)), .int (iI 1)]) kv_L_isBench_82 dL_isBench_305 rfl rfl (Nat.le_of_ble_eq_true rfl) (Nat.le_of_ble_eq_true rfl) (xb_rv hX) rfl rfl (c_X11_meltingPoint hGC hGT hGE hX hW) rfl (fun hk50 e9k50 => ?_)
                rw [show hk50 = h from e9k50]
                refine i_icmpgt dL_isBench_308 (tgt := 315) (by decide) (by unfold in32; omega) (by unfold in32; omega) (fun c => (by exfalso; omega)) (fun _ => ?_)
                refine i_const (1) dL_isBench_311 ?_
                refine r_goto dL_isBench_312 (tgt := 316) (by decide) ?_
                refine i_icmpne dL_isBench_316 (tgt := 344) (by decide) ⟨by decide, by decide⟩ ⟨by decide, by decide⟩ (fun c => absurd c (by decide)) (fun _ => ?_)
                refine r_aload_n dL_isBench_319 0 rfl ?_
                refine r_iload_n dL_isBench_320 2 rfl ?_
                refine i_const (0) dL_isBench_321 ?_
                refine p_callV (As := [.int (iI ((k : Int))), .int (iI 0)]) (b := x) (rest := []) (w := (some (.int (iI (warmAt (sAt S.2.2.1 (k : Int)) S.2.2.1.1.1 0))))) (st' := [.int (iI (warmAt (sAt S.2.2.1 (k : Int)) S.2.2.1.1.1 0))]) kv_L_isBench_100 dL_isBench_322 rfl rfl (Nat.le_of_ble_eq_true rfl) (Nat.le_of_ble_eq_true rfl) (xb_rv hX) rfl rfl (c_X11_temperatureAfter_ok hGC hGT hGE hX hW hzk hsk (q := 0) (by decide)) rfl (fun hk51 e9k51 => ?_)
                rw [show hk51 = h from e9k51]
                refine r_aload_n dL_isBench_325 0 rfl ?_
                refine r_iload_n dL_isBench_326 2 rfl ?_
                refine p_callV (As := [.int (iI ((k : Int)))]) (b := x) (rest := [.int (iI (warmAt (sAt S.2.2.1 (k : Int)) S.2.2.1.1.1 0))]) (w := (some (.int (iI ((sAt S.2.2.1 (k : Int)).2.2.1))))) (st' := [.int (iI ((sAt S.2.2.1 (k : Int)).2.2.1)), .int (iI (warmAt (sAt S.2.2.1 (k : Int)) S.2.2.1.1.1 0))]) kv_L_isBench_52 dL_isBench_327 rfl rfl (Nat.le_of_ble_eq_true rfl) (Nat.le_of_ble_eq_true rfl) (xb_rv hX) rfl rfl (c_X11_temperature_ok hGC hGT hGE hX hW hzk hsk) rfl (fun hk52 e9k52 => ?_)
                rw [show hk52 = h from e9k52]
                have hwa : warmAt (sAt S.2.2.1 (k : Int)) S.2.2.1.1.1 0 = (sAt S.2.2.1 (k : Int)).2.2.1 := rfl
                refine i_icmpne dL_isBench_330 (tgt := 344) (by decide) (by unfold in32; omega) (by unfold in32; omega) (fun c => (by exfalso; omega)) (fun _ => ?_)
                have hse := seams_le2 hS1
                refine r_aload_n dL_isBench_333 0 rfl ?_
                refine r_iload_n dL_isBench_334 2 rfl ?_
                refine p_callV (As := [.int (iI ((k : Int)))]) (b := x) (rest := []) (w := (some (.int (iI (seams (sAt S.2.2.1 (k : Int)).1 (sAt S.2.2.1 (k : Int)).1.length))))) (st' := [.int (iI (seams (sAt S.2.2.1 (k : Int)).1 (sAt S.2.2.1 (k : Int)).1.length))]) kv_L_isBench_103 dL_isBench_335 rfl rfl (Nat.le_of_ble_eq_true rfl) (Nat.le_of_ble_eq_true rfl) (xb_rv hX) rfl rfl (c_X11_seamCount_ok hGC hGT hGE hX hW hzk hsk) rfl (fun hk53 e9k53 => ?_)
                rw [show hk53 = h from e9k53]
                refine r_iload_n dL_isBench_338 3 rfl ?_
                refine i_const (1) dL_isBench_339 ?_
                refine i_sub dL_isBench_340 ?_
                refine i_icmple dL_isBench_341 (tgt := 346) (by decide) (by unfold in32; omega) (by unfold in32; omega) (fun _ => ?_) (fun c => (by exfalso; omega))
                have hgw := grt_b (f := dgS) hn1
                have hgf := grt_b (f := lnS) hn1
                have hsw : hasS S.2.2.1 (grt dgS S.2.2.1.2) = true := by unfold hasS; simp; omega
                have hsf : hasS S.2.2.1 (grt lnS S.2.2.1.2) = true := by unfold hasS; simp; omega
                have hmx : (sAt S.2.2.1 (k : Int)).2.2.1 ≤ (sAt S.2.2.1 (grt dgS S.2.2.1.2)).2.2.1 := grt_max dgS (by omega)
                have hmf : ((sAt S.2.2.1 (k : Int)).1.length : Int) ≤ ((sAt S.2.2.1 (grt lnS S.2.2.1.2)).1.length : Int) := grt_max lnS (by omega)
                have hw2 := (hWB.at hsw).2.2.2
                have hf2 : (sAt S.2.2.1 (grt lnS S.2.2.1.2)).1.length ≤ 200 := hlen.2 _ (getD_memS (hasS_n hsf).1)
                refine r_aload_n dL_isBench_346 0 rfl ?_
                refine r_iload_n dL_isBench_347 2 rfl ?_
                refine p_callV (As := [.int (iI ((k : Int)))]) (b := x) (rest := []) (w := (some (.int (iI ((sAt S.2.2.1 (k : Int)).2.2.1))))) (st' := [.int (iI ((sAt S.2.2.1 (k : Int)).2.2.1))]) kv_L_isBench_52 dL_isBench_348 rfl rfl (Nat.le_of_ble_eq_true rfl) (Nat.le_of_ble_eq_true rfl) (xb_rv hX) rfl rfl (c_X11_temperature_ok hGC hGT hGE hX hW hzk hsk) rfl (fun hk54 e9k54 => ?_)
                rw [show hk54 = h from e9k54]
                refine r_aload_n dL_isBench_351 0 rfl ?_
                refine r_aload_n dL_isBench_352 0 rfl ?_
                refine p_callV (As := []) (b := x) (rest := [.ref x, .int (iI ((sAt S.2.2.1 (k : Int)).2.2.1))]) (w := (some (.int (iI (grt dgS S.2.2.1.2))))) (st' := [.int (iI (grt dgS S.2.2.1.2)), .ref x, .int (iI ((sAt S.2.2.1 (k : Int)).2.2.1))]) kv_L_isBench_106 dL_isBench_353 rfl rfl (Nat.le_of_ble_eq_true rfl) (Nat.le_of_ble_eq_true rfl) (xb_rv hX) rfl rfl (c_X11_warmestSheet hGC hGT hGE hX hW) rfl (fun hk55 e9k55 => ?_)
                rw [show hk55 = h from e9k55]
                refine p_callV (As := [.int (iI (grt dgS S.2.2.1.2))]) (b := x) (rest := [.int (iI ((sAt S.2.2.1 (k : Int)).2.2.1))]) (w := (some (.int (iI ((sAt S.2.2.1 (grt dgS S.2.2.1.2)).2.2.1))))) (st' := [.int (iI ((sAt S.2.2.1 (grt dgS S.2.2.1.2)).2.2.1)), .int (iI ((sAt S.2.2.1 (k : Int)).2.2.1))]) kv_L_isBench_52 dL_isBench_356 rfl rfl (Nat.le_of_ble_eq_true rfl) (Nat.le_of_ble_eq_true rfl) (xb_rv hX) rfl rfl (c_X11_temperature_ok hGC hGT hGE hX hW (z := (grt dgS S.2.2.1.2)) (by unfold in32; omega) hsw) rfl (fun hk56 e9k56 => ?_)
                rw [show hk56 = h from e9k56]
                refine i_icmpgt dL_isBench_359 (tgt := 390) (by decide) (by unfold in32; omega) (by unfold in32; omega) (fun c => (by exfalso; omega)) (fun _ => ?_)
                refine r_iload_n dL_isBench_362 3 rfl ?_
                refine r_aload_n dL_isBench_363 0 rfl ?_
                refine r_aload_n dL_isBench_364 0 rfl ?_
                refine p_callV (As := []) (b := x) (rest := [.ref x, .int (iI (((sAt S.2.2.1 (k : Int)).1.length : Int)))]) (w := (some (.int (iI (grt lnS S.2.2.1.2))))) (st' := [.int (iI (grt lnS S.2.2.1.2)), .ref x, .int (iI (((sAt S.2.2.1 (k : Int)).1.length : Int)))]) kv_L_isBench_109 dL_isBench_365 rfl rfl (Nat.le_of_ble_eq_true rfl) (Nat.le_of_ble_eq_true rfl) (xb_rv hX) rfl rfl (c_X11_finestSheet hGC hGT hGE hX hW) rfl (fun hk57 e9k57 => ?_)
                rw [show hk57 = h from e9k57]
                refine p_callV (As := [.int (iI (grt lnS S.2.2.1.2))]) (b := x) (rest := [.int (iI (((sAt S.2.2.1 (k : Int)).1.length : Int)))]) (w := (some (.int (iI (((sAt S.2.2.1 (grt lnS S.2.2.1.2)).1.length : Int)))))) (st' := [.int (iI (((sAt S.2.2.1 (grt lnS S.2.2.1.2)).1.length : Int))), .int (iI (((sAt S.2.2.1 (k : Int)).1.length : Int)))]) kv_L_isBench_33 dL_isBench_368 rfl rfl (Nat.le_of_ble_eq_true rfl) (Nat.le_of_ble_eq_true rfl) (xb_rv hX) rfl rfl (c_X11_layerCount_ok hGC hGT hGE hX hW (z := (grt lnS S.2.2.1.2)) (by unfold in32; omega) hsf) rfl (fun hk58 e9k58 => ?_)
                rw [show hk58 = h from e9k58]
                refine i_icmpgt dL_isBench_371 (tgt := 390) (by decide) (by unfold in32; omega) (by unfold in32; omega) (fun c => (by exfalso; omega)) (fun _ => ?_)
                refine r_aload_n dL_isBench_374 0 rfl ?_
                refine r_iload_n dL_isBench_375 2 rfl ?_
                refine p_callV (As := [.int (iI ((k : Int)))]) (b := x) (rest := []) (w := (some (.float (FP.fdiv (FP.i2f (iI (hBut (sAt S.2.2.1 (k : Int)).1))) (FP.i2f (iI (hgt (sAt S.2.2.1 (k : Int)).1))))))) (st' := [.float (FP.fdiv (FP.i2f (iI (hBut (sAt S.2.2.1 (k : Int)).1))) (FP.i2f (iI (hgt (sAt S.2.2.1 (k : Int)).1))))]) kv_L_isBench_112 dL_isBench_376 rfl rfl (Nat.le_of_ble_eq_true rfl) (Nat.le_of_ble_eq_true rfl) (xb_rv hX) rfl rfl (c_X11_butterShare_ok hGC hGT hGE hX hW hzk hsk) rfl (fun hk59 e9k59 => ?_)
                rw [show hk59 = h from e9k59]
                refine r_iload dL_isBench_379 5 rfl ?_
                refine r_i2f dL_isBench_381 ?_
                refine r_iload dL_isBench_382 4 rfl ?_
                refine r_i2f dL_isBench_384 ?_
                refine r_fdiv dL_isBench_385 ((nanF _ _ (by omega) (by omega))) ?_
                refine r_fcmp dL_isBench_386 ?_
                rw [fcmp_self (nanF _ _ (by omega) (by omega)), show Op.cmpValue (some .eq) .l = iI 0 from rfl]
                refine i_ifeq dL_isBench_387 (tgt := 392) (by decide) ⟨by decide, by decide⟩ (fun _ => ?_) (fun c => absurd c (by decide))
                refine i_const (2) dL_isBench_392 ?_
                refine r_istore (ls' := [(0, .ref x), (1, .int (iI (cnt isC (S.2.2.1.2.take (k + 1))))), (2, .int (iI ((k : Int)))), (3, .int (iI (((sAt S.2.2.1 (k : Int)).1.length : Int)))), (4, .int (iI (hgt (sAt S.2.2.1 (k : Int)).1))), (5, .int (iI (hBut (sAt S.2.2.1 (k : Int)).1))), (6, .int (iI (nBut (sAt S.2.2.1 (k : Int)).1))), (7, .int (iI (sz ((sAt S.2.2.1 (k : Int)).1.getD (thinB (sAt S.2.2.1 (k : Int)).1 (sAt S.2.2.1 (k : Int)).1.length) 0)))), (8, .int (iI (sz ((sAt S.2.2.1 (k : Int)).1.getD (thickB (sAt S.2.2.1 (k : Int)).1 (sAt S.2.2.1 (k : Int)).1.length) 0)))), (9, .int (iI 0)), (10, .int (iI (sumF (escF (loss (sAt S.2.2.1 (k : Int)) S.2.2.1.1.2.1)) (sAt S.2.2.1 (k : Int)).1))), (11, .int (iI 2))]) dL_isBench_393 (by decide) rfl ?_
                exact L395 (0) 0 (by decide) 2 (by decide)
            · refine r_iload dL_isBench_281 10 rfl ?_
              refine i_ifeq dL_isBench_283 (tgt := 344) (by decide) (by unfold in32; omega) (fun c => (by exfalso; omega)) (fun _ => ?_)
              have hs0 : safeH S.2.2.1.1.2.1 40 (sAt S.2.2.1 (k : Int)).2.2.1 = 0 ↔ (sAt S.2.2.1 (k : Int)).2.2.1 ≤ S.2.2.1.1.2.1 := safe_0 S.2.2.1.1.2.1 39 (sAt S.2.2.1 (k : Int)).2.2.1
              have hsb := safe_b S.2.2.1.1.2.1 40 (sAt S.2.2.1 (k : Int)).2.2.1
              refine r_aload_n dL_isBench_286 0 rfl ?_
              refine r_iload_n dL_isBench_287 2 rfl ?_
              refine p_callV (As := [.int (iI ((k : Int)))]) (b := x) (rest := []) (w := (some (.int (iI (safeH S.2.2.1.1.2.1 40 (sAt S.2.2.1 (k : Int)).2.2.1))))) (st' := [.int (iI (safeH S.2.2.1.1.2.1 40 (sAt S.2.2.1 (k : Int)).2.2.1))]) kv_L_isBench_97 dL_isBench_288 rfl rfl (Nat.le_of_ble_eq_true rfl) (Nat.le_of_ble_eq_true rfl) (xb_rv hX) rfl rfl (c_X11_hoursToSafety_ok hGC hGT hGE hX hW hzk hsk) rfl (fun hk60 e9k60 => ?_)
              rw [show hk60 = h from e9k60]
              refine i_ifne dL_isBench_291 (tgt := 298) (by decide) (by unfold in32; omega) (fun c291 => ?_) (fun c291 => ?_)
              · refine i_const (0) dL_isBench_298 ?_
                refine r_aload_n dL_isBench_299 0 rfl ?_
                refine r_iload_n dL_isBench_300 2 rfl ?_
                refine p_callV (As := [.int (iI ((k : Int)))]) (b := x) (rest := [.int (iI 0)]) (w := (some (.int (iI ((sAt S.2.2.1 (k : Int)).2.2.1))))) (st' := [.int (iI ((sAt S.2.2.1 (k : Int)).2.2.1)), .int (iI 0)]) kv_L_isBench_52 dL_isBench_301 rfl rfl (Nat.le_of_ble_eq_true rfl) (Nat.le_of_ble_eq_true rfl) (xb_rv hX) rfl rfl (c_X11_temperature_ok hGC hGT hGE hX hW hzk hsk) rfl (fun hk61 e9k61 => ?_)
                rw [show hk61 = h from e9k61]
                refine r_aload_n dL_isBench_304 0 rfl ?_
                refine p_callV (As := []) (b := x) (rest := [.int (iI ((sAt S.2.2.1 (k : Int)).2.2.1)), .int (iI 0)]) (w := (some (.int (iI S.2.2.1.1.2.1)))) (st' := [.int (iI S.2.2.1.1.2.1), .int (iI ((sAt S.2.2.1 (k : Int)).2.2.1)), .int (iI 0)]) kv_L_isBench_82 dL_isBench_305 rfl rfl (Nat.le_of_ble_eq_true rfl) (Nat.le_of_ble_eq_true rfl) (xb_rv hX) rfl rfl (c_X11_meltingPoint hGC hGT hGE hX hW) rfl (fun hk62 e9k62 => ?_)
                rw [show hk62 = h from e9k62]
                refine i_icmpgt dL_isBench_308 (tgt := 315) (by decide) (by unfold in32; omega) (by unfold in32; omega) (fun _ => ?_) (fun c => (by exfalso; omega))
                refine i_const (0) dL_isBench_315 ?_
                refine i_icmpne dL_isBench_316 (tgt := 344) (by decide) ⟨by decide, by decide⟩ ⟨by decide, by decide⟩ (fun c => absurd c (by decide)) (fun _ => ?_)
                refine r_aload_n dL_isBench_319 0 rfl ?_
                refine r_iload_n dL_isBench_320 2 rfl ?_
                refine i_const (0) dL_isBench_321 ?_
                refine p_callV (As := [.int (iI ((k : Int))), .int (iI 0)]) (b := x) (rest := []) (w := (some (.int (iI (warmAt (sAt S.2.2.1 (k : Int)) S.2.2.1.1.1 0))))) (st' := [.int (iI (warmAt (sAt S.2.2.1 (k : Int)) S.2.2.1.1.1 0))]) kv_L_isBench_100 dL_isBench_322 rfl rfl (Nat.le_of_ble_eq_true rfl) (Nat.le_of_ble_eq_true rfl) (xb_rv hX) rfl rfl (c_X11_temperatureAfter_ok hGC hGT hGE hX hW hzk hsk (q := 0) (by decide)) rfl (fun hk63 e9k63 => ?_)
                rw [show hk63 = h from e9k63]
                refine r_aload_n dL_isBench_325 0 rfl ?_
                refine r_iload_n dL_isBench_326 2 rfl ?_
                refine p_callV (As := [.int (iI ((k : Int)))]) (b := x) (rest := [.int (iI (warmAt (sAt S.2.2.1 (k : Int)) S.2.2.1.1.1 0))]) (w := (some (.int (iI ((sAt S.2.2.1 (k : Int)).2.2.1))))) (st' := [.int (iI ((sAt S.2.2.1 (k : Int)).2.2.1)), .int (iI (warmAt (sAt S.2.2.1 (k : Int)) S.2.2.1.1.1 0))]) kv_L_isBench_52 dL_isBench_327 rfl rfl (Nat.le_of_ble_eq_true rfl) (Nat.le_of_ble_eq_true rfl) (xb_rv hX) rfl rfl (c_X11_temperature_ok hGC hGT hGE hX hW hzk hsk) rfl (fun hk64 e9k64 => ?_)
                rw [show hk64 = h from e9k64]
                have hwa : warmAt (sAt S.2.2.1 (k : Int)) S.2.2.1.1.1 0 = (sAt S.2.2.1 (k : Int)).2.2.1 := rfl
                refine i_icmpne dL_isBench_330 (tgt := 344) (by decide) (by unfold in32; omega) (by unfold in32; omega) (fun c => (by exfalso; omega)) (fun _ => ?_)
                have hse := seams_le2 hS1
                refine r_aload_n dL_isBench_333 0 rfl ?_
                refine r_iload_n dL_isBench_334 2 rfl ?_
                refine p_callV (As := [.int (iI ((k : Int)))]) (b := x) (rest := []) (w := (some (.int (iI (seams (sAt S.2.2.1 (k : Int)).1 (sAt S.2.2.1 (k : Int)).1.length))))) (st' := [.int (iI (seams (sAt S.2.2.1 (k : Int)).1 (sAt S.2.2.1 (k : Int)).1.length))]) kv_L_isBench_103 dL_isBench_335 rfl rfl (Nat.le_of_ble_eq_true rfl) (Nat.le_of_ble_eq_true rfl) (xb_rv hX) rfl rfl (c_X11_seamCount_ok hGC hGT hGE hX hW hzk hsk) rfl (fun hk65 e9k65 => ?_)
                rw [show hk65 = h from e9k65]
                refine r_iload_n dL_isBench_338 3 rfl ?_
                refine i_const (1) dL_isBench_339 ?_
                refine i_sub dL_isBench_340 ?_
                refine i_icmple dL_isBench_341 (tgt := 346) (by decide) (by unfold in32; omega) (by unfold in32; omega) (fun _ => ?_) (fun c => (by exfalso; omega))
                have hgw := grt_b (f := dgS) hn1
                have hgf := grt_b (f := lnS) hn1
                have hsw : hasS S.2.2.1 (grt dgS S.2.2.1.2) = true := by unfold hasS; simp; omega
                have hsf : hasS S.2.2.1 (grt lnS S.2.2.1.2) = true := by unfold hasS; simp; omega
                have hmx : (sAt S.2.2.1 (k : Int)).2.2.1 ≤ (sAt S.2.2.1 (grt dgS S.2.2.1.2)).2.2.1 := grt_max dgS (by omega)
                have hmf : ((sAt S.2.2.1 (k : Int)).1.length : Int) ≤ ((sAt S.2.2.1 (grt lnS S.2.2.1.2)).1.length : Int) := grt_max lnS (by omega)
                have hw2 := (hWB.at hsw).2.2.2
                have hf2 : (sAt S.2.2.1 (grt lnS S.2.2.1.2)).1.length ≤ 200 := hlen.2 _ (getD_memS (hasS_n hsf).1)
                refine r_aload_n dL_isBench_346 0 rfl ?_
                refine r_iload_n dL_isBench_347 2 rfl ?_
                refine p_callV (As := [.int (iI ((k : Int)))]) (b := x) (rest := []) (w := (some (.int (iI ((sAt S.2.2.1 (k : Int)).2.2.1))))) (st' := [.int (iI ((sAt S.2.2.1 (k : Int)).2.2.1))]) kv_L_isBench_52 dL_isBench_348 rfl rfl (Nat.le_of_ble_eq_true rfl) (Nat.le_of_ble_eq_true rfl) (xb_rv hX) rfl rfl (c_X11_temperature_ok hGC hGT hGE hX hW hzk hsk) rfl (fun hk66 e9k66 => ?_)
                rw [show hk66 = h from e9k66]
                refine r_aload_n dL_isBench_351 0 rfl ?_
                refine r_aload_n dL_isBench_352 0 rfl ?_
                refine p_callV (As := []) (b := x) (rest := [.ref x, .int (iI ((sAt S.2.2.1 (k : Int)).2.2.1))]) (w := (some (.int (iI (grt dgS S.2.2.1.2))))) (st' := [.int (iI (grt dgS S.2.2.1.2)), .ref x, .int (iI ((sAt S.2.2.1 (k : Int)).2.2.1))]) kv_L_isBench_106 dL_isBench_353 rfl rfl (Nat.le_of_ble_eq_true rfl) (Nat.le_of_ble_eq_true rfl) (xb_rv hX) rfl rfl (c_X11_warmestSheet hGC hGT hGE hX hW) rfl (fun hk67 e9k67 => ?_)
                rw [show hk67 = h from e9k67]
                refine p_callV (As := [.int (iI (grt dgS S.2.2.1.2))]) (b := x) (rest := [.int (iI ((sAt S.2.2.1 (k : Int)).2.2.1))]) (w := (some (.int (iI ((sAt S.2.2.1 (grt dgS S.2.2.1.2)).2.2.1))))) (st' := [.int (iI ((sAt S.2.2.1 (grt dgS S.2.2.1.2)).2.2.1)), .int (iI ((sAt S.2.2.1 (k : Int)).2.2.1))]) kv_L_isBench_52 dL_isBench_356 rfl rfl (Nat.le_of_ble_eq_true rfl) (Nat.le_of_ble_eq_true rfl) (xb_rv hX) rfl rfl (c_X11_temperature_ok hGC hGT hGE hX hW (z := (grt dgS S.2.2.1.2)) (by unfold in32; omega) hsw) rfl (fun hk68 e9k68 => ?_)
                rw [show hk68 = h from e9k68]
                refine i_icmpgt dL_isBench_359 (tgt := 390) (by decide) (by unfold in32; omega) (by unfold in32; omega) (fun c => (by exfalso; omega)) (fun _ => ?_)
                refine r_iload_n dL_isBench_362 3 rfl ?_
                refine r_aload_n dL_isBench_363 0 rfl ?_
                refine r_aload_n dL_isBench_364 0 rfl ?_
                refine p_callV (As := []) (b := x) (rest := [.ref x, .int (iI (((sAt S.2.2.1 (k : Int)).1.length : Int)))]) (w := (some (.int (iI (grt lnS S.2.2.1.2))))) (st' := [.int (iI (grt lnS S.2.2.1.2)), .ref x, .int (iI (((sAt S.2.2.1 (k : Int)).1.length : Int)))]) kv_L_isBench_109 dL_isBench_365 rfl rfl (Nat.le_of_ble_eq_true rfl) (Nat.le_of_ble_eq_true rfl) (xb_rv hX) rfl rfl (c_X11_finestSheet hGC hGT hGE hX hW) rfl (fun hk69 e9k69 => ?_)
                rw [show hk69 = h from e9k69]
                refine p_callV (As := [.int (iI (grt lnS S.2.2.1.2))]) (b := x) (rest := [.int (iI (((sAt S.2.2.1 (k : Int)).1.length : Int)))]) (w := (some (.int (iI (((sAt S.2.2.1 (grt lnS S.2.2.1.2)).1.length : Int)))))) (st' := [.int (iI (((sAt S.2.2.1 (grt lnS S.2.2.1.2)).1.length : Int))), .int (iI (((sAt S.2.2.1 (k : Int)).1.length : Int)))]) kv_L_isBench_33 dL_isBench_368 rfl rfl (Nat.le_of_ble_eq_true rfl) (Nat.le_of_ble_eq_true rfl) (xb_rv hX) rfl rfl (c_X11_layerCount_ok hGC hGT hGE hX hW (z := (grt lnS S.2.2.1.2)) (by unfold in32; omega) hsf) rfl (fun hk70 e9k70 => ?_)
                rw [show hk70 = h from e9k70]
                refine i_icmpgt dL_isBench_371 (tgt := 390) (by decide) (by unfold in32; omega) (by unfold in32; omega) (fun c => (by exfalso; omega)) (fun _ => ?_)
                refine r_aload_n dL_isBench_374 0 rfl ?_
                refine r_iload_n dL_isBench_375 2 rfl ?_
                refine p_callV (As := [.int (iI ((k : Int)))]) (b := x) (rest := []) (w := (some (.float (FP.fdiv (FP.i2f (iI (hBut (sAt S.2.2.1 (k : Int)).1))) (FP.i2f (iI (hgt (sAt S.2.2.1 (k : Int)).1))))))) (st' := [.float (FP.fdiv (FP.i2f (iI (hBut (sAt S.2.2.1 (k : Int)).1))) (FP.i2f (iI (hgt (sAt S.2.2.1 (k : Int)).1))))]) kv_L_isBench_112 dL_isBench_376 rfl rfl (Nat.le_of_ble_eq_true rfl) (Nat.le_of_ble_eq_true rfl) (xb_rv hX) rfl rfl (c_X11_butterShare_ok hGC hGT hGE hX hW hzk hsk) rfl (fun hk71 e9k71 => ?_)
                rw [show hk71 = h from e9k71]
                refine r_iload dL_isBench_379 5 rfl ?_
                refine r_i2f dL_isBench_381 ?_
                refine r_iload dL_isBench_382 4 rfl ?_
                refine r_i2f dL_isBench_384 ?_
                refine r_fdiv dL_isBench_385 ((nanF _ _ (by omega) (by omega))) ?_
                refine r_fcmp dL_isBench_386 ?_
                rw [fcmp_self (nanF _ _ (by omega) (by omega)), show Op.cmpValue (some .eq) .l = iI 0 from rfl]
                refine i_ifeq dL_isBench_387 (tgt := 392) (by decide) ⟨by decide, by decide⟩ (fun _ => ?_) (fun c => absurd c (by decide))
                refine i_const (2) dL_isBench_392 ?_
                refine r_istore (ls' := [(0, .ref x), (1, .int (iI (cnt isC (S.2.2.1.2.take (k + 1))))), (2, .int (iI ((k : Int)))), (3, .int (iI (((sAt S.2.2.1 (k : Int)).1.length : Int)))), (4, .int (iI (hgt (sAt S.2.2.1 (k : Int)).1))), (5, .int (iI (hBut (sAt S.2.2.1 (k : Int)).1))), (6, .int (iI (nBut (sAt S.2.2.1 (k : Int)).1))), (7, .int (iI (sz ((sAt S.2.2.1 (k : Int)).1.getD (thinB (sAt S.2.2.1 (k : Int)).1 (sAt S.2.2.1 (k : Int)).1.length) 0)))), (8, .int (iI (sz ((sAt S.2.2.1 (k : Int)).1.getD (thickB (sAt S.2.2.1 (k : Int)).1 (sAt S.2.2.1 (k : Int)).1.length) 0)))), (9, .int (iI 0)), (10, .int (iI (sumF (escF (loss (sAt S.2.2.1 (k : Int)) S.2.2.1.1.2.1)) (sAt S.2.2.1 (k : Int)).1))), (11, .int (iI 2))]) dL_isBench_393 (by decide) rfl ?_
                exact L395 (0) 0 (by decide) 2 (by decide)
              · refine i_const (1) dL_isBench_294 ?_
                refine r_goto dL_isBench_295 (tgt := 299) (by decide) ?_
                refine r_aload_n dL_isBench_299 0 rfl ?_
                refine r_iload_n dL_isBench_300 2 rfl ?_
                refine p_callV (As := [.int (iI ((k : Int)))]) (b := x) (rest := [.int (iI 1)]) (w := (some (.int (iI ((sAt S.2.2.1 (k : Int)).2.2.1))))) (st' := [.int (iI ((sAt S.2.2.1 (k : Int)).2.2.1)), .int (iI 1)]) kv_L_isBench_52 dL_isBench_301 rfl rfl (Nat.le_of_ble_eq_true rfl) (Nat.le_of_ble_eq_true rfl) (xb_rv hX) rfl rfl (c_X11_temperature_ok hGC hGT hGE hX hW hzk hsk) rfl (fun hk72 e9k72 => ?_)
                rw [show hk72 = h from e9k72]
                refine r_aload_n dL_isBench_304 0 rfl ?_
                refine p_callV (As := []) (b := x) (rest := [.int (iI ((sAt S.2.2.1 (k : Int)).2.2.1)), .int (iI 1)]) (w := (some (.int (iI S.2.2.1.1.2.1)))) (st' := [.int (iI S.2.2.1.1.2.1), .int (iI ((sAt S.2.2.1 (k : Int)).2.2.1)), .int (iI 1)]) kv_L_isBench_82 dL_isBench_305 rfl rfl (Nat.le_of_ble_eq_true rfl) (Nat.le_of_ble_eq_true rfl) (xb_rv hX) rfl rfl (c_X11_meltingPoint hGC hGT hGE hX hW) rfl (fun hk73 e9k73 => ?_)
                rw [show hk73 = h from e9k73]
                refine i_icmpgt dL_isBench_308 (tgt := 315) (by decide) (by unfold in32; omega) (by unfold in32; omega) (fun c => (by exfalso; omega)) (fun _ => ?_)
                refine i_const (1) dL_isBench_311 ?_
                refine r_goto dL_isBench_312 (tgt := 316) (by decide) ?_
                refine i_icmpne dL_isBench_316 (tgt := 344) (by decide) ⟨by decide, by decide⟩ ⟨by decide, by decide⟩ (fun c => absurd c (by decide)) (fun _ => ?_)
                refine r_aload_n dL_isBench_319 0 rfl ?_
                refine r_iload_n dL_isBench_320 2 rfl ?_
                refine i_const (0) dL_isBench_321 ?_
                refine p_callV (As := [.int (iI ((k : Int))), .int (iI 0)]) (b := x) (rest := []) (w := (some (.int (iI (warmAt (sAt S.2.2.1 (k : Int)) S.2.2.1.1.1 0))))) (st' := [.int (iI (warmAt (sAt S.2.2.1 (k : Int)) S.2.2.1.1.1 0))]) kv_L_isBench_100 dL_isBench_322 rfl rfl (Nat.le_of_ble_eq_true rfl) (Nat.le_of_ble_eq_true rfl) (xb_rv hX) rfl rfl (c_X11_temperatureAfter_ok hGC hGT hGE hX hW hzk hsk (q := 0) (by decide)) rfl (fun hk74 e9k74 => ?_)
                rw [show hk74 = h from e9k74]
                refine r_aload_n dL_isBench_325 0 rfl ?_
                refine r_iload_n dL_isBench_326 2 rfl ?_
                refine p_callV (As := [.int (iI ((k : Int)))]) (b := x) (rest := [.int (iI (warmAt (sAt S.2.2.1 (k : Int)) S.2.2.1.1.1 0))]) (w := (some (.int (iI ((sAt S.2.2.1 (k : Int)).2.2.1))))) (st' := [.int (iI ((sAt S.2.2.1 (k : Int)).2.2.1)), .int (iI (warmAt (sAt S.2.2.1 (k : Int)) S.2.2.1.1.1 0))]) kv_L_isBench_52 dL_isBench_327 rfl rfl (Nat.le_of_ble_eq_true rfl) (Nat.le_of_ble_eq_true rfl) (xb_rv hX) rfl rfl (c_X11_temperature_ok hGC hGT hGE hX hW hzk hsk) rfl (fun hk75 e9k75 => ?_)
                rw [show hk75 = h from e9k75]
                have hwa : warmAt (sAt S.2.2.1 (k : Int)) S.2.2.1.1.1 0 = (sAt S.2.2.1 (k : Int)).2.2.1 := rfl
                refine i_icmpne dL_isBench_330 (tgt := 344) (by decide) (by unfold in32; omega) (by unfold in32; omega) (fun c => (by exfalso; omega)) (fun _ => ?_)
                have hse := seams_le2 hS1
                refine r_aload_n dL_isBench_333 0 rfl ?_
                refine r_iload_n dL_isBench_334 2 rfl ?_
                refine p_callV (As := [.int (iI ((k : Int)))]) (b := x) (rest := []) (w := (some (.int (iI (seams (sAt S.2.2.1 (k : Int)).1 (sAt S.2.2.1 (k : Int)).1.length))))) (st' := [.int (iI (seams (sAt S.2.2.1 (k : Int)).1 (sAt S.2.2.1 (k : Int)).1.length))]) kv_L_isBench_103 dL_isBench_335 rfl rfl (Nat.le_of_ble_eq_true rfl) (Nat.le_of_ble_eq_true rfl) (xb_rv hX) rfl rfl (c_X11_seamCount_ok hGC hGT hGE hX hW hzk hsk) rfl (fun hk76 e9k76 => ?_)
                rw [show hk76 = h from e9k76]
                refine r_iload_n dL_isBench_338 3 rfl ?_
                refine i_const (1) dL_isBench_339 ?_
                refine i_sub dL_isBench_340 ?_
                refine i_icmple dL_isBench_341 (tgt := 346) (by decide) (by unfold in32; omega) (by unfold in32; omega) (fun _ => ?_) (fun c => (by exfalso; omega))
                have hgw := grt_b (f := dgS) hn1
                have hgf := grt_b (f := lnS) hn1
                have hsw : hasS S.2.2.1 (grt dgS S.2.2.1.2) = true := by unfold hasS; simp; omega
                have hsf : hasS S.2.2.1 (grt lnS S.2.2.1.2) = true := by unfold hasS; simp; omega
                have hmx : (sAt S.2.2.1 (k : Int)).2.2.1 ≤ (sAt S.2.2.1 (grt dgS S.2.2.1.2)).2.2.1 := grt_max dgS (by omega)
                have hmf : ((sAt S.2.2.1 (k : Int)).1.length : Int) ≤ ((sAt S.2.2.1 (grt lnS S.2.2.1.2)).1.length : Int) := grt_max lnS (by omega)
                have hw2 := (hWB.at hsw).2.2.2
                have hf2 : (sAt S.2.2.1 (grt lnS S.2.2.1.2)).1.length ≤ 200 := hlen.2 _ (getD_memS (hasS_n hsf).1)
                refine r_aload_n dL_isBench_346 0 rfl ?_
                refine r_iload_n dL_isBench_347 2 rfl ?_
                refine p_callV (As := [.int (iI ((k : Int)))]) (b := x) (rest := []) (w := (some (.int (iI ((sAt S.2.2.1 (k : Int)).2.2.1))))) (st' := [.int (iI ((sAt S.2.2.1 (k : Int)).2.2.1))]) kv_L_isBench_52 dL_isBench_348 rfl rfl (Nat.le_of_ble_eq_true rfl) (Nat.le_of_ble_eq_true rfl) (xb_rv hX) rfl rfl (c_X11_temperature_ok hGC hGT hGE hX hW hzk hsk) rfl (fun hk77 e9k77 => ?_)
                rw [show hk77 = h from e9k77]
                refine r_aload_n dL_isBench_351 0 rfl ?_
                refine r_aload_n dL_isBench_352 0 rfl ?_
                refine p_callV (As := []) (b := x) (rest := [.ref x, .int (iI ((sAt S.2.2.1 (k : Int)).2.2.1))]) (w := (some (.int (iI (grt dgS S.2.2.1.2))))) (st' := [.int (iI (grt dgS S.2.2.1.2)), .ref x, .int (iI ((sAt S.2.2.1 (k : Int)).2.2.1))]) kv_L_isBench_106 dL_isBench_353 rfl rfl (Nat.le_of_ble_eq_true rfl) (Nat.le_of_ble_eq_true rfl) (xb_rv hX) rfl rfl (c_X11_warmestSheet hGC hGT hGE hX hW) rfl (fun hk78 e9k78 => ?_)
                rw [show hk78 = h from e9k78]
                refine p_callV (As := [.int (iI (grt dgS S.2.2.1.2))]) (b := x) (rest := [.int (iI ((sAt S.2.2.1 (k : Int)).2.2.1))]) (w := (some (.int (iI ((sAt S.2.2.1 (grt dgS S.2.2.1.2)).2.2.1))))) (st' := [.int (iI ((sAt S.2.2.1 (grt dgS S.2.2.1.2)).2.2.1)), .int (iI ((sAt S.2.2.1 (k : Int)).2.2.1))]) kv_L_isBench_52 dL_isBench_356 rfl rfl (Nat.le_of_ble_eq_true rfl) (Nat.le_of_ble_eq_true rfl) (xb_rv hX) rfl rfl (c_X11_temperature_ok hGC hGT hGE hX hW (z := (grt dgS S.2.2.1.2)) (by unfold in32; omega) hsw) rfl (fun hk79 e9k79 => ?_)
                rw [show hk79 = h from e9k79]
                refine i_icmpgt dL_isBench_359 (tgt := 390) (by decide) (by unfold in32; omega) (by unfold in32; omega) (fun c => (by exfalso; omega)) (fun _ => ?_)
                refine r_iload_n dL_isBench_362 3 rfl ?_
                refine r_aload_n dL_isBench_363 0 rfl ?_
                refine r_aload_n dL_isBench_364 0 rfl ?_
                refine p_callV (As := []) (b := x) (rest := [.ref x, .int (iI (((sAt S.2.2.1 (k : Int)).1.length : Int)))]) (w := (some (.int (iI (grt lnS S.2.2.1.2))))) (st' := [.int (iI (grt lnS S.2.2.1.2)), .ref x, .int (iI (((sAt S.2.2.1 (k : Int)).1.length : Int)))]) kv_L_isBench_109 dL_isBench_365 rfl rfl (Nat.le_of_ble_eq_true rfl) (Nat.le_of_ble_eq_true rfl) (xb_rv hX) rfl rfl (c_X11_finestSheet hGC hGT hGE hX hW) rfl (fun hk80 e9k80 => ?_)
                rw [show hk80 = h from e9k80]
                refine p_callV (As := [.int (iI (grt lnS S.2.2.1.2))]) (b := x) (rest := [.int (iI (((sAt S.2.2.1 (k : Int)).1.length : Int)))]) (w := (some (.int (iI (((sAt S.2.2.1 (grt lnS S.2.2.1.2)).1.length : Int)))))) (st' := [.int (iI (((sAt S.2.2.1 (grt lnS S.2.2.1.2)).1.length : Int))), .int (iI (((sAt S.2.2.1 (k : Int)).1.length : Int)))]) kv_L_isBench_33 dL_isBench_368 rfl rfl (Nat.le_of_ble_eq_true rfl) (Nat.le_of_ble_eq_true rfl) (xb_rv hX) rfl rfl (c_X11_layerCount_ok hGC hGT hGE hX hW (z := (grt lnS S.2.2.1.2)) (by unfold in32; omega) hsf) rfl (fun hk81 e9k81 => ?_)
                rw [show hk81 = h from e9k81]
                refine i_icmpgt dL_isBench_371 (tgt := 390) (by decide) (by unfold in32; omega) (by unfold in32; omega) (fun c => (by exfalso; omega)) (fun _ => ?_)
                refine r_aload_n dL_isBench_374 0 rfl ?_
                refine r_iload_n dL_isBench_375 2 rfl ?_
                refine p_callV (As := [.int (iI ((k : Int)))]) (b := x) (rest := []) (w := (some (.float (FP.fdiv (FP.i2f (iI (hBut (sAt S.2.2.1 (k : Int)).1))) (FP.i2f (iI (hgt (sAt S.2.2.1 (k : Int)).1))))))) (st' := [.float (FP.fdiv (FP.i2f (iI (hBut (sAt S.2.2.1 (k : Int)).1))) (FP.i2f (iI (hgt (sAt S.2.2.1 (k : Int)).1))))]) kv_L_isBench_112 dL_isBench_376 rfl rfl (Nat.le_of_ble_eq_true rfl) (Nat.le_of_ble_eq_true rfl) (xb_rv hX) rfl rfl (c_X11_butterShare_ok hGC hGT hGE hX hW hzk hsk) rfl (fun hk82 e9k82 => ?_)
                rw [show hk82 = h from e9k82]
                refine r_iload dL_isBench_379 5 rfl ?_
                refine r_i2f dL_isBench_381 ?_
                refine r_iload dL_isBench_382 4 rfl ?_
                refine r_i2f dL_isBench_384 ?_
                refine r_fdiv dL_isBench_385 ((nanF _ _ (by omega) (by omega))) ?_
                refine r_fcmp dL_isBench_386 ?_
                rw [fcmp_self (nanF _ _ (by omega) (by omega)), show Op.cmpValue (some .eq) .l = iI 0 from rfl]
                refine i_ifeq dL_isBench_387 (tgt := 392) (by decide) ⟨by decide, by decide⟩ (fun _ => ?_) (fun c => absurd c (by decide))
                refine i_const (2) dL_isBench_392 ?_
                refine r_istore (ls' := [(0, .ref x), (1, .int (iI (cnt isC (S.2.2.1.2.take (k + 1))))), (2, .int (iI ((k : Int)))), (3, .int (iI (((sAt S.2.2.1 (k : Int)).1.length : Int)))), (4, .int (iI (hgt (sAt S.2.2.1 (k : Int)).1))), (5, .int (iI (hBut (sAt S.2.2.1 (k : Int)).1))), (6, .int (iI (nBut (sAt S.2.2.1 (k : Int)).1))), (7, .int (iI (sz ((sAt S.2.2.1 (k : Int)).1.getD (thinB (sAt S.2.2.1 (k : Int)).1 (sAt S.2.2.1 (k : Int)).1.length) 0)))), (8, .int (iI (sz ((sAt S.2.2.1 (k : Int)).1.getD (thickB (sAt S.2.2.1 (k : Int)).1 (sAt S.2.2.1 (k : Int)).1.length) 0)))), (9, .int (iI 0)), (10, .int (iI (sumF (escF (loss (sAt S.2.2.1 (k : Int)) S.2.2.1.1.2.1)) (sAt S.2.2.1 (k : Int)).1))), (11, .int (iI 2))]) dL_isBench_393 (by decide) rfl ?_
                exact L395 (0) 0 (by decide) 2 (by decide)
          · refine i_const (1) dL_isBench_181 ?_
            refine r_goto dL_isBench_182 (tgt := 186) (by decide) ?_
            refine r_istore (ls' := [(0, .ref x), (1, .int (iI (cnt isC (S.2.2.1.2.take (k + 1))))), (2, .int (iI ((k : Int)))), (3, .int (iI (((sAt S.2.2.1 (k : Int)).1.length : Int)))), (4, .int (iI (hgt (sAt S.2.2.1 (k : Int)).1))), (5, .int (iI (hBut (sAt S.2.2.1 (k : Int)).1))), (6, .int (iI (nBut (sAt S.2.2.1 (k : Int)).1))), (7, .int (iI (sz ((sAt S.2.2.1 (k : Int)).1.getD (thinB (sAt S.2.2.1 (k : Int)).1 (sAt S.2.2.1 (k : Int)).1.length) 0)))), (8, .int (iI (sz ((sAt S.2.2.1 (k : Int)).1.getD (thickB (sAt S.2.2.1 (k : Int)).1 (sAt S.2.2.1 (k : Int)).1.length) 0)))), (9, .int (iI 1))]) dL_isBench_186 (by decide) rfl ?_
            refine r_aload_n dL_isBench_188 0 rfl ?_
            refine r_iload_n dL_isBench_189 2 rfl ?_
            refine p_callV (As := [.int (iI ((k : Int)))]) (b := x) (rest := []) (w := (some (.int (iI (sumF (escF (loss (sAt S.2.2.1 (k : Int)) S.2.2.1.1.2.1)) (sAt S.2.2.1 (k : Int)).1))))) (st' := [.int (iI (sumF (escF (loss (sAt S.2.2.1 (k : Int)) S.2.2.1.1.2.1)) (sAt S.2.2.1 (k : Int)).1))]) kv_L_isBench_85 dL_isBench_190 rfl rfl (Nat.le_of_ble_eq_true rfl) (Nat.le_of_ble_eq_true rfl) (xb_rv hX) rfl rfl (c_X11_butterAtRisk_ok hGC hGT hGE hX hW hzk hsk) rfl (fun hk83 e9k83 => ?_)
            rw [show hk83 = h from e9k83]
            refine r_istore (ls' := [(0, .ref x), (1, .int (iI (cnt isC (S.2.2.1.2.take (k + 1))))), (2, .int (iI ((k : Int)))), (3, .int (iI (((sAt S.2.2.1 (k : Int)).1.length : Int)))), (4, .int (iI (hgt (sAt S.2.2.1 (k : Int)).1))), (5, .int (iI (hBut (sAt S.2.2.1 (k : Int)).1))), (6, .int (iI (nBut (sAt S.2.2.1 (k : Int)).1))), (7, .int (iI (sz ((sAt S.2.2.1 (k : Int)).1.getD (thinB (sAt S.2.2.1 (k : Int)).1 (sAt S.2.2.1 (k : Int)).1.length) 0)))), (8, .int (iI (sz ((sAt S.2.2.1 (k : Int)).1.getD (thickB (sAt S.2.2.1 (k : Int)).1 (sAt S.2.2.1 (k : Int)).1.length) 0)))), (9, .int (iI 1)), (10, .int (iI (sumF (escF (loss (sAt S.2.2.1 (k : Int)) S.2.2.1.1.2.1)) (sAt S.2.2.1 (k : Int)).1)))]) dL_isBench_193 (by decide) rfl ?_
            refine r_iload_n dL_isBench_195 3 rfl ?_
            refine r_aload_n dL_isBench_196 0 rfl ?_
            refine r_iload_n dL_isBench_197 2 rfl ?_
            refine p_callV (As := [.int (iI ((k : Int)))]) (b := x) (rest := [.int (iI (((sAt S.2.2.1 (k : Int)).1.length : Int)))]) (w := (some (.int (iI ((sAt S.2.2.1 (k : Int)).2.1))))) (st' := [.int (iI ((sAt S.2.2.1 (k : Int)).2.1)), .int (iI (((sAt S.2.2.1 (k : Int)).1.length : Int)))]) kv_L_isBench_49 dL_isBench_198 rfl rfl (Nat.le_of_ble_eq_true rfl) (Nat.le_of_ble_eq_true rfl) (xb_rv hX) rfl rfl (c_X11_expectedLayers_ok hGC hGT hGE hX hW hzk hsk) rfl (fun hk84 e9k84 => ?_)
            rw [show hk84 = h from e9k84]
            refine i_icmpne dL_isBench_201 (tgt := 344) (by decide) (by unfold in32; omega) (by unfold in32; omega) (fun c => (by exfalso; omega)) (fun _ => ?_)
            refine r_iload_n dL_isBench_204 3 rfl ?_
            refine i_const (1) dL_isBench_205 ?_
            refine i_icmplt dL_isBench_206 (tgt := 344) (by decide) (by unfold in32; omega) ⟨by decide, by decide⟩ (fun c => (by exfalso; omega)) (fun _ => ?_)
            refine r_iload_n dL_isBench_209 3 rfl ?_
            refine i_sipush (200) (by decide) dL_isBench_210 ?_
            refine i_icmpgt dL_isBench_213 (tgt := 344) (by decide) (by unfold in32; omega) ⟨by decide, by decide⟩ (fun c => (by exfalso; omega)) (fun _ => ?_)
            refine r_iload dL_isBench_216 4 rfl ?_
            refine r_aload_n dL_isBench_218 0 rfl ?_
            refine r_iload_n dL_isBench_219 2 rfl ?_
            refine p_callV (As := [.int (iI ((k : Int)))]) (b := x) (rest := [.int (iI (hgt (sAt S.2.2.1 (k : Int)).1))]) (w := (some (.int (iI (hgt (sAt S.2.2.1 (k : Int)).1))))) (st' := [.int (iI (hgt (sAt S.2.2.1 (k : Int)).1)), .int (iI (hgt (sAt S.2.2.1 (k : Int)).1))]) kv_L_isBench_88 dL_isBench_220 rfl rfl (Nat.le_of_ble_eq_true rfl) (Nat.le_of_ble_eq_true rfl) (xb_rv hX) rfl rfl (c_X11_height_ok hGC hGT hGE hX hW hzk hsk) rfl (fun hk85 e9k85 => ?_)
            rw [show hk85 = h from e9k85]
            refine i_icmpne dL_isBench_223 (tgt := 344) (by decide) (by unfold in32; omega) (by unfold in32; omega) (fun c => (by exfalso; omega)) (fun _ => ?_)
            refine r_iload dL_isBench_226 4 rfl ?_
            refine i_sipush (4000) (by decide) dL_isBench_228 ?_
            refine i_icmpgt dL_isBench_231 (tgt := 344) (by decide) (by unfold in32; omega) ⟨by decide, by decide⟩ (fun c => (by exfalso; omega)) (fun _ => ?_)
            refine r_iload dL_isBench_234 5 rfl ?_
            refine r_aload_n dL_isBench_236 0 rfl ?_
            refine r_iload_n dL_isBench_237 2 rfl ?_
            refine p_callV (As := [.int (iI ((k : Int)))]) (b := x) (rest := [.int (iI (hBut (sAt S.2.2.1 (k : Int)).1))]) (w := (some (.int (iI (hBut (sAt S.2.2.1 (k : Int)).1))))) (st' := [.int (iI (hBut (sAt S.2.2.1 (k : Int)).1)), .int (iI (hBut (sAt S.2.2.1 (k : Int)).1))]) kv_L_isBench_91 dL_isBench_238 rfl rfl (Nat.le_of_ble_eq_true rfl) (Nat.le_of_ble_eq_true rfl) (xb_rv hX) rfl rfl (c_X11_butterHeight_ok hGC hGT hGE hX hW hzk hsk) rfl (fun hk86 e9k86 => ?_)
            rw [show hk86 = h from e9k86]
            refine i_icmpne dL_isBench_241 (tgt := 344) (by decide) (by unfold in32; omega) (by unfold in32; omega) (fun c => (by exfalso; omega)) (fun _ => ?_)
            refine r_iload dL_isBench_244 6 rfl ?_
            refine r_aload_n dL_isBench_246 0 rfl ?_
            refine r_iload_n dL_isBench_247 2 rfl ?_
            refine p_callV (As := [.int (iI ((k : Int)))]) (b := x) (rest := [.int (iI (nBut (sAt S.2.2.1 (k : Int)).1))]) (w := (some (.int (iI (nBut (sAt S.2.2.1 (k : Int)).1))))) (st' := [.int (iI (nBut (sAt S.2.2.1 (k : Int)).1)), .int (iI (nBut (sAt S.2.2.1 (k : Int)).1))]) kv_L_isBench_94 dL_isBench_248 rfl rfl (Nat.le_of_ble_eq_true rfl) (Nat.le_of_ble_eq_true rfl) (xb_rv hX) rfl rfl (c_X11_butterLayerCount_ok hGC hGT hGE hX hW hzk hsk) rfl (fun hk87 e9k87 => ?_)
            rw [show hk87 = h from e9k87]
            refine i_icmpne dL_isBench_251 (tgt := 344) (by decide) (by unfold in32; omega) (by unfold in32; omega) (fun c => (by exfalso; omega)) (fun _ => ?_)
            refine r_iload dL_isBench_254 10 rfl ?_
            refine r_iload dL_isBench_256 5 rfl ?_
            refine i_icmpgt dL_isBench_258 (tgt := 344) (by decide) (by unfold in32; omega) (by unfold in32; omega) (fun c => (by exfalso; omega)) (fun _ => ?_)
            have hr0 : sumF (escF (loss (sAt S.2.2.1 (k : Int)) S.2.2.1.1.2.1)) (sAt S.2.2.1 (k : Int)).1 = 0 := by rw [loss_0 (Or.inr c178)]; exact esc_0 _
            refine r_iload dL_isBench_261 9 rfl ?_
            refine i_ifeq dL_isBench_263 (tgt := 271) (by decide) ⟨by decide, by decide⟩ (fun c => absurd c (by decide)) (fun _ => ?_)
            refine r_iload dL_isBench_266 10 rfl ?_
            refine i_ifgt dL_isBench_268 (tgt := 344) (by decide) (by unfold in32; omega) (fun c => (by exfalso; omega)) (fun _ => ?_)
            refine r_iload dL_isBench_271 9 rfl ?_
            refine i_ifne dL_isBench_273 (tgt := 286) (by decide) ⟨by decide, by decide⟩ (fun _ => ?_) (fun c => absurd c (by decide))
            have hs0 : safeH S.2.2.1.1.2.1 40 (sAt S.2.2.1 (k : Int)).2.2.1 = 0 ↔ (sAt S.2.2.1 (k : Int)).2.2.1 ≤ S.2.2.1.1.2.1 := safe_0 S.2.2.1.1.2.1 39 (sAt S.2.2.1 (k : Int)).2.2.1
            have hsb := safe_b S.2.2.1.1.2.1 40 (sAt S.2.2.1 (k : Int)).2.2.1
            refine r_aload_n dL_isBench_286 0 rfl ?_
            refine r_iload_n dL_isBench_287 2 rfl ?_
            refine p_callV (As := [.int (iI ((k : Int)))]) (b := x) (rest := []) (w := (some (.int (iI (safeH S.2.2.1.1.2.1 40 (sAt S.2.2.1 (k : Int)).2.2.1))))) (st' := [.int (iI (safeH S.2.2.1.1.2.1 40 (sAt S.2.2.1 (k : Int)).2.2.1))]) kv_L_isBench_97 dL_isBench_288 rfl rfl (Nat.le_of_ble_eq_true rfl) (Nat.le_of_ble_eq_true rfl) (xb_rv hX) rfl rfl (c_X11_hoursToSafety_ok hGC hGT hGE hX hW hzk hsk) rfl (fun hk88 e9k88 => ?_)
            rw [show hk88 = h from e9k88]
            refine i_ifne dL_isBench_291 (tgt := 298) (by decide) (by unfold in32; omega) (fun c291 => ?_) (fun c291 => ?_)
            · refine i_const (0) dL_isBench_298 ?_
              refine r_aload_n dL_isBench_299 0 rfl ?_
              refine r_iload_n dL_isBench_300 2 rfl ?_
              refine p_callV (As := [.int (iI ((k : Int)))]) (b := x) (rest := [.int (iI 0)]) (w := (some (.int (iI ((sAt S.2.2.1 (k : Int)).2.2.1))))) (st' := [.int (iI ((sAt S.2.2.1 (k : Int)).2.2.1)), .int (iI 0)]) kv_L_isBench_52 dL_isBench_301 rfl rfl (Nat.le_of_ble_eq_true rfl) (Nat.le_of_ble_eq_true rfl) (xb_rv hX) rfl rfl (c_X11_temperature_ok hGC hGT hGE hX hW hzk hsk) rfl (fun hk89 e9k89 => ?_)
              rw [show hk89 = h from e9k89]
              refine r_aload_n dL_isBench_304 0 rfl ?_
              refine p_callV (As := []) (b := x) (rest := [.int (iI ((sAt S.2.2.1 (k : Int)).2.2.1)), .int (iI 0)]) (w := (some (.int (iI S.2.2.1.1.2.1)))) (st' := [.int (iI S.2.2.1.1.2.1), .int (iI ((sAt S.2.2.1 (k : Int)).2.2.1)), .int (iI 0)]) kv_L_isBench_82 dL_isBench_305 rfl rfl (Nat.le_of_ble_eq_true rfl) (Nat.le_of_ble_eq_true rfl) (xb_rv hX) rfl rfl (c_X11_meltingPoint hGC hGT hGE hX hW) rfl (fun hk90 e9k90 => ?_)
              rw [show hk90 = h from e9k90]
              refine i_icmpgt dL_isBench_308 (tgt := 315) (by decide) (by unfold in32; omega) (by unfold in32; omega) (fun _ => ?_) (fun c => (by exfalso; omega))
              refine i_const (0) dL_isBench_315 ?_
              refine i_icmpne dL_isBench_316 (tgt := 344) (by decide) ⟨by decide, by decide⟩ ⟨by decide, by decide⟩ (fun c => absurd c (by decide)) (fun _ => ?_)
              refine r_aload_n dL_isBench_319 0 rfl ?_
              refine r_iload_n dL_isBench_320 2 rfl ?_
              refine i_const (0) dL_isBench_321 ?_
              refine p_callV (As := [.int (iI ((k : Int))), .int (iI 0)]) (b := x) (rest := []) (w := (some (.int (iI (warmAt (sAt S.2.2.1 (k : Int)) S.2.2.1.1.1 0))))) (st' := [.int (iI (warmAt (sAt S.2.2.1 (k : Int)) S.2.2.1.1.1 0))]) kv_L_isBench_100 dL_isBench_322 rfl rfl (Nat.le_of_ble_eq_true rfl) (Nat.le_of_ble_eq_true rfl) (xb_rv hX) rfl rfl (c_X11_temperatureAfter_ok hGC hGT hGE hX hW hzk hsk (q := 0) (by decide)) rfl (fun hk91 e9k91 => ?_)
              rw [show hk91 = h from e9k91]
              refine r_aload_n dL_isBench_325 0 rfl ?_
              refine r_iload_n dL_isBench_326 2 rfl ?_
              refine p_callV (As := [.int (iI ((k : Int)))]) (b := x) (rest := [.int (iI (warmAt (sAt S.2.2.1 (k : Int)) S.2.2.1.1.1 0))]) (w := (some (.int (iI ((sAt S.2.2.1 (k : Int)).2.2.1))))) (st' := [.int (iI ((sAt S.2.2.1 (k : Int)).2.2.1)), .int (iI (warmAt (sAt S.2.2.1 (k : Int)) S.2.2.1.1.1 0))]) kv_L_isBench_52 dL_isBench_327 rfl rfl (Nat.le_of_ble_eq_true rfl) (Nat.le_of_ble_eq_true rfl) (xb_rv hX) rfl rfl (c_X11_temperature_ok hGC hGT hGE hX hW hzk hsk) rfl (fun hk92 e9k92 => ?_)
              rw [show hk92 = h from e9k92]
              have hwa : warmAt (sAt S.2.2.1 (k : Int)) S.2.2.1.1.1 0 = (sAt S.2.2.1 (k : Int)).2.2.1 := rfl
              refine i_icmpne dL_isBench_330 (tgt := 344) (by decide) (by unfold in32; omega) (by unfold in32; omega) (fun c => (by exfalso; omega)) (fun _ => ?_)
              have hse := seams_le2 hS1
              refine r_aload_n dL_isBench_333 0 rfl ?_
              refine r_iload_n dL_isBench_334 2 rfl ?_
              refine p_callV (As := [.int (iI ((k : Int)))]) (b := x) (rest := []) (w := (some (.int (iI (seams (sAt S.2.2.1 (k : Int)).1 (sAt S.2.2.1 (k : Int)).1.length))))) (st' := [.int (iI (seams (sAt S.2.2.1 (k : Int)).1 (sAt S.2.2.1 (k : Int)).1.length))]) kv_L_isBench_103 dL_isBench_335 rfl rfl (Nat.le_of_ble_eq_true rfl) (Nat.le_of_ble_eq_true rfl) (xb_rv hX) rfl rfl (c_X11_seamCount_ok hGC hGT hGE hX hW hzk hsk) rfl (fun hk93 e9k93 => ?_)
              rw [show hk93 = h from e9k93]
              refine r_iload_n dL_isBench_338 3 rfl ?_
              refine i_const (1) dL_isBench_339 ?_
              refine i_sub dL_isBench_340 ?_
              refine i_icmple dL_isBench_341 (tgt := 346) (by decide) (by unfold in32; omega) (by unfold in32; omega) (fun _ => ?_) (fun c => (by exfalso; omega))
              have hgw := grt_b (f := dgS) hn1
              have hgf := grt_b (f := lnS) hn1
              have hsw : hasS S.2.2.1 (grt dgS S.2.2.1.2) = true := by unfold hasS; simp; omega
              have hsf : hasS S.2.2.1 (grt lnS S.2.2.1.2) = true := by unfold hasS; simp; omega
              have hmx : (sAt S.2.2.1 (k : Int)).2.2.1 ≤ (sAt S.2.2.1 (grt dgS S.2.2.1.2)).2.2.1 := grt_max dgS (by omega)
              have hmf : ((sAt S.2.2.1 (k : Int)).1.length : Int) ≤ ((sAt S.2.2.1 (grt lnS S.2.2.1.2)).1.length : Int) := grt_max lnS (by omega)
              have hw2 := (hWB.at hsw).2.2.2
              have hf2 : (sAt S.2.2.1 (grt lnS S.2.2.1.2)).1.length ≤ 200 := hlen.2 _ (getD_memS (hasS_n hsf).1)
              refine r_aload_n dL_isBench_346 0 rfl ?_
              refine r_iload_n dL_isBench_347 2 rfl ?_
              refine p_callV (As := [.int (iI ((k : Int)))]) (b := x) (rest := []) (w := (some (.int (iI ((sAt S.2.2.1 (k : Int)).2.2.1))))) (st' := [.int (iI ((sAt S.2.2.1 (k : Int)).2.2.1))]) kv_L_isBench_52 dL_isBench_348 rfl rfl (Nat.le_of_ble_eq_true rfl) (Nat.le_of_ble_eq_true rfl) (xb_rv hX) rfl rfl (c_X11_temperature_ok hGC hGT hGE hX hW hzk hsk) rfl (fun hk94 e9k94 => ?_)
              rw [show hk94 = h from e9k94]
              refine r_aload_n dL_isBench_351 0 rfl ?_
              refine r_aload_n dL_isBench_352 0 rfl ?_
              refine p_callV (As := []) (b := x) (rest := [.ref x, .int (iI ((sAt S.2.2.1 (k : Int)).2.2.1))]) (w := (some (.int (iI (grt dgS S.2.2.1.2))))) (st' := [.int (iI (grt dgS S.2.2.1.2)), .ref x, .int (iI ((sAt S.2.2.1 (k : Int)).2.2.1))]) kv_L_isBench_106 dL_isBench_353 rfl rfl (Nat.le_of_ble_eq_true rfl) (Nat.le_of_ble_eq_true rfl) (xb_rv hX) rfl rfl (c_X11_warmestSheet hGC hGT hGE hX hW) rfl (fun hk95 e9k95 => ?_)
              rw [show hk95 = h from e9k95]
              refine p_callV (As := [.int (iI (grt dgS S.2.2.1.2))]) (b := x) (rest := [.int (iI ((sAt S.2.2.1 (k : Int)).2.2.1))]) (w := (some (.int (iI ((sAt S.2.2.1 (grt dgS S.2.2.1.2)).2.2.1))))) (st' := [.int (iI ((sAt S.2.2.1 (grt dgS S.2.2.1.2)).2.2.1)), .int (iI ((sAt S.2.2.1 (k : Int)).2.2.1))]) kv_L_isBench_52 dL_isBench_356 rfl rfl (Nat.le_of_ble_eq_true rfl) (Nat.le_of_ble_eq_true rfl) (xb_rv hX) rfl rfl (c_X11_temperature_ok hGC hGT hGE hX hW (z := (grt dgS S.2.2.1.2)) (by unfold in32; omega) hsw) rfl (fun hk96 e9k96 => ?_)
              rw [show hk96 = h from e9k96]
              refine i_icmpgt dL_isBench_359 (tgt := 390) (by decide) (by unfold in32; omega) (by unfold in32; omega) (fun c => (by exfalso; omega)) (fun _ => ?_)
              refine r_iload_n dL_isBench_362 3 rfl ?_
              refine r_aload_n dL_isBench_363 0 rfl ?_
              refine r_aload_n dL_isBench_364 0 rfl ?_
              refine p_callV (As := []) (b := x) (rest := [.ref x, .int (iI (((sAt S.2.2.1 (k : Int)).1.length : Int)))]) (w := (some (.int (iI (grt lnS S.2.2.1.2))))) (st' := [.int (iI (grt lnS S.2.2.1.2)), .ref x, .int (iI (((sAt S.2.2.1 (k : Int)).1.length : Int)))]) kv_L_isBench_109 dL_isBench_365 rfl rfl (Nat.le_of_ble_eq_true rfl) (Nat.le_of_ble_eq_true rfl) (xb_rv hX) rfl rfl (c_X11_finestSheet hGC hGT hGE hX hW) rfl (fun hk97 e9k97 => ?_)
              rw [show hk97 = h from e9k97]
              refine p_callV (As := [.int (iI (grt lnS S.2.2.1.2))]) (b := x) (rest := [.int (iI (((sAt S.2.2.1 (k : Int)).1.length : Int)))]) (w := (some (.int (iI (((sAt S.2.2.1 (grt lnS S.2.2.1.2)).1.length : Int)))))) (st' := [.int (iI (((sAt S.2.2.1 (grt lnS S.2.2.1.2)).1.length : Int))), .int (iI (((sAt S.2.2.1 (k : Int)).1.length : Int)))]) kv_L_isBench_33 dL_isBench_368 rfl rfl (Nat.le_of_ble_eq_true rfl) (Nat.le_of_ble_eq_true rfl) (xb_rv hX) rfl rfl (c_X11_layerCount_ok hGC hGT hGE hX hW (z := (grt lnS S.2.2.1.2)) (by unfold in32; omega) hsf) rfl (fun hk98 e9k98 => ?_)
              rw [show hk98 = h from e9k98]
              refine i_icmpgt dL_isBench_371 (tgt := 390) (by decide) (by unfold in32; omega) (by unfold in32; omega) (fun c => (by exfalso; omega)) (fun _ => ?_)
              refine r_aload_n dL_isBench_374 0 rfl ?_
              refine r_iload_n dL_isBench_375 2 rfl ?_
              refine p_callV (As := [.int (iI ((k : Int)))]) (b := x) (rest := []) (w := (some (.float (FP.fdiv (FP.i2f (iI (hBut (sAt S.2.2.1 (k : Int)).1))) (FP.i2f (iI (hgt (sAt S.2.2.1 (k : Int)).1))))))) (st' := [.float (FP.fdiv (FP.i2f (iI (hBut (sAt S.2.2.1 (k : Int)).1))) (FP.i2f (iI (hgt (sAt S.2.2.1 (k : Int)).1))))]) kv_L_isBench_112 dL_isBench_376 rfl rfl (Nat.le_of_ble_eq_true rfl) (Nat.le_of_ble_eq_true rfl) (xb_rv hX) rfl rfl (c_X11_butterShare_ok hGC hGT hGE hX hW hzk hsk) rfl (fun hk99 e9k99 => ?_)
              rw [show hk99 = h from e9k99]
              refine r_iload dL_isBench_379 5 rfl ?_
              refine r_i2f dL_isBench_381 ?_
              refine r_iload dL_isBench_382 4 rfl ?_
              refine r_i2f dL_isBench_384 ?_
              refine r_fdiv dL_isBench_385 ((nanF _ _ (by omega) (by omega))) ?_
              refine r_fcmp dL_isBench_386 ?_
              rw [fcmp_self (nanF _ _ (by omega) (by omega)), show Op.cmpValue (some .eq) .l = iI 0 from rfl]
              refine i_ifeq dL_isBench_387 (tgt := 392) (by decide) ⟨by decide, by decide⟩ (fun _ => ?_) (fun c => absurd c (by decide))
              refine i_const (2) dL_isBench_392 ?_
              refine r_istore (ls' := [(0, .ref x), (1, .int (iI (cnt isC (S.2.2.1.2.take (k + 1))))), (2, .int (iI ((k : Int)))), (3, .int (iI (((sAt S.2.2.1 (k : Int)).1.length : Int)))), (4, .int (iI (hgt (sAt S.2.2.1 (k : Int)).1))), (5, .int (iI (hBut (sAt S.2.2.1 (k : Int)).1))), (6, .int (iI (nBut (sAt S.2.2.1 (k : Int)).1))), (7, .int (iI (sz ((sAt S.2.2.1 (k : Int)).1.getD (thinB (sAt S.2.2.1 (k : Int)).1 (sAt S.2.2.1 (k : Int)).1.length) 0)))), (8, .int (iI (sz ((sAt S.2.2.1 (k : Int)).1.getD (thickB (sAt S.2.2.1 (k : Int)).1 (sAt S.2.2.1 (k : Int)).1.length) 0)))), (9, .int (iI 1)), (10, .int (iI (sumF (escF (loss (sAt S.2.2.1 (k : Int)) S.2.2.1.1.2.1)) (sAt S.2.2.1 (k : Int)).1))), (11, .int (iI 2))]) dL_isBench_393 (by decide) rfl ?_
              exact L395 (1) 0 (by decide) 2 (by decide)
            · refine i_const (1) dL_isBench_294 ?_
              refine r_goto dL_isBench_295 (tgt := 299) (by decide) ?_
              refine r_aload_n dL_isBench_299 0 rfl ?_
              refine r_iload_n dL_isBench_300 2 rfl ?_
              refine p_callV (As := [.int (iI ((k : Int)))]) (b := x) (rest := [.int (iI 1)]) (w := (some (.int (iI ((sAt S.2.2.1 (k : Int)).2.2.1))))) (st' := [.int (iI ((sAt S.2.2.1 (k : Int)).2.2.1)), .int (iI 1)]) kv_L_isBench_52 dL_isBench_301 rfl rfl (Nat.le_of_ble_eq_true rfl) (Nat.le_of_ble_eq_true rfl) (xb_rv hX) rfl rfl (c_X11_temperature_ok hGC hGT hGE hX hW hzk hsk) rfl (fun hk100 e9k100 => ?_)
              rw [show hk100 = h from e9k100]
              refine r_aload_n dL_isBench_304 0 rfl ?_
              refine p_callV (As := []) (b := x) (rest := [.int (iI ((sAt S.2.2.1 (k : Int)).2.2.1)), .int (iI 1)]) (w := (some (.int (iI S.2.2.1.1.2.1)))) (st' := [.int (iI S.2.2.1.1.2.1), .int (iI ((sAt S.2.2.1 (k : Int)).2.2.1)), .int (iI 1)]) kv_L_isBench_82 dL_isBench_305 rfl rfl (Nat.le_of_ble_eq_true rfl) (Nat.le_of_ble_eq_true rfl) (xb_rv hX) rfl rfl (c_X11_meltingPoint hGC hGT hGE hX hW) rfl (fun hk101 e9k101 => ?_)
              rw [show hk101 = h from e9k101]
              refine i_icmpgt dL_isBench_308 (tgt := 315) (by decide) (by unfold in32; omega) (by unfold in32; omega) (fun c => (by exfalso; omega)) (fun _ => ?_)
              refine i_const (1) dL_isBench_311 ?_
              refine r_goto dL_isBench_312 (tgt := 316) (by decide) ?_
              refine i_icmpne dL_isBench_316 (tgt := 344) (by decide) ⟨by decide, by decide⟩ ⟨by decide, by decide⟩ (fun c => absurd c (by decide)) (fun _ => ?_)
              refine r_aload_n dL_isBench_319 0 rfl ?_
              refine r_iload_n dL_isBench_320 2 rfl ?_
              refine i_const (0) dL_isBench_321 ?_
              refine p_callV (As := [.int (iI ((k : Int))), .int (iI 0)]) (b := x) (rest := []) (w := (some (.int (iI (warmAt (sAt S.2.2.1 (k : Int)) S.2.2.1.1.1 0))))) (st' := [.int (iI (warmAt (sAt S.2.2.1 (k : Int)) S.2.2.1.1.1 0))]) kv_L_isBench_100 dL_isBench_322 rfl rfl (Nat.le_of_ble_eq_true rfl) (Nat.le_of_ble_eq_true rfl) (xb_rv hX) rfl rfl (c_X11_temperatureAfter_ok hGC hGT hGE hX hW hzk hsk (q := 0) (by decide)) rfl (fun hk102 e9k102 => ?_)
              rw [show hk102 = h from e9k102]
              refine r_aload_n dL_isBench_325 0 rfl ?_
              refine r_iload_n dL_isBench_326 2 rfl ?_
              refine p_callV (As := [.int (iI ((k : Int)))]) (b := x) (rest := [.int (iI (warmAt (sAt S.2.2.1 (k : Int)) S.2.2.1.1.1 0))]) (w := (some (.int (iI ((sAt S.2.2.1 (k : Int)).2.2.1))))) (st' := [.int (iI ((sAt S.2.2.1 (k : Int)).2.2.1)), .int (iI (warmAt (sAt S.2.2.1 (k : Int)) S.2.2.1.1.1 0))]) kv_L_isBench_52 dL_isBench_327 rfl rfl (Nat.le_of_ble_eq_true rfl) (Nat.le_of_ble_eq_true rfl) (xb_rv hX) rfl rfl (c_X11_temperature_ok hGC hGT hGE hX hW hzk hsk) rfl (fun hk103 e9k103 => ?_)
              rw [show hk103 = h from e9k103]
              have hwa : warmAt (sAt S.2.2.1 (k : Int)) S.2.2.1.1.1 0 = (sAt S.2.2.1 (k : Int)).2.2.1 := rfl
              refine i_icmpne dL_isBench_330 (tgt := 344) (by decide) (by unfold in32; omega) (by unfold in32; omega) (fun c => (by exfalso; omega)) (fun _ => ?_)
              have hse := seams_le2 hS1
              refine r_aload_n dL_isBench_333 0 rfl ?_
              refine r_iload_n dL_isBench_334 2 rfl ?_
              refine p_callV (As := [.int (iI ((k : Int)))]) (b := x) (rest := []) (w := (some (.int (iI (seams (sAt S.2.2.1 (k : Int)).1 (sAt S.2.2.1 (k : Int)).1.length))))) (st' := [.int (iI (seams (sAt S.2.2.1 (k : Int)).1 (sAt S.2.2.1 (k : Int)).1.length))]) kv_L_isBench_103 dL_isBench_335 rfl rfl (Nat.le_of_ble_eq_true rfl) (Nat.le_of_ble_eq_true rfl) (xb_rv hX) rfl rfl (c_X11_seamCount_ok hGC hGT hGE hX hW hzk hsk) rfl (fun hk104 e9k104 => ?_)
              rw [show hk104 = h from e9k104]
              refine r_iload_n dL_isBench_338 3 rfl ?_
              refine i_const (1) dL_isBench_339 ?_
              refine i_sub dL_isBench_340 ?_
              refine i_icmple dL_isBench_341 (tgt := 346) (by decide) (by unfold in32; omega) (by unfold in32; omega) (fun _ => ?_) (fun c => (by exfalso; omega))
              have hgw := grt_b (f := dgS) hn1
              have hgf := grt_b (f := lnS) hn1
              have hsw : hasS S.2.2.1 (grt dgS S.2.2.1.2) = true := by unfold hasS; simp; omega
              have hsf : hasS S.2.2.1 (grt lnS S.2.2.1.2) = true := by unfold hasS; simp; omega
              have hmx : (sAt S.2.2.1 (k : Int)).2.2.1 ≤ (sAt S.2.2.1 (grt dgS S.2.2.1.2)).2.2.1 := grt_max dgS (by omega)
              have hmf : ((sAt S.2.2.1 (k : Int)).1.length : Int) ≤ ((sAt S.2.2.1 (grt lnS S.2.2.1.2)).1.length : Int) := grt_max lnS (by omega)
              have hw2 := (hWB.at hsw).2.2.2
              have hf2 : (sAt S.2.2.1 (grt lnS S.2.2.1.2)).1.length ≤ 200 := hlen.2 _ (getD_memS (hasS_n hsf).1)
              refine r_aload_n dL_isBench_346 0 rfl ?_
              refine r_iload_n dL_isBench_347 2 rfl ?_
              refine p_callV (As := [.int (iI ((k : Int)))]) (b := x) (rest := []) (w := (some (.int (iI ((sAt S.2.2.1 (k : Int)).2.2.1))))) (st' := [.int (iI ((sAt S.2.2.1 (k : Int)).2.2.1))]) kv_L_isBench_52 dL_isBench_348 rfl rfl (Nat.le_of_ble_eq_true rfl) (Nat.le_of_ble_eq_true rfl) (xb_rv hX) rfl rfl (c_X11_temperature_ok hGC hGT hGE hX hW hzk hsk) rfl (fun hk105 e9k105 => ?_)
              rw [show hk105 = h from e9k105]
              refine r_aload_n dL_isBench_351 0 rfl ?_
              refine r_aload_n dL_isBench_352 0 rfl ?_
              refine p_callV (As := []) (b := x) (rest := [.ref x, .int (iI ((sAt S.2.2.1 (k : Int)).2.2.1))]) (w := (some (.int (iI (grt dgS S.2.2.1.2))))) (st' := [.int (iI (grt dgS S.2.2.1.2)), .ref x, .int (iI ((sAt S.2.2.1 (k : Int)).2.2.1))]) kv_L_isBench_106 dL_isBench_353 rfl rfl (Nat.le_of_ble_eq_true rfl) (Nat.le_of_ble_eq_true rfl) (xb_rv hX) rfl rfl (c_X11_warmestSheet hGC hGT hGE hX hW) rfl (fun hk106 e9k106 => ?_)
              rw [show hk106 = h from e9k106]
              refine p_callV (As := [.int (iI (grt dgS S.2.2.1.2))]) (b := x) (rest := [.int (iI ((sAt S.2.2.1 (k : Int)).2.2.1))]) (w := (some (.int (iI ((sAt S.2.2.1 (grt dgS S.2.2.1.2)).2.2.1))))) (st' := [.int (iI ((sAt S.2.2.1 (grt dgS S.2.2.1.2)).2.2.1)), .int (iI ((sAt S.2.2.1 (k : Int)).2.2.1))]) kv_L_isBench_52 dL_isBench_356 rfl rfl (Nat.le_of_ble_eq_true rfl) (Nat.le_of_ble_eq_true rfl) (xb_rv hX) rfl rfl (c_X11_temperature_ok hGC hGT hGE hX hW (z := (grt dgS S.2.2.1.2)) (by unfold in32; omega) hsw) rfl (fun hk107 e9k107 => ?_)
              rw [show hk107 = h from e9k107]
              refine i_icmpgt dL_isBench_359 (tgt := 390) (by decide) (by unfold in32; omega) (by unfold in32; omega) (fun c => (by exfalso; omega)) (fun _ => ?_)
              refine r_iload_n dL_isBench_362 3 rfl ?_
              refine r_aload_n dL_isBench_363 0 rfl ?_
              refine r_aload_n dL_isBench_364 0 rfl ?_
              refine p_callV (As := []) (b := x) (rest := [.ref x, .int (iI (((sAt S.2.2.1 (k : Int)).1.length : Int)))]) (w := (some (.int (iI (grt lnS S.2.2.1.2))))) (st' := [.int (iI (grt lnS S.2.2.1.2)), .ref x, .int (iI (((sAt S.2.2.1 (k : Int)).1.length : Int)))]) kv_L_isBench_109 dL_isBench_365 rfl rfl (Nat.le_of_ble_eq_true rfl) (Nat.le_of_ble_eq_true rfl) (xb_rv hX) rfl rfl (c_X11_finestSheet hGC hGT hGE hX hW) rfl (fun hk108 e9k108 => ?_)
              rw [show hk108 = h from e9k108]
              refine p_callV (As := [.int (iI (grt lnS S.2.2.1.2))]) (b := x) (rest := [.int (iI (((sAt S.2.2.1 (k : Int)).1.length : Int)))]) (w := (some (.int (iI (((sAt S.2.2.1 (grt lnS S.2.2.1.2)).1.length : Int)))))) (st' := [.int (iI (((sAt S.2.2.1 (grt lnS S.2.2.1.2)).1.length : Int))), .int (iI (((sAt S.2.2.1 (k : Int)).1.length : Int)))]) kv_L_isBench_33 dL_isBench_368 rfl rfl (Nat.le_of_ble_eq_true rfl) (Nat.le_of_ble_eq_true rfl) (xb_rv hX) rfl rfl (c_X11_layerCount_ok hGC hGT hGE hX hW (z := (grt lnS S.2.2.1.2)) (by unfold in32; omega) hsf) rfl (fun hk109 e9k109 => ?_)
              rw [show hk109 = h from e9k109]
              refine i_icmpgt dL_isBench_371 (tgt := 390) (by decide) (by unfold in32; omega) (by unfold in32; omega) (fun c => (by exfalso; omega)) (fun _ => ?_)
              refine r_aload_n dL_isBench_374 0 rfl ?_
              refine r_iload_n dL_isBench_375 2 rfl ?_
              refine p_callV (As := [.int (iI ((k : Int)))]) (b := x) (rest := []) (w := (some (.float (FP.fdiv (FP.i2f (iI (hBut (sAt S.2.2.1 (k : Int)).1))) (FP.i2f (iI (hgt (sAt S.2.2.1 (k : Int)).1))))))) (st' := [.float (FP.fdiv (FP.i2f (iI (hBut (sAt S.2.2.1 (k : Int)).1))) (FP.i2f (iI (hgt (sAt S.2.2.1 (k : Int)).1))))]) kv_L_isBench_112 dL_isBench_376 rfl rfl (Nat.le_of_ble_eq_true rfl) (Nat.le_of_ble_eq_true rfl) (xb_rv hX) rfl rfl (c_X11_butterShare_ok hGC hGT hGE hX hW hzk hsk) rfl (fun hk110 e9k110 => ?_)
              rw [show hk110 = h from e9k110]
              refine r_iload dL_isBench_379 5 rfl ?_
              refine r_i2f dL_isBench_381 ?_
              refine r_iload dL_isBench_382 4 rfl ?_
              refine r_i2f dL_isBench_384 ?_
              refine r_fdiv dL_isBench_385 ((nanF _ _ (by omega) (by omega))) ?_
              refine r_fcmp dL_isBench_386 ?_
              rw [fcmp_self (nanF _ _ (by omega) (by omega)), show Op.cmpValue (some .eq) .l = iI 0 from rfl]
              refine i_ifeq dL_isBench_387 (tgt := 392) (by decide) ⟨by decide, by decide⟩ (fun _ => ?_) (fun c => absurd c (by decide))
              refine i_const (2) dL_isBench_392 ?_
              refine r_istore (ls' := [(0, .ref x), (1, .int (iI (cnt isC (S.2.2.1.2.take (k + 1))))), (2, .int (iI ((k : Int)))), (3, .int (iI (((sAt S.2.2.1 (k : Int)).1.length : Int)))), (4, .int (iI (hgt (sAt S.2.2.1 (k : Int)).1))), (5, .int (iI (hBut (sAt S.2.2.1 (k : Int)).1))), (6, .int (iI (nBut (sAt S.2.2.1 (k : Int)).1))), (7, .int (iI (sz ((sAt S.2.2.1 (k : Int)).1.getD (thinB (sAt S.2.2.1 (k : Int)).1 (sAt S.2.2.1 (k : Int)).1.length) 0)))), (8, .int (iI (sz ((sAt S.2.2.1 (k : Int)).1.getD (thickB (sAt S.2.2.1 (k : Int)).1 (sAt S.2.2.1 (k : Int)).1.length) 0)))), (9, .int (iI 1)), (10, .int (iI (sumF (escF (loss (sAt S.2.2.1 (k : Int)) S.2.2.1.1.2.1)) (sAt S.2.2.1 (k : Int)).1))), (11, .int (iI 2))]) dL_isBench_393 (by decide) rfl ?_
              exact L395 (1) 0 (by decide) 2 (by decide)
      have L70 : ∀ i, i ≤ (sAt S.2.2.1 (k : Int)).1.length → RR G ML_isBench 70 [(0, .ref x), (1, .int (iI (cnt isC (S.2.2.1.2.take (k + 1))))), (2, .int (iI ((k : Int)))), (3, .int (iI (((sAt S.2.2.1 (k : Int)).1.length : Int)))), (4, .int (iI (hgt ((sAt S.2.2.1 (k : Int)).1.take i)))), (5, .int (iI (hBut ((sAt S.2.2.1 (k : Int)).1.take i)))), (6, .int (iI (nBut ((sAt S.2.2.1 (k : Int)).1.take i)))), (7, .int (iI (sz ((sAt S.2.2.1 (k : Int)).1.getD (thinB (sAt S.2.2.1 (k : Int)).1 (sAt S.2.2.1 (k : Int)).1.length) 0)))), (8, .int (iI (sz ((sAt S.2.2.1 (k : Int)).1.getD (thickB (sAt S.2.2.1 (k : Int)).1 (sAt S.2.2.1 (k : Int)).1.length) 0)))), (9, .int (iI ((i : Int))))] [] h (xm_R ML_isBench).cells (xm_R ML_isBench).slots (qI (1) h) := by
        refine down (fun i hi ih => ?_)
        by_cases hin : i < (sAt S.2.2.1 (k : Int)).1.length
        · have hsi := sz_le (l := (sAt S.2.2.1 (k : Int)).1) (i := i) (by omega)
          have hs1 := sz_pos (hS.2.1 _ (getD_mem (i := i) (by omega)))
          have hmn := thinB_min (sAt S.2.2.1 (k : Int)).1 (sAt S.2.2.1 (k : Int)).1.length i (by omega)
          have hmx := thickB_max (sAt S.2.2.1 (k : Int)).1 (sAt S.2.2.1 (k : Int)).1.length i (by omega)
          refine r_iload dL_isBench_70 9 rfl ?_
          refine r_iload_n dL_isBench_72 3 rfl ?_
          refine i_icmpge dL_isBench_73 (tgt := 161) (by decide) (by unfold in32; omega) (by unfold in32; omega) (fun c => (by exfalso; omega)) (fun _ => ?_)
          refine r_aload_n dL_isBench_76 0 rfl ?_
          refine r_iload_n dL_isBench_77 2 rfl ?_
          refine r_iload dL_isBench_78 9 rfl ?_
          refine p_callV (As := [.int (iI ((k : Int))), .int (iI ((i : Int)))]) (b := x) (rest := []) (w := (some (.int (iI (sz ((sAt S.2.2.1 (k : Int)).1.getD i 0)))))) (st' := [.int (iI (sz ((sAt S.2.2.1 (k : Int)).1.getD i 0)))]) kv_L_isBench_72 dL_isBench_80 rfl rfl (Nat.le_of_ble_eq_true rfl) (Nat.le_of_ble_eq_true rfl) (xb_rv hX) rfl rfl (c_X11_thickness_ok hGC hGT hGE hX hW hzk hsk (q := (i : Int)) (by unfold in32; omega) (by omega)) rfl (fun hk1 e9k1 => ?_)
          rw [show hk1 = h from e9k1]
          refine r_istore (ls' := [(0, .ref x), (1, .int (iI (cnt isC (S.2.2.1.2.take (k + 1))))), (2, .int (iI ((k : Int)))), (3, .int (iI (((sAt S.2.2.1 (k : Int)).1.length : Int)))), (4, .int (iI (hgt ((sAt S.2.2.1 (k : Int)).1.take i)))), (5, .int (iI (hBut ((sAt S.2.2.1 (k : Int)).1.take i)))), (6, .int (iI (nBut ((sAt S.2.2.1 (k : Int)).1.take i)))), (7, .int (iI (sz ((sAt S.2.2.1 (k : Int)).1.getD (thinB (sAt S.2.2.1 (k : Int)).1 (sAt S.2.2.1 (k : Int)).1.length) 0)))), (8, .int (iI (sz ((sAt S.2.2.1 (k : Int)).1.getD (thickB (sAt S.2.2.1 (k : Int)).1 (sAt S.2.2.1 (k : Int)).1.length) 0)))), (9, .int (iI ((i : Int)))), (10, .int (iI (sz ((sAt S.2.2.1 (k : Int)).1.getD i 0))))]) dL_isBench_83 (by decide) rfl ?_
          refine r_iload dL_isBench_85 4 rfl ?_
          refine r_iload dL_isBench_87 10 rfl ?_
          refine i_add dL_isBench_89 ?_
          refine r_istore (ls' := [(0, .ref x), (1, .int (iI (cnt isC (S.2.2.1.2.take (k + 1))))), (2, .int (iI ((k : Int)))), (3, .int (iI (((sAt S.2.2.1 (k : Int)).1.length : Int)))), (4, .int (iI ((hgt ((sAt S.2.2.1 (k : Int)).1.take i)) + (sz ((sAt S.2.2.1 (k : Int)).1.getD i 0))))), (5, .int (iI (hBut ((sAt S.2.2.1 (k : Int)).1.take i)))), (6, .int (iI (nBut ((sAt S.2.2.1 (k : Int)).1.take i)))), (7, .int (iI (sz ((sAt S.2.2.1 (k : Int)).1.getD (thinB (sAt S.2.2.1 (k : Int)).1 (sAt S.2.2.1 (k : Int)).1.length) 0)))), (8, .int (iI (sz ((sAt S.2.2.1 (k : Int)).1.getD (thickB (sAt S.2.2.1 (k : Int)).1 (sAt S.2.2.1 (k : Int)).1.length) 0)))), (9, .int (iI ((i : Int)))), (10, .int (iI (sz ((sAt S.2.2.1 (k : Int)).1.getD i 0))))]) dL_isBench_90 (by decide) rfl ?_
          refine r_iload dL_isBench_92 5 rfl ?_
          refine r_aload_n dL_isBench_94 0 rfl ?_
          refine r_iload_n dL_isBench_95 2 rfl ?_
          refine r_iload dL_isBench_96 9 rfl ?_
          refine p_callV (As := [.int (iI ((k : Int))), .int (iI ((i : Int)))]) (b := x) (rest := [.int (iI (hBut ((sAt S.2.2.1 (k : Int)).1.take i)))]) (w := (some (.int (iI (b2 (isB ((sAt S.2.2.1 (k : Int)).1.getD i 0))))))) (st' := [.int (iI (b2 (isB ((sAt S.2.2.1 (k : Int)).1.getD i 0)))), .int (iI (hBut ((sAt S.2.2.1 (k : Int)).1.take i)))]) kv_L_isBench_68 dL_isBench_98 rfl rfl (Nat.le_of_ble_eq_true rfl) (Nat.le_of_ble_eq_true rfl) (xb_rv hX) rfl rfl (c_X11_isButter_ok hGC hGT hGE hX hW hzk hsk (q := (i : Int)) (by unfold in32; omega) (by omega)) rfl (fun hk2 e9k2 => ?_)
          rw [show hk2 = h from e9k2]
          refine i_ifeqb dL_isBench_101 (tgt := 109) (by decide) (fun c101 => ?_) (fun c101 => ?_)
          · refine i_const (0) dL_isBench_109 ?_
            refine i_add dL_isBench_110 ?_
            refine r_istore (ls' := [(0, .ref x), (1, .int (iI (cnt isC (S.2.2.1.2.take (k + 1))))), (2, .int (iI ((k : Int)))), (3, .int (iI (((sAt S.2.2.1 (k : Int)).1.length : Int)))), (4, .int (iI ((hgt ((sAt S.2.2.1 (k : Int)).1.take i)) + (sz ((sAt S.2.2.1 (k : Int)).1.getD i 0))))), (5, .int (iI ((hBut ((sAt S.2.2.1 (k : Int)).1.take i)) + 0))), (6, .int (iI (nBut ((sAt S.2.2.1 (k : Int)).1.take i)))), (7, .int (iI (sz ((sAt S.2.2.1 (k : Int)).1.getD (thinB (sAt S.2.2.1 (k : Int)).1 (sAt S.2.2.1 (k : Int)).1.length) 0)))), (8, .int (iI (sz ((sAt S.2.2.1 (k : Int)).1.getD (thickB (sAt S.2.2.1 (k : Int)).1 (sAt S.2.2.1 (k : Int)).1.length) 0)))), (9, .int (iI ((i : Int)))), (10, .int (iI (sz ((sAt S.2.2.1 (k : Int)).1.getD i 0))))]) dL_isBench_111 (by decide) rfl ?_
            refine r_iload dL_isBench_113 6 rfl ?_
            refine r_aload_n dL_isBench_115 0 rfl ?_
            refine r_iload_n dL_isBench_116 2 rfl ?_
            refine r_iload dL_isBench_117 9 rfl ?_
            refine p_callV (As := [.int (iI ((k : Int))), .int (iI ((i : Int)))]) (b := x) (rest := [.int (iI (nBut ((sAt S.2.2.1 (k : Int)).1.take i)))]) (w := (some (.int (iI (b2 (isB ((sAt S.2.2.1 (k : Int)).1.getD i 0))))))) (st' := [.int (iI (b2 (isB ((sAt S.2.2.1 (k : Int)).1.getD i 0)))), .int (iI (nBut ((sAt S.2.2.1 (k : Int)).1.take i)))]) kv_L_isBench_68 dL_isBench_119 rfl rfl (Nat.le_of_ble_eq_true rfl) (Nat.le_of_ble_eq_true rfl) (xb_rv hX) rfl rfl (c_X11_isButter_ok hGC hGT hGE hX hW hzk hsk (q := (i : Int)) (by unfold in32; omega) (by omega)) rfl (fun hk3 e9k3 => ?_)
            rw [show hk3 = h from e9k3]
            refine i_ifeqb dL_isBench_122 (tgt := 129) (by decide) (fun _ => ?_) (fun c => absurd (c.symm.trans c101) (by decide))
            refine i_const (0) dL_isBench_129 ?_
            refine i_add dL_isBench_130 ?_
            refine r_istore (ls' := [(0, .ref x), (1, .int (iI (cnt isC (S.2.2.1.2.take (k + 1))))), (2, .int (iI ((k : Int)))), (3, .int (iI (((sAt S.2.2.1 (k : Int)).1.length : Int)))), (4, .int (iI ((hgt ((sAt S.2.2.1 (k : Int)).1.take i)) + (sz ((sAt S.2.2.1 (k : Int)).1.getD i 0))))), (5, .int (iI ((hBut ((sAt S.2.2.1 (k : Int)).1.take i)) + 0))), (6, .int (iI ((nBut ((sAt S.2.2.1 (k : Int)).1.take i)) + 0))), (7, .int (iI (sz ((sAt S.2.2.1 (k : Int)).1.getD (thinB (sAt S.2.2.1 (k : Int)).1 (sAt S.2.2.1 (k : Int)).1.length) 0)))), (8, .int (iI (sz ((sAt S.2.2.1 (k : Int)).1.getD (thickB (sAt S.2.2.1 (k : Int)).1 (sAt S.2.2.1 (k : Int)).1.length) 0)))), (9, .int (iI ((i : Int)))), (10, .int (iI (sz ((sAt S.2.2.1 (k : Int)).1.getD i 0))))]) dL_isBench_131 (by decide) rfl ?_
            refine r_iload dL_isBench_133 10 rfl ?_
            refine r_iload dL_isBench_135 7 rfl ?_
            refine i_icmplt dL_isBench_137 (tgt := 153) (by decide) (by unfold in32; omega) (by unfold in32; omega) (fun c => (by exfalso; omega)) (fun _ => ?_)
            refine r_iload dL_isBench_140 10 rfl ?_
            refine r_iload dL_isBench_142 8 rfl ?_
            refine i_icmpgt dL_isBench_144 (tgt := 153) (by decide) (by unfold in32; omega) (by unfold in32; omega) (fun c => (by exfalso; omega)) (fun _ => ?_)
            refine r_iload dL_isBench_147 10 rfl ?_
            refine i_const (1) dL_isBench_149 ?_
            refine i_icmpge dL_isBench_150 (tgt := 155) (by decide) (by unfold in32; omega) ⟨by decide, by decide⟩ (fun _ => ?_) (fun c => (by exfalso; omega))
            refine i_iinc (ls' := [(0, .ref x), (1, .int (iI (cnt isC (S.2.2.1.2.take (k + 1))))), (2, .int (iI ((k : Int)))), (3, .int (iI (((sAt S.2.2.1 (k : Int)).1.length : Int)))), (4, .int (iI ((hgt ((sAt S.2.2.1 (k : Int)).1.take i)) + (sz ((sAt S.2.2.1 (k : Int)).1.getD i 0))))), (5, .int (iI ((hBut ((sAt S.2.2.1 (k : Int)).1.take i)) + 0))), (6, .int (iI ((nBut ((sAt S.2.2.1 (k : Int)).1.take i)) + 0))), (7, .int (iI (sz ((sAt S.2.2.1 (k : Int)).1.getD (thinB (sAt S.2.2.1 (k : Int)).1 (sAt S.2.2.1 (k : Int)).1.length) 0)))), (8, .int (iI (sz ((sAt S.2.2.1 (k : Int)).1.getD (thickB (sAt S.2.2.1 (k : Int)).1 (sAt S.2.2.1 (k : Int)).1.length) 0)))), (9, .int (iI ((i : Int) + 1))), (10, .int (iI (sz ((sAt S.2.2.1 (k : Int)).1.getD i 0))))]) (1) (v := (i : Int) + 1) dL_isBench_155 9 rfl (by omega) (by decide) rfl ?_
            refine r_goto dL_isBench_158 (tgt := 70) (by decide) ?_
            rw [show hgt ((sAt S.2.2.1 (k : Int)).1.take i) + sz ((sAt S.2.2.1 (k : Int)).1.getD i 0) = hgt ((sAt S.2.2.1 (k : Int)).1.take (i + 1)) from (hgt_s (by omega)).symm]
            rw [show (hBut ((sAt S.2.2.1 (k : Int)).1.take i)) + 0 = hBut ((sAt S.2.2.1 (k : Int)).1.take (i + 1)) by rw [hBut_f (by omega) c101]; omega]
            rw [show (nBut ((sAt S.2.2.1 (k : Int)).1.take i)) + 0 = nBut ((sAt S.2.2.1 (k : Int)).1.take (i + 1)) by rw [nBut_f (by omega) c101]; omega]
            refine rr_take 10 rfl ?_
            exact ih (i + 1) (by omega) (by omega)
          · refine r_iload dL_isBench_104 10 rfl ?_
            refine r_goto dL_isBench_106 (tgt := 110) (by decide) ?_
            refine i_add dL_isBench_110 ?_
            refine r_istore (ls' := [(0, .ref x), (1, .int (iI (cnt isC (S.2.2.1.2.take (k + 1))))), (2, .int (iI ((k : Int)))), (3, .int (iI (((sAt S.2.2.1 (k : Int)).1.length : Int)))), (4, .int (iI ((hgt ((sAt S.2.2.1 (k : Int)).1.take i)) + (sz ((sAt S.2.2.1 (k : Int)).1.getD i 0))))), (5, .int (iI ((hBut ((sAt S.2.2.1 (k : Int)).1.take i)) + (sz ((sAt S.2.2.1 (k : Int)).1.getD i 0))))), (6, .int (iI (nBut ((sAt S.2.2.1 (k : Int)).1.take i)))), (7, .int (iI (sz ((sAt S.2.2.1 (k : Int)).1.getD (thinB (sAt S.2.2.1 (k : Int)).1 (sAt S.2.2.1 (k : Int)).1.length) 0)))), (8, .int (iI (sz ((sAt S.2.2.1 (k : Int)).1.getD (thickB (sAt S.2.2.1 (k : Int)).1 (sAt S.2.2.1 (k : Int)).1.length) 0)))), (9, .int (iI ((i : Int)))), (10, .int (iI (sz ((sAt S.2.2.1 (k : Int)).1.getD i 0))))]) dL_isBench_111 (by decide) rfl ?_
            refine r_iload dL_isBench_113 6 rfl ?_
            refine r_aload_n dL_isBench_115 0 rfl ?_
            refine r_iload_n dL_isBench_116 2 rfl ?_
            refine r_iload dL_isBench_117 9 rfl ?_
            refine p_callV (As := [.int (iI ((k : Int))), .int (iI ((i : Int)))]) (b := x) (rest := [.int (iI (nBut ((sAt S.2.2.1 (k : Int)).1.take i)))]) (w := (some (.int (iI (b2 (isB ((sAt S.2.2.1 (k : Int)).1.getD i 0))))))) (st' := [.int (iI (b2 (isB ((sAt S.2.2.1 (k : Int)).1.getD i 0)))), .int (iI (nBut ((sAt S.2.2.1 (k : Int)).1.take i)))]) kv_L_isBench_68 dL_isBench_119 rfl rfl (Nat.le_of_ble_eq_true rfl) (Nat.le_of_ble_eq_true rfl) (xb_rv hX) rfl rfl (c_X11_isButter_ok hGC hGT hGE hX hW hzk hsk (q := (i : Int)) (by unfold in32; omega) (by omega)) rfl (fun hk4 e9k4 => ?_)
            rw [show hk4 = h from e9k4]
            refine i_ifeqb dL_isBench_122 (tgt := 129) (by decide) (fun c => absurd (c.symm.trans c101) (by decide)) (fun _ => ?_)
            refine i_const (1) dL_isBench_125 ?_
            refine r_goto dL_isBench_126 (tgt := 130) (by decide) ?_
            refine i_add dL_isBench_130 ?_
            refine r_istore (ls' := [(0, .ref x), (1, .int (iI (cnt isC (S.2.2.1.2.take (k + 1))))), (2, .int (iI ((k : Int)))), (3, .int (iI (((sAt S.2.2.1 (k : Int)).1.length : Int)))), (4, .int (iI ((hgt ((sAt S.2.2.1 (k : Int)).1.take i)) + (sz ((sAt S.2.2.1 (k : Int)).1.getD i 0))))), (5, .int (iI ((hBut ((sAt S.2.2.1 (k : Int)).1.take i)) + (sz ((sAt S.2.2.1 (k : Int)).1.getD i 0))))), (6, .int (iI ((nBut ((sAt S.2.2.1 (k : Int)).1.take i)) + 1))), (7, .int (iI (sz ((sAt S.2.2.1 (k : Int)).1.getD (thinB (sAt S.2.2.1 (k : Int)).1 (sAt S.2.2.1 (k : Int)).1.length) 0)))), (8, .int (iI (sz ((sAt S.2.2.1 (k : Int)).1.getD (thickB (sAt S.2.2.1 (k : Int)).1 (sAt S.2.2.1 (k : Int)).1.length) 0)))), (9, .int (iI ((i : Int)))), (10, .int (iI (sz ((sAt S.2.2.1 (k : Int)).1.getD i 0))))]) dL_isBench_131 (by decide) rfl ?_
            refine r_iload dL_isBench_133 10 rfl ?_
            refine r_iload dL_isBench_135 7 rfl ?_
            refine i_icmplt dL_isBench_137 (tgt := 153) (by decide) (by unfold in32; omega) (by unfold in32; omega) (fun c => (by exfalso; omega)) (fun _ => ?_)
            refine r_iload dL_isBench_140 10 rfl ?_
            refine r_iload dL_isBench_142 8 rfl ?_
            refine i_icmpgt dL_isBench_144 (tgt := 153) (by decide) (by unfold in32; omega) (by unfold in32; omega) (fun c => (by exfalso; omega)) (fun _ => ?_)
            refine r_iload dL_isBench_147 10 rfl ?_
            refine i_const (1) dL_isBench_149 ?_
            refine i_icmpge dL_isBench_150 (tgt := 155) (by decide) (by unfold in32; omega) ⟨by decide, by decide⟩ (fun _ => ?_) (fun c => (by exfalso; omega))
            refine i_iinc (ls' := [(0, .ref x), (1, .int (iI (cnt isC (S.2.2.1.2.take (k + 1))))), (2, .int (iI ((k : Int)))), (3, .int (iI (((sAt S.2.2.1 (k : Int)).1.length : Int)))), (4, .int (iI ((hgt ((sAt S.2.2.1 (k : Int)).1.take i)) + (sz ((sAt S.2.2.1 (k : Int)).1.getD i 0))))), (5, .int (iI ((hBut ((sAt S.2.2.1 (k : Int)).1.take i)) + (sz ((sAt S.2.2.1 (k : Int)).1.getD i 0))))), (6, .int (iI ((nBut ((sAt S.2.2.1 (k : Int)).1.take i)) + 1))), (7, .int (iI (sz ((sAt S.2.2.1 (k : Int)).1.getD (thinB (sAt S.2.2.1 (k : Int)).1 (sAt S.2.2.1 (k : Int)).1.length) 0)))), (8, .int (iI (sz ((sAt S.2.2.1 (k : Int)).1.getD (thickB (sAt S.2.2.1 (k : Int)).1 (sAt S.2.2.1 (k : Int)).1.length) 0)))), (9, .int (iI ((i : Int) + 1))), (10, .int (iI (sz ((sAt S.2.2.1 (k : Int)).1.getD i 0))))]) (1) (v := (i : Int) + 1) dL_isBench_155 9 rfl (by omega) (by decide) rfl ?_
            refine r_goto dL_isBench_158 (tgt := 70) (by decide) ?_
            rw [show hgt ((sAt S.2.2.1 (k : Int)).1.take i) + sz ((sAt S.2.2.1 (k : Int)).1.getD i 0) = hgt ((sAt S.2.2.1 (k : Int)).1.take (i + 1)) from (hgt_s (by omega)).symm]
            rw [show (hBut ((sAt S.2.2.1 (k : Int)).1.take i)) + (sz ((sAt S.2.2.1 (k : Int)).1.getD i 0)) = hBut ((sAt S.2.2.1 (k : Int)).1.take (i + 1)) by rw [hBut_t (by omega) c101]]
            rw [show (nBut ((sAt S.2.2.1 (k : Int)).1.take i)) + 1 = nBut ((sAt S.2.2.1 (k : Int)).1.take (i + 1)) by rw [nBut_t (by omega) c101]]
            refine rr_take 10 rfl ?_
            exact ih (i + 1) (by omega) (by omega)
        · have ei : i = (sAt S.2.2.1 (k : Int)).1.length := by omega
          subst ei
          rw [take_all]
          refine r_iload dL_isBench_70 9 rfl ?_
          refine r_iload_n dL_isBench_72 3 rfl ?_
          refine i_icmpge dL_isBench_73 (tgt := 161) (by decide) (by unfold in32; omega) (by unfold in32; omega) (fun _ => ?_) (fun c => (by exfalso; omega))
          exact L161
      refine rr_take 3 rfl ?_
      refine r_iload_n dL_isBench_4 2 rfl ?_
      refine r_aload_n dL_isBench_5 0 rfl ?_
      refine p_callV (As := []) (b := x) (rest := [.int (iI ((k : Int)))]) (w := (some (.int (iI ((S.2.2.1.2.length : Int)))))) (st' := [.int (iI ((S.2.2.1.2.length : Int))), .int (iI ((k : Int)))]) kv_L_isBench_30 dL_isBench_6 rfl rfl (Nat.le_of_ble_eq_true rfl) (Nat.le_of_ble_eq_true rfl) (xb_rv hX) rfl rfl (c_X11_sheetCount hGC hGT hGE hX hW) rfl (fun hk1 e9k1 => ?_)
      rw [show hk1 = h from e9k1]
      refine i_icmpge dL_isBench_9 (tgt := 544) (by decide) (by unfold in32; omega) (by unfold in32; omega) (fun c => (by exfalso; omega)) (fun _ => ?_)
      refine r_aload_n dL_isBench_12 0 rfl ?_
      refine r_iload_n dL_isBench_13 2 rfl ?_
      refine p_callV (As := [.int (iI ((k : Int)))]) (b := x) (rest := []) (w := (some (.int (iI (((sAt S.2.2.1 (k : Int)).1.length : Int)))))) (st' := [.int (iI (((sAt S.2.2.1 (k : Int)).1.length : Int)))]) kv_L_isBench_33 dL_isBench_14 rfl rfl (Nat.le_of_ble_eq_true rfl) (Nat.le_of_ble_eq_true rfl) (xb_rv hX) rfl rfl (c_X11_layerCount_ok hGC hGT hGE hX hW hzk hsk) rfl (fun hk2 e9k2 => ?_)
      rw [show hk2 = h from e9k2]
      refine r_istore_n (ls' := [(0, .ref x), (1, .int (iI (cnt isC (S.2.2.1.2.take k)))), (2, .int (iI ((k : Int)))), (3, .int (iI (((sAt S.2.2.1 (k : Int)).1.length : Int))))]) dL_isBench_17 (by decide) rfl ?_
      refine i_const (0) dL_isBench_18 ?_
      refine r_istore (ls' := [(0, .ref x), (1, .int (iI (cnt isC (S.2.2.1.2.take k)))), (2, .int (iI ((k : Int)))), (3, .int (iI (((sAt S.2.2.1 (k : Int)).1.length : Int)))), (4, .int (iI 0))]) dL_isBench_19 (by decide) rfl ?_
      refine i_const (0) dL_isBench_21 ?_
      refine r_istore (ls' := [(0, .ref x), (1, .int (iI (cnt isC (S.2.2.1.2.take k)))), (2, .int (iI ((k : Int)))), (3, .int (iI (((sAt S.2.2.1 (k : Int)).1.length : Int)))), (4, .int (iI 0)), (5, .int (iI 0))]) dL_isBench_22 (by decide) rfl ?_
      refine i_const (0) dL_isBench_24 ?_
      refine r_istore (ls' := [(0, .ref x), (1, .int (iI (cnt isC (S.2.2.1.2.take k)))), (2, .int (iI ((k : Int)))), (3, .int (iI (((sAt S.2.2.1 (k : Int)).1.length : Int)))), (4, .int (iI 0)), (5, .int (iI 0)), (6, .int (iI 0))]) dL_isBench_25 (by decide) rfl ?_
      refine r_aload_n dL_isBench_27 0 rfl ?_
      refine r_iload_n dL_isBench_28 2 rfl ?_
      refine r_aload_n dL_isBench_29 0 rfl ?_
      refine r_iload_n dL_isBench_30 2 rfl ?_
      refine p_callV (As := [.int (iI ((k : Int)))]) (b := x) (rest := [.int (iI ((k : Int))), .ref x]) (w := (some (.int (iI ((thinB (sAt S.2.2.1 (k : Int)).1 (sAt S.2.2.1 (k : Int)).1.length : Int)))))) (st' := [.int (iI ((thinB (sAt S.2.2.1 (k : Int)).1 (sAt S.2.2.1 (k : Int)).1.length : Int))), .int (iI ((k : Int))), .ref x]) kv_L_isBench_76 dL_isBench_31 rfl rfl (Nat.le_of_ble_eq_true rfl) (Nat.le_of_ble_eq_true rfl) (xb_rv hX) rfl rfl (c_X11_thinnestLayer_ok hGC hGT hGE hX hW hzk hsk) rfl (fun hk3 e9k3 => ?_)
      rw [show hk3 = h from e9k3]
      refine p_callV (As := [.int (iI ((k : Int))), .int (iI ((thinB (sAt S.2.2.1 (k : Int)).1 (sAt S.2.2.1 (k : Int)).1.length : Int)))]) (b := x) (rest := []) (w := (some (.int (iI (sz ((sAt S.2.2.1 (k : Int)).1.getD (thinB (sAt S.2.2.1 (k : Int)).1 (sAt S.2.2.1 (k : Int)).1.length) 0)))))) (st' := [.int (iI (sz ((sAt S.2.2.1 (k : Int)).1.getD (thinB (sAt S.2.2.1 (k : Int)).1 (sAt S.2.2.1 (k : Int)).1.length) 0)))]) kv_L_isBench_72 dL_isBench_34 rfl rfl (Nat.le_of_ble_eq_true rfl) (Nat.le_of_ble_eq_true rfl) (xb_rv hX) rfl rfl (c_X11_thickness_ok hGC hGT hGE hX hW hzk hsk (q := (thinB (sAt S.2.2.1 (k : Int)).1 (sAt S.2.2.1 (k : Int)).1.length : Int)) (by unfold in32; omega) (by omega)) rfl (fun hk4 e9k4 => ?_)
      rw [show hk4 = h from e9k4]
      refine r_istore (ls' := [(0, .ref x), (1, .int (iI (cnt isC (S.2.2.1.2.take k)))), (2, .int (iI ((k : Int)))), (3, .int (iI (((sAt S.2.2.1 (k : Int)).1.length : Int)))), (4, .int (iI 0)), (5, .int (iI 0)), (6, .int (iI 0)), (7, .int (iI (sz ((sAt S.2.2.1 (k : Int)).1.getD (thinB (sAt S.2.2.1 (k : Int)).1 (sAt S.2.2.1 (k : Int)).1.length) 0))))]) dL_isBench_37 (by decide) rfl ?_
      refine r_aload_n dL_isBench_39 0 rfl ?_
      refine r_iload_n dL_isBench_40 2 rfl ?_
      refine r_aload_n dL_isBench_41 0 rfl ?_
      refine r_iload_n dL_isBench_42 2 rfl ?_
      refine p_callV (As := [.int (iI ((k : Int)))]) (b := x) (rest := [.int (iI ((k : Int))), .ref x]) (w := (some (.int (iI ((thickB (sAt S.2.2.1 (k : Int)).1 (sAt S.2.2.1 (k : Int)).1.length : Int)))))) (st' := [.int (iI ((thickB (sAt S.2.2.1 (k : Int)).1 (sAt S.2.2.1 (k : Int)).1.length : Int))), .int (iI ((k : Int))), .ref x]) kv_L_isBench_79 dL_isBench_43 rfl rfl (Nat.le_of_ble_eq_true rfl) (Nat.le_of_ble_eq_true rfl) (xb_rv hX) rfl rfl (c_X11_thickestLayer_ok hGC hGT hGE hX hW hzk hsk) rfl (fun hk5 e9k5 => ?_)
      rw [show hk5 = h from e9k5]
      refine p_callV (As := [.int (iI ((k : Int))), .int (iI ((thickB (sAt S.2.2.1 (k : Int)).1 (sAt S.2.2.1 (k : Int)).1.length : Int)))]) (b := x) (rest := []) (w := (some (.int (iI (sz ((sAt S.2.2.1 (k : Int)).1.getD (thickB (sAt S.2.2.1 (k : Int)).1 (sAt S.2.2.1 (k : Int)).1.length) 0)))))) (st' := [.int (iI (sz ((sAt S.2.2.1 (k : Int)).1.getD (thickB (sAt S.2.2.1 (k : Int)).1 (sAt S.2.2.1 (k : Int)).1.length) 0)))]) kv_L_isBench_72 dL_isBench_46 rfl rfl (Nat.le_of_ble_eq_true rfl) (Nat.le_of_ble_eq_true rfl) (xb_rv hX) rfl rfl (c_X11_thickness_ok hGC hGT hGE hX hW hzk hsk (q := (thickB (sAt S.2.2.1 (k : Int)).1 (sAt S.2.2.1 (k : Int)).1.length : Int)) (by unfold in32; omega) (by omega)) rfl (fun hk6 e9k6 => ?_)
      rw [show hk6 = h from e9k6]
      refine r_istore (ls' := [(0, .ref x), (1, .int (iI (cnt isC (S.2.2.1.2.take k)))), (2, .int (iI ((k : Int)))), (3, .int (iI (((sAt S.2.2.1 (k : Int)).1.length : Int)))), (4, .int (iI 0)), (5, .int (iI 0)), (6, .int (iI 0)), (7, .int (iI (sz ((sAt S.2.2.1 (k : Int)).1.getD (thinB (sAt S.2.2.1 (k : Int)).1 (sAt S.2.2.1 (k : Int)).1.length) 0)))), (8, .int (iI (sz ((sAt S.2.2.1 (k : Int)).1.getD (thickB (sAt S.2.2.1 (k : Int)).1 (sAt S.2.2.1 (k : Int)).1.length) 0))))]) dL_isBench_49 (by decide) rfl ?_
      refine r_iload_n dL_isBench_51 1 rfl ?_
      refine r_aload_n dL_isBench_52 0 rfl ?_
      refine r_iload_n dL_isBench_53 2 rfl ?_
      refine p_callV (As := [.int (iI ((k : Int)))]) (b := x) (rest := [.int (iI (cnt isC (S.2.2.1.2.take k)))]) (w := (some (.int (iI (b2 (sAt S.2.2.1 (k : Int)).2.2.2.2.2.2))))) (st' := [.int (iI (b2 (sAt S.2.2.1 (k : Int)).2.2.2.2.2.2)), .int (iI (cnt isC (S.2.2.1.2.take k)))]) kv_L_isBench_65 dL_isBench_54 rfl rfl (Nat.le_of_ble_eq_true rfl) (Nat.le_of_ble_eq_true rfl) (xb_rv hX) rfl rfl (c_X11_isCooling_ok hGC hGT hGE hX hW hzk hsk) rfl (fun hk7 e9k7 => ?_)
      rw [show hk7 = h from e9k7]
      refine i_ifeqb dL_isBench_57 (tgt := 64) (by decide) (fun c57 => ?_) (fun c57 => ?_)
      · refine i_const (0) dL_isBench_64 ?_
        refine i_add dL_isBench_65 ?_
        refine r_istore_n (ls' := [(0, .ref x), (1, .int (iI ((cnt isC (S.2.2.1.2.take k)) + 0))), (2, .int (iI ((k : Int)))), (3, .int (iI (((sAt S.2.2.1 (k : Int)).1.length : Int)))), (4, .int (iI 0)), (5, .int (iI 0)), (6, .int (iI 0)), (7, .int (iI (sz ((sAt S.2.2.1 (k : Int)).1.getD (thinB (sAt S.2.2.1 (k : Int)).1 (sAt S.2.2.1 (k : Int)).1.length) 0)))), (8, .int (iI (sz ((sAt S.2.2.1 (k : Int)).1.getD (thickB (sAt S.2.2.1 (k : Int)).1 (sAt S.2.2.1 (k : Int)).1.length) 0))))]) dL_isBench_66 (by decide) rfl ?_
        refine i_const (0) dL_isBench_67 ?_
        refine r_istore (ls' := [(0, .ref x), (1, .int (iI ((cnt isC (S.2.2.1.2.take k)) + 0))), (2, .int (iI ((k : Int)))), (3, .int (iI (((sAt S.2.2.1 (k : Int)).1.length : Int)))), (4, .int (iI 0)), (5, .int (iI 0)), (6, .int (iI 0)), (7, .int (iI (sz ((sAt S.2.2.1 (k : Int)).1.getD (thinB (sAt S.2.2.1 (k : Int)).1 (sAt S.2.2.1 (k : Int)).1.length) 0)))), (8, .int (iI (sz ((sAt S.2.2.1 (k : Int)).1.getD (thickB (sAt S.2.2.1 (k : Int)).1 (sAt S.2.2.1 (k : Int)).1.length) 0)))), (9, .int (iI 0))]) dL_isBench_68 (by decide) rfl ?_
        rw [show (cnt isC (S.2.2.1.2.take k)) + 0 = cnt isC (S.2.2.1.2.take (k + 1)) by rw [cnt_f (by omega) c57]; omega]
        have L0 := L70 0 (Nat.zero_le _)
        rw [List.take_zero] at L0
        exact L0
      · refine i_const (1) dL_isBench_60 ?_
        refine r_goto dL_isBench_61 (tgt := 65) (by decide) ?_
        refine i_add dL_isBench_65 ?_
        refine r_istore_n (ls' := [(0, .ref x), (1, .int (iI ((cnt isC (S.2.2.1.2.take k)) + 1))), (2, .int (iI ((k : Int)))), (3, .int (iI (((sAt S.2.2.1 (k : Int)).1.length : Int)))), (4, .int (iI 0)), (5, .int (iI 0)), (6, .int (iI 0)), (7, .int (iI (sz ((sAt S.2.2.1 (k : Int)).1.getD (thinB (sAt S.2.2.1 (k : Int)).1 (sAt S.2.2.1 (k : Int)).1.length) 0)))), (8, .int (iI (sz ((sAt S.2.2.1 (k : Int)).1.getD (thickB (sAt S.2.2.1 (k : Int)).1 (sAt S.2.2.1 (k : Int)).1.length) 0))))]) dL_isBench_66 (by decide) rfl ?_
        refine i_const (0) dL_isBench_67 ?_
        refine r_istore (ls' := [(0, .ref x), (1, .int (iI ((cnt isC (S.2.2.1.2.take k)) + 1))), (2, .int (iI ((k : Int)))), (3, .int (iI (((sAt S.2.2.1 (k : Int)).1.length : Int)))), (4, .int (iI 0)), (5, .int (iI 0)), (6, .int (iI 0)), (7, .int (iI (sz ((sAt S.2.2.1 (k : Int)).1.getD (thinB (sAt S.2.2.1 (k : Int)).1 (sAt S.2.2.1 (k : Int)).1.length) 0)))), (8, .int (iI (sz ((sAt S.2.2.1 (k : Int)).1.getD (thickB (sAt S.2.2.1 (k : Int)).1 (sAt S.2.2.1 (k : Int)).1.length) 0)))), (9, .int (iI 0))]) dL_isBench_68 (by decide) rfl ?_
        rw [show (cnt isC (S.2.2.1.2.take k)) + 1 = cnt isC (S.2.2.1.2.take (k + 1)) by rw [cnt_t (by omega) c57]]
        have L0 := L70 0 (Nat.zero_le _)
        rw [List.take_zero] at L0
        exact L0
    · have ek : k = S.2.2.1.2.length := by omega
      subst ek
      rw [take_allS]
      have hcc := cnt_b isC S.2.2.1.2
      have hgw := grt_b (f := dgS) hn1
      refine r_iload_n dL_isBench_4 2 rfl ?_
      refine r_aload_n dL_isBench_5 0 rfl ?_
      refine p_callV (As := []) (b := x) (rest := [.int (iI ((S.2.2.1.2.length : Int)))]) (w := (some (.int (iI ((S.2.2.1.2.length : Int)))))) (st' := [.int (iI ((S.2.2.1.2.length : Int))), .int (iI ((S.2.2.1.2.length : Int)))]) kv_L_isBench_30 dL_isBench_6 rfl rfl (Nat.le_of_ble_eq_true rfl) (Nat.le_of_ble_eq_true rfl) (xb_rv hX) rfl rfl (c_X11_sheetCount hGC hGT hGE hX hW) rfl (fun hk1 e9k1 => ?_)
      rw [show hk1 = h from e9k1]
      refine i_icmpge dL_isBench_9 (tgt := 544) (by decide) (by unfold in32; omega) (by unfold in32; omega) (fun _ => ?_) (fun c => (by exfalso; omega))
      refine r_iload_n dL_isBench_544 1 rfl ?_
      refine i_const (3) dL_isBench_545 ?_
      refine i_icmpgt dL_isBench_546 (tgt := 587) (by decide) (by unfold in32; omega) ⟨by decide, by decide⟩ (fun c => (by exfalso; omega)) (fun _ => ?_)
      refine r_aload_n dL_isBench_549 0 rfl ?_
      refine p_callV (As := []) (b := x) (rest := []) (w := (some (.int (iI (grt dgS S.2.2.1.2))))) (st' := [.int (iI (grt dgS S.2.2.1.2))]) kv_L_isBench_106 dL_isBench_550 rfl rfl (Nat.le_of_ble_eq_true rfl) (Nat.le_of_ble_eq_true rfl) (xb_rv hX) rfl rfl (c_X11_warmestSheet hGC hGT hGE hX hW) rfl (fun hk2 e9k2 => ?_)
      rw [show hk2 = h from e9k2]
      refine i_ifge dL_isBench_553 (tgt := 560) (by decide) (by unfold in32; omega) (fun _ => ?_) (fun c => (by exfalso; omega))
      refine i_const (0) dL_isBench_560 ?_
      refine r_aload_n dL_isBench_561 0 rfl ?_
      refine p_callV (As := []) (b := x) (rest := [.int (iI 0)]) (w := (some (.int (iI ((S.2.2.1.2.length : Int)))))) (st' := [.int (iI ((S.2.2.1.2.length : Int))), .int (iI 0)]) kv_L_isBench_30 dL_isBench_562 rfl rfl (Nat.le_of_ble_eq_true rfl) (Nat.le_of_ble_eq_true rfl) (xb_rv hX) rfl rfl (c_X11_sheetCount hGC hGT hGE hX hW) rfl (fun hk3 e9k3 => ?_)
      rw [show hk3 = h from e9k3]
      refine i_ifne dL_isBench_565 (tgt := 572) (by decide) (by unfold in32; omega) (fun _ => ?_) (fun c => (by exfalso; omega))
      refine i_const (0) dL_isBench_572 ?_
      refine i_icmpne dL_isBench_573 (tgt := 587) (by decide) ⟨by decide, by decide⟩ ⟨by decide, by decide⟩ (fun c => absurd c (by decide)) (fun _ => ?_)
      refine r_aload_n dL_isBench_576 0 rfl ?_
      refine p_callV (As := []) (b := x) (rest := []) (w := (some (.int (iI S.2.2.1.1.2.2.1)))) (st' := [.int (iI S.2.2.1.1.2.2.1)]) kv_L_isBench_37 dL_isBench_577 rfl rfl (Nat.le_of_ble_eq_true rfl) (Nat.le_of_ble_eq_true rfl) (xb_rv hX) rfl rfl (c_X11_flour hGC hGT hGE hX hW) rfl (fun hk4 e9k4 => ?_)
      rw [show hk4 = h from e9k4]
      refine i_iflt dL_isBench_580 (tgt := 587) (by decide) (by unfold in32; omega) (fun c => (by exfalso; omega)) (fun _ => ?_)
      refine i_const (1) dL_isBench_583 ?_
      refine r_goto dL_isBench_584 (tgt := 588) (by decide) ?_
      refine r_ireturn rfl (b2_nar true) dL_isBench_588 ?_
      exact ⟨rfl, rfl⟩
  show RR G ML_isBench 0 [(0, .ref x)] [] h (xm_R ML_isBench).cells (xm_R ML_isBench).slots (qI (1) h)
  refine i_const (0) dL_isBench_0 ?_
  refine r_istore_n (ls' := [(0, .ref x), (1, .int (iI 0))]) dL_isBench_1 (by decide) rfl ?_
  refine i_const (0) dL_isBench_2 ?_
  refine r_istore_n (ls' := [(0, .ref x), (1, .int (iI 0)), (2, .int (iI 0))]) dL_isBench_3 (by decide) rfl ?_
  have L0 := LO 0 (Nat.zero_le _)
  exact L0
