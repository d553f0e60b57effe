/-! ===== the little helpers of the class ===== -/
def isFac (z : Int) : Bool := decide (2 ≤ z) && decide (z ≤ 4)
def folded (n p : Int) (d : Bool) : Int := n * p - (if d then 0 else p - 1)
def warmed (w : Int) : Int := min 40 (w + 2)
def cooled (w : Int) : Int := if w ≤ 4 then w else max 4 (w - 4)
def drawn (w r : Int) : Int := if w = r then w else if w < r then w + 1 else w - 1
set_option maxRecDepth 20000 in
set_option maxHeartbeats 1000000 in
theorem c_X11_isFactor {G : xG} {h : xH} {z : Int} (hz : in32 z) : CC G MX11_isFactor [.int (iI z)] h (qI (b2 (isFac z)) h) := by
  show RR G MX11_isFactor 0 [(0, .int (iI z))] [] h (xm_R MX11_isFactor).cells (xm_R MX11_isFactor).slots (qI (b2 (isFac z)) h)
  refine r_iload_n dX11_isFactor_0 0 rfl ?_
  refine i_const (2) dX11_isFactor_1 ?_
  refine i_icmplt dX11_isFactor_2 (tgt := 14) (by decide) (by first | assumption | exact ⟨by decide, by decide⟩) ⟨by decide, by decide⟩ (fun c2 => ?_) (fun c2 => ?_)
  · refine i_const (0) dX11_isFactor_14 ?_
    refine r_ireturn rfl (b2_nar false) dX11_isFactor_15 ?_
    refine ⟨?_, rfl⟩
    simp only [isFac]
    first | rw [show decide (2 ≤ z) = true by simp; omega, show decide (z ≤ 4) = true by simp; omega]; rfl | rw [show decide (2 ≤ z) = false by simp; omega]; rfl | rw [show decide (z ≤ 4) = false by simp; omega, Bool.and_false]; rfl
  · refine r_iload_n dX11_isFactor_5 0 rfl ?_
    refine i_const (4) dX11_isFactor_6 ?_
    refine i_icmpgt dX11_isFactor_7 (tgt := 14) (by decide) (by first | assumption | exact ⟨by decide, by decide⟩) ⟨by decide, by decide⟩ (fun c7 => ?_) (fun c7 => ?_)
    · refine i_const (0) dX11_isFactor_14 ?_
      refine r_ireturn rfl (b2_nar false) dX11_isFactor_15 ?_
      refine ⟨?_, rfl⟩
      simp only [isFac]
      first | rw [show decide (2 ≤ z) = true by simp; omega, show decide (z ≤ 4) = true by simp; omega]; rfl | rw [show decide (2 ≤ z) = false by simp; omega]; rfl | rw [show decide (z ≤ 4) = false by simp; omega, Bool.and_false]; rfl
    · refine i_const (1) dX11_isFactor_10 ?_
      refine r_goto dX11_isFactor_11 (tgt := 15) (by decide) ?_
      refine r_ireturn rfl (b2_nar true) dX11_isFactor_15 ?_
      refine ⟨?_, rfl⟩
      simp only [isFac]
      first | rw [show decide (2 ≤ z) = true by simp; omega, show decide (z ≤ 4) = true by simp; omega]; rfl | rw [show decide (2 ≤ z) = false by simp; omega]; rfl | rw [show decide (z ≤ 4) = false by simp; omega, Bool.and_false]; rfl
set_option maxRecDepth 20000 in
set_option maxHeartbeats 1000000 in
theorem c_X11_layersFolded {G : xG} {h : xH} {n q : Int} {d : Bool} : CC G MX11_layersFolded [.int (iI n), .int (iI q), .int (iI (b2 d))] h (qI (folded n q d) h) := by
  show RR G MX11_layersFolded 0 [(0, .int (iI n)), (1, .int (iI q)), (2, .int (iI (b2 d)))] [] h (xm_R MX11_layersFolded).cells (xm_R MX11_layersFolded).slots (qI (folded n q d) h)
  refine r_iload_n dX11_layersFolded_0 1 rfl ?_
  refine i_const (1) dX11_layersFolded_1 ?_
  refine i_sub dX11_layersFolded_2 ?_
  refine r_istore_n (ls' := [(0, .int (iI n)), (1, .int (iI q)), (2, .int (iI (b2 d))), (3, .int (iI (q - 1)))]) dX11_layersFolded_3 (by decide) rfl ?_
  refine r_iload_n dX11_layersFolded_4 0 rfl ?_
  refine r_iload_n dX11_layersFolded_5 1 rfl ?_
  refine i_mul dX11_layersFolded_6 ?_
  refine r_iload_n dX11_layersFolded_7 2 rfl ?_
  refine i_ifeqb dX11_layersFolded_8 (tgt := 15) (by decide) (fun c8 => ?_) (fun c8 => ?_)
  · refine r_iload_n dX11_layersFolded_15 3 rfl ?_
    refine i_sub dX11_layersFolded_16 ?_
    refine r_ireturn rfl rfl dX11_layersFolded_17 ?_
    refine ⟨?_, rfl⟩
    simp only [folded, c8, if_true, Bool.false_eq_true, if_false, Int.sub_zero]
  · refine i_const (0) dX11_layersFolded_11 ?_
    refine r_goto dX11_layersFolded_12 (tgt := 16) (by decide) ?_
    refine i_sub dX11_layersFolded_16 ?_
    refine r_ireturn rfl rfl dX11_layersFolded_17 ?_
    refine ⟨?_, rfl⟩
    simp only [folded, c8, if_true, Bool.false_eq_true, if_false, Int.sub_zero]
set_option maxRecDepth 20000 in
set_option maxHeartbeats 1000000 in
theorem c_X11_warmedByWork {G : xG} {h : xH} {w : Int} (hw : 0 ≤ w ∧ w ≤ 100) : CC G MX11_warmedByWork [.int (iI w)] h (qI (warmed w) h) := by
  show RR G MX11_warmedByWork 0 [(0, .int (iI w))] [] h (xm_R MX11_warmedByWork).cells (xm_R MX11_warmedByWork).slots (qI (warmed w) h)
  refine i_bipush (40) (by decide) dX11_warmedByWork_0 ?_
  refine r_iload_n dX11_warmedByWork_2 0 rfl ?_
  refine i_const (2) dX11_warmedByWork_3 ?_
  refine i_add dX11_warmedByWork_4 ?_
  refine i_min (kv_X11_warmedByWork_359 0 (by decide)) rfl dX11_warmedByWork_5 ⟨by decide, by decide⟩ (by unfold in32; omega) ?_
  refine r_ireturn rfl rfl dX11_warmedByWork_8 ?_
  exact ⟨rfl, rfl⟩
set_option maxRecDepth 20000 in
set_option maxHeartbeats 1000000 in
theorem c_X11_cooledByFridge {G : xG} {h : xH} {w : Int} (hw : 0 ≤ w ∧ w ≤ 100) : CC G MX11_cooledByFridge [.int (iI w)] h (qI (cooled w) h) := by
  show RR G MX11_cooledByFridge 0 [(0, .int (iI w))] [] h (xm_R MX11_cooledByFridge).cells (xm_R MX11_cooledByFridge).slots (qI (cooled w) h)
  refine r_iload_n dX11_cooledByFridge_0 0 rfl ?_
  refine i_const (4) dX11_cooledByFridge_1 ?_
  refine i_icmpgt dX11_cooledByFridge_2 (tgt := 7) (by decide) (by unfold in32; omega) ⟨by decide, by decide⟩ (fun c2 => ?_) (fun c2 => ?_)
  · refine i_const (4) dX11_cooledByFridge_7 ?_
    refine r_iload_n dX11_cooledByFridge_8 0 rfl ?_
    refine i_const (4) dX11_cooledByFridge_9 ?_
    refine i_sub dX11_cooledByFridge_10 ?_
    refine i_max (kv_X11_cooledByFridge_364 0 (by decide)) rfl dX11_cooledByFridge_11 ⟨by decide, by decide⟩ (by unfold in32; omega) ?_
    refine r_ireturn rfl rfl dX11_cooledByFridge_14 ?_
    refine ⟨?_, rfl⟩
    simp only [cooled]
    first | rw [if_pos (by omega)] | rw [if_neg (by omega)]
  · refine r_iload_n dX11_cooledByFridge_5 0 rfl ?_
    refine r_ireturn rfl rfl dX11_cooledByFridge_6 ?_
    refine ⟨?_, rfl⟩
    simp only [cooled]
    first | rw [if_pos (by omega)] | rw [if_neg (by omega)]
set_option maxRecDepth 20000 in
set_option maxHeartbeats 1000000 in
theorem c_X11_drawnToRoom {G : xG} {h : xH} {w r : Int} (hw : 0 ≤ w ∧ w ≤ 100) (hr : 0 ≤ r ∧ r ≤ 100) : CC G MX11_drawnToRoom [.int (iI w), .int (iI r)] h (qI (drawn w r) h) := by
  show RR G MX11_drawnToRoom 0 [(0, .int (iI w)), (1, .int (iI r))] [] h (xm_R MX11_drawnToRoom).cells (xm_R MX11_drawnToRoom).slots (qI (drawn w r) h)
  refine r_iload_n dX11_drawnToRoom_0 0 rfl ?_
  refine r_iload_n dX11_drawnToRoom_1 1 rfl ?_
  refine i_icmpne dX11_drawnToRoom_2 (tgt := 7) (by decide) (by unfold in32; omega) (by unfold in32; omega) (fun c2 => ?_) (fun c2 => ?_)
  · refine r_iload_n dX11_drawnToRoom_7 0 rfl ?_
    refine r_iload_n dX11_drawnToRoom_8 1 rfl ?_
    refine i_icmpge dX11_drawnToRoom_9 (tgt := 18) (by decide) (by unfold in32; omega) (by unfold in32; omega) (fun c9 => ?_) (fun c9 => ?_)
    · refine r_iload_n dX11_drawnToRoom_18 0 rfl ?_
      refine i_const (1) dX11_drawnToRoom_19 ?_
      refine i_sub dX11_drawnToRoom_20 ?_
      refine r_ireturn rfl rfl dX11_drawnToRoom_21 ?_
      refine ⟨?_, rfl⟩
      simp only [drawn]
      first | rw [if_pos (by omega)] | rw [if_neg (by omega), if_pos (by omega)] | rw [if_neg (by omega), if_neg (by omega)]
    · refine r_iload_n dX11_drawnToRoom_12 0 rfl ?_
      refine i_const (1) dX11_drawnToRoom_13 ?_
      refine i_add dX11_drawnToRoom_14 ?_
      refine r_goto dX11_drawnToRoom_15 (tgt := 21) (by decide) ?_
      refine r_ireturn rfl rfl dX11_drawnToRoom_21 ?_
      refine ⟨?_, rfl⟩
      simp only [drawn]
      first | rw [if_pos (by omega)] | rw [if_neg (by omega), if_pos (by omega)] | rw [if_neg (by omega), if_neg (by omega)]
  · refine r_iload_n dX11_drawnToRoom_5 0 rfl ?_
    refine r_ireturn rfl rfl dX11_drawnToRoom_6 ?_
    refine ⟨?_, rfl⟩
    simp only [drawn]
    first | rw [if_pos (by omega)] | rw [if_neg (by omega), if_pos (by omega)] | rw [if_neg (by omega), if_neg (by omega)]
