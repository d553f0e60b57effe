/-! ===== the reference: what it reads ===== -/
theorem in32_lay {l : List Int} (hh : hgt l ≤ 4000) {k : Nat} (hk : k < l.length) : in32 (l.getD k 0) := by
  have h1 := sz_le hk
  have h2 : sz (l.getD k 0) ≤ 4000 := by omega
  generalize l.getD k 0 = x at h2
  unfold sz at h2
  split at h2 <;> (unfold in32; omega)
theorem lay_b {l : List Int} (hh : hgt l ≤ 4000) {k : Nat} (hk : k < l.length) : -4000 ≤ l.getD k 0 ∧ l.getD k 0 ≤ 4000 := by
  have h1 := sz_le hk
  have h2 : sz (l.getD k 0) ≤ 4000 := by omega
  generalize l.getD k 0 = x at h2
  unfold sz at h2
  split at h2 <;> omega
set_option maxRecDepth 20000 in
set_option maxHeartbeats 1000000 in
theorem c_X12_heightOf {G : xG} {h : xH} {m : Nat} {a : MA} {r : MR} (hM : MO G h m a r) {g : Nat → Int32} (hR : AR G h r.1 1456 g) {i : Nat} (hi : i ≤ 6) {s : AS} (hw : SWr g (7 + 207 * i) s) (hh : hgt s.1 ≤ 4000) : CC G MX12_heightOf [.ref m, .int (iI ((i : Int)))] h (qI (hgt s.1) h) := by
  obtain ⟨nw, dr, kp, sv, hy, ou, bu, od, ow⟩ := a
  obtain ⟨rr, un, th, lc, re, lz, bz, jz, sd, ol, bl, li, nx, bg, tk, er, ea, ep, nd, oc⟩ := r
  have hM0 := hM
  obtain ⟨mm, fm⟩ := hM
  have fm : h.2 m = .inr (8, [.ref nw, .ref dr, .ref kp, .ref sv, .ref hy, .ref rr, .int (iI un), .int (iI th), .int (iI lc), .int (iI re), .int (iI lz), .int (iI bz), .int (iI jz), .int (iI (b2 sd)), .ref ou, .int (iI ol), .ref bu, .int (iI bl), .int (iI li), .int (iI nx), .int (iI bg), .int (iI tk), .int (iI er), .int (iI ea), .int (iI ep), .int (iI nd), .ref od, .ref ow, .int (iI oc)]) := fm
  have hR0 := hR
  obtain ⟨mR, fR⟩ := hR
  have fR : h.2 rr = .inl (G.2.1 0, 1456, .inl g) := fR
  have nmr : m ≠ rr := ne_oi fm fR
  obtain ⟨l, ex, wa, fo, du, se, co⟩ := s
  have hw0 := hw
  obtain ⟨w0, w1, w2, w3, w4, w5, w6, wl, wk⟩ := hw
  have w0 : g (7 + 207 * i + 0) = iI wa := w0
  have w1 : g (7 + 207 * i + 1) = iI (b2 du) := w1
  have w2 : g (7 + 207 * i + 2) = iI (b2 se) := w2
  have w3 : g (7 + 207 * i + 3) = iI (b2 co) := w3
  have w4 : g (7 + 207 * i + 4) = fo := w4
  have w5 : g (7 + 207 * i + 5) = iI ex := w5
  have w6 : g (7 + 207 * i + 6) = iI (l.length : Int) := w6
  have wl : l.length ≤ 200 := wl
  have wk : ∀ k, k < l.length → g (7 + 207 * i + 7 + k) = iI (l.getD k 0) := wk
  have hh : hgt l ≤ 4000 := hh
  have cLY : ∀ {k : Nat} {z : Int}, z = (k : Int) → k < l.length → CC G MX12_layer [.ref m, .int (iI (i : Int)), .int (iI z)] h (qI (l.getD k 0) h) := fun {k z} e hk => by rw [e]; exact c_X12_layer hM0 hR0 (i := i) (by omega) (by omega) (wk k hk)
  have L : ∀ k, k ≤ l.length → RR G MX12_heightOf 4 [(0, .ref m), (1, .int (iI ((i : Int)))), (2, .int (iI (hgt (l.take k)))), (3, .int (iI ((k : Int))))] [] h (xm_R MX12_heightOf).cells (xm_R MX12_heightOf).slots (qI (hgt l) h) := by
    refine down (fun k hi ih => ?_)
    refine r_iload_n dX12_heightOf_4 3 rfl ?_
    refine r_aload_n dX12_heightOf_5 0 rfl ?_
    refine r_iload_n dX12_heightOf_6 1 rfl ?_
    refine i_bipush (6) (by decide) dX12_heightOf_7 ?_
    refine p_callV (As := [.int (iI ((i : Int))), .int (iI 6)]) (b := m) (rest := [.int (iI ((k : Int)))]) (w := (some (.int (iI ((l.length : Int)))))) (st' := [.int (iI ((l.length : Int))), .int (iI ((k : Int)))]) kv_X12_heightOf_93 dX12_heightOf_9 rfl rfl (Nat.le_of_ble_eq_true rfl) (Nat.le_of_ble_eq_true rfl) (x_rv mm fm rfl) rfl rfl (c_X12_of hM0 hR0 (i := i) (w := 6) (by omega) (by decide) w6) rfl (fun h9 e9 => ?_)
    rw [show h9 = h from e9]
    refine i_icmpge dX12_heightOf_12 (tgt := 33) (by decide) (by unfold in32; omega) (by unfold in32; omega) (fun c12 => ?_) (fun c12 => ?_)
    · refine r_iload_n dX12_heightOf_33 2 rfl ?_
      refine r_ireturn rfl rfl dX12_heightOf_34 ?_
      rw [show k = l.length by omega, take_all]
      exact ⟨rfl, rfl⟩
    · refine r_iload_n dX12_heightOf_15 2 rfl ?_
      refine r_aload_n dX12_heightOf_16 0 rfl ?_
      refine r_iload_n dX12_heightOf_17 1 rfl ?_
      refine r_iload_n dX12_heightOf_18 3 rfl ?_
      refine p_callV (As := [.int (iI ((i : Int))), .int (iI ((k : Int)))]) (b := m) (rest := [.int (iI (hgt (l.take k)))]) (w := (some (.int (iI (l.getD k 0))))) (st' := [.int (iI (l.getD k 0)), .int (iI (hgt (l.take k)))]) kv_X12_heightOf_97 dX12_heightOf_19 rfl rfl (Nat.le_of_ble_eq_true rfl) (Nat.le_of_ble_eq_true rfl) (x_rv mm fm rfl) rfl rfl (cLY (k := k) (by omega) (by omega)) rfl (fun h9 e9 => ?_)
      rw [show h9 = h from e9]
      refine p_callS (As := [.int (iI (l.getD k 0))]) (rest := [.int (iI (hgt (l.take k)))]) (w := (some (.int (iI (sz (l.getD k 0)))))) (st' := [.int (iI (sz (l.getD k 0))), .int (iI (hgt (l.take k)))]) kv_X12_heightOf_121 dX12_heightOf_22 rfl rfl (Nat.le_of_ble_eq_true rfl) (Nat.le_of_ble_eq_true rfl) rfl rfl (c_X12_sizeOf (in32_lay hh (by omega))) rfl (fun h9 e9 => ?_)
      rw [show h9 = h from e9]
      refine i_add dX12_heightOf_25 ?_
      refine r_istore_n (ls' := [(0, .ref m), (1, .int (iI ((i : Int)))), (2, .int (iI ((hgt (l.take k)) + (sz (l.getD k 0))))), (3, .int (iI ((k : Int))))]) dX12_heightOf_26 (by decide) rfl ?_
      refine i_iinc (ls' := [(0, .ref m), (1, .int (iI ((i : Int)))), (2, .int (iI ((hgt (l.take k)) + (sz (l.getD k 0))))), (3, .int (iI ((k : Int) + 1)))]) (1) (v := (k : Int) + 1) dX12_heightOf_27 3 rfl (by omega) (by decide) rfl ?_
      refine r_goto dX12_heightOf_30 (tgt := 4) (by decide) ?_
      have q := ih (k + 1) (by omega) (by omega)
      rw [hgt_s (by omega)] at q
      exact q
  show RR G MX12_heightOf 0 [(0, .ref m), (1, .int (iI ((i : Int))))] [] h (xm_R MX12_heightOf).cells (xm_R MX12_heightOf).slots (qI (hgt l) h)
  refine i_const (0) dX12_heightOf_0 ?_
  refine r_istore_n (ls' := [(0, .ref m), (1, .int (iI ((i : Int)))), (2, .int (iI 0))]) dX12_heightOf_1 (by decide) rfl ?_
  refine i_const (0) dX12_heightOf_2 ?_
  refine r_istore_n (ls' := [(0, .ref m), (1, .int (iI ((i : Int)))), (2, .int (iI 0)), (3, .int (iI 0))]) dX12_heightOf_3 (by decide) rfl ?_
  exact L 0 (by omega)
set_option maxRecDepth 20000 in
set_option maxHeartbeats 1000000 in
theorem c_X12_butterOf {G : xG} {h : xH} {m : Nat} {a : MA} {r : MR} (hM : MO G h m a r) {g : Nat → Int32} (hR : AR G h r.1 1456 g) {i : Nat} (hi : i ≤ 6) {s : AS} (hw : SWr g (7 + 207 * i) s) (hh : hgt s.1 ≤ 4000) : CC G MX12_butterOf [.ref m, .int (iI ((i : Int)))] h (qI (hBut s.1) h) := by
  obtain ⟨nw, dr, kp, sv, hy, ou, bu, od, ow⟩ := a
  obtain ⟨rr, un, th, lc, re, lz, bz, jz, sd, ol, bl, li, nx, bg, tk, er, ea, ep, nd, oc⟩ := r
  have hM0 := hM
  obtain ⟨mm, fm⟩ := hM
  have fm : h.2 m = .inr (8, [.ref nw, .ref dr, .ref kp, .ref sv, .ref hy, .ref rr, .int (iI un), .int (iI th), .int (iI lc), .int (iI re), .int (iI lz), .int (iI bz), .int (iI jz), .int (iI (b2 sd)), .ref ou, .int (iI ol), .ref bu, .int (iI bl), .int (iI li), .int (iI nx), .int (iI bg), .int (iI tk), .int (iI er), .int (iI ea), .int (iI ep), .int (iI nd), .ref od, .ref ow, .int (iI oc)]) := fm
  have hR0 := hR
  obtain ⟨mR, fR⟩ := hR
  have fR : h.2 rr = .inl (G.2.1 0, 1456, .inl g) := fR
  have nmr : m ≠ rr := ne_oi fm fR
  obtain ⟨l, ex, wa, fo, du, se, co⟩ := s
  have hw0 := hw
  obtain ⟨w0, w1, w2, w3, w4, w5, w6, wl, wk⟩ := hw
  have w0 : g (7 + 207 * i + 0) = iI wa := w0
  have w1 : g (7 + 207 * i + 1) = iI (b2 du) := w1
  have w2 : g (7 + 207 * i + 2) = iI (b2 se) := w2
  have w3 : g (7 + 207 * i + 3) = iI (b2 co) := w3
  have w4 : g (7 + 207 * i + 4) = fo := w4
  have w5 : g (7 + 207 * i + 5) = iI ex := w5
  have w6 : g (7 + 207 * i + 6) = iI (l.length : Int) := w6
  have wl : l.length ≤ 200 := wl
  have wk : ∀ k, k < l.length → g (7 + 207 * i + 7 + k) = iI (l.getD k 0) := wk
  have hh : hgt l ≤ 4000 := hh
  have cLY : ∀ {k : Nat} {z : Int}, z = (k : Int) → k < l.length → CC G MX12_layer [.ref m, .int (iI (i : Int)), .int (iI z)] h (qI (l.getD k 0) h) := fun {k z} e hk => by rw [e]; exact c_X12_layer hM0 hR0 (i := i) (by omega) (by omega) (wk k hk)
  have L : ∀ k, k ≤ l.length → RR G MX12_butterOf 4 [(0, .ref m), (1, .int (iI ((i : Int)))), (2, .int (iI (hBut (l.take k)))), (3, .int (iI ((k : Int))))] [] h (xm_R MX12_butterOf).cells (xm_R MX12_butterOf).slots (qI (hBut l) h) := by
    refine down (fun k hi ih => ?_)
    refine r_iload_n dX12_butterOf_4 3 rfl ?_
    refine r_aload_n dX12_butterOf_5 0 rfl ?_
    refine r_iload_n dX12_butterOf_6 1 rfl ?_
    refine i_bipush (6) (by decide) dX12_butterOf_7 ?_
    refine p_callV (As := [.int (iI ((i : Int))), .int (iI 6)]) (b := m) (rest := [.int (iI ((k : Int)))]) (w := (some (.int (iI ((l.length : Int)))))) (st' := [.int (iI ((l.length : Int))), .int (iI ((k : Int)))]) kv_X12_butterOf_93 dX12_butterOf_9 rfl rfl (Nat.le_of_ble_eq_true rfl) (Nat.le_of_ble_eq_true rfl) (x_rv mm fm rfl) rfl rfl (c_X12_of hM0 hR0 (i := i) (w := 6) (by omega) (by decide) w6) rfl (fun h9 e9 => ?_)
    rw [show h9 = h from e9]
    refine i_icmpge dX12_butterOf_12 (tgt := 44) (by decide) (by unfold in32; omega) (by unfold in32; omega) (fun c12 => ?_) (fun c12 => ?_)
    · refine r_iload_n dX12_butterOf_44 2 rfl ?_
      refine r_ireturn rfl rfl dX12_butterOf_45 ?_
      rw [show k = l.length by omega, take_all]
      exact ⟨rfl, rfl⟩
    · have hlb := lay_b (l := l) hh (k := k) (by omega)
      refine r_iload_n dX12_butterOf_15 2 rfl ?_
      refine r_aload_n dX12_butterOf_16 0 rfl ?_
      refine r_iload_n dX12_butterOf_17 1 rfl ?_
      refine r_iload_n dX12_butterOf_18 3 rfl ?_
      refine p_callV (As := [.int (iI ((i : Int))), .int (iI ((k : Int)))]) (b := m) (rest := [.int (iI (hBut (l.take k)))]) (w := (some (.int (iI (l.getD k 0))))) (st' := [.int (iI (l.getD k 0)), .int (iI (hBut (l.take k)))]) kv_X12_butterOf_97 dX12_butterOf_19 rfl rfl (Nat.le_of_ble_eq_true rfl) (Nat.le_of_ble_eq_true rfl) (x_rv mm fm rfl) rfl rfl (cLY (k := k) (by omega) (by omega)) rfl (fun h9 e9 => ?_)
      rw [show h9 = h from e9]
      refine i_ifge dX12_butterOf_22 (tgt := 35) (by decide) (by unfold in32; omega) (fun c22 => ?_) (fun c22 => ?_)
      · refine i_const (0) dX12_butterOf_35 ?_
        refine i_add dX12_butterOf_36 ?_
        refine r_istore_n (ls' := [(0, .ref m), (1, .int (iI ((i : Int)))), (2, .int (iI ((hBut (l.take k)) + 0))), (3, .int (iI ((k : Int))))]) dX12_butterOf_37 (by decide) rfl ?_
        refine i_iinc (ls' := [(0, .ref m), (1, .int (iI ((i : Int)))), (2, .int (iI ((hBut (l.take k)) + 0))), (3, .int (iI ((k : Int) + 1)))]) (1) (v := (k : Int) + 1) dX12_butterOf_38 3 rfl (by omega) (by decide) rfl ?_
        refine r_goto dX12_butterOf_41 (tgt := 4) (by decide) ?_
        have q := ih (k + 1) (by omega) (by omega)
        rw [hBut_f (by omega) (show isB _ = false from decide_eq_false (by omega)), ← Int.add_zero (hBut (l.take k))] at q
        exact q
      · refine r_aload_n dX12_butterOf_25 0 rfl ?_
        refine r_iload_n dX12_butterOf_26 1 rfl ?_
        refine r_iload_n dX12_butterOf_27 3 rfl ?_
        refine p_callV (As := [.int (iI ((i : Int))), .int (iI ((k : Int)))]) (b := m) (rest := [.int (iI (hBut (l.take k)))]) (w := (some (.int (iI (l.getD k 0))))) (st' := [.int (iI (l.getD k 0)), .int (iI (hBut (l.take k)))]) kv_X12_butterOf_97 dX12_butterOf_28 rfl rfl (Nat.le_of_ble_eq_true rfl) (Nat.le_of_ble_eq_true rfl) (x_rv mm fm rfl) rfl rfl (cLY (k := k) (by omega) (by omega)) rfl (fun h9 e9 => ?_)
        rw [show h9 = h from e9]
        refine i_neg dX12_butterOf_31 ?_
        refine r_goto dX12_butterOf_32 (tgt := 36) (by decide) ?_
        refine i_add dX12_butterOf_36 ?_
        refine r_istore_n (ls' := [(0, .ref m), (1, .int (iI ((i : Int)))), (2, .int (iI ((hBut (l.take k)) + (-(l.getD k 0))))), (3, .int (iI ((k : Int))))]) dX12_butterOf_37 (by decide) rfl ?_
        refine i_iinc (ls' := [(0, .ref m), (1, .int (iI ((i : Int)))), (2, .int (iI ((hBut (l.take k)) + (-(l.getD k 0))))), (3, .int (iI ((k : Int) + 1)))]) (1) (v := (k : Int) + 1) dX12_butterOf_38 3 rfl (by omega) (by decide) rfl ?_
        refine r_goto dX12_butterOf_41 (tgt := 4) (by decide) ?_
        have q := ih (k + 1) (by omega) (by omega)
        rw [hBut_t (by omega) (show isB _ = true from decide_eq_true (by omega)), show sz (l.getD k 0) = - l.getD k 0 by unfold sz; rw [if_pos (by omega)]] at q
        exact q
  show RR G MX12_butterOf 0 [(0, .ref m), (1, .int (iI ((i : Int))))] [] h (xm_R MX12_butterOf).cells (xm_R MX12_butterOf).slots (qI (hBut l) h)
  refine i_const (0) dX12_butterOf_0 ?_
  refine r_istore_n (ls' := [(0, .ref m), (1, .int (iI ((i : Int)))), (2, .int (iI 0))]) dX12_butterOf_1 (by decide) rfl ?_
  refine i_const (0) dX12_butterOf_2 ?_
  refine r_istore_n (ls' := [(0, .ref m), (1, .int (iI ((i : Int)))), (2, .int (iI 0)), (3, .int (iI 0))]) dX12_butterOf_3 (by decide) rfl ?_
  exact L 0 (by omega)
set_option maxRecDepth 20000 in
set_option maxHeartbeats 1000000 in
theorem c_X12_extreme_thinB {G : xG} {h : xH} {m : Nat} {a : MA} {r : MR} (hM : MO G h m a r) {g : Nat → Int32} (hR : AR G h r.1 1456 g) {i : Nat} (hi : i ≤ 6) {s : AS} (hw : SWr g (7 + 207 * i) s) (hh : hgt s.1 ≤ 4000) (h1 : 1 ≤ s.1.length) : CC G MX12_extreme [.ref m, .int (iI ((i : Int))), .int (iI 1)] h (qI ((thinB s.1 s.1.length : Int)) h) := by
  obtain ⟨nw, dr, kp, sv, hy, ou, bu, od, ow⟩ := a
  obtain ⟨rr, un, th, lc, re, lz, bz, jz, sd, ol, bl, li, nx, bg, tk, er, ea, ep, nd, oc⟩ := r
  have hM0 := hM
  obtain ⟨mm, fm⟩ := hM
  have fm : h.2 m = .inr (8, [.ref nw, .ref dr, .ref kp, .ref sv, .ref hy, .ref rr, .int (iI un), .int (iI th), .int (iI lc), .int (iI re), .int (iI lz), .int (iI bz), .int (iI jz), .int (iI (b2 sd)), .ref ou, .int (iI ol), .ref bu, .int (iI bl), .int (iI li), .int (iI nx), .int (iI bg), .int (iI tk), .int (iI er), .int (iI ea), .int (iI ep), .int (iI nd), .ref od, .ref ow, .int (iI oc)]) := fm
  have hR0 := hR
  obtain ⟨mR, fR⟩ := hR
  have fR : h.2 rr = .inl (G.2.1 0, 1456, .inl g) := fR
  have nmr : m ≠ rr := ne_oi fm fR
  obtain ⟨l, ex, wa, fo, du, se, co⟩ := s
  have hw0 := hw
  obtain ⟨w0, w1, w2, w3, w4, w5, w6, wl, wk⟩ := hw
  have w0 : g (7 + 207 * i + 0) = iI wa := w0
  have w1 : g (7 + 207 * i + 1) = iI (b2 du) := w1
  have w2 : g (7 + 207 * i + 2) = iI (b2 se) := w2
  have w3 : g (7 + 207 * i + 3) = iI (b2 co) := w3
  have w4 : g (7 + 207 * i + 4) = fo := w4
  have w5 : g (7 + 207 * i + 5) = iI ex := w5
  have w6 : g (7 + 207 * i + 6) = iI (l.length : Int) := w6
  have wl : l.length ≤ 200 := wl
  have wk : ∀ k, k < l.length → g (7 + 207 * i + 7 + k) = iI (l.getD k 0) := wk
  have hh : hgt l ≤ 4000 := hh
  have cLY : ∀ {k : Nat} {z : Int}, z = (k : Int) → k < l.length → CC G MX12_layer [.ref m, .int (iI (i : Int)), .int (iI z)] h (qI (l.getD k 0) h) := fun {k z} e hk => by rw [e]; exact c_X12_layer hM0 hR0 (i := i) (by omega) (by omega) (wk k hk)
  have h1 : 1 ≤ l.length := h1
  have L : ∀ k, k ≤ l.length → 1 ≤ k → RR G MX12_extreme 5 [(0, .ref m), (1, .int (iI ((i : Int)))), (2, .int (iI 1)), (3, .int (iI ((thinB l k : Int)))), (4, .int (iI ((k : Int))))] [] h (xm_R MX12_extreme).cells (xm_R MX12_extreme).slots (qI ((thinB l l.length : Int)) h) := by
    refine down (fun k hi ih => ?_)
    intro hk1
    have hb := thinB_lt l k
    refine r_iload dX12_extreme_5 4 rfl ?_
    refine r_aload_n dX12_extreme_7 0 rfl ?_
    refine r_iload_n dX12_extreme_8 1 rfl ?_
    refine i_bipush (6) (by decide) dX12_extreme_9 ?_
    refine p_callV (As := [.int (iI ((i : Int))), .int (iI 6)]) (b := m) (rest := [.int (iI ((k : Int)))]) (w := (some (.int (iI ((l.length : Int)))))) (st' := [.int (iI ((l.length : Int))), .int (iI ((k : Int)))]) kv_X12_extreme_93 dX12_extreme_11 rfl rfl (Nat.le_of_ble_eq_true rfl) (Nat.le_of_ble_eq_true rfl) (x_rv mm fm rfl) rfl rfl (c_X12_of hM0 hR0 (i := i) (w := 6) (by omega) (by decide) w6) rfl (fun h9 e9 => ?_)
    rw [show h9 = h from e9]
    refine i_icmpge dX12_extreme_14 (tgt := 56) (by decide) (by unfold in32; omega) (by unfold in32; omega) (fun c14 => ?_) (fun c14 => ?_)
    · refine r_iload_n dX12_extreme_56 3 rfl ?_
      refine r_ireturn rfl rfl dX12_extreme_57 ?_
      rw [show k = l.length by omega]
      exact ⟨rfl, rfl⟩
    · have e1 := sz_le (l := l) (i := k) (by omega)
      have e2 := sz_le (l := l) (i := thinB l k) (by omega)
      have e3 := sz_nn (l.getD k 0)
      have e4 := sz_nn (l.getD (thinB l k) 0)
      refine r_iload_n dX12_extreme_17 2 rfl ?_
      refine r_aload_n dX12_extreme_18 0 rfl ?_
      refine r_iload_n dX12_extreme_19 1 rfl ?_
      refine r_iload dX12_extreme_20 4 rfl ?_
      refine p_callV (As := [.int (iI ((i : Int))), .int (iI ((k : Int)))]) (b := m) (rest := [.int (iI 1)]) (w := (some (.int (iI (l.getD k 0))))) (st' := [.int (iI (l.getD k 0)), .int (iI 1)]) kv_X12_extreme_97 dX12_extreme_22 rfl rfl (Nat.le_of_ble_eq_true rfl) (Nat.le_of_ble_eq_true rfl) (x_rv mm fm rfl) rfl rfl (cLY (k := k) (by omega) (by omega)) rfl (fun h9 e9 => ?_)
      rw [show h9 = h from e9]
      refine p_callS (As := [.int (iI (l.getD k 0))]) (rest := [.int (iI 1)]) (w := (some (.int (iI (sz (l.getD k 0)))))) (st' := [.int (iI (sz (l.getD k 0))), .int (iI 1)]) kv_X12_extreme_121 dX12_extreme_25 rfl rfl (Nat.le_of_ble_eq_true rfl) (Nat.le_of_ble_eq_true rfl) rfl rfl (c_X12_sizeOf (in32_lay hh (by omega))) rfl (fun h9 e9 => ?_)
      rw [show h9 = h from e9]
      refine i_mul dX12_extreme_28 ?_
      refine r_iload_n dX12_extreme_29 2 rfl ?_
      refine r_aload_n dX12_extreme_30 0 rfl ?_
      refine r_iload_n dX12_extreme_31 1 rfl ?_
      refine r_iload_n dX12_extreme_32 3 rfl ?_
      refine p_callV (As := [.int (iI ((i : Int))), .int (iI ((thinB l k : Int)))]) (b := m) (rest := [.int (iI 1), .int (iI (1 * (sz (l.getD k 0))))]) (w := (some (.int (iI (l.getD (thinB l k) 0))))) (st' := [.int (iI (l.getD (thinB l k) 0)), .int (iI 1), .int (iI (1 * (sz (l.getD k 0))))]) kv_X12_extreme_97 dX12_extreme_33 rfl rfl (Nat.le_of_ble_eq_true rfl) (Nat.le_of_ble_eq_true rfl) (x_rv mm fm rfl) rfl rfl (cLY (k := (thinB l k)) (by omega) (by omega)) rfl (fun h9 e9 => ?_)
      rw [show h9 = h from e9]
      refine p_callS (As := [.int (iI (l.getD (thinB l k) 0))]) (rest := [.int (iI 1), .int (iI (1 * (sz (l.getD k 0))))]) (w := (some (.int (iI (sz (l.getD (thinB l k) 0)))))) (st' := [.int (iI (sz (l.getD (thinB l k) 0))), .int (iI 1), .int (iI (1 * (sz (l.getD k 0))))]) kv_X12_extreme_121 dX12_extreme_36 rfl rfl (Nat.le_of_ble_eq_true rfl) (Nat.le_of_ble_eq_true rfl) rfl rfl (c_X12_sizeOf (in32_lay hh (by omega))) rfl (fun h9 e9 => ?_)
      rw [show h9 = h from e9]
      refine i_mul dX12_extreme_39 ?_
      refine i_icmpge dX12_extreme_40 (tgt := 48) (by decide) (by unfold in32; omega) (by unfold in32; omega) (fun c40 => ?_) (fun c40 => ?_)
      · refine r_iload_n dX12_extreme_48 3 rfl ?_
        refine r_istore_n (ls' := [(0, .ref m), (1, .int (iI ((i : Int)))), (2, .int (iI 1)), (3, .int (iI ((thinB l k : Int)))), (4, .int (iI ((k : Int))))]) dX12_extreme_49 (by decide) rfl ?_
        refine i_iinc (ls' := [(0, .ref m), (1, .int (iI ((i : Int)))), (2, .int (iI 1)), (3, .int (iI ((thinB l k : Int)))), (4, .int (iI ((k : Int) + 1)))]) (1) (v := (k : Int) + 1) dX12_extreme_50 4 rfl (by omega) (by decide) rfl ?_
        refine r_goto dX12_extreme_53 (tgt := 5) (by decide) ?_
        have q := ih (k + 1) (by omega) (by omega) (by omega)
        rw [thinB_f (by omega)] at q
        exact q
      · refine r_iload dX12_extreme_43 4 rfl ?_
        refine r_goto dX12_extreme_45 (tgt := 49) (by decide) ?_
        refine r_istore_n (ls' := [(0, .ref m), (1, .int (iI ((i : Int)))), (2, .int (iI 1)), (3, .int (iI ((k : Int)))), (4, .int (iI ((k : Int))))]) dX12_extreme_49 (by decide) rfl ?_
        refine i_iinc (ls' := [(0, .ref m), (1, .int (iI ((i : Int)))), (2, .int (iI 1)), (3, .int (iI ((k : Int)))), (4, .int (iI ((k : Int) + 1)))]) (1) (v := (k : Int) + 1) dX12_extreme_50 4 rfl (by omega) (by decide) rfl ?_
        refine r_goto dX12_extreme_53 (tgt := 5) (by decide) ?_
        have q := ih (k + 1) (by omega) (by omega) (by omega)
        rw [thinB_t (by omega)] at q
        exact q
  show RR G MX12_extreme 0 [(0, .ref m), (1, .int (iI ((i : Int)))), (2, .int (iI 1))] [] h (xm_R MX12_extreme).cells (xm_R MX12_extreme).slots (qI ((thinB l l.length : Int)) h)
  refine i_const (0) dX12_extreme_0 ?_
  refine r_istore_n (ls' := [(0, .ref m), (1, .int (iI ((i : Int)))), (2, .int (iI 1)), (3, .int (iI 0))]) dX12_extreme_1 (by decide) rfl ?_
  refine i_const (1) dX12_extreme_2 ?_
  refine r_istore (ls' := [(0, .ref m), (1, .int (iI ((i : Int)))), (2, .int (iI 1)), (3, .int (iI 0)), (4, .int (iI 1))]) dX12_extreme_3 (by decide) rfl ?_
  have e : thinB l 1 = 0 := by simp [thinB]
  have q := L 1 (by omega) (by omega)
  rw [e] at q
  exact q
set_option maxRecDepth 20000 in
set_option maxHeartbeats 1000000 in
theorem c_X12_extreme_thickB {G : xG} {h : xH} {m : Nat} {a : MA} {r : MR} (hM : MO G h m a r) {g : Nat → Int32} (hR : AR G h r.1 1456 g) {i : Nat} (hi : i ≤ 6) {s : AS} (hw : SWr g (7 + 207 * i) s) (hh : hgt s.1 ≤ 4000) (h1 : 1 ≤ s.1.length) : CC G MX12_extreme [.ref m, .int (iI ((i : Int))), .int (iI ((-1)))] h (qI ((thickB s.1 s.1.length : Int)) h) := by
  obtain ⟨nw, dr, kp, sv, hy, ou, bu, od, ow⟩ := a
  obtain ⟨rr, un, th, lc, re, lz, bz, jz, sd, ol, bl, li, nx, bg, tk, er, ea, ep, nd, oc⟩ := r
  have hM0 := hM
  obtain ⟨mm, fm⟩ := hM
  have fm : h.2 m = .inr (8, [.ref nw, .ref dr, .ref kp, .ref sv, .ref hy, .ref rr, .int (iI un), .int (iI th), .int (iI lc), .int (iI re), .int (iI lz), .int (iI bz), .int (iI jz), .int (iI (b2 sd)), .ref ou, .int (iI ol), .ref bu, .int (iI bl), .int (iI li), .int (iI nx), .int (iI bg), .int (iI tk), .int (iI er), .int (iI ea), .int (iI ep), .int (iI nd), .ref od, .ref ow, .int (iI oc)]) := fm
  have hR0 := hR
  obtain ⟨mR, fR⟩ := hR
  have fR : h.2 rr = .inl (G.2.1 0, 1456, .inl g) := fR
  have nmr : m ≠ rr := ne_oi fm fR
  obtain ⟨l, ex, wa, fo, du, se, co⟩ := s
  have hw0 := hw
  obtain ⟨w0, w1, w2, w3, w4, w5, w6, wl, wk⟩ := hw
  have w0 : g (7 + 207 * i + 0) = iI wa := w0
  have w1 : g (7 + 207 * i + 1) = iI (b2 du) := w1
  have w2 : g (7 + 207 * i + 2) = iI (b2 se) := w2
  have w3 : g (7 + 207 * i + 3) = iI (b2 co) := w3
  have w4 : g (7 + 207 * i + 4) = fo := w4
  have w5 : g (7 + 207 * i + 5) = iI ex := w5
  have w6 : g (7 + 207 * i + 6) = iI (l.length : Int) := w6
  have wl : l.length ≤ 200 := wl
  have wk : ∀ k, k < l.length → g (7 + 207 * i + 7 + k) = iI (l.getD k 0) := wk
  have hh : hgt l ≤ 4000 := hh
  have cLY : ∀ {k : Nat} {z : Int}, z = (k : Int) → k < l.length → CC G MX12_layer [.ref m, .int (iI (i : Int)), .int (iI z)] h (qI (l.getD k 0) h) := fun {k z} e hk => by rw [e]; exact c_X12_layer hM0 hR0 (i := i) (by omega) (by omega) (wk k hk)
  have h1 : 1 ≤ l.length := h1
  have L : ∀ k, k ≤ l.length → 1 ≤ k → RR G MX12_extreme 5 [(0, .ref m), (1, .int (iI ((i : Int)))), (2, .int (iI ((-1)))), (3, .int (iI ((thickB l k : Int)))), (4, .int (iI ((k : Int))))] [] h (xm_R MX12_extreme).cells (xm_R MX12_extreme).slots (qI ((thickB l l.length : Int)) h) := by
    refine down (fun k hi ih => ?_)
    intro hk1
    have hb := thickB_lt l k
    refine r_iload dX12_extreme_5 4 rfl ?_
    refine r_aload_n dX12_extreme_7 0 rfl ?_
    refine r_iload_n dX12_extreme_8 1 rfl ?_
    refine i_bipush (6) (by decide) dX12_extreme_9 ?_
    refine p_callV (As := [.int (iI ((i : Int))), .int (iI 6)]) (b := m) (rest := [.int (iI ((k : Int)))]) (w := (some (.int (iI ((l.length : Int)))))) (st' := [.int (iI ((l.length : Int))), .int (iI ((k : Int)))]) kv_X12_extreme_93 dX12_extreme_11 rfl rfl (Nat.le_of_ble_eq_true rfl) (Nat.le_of_ble_eq_true rfl) (x_rv mm fm rfl) rfl rfl (c_X12_of hM0 hR0 (i := i) (w := 6) (by omega) (by decide) w6) rfl (fun h9 e9 => ?_)
    rw [show h9 = h from e9]
    refine i_icmpge dX12_extreme_14 (tgt := 56) (by decide) (by unfold in32; omega) (by unfold in32; omega) (fun c14 => ?_) (fun c14 => ?_)
    · refine r_iload_n dX12_extreme_56 3 rfl ?_
      refine r_ireturn rfl rfl dX12_extreme_57 ?_
      rw [show k = l.length by omega]
      exact ⟨rfl, rfl⟩
    · have e1 := sz_le (l := l) (i := k) (by omega)
      have e2 := sz_le (l := l) (i := thickB l k) (by omega)
      have e3 := sz_nn (l.getD k 0)
      have e4 := sz_nn (l.getD (thickB l k) 0)
      refine r_iload_n dX12_extreme_17 2 rfl ?_
      refine r_aload_n dX12_extreme_18 0 rfl ?_
      refine r_iload_n dX12_extreme_19 1 rfl ?_
      refine r_iload dX12_extreme_20 4 rfl ?_
      refine p_callV (As := [.int (iI ((i : Int))), .int (iI ((k : Int)))]) (b := m) (rest := [.int (iI ((-1)))]) (w := (some (.int (iI (l.getD k 0))))) (st' := [.int (iI (l.getD k 0)), .int (iI ((-1)))]) kv_X12_extreme_97 dX12_extreme_22 rfl rfl (Nat.le_of_ble_eq_true rfl) (Nat.le_of_ble_eq_true rfl) (x_rv mm fm rfl) rfl rfl (cLY (k := k) (by omega) (by omega)) rfl (fun h9 e9 => ?_)
      rw [show h9 = h from e9]
      refine p_callS (As := [.int (iI (l.getD k 0))]) (rest := [.int (iI ((-1)))]) (w := (some (.int (iI (sz (l.getD k 0)))))) (st' := [.int (iI (sz (l.getD k 0))), .int (iI ((-1)))]) kv_X12_extreme_121 dX12_extreme_25 rfl rfl (Nat.le_of_ble_eq_true rfl) (Nat.le_of_ble_eq_true rfl) rfl rfl (c_X12_sizeOf (in32_lay hh (by omega))) rfl (fun h9 e9 => ?_)
      rw [show h9 = h from e9]
      refine i_mul dX12_extreme_28 ?_
      refine r_iload_n dX12_extreme_29 2 rfl ?_
      refine r_aload_n dX12_extreme_30 0 rfl ?_
      refine r_iload_n dX12_extreme_31 1 rfl ?_
      refine r_iload_n dX12_extreme_32 3 rfl ?_
      refine p_callV (As := [.int (iI ((i : Int))), .int (iI ((thickB l k : Int)))]) (b := m) (rest := [.int (iI ((-1))), .int (iI ((-1) * (sz (l.getD k 0))))]) (w := (some (.int (iI (l.getD (thickB l k) 0))))) (st' := [.int (iI (l.getD (thickB l k) 0)), .int (iI ((-1))), .int (iI ((-1) * (sz (l.getD k 0))))]) kv_X12_extreme_97 dX12_extreme_33 rfl rfl (Nat.le_of_ble_eq_true rfl) (Nat.le_of_ble_eq_true rfl) (x_rv mm fm rfl) rfl rfl (cLY (k := (thickB l k)) (by omega) (by omega)) rfl (fun h9 e9 => ?_)
      rw [show h9 = h from e9]
      refine p_callS (As := [.int (iI (l.getD (thickB l k) 0))]) (rest := [.int (iI ((-1))), .int (iI ((-1) * (sz (l.getD k 0))))]) (w := (some (.int (iI (sz (l.getD (thickB l k) 0)))))) (st' := [.int (iI (sz (l.getD (thickB l k) 0))), .int (iI ((-1))), .int (iI ((-1) * (sz (l.getD k 0))))]) kv_X12_extreme_121 dX12_extreme_36 rfl rfl (Nat.le_of_ble_eq_true rfl) (Nat.le_of_ble_eq_true rfl) rfl rfl (c_X12_sizeOf (in32_lay hh (by omega))) rfl (fun h9 e9 => ?_)
      rw [show h9 = h from e9]
      refine i_mul dX12_extreme_39 ?_
      refine i_icmpge dX12_extreme_40 (tgt := 48) (by decide) (by unfold in32; omega) (by unfold in32; omega) (fun c40 => ?_) (fun c40 => ?_)
      · refine r_iload_n dX12_extreme_48 3 rfl ?_
        refine r_istore_n (ls' := [(0, .ref m), (1, .int (iI ((i : Int)))), (2, .int (iI ((-1)))), (3, .int (iI ((thickB l k : Int)))), (4, .int (iI ((k : Int))))]) dX12_extreme_49 (by decide) rfl ?_
        refine i_iinc (ls' := [(0, .ref m), (1, .int (iI ((i : Int)))), (2, .int (iI ((-1)))), (3, .int (iI ((thickB l k : Int)))), (4, .int (iI ((k : Int) + 1)))]) (1) (v := (k : Int) + 1) dX12_extreme_50 4 rfl (by omega) (by decide) rfl ?_
        refine r_goto dX12_extreme_53 (tgt := 5) (by decide) ?_
        have q := ih (k + 1) (by omega) (by omega) (by omega)
        rw [thickB_f (by omega)] at q
        exact q
      · refine r_iload dX12_extreme_43 4 rfl ?_
        refine r_goto dX12_extreme_45 (tgt := 49) (by decide) ?_
        refine r_istore_n (ls' := [(0, .ref m), (1, .int (iI ((i : Int)))), (2, .int (iI ((-1)))), (3, .int (iI ((k : Int)))), (4, .int (iI ((k : Int))))]) dX12_extreme_49 (by decide) rfl ?_
        refine i_iinc (ls' := [(0, .ref m), (1, .int (iI ((i : Int)))), (2, .int (iI ((-1)))), (3, .int (iI ((k : Int)))), (4, .int (iI ((k : Int) + 1)))]) (1) (v := (k : Int) + 1) dX12_extreme_50 4 rfl (by omega) (by decide) rfl ?_
        refine r_goto dX12_extreme_53 (tgt := 5) (by decide) ?_
        have q := ih (k + 1) (by omega) (by omega) (by omega)
        rw [thickB_t (by omega)] at q
        exact q
  show RR G MX12_extreme 0 [(0, .ref m), (1, .int (iI ((i : Int)))), (2, .int (iI ((-1))))] [] h (xm_R MX12_extreme).cells (xm_R MX12_extreme).slots (qI ((thickB l l.length : Int)) h)
  refine i_const (0) dX12_extreme_0 ?_
  refine r_istore_n (ls' := [(0, .ref m), (1, .int (iI ((i : Int)))), (2, .int (iI ((-1)))), (3, .int (iI 0))]) dX12_extreme_1 (by decide) rfl ?_
  refine i_const (1) dX12_extreme_2 ?_
  refine r_istore (ls' := [(0, .ref m), (1, .int (iI ((i : Int)))), (2, .int (iI ((-1)))), (3, .int (iI 0)), (4, .int (iI 1))]) dX12_extreme_3 (by decide) rfl ?_
  have e : thickB l 1 = 0 := by simp [thickB]
  have q := L 1 (by omega) (by omega)
  rw [e] at q
  exact q
set_option maxRecDepth 20000 in
set_option maxHeartbeats 1000000 in
theorem c_X12_countWith_isSe {G : xG} {h : xH} {m : Nat} {a : MA} {r : MR} (hM : MO G h m a r) {g : Nat → Int32} (hR : AR G h r.1 1456 g) {B : AB} (hRW : RWc g 0 B) : CC G MX12_countWith [.ref m, .int (iI 2)] h (qI (cnt isSe B.2) h) := by
  obtain ⟨nw, dr, kp, sv, hy, ou, bu, od, ow⟩ := a
  obtain ⟨rr, un, th, lc, re, lz, bz, jz, sd, ol, bl, li, nx, bg, tk, er, ea, ep, nd, oc⟩ := r
  have hM0 := hM
  obtain ⟨mm, fm⟩ := hM
  have fm : h.2 m = .inr (8, [.ref nw, .ref dr, .ref kp, .ref sv, .ref hy, .ref rr, .int (iI un), .int (iI th), .int (iI lc), .int (iI re), .int (iI lz), .int (iI bz), .int (iI jz), .int (iI (b2 sd)), .ref ou, .int (iI ol), .ref bu, .int (iI bl), .int (iI li), .int (iI nx), .int (iI bg), .int (iI tk), .int (iI er), .int (iI ea), .int (iI ep), .int (iI nd), .ref od, .ref ow, .int (iI oc)]) := fm
  have hR0 := hR
  obtain ⟨mR, fR⟩ := hR
  have fR : h.2 rr = .inl (G.2.1 0, 1456, .inl g) := fR
  have nmr : m ≠ rr := ne_oi fm fR
  obtain ⟨⟨ro, me, fl, ho, ec, bk⟩, Ls⟩ := B
  have hRW0 := hRW
  obtain ⟨⟨e0, e1, e2, e3, e4, e5, e6⟩, hL6, hSW⟩ := hRW
  have e0 : g 0 = iI ro := e0
  have e1 : g 1 = iI me := e1
  have e2 : g 2 = iI fl := e2
  have e3 : g 3 = iI (Ls.length : Int) := e3
  have e4 : g 4 = iI ho := e4
  have e5 : g 5 = iI ec := e5
  have e6 : g 6 = iI bk := e6
  have hL6 : Ls.length ≤ 6 := hL6
  have hSW : ∀ i, i < Ls.length → SWr g (7 + 207 * i) (Ls.getD i dS) := fun i hi => by have z := hSW i hi; rw [show 0 + 7 + 207 * i = 7 + 207 * i by omega] at z; exact z
  have L : ∀ i, i ≤ Ls.length → RR G MX12_countWith 4 [(0, .ref m), (1, .int (iI 2)), (2, .int (iI (cnt isSe (Ls.take i)))), (3, .int (iI ((i : Int))))] [] h (xm_R MX12_countWith).cells (xm_R MX12_countWith).slots (qI (cnt isSe Ls) h) := by
    refine down (fun i hi ih => ?_)
    refine r_iload_n dX12_countWith_4 3 rfl ?_
    refine r_aload_n dX12_countWith_5 0 rfl ?_
    refine r_get cl_X12 5 (by decide) kf_X12_25 dX12_countWith_6 mm fm rfl ?_
    refine i_const (3) dX12_countWith_9 ?_
    refine i_iald 3 rfl dX12_countWith_10 mR fR (by omega) (by decide) e3 ?_
    refine i_icmpge dX12_countWith_11 (tgt := 37) (by decide) (by unfold in32; omega) (by unfold in32; omega) (fun c11 => ?_) (fun c11 => ?_)
    · refine r_iload_n dX12_countWith_37 2 rfl ?_
      refine r_ireturn rfl rfl dX12_countWith_38 ?_
      rw [show i = Ls.length by omega, take_allS]
      exact ⟨rfl, rfl⟩
    · have hi9 : i < Ls.length := by omega
      have hw := hSW i hi9
      obtain ⟨s, hs⟩ : ∃ s, s = Ls.getD i dS := ⟨_, rfl⟩
      rw [← hs] at hw
      obtain ⟨l, ex, wa, fo, du, se, co⟩ := s
      have hw0 := hw
      obtain ⟨w0, w1, w2, w3, w4, w5, w6, wl, wk⟩ := hw
      have w0 : g (7 + 207 * i + 0) = iI wa := w0
      have w1 : g (7 + 207 * i + 1) = iI (b2 du) := w1
      have w2 : g (7 + 207 * i + 2) = iI (b2 se) := w2
      have w3 : g (7 + 207 * i + 3) = iI (b2 co) := w3
      have w4 : g (7 + 207 * i + 4) = fo := w4
      have w5 : g (7 + 207 * i + 5) = iI ex := w5
      have w6 : g (7 + 207 * i + 6) = iI (l.length : Int) := w6
      have wl : l.length ≤ 200 := wl
      have wk : ∀ k, k < l.length → g (7 + 207 * i + 7 + k) = iI (l.getD k 0) := wk
      refine r_iload_n dX12_countWith_14 2 rfl ?_
      refine r_aload_n dX12_countWith_15 0 rfl ?_
      refine r_iload_n dX12_countWith_16 3 rfl ?_
      refine r_iload_n dX12_countWith_17 1 rfl ?_
      refine p_callV (As := [.int (iI ((i : Int))), .int (iI 2)]) (b := m) (rest := [.int (iI (cnt isSe (Ls.take i)))]) (w := (some (.int (iI (b2 se))))) (st' := [.int (iI (b2 se)), .int (iI (cnt isSe (Ls.take i)))]) kv_X12_countWith_124 dX12_countWith_18 rfl rfl (Nat.le_of_ble_eq_true rfl) (Nat.le_of_ble_eq_true rfl) (x_rv mm fm rfl) rfl rfl (c_X12_is hM0 hR0 (i := i) (w := 2) (by omega) (by decide) w2) rfl (fun h9 e9 => ?_)
      rw [show h9 = h from e9]
      refine i_ifeqb dX12_countWith_21 (tgt := 28) (by decide) (fun c21 => ?_) (fun c21 => ?_)
      · refine i_const (0) dX12_countWith_28 ?_
        refine i_add dX12_countWith_29 ?_
        refine r_istore_n (ls' := [(0, .ref m), (1, .int (iI 2)), (2, .int (iI ((cnt isSe (Ls.take i)) + 0))), (3, .int (iI ((i : Int))))]) dX12_countWith_30 (by decide) rfl ?_
        refine i_iinc (ls' := [(0, .ref m), (1, .int (iI 2)), (2, .int (iI ((cnt isSe (Ls.take i)) + 0))), (3, .int (iI ((i : Int) + 1)))]) (1) (v := (i : Int) + 1) dX12_countWith_31 3 rfl (by omega) (by decide) rfl ?_
        refine r_goto dX12_countWith_34 (tgt := 4) (by decide) ?_
        have q := ih (i + 1) (by omega) (by omega)
        rw [cnt_f hi9 (by rw [← hs]; exact c21), ← Int.add_zero (cnt isSe (Ls.take i))] at q
        exact q
      · refine i_const (1) dX12_countWith_24 ?_
        refine r_goto dX12_countWith_25 (tgt := 29) (by decide) ?_
        refine i_add dX12_countWith_29 ?_
        refine r_istore_n (ls' := [(0, .ref m), (1, .int (iI 2)), (2, .int (iI ((cnt isSe (Ls.take i)) + 1))), (3, .int (iI ((i : Int))))]) dX12_countWith_30 (by decide) rfl ?_
        refine i_iinc (ls' := [(0, .ref m), (1, .int (iI 2)), (2, .int (iI ((cnt isSe (Ls.take i)) + 1))), (3, .int (iI ((i : Int) + 1)))]) (1) (v := (i : Int) + 1) dX12_countWith_31 3 rfl (by omega) (by decide) rfl ?_
        refine r_goto dX12_countWith_34 (tgt := 4) (by decide) ?_
        have q := ih (i + 1) (by omega) (by omega)
        rw [cnt_t hi9 (by rw [← hs]; exact c21)] at q
        exact q
  show RR G MX12_countWith 0 [(0, .ref m), (1, .int (iI 2))] [] h (xm_R MX12_countWith).cells (xm_R MX12_countWith).slots (qI (cnt isSe Ls) h)
  refine i_const (0) dX12_countWith_0 ?_
  refine r_istore_n (ls' := [(0, .ref m), (1, .int (iI 2)), (2, .int (iI 0))]) dX12_countWith_1 (by decide) rfl ?_
  refine i_const (0) dX12_countWith_2 ?_
  refine r_istore_n (ls' := [(0, .ref m), (1, .int (iI 2)), (2, .int (iI 0)), (3, .int (iI 0))]) dX12_countWith_3 (by decide) rfl ?_
  exact L 0 (by omega)
set_option maxRecDepth 20000 in
set_option maxHeartbeats 1000000 in
theorem c_X12_countWith_isC {G : xG} {h : xH} {m : Nat} {a : MA} {r : MR} (hM : MO G h m a r) {g : Nat → Int32} (hR : AR G h r.1 1456 g) {B : AB} (hRW : RWc g 0 B) : CC G MX12_countWith [.ref m, .int (iI 3)] h (qI (cnt isC B.2) h) := by
  obtain ⟨nw, dr, kp, sv, hy, ou, bu, od, ow⟩ := a
  obtain ⟨rr, un, th, lc, re, lz, bz, jz, sd, ol, bl, li, nx, bg, tk, er, ea, ep, nd, oc⟩ := r
  have hM0 := hM
  obtain ⟨mm, fm⟩ := hM
  have fm : h.2 m = .inr (8, [.ref nw, .ref dr, .ref kp, .ref sv, .ref hy, .ref rr, .int (iI un), .int (iI th), .int (iI lc), .int (iI re), .int (iI lz), .int (iI bz), .int (iI jz), .int (iI (b2 sd)), .ref ou, .int (iI ol), .ref bu, .int (iI bl), .int (iI li), .int (iI nx), .int (iI bg), .int (iI tk), .int (iI er), .int (iI ea), .int (iI ep), .int (iI nd), .ref od, .ref ow, .int (iI oc)]) := fm
  have hR0 := hR
  obtain ⟨mR, fR⟩ := hR
  have fR : h.2 rr = .inl (G.2.1 0, 1456, .inl g) := fR
  have nmr : m ≠ rr := ne_oi fm fR
  obtain ⟨⟨ro, me, fl, ho, ec, bk⟩, Ls⟩ := B
  have hRW0 := hRW
  obtain ⟨⟨e0, e1, e2, e3, e4, e5, e6⟩, hL6, hSW⟩ := hRW
  have e0 : g 0 = iI ro := e0
  have e1 : g 1 = iI me := e1
  have e2 : g 2 = iI fl := e2
  have e3 : g 3 = iI (Ls.length : Int) := e3
  have e4 : g 4 = iI ho := e4
  have e5 : g 5 = iI ec := e5
  have e6 : g 6 = iI bk := e6
  have hL6 : Ls.length ≤ 6 := hL6
  have hSW : ∀ i, i < Ls.length → SWr g (7 + 207 * i) (Ls.getD i dS) := fun i hi => by have z := hSW i hi; rw [show 0 + 7 + 207 * i = 7 + 207 * i by omega] at z; exact z
  have L : ∀ i, i ≤ Ls.length → RR G MX12_countWith 4 [(0, .ref m), (1, .int (iI 3)), (2, .int (iI (cnt isC (Ls.take i)))), (3, .int (iI ((i : Int))))] [] h (xm_R MX12_countWith).cells (xm_R MX12_countWith).slots (qI (cnt isC Ls) h) := by
    refine down (fun i hi ih => ?_)
    refine r_iload_n dX12_countWith_4 3 rfl ?_
    refine r_aload_n dX12_countWith_5 0 rfl ?_
    refine r_get cl_X12 5 (by decide) kf_X12_25 dX12_countWith_6 mm fm rfl ?_
    refine i_const (3) dX12_countWith_9 ?_
    refine i_iald 3 rfl dX12_countWith_10 mR fR (by omega) (by decide) e3 ?_
    refine i_icmpge dX12_countWith_11 (tgt := 37) (by decide) (by unfold in32; omega) (by unfold in32; omega) (fun c11 => ?_) (fun c11 => ?_)
    · refine r_iload_n dX12_countWith_37 2 rfl ?_
      refine r_ireturn rfl rfl dX12_countWith_38 ?_
      rw [show i = Ls.length by omega, take_allS]
      exact ⟨rfl, rfl⟩
    · have hi9 : i < Ls.length := by omega
      have hw := hSW i hi9
      obtain ⟨s, hs⟩ : ∃ s, s = Ls.getD i dS := ⟨_, rfl⟩
      rw [← hs] at hw
      obtain ⟨l, ex, wa, fo, du, se, co⟩ := s
      have hw0 := hw
      obtain ⟨w0, w1, w2, w3, w4, w5, w6, wl, wk⟩ := hw
      have w0 : g (7 + 207 * i + 0) = iI wa := w0
      have w1 : g (7 + 207 * i + 1) = iI (b2 du) := w1
      have w2 : g (7 + 207 * i + 2) = iI (b2 se) := w2
      have w3 : g (7 + 207 * i + 3) = iI (b2 co) := w3
      have w4 : g (7 + 207 * i + 4) = fo := w4
      have w5 : g (7 + 207 * i + 5) = iI ex := w5
      have w6 : g (7 + 207 * i + 6) = iI (l.length : Int) := w6
      have wl : l.length ≤ 200 := wl
      have wk : ∀ k, k < l.length → g (7 + 207 * i + 7 + k) = iI (l.getD k 0) := wk
      refine r_iload_n dX12_countWith_14 2 rfl ?_
      refine r_aload_n dX12_countWith_15 0 rfl ?_
      refine r_iload_n dX12_countWith_16 3 rfl ?_
      refine r_iload_n dX12_countWith_17 1 rfl ?_
      refine p_callV (As := [.int (iI ((i : Int))), .int (iI 3)]) (b := m) (rest := [.int (iI (cnt isC (Ls.take i)))]) (w := (some (.int (iI (b2 co))))) (st' := [.int (iI (b2 co)), .int (iI (cnt isC (Ls.take i)))]) kv_X12_countWith_124 dX12_countWith_18 rfl rfl (Nat.le_of_ble_eq_true rfl) (Nat.le_of_ble_eq_true rfl) (x_rv mm fm rfl) rfl rfl (c_X12_is hM0 hR0 (i := i) (w := 3) (by omega) (by decide) w3) rfl (fun h9 e9 => ?_)
      rw [show h9 = h from e9]
      refine i_ifeqb dX12_countWith_21 (tgt := 28) (by decide) (fun c21 => ?_) (fun c21 => ?_)
      · refine i_const (0) dX12_countWith_28 ?_
        refine i_add dX12_countWith_29 ?_
        refine r_istore_n (ls' := [(0, .ref m), (1, .int (iI 3)), (2, .int (iI ((cnt isC (Ls.take i)) + 0))), (3, .int (iI ((i : Int))))]) dX12_countWith_30 (by decide) rfl ?_
        refine i_iinc (ls' := [(0, .ref m), (1, .int (iI 3)), (2, .int (iI ((cnt isC (Ls.take i)) + 0))), (3, .int (iI ((i : Int) + 1)))]) (1) (v := (i : Int) + 1) dX12_countWith_31 3 rfl (by omega) (by decide) rfl ?_
        refine r_goto dX12_countWith_34 (tgt := 4) (by decide) ?_
        have q := ih (i + 1) (by omega) (by omega)
        rw [cnt_f hi9 (by rw [← hs]; exact c21), ← Int.add_zero (cnt isC (Ls.take i))] at q
        exact q
      · refine i_const (1) dX12_countWith_24 ?_
        refine r_goto dX12_countWith_25 (tgt := 29) (by decide) ?_
        refine i_add dX12_countWith_29 ?_
        refine r_istore_n (ls' := [(0, .ref m), (1, .int (iI 3)), (2, .int (iI ((cnt isC (Ls.take i)) + 1))), (3, .int (iI ((i : Int))))]) dX12_countWith_30 (by decide) rfl ?_
        refine i_iinc (ls' := [(0, .ref m), (1, .int (iI 3)), (2, .int (iI ((cnt isC (Ls.take i)) + 1))), (3, .int (iI ((i : Int) + 1)))]) (1) (v := (i : Int) + 1) dX12_countWith_31 3 rfl (by omega) (by decide) rfl ?_
        refine r_goto dX12_countWith_34 (tgt := 4) (by decide) ?_
        have q := ih (i + 1) (by omega) (by omega)
        rw [cnt_t hi9 (by rw [← hs]; exact c21)] at q
        exact q
  show RR G MX12_countWith 0 [(0, .ref m), (1, .int (iI 3))] [] h (xm_R MX12_countWith).cells (xm_R MX12_countWith).slots (qI (cnt isC Ls) h)
  refine i_const (0) dX12_countWith_0 ?_
  refine r_istore_n (ls' := [(0, .ref m), (1, .int (iI 3)), (2, .int (iI 0))]) dX12_countWith_1 (by decide) rfl ?_
  refine i_const (0) dX12_countWith_2 ?_
  refine r_istore_n (ls' := [(0, .ref m), (1, .int (iI 3)), (2, .int (iI 0)), (3, .int (iI 0))]) dX12_countWith_3 (by decide) rfl ?_
  exact L 0 (by omega)
set_option maxRecDepth 20000 in
set_option maxHeartbeats 1000000 in
theorem c_X12_greatest_dgS {G : xG} {h : xH} {m : Nat} {a : MA} {r : MR} (hM : MO G h m a r) {g : Nat → Int32} (hR : AR G h r.1 1456 g) {B : AB} (hRW : RWc g 0 B) (hWs : ∀ s ∈ B.2, WS s) : CC G MX12_greatest [.ref m, .int (iI 0)] h (qI (grt dgS B.2) h) := by
  obtain ⟨nw, dr, kp, sv, hy, ou, bu, od, ow⟩ := a
  obtain ⟨rr, un, th, lc, re, lz, bz, jz, sd, ol, bl, li, nx, bg, tk, er, ea, ep, nd, oc⟩ := r
  have hM0 := hM
  obtain ⟨mm, fm⟩ := hM
  have fm : h.2 m = .inr (8, [.ref nw, .ref dr, .ref kp, .ref sv, .ref hy, .ref rr, .int (iI un), .int (iI th), .int (iI lc), .int (iI re), .int (iI lz), .int (iI bz), .int (iI jz), .int (iI (b2 sd)), .ref ou, .int (iI ol), .ref bu, .int (iI bl), .int (iI li), .int (iI nx), .int (iI bg), .int (iI tk), .int (iI er), .int (iI ea), .int (iI ep), .int (iI nd), .ref od, .ref ow, .int (iI oc)]) := fm
  have hR0 := hR
  obtain ⟨mR, fR⟩ := hR
  have fR : h.2 rr = .inl (G.2.1 0, 1456, .inl g) := fR
  have nmr : m ≠ rr := ne_oi fm fR
  obtain ⟨⟨ro, me, fl, ho, ec, bk⟩, Ls⟩ := B
  have hRW0 := hRW
  obtain ⟨⟨e0, e1, e2, e3, e4, e5, e6⟩, hL6, hSW⟩ := hRW
  have e0 : g 0 = iI ro := e0
  have e1 : g 1 = iI me := e1
  have e2 : g 2 = iI fl := e2
  have e3 : g 3 = iI (Ls.length : Int) := e3
  have e4 : g 4 = iI ho := e4
  have e5 : g 5 = iI ec := e5
  have e6 : g 6 = iI bk := e6
  have hL6 : Ls.length ≤ 6 := hL6
  have hSW : ∀ i, i < Ls.length → SWr g (7 + 207 * i) (Ls.getD i dS) := fun i hi => by have z := hSW i hi; rw [show 0 + 7 + 207 * i = 7 + 207 * i by omega] at z; exact z
  have hWs : ∀ s ∈ Ls, WS s := hWs
  have L : ∀ i, i ≤ Ls.length → 1 ≤ i → RR G MX12_greatest 4 [(0, .ref m), (1, .int (iI 0)), (2, .int (iI ((bst dgS Ls i : Int)))), (3, .int (iI ((i : Int))))] [] h (xm_R MX12_greatest).cells (xm_R MX12_greatest).slots (qI (grt dgS Ls) h) := by
    refine down (fun i hi ih => ?_)
    intro hi1
    have hlt := bst_lt dgS Ls i
    refine r_iload_n dX12_greatest_4 3 rfl ?_
    refine r_aload_n dX12_greatest_5 0 rfl ?_
    refine r_get cl_X12 5 (by decide) kf_X12_25 dX12_greatest_6 mm fm rfl ?_
    refine i_const (3) dX12_greatest_9 ?_
    refine i_iald 3 rfl dX12_greatest_10 mR fR (by omega) (by decide) e3 ?_
    refine i_icmpge dX12_greatest_11 (tgt := 46) (by decide) (by unfold in32; omega) (by unfold in32; omega) (fun c11 => ?_) (fun c11 => ?_)
    · refine r_iload_n dX12_greatest_46 2 rfl ?_
      refine r_ireturn rfl rfl dX12_greatest_47 ?_
      have e : grt dgS Ls = (bst dgS Ls i : Int) := by rw [grt, if_neg (by omega), show i = Ls.length by omega]
      rw [e]
      exact ⟨rfl, rfl⟩
    · refine r_iload_n dX12_greatest_14 2 rfl ?_
      refine i_const (-1) dX12_greatest_15 ?_
      refine i_icmpeq dX12_greatest_16 (tgt := 34) (by decide) (by unfold in32; omega) ⟨by decide, by decide⟩ (fun c16 => ?_) (fun c16 => ?_)
      · refine r_iload_n dX12_greatest_34 3 rfl ?_
        refine r_goto dX12_greatest_35 (tgt := 39) (by decide) ?_
        refine r_istore_n (ls' := [(0, .ref m), (1, .int (iI 0)), (2, .int (iI ((i : Int)))), (3, .int (iI ((i : Int))))]) dX12_greatest_39 (by decide) rfl ?_
        refine i_iinc (ls' := [(0, .ref m), (1, .int (iI 0)), (2, .int (iI ((i : Int)))), (3, .int (iI ((i : Int) + 1)))]) (1) (v := (i : Int) + 1) dX12_greatest_40 3 rfl (by omega) (by decide) rfl ?_
        refine r_goto dX12_greatest_43 (tgt := 4) (by decide) ?_
        exfalso
        omega
      · have hi9 : i < Ls.length := by omega
        have hj9 : bst dgS Ls i < Ls.length := by omega
        have hw := hSW i hi9
        obtain ⟨s, hs⟩ : ∃ s, s = Ls.getD i dS := ⟨_, rfl⟩
        rw [← hs] at hw
        obtain ⟨l, ex, wa, fo, du, se, co⟩ := s
        have hw0 := hw
        obtain ⟨w0, w1, w2, w3, w4, w5, w6, wl, wk⟩ := hw
        have w0 : g (7 + 207 * i + 0) = iI wa := w0
        have w1 : g (7 + 207 * i + 1) = iI (b2 du) := w1
        have w2 : g (7 + 207 * i + 2) = iI (b2 se) := w2
        have w3 : g (7 + 207 * i + 3) = iI (b2 co) := w3
        have w4 : g (7 + 207 * i + 4) = fo := w4
        have w5 : g (7 + 207 * i + 5) = iI ex := w5
        have w6 : g (7 + 207 * i + 6) = iI (l.length : Int) := w6
        have wl : l.length ≤ 200 := wl
        have wk : ∀ k, k < l.length → g (7 + 207 * i + 7 + k) = iI (l.getD k 0) := wk
        have hw' := hSW (bst dgS Ls i) hj9
        obtain ⟨s', hs'⟩ : ∃ s', s' = Ls.getD (bst dgS Ls i) dS := ⟨_, rfl⟩
        rw [← hs'] at hw'
        obtain ⟨l', ex', wa', fo', du', se', co'⟩ := s'
        have hw0' := hw'
        obtain ⟨w0', w1', w2', w3', w4', w5', w6', wl', wk'⟩ := hw'
        have w0' : g (7 + 207 * (bst dgS Ls i) + 0) = iI wa' := w0'
        have w1' : g (7 + 207 * (bst dgS Ls i) + 1) = iI (b2 du') := w1'
        have w2' : g (7 + 207 * (bst dgS Ls i) + 2) = iI (b2 se') := w2'
        have w3' : g (7 + 207 * (bst dgS Ls i) + 3) = iI (b2 co') := w3'
        have w4' : g (7 + 207 * (bst dgS Ls i) + 4) = fo' := w4'
        have w5' : g (7 + 207 * (bst dgS Ls i) + 5) = iI ex' := w5'
        have w6' : g (7 + 207 * (bst dgS Ls i) + 6) = iI (l'.length : Int) := w6'
        have wl' : l'.length ≤ 200 := wl'
        have wk' : ∀ k, k < l'.length → g (7 + 207 * (bst dgS Ls i) + 7 + k) = iI (l'.getD k 0) := wk'
        have hWi := hWs _ (getD_memS hi9)
        have hWj := hWs _ (getD_memS hj9)
        rw [← hs] at hWi
        rw [← hs'] at hWj
        have hb1 : 0 ≤ wa ∧ wa ≤ 40 := hWi.2.2.2
        have hb2 : 0 ≤ wa' ∧ wa' ≤ 40 := hWj.2.2.2
        refine r_aload_n dX12_greatest_19 0 rfl ?_
        refine r_iload_n dX12_greatest_20 3 rfl ?_
        refine r_iload_n dX12_greatest_21 1 rfl ?_
        refine p_callV (As := [.int (iI ((i : Int))), .int (iI 0)]) (b := m) (rest := []) (w := (some (.int (iI wa)))) (st' := [.int (iI wa)]) kv_X12_greatest_93 dX12_greatest_22 rfl rfl (Nat.le_of_ble_eq_true rfl) (Nat.le_of_ble_eq_true rfl) (x_rv mm fm rfl) rfl rfl (c_X12_of hM0 hR0 (i := i) (w := 0) (by omega) (by decide) w0) rfl (fun h9 e9 => ?_)
        rw [show h9 = h from e9]
        refine r_aload_n dX12_greatest_25 0 rfl ?_
        refine r_iload_n dX12_greatest_26 2 rfl ?_
        refine r_iload_n dX12_greatest_27 1 rfl ?_
        refine p_callV (As := [.int (iI ((bst dgS Ls i : Int))), .int (iI 0)]) (b := m) (rest := [.int (iI wa)]) (w := (some (.int (iI wa')))) (st' := [.int (iI wa'), .int (iI wa)]) kv_X12_greatest_93 dX12_greatest_28 rfl rfl (Nat.le_of_ble_eq_true rfl) (Nat.le_of_ble_eq_true rfl) (x_rv mm fm rfl) rfl rfl (c_X12_of hM0 hR0 (i := (bst dgS Ls i)) (w := 0) (by omega) (by decide) w0') rfl (fun h9 e9 => ?_)
        rw [show h9 = h from e9]
        refine i_icmple dX12_greatest_31 (tgt := 38) (by decide) (by unfold in32; omega) (by unfold in32; omega) (fun c31 => ?_) (fun c31 => ?_)
        · refine r_iload_n dX12_greatest_38 2 rfl ?_
          refine r_istore_n (ls' := [(0, .ref m), (1, .int (iI 0)), (2, .int (iI ((bst dgS Ls i : Int)))), (3, .int (iI ((i : Int))))]) dX12_greatest_39 (by decide) rfl ?_
          refine i_iinc (ls' := [(0, .ref m), (1, .int (iI 0)), (2, .int (iI ((bst dgS Ls i : Int)))), (3, .int (iI ((i : Int) + 1)))]) (1) (v := (i : Int) + 1) dX12_greatest_40 3 rfl (by omega) (by decide) rfl ?_
          refine r_goto dX12_greatest_43 (tgt := 4) (by decide) ?_
          have q := ih (i + 1) (by omega) (by omega) (by omega)
          rw [bst_f (by rw [← hs, ← hs']; show wa ≤ wa'; omega)] at q
          exact q
        · refine r_iload_n dX12_greatest_34 3 rfl ?_
          refine r_goto dX12_greatest_35 (tgt := 39) (by decide) ?_
          refine r_istore_n (ls' := [(0, .ref m), (1, .int (iI 0)), (2, .int (iI ((i : Int)))), (3, .int (iI ((i : Int))))]) dX12_greatest_39 (by decide) rfl ?_
          refine i_iinc (ls' := [(0, .ref m), (1, .int (iI 0)), (2, .int (iI ((i : Int)))), (3, .int (iI ((i : Int) + 1)))]) (1) (v := (i : Int) + 1) dX12_greatest_40 3 rfl (by omega) (by decide) rfl ?_
          refine r_goto dX12_greatest_43 (tgt := 4) (by decide) ?_
          have q := ih (i + 1) (by omega) (by omega) (by omega)
          rw [bst_t (by rw [← hs, ← hs']; show wa' < wa; omega)] at q
          exact q
  show RR G MX12_greatest 0 [(0, .ref m), (1, .int (iI 0))] [] h (xm_R MX12_greatest).cells (xm_R MX12_greatest).slots (qI (grt dgS Ls) h)
  refine i_const (-1) dX12_greatest_0 ?_
  refine r_istore_n (ls' := [(0, .ref m), (1, .int (iI 0)), (2, .int (iI ((-1))))]) dX12_greatest_1 (by decide) rfl ?_
  refine i_const (0) dX12_greatest_2 ?_
  refine r_istore_n (ls' := [(0, .ref m), (1, .int (iI 0)), (2, .int (iI ((-1)))), (3, .int (iI 0))]) dX12_greatest_3 (by decide) rfl ?_
  refine r_iload_n dX12_greatest_4 3 rfl ?_
  refine r_aload_n dX12_greatest_5 0 rfl ?_
  refine r_get cl_X12 5 (by decide) kf_X12_25 dX12_greatest_6 mm fm rfl ?_
  refine i_const (3) dX12_greatest_9 ?_
  refine i_iald 3 rfl dX12_greatest_10 mR fR (by omega) (by decide) e3 ?_
  refine i_icmpge dX12_greatest_11 (tgt := 46) (by decide) ⟨by decide, by decide⟩ (by unfold in32; omega) (fun c11 => ?_) (fun c11 => ?_)
  · refine r_iload_n dX12_greatest_46 2 rfl ?_
    refine r_ireturn rfl rfl dX12_greatest_47 ?_
    have e : grt dgS Ls = -1 := by rw [grt, if_pos (by omega)]
    rw [e]
    exact ⟨rfl, rfl⟩
  · refine r_iload_n dX12_greatest_14 2 rfl ?_
    refine i_const (-1) dX12_greatest_15 ?_
    refine i_icmpeq dX12_greatest_16 (tgt := 34) (by decide) ⟨by decide, by decide⟩ ⟨by decide, by decide⟩ (fun _ => ?_) (fun c => absurd c (by decide))
    refine r_iload_n dX12_greatest_34 3 rfl ?_
    refine r_goto dX12_greatest_35 (tgt := 39) (by decide) ?_
    refine r_istore_n (ls' := [(0, .ref m), (1, .int (iI 0)), (2, .int (iI 0)), (3, .int (iI 0))]) dX12_greatest_39 (by decide) rfl ?_
    refine i_iinc (ls' := [(0, .ref m), (1, .int (iI 0)), (2, .int (iI 0)), (3, .int (iI 1))]) (1) (v := 1) dX12_greatest_40 3 rfl (by decide) (by decide) rfl ?_
    refine r_goto dX12_greatest_43 (tgt := 4) (by decide) ?_
    have q := L 1 (by omega) (by omega)
    rw [bst_1] at q
    exact q
set_option maxRecDepth 20000 in
set_option maxHeartbeats 1000000 in
theorem c_X12_greatest_lnS {G : xG} {h : xH} {m : Nat} {a : MA} {r : MR} (hM : MO G h m a r) {g : Nat → Int32} (hR : AR G h r.1 1456 g) {B : AB} (hRW : RWc g 0 B) (hWs : ∀ s ∈ B.2, WS s) : CC G MX12_greatest [.ref m, .int (iI 6)] h (qI (grt lnS B.2) h) := by
  obtain ⟨nw, dr, kp, sv, hy, ou, bu, od, ow⟩ := a
  obtain ⟨rr, un, th, lc, re, lz, bz, jz, sd, ol, bl, li, nx, bg, tk, er, ea, ep, nd, oc⟩ := r
  have hM0 := hM
  obtain ⟨mm, fm⟩ := hM
  have fm : h.2 m = .inr (8, [.ref nw, .ref dr, .ref kp, .ref sv, .ref hy, .ref rr, .int (iI un), .int (iI th), .int (iI lc), .int (iI re), .int (iI lz), .int (iI bz), .int (iI jz), .int (iI (b2 sd)), .ref ou, .int (iI ol), .ref bu, .int (iI bl), .int (iI li), .int (iI nx), .int (iI bg), .int (iI tk), .int (iI er), .int (iI ea), .int (iI ep), .int (iI nd), .ref od, .ref ow, .int (iI oc)]) := fm
  have hR0 := hR
  obtain ⟨mR, fR⟩ := hR
  have fR : h.2 rr = .inl (G.2.1 0, 1456, .inl g) := fR
  have nmr : m ≠ rr := ne_oi fm fR
  obtain ⟨⟨ro, me, fl, ho, ec, bk⟩, Ls⟩ := B
  have hRW0 := hRW
  obtain ⟨⟨e0, e1, e2, e3, e4, e5, e6⟩, hL6, hSW⟩ := hRW
  have e0 : g 0 = iI ro := e0
  have e1 : g 1 = iI me := e1
  have e2 : g 2 = iI fl := e2
  have e3 : g 3 = iI (Ls.length : Int) := e3
  have e4 : g 4 = iI ho := e4
  have e5 : g 5 = iI ec := e5
  have e6 : g 6 = iI bk := e6
  have hL6 : Ls.length ≤ 6 := hL6
  have hSW : ∀ i, i < Ls.length → SWr g (7 + 207 * i) (Ls.getD i dS) := fun i hi => by have z := hSW i hi; rw [show 0 + 7 + 207 * i = 7 + 207 * i by omega] at z; exact z
  have hWs : ∀ s ∈ Ls, WS s := hWs
  have L : ∀ i, i ≤ Ls.length → 1 ≤ i → RR G MX12_greatest 4 [(0, .ref m), (1, .int (iI 6)), (2, .int (iI ((bst lnS Ls i : Int)))), (3, .int (iI ((i : Int))))] [] h (xm_R MX12_greatest).cells (xm_R MX12_greatest).slots (qI (grt lnS Ls) h) := by
    refine down (fun i hi ih => ?_)
    intro hi1
    have hlt := bst_lt lnS Ls i
    refine r_iload_n dX12_greatest_4 3 rfl ?_
    refine r_aload_n dX12_greatest_5 0 rfl ?_
    refine r_get cl_X12 5 (by decide) kf_X12_25 dX12_greatest_6 mm fm rfl ?_
    refine i_const (3) dX12_greatest_9 ?_
    refine i_iald 3 rfl dX12_greatest_10 mR fR (by omega) (by decide) e3 ?_
    refine i_icmpge dX12_greatest_11 (tgt := 46) (by decide) (by unfold in32; omega) (by unfold in32; omega) (fun c11 => ?_) (fun c11 => ?_)
    · refine r_iload_n dX12_greatest_46 2 rfl ?_
      refine r_ireturn rfl rfl dX12_greatest_47 ?_
      have e : grt lnS Ls = (bst lnS Ls i : Int) := by rw [grt, if_neg (by omega), show i = Ls.length by omega]
      rw [e]
      exact ⟨rfl, rfl⟩
    · refine r_iload_n dX12_greatest_14 2 rfl ?_
      refine i_const (-1) dX12_greatest_15 ?_
      refine i_icmpeq dX12_greatest_16 (tgt := 34) (by decide) (by unfold in32; omega) ⟨by decide, by decide⟩ (fun c16 => ?_) (fun c16 => ?_)
      · refine r_iload_n dX12_greatest_34 3 rfl ?_
        refine r_goto dX12_greatest_35 (tgt := 39) (by decide) ?_
        refine r_istore_n (ls' := [(0, .ref m), (1, .int (iI 6)), (2, .int (iI ((i : Int)))), (3, .int (iI ((i : Int))))]) dX12_greatest_39 (by decide) rfl ?_
        refine i_iinc (ls' := [(0, .ref m), (1, .int (iI 6)), (2, .int (iI ((i : Int)))), (3, .int (iI ((i : Int) + 1)))]) (1) (v := (i : Int) + 1) dX12_greatest_40 3 rfl (by omega) (by decide) rfl ?_
        refine r_goto dX12_greatest_43 (tgt := 4) (by decide) ?_
        exfalso
        omega
      · have hi9 : i < Ls.length := by omega
        have hj9 : bst lnS Ls i < Ls.length := by omega
        have hw := hSW i hi9
        obtain ⟨s, hs⟩ : ∃ s, s = Ls.getD i dS := ⟨_, rfl⟩
        rw [← hs] at hw
        obtain ⟨l, ex, wa, fo, du, se, co⟩ := s
        have hw0 := hw
        obtain ⟨w0, w1, w2, w3, w4, w5, w6, wl, wk⟩ := hw
        have w0 : g (7 + 207 * i + 0) = iI wa := w0
        have w1 : g (7 + 207 * i + 1) = iI (b2 du) := w1
        have w2 : g (7 + 207 * i + 2) = iI (b2 se) := w2
        have w3 : g (7 + 207 * i + 3) = iI (b2 co) := w3
        have w4 : g (7 + 207 * i + 4) = fo := w4
        have w5 : g (7 + 207 * i + 5) = iI ex := w5
        have w6 : g (7 + 207 * i + 6) = iI (l.length : Int) := w6
        have wl : l.length ≤ 200 := wl
        have wk : ∀ k, k < l.length → g (7 + 207 * i + 7 + k) = iI (l.getD k 0) := wk
        have hw' := hSW (bst lnS Ls i) hj9
        obtain ⟨s', hs'⟩ : ∃ s', s' = Ls.getD (bst lnS Ls i) dS := ⟨_, rfl⟩
        rw [← hs'] at hw'
        obtain ⟨l', ex', wa', fo', du', se', co'⟩ := s'
        have hw0' := hw'
        obtain ⟨w0', w1', w2', w3', w4', w5', w6', wl', wk'⟩ := hw'
        have w0' : g (7 + 207 * (bst lnS Ls i) + 0) = iI wa' := w0'
        have w1' : g (7 + 207 * (bst lnS Ls i) + 1) = iI (b2 du') := w1'
        have w2' : g (7 + 207 * (bst lnS Ls i) + 2) = iI (b2 se') := w2'
        have w3' : g (7 + 207 * (bst lnS Ls i) + 3) = iI (b2 co') := w3'
        have w4' : g (7 + 207 * (bst lnS Ls i) + 4) = fo' := w4'
        have w5' : g (7 + 207 * (bst lnS Ls i) + 5) = iI ex' := w5'
        have w6' : g (7 + 207 * (bst lnS Ls i) + 6) = iI (l'.length : Int) := w6'
        have wl' : l'.length ≤ 200 := wl'
        have wk' : ∀ k, k < l'.length → g (7 + 207 * (bst lnS Ls i) + 7 + k) = iI (l'.getD k 0) := wk'
        have hWi := hWs _ (getD_memS hi9)
        have hWj := hWs _ (getD_memS hj9)
        rw [← hs] at hWi
        rw [← hs'] at hWj
        have hb1 : 0 ≤ wa ∧ wa ≤ 40 := hWi.2.2.2
        have hb2 : 0 ≤ wa' ∧ wa' ≤ 40 := hWj.2.2.2
        refine r_aload_n dX12_greatest_19 0 rfl ?_
        refine r_iload_n dX12_greatest_20 3 rfl ?_
        refine r_iload_n dX12_greatest_21 1 rfl ?_
        refine p_callV (As := [.int (iI ((i : Int))), .int (iI 6)]) (b := m) (rest := []) (w := (some (.int (iI ((l.length : Int)))))) (st' := [.int (iI ((l.length : Int)))]) kv_X12_greatest_93 dX12_greatest_22 rfl rfl (Nat.le_of_ble_eq_true rfl) (Nat.le_of_ble_eq_true rfl) (x_rv mm fm rfl) rfl rfl (c_X12_of hM0 hR0 (i := i) (w := 6) (by omega) (by decide) w6) rfl (fun h9 e9 => ?_)
        rw [show h9 = h from e9]
        refine r_aload_n dX12_greatest_25 0 rfl ?_
        refine r_iload_n dX12_greatest_26 2 rfl ?_
        refine r_iload_n dX12_greatest_27 1 rfl ?_
        refine p_callV (As := [.int (iI ((bst lnS Ls i : Int))), .int (iI 6)]) (b := m) (rest := [.int (iI ((l.length : Int)))]) (w := (some (.int (iI ((l'.length : Int)))))) (st' := [.int (iI ((l'.length : Int))), .int (iI ((l.length : Int)))]) kv_X12_greatest_93 dX12_greatest_28 rfl rfl (Nat.le_of_ble_eq_true rfl) (Nat.le_of_ble_eq_true rfl) (x_rv mm fm rfl) rfl rfl (c_X12_of hM0 hR0 (i := (bst lnS Ls i)) (w := 6) (by omega) (by decide) w6') rfl (fun h9 e9 => ?_)
        rw [show h9 = h from e9]
        refine i_icmple dX12_greatest_31 (tgt := 38) (by decide) (by unfold in32; omega) (by unfold in32; omega) (fun c31 => ?_) (fun c31 => ?_)
        · refine r_iload_n dX12_greatest_38 2 rfl ?_
          refine r_istore_n (ls' := [(0, .ref m), (1, .int (iI 6)), (2, .int (iI ((bst lnS Ls i : Int)))), (3, .int (iI ((i : Int))))]) dX12_greatest_39 (by decide) rfl ?_
          refine i_iinc (ls' := [(0, .ref m), (1, .int (iI 6)), (2, .int (iI ((bst lnS Ls i : Int)))), (3, .int (iI ((i : Int) + 1)))]) (1) (v := (i : Int) + 1) dX12_greatest_40 3 rfl (by omega) (by decide) rfl ?_
          refine r_goto dX12_greatest_43 (tgt := 4) (by decide) ?_
          have q := ih (i + 1) (by omega) (by omega) (by omega)
          rw [bst_f (by rw [← hs, ← hs']; show (l.length : Int) ≤ (l'.length : Int); omega)] at q
          exact q
        · refine r_iload_n dX12_greatest_34 3 rfl ?_
          refine r_goto dX12_greatest_35 (tgt := 39) (by decide) ?_
          refine r_istore_n (ls' := [(0, .ref m), (1, .int (iI 6)), (2, .int (iI ((i : Int)))), (3, .int (iI ((i : Int))))]) dX12_greatest_39 (by decide) rfl ?_
          refine i_iinc (ls' := [(0, .ref m), (1, .int (iI 6)), (2, .int (iI ((i : Int)))), (3, .int (iI ((i : Int) + 1)))]) (1) (v := (i : Int) + 1) dX12_greatest_40 3 rfl (by omega) (by decide) rfl ?_
          refine r_goto dX12_greatest_43 (tgt := 4) (by decide) ?_
          have q := ih (i + 1) (by omega) (by omega) (by omega)
          rw [bst_t (by rw [← hs, ← hs']; show (l'.length : Int) < (l.length : Int); omega)] at q
          exact q
  show RR G MX12_greatest 0 [(0, .ref m), (1, .int (iI 6))] [] h (xm_R MX12_greatest).cells (xm_R MX12_greatest).slots (qI (grt lnS Ls) h)
  refine i_const (-1) dX12_greatest_0 ?_
  refine r_istore_n (ls' := [(0, .ref m), (1, .int (iI 6)), (2, .int (iI ((-1))))]) dX12_greatest_1 (by decide) rfl ?_
  refine i_const (0) dX12_greatest_2 ?_
  refine r_istore_n (ls' := [(0, .ref m), (1, .int (iI 6)), (2, .int (iI ((-1)))), (3, .int (iI 0))]) dX12_greatest_3 (by decide) rfl ?_
  refine r_iload_n dX12_greatest_4 3 rfl ?_
  refine r_aload_n dX12_greatest_5 0 rfl ?_
  refine r_get cl_X12 5 (by decide) kf_X12_25 dX12_greatest_6 mm fm rfl ?_
  refine i_const (3) dX12_greatest_9 ?_
  refine i_iald 3 rfl dX12_greatest_10 mR fR (by omega) (by decide) e3 ?_
  refine i_icmpge dX12_greatest_11 (tgt := 46) (by decide) ⟨by decide, by decide⟩ (by unfold in32; omega) (fun c11 => ?_) (fun c11 => ?_)
  · refine r_iload_n dX12_greatest_46 2 rfl ?_
    refine r_ireturn rfl rfl dX12_greatest_47 ?_
    have e : grt lnS Ls = -1 := by rw [grt, if_pos (by omega)]
    rw [e]
    exact ⟨rfl, rfl⟩
  · refine r_iload_n dX12_greatest_14 2 rfl ?_
    refine i_const (-1) dX12_greatest_15 ?_
    refine i_icmpeq dX12_greatest_16 (tgt := 34) (by decide) ⟨by decide, by decide⟩ ⟨by decide, by decide⟩ (fun _ => ?_) (fun c => absurd c (by decide))
    refine r_iload_n dX12_greatest_34 3 rfl ?_
    refine r_goto dX12_greatest_35 (tgt := 39) (by decide) ?_
    refine r_istore_n (ls' := [(0, .ref m), (1, .int (iI 6)), (2, .int (iI 0)), (3, .int (iI 0))]) dX12_greatest_39 (by decide) rfl ?_
    refine i_iinc (ls' := [(0, .ref m), (1, .int (iI 6)), (2, .int (iI 0)), (3, .int (iI 1))]) (1) (v := 1) dX12_greatest_40 3 rfl (by decide) (by decide) rfl ?_
    refine r_goto dX12_greatest_43 (tgt := 4) (by decide) ?_
    have q := L 1 (by omega) (by omega)
    rw [bst_1] at q
    exact q
