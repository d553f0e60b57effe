/-! ===== the reference: changes, at the whole state ===== -/
def codeC (k n : Nat) : Int := match k with | 0 => (n : Int) | 1 => (n : Int) | 8 => (n : Int) | 6 => 2 | _ => if n = 1 then 1 else 2
theorem hasS_f {B : AB} {z : Int} (h : hasS B z = false) : ¬ (0 ≤ z ∧ z < (B.2.length : Int)) := by
  intro c
  unfold hasS at h
  rw [decide_eq_true c.1, decide_eq_true c.2] at h
  cases h
theorem RK.rf {r : MR} : RK r r := ⟨rfl, rfl, rfl, rfl, rfl, rfl, rfl, rfl⟩
theorem RT.rf {r : MR} : RT r r := ⟨RK.rf, rfl, rfl⟩
theorem r03_dust {s : AS} {fl : Int} (h : rDustS s fl ≠ 0) : rDustS s fl = 3 := by revert h; unfold rDustS; split <;> (try split) <;> (try split) <;> simp
theorem r03_seal {s : AS} (h : rSealS s ≠ 0) : rSealS s = 3 := by revert h; unfold rSealS; split <;> (try split) <;> simp
theorem r03_cool {s : AS} {L : List AS} (h : rCoolS s L ≠ 0) : rCoolS s L = 3 := by revert h; unfold rCoolS; split <;> (try split) <;> simp
theorem r03_take {s : AS} (h : rTakeS s ≠ 0) : rTakeS s = 3 := by revert h; unfold rTakeS; split <;> simp
theorem r03_cut {s : AS} {n : Nat} (h : rCutS s n ≠ 0) : rCutS s n = 3 := by revert h; unfold rCutS; split <;> (try split) <;> simp
theorem r03_but {s : AS} {T : Int} (h : rButS s T ≠ 0) : rButS s T = 3 := by revert h; unfold rButS; split <;> (try split) <;> (try split) <;> simp
theorem r03_roll {s : AS} {m f : Int} (h : rRollS s m f ≠ 0) : rRollS s m f = 3 := by revert h; unfold rRollS; split <;> (try split) <;> simp
theorem r03_stack {s s' : AS} (h : rStackS s s' ≠ 0) : rStackS s s' = 3 := by revert h; unfold rStackS; split <;> (try split) <;> (try split) <;> (try split) <;> simp
set_option maxRecDepth 20000 in
set_option maxHeartbeats 1000000 in
theorem d0_X12_doFold {G : xG} {h : xH} {m : Nat} {a : MA} {r : MR} (hM : MO G h m a r) {g : Nat → Int32} (hR : AR G h r.1 1456 g) {B : AB} (hRW : RWf g 0 B) (hWB : WB B) (hcb : cnt isC B.2 ≤ 3) {x y : Int} (hx : in32 x) (hy : in32 y) (h0 : rCmd 0 B x y = 0) : CC G MX12_doFold [.ref m, .int (iI x), .int (iI y)] h (fun o h' => o = .inl (some (.int (iI 0))) ∧ DOk G h h' m a r (aCmd 0 B x y) (vCmd 0 B x y)) := by
  have h0 : rFold B x y = 0 := h0
  obtain ⟨z1, z2, z3⟩ := rF0 h0
  obtain ⟨n1, n2⟩ := hasS_n z1
  have hq := fac_t z2
  have ey : ((y.toNat : Nat) : Int) = y := by omega
  have q := c_X12_doFold_ok hM hR hRW hWB n1 (np := y.toNat) (by omega) (by rw [ey]; exact z3)
  rw [n2, ey] at q
  exact q
set_option maxRecDepth 20000 in
set_option maxHeartbeats 1000000 in
theorem dn_X12_doFold {G : xG} {h : xH} {m : Nat} {a : MA} {r : MR} (hM : MO G h m a r) {g : Nat → Int32} (hR : AR G h r.1 1456 g) {B : AB} (hRW : RWf g 0 B) (hWB : WB B) (hcb : cnt isC B.2 ≤ 3) {x y : Int} (hx : in32 x) (hy : in32 y) (hq : isFac y = true) (h0 : rCmd 0 B x y ≠ 0) : CC G MX12_doFold [.ref m, .int (iI x), .int (iI y)] h (fun o h' => o = .inl (some (.int (iI (codeC 0 (rCmd 0 B x y))))) ∧ DOn G h h' m a r B) := by
  have hn := hRW.1.2.1
  have hc := hRW.1.1.2.2.2.1
  have h0 : rFold B x y ≠ 0 := h0
  cases hs : hasS B x
  · have e : rCmd 0 B x y = 1 := by show rFold B x y = 1; unfold rFold; rw [hs]; rfl
    rw [e]
    exact cc_mono (c_X12_doFold_n1 hM hR hn hc hx (hasS_f hs)) (fun o h' w => ⟨w.1, by rw [w.2]; exact ⟨_, g, hM, RT.rf, hR, hRW, FRp.rf⟩⟩)
  · obtain ⟨n1, n2⟩ := hasS_n hs
    have e : rFold B x y = (if obst (sAt B x) y = 0 then 0 else 3) := by unfold rFold; rw [if_pos hs, if_pos hq]
    rw [e] at h0
    have h1 : obst (sAt B x) y ≠ 0 := fun z => h0 (if_pos z)
    have e3 : rCmd 0 B x y = 3 := e.trans (if_neg h1)
    rw [e3]
    have q := c_X12_doFold_n hM hR hRW hWB n1 (fac_t hq) h1
    rw [n2] at q
    exact cc_mono q (fun o h' w => ⟨w.1, by rw [w.2]; exact ⟨_, g, hM, RT.rf, hR, hRW, FRp.rf⟩⟩)
set_option maxRecDepth 20000 in
set_option maxHeartbeats 1000000 in
theorem d0_X12_doRoll {G : xG} {h : xH} {m : Nat} {a : MA} {r : MR} (hM : MO G h m a r) {g : Nat → Int32} (hR : AR G h r.1 1456 g) {B : AB} (hRW : RWf g 0 B) (hWB : WB B) (hcb : cnt isC B.2 ≤ 3) {x y : Int} (hx : in32 x) (hy : in32 y) (h0 : rCmd 1 B x y = 0) : CC G MX12_doRoll [.ref m, .int (iI x), .int (iI y)] h (fun o h' => o = .inl (some (.int (iI 0))) ∧ DOk G h h' m a r (aCmd 1 B x y) (vCmd 1 B x y)) := by
  have h0 : rRoll B x y = 0 := h0
  obtain ⟨z1, z2, z3⟩ := rR0 h0
  obtain ⟨n1, n2⟩ := hasS_n z1
  have q := c_X12_doRoll_ok hM hR hRW hWB n1 (fac_t z2) z3
  rw [n2] at q
  exact q
set_option maxRecDepth 20000 in
set_option maxHeartbeats 1000000 in
theorem dn_X12_doRoll {G : xG} {h : xH} {m : Nat} {a : MA} {r : MR} (hM : MO G h m a r) {g : Nat → Int32} (hR : AR G h r.1 1456 g) {B : AB} (hRW : RWf g 0 B) (hWB : WB B) (hcb : cnt isC B.2 ≤ 3) {x y : Int} (hx : in32 x) (hy : in32 y) (hq : isFac y = true) (h0 : rCmd 1 B x y ≠ 0) : CC G MX12_doRoll [.ref m, .int (iI x), .int (iI y)] h (fun o h' => o = .inl (some (.int (iI (codeC 1 (rCmd 1 B x y))))) ∧ DOn G h h' m a r B) := by
  have hn := hRW.1.2.1
  have hc := hRW.1.1.2.2.2.1
  have h0 : rRoll B x y ≠ 0 := h0
  cases hs : hasS B x
  · have e : rCmd 1 B x y = 1 := by show rRoll B x y = 1; unfold rRoll; rw [hs]; rfl
    rw [e]
    exact cc_mono (c_X12_doRoll_n1 hM hR hn hc hx (hasS_f hs)) (fun o h' w => ⟨w.1, by rw [w.2]; exact ⟨_, g, hM, RT.rf, hR, hRW, FRp.rf⟩⟩)
  · obtain ⟨n1, n2⟩ := hasS_n hs
    have e : rRoll B x y = rRollS (sAt B x) B.1.2.1 y := by unfold rRoll; rw [if_pos hs, if_pos hq]
    rw [e] at h0
    have e3 : rCmd 1 B x y = 3 := e.trans (r03_roll h0)
    rw [e3]
    have q := c_X12_doRoll_n hM hR hRW hWB n1 (fac_t hq) h0
    rw [n2] at q
    exact q
set_option maxRecDepth 20000 in
set_option maxHeartbeats 1000000 in
theorem d0_X12_doDust {G : xG} {h : xH} {m : Nat} {a : MA} {r : MR} (hM : MO G h m a r) {g : Nat → Int32} (hR : AR G h r.1 1456 g) {B : AB} (hRW : RWf g 0 B) (hWB : WB B) (hcb : cnt isC B.2 ≤ 3) {x y : Int} (hx : in32 x) (hy : in32 y) (h0 : rCmd 2 B x y = 0) : CC G MX12_doDust [.ref m, .int (iI x)] h (fun o h' => o = .inl (some (.int (iI 0))) ∧ DOk G h h' m a r (aCmd 2 B x y) (vCmd 2 B x y)) := by
  have h0 : rDust B x = 0 := h0
  have z1 : hasS B x = true := by
    cases e : hasS B x
    · unfold rDust at h0; rw [e] at h0; cases h0
    · rfl
  obtain ⟨n1, n2⟩ := hasS_n z1
  have e : rDust B x = rDustS (sAt B x) B.1.2.2.1 := if_pos z1
  rw [e] at h0
  have q := c_X12_doDust_ok hM hR hRW hWB n1 h0
  rw [n2] at q
  exact q
set_option maxRecDepth 20000 in
set_option maxHeartbeats 1000000 in
theorem dn_X12_doDust {G : xG} {h : xH} {m : Nat} {a : MA} {r : MR} (hM : MO G h m a r) {g : Nat → Int32} (hR : AR G h r.1 1456 g) {B : AB} (hRW : RWf g 0 B) (hWB : WB B) (hcb : cnt isC B.2 ≤ 3) {x y : Int} (hx : in32 x) (hy : in32 y) (h0 : rCmd 2 B x y ≠ 0) : CC G MX12_doDust [.ref m, .int (iI x)] h (fun o h' => o = .inl (some (.int (iI (codeC 2 (rCmd 2 B x y))))) ∧ DOn G h h' m a r B) := by
  have hn := hRW.1.2.1
  have hc := hRW.1.1.2.2.2.1
  have h0 : rDust B x ≠ 0 := h0
  cases hs : hasS B x
  · have e : rCmd 2 B x y = 1 := by show rDust B x = 1; unfold rDust; rw [hs]; rfl
    rw [e]
    exact cc_mono (c_X12_doDust_n1 hM hR hn hc hx (hasS_f hs)) (fun o h' w => ⟨w.1, by rw [w.2]; exact ⟨_, g, hM, RT.rf, hR, hRW, FRp.rf⟩⟩)
  · obtain ⟨n1, n2⟩ := hasS_n hs
    have e : rDust B x = rDustS (sAt B x) B.1.2.2.1 := if_pos hs
    rw [e] at h0
    have e3 : rCmd 2 B x y = 3 := e.trans (r03_dust h0)
    rw [e3]
    have q := c_X12_doDust_n hM hR hRW hWB n1 h0
    rw [n2] at q
    exact cc_mono q (fun o h' w => ⟨w.1, by rw [w.2]; exact ⟨_, g, hM, RT.rf, hR, hRW, FRp.rf⟩⟩)
set_option maxRecDepth 20000 in
set_option maxHeartbeats 1000000 in
theorem d0_X12_doSeal {G : xG} {h : xH} {m : Nat} {a : MA} {r : MR} (hM : MO G h m a r) {g : Nat → Int32} (hR : AR G h r.1 1456 g) {B : AB} (hRW : RWf g 0 B) (hWB : WB B) (hcb : cnt isC B.2 ≤ 3) {x y : Int} (hx : in32 x) (hy : in32 y) (h0 : rCmd 3 B x y = 0) : CC G MX12_doSeal [.ref m, .int (iI x)] h (fun o h' => o = .inl (some (.int (iI 0))) ∧ DOk G h h' m a r (aCmd 3 B x y) (vCmd 3 B x y)) := by
  have h0 : rSeal B x = 0 := h0
  have z1 : hasS B x = true := by
    cases e : hasS B x
    · unfold rSeal at h0; rw [e] at h0; cases h0
    · rfl
  obtain ⟨n1, n2⟩ := hasS_n z1
  have e : rSeal B x = rSealS (sAt B x) := if_pos z1
  rw [e] at h0
  have q := c_X12_doSeal_ok hM hR hRW hWB n1 h0
  rw [n2] at q
  exact q
set_option maxRecDepth 20000 in
set_option maxHeartbeats 1000000 in
theorem dn_X12_doSeal {G : xG} {h : xH} {m : Nat} {a : MA} {r : MR} (hM : MO G h m a r) {g : Nat → Int32} (hR : AR G h r.1 1456 g) {B : AB} (hRW : RWf g 0 B) (hWB : WB B) (hcb : cnt isC B.2 ≤ 3) {x y : Int} (hx : in32 x) (hy : in32 y) (h0 : rCmd 3 B x y ≠ 0) : CC G MX12_doSeal [.ref m, .int (iI x)] h (fun o h' => o = .inl (some (.int (iI (codeC 3 (rCmd 3 B x y))))) ∧ DOn G h h' m a r B) := by
  have hn := hRW.1.2.1
  have hc := hRW.1.1.2.2.2.1
  have h0 : rSeal B x ≠ 0 := h0
  cases hs : hasS B x
  · have e : rCmd 3 B x y = 1 := by show rSeal B x = 1; unfold rSeal; rw [hs]; rfl
    rw [e]
    exact cc_mono (c_X12_doSeal_n1 hM hR hn hc hx (hasS_f hs)) (fun o h' w => ⟨w.1, by rw [w.2]; exact ⟨_, g, hM, RT.rf, hR, hRW, FRp.rf⟩⟩)
  · obtain ⟨n1, n2⟩ := hasS_n hs
    have e : rSeal B x = rSealS (sAt B x) := if_pos hs
    rw [e] at h0
    have e3 : rCmd 3 B x y = 3 := e.trans (r03_seal h0)
    rw [e3]
    have q := c_X12_doSeal_n hM hR hRW hWB n1 h0
    rw [n2] at q
    exact cc_mono q (fun o h' w => ⟨w.1, by rw [w.2]; exact ⟨_, g, hM, RT.rf, hR, hRW, FRp.rf⟩⟩)
set_option maxRecDepth 20000 in
set_option maxHeartbeats 1000000 in
theorem d0_X12_doCool {G : xG} {h : xH} {m : Nat} {a : MA} {r : MR} (hM : MO G h m a r) {g : Nat → Int32} (hR : AR G h r.1 1456 g) {B : AB} (hRW : RWf g 0 B) (hWB : WB B) (hcb : cnt isC B.2 ≤ 3) {x y : Int} (hx : in32 x) (hy : in32 y) (h0 : rCmd 4 B x y = 0) : CC G MX12_doCool [.ref m, .int (iI x)] h (fun o h' => o = .inl (some (.int (iI 0))) ∧ DOk G h h' m a r (aCmd 4 B x y) (vCmd 4 B x y)) := by
  have h0 : rCool B x = 0 := h0
  have z1 : hasS B x = true := by
    cases e : hasS B x
    · unfold rCool at h0; rw [e] at h0; cases h0
    · rfl
  obtain ⟨n1, n2⟩ := hasS_n z1
  have e : rCool B x = rCoolS (sAt B x) B.2 := if_pos z1
  rw [e] at h0
  have q := c_X12_doCool_ok hM hR hRW hWB n1 h0
  rw [n2] at q
  exact q
set_option maxRecDepth 20000 in
set_option maxHeartbeats 1000000 in
theorem dn_X12_doCool {G : xG} {h : xH} {m : Nat} {a : MA} {r : MR} (hM : MO G h m a r) {g : Nat → Int32} (hR : AR G h r.1 1456 g) {B : AB} (hRW : RWf g 0 B) (hWB : WB B) (hcb : cnt isC B.2 ≤ 3) {x y : Int} (hx : in32 x) (hy : in32 y) (h0 : rCmd 4 B x y ≠ 0) : CC G MX12_doCool [.ref m, .int (iI x)] h (fun o h' => o = .inl (some (.int (iI (codeC 4 (rCmd 4 B x y))))) ∧ DOn G h h' m a r B) := by
  have hn := hRW.1.2.1
  have hc := hRW.1.1.2.2.2.1
  have h0 : rCool B x ≠ 0 := h0
  cases hs : hasS B x
  · have e : rCmd 4 B x y = 1 := by show rCool B x = 1; unfold rCool; rw [hs]; rfl
    rw [e]
    exact cc_mono (c_X12_doCool_n1 hM hR hn hc hx (hasS_f hs)) (fun o h' w => ⟨w.1, by rw [w.2]; exact ⟨_, g, hM, RT.rf, hR, hRW, FRp.rf⟩⟩)
  · obtain ⟨n1, n2⟩ := hasS_n hs
    have e : rCool B x = rCoolS (sAt B x) B.2 := if_pos hs
    rw [e] at h0
    have e3 : rCmd 4 B x y = 3 := e.trans (r03_cool h0)
    rw [e3]
    have q := c_X12_doCool_n hM hR hRW hWB n1 hcb h0
    rw [n2] at q
    exact cc_mono q (fun o h' w => ⟨w.1, by rw [w.2]; exact ⟨_, g, hM, RT.rf, hR, hRW, FRp.rf⟩⟩)
set_option maxRecDepth 20000 in
set_option maxHeartbeats 1000000 in
theorem d0_X12_doTakeOut {G : xG} {h : xH} {m : Nat} {a : MA} {r : MR} (hM : MO G h m a r) {g : Nat → Int32} (hR : AR G h r.1 1456 g) {B : AB} (hRW : RWf g 0 B) (hWB : WB B) (hcb : cnt isC B.2 ≤ 3) {x y : Int} (hx : in32 x) (hy : in32 y) (h0 : rCmd 5 B x y = 0) : CC G MX12_doTakeOut [.ref m, .int (iI x)] h (fun o h' => o = .inl (some (.int (iI 0))) ∧ DOk G h h' m a r (aCmd 5 B x y) (vCmd 5 B x y)) := by
  have h0 : rTake B x = 0 := h0
  have z1 : hasS B x = true := by
    cases e : hasS B x
    · unfold rTake at h0; rw [e] at h0; cases h0
    · rfl
  obtain ⟨n1, n2⟩ := hasS_n z1
  have e : rTake B x = rTakeS (sAt B x) := if_pos z1
  rw [e] at h0
  have q := c_X12_doTakeOut_ok hM hR hRW hWB n1 h0
  rw [n2] at q
  exact q
set_option maxRecDepth 20000 in
set_option maxHeartbeats 1000000 in
theorem dn_X12_doTakeOut {G : xG} {h : xH} {m : Nat} {a : MA} {r : MR} (hM : MO G h m a r) {g : Nat → Int32} (hR : AR G h r.1 1456 g) {B : AB} (hRW : RWf g 0 B) (hWB : WB B) (hcb : cnt isC B.2 ≤ 3) {x y : Int} (hx : in32 x) (hy : in32 y) (h0 : rCmd 5 B x y ≠ 0) : CC G MX12_doTakeOut [.ref m, .int (iI x)] h (fun o h' => o = .inl (some (.int (iI (codeC 5 (rCmd 5 B x y))))) ∧ DOn G h h' m a r B) := by
  have hn := hRW.1.2.1
  have hc := hRW.1.1.2.2.2.1
  have h0 : rTake B x ≠ 0 := h0
  cases hs : hasS B x
  · have e : rCmd 5 B x y = 1 := by show rTake B x = 1; unfold rTake; rw [hs]; rfl
    rw [e]
    exact cc_mono (c_X12_doTakeOut_n1 hM hR hn hc hx (hasS_f hs)) (fun o h' w => ⟨w.1, by rw [w.2]; exact ⟨_, g, hM, RT.rf, hR, hRW, FRp.rf⟩⟩)
  · obtain ⟨n1, n2⟩ := hasS_n hs
    have e : rTake B x = rTakeS (sAt B x) := if_pos hs
    rw [e] at h0
    have e3 : rCmd 5 B x y = 3 := e.trans (r03_take h0)
    rw [e3]
    have q := c_X12_doTakeOut_n hM hR hRW hWB n1 h0
    rw [n2] at q
    exact cc_mono q (fun o h' w => ⟨w.1, by rw [w.2]; exact ⟨_, g, hM, RT.rf, hR, hRW, FRp.rf⟩⟩)
set_option maxRecDepth 20000 in
set_option maxHeartbeats 1000000 in
theorem d0_X12_doHours {G : xG} {h : xH} {m : Nat} {a : MA} {r : MR} (hM : MO G h m a r) {g : Nat → Int32} (hR : AR G h r.1 1456 g) {B : AB} (hRW : RWf g 0 B) (hWB : WB B) (hcb : cnt isC B.2 ≤ 3) {x y : Int} (hx : in32 x) (hy : in32 y) (h0 : rCmd 6 B x y = 0) : CC G MX12_doHours [.ref m, .int (iI x)] h (fun o h' => o = .inl (some (.int (iI 0))) ∧ DOk G h h' m a r (aCmd 6 B x y) (vCmd 6 B x y)) := by
  have h0 : rHours B x = 0 := h0
  obtain ⟨z1, z2, z3⟩ := rH0 h0
  have ex : ((x.toNat : Nat) : Int) = x := by omega
  have q := c_X12_doHours_ok hM hR hRW hWB (n9 := x.toNat) (by omega) (by rw [ex]; exact z3)
  rw [ex] at q
  exact q
set_option maxRecDepth 20000 in
set_option maxHeartbeats 1000000 in
theorem dn_X12_doHours {G : xG} {h : xH} {m : Nat} {a : MA} {r : MR} (hM : MO G h m a r) {g : Nat → Int32} (hR : AR G h r.1 1456 g) {B : AB} (hRW : RWf g 0 B) (hWB : WB B) (hcb : cnt isC B.2 ≤ 3) {x y : Int} (hx : in32 x) (hy : in32 y) (hq : 1 ≤ x ∧ x ≤ 24) (h0 : rCmd 6 B x y ≠ 0) : CC G MX12_doHours [.ref m, .int (iI x)] h (fun o h' => o = .inl (some (.int (iI (codeC 6 (rCmd 6 B x y))))) ∧ DOn G h h' m a r B) := by
  have hn := hRW.1.2.1
  have hc := hRW.1.1.2.2.2.1
  have h0 : rHours B x ≠ 0 := h0
  have h9 : 9999 < B.1.2.2.2.1 + x := by
    unfold rHours at h0
    rw [if_neg (by omega), if_neg (by omega)] at h0
    split at h0
    · assumption
    · exact absurd rfl h0
  have ex : ((x.toNat : Nat) : Int) = x := by omega
  have q := c_X12_doHours_n hM hR hRW hWB (n9 := x.toNat) (by omega) (by rw [ex]; exact h9)
  rw [ex] at q
  exact cc_mono q (fun o h' w => ⟨w.1, by rw [w.2]; exact ⟨_, g, hM, RT.rf, hR, hRW, FRp.rf⟩⟩)
set_option maxRecDepth 20000 in
set_option maxHeartbeats 1000000 in
theorem d0_X12_doCut {G : xG} {h : xH} {m : Nat} {a : MA} {r : MR} (hM : MO G h m a r) {g : Nat → Int32} (hR : AR G h r.1 1456 g) {B : AB} (hRW : RWf g 0 B) (hWB : WB B) (hcb : cnt isC B.2 ≤ 3) {x y : Int} (hx : in32 x) (hy : in32 y) (h0 : rCmd 7 B x y = 0) : CC G MX12_doCut [.ref m, .int (iI x)] h (fun o h' => o = .inl (some (.int (iI 0))) ∧ DOk G h h' m a r (aCmd 7 B x y) (vCmd 7 B x y)) := by
  have h0 : rCut B x = 0 := h0
  have z1 : hasS B x = true := by
    cases e : hasS B x
    · unfold rCut at h0; rw [e] at h0; cases h0
    · rfl
  obtain ⟨n1, n2⟩ := hasS_n z1
  have e : rCut B x = rCutS (sAt B x) B.2.length := if_pos z1
  rw [e] at h0
  have q := c_X12_doCut_ok hM hR hRW hWB n1 h0
  rw [n2] at q
  exact q
set_option maxRecDepth 20000 in
set_option maxHeartbeats 1000000 in
theorem dn_X12_doCut {G : xG} {h : xH} {m : Nat} {a : MA} {r : MR} (hM : MO G h m a r) {g : Nat → Int32} (hR : AR G h r.1 1456 g) {B : AB} (hRW : RWf g 0 B) (hWB : WB B) (hcb : cnt isC B.2 ≤ 3) {x y : Int} (hx : in32 x) (hy : in32 y) (h0 : rCmd 7 B x y ≠ 0) : CC G MX12_doCut [.ref m, .int (iI x)] h (fun o h' => o = .inl (some (.int (iI (codeC 7 (rCmd 7 B x y))))) ∧ DOn G h h' m a r B) := by
  have hn := hRW.1.2.1
  have hc := hRW.1.1.2.2.2.1
  have h0 : rCut B x ≠ 0 := h0
  cases hs : hasS B x
  · have e : rCmd 7 B x y = 1 := by show rCut B x = 1; unfold rCut; rw [hs]; rfl
    rw [e]
    exact cc_mono (c_X12_doCut_n1 hM hR hn hc hx (hasS_f hs)) (fun o h' w => ⟨w.1, by rw [w.2]; exact ⟨_, g, hM, RT.rf, hR, hRW, FRp.rf⟩⟩)
  · obtain ⟨n1, n2⟩ := hasS_n hs
    have e : rCut B x = rCutS (sAt B x) B.2.length := if_pos hs
    rw [e] at h0
    have e3 : rCmd 7 B x y = 3 := e.trans (r03_cut h0)
    rw [e3]
    have q := c_X12_doCut_n hM hR hRW hWB n1 h0
    rw [n2] at q
    exact cc_mono q (fun o h' w => ⟨w.1, by rw [w.2]; exact ⟨_, g, hM, RT.rf, hR, hRW, FRp.rf⟩⟩)
set_option maxRecDepth 20000 in
set_option maxHeartbeats 1000000 in
theorem d0_X12_doStack {G : xG} {h : xH} {m : Nat} {a : MA} {r : MR} (hM : MO G h m a r) {g : Nat → Int32} (hR : AR G h r.1 1456 g) {B : AB} (hRW : RWf g 0 B) (hWB : WB B) (hcb : cnt isC B.2 ≤ 3) {x y : Int} (hx : in32 x) (hy : in32 y) (h0 : rCmd 8 B x y = 0) : CC G MX12_doStack [.ref m, .int (iI x), .int (iI y)] h (fun o h' => o = .inl (some (.int (iI 0))) ∧ DOk G h h' m a r (aCmd 8 B x y) (vCmd 8 B x y)) := by
  have h0 : rStack B x y = 0 := h0
  obtain ⟨z1, z2, z3, z4⟩ := rSt0 h0
  obtain ⟨n1, n2⟩ := hasS_n z1
  obtain ⟨n3, n4⟩ := hasS_n z2
  have q := c_X12_doStack_ok hM hR hRW hWB n1 n3 (by omega) z4
  rw [n2, n4] at q
  exact q
set_option maxRecDepth 20000 in
set_option maxHeartbeats 1000000 in
theorem dn_X12_doStack {G : xG} {h : xH} {m : Nat} {a : MA} {r : MR} (hM : MO G h m a r) {g : Nat → Int32} (hR : AR G h r.1 1456 g) {B : AB} (hRW : RWf g 0 B) (hWB : WB B) (hcb : cnt isC B.2 ≤ 3) {x y : Int} (hx : in32 x) (hy : in32 y) (h0 : rCmd 8 B x y ≠ 0) : CC G MX12_doStack [.ref m, .int (iI x), .int (iI y)] h (fun o h' => o = .inl (some (.int (iI (codeC 8 (rCmd 8 B x y))))) ∧ DOn G h h' m a r B) := by
  have hn := hRW.1.2.1
  have hc := hRW.1.1.2.2.2.1
  have h0 : rStack B x y ≠ 0 := h0
  cases hs : hasS B x
  · have e : rCmd 8 B x y = 1 := by show rStack B x y = 1; unfold rStack; rw [hs]; rfl
    rw [e]
    exact cc_mono (c_X12_doStack_n1a hM hR hn hc hx (hasS_f hs)) (fun o h' w => ⟨w.1, by rw [w.2]; exact ⟨_, g, hM, RT.rf, hR, hRW, FRp.rf⟩⟩)
  · obtain ⟨n1, n2⟩ := hasS_n hs
    cases hs2 : hasS B y
    · have e : rCmd 8 B x y = 1 := by show rStack B x y = 1; unfold rStack; rw [hs, hs2]; rfl
      rw [e]
      have q := c_X12_doStack_n1b hM hR hn hc n1 hy (hasS_f hs2)
      rw [n2] at q
      exact cc_mono q (fun o h' w => ⟨w.1, by rw [w.2]; exact ⟨_, g, hM, RT.rf, hR, hRW, FRp.rf⟩⟩)
    · obtain ⟨n3, n4⟩ := hasS_n hs2
      by_cases exy : x = y
      · have e : rCmd 8 B x y = 2 := by show rStack B x y = 2; unfold rStack; rw [if_pos hs, if_pos hs2, if_pos exy]
        rw [e]
        have q := c_X12_doStack_n2 hM hR hn hc n1
        rw [n2] at q
        rw [← exy]
        exact cc_mono q (fun o h' w => ⟨w.1, by rw [w.2]; exact ⟨_, g, hM, RT.rf, hR, hRW, FRp.rf⟩⟩)
      · have e : rStack B x y = rStackS (sAt B x) (sAt B y) := by unfold rStack; rw [if_pos hs, if_pos hs2, if_neg exy]
        rw [e] at h0
        have e3 : rCmd 8 B x y = 3 := e.trans (r03_stack h0)
        rw [e3]
        have q := c_X12_doStack_n3 hM hR hRW hWB n1 n3 (by omega) h0
        rw [n2, n4] at q
        exact cc_mono q (fun o h' w => ⟨w.1, by rw [w.2]; exact ⟨_, g, hM, RT.rf, hR, hRW, FRp.rf⟩⟩)
