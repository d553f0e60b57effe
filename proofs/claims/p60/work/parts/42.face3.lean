/-! ===== the class: changes ===== -/
def jn (L : List (List Nat)) (C : List Nat) : List Nat := (C.map (fun c => L.getD c [])).flatten
theorem djn {L : List (List Nat)} (hD : DJL L) {C : List Nat} {k : Nat} (hk : k < 9) (hC : ∀ c ∈ C, c < 9 ∧ k ≠ c) : ∀ q ∈ L.getD k [], q ∉ jn L C := by
  intro q hq z
  obtain ⟨l, hl, hql⟩ := List.mem_flatten.mp z
  obtain ⟨c, hc, rfl⟩ := List.mem_map.mp hl
  exact hD k c hk (hC c hc).1 (hC c hc).2 q hq hql
theorem jn_m {L : List (List Nat)} {C : List Nat} {c q : Nat} (hc : c ∈ C) (hq : q ∈ L.getD c []) : q ∈ jn L C := List.mem_flatten.mpr ⟨_, List.mem_map.mpr ⟨c, hc, rfl⟩, hq⟩
theorem FRp.toJ {L : List (List Nat)} {C : List Nat} {fp : List Nat} {h h' : xH} (x : FRp fp h h') (c : Nat) (hc : c ∈ C) (e : L.getD c [] = fp) : FRp (jn L C) h h' := x.mono (fun q hq => jn_m hc (by rw [e]; exact hq))
def fpX (x : Nat) (a : XA) : List Nat := jn (grp x a) [0, 1, 2, 3, 4, 5, 6, 7, 8]
theorem FRp.X {x : Nat} {a : XA} {C : List Nat} {h h' : xH} (hF : FRp (jn (grp x a) C) h h') (hC : ∀ c ∈ C, c < 9) : FRp (fpX x a) h h' := hF.mono (fun q hq => by
  obtain ⟨l, hl, hql⟩ := List.mem_flatten.mp hq
  obtain ⟨c, hc, rfl⟩ := List.mem_map.mp hl
  refine jn_m (c := c) ?_ hql
  have := hC c hc
  simp; omega)
theorem WX.chg {inp : List Int} {e : Int × Int} {B B' : AB} {sn : Option AB} {Hs : List AB} {out : List Int} (h : WX (inp, e, B, sn, Hs, out)) (h' : WB B') : WX (inp, e, B', sn, remH Hs B, out) := by
  refine ⟨h', fun X hX => ?_, h.2.2.1, h.2.2.2⟩
  have hX : X ∈ remH Hs B := hX
  unfold remH at hX
  rcases List.mem_append.mp hX with z | z
  · split at z
    · exact h.2.1 X z
    · exact h.2.1 X (List.mem_of_mem_drop z)
  · rw [List.mem_singleton.mp z]; exact h.1
theorem rBut_lt {B : AB} {z q : Int} : rBut B z q < 4 := by
  have e : ∀ (c : Bool) (x y : Nat), x < 4 → y < 4 → (if c = true then x else y) < 4 := fun c x y h1 h2 => by split <;> assumption
  have e2 : ∀ (c : Prop) [Decidable c] (x y : Nat), x < 4 → y < 4 → (if c then x else y) < 4 := fun c _ x y h1 h2 => by split <;> assumption
  unfold rBut rButS; exact e _ _ _ (e2 _ _ _ (by decide) (e2 _ _ _ (by decide) (e _ _ _ (by decide) (e2 _ _ _ (by decide) (e2 _ _ _ (by decide) (by decide)))))) (by decide)
theorem rFlour_lt {B : AB} {z : Int} : rFlour B z < 4 := by
  have e2 : ∀ (c : Prop) [Decidable c] (x y : Nat), x < 4 → y < 4 → (if c then x else y) < 4 := fun c _ x y h1 h2 => by split <;> assumption
  unfold rFlour; exact e2 _ _ _ (by decide) (e2 _ _ _ (by decide) (e2 _ _ _ (by decide) (by decide)))
set_option maxRecDepth 20000 in
set_option maxHeartbeats 1000000 in
theorem c_X11_fold_ok {G : xG} {h : xH} {K : xK} {sa : Nat → Nat} (hGC : GC G K sa) (hGT : GT G sa) (hGE : GE G) {x : Nat} {ad : XA} {S : XS} (hX : XB G h K x ad S) (hW : WX S) {z : Int} (hz : in32 z) {q : Int} (hq : in32 q) (h0 : rCmd 0 S.2.2.1 z q = 0) : CC G MX11_fold [.ref x, .int (iI z), .int (iI q)] h (fun o' h' => o' = .inl (some (.int (iI (vCmd 0 S.2.2.1 z q)))) ∧ XB G h' K x ad (S.1, S.2.1, aCmd 0 S.2.2.1 z q, S.2.2.2.1, remH S.2.2.2.2.1 S.2.2.1, S.2.2.2.2.2) ∧ FRp (fpX x ad) h h') := by
  have hX0 := hX
  have hGK := hGC.1
  have hG := gk_D hGK
  obtain ⟨I, ⟨po, to⟩, ⟨so, ca, cb, cc⟩, ⟨o, A, fp⟩, ⟨wo, wA, wfp⟩, ⟨vo, vA, vfp⟩, ⟨yo, yA, yfp⟩, ⟨uo, uA⟩⟩ := ad
  obtain ⟨inp, ⟨cod, off⟩, B, sn, Hs, out⟩ := S
  obtain ⟨mx, fx, hI, hPs, hSs, hB, hDr, hSn, hH, hU, hDJ⟩ := hX
  obtain ⟨hWB, hWh, hWs9, hWi⟩ := hW
  have hWB : WB B := hWB
  have hB : BN G h o A fp B := hB
  have fx : h.2 x = .inr (7, [.ref I, .int (iI (inp.length : Int)), .ref po, .ref so, .ref o, .ref wo, .ref vo, .int (iI (b2 sn.isSome)), .ref yo, .ref uo]) := fx
  obtain ⟨I0, T0, t0, num0, hPs⟩ := hPs
  obtain ⟨cs0, hSs⟩ := hSs
  obtain ⟨Bd, hDr⟩ := hDr
  obtain ⟨Bv, hSn, hSv⟩ := hSn
  have hBm := hB.mem
  obtain ⟨vb, fb⟩ := hBm.2.1
  obtain ⟨yg, ybo, yX, ⟨my, -⟩, fy, -⟩ := id hH
  have h0 : rCmd 0 B z q = 0 := h0
  have cT := c_X11_throwIfRefused_0 (h := h) hGC hGE
  rw [← h0] at cT
  show RR G MX11_fold 0 [(0, .ref x), (1, .int (iI z)), (2, .int (iI q))] [] h (xm_R MX11_fold).cells (xm_R MX11_fold).slots (fun o' h' => o' = .inl (some (.int (iI (vCmd 0 B z q)))) ∧ XB G h' K x (I, (po, to), (so, ca, cb, cc), (o, A, fp), (wo, wA, wfp), (vo, vA, vfp), (yo, yA, yfp), (uo, uA)) (inp, (cod, off), aCmd 0 B z q, sn, remH Hs B, out) ∧ FRp (fpX x (I, (po, to), (so, ca, cb, cc), (o, A, fp), (wo, wA, wfp), (vo, vA, vfp), (yo, yA, yfp), (uo, uA))) h h')
  refine r_aload_n dX11_fold_0 0 rfl ?_
  refine r_get cl_X11 4 (by decide) kf_X11_33 dX11_fold_1 mx fx rfl ?_
  refine r_iload_n dX11_fold_4 1 rfl ?_
  refine r_iload_n dX11_fold_5 2 rfl ?_
  refine p_callV (As := [.int (iI z), .int (iI q)]) (b := o) (rest := []) (w := (some (.ref (K.1 (rCmd 0 B z q))))) (st' := [.ref (K.1 (rCmd 0 B z q))]) kv_X11_fold_215 dX11_fold_6 rfl rfl (Nat.le_of_ble_eq_true rfl) (Nat.le_of_ble_eq_true rfl) (x_rv hBm.1 fb rfl) rfl rfl (c_X1_refusalOfFold hB hWB hGK hz hq) rfl (fun h9 e9 => ?_)
  rw [show h9 = h from e9]
  refine k_callS (As := [.ref (K.1 (rCmd 0 B z q))]) (rest := []) (w := none) (st' := []) kv_X11_fold_219 dX11_fold_9 rfl rfl (Nat.le_of_ble_eq_true rfl) (Nat.le_of_ble_eq_true rfl) (Nat.le_of_ble_eq_true rfl) (Nat.le_of_ble_eq_true rfl) (cT) rfl (fun h9 e9 => ?_)
  rw [show h9 = h from e9]
  refine r_aload_n dX11_fold_12 0 rfl ?_
  refine r_get cl_X11 8 (by decide) kf_X11_47 dX11_fold_13 mx fx rfl ?_
  refine r_aload_n dX11_fold_16 0 rfl ?_
  refine r_get cl_X11 4 (by decide) kf_X11_33 dX11_fold_17 mx fx rfl ?_
  refine p_callV (As := [.ref o]) (b := yo) (rest := []) (w := none) (st' := []) kv_X11_fold_223 dX11_fold_20 rfl rfl (Nat.le_of_ble_eq_true rfl) (Nat.le_of_ble_eq_true rfl) (x_rv my fy rfl) rfl rfl (c_X3_remember hH hB (hDJ 7 4 (by decide) (by decide) (by decide))) rfl (fun h9 e9 => ?_)
  obtain ⟨hH9, hF9⟩ := e9
  have hB9 := hB.fr hF9 (hDJ 4 7 (by decide) (by decide) (by decide))
  have fx9 := (hF9.2 x (hDJ 0 7 (by decide) (by decide) (by decide) x (by simp [grp]))).trans fx
  have mx9 : x ∈ h9.1 := by rw [hF9.1]; exact mx
  obtain ⟨vb9, fb9⟩ := hB9.mem.2.1
  obtain ⟨z1, z2, z3⟩ := rF0 h0
  obtain ⟨z4, z5⟩ := hasS_n z1
  have z6 := fac_t z2
  have z7 := fold_ok (WS.get hWB.1 z4) z6 z3
  have cP := c_X1_applyFold hB9 hWB z4 hGC.1 (np := q.toNat) (by omega) z7.1
  rw [z5, show (q.toNat : Int) = q by omega] at cP
  refine r_aload_n dX11_fold_23 0 rfl ?_
  refine r_get cl_X11 4 (by decide) kf_X11_33 dX11_fold_24 mx9 fx9 rfl ?_
  refine r_iload_n dX11_fold_27 1 rfl ?_
  refine r_iload_n dX11_fold_28 2 rfl ?_
  refine p_callV (As := [.int (iI z), .int (iI q)]) (b := o) (rest := []) (w := (some (.int (iI (vCmd 0 B z q))))) (st' := [.int (iI (vCmd 0 B z q))]) kv_X11_fold_226 dX11_fold_29 rfl rfl (Nat.le_of_ble_eq_true rfl) (Nat.le_of_ble_eq_true rfl) (x_rv hB9.mem.1 fb9 rfl) rfl rfl (cP) rfl (fun hE eE => ?_)
  refine r_ireturn rfl rfl dX11_fold_32 ?_
  obtain ⟨hBE, hFE⟩ := eE
  have hJ : FRp (jn (grp x (I, (po, to), (so, ca, cb, cc), (o, A, fp), (wo, wA, wfp), (vo, vA, vfp), (yo, yA, yfp), (uo, uA))) [4, 7]) h hE := FRp.tr (hF9.toJ 7 (by decide) rfl) (hFE.toJ 4 (by decide) rfl)
  have hHE := hH9.fr hFE (hDJ 7 4 (by decide) (by decide) (by decide))
  exact ⟨rfl, ⟨by rw [hJ.1]; exact mx, (hJ.2 x (djn hDJ (k := 0) (by decide) (by decide) _ (by simp [grp]))).trans fx, hI.fr hJ (djn hDJ (k := 1) (by decide) (by decide) _ (by simp [grp])), ⟨I0, T0, t0, num0, hPs.fr hJ (djn hDJ (k := 2) (by decide) (by decide) _ (by simp [grp])) (djn hDJ (k := 2) (by decide) (by decide) _ (by simp [grp]))⟩, ⟨cs0, hSs.fr hJ (djn hDJ (k := 3) (by decide) (by decide) _ (by simp [grp])) (djn hDJ (k := 3) (by decide) (by decide) _ (by simp [grp])) (djn hDJ (k := 3) (by decide) (by decide) _ (by simp [grp])) (djn hDJ (k := 3) (by decide) (by decide) _ (by simp [grp]))⟩, hBE, ⟨Bd, hDr.fr hJ (djn hDJ (k := 5) (by decide) (by decide))⟩, ⟨Bv, hSn.fr hJ (djn hDJ (k := 6) (by decide) (by decide)), hSv⟩, hHE, hU.fr hJ (djn hDJ (k := 8) (by decide) (by decide) _ (by simp [grp])) (djn hDJ (k := 8) (by decide) (by decide) _ (by simp [grp])), hDJ⟩, hJ.X (by decide)⟩
set_option maxRecDepth 20000 in
set_option maxHeartbeats 1000000 in
theorem c_X11_roll_ok {G : xG} {h : xH} {K : xK} {sa : Nat → Nat} (hGC : GC G K sa) (hGT : GT G sa) (hGE : GE G) {x : Nat} {ad : XA} {S : XS} (hX : XB G h K x ad S) (hW : WX S) {z : Int} (hz : in32 z) {q : Int} (hq : in32 q) (h0 : rCmd 1 S.2.2.1 z q = 0) : CC G MX11_roll [.ref x, .int (iI z), .int (iI q)] h (fun o' h' => o' = .inl (some (.int (iI (vCmd 1 S.2.2.1 z q)))) ∧ XB G h' K x ad (S.1, S.2.1, aCmd 1 S.2.2.1 z q, S.2.2.2.1, remH S.2.2.2.2.1 S.2.2.1, S.2.2.2.2.2) ∧ FRp (fpX x ad) h h') := by
  have hX0 := hX
  have hGK := hGC.1
  have hG := gk_D hGK
  obtain ⟨I, ⟨po, to⟩, ⟨so, ca, cb, cc⟩, ⟨o, A, fp⟩, ⟨wo, wA, wfp⟩, ⟨vo, vA, vfp⟩, ⟨yo, yA, yfp⟩, ⟨uo, uA⟩⟩ := ad
  obtain ⟨inp, ⟨cod, off⟩, B, sn, Hs, out⟩ := S
  obtain ⟨mx, fx, hI, hPs, hSs, hB, hDr, hSn, hH, hU, hDJ⟩ := hX
  obtain ⟨hWB, hWh, hWs9, hWi⟩ := hW
  have hWB : WB B := hWB
  have hB : BN G h o A fp B := hB
  have fx : h.2 x = .inr (7, [.ref I, .int (iI (inp.length : Int)), .ref po, .ref so, .ref o, .ref wo, .ref vo, .int (iI (b2 sn.isSome)), .ref yo, .ref uo]) := fx
  obtain ⟨I0, T0, t0, num0, hPs⟩ := hPs
  obtain ⟨cs0, hSs⟩ := hSs
  obtain ⟨Bd, hDr⟩ := hDr
  obtain ⟨Bv, hSn, hSv⟩ := hSn
  have hBm := hB.mem
  obtain ⟨vb, fb⟩ := hBm.2.1
  obtain ⟨yg, ybo, yX, ⟨my, -⟩, fy, -⟩ := id hH
  have h0 : rCmd 1 B z q = 0 := h0
  have cT := c_X11_throwIfRefused_0 (h := h) hGC hGE
  rw [← h0] at cT
  show RR G MX11_roll 0 [(0, .ref x), (1, .int (iI z)), (2, .int (iI q))] [] h (xm_R MX11_roll).cells (xm_R MX11_roll).slots (fun o' h' => o' = .inl (some (.int (iI (vCmd 1 B z q)))) ∧ XB G h' K x (I, (po, to), (so, ca, cb, cc), (o, A, fp), (wo, wA, wfp), (vo, vA, vfp), (yo, yA, yfp), (uo, uA)) (inp, (cod, off), aCmd 1 B z q, sn, remH Hs B, out) ∧ FRp (fpX x (I, (po, to), (so, ca, cb, cc), (o, A, fp), (wo, wA, wfp), (vo, vA, vfp), (yo, yA, yfp), (uo, uA))) h h')
  refine r_aload_n dX11_roll_0 0 rfl ?_
  refine r_get cl_X11 4 (by decide) kf_X11_33 dX11_roll_1 mx fx rfl ?_
  refine r_iload_n dX11_roll_4 1 rfl ?_
  refine r_iload_n dX11_roll_5 2 rfl ?_
  refine p_callV (As := [.int (iI z), .int (iI q)]) (b := o) (rest := []) (w := (some (.ref (K.1 (rCmd 1 B z q))))) (st' := [.ref (K.1 (rCmd 1 B z q))]) kv_X11_roll_229 dX11_roll_6 rfl rfl (Nat.le_of_ble_eq_true rfl) (Nat.le_of_ble_eq_true rfl) (x_rv hBm.1 fb rfl) rfl rfl (c_X1_refusalOfRoll hB hWB hGK hz hq) rfl (fun h9 e9 => ?_)
  rw [show h9 = h from e9]
  refine k_callS (As := [.ref (K.1 (rCmd 1 B z q))]) (rest := []) (w := none) (st' := []) kv_X11_roll_219 dX11_roll_9 rfl rfl (Nat.le_of_ble_eq_true rfl) (Nat.le_of_ble_eq_true rfl) (Nat.le_of_ble_eq_true rfl) (Nat.le_of_ble_eq_true rfl) (cT) rfl (fun h9 e9 => ?_)
  rw [show h9 = h from e9]
  refine r_aload_n dX11_roll_12 0 rfl ?_
  refine r_get cl_X11 8 (by decide) kf_X11_47 dX11_roll_13 mx fx rfl ?_
  refine r_aload_n dX11_roll_16 0 rfl ?_
  refine r_get cl_X11 4 (by decide) kf_X11_33 dX11_roll_17 mx fx rfl ?_
  refine p_callV (As := [.ref o]) (b := yo) (rest := []) (w := none) (st' := []) kv_X11_roll_223 dX11_roll_20 rfl rfl (Nat.le_of_ble_eq_true rfl) (Nat.le_of_ble_eq_true rfl) (x_rv my fy rfl) rfl rfl (c_X3_remember hH hB (hDJ 7 4 (by decide) (by decide) (by decide))) rfl (fun h9 e9 => ?_)
  obtain ⟨hH9, hF9⟩ := e9
  have hB9 := hB.fr hF9 (hDJ 4 7 (by decide) (by decide) (by decide))
  have fx9 := (hF9.2 x (hDJ 0 7 (by decide) (by decide) (by decide) x (by simp [grp]))).trans fx
  have mx9 : x ∈ h9.1 := by rw [hF9.1]; exact mx
  obtain ⟨vb9, fb9⟩ := hB9.mem.2.1
  obtain ⟨z1, z2, z3⟩ := rR0 h0
  obtain ⟨z4, z5⟩ := hasS_n z1
  have cP := c_X1_applyRoll hB9 hWB z4 hGC.1 (fac_t z2)
  rw [z5] at cP
  refine r_aload_n dX11_roll_23 0 rfl ?_
  refine r_get cl_X11 4 (by decide) kf_X11_33 dX11_roll_24 mx9 fx9 rfl ?_
  refine r_iload_n dX11_roll_27 1 rfl ?_
  refine r_iload_n dX11_roll_28 2 rfl ?_
  refine p_callV (As := [.int (iI z), .int (iI q)]) (b := o) (rest := []) (w := (some (.int (iI (vCmd 1 B z q))))) (st' := [.int (iI (vCmd 1 B z q))]) kv_X11_roll_232 dX11_roll_29 rfl rfl (Nat.le_of_ble_eq_true rfl) (Nat.le_of_ble_eq_true rfl) (x_rv hB9.mem.1 fb9 rfl) rfl rfl (cP) rfl (fun hE eE => ?_)
  refine r_ireturn rfl rfl dX11_roll_32 ?_
  obtain ⟨hBE, hFE⟩ := eE
  have hJ : FRp (jn (grp x (I, (po, to), (so, ca, cb, cc), (o, A, fp), (wo, wA, wfp), (vo, vA, vfp), (yo, yA, yfp), (uo, uA))) [4, 7]) h hE := FRp.tr (hF9.toJ 7 (by decide) rfl) (hFE.toJ 4 (by decide) rfl)
  have hHE := hH9.fr hFE (hDJ 7 4 (by decide) (by decide) (by decide))
  exact ⟨rfl, ⟨by rw [hJ.1]; exact mx, (hJ.2 x (djn hDJ (k := 0) (by decide) (by decide) _ (by simp [grp]))).trans fx, hI.fr hJ (djn hDJ (k := 1) (by decide) (by decide) _ (by simp [grp])), ⟨I0, T0, t0, num0, hPs.fr hJ (djn hDJ (k := 2) (by decide) (by decide) _ (by simp [grp])) (djn hDJ (k := 2) (by decide) (by decide) _ (by simp [grp]))⟩, ⟨cs0, hSs.fr hJ (djn hDJ (k := 3) (by decide) (by decide) _ (by simp [grp])) (djn hDJ (k := 3) (by decide) (by decide) _ (by simp [grp])) (djn hDJ (k := 3) (by decide) (by decide) _ (by simp [grp])) (djn hDJ (k := 3) (by decide) (by decide) _ (by simp [grp]))⟩, hBE, ⟨Bd, hDr.fr hJ (djn hDJ (k := 5) (by decide) (by decide))⟩, ⟨Bv, hSn.fr hJ (djn hDJ (k := 6) (by decide) (by decide)), hSv⟩, hHE, hU.fr hJ (djn hDJ (k := 8) (by decide) (by decide) _ (by simp [grp])) (djn hDJ (k := 8) (by decide) (by decide) _ (by simp [grp])), hDJ⟩, hJ.X (by decide)⟩
set_option maxRecDepth 20000 in
set_option maxHeartbeats 1000000 in
theorem c_X11_dust_ok {G : xG} {h : xH} {K : xK} {sa : Nat → Nat} (hGC : GC G K sa) (hGT : GT G sa) (hGE : GE G) {x : Nat} {ad : XA} {S : XS} (hX : XB G h K x ad S) (hW : WX S) {z : Int} (hz : in32 z) (h0 : rCmd 2 S.2.2.1 z 0 = 0) : CC G MX11_dust [.ref x, .int (iI z)] h (fun o' h' => o' = .inl (some (.int (iI (vCmd 2 S.2.2.1 z 0)))) ∧ XB G h' K x ad (S.1, S.2.1, aCmd 2 S.2.2.1 z 0, S.2.2.2.1, remH S.2.2.2.2.1 S.2.2.1, S.2.2.2.2.2) ∧ FRp (fpX x ad) h h') := by
  have hX0 := hX
  have hGK := hGC.1
  have hG := gk_D hGK
  obtain ⟨I, ⟨po, to⟩, ⟨so, ca, cb, cc⟩, ⟨o, A, fp⟩, ⟨wo, wA, wfp⟩, ⟨vo, vA, vfp⟩, ⟨yo, yA, yfp⟩, ⟨uo, uA⟩⟩ := ad
  obtain ⟨inp, ⟨cod, off⟩, B, sn, Hs, out⟩ := S
  obtain ⟨mx, fx, hI, hPs, hSs, hB, hDr, hSn, hH, hU, hDJ⟩ := hX
  obtain ⟨hWB, hWh, hWs9, hWi⟩ := hW
  have hWB : WB B := hWB
  have hB : BN G h o A fp B := hB
  have fx : h.2 x = .inr (7, [.ref I, .int (iI (inp.length : Int)), .ref po, .ref so, .ref o, .ref wo, .ref vo, .int (iI (b2 sn.isSome)), .ref yo, .ref uo]) := fx
  obtain ⟨I0, T0, t0, num0, hPs⟩ := hPs
  obtain ⟨cs0, hSs⟩ := hSs
  obtain ⟨Bd, hDr⟩ := hDr
  obtain ⟨Bv, hSn, hSv⟩ := hSn
  have hBm := hB.mem
  obtain ⟨vb, fb⟩ := hBm.2.1
  obtain ⟨yg, ybo, yX, ⟨my, -⟩, fy, -⟩ := id hH
  have h0 : rCmd 2 B z 0 = 0 := h0
  have cT := c_X11_throwIfRefused_0 (h := h) hGC hGE
  rw [← h0] at cT
  show RR G MX11_dust 0 [(0, .ref x), (1, .int (iI z))] [] h (xm_R MX11_dust).cells (xm_R MX11_dust).slots (fun o' h' => o' = .inl (some (.int (iI (vCmd 2 B z 0)))) ∧ XB G h' K x (I, (po, to), (so, ca, cb, cc), (o, A, fp), (wo, wA, wfp), (vo, vA, vfp), (yo, yA, yfp), (uo, uA)) (inp, (cod, off), aCmd 2 B z 0, sn, remH Hs B, out) ∧ FRp (fpX x (I, (po, to), (so, ca, cb, cc), (o, A, fp), (wo, wA, wfp), (vo, vA, vfp), (yo, yA, yfp), (uo, uA))) h h')
  refine r_aload_n dX11_dust_0 0 rfl ?_
  refine r_get cl_X11 4 (by decide) kf_X11_33 dX11_dust_1 mx fx rfl ?_
  refine r_iload_n dX11_dust_4 1 rfl ?_
  refine p_callV (As := [.int (iI z)]) (b := o) (rest := []) (w := (some (.ref (K.1 (rCmd 2 B z 0))))) (st' := [.ref (K.1 (rCmd 2 B z 0))]) kv_X11_dust_235 dX11_dust_5 rfl rfl (Nat.le_of_ble_eq_true rfl) (Nat.le_of_ble_eq_true rfl) (x_rv hBm.1 fb rfl) rfl rfl (c_X1_refusalOfDust hB hWB hGK hz) rfl (fun h9 e9 => ?_)
  rw [show h9 = h from e9]
  refine k_callS (As := [.ref (K.1 (rCmd 2 B z 0))]) (rest := []) (w := none) (st' := []) kv_X11_dust_219 dX11_dust_8 rfl rfl (Nat.le_of_ble_eq_true rfl) (Nat.le_of_ble_eq_true rfl) (Nat.le_of_ble_eq_true rfl) (Nat.le_of_ble_eq_true rfl) (cT) rfl (fun h9 e9 => ?_)
  rw [show h9 = h from e9]
  refine r_aload_n dX11_dust_11 0 rfl ?_
  refine r_get cl_X11 8 (by decide) kf_X11_47 dX11_dust_12 mx fx rfl ?_
  refine r_aload_n dX11_dust_15 0 rfl ?_
  refine r_get cl_X11 4 (by decide) kf_X11_33 dX11_dust_16 mx fx rfl ?_
  refine p_callV (As := [.ref o]) (b := yo) (rest := []) (w := none) (st' := []) kv_X11_dust_223 dX11_dust_19 rfl rfl (Nat.le_of_ble_eq_true rfl) (Nat.le_of_ble_eq_true rfl) (x_rv my fy rfl) rfl rfl (c_X3_remember hH hB (hDJ 7 4 (by decide) (by decide) (by decide))) rfl (fun h9 e9 => ?_)
  obtain ⟨hH9, hF9⟩ := e9
  have hB9 := hB.fr hF9 (hDJ 4 7 (by decide) (by decide) (by decide))
  have fx9 := (hF9.2 x (hDJ 0 7 (by decide) (by decide) (by decide) x (by simp [grp]))).trans fx
  have mx9 : x ∈ h9.1 := by rw [hF9.1]; exact mx
  obtain ⟨vb9, fb9⟩ := hB9.mem.2.1
  obtain ⟨z1, z2⟩ := rD0 h0
  obtain ⟨z4, z5⟩ := hasS_n z1
  have cP := c_X1_applyDust hB9 hWB z4
  rw [z5] at cP
  refine r_aload_n dX11_dust_22 0 rfl ?_
  refine r_get cl_X11 4 (by decide) kf_X11_33 dX11_dust_23 mx9 fx9 rfl ?_
  refine r_iload_n dX11_dust_26 1 rfl ?_
  refine p_callV (As := [.int (iI z)]) (b := o) (rest := []) (w := (some (.int (iI (vCmd 2 B z 0))))) (st' := [.int (iI (vCmd 2 B z 0))]) kv_X11_dust_239 dX11_dust_27 rfl rfl (Nat.le_of_ble_eq_true rfl) (Nat.le_of_ble_eq_true rfl) (x_rv hB9.mem.1 fb9 rfl) rfl rfl (cP) rfl (fun hE eE => ?_)
  refine r_ireturn rfl rfl dX11_dust_30 ?_
  obtain ⟨hBE, hFE⟩ := eE
  have hJ : FRp (jn (grp x (I, (po, to), (so, ca, cb, cc), (o, A, fp), (wo, wA, wfp), (vo, vA, vfp), (yo, yA, yfp), (uo, uA))) [4, 7]) h hE := FRp.tr (hF9.toJ 7 (by decide) rfl) (hFE.toJ 4 (by decide) rfl)
  have hHE := hH9.fr hFE (hDJ 7 4 (by decide) (by decide) (by decide))
  exact ⟨rfl, ⟨by rw [hJ.1]; exact mx, (hJ.2 x (djn hDJ (k := 0) (by decide) (by decide) _ (by simp [grp]))).trans fx, hI.fr hJ (djn hDJ (k := 1) (by decide) (by decide) _ (by simp [grp])), ⟨I0, T0, t0, num0, hPs.fr hJ (djn hDJ (k := 2) (by decide) (by decide) _ (by simp [grp])) (djn hDJ (k := 2) (by decide) (by decide) _ (by simp [grp]))⟩, ⟨cs0, hSs.fr hJ (djn hDJ (k := 3) (by decide) (by decide) _ (by simp [grp])) (djn hDJ (k := 3) (by decide) (by decide) _ (by simp [grp])) (djn hDJ (k := 3) (by decide) (by decide) _ (by simp [grp])) (djn hDJ (k := 3) (by decide) (by decide) _ (by simp [grp]))⟩, hBE, ⟨Bd, hDr.fr hJ (djn hDJ (k := 5) (by decide) (by decide))⟩, ⟨Bv, hSn.fr hJ (djn hDJ (k := 6) (by decide) (by decide)), hSv⟩, hHE, hU.fr hJ (djn hDJ (k := 8) (by decide) (by decide) _ (by simp [grp])) (djn hDJ (k := 8) (by decide) (by decide) _ (by simp [grp])), hDJ⟩, hJ.X (by decide)⟩
set_option maxRecDepth 20000 in
set_option maxHeartbeats 1000000 in
theorem c_X11_seal_ok {G : xG} {h : xH} {K : xK} {sa : Nat → Nat} (hGC : GC G K sa) (hGT : GT G sa) (hGE : GE G) {x : Nat} {ad : XA} {S : XS} (hX : XB G h K x ad S) (hW : WX S) {z : Int} (hz : in32 z) (h0 : rCmd 3 S.2.2.1 z 0 = 0) : CC G MX11_seal [.ref x, .int (iI z)] h (fun o' h' => o' = .inl (some (.int (iI (vCmd 3 S.2.2.1 z 0)))) ∧ XB G h' K x ad (S.1, S.2.1, aCmd 3 S.2.2.1 z 0, S.2.2.2.1, remH S.2.2.2.2.1 S.2.2.1, S.2.2.2.2.2) ∧ FRp (fpX x ad) h h') := by
  have hX0 := hX
  have hGK := hGC.1
  have hG := gk_D hGK
  obtain ⟨I, ⟨po, to⟩, ⟨so, ca, cb, cc⟩, ⟨o, A, fp⟩, ⟨wo, wA, wfp⟩, ⟨vo, vA, vfp⟩, ⟨yo, yA, yfp⟩, ⟨uo, uA⟩⟩ := ad
  obtain ⟨inp, ⟨cod, off⟩, B, sn, Hs, out⟩ := S
  obtain ⟨mx, fx, hI, hPs, hSs, hB, hDr, hSn, hH, hU, hDJ⟩ := hX
  obtain ⟨hWB, hWh, hWs9, hWi⟩ := hW
  have hWB : WB B := hWB
  have hB : BN G h o A fp B := hB
  have fx : h.2 x = .inr (7, [.ref I, .int (iI (inp.length : Int)), .ref po, .ref so, .ref o, .ref wo, .ref vo, .int (iI (b2 sn.isSome)), .ref yo, .ref uo]) := fx
  obtain ⟨I0, T0, t0, num0, hPs⟩ := hPs
  obtain ⟨cs0, hSs⟩ := hSs
  obtain ⟨Bd, hDr⟩ := hDr
  obtain ⟨Bv, hSn, hSv⟩ := hSn
  have hBm := hB.mem
  obtain ⟨vb, fb⟩ := hBm.2.1
  obtain ⟨yg, ybo, yX, ⟨my, -⟩, fy, -⟩ := id hH
  have h0 : rCmd 3 B z 0 = 0 := h0
  have cT := c_X11_throwIfRefused_0 (h := h) hGC hGE
  rw [← h0] at cT
  show RR G MX11_seal 0 [(0, .ref x), (1, .int (iI z))] [] h (xm_R MX11_seal).cells (xm_R MX11_seal).slots (fun o' h' => o' = .inl (some (.int (iI (vCmd 3 B z 0)))) ∧ XB G h' K x (I, (po, to), (so, ca, cb, cc), (o, A, fp), (wo, wA, wfp), (vo, vA, vfp), (yo, yA, yfp), (uo, uA)) (inp, (cod, off), aCmd 3 B z 0, sn, remH Hs B, out) ∧ FRp (fpX x (I, (po, to), (so, ca, cb, cc), (o, A, fp), (wo, wA, wfp), (vo, vA, vfp), (yo, yA, yfp), (uo, uA))) h h')
  refine r_aload_n dX11_seal_0 0 rfl ?_
  refine r_get cl_X11 4 (by decide) kf_X11_33 dX11_seal_1 mx fx rfl ?_
  refine r_iload_n dX11_seal_4 1 rfl ?_
  refine p_callV (As := [.int (iI z)]) (b := o) (rest := []) (w := (some (.ref (K.1 (rCmd 3 B z 0))))) (st' := [.ref (K.1 (rCmd 3 B z 0))]) kv_X11_seal_242 dX11_seal_5 rfl rfl (Nat.le_of_ble_eq_true rfl) (Nat.le_of_ble_eq_true rfl) (x_rv hBm.1 fb rfl) rfl rfl (c_X1_refusalOfSeal hB hWB hGK hz) rfl (fun h9 e9 => ?_)
  rw [show h9 = h from e9]
  refine k_callS (As := [.ref (K.1 (rCmd 3 B z 0))]) (rest := []) (w := none) (st' := []) kv_X11_seal_219 dX11_seal_8 rfl rfl (Nat.le_of_ble_eq_true rfl) (Nat.le_of_ble_eq_true rfl) (Nat.le_of_ble_eq_true rfl) (Nat.le_of_ble_eq_true rfl) (cT) rfl (fun h9 e9 => ?_)
  rw [show h9 = h from e9]
  refine r_aload_n dX11_seal_11 0 rfl ?_
  refine r_get cl_X11 8 (by decide) kf_X11_47 dX11_seal_12 mx fx rfl ?_
  refine r_aload_n dX11_seal_15 0 rfl ?_
  refine r_get cl_X11 4 (by decide) kf_X11_33 dX11_seal_16 mx fx rfl ?_
  refine p_callV (As := [.ref o]) (b := yo) (rest := []) (w := none) (st' := []) kv_X11_seal_223 dX11_seal_19 rfl rfl (Nat.le_of_ble_eq_true rfl) (Nat.le_of_ble_eq_true rfl) (x_rv my fy rfl) rfl rfl (c_X3_remember hH hB (hDJ 7 4 (by decide) (by decide) (by decide))) rfl (fun h9 e9 => ?_)
  obtain ⟨hH9, hF9⟩ := e9
  have hB9 := hB.fr hF9 (hDJ 4 7 (by decide) (by decide) (by decide))
  have fx9 := (hF9.2 x (hDJ 0 7 (by decide) (by decide) (by decide) x (by simp [grp]))).trans fx
  have mx9 : x ∈ h9.1 := by rw [hF9.1]; exact mx
  obtain ⟨vb9, fb9⟩ := hB9.mem.2.1
  obtain ⟨z4, z5⟩ := hasS_n (rSe0 h0)
  have cP := c_X1_applySeal hB9 hWB z4
  rw [z5] at cP
  refine r_aload_n dX11_seal_22 0 rfl ?_
  refine r_get cl_X11 4 (by decide) kf_X11_33 dX11_seal_23 mx9 fx9 rfl ?_
  refine r_iload_n dX11_seal_26 1 rfl ?_
  refine p_callV (As := [.int (iI z)]) (b := o) (rest := []) (w := (some (.int (iI (vCmd 3 B z 0))))) (st' := [.int (iI (vCmd 3 B z 0))]) kv_X11_seal_245 dX11_seal_27 rfl rfl (Nat.le_of_ble_eq_true rfl) (Nat.le_of_ble_eq_true rfl) (x_rv hB9.mem.1 fb9 rfl) rfl rfl (cP) rfl (fun hE eE => ?_)
  refine r_ireturn rfl rfl dX11_seal_30 ?_
  obtain ⟨hBE, hFE⟩ := eE
  have hJ : FRp (jn (grp x (I, (po, to), (so, ca, cb, cc), (o, A, fp), (wo, wA, wfp), (vo, vA, vfp), (yo, yA, yfp), (uo, uA))) [4, 7]) h hE := FRp.tr (hF9.toJ 7 (by decide) rfl) (hFE.toJ 4 (by decide) rfl)
  have hHE := hH9.fr hFE (hDJ 7 4 (by decide) (by decide) (by decide))
  exact ⟨rfl, ⟨by rw [hJ.1]; exact mx, (hJ.2 x (djn hDJ (k := 0) (by decide) (by decide) _ (by simp [grp]))).trans fx, hI.fr hJ (djn hDJ (k := 1) (by decide) (by decide) _ (by simp [grp])), ⟨I0, T0, t0, num0, hPs.fr hJ (djn hDJ (k := 2) (by decide) (by decide) _ (by simp [grp])) (djn hDJ (k := 2) (by decide) (by decide) _ (by simp [grp]))⟩, ⟨cs0, hSs.fr hJ (djn hDJ (k := 3) (by decide) (by decide) _ (by simp [grp])) (djn hDJ (k := 3) (by decide) (by decide) _ (by simp [grp])) (djn hDJ (k := 3) (by decide) (by decide) _ (by simp [grp])) (djn hDJ (k := 3) (by decide) (by decide) _ (by simp [grp]))⟩, hBE, ⟨Bd, hDr.fr hJ (djn hDJ (k := 5) (by decide) (by decide))⟩, ⟨Bv, hSn.fr hJ (djn hDJ (k := 6) (by decide) (by decide)), hSv⟩, hHE, hU.fr hJ (djn hDJ (k := 8) (by decide) (by decide) _ (by simp [grp])) (djn hDJ (k := 8) (by decide) (by decide) _ (by simp [grp])), hDJ⟩, hJ.X (by decide)⟩
set_option maxRecDepth 20000 in
set_option maxHeartbeats 1000000 in
theorem c_X11_cool_ok {G : xG} {h : xH} {K : xK} {sa : Nat → Nat} (hGC : GC G K sa) (hGT : GT G sa) (hGE : GE G) {x : Nat} {ad : XA} {S : XS} (hX : XB G h K x ad S) (hW : WX S) {z : Int} (hz : in32 z) (h0 : rCmd 4 S.2.2.1 z 0 = 0) : CC G MX11_cool [.ref x, .int (iI z)] h (fun o' h' => o' = .inl (some (.int (iI (vCmd 4 S.2.2.1 z 0)))) ∧ XB G h' K x ad (S.1, S.2.1, aCmd 4 S.2.2.1 z 0, S.2.2.2.1, remH S.2.2.2.2.1 S.2.2.1, S.2.2.2.2.2) ∧ FRp (fpX x ad) h h') := by
  have hX0 := hX
  have hGK := hGC.1
  have hG := gk_D hGK
  obtain ⟨I, ⟨po, to⟩, ⟨so, ca, cb, cc⟩, ⟨o, A, fp⟩, ⟨wo, wA, wfp⟩, ⟨vo, vA, vfp⟩, ⟨yo, yA, yfp⟩, ⟨uo, uA⟩⟩ := ad
  obtain ⟨inp, ⟨cod, off⟩, B, sn, Hs, out⟩ := S
  obtain ⟨mx, fx, hI, hPs, hSs, hB, hDr, hSn, hH, hU, hDJ⟩ := hX
  obtain ⟨hWB, hWh, hWs9, hWi⟩ := hW
  have hWB : WB B := hWB
  have hB : BN G h o A fp B := hB
  have fx : h.2 x = .inr (7, [.ref I, .int (iI (inp.length : Int)), .ref po, .ref so, .ref o, .ref wo, .ref vo, .int (iI (b2 sn.isSome)), .ref yo, .ref uo]) := fx
  obtain ⟨I0, T0, t0, num0, hPs⟩ := hPs
  obtain ⟨cs0, hSs⟩ := hSs
  obtain ⟨Bd, hDr⟩ := hDr
  obtain ⟨Bv, hSn, hSv⟩ := hSn
  have hBm := hB.mem
  obtain ⟨vb, fb⟩ := hBm.2.1
  obtain ⟨yg, ybo, yX, ⟨my, -⟩, fy, -⟩ := id hH
  have h0 : rCmd 4 B z 0 = 0 := h0
  have cT := c_X11_throwIfRefused_0 (h := h) hGC hGE
  rw [← h0] at cT
  show RR G MX11_cool 0 [(0, .ref x), (1, .int (iI z))] [] h (xm_R MX11_cool).cells (xm_R MX11_cool).slots (fun o' h' => o' = .inl (some (.int (iI (vCmd 4 B z 0)))) ∧ XB G h' K x (I, (po, to), (so, ca, cb, cc), (o, A, fp), (wo, wA, wfp), (vo, vA, vfp), (yo, yA, yfp), (uo, uA)) (inp, (cod, off), aCmd 4 B z 0, sn, remH Hs B, out) ∧ FRp (fpX x (I, (po, to), (so, ca, cb, cc), (o, A, fp), (wo, wA, wfp), (vo, vA, vfp), (yo, yA, yfp), (uo, uA))) h h')
  refine r_aload_n dX11_cool_0 0 rfl ?_
  refine r_get cl_X11 4 (by decide) kf_X11_33 dX11_cool_1 mx fx rfl ?_
  refine r_iload_n dX11_cool_4 1 rfl ?_
  refine p_callV (As := [.int (iI z)]) (b := o) (rest := []) (w := (some (.ref (K.1 (rCmd 4 B z 0))))) (st' := [.ref (K.1 (rCmd 4 B z 0))]) kv_X11_cool_248 dX11_cool_5 rfl rfl (Nat.le_of_ble_eq_true rfl) (Nat.le_of_ble_eq_true rfl) (x_rv hBm.1 fb rfl) rfl rfl (c_X1_refusalOfCool hB hWB hGK hz) rfl (fun h9 e9 => ?_)
  rw [show h9 = h from e9]
  refine k_callS (As := [.ref (K.1 (rCmd 4 B z 0))]) (rest := []) (w := none) (st' := []) kv_X11_cool_219 dX11_cool_8 rfl rfl (Nat.le_of_ble_eq_true rfl) (Nat.le_of_ble_eq_true rfl) (Nat.le_of_ble_eq_true rfl) (Nat.le_of_ble_eq_true rfl) (cT) rfl (fun h9 e9 => ?_)
  rw [show h9 = h from e9]
  refine r_aload_n dX11_cool_11 0 rfl ?_
  refine r_get cl_X11 8 (by decide) kf_X11_47 dX11_cool_12 mx fx rfl ?_
  refine r_aload_n dX11_cool_15 0 rfl ?_
  refine r_get cl_X11 4 (by decide) kf_X11_33 dX11_cool_16 mx fx rfl ?_
  refine p_callV (As := [.ref o]) (b := yo) (rest := []) (w := none) (st' := []) kv_X11_cool_223 dX11_cool_19 rfl rfl (Nat.le_of_ble_eq_true rfl) (Nat.le_of_ble_eq_true rfl) (x_rv my fy rfl) rfl rfl (c_X3_remember hH hB (hDJ 7 4 (by decide) (by decide) (by decide))) rfl (fun h9 e9 => ?_)
  obtain ⟨hH9, hF9⟩ := e9
  have hB9 := hB.fr hF9 (hDJ 4 7 (by decide) (by decide) (by decide))
  have fx9 := (hF9.2 x (hDJ 0 7 (by decide) (by decide) (by decide) x (by simp [grp]))).trans fx
  have mx9 : x ∈ h9.1 := by rw [hF9.1]; exact mx
  obtain ⟨vb9, fb9⟩ := hB9.mem.2.1
  obtain ⟨z4, z5⟩ := hasS_n (rCo0 h0)
  have cP := c_X1_applyCool hB9 hWB z4
  rw [z5] at cP
  refine r_aload_n dX11_cool_22 0 rfl ?_
  refine r_get cl_X11 4 (by decide) kf_X11_33 dX11_cool_23 mx9 fx9 rfl ?_
  refine r_iload_n dX11_cool_26 1 rfl ?_
  refine p_callV (As := [.int (iI z)]) (b := o) (rest := []) (w := (some (.int (iI (vCmd 4 B z 0))))) (st' := [.int (iI (vCmd 4 B z 0))]) kv_X11_cool_251 dX11_cool_27 rfl rfl (Nat.le_of_ble_eq_true rfl) (Nat.le_of_ble_eq_true rfl) (x_rv hB9.mem.1 fb9 rfl) rfl rfl (cP) rfl (fun hE eE => ?_)
  refine r_ireturn rfl rfl dX11_cool_30 ?_
  obtain ⟨hBE, hFE⟩ := eE
  have hJ : FRp (jn (grp x (I, (po, to), (so, ca, cb, cc), (o, A, fp), (wo, wA, wfp), (vo, vA, vfp), (yo, yA, yfp), (uo, uA))) [4, 7]) h hE := FRp.tr (hF9.toJ 7 (by decide) rfl) (hFE.toJ 4 (by decide) rfl)
  have hHE := hH9.fr hFE (hDJ 7 4 (by decide) (by decide) (by decide))
  exact ⟨rfl, ⟨by rw [hJ.1]; exact mx, (hJ.2 x (djn hDJ (k := 0) (by decide) (by decide) _ (by simp [grp]))).trans fx, hI.fr hJ (djn hDJ (k := 1) (by decide) (by decide) _ (by simp [grp])), ⟨I0, T0, t0, num0, hPs.fr hJ (djn hDJ (k := 2) (by decide) (by decide) _ (by simp [grp])) (djn hDJ (k := 2) (by decide) (by decide) _ (by simp [grp]))⟩, ⟨cs0, hSs.fr hJ (djn hDJ (k := 3) (by decide) (by decide) _ (by simp [grp])) (djn hDJ (k := 3) (by decide) (by decide) _ (by simp [grp])) (djn hDJ (k := 3) (by decide) (by decide) _ (by simp [grp])) (djn hDJ (k := 3) (by decide) (by decide) _ (by simp [grp]))⟩, hBE, ⟨Bd, hDr.fr hJ (djn hDJ (k := 5) (by decide) (by decide))⟩, ⟨Bv, hSn.fr hJ (djn hDJ (k := 6) (by decide) (by decide)), hSv⟩, hHE, hU.fr hJ (djn hDJ (k := 8) (by decide) (by decide) _ (by simp [grp])) (djn hDJ (k := 8) (by decide) (by decide) _ (by simp [grp])), hDJ⟩, hJ.X (by decide)⟩
set_option maxRecDepth 20000 in
set_option maxHeartbeats 1000000 in
theorem c_X11_takeOut_ok {G : xG} {h : xH} {K : xK} {sa : Nat → Nat} (hGC : GC G K sa) (hGT : GT G sa) (hGE : GE G) {x : Nat} {ad : XA} {S : XS} (hX : XB G h K x ad S) (hW : WX S) {z : Int} (hz : in32 z) (h0 : rCmd 5 S.2.2.1 z 0 = 0) : CC G MX11_takeOut [.ref x, .int (iI z)] h (fun o' h' => o' = .inl (some (.int (iI (vCmd 5 S.2.2.1 z 0)))) ∧ XB G h' K x ad (S.1, S.2.1, aCmd 5 S.2.2.1 z 0, S.2.2.2.1, remH S.2.2.2.2.1 S.2.2.1, S.2.2.2.2.2) ∧ FRp (fpX x ad) h h') := by
  have hX0 := hX
  have hGK := hGC.1
  have hG := gk_D hGK
  obtain ⟨I, ⟨po, to⟩, ⟨so, ca, cb, cc⟩, ⟨o, A, fp⟩, ⟨wo, wA, wfp⟩, ⟨vo, vA, vfp⟩, ⟨yo, yA, yfp⟩, ⟨uo, uA⟩⟩ := ad
  obtain ⟨inp, ⟨cod, off⟩, B, sn, Hs, out⟩ := S
  obtain ⟨mx, fx, hI, hPs, hSs, hB, hDr, hSn, hH, hU, hDJ⟩ := hX
  obtain ⟨hWB, hWh, hWs9, hWi⟩ := hW
  have hWB : WB B := hWB
  have hB : BN G h o A fp B := hB
  have fx : h.2 x = .inr (7, [.ref I, .int (iI (inp.length : Int)), .ref po, .ref so, .ref o, .ref wo, .ref vo, .int (iI (b2 sn.isSome)), .ref yo, .ref uo]) := fx
  obtain ⟨I0, T0, t0, num0, hPs⟩ := hPs
  obtain ⟨cs0, hSs⟩ := hSs
  obtain ⟨Bd, hDr⟩ := hDr
  obtain ⟨Bv, hSn, hSv⟩ := hSn
  have hBm := hB.mem
  obtain ⟨vb, fb⟩ := hBm.2.1
  obtain ⟨yg, ybo, yX, ⟨my, -⟩, fy, -⟩ := id hH
  have h0 : rCmd 5 B z 0 = 0 := h0
  have cT := c_X11_throwIfRefused_0 (h := h) hGC hGE
  rw [← h0] at cT
  show RR G MX11_takeOut 0 [(0, .ref x), (1, .int (iI z))] [] h (xm_R MX11_takeOut).cells (xm_R MX11_takeOut).slots (fun o' h' => o' = .inl (some (.int (iI (vCmd 5 B z 0)))) ∧ XB G h' K x (I, (po, to), (so, ca, cb, cc), (o, A, fp), (wo, wA, wfp), (vo, vA, vfp), (yo, yA, yfp), (uo, uA)) (inp, (cod, off), aCmd 5 B z 0, sn, remH Hs B, out) ∧ FRp (fpX x (I, (po, to), (so, ca, cb, cc), (o, A, fp), (wo, wA, wfp), (vo, vA, vfp), (yo, yA, yfp), (uo, uA))) h h')
  refine r_aload_n dX11_takeOut_0 0 rfl ?_
  refine r_get cl_X11 4 (by decide) kf_X11_33 dX11_takeOut_1 mx fx rfl ?_
  refine r_iload_n dX11_takeOut_4 1 rfl ?_
  refine p_callV (As := [.int (iI z)]) (b := o) (rest := []) (w := (some (.ref (K.1 (rCmd 5 B z 0))))) (st' := [.ref (K.1 (rCmd 5 B z 0))]) kv_X11_takeOut_254 dX11_takeOut_5 rfl rfl (Nat.le_of_ble_eq_true rfl) (Nat.le_of_ble_eq_true rfl) (x_rv hBm.1 fb rfl) rfl rfl (c_X1_refusalOfTakeOut hB hWB hGK hz) rfl (fun h9 e9 => ?_)
  rw [show h9 = h from e9]
  refine k_callS (As := [.ref (K.1 (rCmd 5 B z 0))]) (rest := []) (w := none) (st' := []) kv_X11_takeOut_219 dX11_takeOut_8 rfl rfl (Nat.le_of_ble_eq_true rfl) (Nat.le_of_ble_eq_true rfl) (Nat.le_of_ble_eq_true rfl) (Nat.le_of_ble_eq_true rfl) (cT) rfl (fun h9 e9 => ?_)
  rw [show h9 = h from e9]
  refine r_aload_n dX11_takeOut_11 0 rfl ?_
  refine r_get cl_X11 8 (by decide) kf_X11_47 dX11_takeOut_12 mx fx rfl ?_
  refine r_aload_n dX11_takeOut_15 0 rfl ?_
  refine r_get cl_X11 4 (by decide) kf_X11_33 dX11_takeOut_16 mx fx rfl ?_
  refine p_callV (As := [.ref o]) (b := yo) (rest := []) (w := none) (st' := []) kv_X11_takeOut_223 dX11_takeOut_19 rfl rfl (Nat.le_of_ble_eq_true rfl) (Nat.le_of_ble_eq_true rfl) (x_rv my fy rfl) rfl rfl (c_X3_remember hH hB (hDJ 7 4 (by decide) (by decide) (by decide))) rfl (fun h9 e9 => ?_)
  obtain ⟨hH9, hF9⟩ := e9
  have hB9 := hB.fr hF9 (hDJ 4 7 (by decide) (by decide) (by decide))
  have fx9 := (hF9.2 x (hDJ 0 7 (by decide) (by decide) (by decide) x (by simp [grp]))).trans fx
  have mx9 : x ∈ h9.1 := by rw [hF9.1]; exact mx
  obtain ⟨vb9, fb9⟩ := hB9.mem.2.1
  obtain ⟨z4, z5⟩ := hasS_n (rTa0 h0)
  have cP := c_X1_applyTakeOut hB9 hWB z4
  rw [z5] at cP
  refine r_aload_n dX11_takeOut_22 0 rfl ?_
  refine r_get cl_X11 4 (by decide) kf_X11_33 dX11_takeOut_23 mx9 fx9 rfl ?_
  refine r_iload_n dX11_takeOut_26 1 rfl ?_
  refine p_callV (As := [.int (iI z)]) (b := o) (rest := []) (w := (some (.int (iI (vCmd 5 B z 0))))) (st' := [.int (iI (vCmd 5 B z 0))]) kv_X11_takeOut_257 dX11_takeOut_27 rfl rfl (Nat.le_of_ble_eq_true rfl) (Nat.le_of_ble_eq_true rfl) (x_rv hB9.mem.1 fb9 rfl) rfl rfl (cP) rfl (fun hE eE => ?_)
  refine r_ireturn rfl rfl dX11_takeOut_30 ?_
  obtain ⟨hBE, hFE⟩ := eE
  have hJ : FRp (jn (grp x (I, (po, to), (so, ca, cb, cc), (o, A, fp), (wo, wA, wfp), (vo, vA, vfp), (yo, yA, yfp), (uo, uA))) [4, 7]) h hE := FRp.tr (hF9.toJ 7 (by decide) rfl) (hFE.toJ 4 (by decide) rfl)
  have hHE := hH9.fr hFE (hDJ 7 4 (by decide) (by decide) (by decide))
  exact ⟨rfl, ⟨by rw [hJ.1]; exact mx, (hJ.2 x (djn hDJ (k := 0) (by decide) (by decide) _ (by simp [grp]))).trans fx, hI.fr hJ (djn hDJ (k := 1) (by decide) (by decide) _ (by simp [grp])), ⟨I0, T0, t0, num0, hPs.fr hJ (djn hDJ (k := 2) (by decide) (by decide) _ (by simp [grp])) (djn hDJ (k := 2) (by decide) (by decide) _ (by simp [grp]))⟩, ⟨cs0, hSs.fr hJ (djn hDJ (k := 3) (by decide) (by decide) _ (by simp [grp])) (djn hDJ (k := 3) (by decide) (by decide) _ (by simp [grp])) (djn hDJ (k := 3) (by decide) (by decide) _ (by simp [grp])) (djn hDJ (k := 3) (by decide) (by decide) _ (by simp [grp]))⟩, hBE, ⟨Bd, hDr.fr hJ (djn hDJ (k := 5) (by decide) (by decide))⟩, ⟨Bv, hSn.fr hJ (djn hDJ (k := 6) (by decide) (by decide)), hSv⟩, hHE, hU.fr hJ (djn hDJ (k := 8) (by decide) (by decide) _ (by simp [grp])) (djn hDJ (k := 8) (by decide) (by decide) _ (by simp [grp])), hDJ⟩, hJ.X (by decide)⟩
set_option maxRecDepth 20000 in
set_option maxHeartbeats 1000000 in
theorem c_X11_passHours_ok {G : xG} {h : xH} {K : xK} {sa : Nat → Nat} (hGC : GC G K sa) (hGT : GT G sa) (hGE : GE G) {x : Nat} {ad : XA} {S : XS} (hX : XB G h K x ad S) (hW : WX S) {z : Int} (hz : in32 z) (h0 : rCmd 6 S.2.2.1 z 0 = 0) : CC G MX11_passHours [.ref x, .int (iI z)] h (fun o' h' => o' = .inl (some (.int (iI (vCmd 6 S.2.2.1 z 0)))) ∧ XB G h' K x ad (S.1, S.2.1, aCmd 6 S.2.2.1 z 0, S.2.2.2.1, remH S.2.2.2.2.1 S.2.2.1, S.2.2.2.2.2) ∧ FRp (fpX x ad) h h') := by
  have hX0 := hX
  have hGK := hGC.1
  have hG := gk_D hGK
  obtain ⟨I, ⟨po, to⟩, ⟨so, ca, cb, cc⟩, ⟨o, A, fp⟩, ⟨wo, wA, wfp⟩, ⟨vo, vA, vfp⟩, ⟨yo, yA, yfp⟩, ⟨uo, uA⟩⟩ := ad
  obtain ⟨inp, ⟨cod, off⟩, B, sn, Hs, out⟩ := S
  obtain ⟨mx, fx, hI, hPs, hSs, hB, hDr, hSn, hH, hU, hDJ⟩ := hX
  obtain ⟨hWB, hWh, hWs9, hWi⟩ := hW
  have hWB : WB B := hWB
  have hB : BN G h o A fp B := hB
  have fx : h.2 x = .inr (7, [.ref I, .int (iI (inp.length : Int)), .ref po, .ref so, .ref o, .ref wo, .ref vo, .int (iI (b2 sn.isSome)), .ref yo, .ref uo]) := fx
  obtain ⟨I0, T0, t0, num0, hPs⟩ := hPs
  obtain ⟨cs0, hSs⟩ := hSs
  obtain ⟨Bd, hDr⟩ := hDr
  obtain ⟨Bv, hSn, hSv⟩ := hSn
  have hBm := hB.mem
  obtain ⟨vb, fb⟩ := hBm.2.1
  obtain ⟨yg, ybo, yX, ⟨my, -⟩, fy, -⟩ := id hH
  have h0 : rCmd 6 B z 0 = 0 := h0
  have cT := c_X11_throwIfRefused_0 (h := h) hGC hGE
  rw [← h0] at cT
  show RR G MX11_passHours 0 [(0, .ref x), (1, .int (iI z))] [] h (xm_R MX11_passHours).cells (xm_R MX11_passHours).slots (fun o' h' => o' = .inl (some (.int (iI (vCmd 6 B z 0)))) ∧ XB G h' K x (I, (po, to), (so, ca, cb, cc), (o, A, fp), (wo, wA, wfp), (vo, vA, vfp), (yo, yA, yfp), (uo, uA)) (inp, (cod, off), aCmd 6 B z 0, sn, remH Hs B, out) ∧ FRp (fpX x (I, (po, to), (so, ca, cb, cc), (o, A, fp), (wo, wA, wfp), (vo, vA, vfp), (yo, yA, yfp), (uo, uA))) h h')
  refine r_aload_n dX11_passHours_0 0 rfl ?_
  refine r_get cl_X11 4 (by decide) kf_X11_33 dX11_passHours_1 mx fx rfl ?_
  refine r_iload_n dX11_passHours_4 1 rfl ?_
  refine p_callV (As := [.int (iI z)]) (b := o) (rest := []) (w := (some (.ref (K.1 (rCmd 6 B z 0))))) (st' := [.ref (K.1 (rCmd 6 B z 0))]) kv_X11_passHours_260 dX11_passHours_5 rfl rfl (Nat.le_of_ble_eq_true rfl) (Nat.le_of_ble_eq_true rfl) (x_rv hBm.1 fb rfl) rfl rfl (c_X1_refusalOfHours hB hWB hGK hz) rfl (fun h9 e9 => ?_)
  rw [show h9 = h from e9]
  refine k_callS (As := [.ref (K.1 (rCmd 6 B z 0))]) (rest := []) (w := none) (st' := []) kv_X11_passHours_219 dX11_passHours_8 rfl rfl (Nat.le_of_ble_eq_true rfl) (Nat.le_of_ble_eq_true rfl) (Nat.le_of_ble_eq_true rfl) (Nat.le_of_ble_eq_true rfl) (cT) rfl (fun h9 e9 => ?_)
  rw [show h9 = h from e9]
  refine r_aload_n dX11_passHours_11 0 rfl ?_
  refine r_get cl_X11 8 (by decide) kf_X11_47 dX11_passHours_12 mx fx rfl ?_
  refine r_aload_n dX11_passHours_15 0 rfl ?_
  refine r_get cl_X11 4 (by decide) kf_X11_33 dX11_passHours_16 mx fx rfl ?_
  refine p_callV (As := [.ref o]) (b := yo) (rest := []) (w := none) (st' := []) kv_X11_passHours_223 dX11_passHours_19 rfl rfl (Nat.le_of_ble_eq_true rfl) (Nat.le_of_ble_eq_true rfl) (x_rv my fy rfl) rfl rfl (c_X3_remember hH hB (hDJ 7 4 (by decide) (by decide) (by decide))) rfl (fun h9 e9 => ?_)
  obtain ⟨hH9, hF9⟩ := e9
  have hB9 := hB.fr hF9 (hDJ 4 7 (by decide) (by decide) (by decide))
  have fx9 := (hF9.2 x (hDJ 0 7 (by decide) (by decide) (by decide) x (by simp [grp]))).trans fx
  have mx9 : x ∈ h9.1 := by rw [hF9.1]; exact mx
  obtain ⟨vb9, fb9⟩ := hB9.mem.2.1
  obtain ⟨z1, z2, z3⟩ := rH0 h0
  have z5 : (z.toNat : Int) = z := by omega
  have cP := c_X1_applyHours hB9 hWB hGC.1 (n := z.toNat) (by omega) (by omega)
  rw [z5] at cP
  refine r_aload_n dX11_passHours_22 0 rfl ?_
  refine r_get cl_X11 4 (by decide) kf_X11_33 dX11_passHours_23 mx9 fx9 rfl ?_
  refine r_iload_n dX11_passHours_26 1 rfl ?_
  refine p_callV (As := [.int (iI z)]) (b := o) (rest := []) (w := (some (.int (iI (vCmd 6 B z 0))))) (st' := [.int (iI (vCmd 6 B z 0))]) kv_X11_passHours_263 dX11_passHours_27 rfl rfl (Nat.le_of_ble_eq_true rfl) (Nat.le_of_ble_eq_true rfl) (x_rv hB9.mem.1 fb9 rfl) rfl rfl (cP) rfl (fun hE eE => ?_)
  refine r_ireturn rfl rfl dX11_passHours_30 ?_
  obtain ⟨hBE, hFE⟩ := eE
  have hJ : FRp (jn (grp x (I, (po, to), (so, ca, cb, cc), (o, A, fp), (wo, wA, wfp), (vo, vA, vfp), (yo, yA, yfp), (uo, uA))) [4, 7]) h hE := FRp.tr (hF9.toJ 7 (by decide) rfl) (hFE.toJ 4 (by decide) rfl)
  have hHE := hH9.fr hFE (hDJ 7 4 (by decide) (by decide) (by decide))
  exact ⟨rfl, ⟨by rw [hJ.1]; exact mx, (hJ.2 x (djn hDJ (k := 0) (by decide) (by decide) _ (by simp [grp]))).trans fx, hI.fr hJ (djn hDJ (k := 1) (by decide) (by decide) _ (by simp [grp])), ⟨I0, T0, t0, num0, hPs.fr hJ (djn hDJ (k := 2) (by decide) (by decide) _ (by simp [grp])) (djn hDJ (k := 2) (by decide) (by decide) _ (by simp [grp]))⟩, ⟨cs0, hSs.fr hJ (djn hDJ (k := 3) (by decide) (by decide) _ (by simp [grp])) (djn hDJ (k := 3) (by decide) (by decide) _ (by simp [grp])) (djn hDJ (k := 3) (by decide) (by decide) _ (by simp [grp])) (djn hDJ (k := 3) (by decide) (by decide) _ (by simp [grp]))⟩, hBE, ⟨Bd, hDr.fr hJ (djn hDJ (k := 5) (by decide) (by decide))⟩, ⟨Bv, hSn.fr hJ (djn hDJ (k := 6) (by decide) (by decide)), hSv⟩, hHE, hU.fr hJ (djn hDJ (k := 8) (by decide) (by decide) _ (by simp [grp])) (djn hDJ (k := 8) (by decide) (by decide) _ (by simp [grp])), hDJ⟩, hJ.X (by decide)⟩
set_option maxRecDepth 20000 in
set_option maxHeartbeats 1000000 in
theorem c_X11_cut_ok {G : xG} {h : xH} {K : xK} {sa : Nat → Nat} (hGC : GC G K sa) (hGT : GT G sa) (hGE : GE G) {x : Nat} {ad : XA} {S : XS} (hX : XB G h K x ad S) (hW : WX S) {z : Int} (hz : in32 z) (h0 : rCmd 7 S.2.2.1 z 0 = 0) : CC G MX11_cut [.ref x, .int (iI z)] h (fun o' h' => o' = .inl (some (.int (iI (vCmd 7 S.2.2.1 z 0)))) ∧ XB G h' K x ad (S.1, S.2.1, aCmd 7 S.2.2.1 z 0, S.2.2.2.1, remH S.2.2.2.2.1 S.2.2.1, S.2.2.2.2.2) ∧ FRp (fpX x ad) h h') := by
  have hX0 := hX
  have hGK := hGC.1
  have hG := gk_D hGK
  obtain ⟨I, ⟨po, to⟩, ⟨so, ca, cb, cc⟩, ⟨o, A, fp⟩, ⟨wo, wA, wfp⟩, ⟨vo, vA, vfp⟩, ⟨yo, yA, yfp⟩, ⟨uo, uA⟩⟩ := ad
  obtain ⟨inp, ⟨cod, off⟩, B, sn, Hs, out⟩ := S
  obtain ⟨mx, fx, hI, hPs, hSs, hB, hDr, hSn, hH, hU, hDJ⟩ := hX
  obtain ⟨hWB, hWh, hWs9, hWi⟩ := hW
  have hWB : WB B := hWB
  have hB : BN G h o A fp B := hB
  have fx : h.2 x = .inr (7, [.ref I, .int (iI (inp.length : Int)), .ref po, .ref so, .ref o, .ref wo, .ref vo, .int (iI (b2 sn.isSome)), .ref yo, .ref uo]) := fx
  obtain ⟨I0, T0, t0, num0, hPs⟩ := hPs
  obtain ⟨cs0, hSs⟩ := hSs
  obtain ⟨Bd, hDr⟩ := hDr
  obtain ⟨Bv, hSn, hSv⟩ := hSn
  have hBm := hB.mem
  obtain ⟨vb, fb⟩ := hBm.2.1
  obtain ⟨yg, ybo, yX, ⟨my, -⟩, fy, -⟩ := id hH
  have h0 : rCmd 7 B z 0 = 0 := h0
  have cT := c_X11_throwIfRefused_0 (h := h) hGC hGE
  rw [← h0] at cT
  show RR G MX11_cut 0 [(0, .ref x), (1, .int (iI z))] [] h (xm_R MX11_cut).cells (xm_R MX11_cut).slots (fun o' h' => o' = .inl (some (.int (iI (vCmd 7 B z 0)))) ∧ XB G h' K x (I, (po, to), (so, ca, cb, cc), (o, A, fp), (wo, wA, wfp), (vo, vA, vfp), (yo, yA, yfp), (uo, uA)) (inp, (cod, off), aCmd 7 B z 0, sn, remH Hs B, out) ∧ FRp (fpX x (I, (po, to), (so, ca, cb, cc), (o, A, fp), (wo, wA, wfp), (vo, vA, vfp), (yo, yA, yfp), (uo, uA))) h h')
  refine r_aload_n dX11_cut_0 0 rfl ?_
  refine r_get cl_X11 4 (by decide) kf_X11_33 dX11_cut_1 mx fx rfl ?_
  refine r_iload_n dX11_cut_4 1 rfl ?_
  refine p_callV (As := [.int (iI z)]) (b := o) (rest := []) (w := (some (.ref (K.1 (rCmd 7 B z 0))))) (st' := [.ref (K.1 (rCmd 7 B z 0))]) kv_X11_cut_266 dX11_cut_5 rfl rfl (Nat.le_of_ble_eq_true rfl) (Nat.le_of_ble_eq_true rfl) (x_rv hBm.1 fb rfl) rfl rfl (c_X1_refusalOfCut hB hWB hGK hz) rfl (fun h9 e9 => ?_)
  rw [show h9 = h from e9]
  refine k_callS (As := [.ref (K.1 (rCmd 7 B z 0))]) (rest := []) (w := none) (st' := []) kv_X11_cut_219 dX11_cut_8 rfl rfl (Nat.le_of_ble_eq_true rfl) (Nat.le_of_ble_eq_true rfl) (Nat.le_of_ble_eq_true rfl) (Nat.le_of_ble_eq_true rfl) (cT) rfl (fun h9 e9 => ?_)
  rw [show h9 = h from e9]
  refine r_aload_n dX11_cut_11 0 rfl ?_
  refine r_get cl_X11 8 (by decide) kf_X11_47 dX11_cut_12 mx fx rfl ?_
  refine r_aload_n dX11_cut_15 0 rfl ?_
  refine r_get cl_X11 4 (by decide) kf_X11_33 dX11_cut_16 mx fx rfl ?_
  refine p_callV (As := [.ref o]) (b := yo) (rest := []) (w := none) (st' := []) kv_X11_cut_223 dX11_cut_19 rfl rfl (Nat.le_of_ble_eq_true rfl) (Nat.le_of_ble_eq_true rfl) (x_rv my fy rfl) rfl rfl (c_X3_remember hH hB (hDJ 7 4 (by decide) (by decide) (by decide))) rfl (fun h9 e9 => ?_)
  obtain ⟨hH9, hF9⟩ := e9
  have hB9 := hB.fr hF9 (hDJ 4 7 (by decide) (by decide) (by decide))
  have fx9 := (hF9.2 x (hDJ 0 7 (by decide) (by decide) (by decide) x (by simp [grp]))).trans fx
  have mx9 : x ∈ h9.1 := by rw [hF9.1]; exact mx
  obtain ⟨vb9, fb9⟩ := hB9.mem.2.1
  obtain ⟨z1, z2⟩ := rCu0 h0
  obtain ⟨z4, z5⟩ := hasS_n z1
  have cP := c_X1_applyCut hB9 z4 z2
  rw [z5] at cP
  refine r_aload_n dX11_cut_22 0 rfl ?_
  refine r_get cl_X11 4 (by decide) kf_X11_33 dX11_cut_23 mx9 fx9 rfl ?_
  refine r_iload_n dX11_cut_26 1 rfl ?_
  refine p_callV (As := [.int (iI z)]) (b := o) (rest := []) (w := (some (.int (iI (vCmd 7 B z 0))))) (st' := [.int (iI (vCmd 7 B z 0))]) kv_X11_cut_269 dX11_cut_27 rfl rfl (Nat.le_of_ble_eq_true rfl) (Nat.le_of_ble_eq_true rfl) (x_rv hB9.mem.1 fb9 rfl) rfl rfl (cP) rfl (fun hE eE => ?_)
  refine r_ireturn rfl rfl dX11_cut_30 ?_
  obtain ⟨hBE, hFE⟩ := eE
  have hJ : FRp (jn (grp x (I, (po, to), (so, ca, cb, cc), (o, A, fp), (wo, wA, wfp), (vo, vA, vfp), (yo, yA, yfp), (uo, uA))) [4, 7]) h hE := FRp.tr (hF9.toJ 7 (by decide) rfl) (hFE.toJ 4 (by decide) rfl)
  have hHE := hH9.fr hFE (hDJ 7 4 (by decide) (by decide) (by decide))
  exact ⟨rfl, ⟨by rw [hJ.1]; exact mx, (hJ.2 x (djn hDJ (k := 0) (by decide) (by decide) _ (by simp [grp]))).trans fx, hI.fr hJ (djn hDJ (k := 1) (by decide) (by decide) _ (by simp [grp])), ⟨I0, T0, t0, num0, hPs.fr hJ (djn hDJ (k := 2) (by decide) (by decide) _ (by simp [grp])) (djn hDJ (k := 2) (by decide) (by decide) _ (by simp [grp]))⟩, ⟨cs0, hSs.fr hJ (djn hDJ (k := 3) (by decide) (by decide) _ (by simp [grp])) (djn hDJ (k := 3) (by decide) (by decide) _ (by simp [grp])) (djn hDJ (k := 3) (by decide) (by decide) _ (by simp [grp])) (djn hDJ (k := 3) (by decide) (by decide) _ (by simp [grp]))⟩, hBE, ⟨Bd, hDr.fr hJ (djn hDJ (k := 5) (by decide) (by decide))⟩, ⟨Bv, hSn.fr hJ (djn hDJ (k := 6) (by decide) (by decide)), hSv⟩, hHE, hU.fr hJ (djn hDJ (k := 8) (by decide) (by decide) _ (by simp [grp])) (djn hDJ (k := 8) (by decide) (by decide) _ (by simp [grp])), hDJ⟩, hJ.X (by decide)⟩
set_option maxRecDepth 20000 in
set_option maxHeartbeats 1000000 in
theorem c_X11_stack_ok {G : xG} {h : xH} {K : xK} {sa : Nat → Nat} (hGC : GC G K sa) (hGT : GT G sa) (hGE : GE G) {x : Nat} {ad : XA} {S : XS} (hX : XB G h K x ad S) (hW : WX S) {z : Int} (hz : in32 z) {q : Int} (hq : in32 q) (h0 : rCmd 8 S.2.2.1 z q = 0) : CC G MX11_stack [.ref x, .int (iI z), .int (iI q)] h (fun o' h' => o' = .inl (some (.int (iI (vCmd 8 S.2.2.1 z q)))) ∧ XB G h' K x ad (S.1, S.2.1, aCmd 8 S.2.2.1 z q, S.2.2.2.1, remH S.2.2.2.2.1 S.2.2.1, S.2.2.2.2.2) ∧ FRp (fpX x ad) h h') := by
  have hX0 := hX
  have hGK := hGC.1
  have hG := gk_D hGK
  obtain ⟨I, ⟨po, to⟩, ⟨so, ca, cb, cc⟩, ⟨o, A, fp⟩, ⟨wo, wA, wfp⟩, ⟨vo, vA, vfp⟩, ⟨yo, yA, yfp⟩, ⟨uo, uA⟩⟩ := ad
  obtain ⟨inp, ⟨cod, off⟩, B, sn, Hs, out⟩ := S
  obtain ⟨mx, fx, hI, hPs, hSs, hB, hDr, hSn, hH, hU, hDJ⟩ := hX
  obtain ⟨hWB, hWh, hWs9, hWi⟩ := hW
  have hWB : WB B := hWB
  have hB : BN G h o A fp B := hB
  have fx : h.2 x = .inr (7, [.ref I, .int (iI (inp.length : Int)), .ref po, .ref so, .ref o, .ref wo, .ref vo, .int (iI (b2 sn.isSome)), .ref yo, .ref uo]) := fx
  obtain ⟨I0, T0, t0, num0, hPs⟩ := hPs
  obtain ⟨cs0, hSs⟩ := hSs
  obtain ⟨Bd, hDr⟩ := hDr
  obtain ⟨Bv, hSn, hSv⟩ := hSn
  have hBm := hB.mem
  obtain ⟨vb, fb⟩ := hBm.2.1
  obtain ⟨yg, ybo, yX, ⟨my, -⟩, fy, -⟩ := id hH
  have h0 : rCmd 8 B z q = 0 := h0
  have cT := c_X11_throwIfRefused_0 (h := h) hGC hGE
  rw [← h0] at cT
  show RR G MX11_stack 0 [(0, .ref x), (1, .int (iI z)), (2, .int (iI q))] [] h (xm_R MX11_stack).cells (xm_R MX11_stack).slots (fun o' h' => o' = .inl (some (.int (iI (vCmd 8 B z q)))) ∧ XB G h' K x (I, (po, to), (so, ca, cb, cc), (o, A, fp), (wo, wA, wfp), (vo, vA, vfp), (yo, yA, yfp), (uo, uA)) (inp, (cod, off), aCmd 8 B z q, sn, remH Hs B, out) ∧ FRp (fpX x (I, (po, to), (so, ca, cb, cc), (o, A, fp), (wo, wA, wfp), (vo, vA, vfp), (yo, yA, yfp), (uo, uA))) h h')
  refine r_aload_n dX11_stack_0 0 rfl ?_
  refine r_get cl_X11 4 (by decide) kf_X11_33 dX11_stack_1 mx fx rfl ?_
  refine r_iload_n dX11_stack_4 1 rfl ?_
  refine r_iload_n dX11_stack_5 2 rfl ?_
  refine p_callV (As := [.int (iI z), .int (iI q)]) (b := o) (rest := []) (w := (some (.ref (K.1 (rCmd 8 B z q))))) (st' := [.ref (K.1 (rCmd 8 B z q))]) kv_X11_stack_272 dX11_stack_6 rfl rfl (Nat.le_of_ble_eq_true rfl) (Nat.le_of_ble_eq_true rfl) (x_rv hBm.1 fb rfl) rfl rfl (c_X1_refusalOfStack hB hWB hGK hz hq) rfl (fun h9 e9 => ?_)
  rw [show h9 = h from e9]
  refine k_callS (As := [.ref (K.1 (rCmd 8 B z q))]) (rest := []) (w := none) (st' := []) kv_X11_stack_219 dX11_stack_9 rfl rfl (Nat.le_of_ble_eq_true rfl) (Nat.le_of_ble_eq_true rfl) (Nat.le_of_ble_eq_true rfl) (Nat.le_of_ble_eq_true rfl) (cT) rfl (fun h9 e9 => ?_)
  rw [show h9 = h from e9]
  refine r_aload_n dX11_stack_12 0 rfl ?_
  refine r_get cl_X11 8 (by decide) kf_X11_47 dX11_stack_13 mx fx rfl ?_
  refine r_aload_n dX11_stack_16 0 rfl ?_
  refine r_get cl_X11 4 (by decide) kf_X11_33 dX11_stack_17 mx fx rfl ?_
  refine p_callV (As := [.ref o]) (b := yo) (rest := []) (w := none) (st' := []) kv_X11_stack_223 dX11_stack_20 rfl rfl (Nat.le_of_ble_eq_true rfl) (Nat.le_of_ble_eq_true rfl) (x_rv my fy rfl) rfl rfl (c_X3_remember hH hB (hDJ 7 4 (by decide) (by decide) (by decide))) rfl (fun h9 e9 => ?_)
  obtain ⟨hH9, hF9⟩ := e9
  have hB9 := hB.fr hF9 (hDJ 4 7 (by decide) (by decide) (by decide))
  have fx9 := (hF9.2 x (hDJ 0 7 (by decide) (by decide) (by decide) x (by simp [grp]))).trans fx
  have mx9 : x ∈ h9.1 := by rw [hF9.1]; exact mx
  obtain ⟨vb9, fb9⟩ := hB9.mem.2.1
  obtain ⟨z1, z2, z3, z8⟩ := rSt0 h0
  obtain ⟨z4, z5⟩ := hasS_n z1
  obtain ⟨z6, z7⟩ := hasS_n z2
  have cP := c_X1_applyStack hB9 hWB z4 z6 (by omega) (stack_ok (WS.get hWB.1 z4) (WS.get hWB.1 z6) z8).1
  rw [z5, z7] at cP
  refine r_aload_n dX11_stack_23 0 rfl ?_
  refine r_get cl_X11 4 (by decide) kf_X11_33 dX11_stack_24 mx9 fx9 rfl ?_
  refine r_iload_n dX11_stack_27 1 rfl ?_
  refine r_iload_n dX11_stack_28 2 rfl ?_
  refine p_callV (As := [.int (iI z), .int (iI q)]) (b := o) (rest := []) (w := (some (.int (iI (vCmd 8 B z q))))) (st' := [.int (iI (vCmd 8 B z q))]) kv_X11_stack_275 dX11_stack_29 rfl rfl (Nat.le_of_ble_eq_true rfl) (Nat.le_of_ble_eq_true rfl) (x_rv hB9.mem.1 fb9 rfl) rfl rfl (cP) rfl (fun hE eE => ?_)
  refine r_ireturn rfl rfl dX11_stack_32 ?_
  obtain ⟨hBE, hFE⟩ := eE
  have hJ : FRp (jn (grp x (I, (po, to), (so, ca, cb, cc), (o, A, fp), (wo, wA, wfp), (vo, vA, vfp), (yo, yA, yfp), (uo, uA))) [4, 7]) h hE := FRp.tr (hF9.toJ 7 (by decide) rfl) (hFE.toJ 4 (by decide) rfl)
  have hHE := hH9.fr hFE (hDJ 7 4 (by decide) (by decide) (by decide))
  exact ⟨rfl, ⟨by rw [hJ.1]; exact mx, (hJ.2 x (djn hDJ (k := 0) (by decide) (by decide) _ (by simp [grp]))).trans fx, hI.fr hJ (djn hDJ (k := 1) (by decide) (by decide) _ (by simp [grp])), ⟨I0, T0, t0, num0, hPs.fr hJ (djn hDJ (k := 2) (by decide) (by decide) _ (by simp [grp])) (djn hDJ (k := 2) (by decide) (by decide) _ (by simp [grp]))⟩, ⟨cs0, hSs.fr hJ (djn hDJ (k := 3) (by decide) (by decide) _ (by simp [grp])) (djn hDJ (k := 3) (by decide) (by decide) _ (by simp [grp])) (djn hDJ (k := 3) (by decide) (by decide) _ (by simp [grp])) (djn hDJ (k := 3) (by decide) (by decide) _ (by simp [grp]))⟩, hBE, ⟨Bd, hDr.fr hJ (djn hDJ (k := 5) (by decide) (by decide))⟩, ⟨Bv, hSn.fr hJ (djn hDJ (k := 6) (by decide) (by decide)), hSv⟩, hHE, hU.fr hJ (djn hDJ (k := 8) (by decide) (by decide) _ (by simp [grp])) (djn hDJ (k := 8) (by decide) (by decide) _ (by simp [grp])), hDJ⟩, hJ.X (by decide)⟩
set_option maxRecDepth 20000 in
set_option maxHeartbeats 1000000 in
theorem c_X11_addButter_ok {G : xG} {h : xH} {K : xK} {sa : Nat → Nat} (hGC : GC G K sa) (hGT : GT G sa) (hGE : GE G) {x : Nat} {ad : XA} {S : XS} (hX : XB G h K x ad S) (hW : WX S) {z : Int} (hz : in32 z) {q : Int} (hq : in32 q) (h0 : rBut S.2.2.1 z q = 0) : CC G MX11_addButter [.ref x, .int (iI z), .int (iI q)] h (fun o' h' => o' = .inl (some (.int (iI (((butS (S.2.2.1.2.getD z.toNat dS) q).1.length : Int))))) ∧ XB G h' K x ad (S.1, S.2.1, aBut S.2.2.1 z.toNat q, S.2.2.2.1, remH S.2.2.2.2.1 S.2.2.1, S.2.2.2.2.2) ∧ FRp (fpX x ad) h h') := by
  have hX0 := hX
  have hGK := hGC.1
  have hG := gk_D hGK
  obtain ⟨I, ⟨po, to⟩, ⟨so, ca, cb, cc⟩, ⟨o, A, fp⟩, ⟨wo, wA, wfp⟩, ⟨vo, vA, vfp⟩, ⟨yo, yA, yfp⟩, ⟨uo, uA⟩⟩ := ad
  obtain ⟨inp, ⟨cod, off⟩, B, sn, Hs, out⟩ := S
  obtain ⟨mx, fx, hI, hPs, hSs, hB, hDr, hSn, hH, hU, hDJ⟩ := hX
  obtain ⟨hWB, hWh, hWs9, hWi⟩ := hW
  have hWB : WB B := hWB
  have hB : BN G h o A fp B := hB
  have fx : h.2 x = .inr (7, [.ref I, .int (iI (inp.length : Int)), .ref po, .ref so, .ref o, .ref wo, .ref vo, .int (iI (b2 sn.isSome)), .ref yo, .ref uo]) := fx
  obtain ⟨I0, T0, t0, num0, hPs⟩ := hPs
  obtain ⟨cs0, hSs⟩ := hSs
  obtain ⟨Bd, hDr⟩ := hDr
  obtain ⟨Bv, hSn, hSv⟩ := hSn
  have hBm := hB.mem
  obtain ⟨vb, fb⟩ := hBm.2.1
  obtain ⟨yg, ybo, yX, ⟨my, -⟩, fy, -⟩ := id hH
  have h0 : rBut B z q = 0 := h0
  have cT := c_X11_throwIfRefused_0 (h := h) hGC hGE
  rw [← h0] at cT
  show RR G MX11_addButter 0 [(0, .ref x), (1, .int (iI z)), (2, .int (iI q))] [] h (xm_R MX11_addButter).cells (xm_R MX11_addButter).slots (fun o' h' => o' = .inl (some (.int (iI (((butS (B.2.getD z.toNat dS) q).1.length : Int))))) ∧ XB G h' K x (I, (po, to), (so, ca, cb, cc), (o, A, fp), (wo, wA, wfp), (vo, vA, vfp), (yo, yA, yfp), (uo, uA)) (inp, (cod, off), aBut B z.toNat q, sn, remH Hs B, out) ∧ FRp (fpX x (I, (po, to), (so, ca, cb, cc), (o, A, fp), (wo, wA, wfp), (vo, vA, vfp), (yo, yA, yfp), (uo, uA))) h h')
  refine r_aload_n dX11_addButter_0 0 rfl ?_
  refine r_get cl_X11 4 (by decide) kf_X11_33 dX11_addButter_1 mx fx rfl ?_
  refine r_iload_n dX11_addButter_4 1 rfl ?_
  refine r_iload_n dX11_addButter_5 2 rfl ?_
  refine p_callV (As := [.int (iI z), .int (iI q)]) (b := o) (rest := []) (w := (some (.ref (K.1 (rBut B z q))))) (st' := [.ref (K.1 (rBut B z q))]) kv_X11_addButter_278 dX11_addButter_6 rfl rfl (Nat.le_of_ble_eq_true rfl) (Nat.le_of_ble_eq_true rfl) (x_rv hBm.1 fb rfl) rfl rfl (c_X1_refusalOfButter hB hWB hGK hz hq) rfl (fun h9 e9 => ?_)
  rw [show h9 = h from e9]
  refine k_callS (As := [.ref (K.1 (rBut B z q))]) (rest := []) (w := none) (st' := []) kv_X11_addButter_219 dX11_addButter_9 rfl rfl (Nat.le_of_ble_eq_true rfl) (Nat.le_of_ble_eq_true rfl) (Nat.le_of_ble_eq_true rfl) (Nat.le_of_ble_eq_true rfl) (cT) rfl (fun h9 e9 => ?_)
  rw [show h9 = h from e9]
  refine r_aload_n dX11_addButter_12 0 rfl ?_
  refine r_get cl_X11 8 (by decide) kf_X11_47 dX11_addButter_13 mx fx rfl ?_
  refine r_aload_n dX11_addButter_16 0 rfl ?_
  refine r_get cl_X11 4 (by decide) kf_X11_33 dX11_addButter_17 mx fx rfl ?_
  refine p_callV (As := [.ref o]) (b := yo) (rest := []) (w := none) (st' := []) kv_X11_addButter_223 dX11_addButter_20 rfl rfl (Nat.le_of_ble_eq_true rfl) (Nat.le_of_ble_eq_true rfl) (x_rv my fy rfl) rfl rfl (c_X3_remember hH hB (hDJ 7 4 (by decide) (by decide) (by decide))) rfl (fun h9 e9 => ?_)
  obtain ⟨hH9, hF9⟩ := e9
  have hB9 := hB.fr hF9 (hDJ 4 7 (by decide) (by decide) (by decide))
  have fx9 := (hF9.2 x (hDJ 0 7 (by decide) (by decide) (by decide) x (by simp [grp]))).trans fx
  have mx9 : x ∈ h9.1 := by rw [hF9.1]; exact mx
  obtain ⟨vb9, fb9⟩ := hB9.mem.2.1
  obtain ⟨z1, z2, z3, z8⟩ := rBu0 h0
  obtain ⟨z4, z5⟩ := hasS_n z1
  have z7 := but_ok (WS.get hWB.1 z4) z2 z8
  have cP := c_X1_applyButter hB9 hWB z4 (T := q) z2 z7.1
  rw [z5] at cP
  refine r_aload_n dX11_addButter_23 0 rfl ?_
  refine r_get cl_X11 4 (by decide) kf_X11_33 dX11_addButter_24 mx9 fx9 rfl ?_
  refine r_iload_n dX11_addButter_27 1 rfl ?_
  refine r_iload_n dX11_addButter_28 2 rfl ?_
  refine p_callV (As := [.int (iI z), .int (iI q)]) (b := o) (rest := []) (w := (some (.int (iI (((butS (B.2.getD z.toNat dS) q).1.length : Int)))))) (st' := [.int (iI (((butS (B.2.getD z.toNat dS) q).1.length : Int)))]) kv_X11_addButter_281 dX11_addButter_29 rfl rfl (Nat.le_of_ble_eq_true rfl) (Nat.le_of_ble_eq_true rfl) (x_rv hB9.mem.1 fb9 rfl) rfl rfl (cP) rfl (fun hE eE => ?_)
  refine r_ireturn rfl rfl dX11_addButter_32 ?_
  obtain ⟨hBE, hFE⟩ := eE
  have hJ : FRp (jn (grp x (I, (po, to), (so, ca, cb, cc), (o, A, fp), (wo, wA, wfp), (vo, vA, vfp), (yo, yA, yfp), (uo, uA))) [4, 7]) h hE := FRp.tr (hF9.toJ 7 (by decide) rfl) (hFE.toJ 4 (by decide) rfl)
  have hHE := hH9.fr hFE (hDJ 7 4 (by decide) (by decide) (by decide))
  exact ⟨rfl, ⟨by rw [hJ.1]; exact mx, (hJ.2 x (djn hDJ (k := 0) (by decide) (by decide) _ (by simp [grp]))).trans fx, hI.fr hJ (djn hDJ (k := 1) (by decide) (by decide) _ (by simp [grp])), ⟨I0, T0, t0, num0, hPs.fr hJ (djn hDJ (k := 2) (by decide) (by decide) _ (by simp [grp])) (djn hDJ (k := 2) (by decide) (by decide) _ (by simp [grp]))⟩, ⟨cs0, hSs.fr hJ (djn hDJ (k := 3) (by decide) (by decide) _ (by simp [grp])) (djn hDJ (k := 3) (by decide) (by decide) _ (by simp [grp])) (djn hDJ (k := 3) (by decide) (by decide) _ (by simp [grp])) (djn hDJ (k := 3) (by decide) (by decide) _ (by simp [grp]))⟩, hBE, ⟨Bd, hDr.fr hJ (djn hDJ (k := 5) (by decide) (by decide))⟩, ⟨Bv, hSn.fr hJ (djn hDJ (k := 6) (by decide) (by decide)), hSv⟩, hHE, hU.fr hJ (djn hDJ (k := 8) (by decide) (by decide) _ (by simp [grp])) (djn hDJ (k := 8) (by decide) (by decide) _ (by simp [grp])), hDJ⟩, hJ.X (by decide)⟩
set_option maxRecDepth 20000 in
set_option maxHeartbeats 1000000 in
theorem c_X11_buyFlour_ok {G : xG} {h : xH} {K : xK} {sa : Nat → Nat} (hGC : GC G K sa) (hGT : GT G sa) (hGE : GE G) {x : Nat} {ad : XA} {S : XS} (hX : XB G h K x ad S) (hW : WX S) {z : Int} (hz : in32 z) (h0 : rFlour S.2.2.1 z = 0) : CC G MX11_buyFlour [.ref x, .int (iI z)] h (fun o' h' => o' = .inl (some (.int (iI (S.2.2.1.1.2.2.1 + z)))) ∧ XB G h' K x ad (S.1, S.2.1, aFlour S.2.2.1 z, S.2.2.2.1, remH S.2.2.2.2.1 S.2.2.1, S.2.2.2.2.2) ∧ FRp (fpX x ad) h h') := by
  have hX0 := hX
  have hGK := hGC.1
  have hG := gk_D hGK
  obtain ⟨I, ⟨po, to⟩, ⟨so, ca, cb, cc⟩, ⟨o, A, fp⟩, ⟨wo, wA, wfp⟩, ⟨vo, vA, vfp⟩, ⟨yo, yA, yfp⟩, ⟨uo, uA⟩⟩ := ad
  obtain ⟨inp, ⟨cod, off⟩, B, sn, Hs, out⟩ := S
  obtain ⟨mx, fx, hI, hPs, hSs, hB, hDr, hSn, hH, hU, hDJ⟩ := hX
  obtain ⟨hWB, hWh, hWs9, hWi⟩ := hW
  have hWB : WB B := hWB
  have hB : BN G h o A fp B := hB
  have fx : h.2 x = .inr (7, [.ref I, .int (iI (inp.length : Int)), .ref po, .ref so, .ref o, .ref wo, .ref vo, .int (iI (b2 sn.isSome)), .ref yo, .ref uo]) := fx
  obtain ⟨I0, T0, t0, num0, hPs⟩ := hPs
  obtain ⟨cs0, hSs⟩ := hSs
  obtain ⟨Bd, hDr⟩ := hDr
  obtain ⟨Bv, hSn, hSv⟩ := hSn
  have hBm := hB.mem
  obtain ⟨vb, fb⟩ := hBm.2.1
  obtain ⟨yg, ybo, yX, ⟨my, -⟩, fy, -⟩ := id hH
  have h0 : rFlour B z = 0 := h0
  have cT := c_X11_throwIfRefused_0 (h := h) hGC hGE
  rw [← h0] at cT
  show RR G MX11_buyFlour 0 [(0, .ref x), (1, .int (iI z))] [] h (xm_R MX11_buyFlour).cells (xm_R MX11_buyFlour).slots (fun o' h' => o' = .inl (some (.int (iI (B.1.2.2.1 + z)))) ∧ XB G h' K x (I, (po, to), (so, ca, cb, cc), (o, A, fp), (wo, wA, wfp), (vo, vA, vfp), (yo, yA, yfp), (uo, uA)) (inp, (cod, off), aFlour B z, sn, remH Hs B, out) ∧ FRp (fpX x (I, (po, to), (so, ca, cb, cc), (o, A, fp), (wo, wA, wfp), (vo, vA, vfp), (yo, yA, yfp), (uo, uA))) h h')
  refine r_aload_n dX11_buyFlour_0 0 rfl ?_
  refine r_get cl_X11 4 (by decide) kf_X11_33 dX11_buyFlour_1 mx fx rfl ?_
  refine r_iload_n dX11_buyFlour_4 1 rfl ?_
  refine p_callV (As := [.int (iI z)]) (b := o) (rest := []) (w := (some (.ref (K.1 (rFlour B z))))) (st' := [.ref (K.1 (rFlour B z))]) kv_X11_buyFlour_284 dX11_buyFlour_5 rfl rfl (Nat.le_of_ble_eq_true rfl) (Nat.le_of_ble_eq_true rfl) (x_rv hBm.1 fb rfl) rfl rfl (c_X1_refusalOfFlour hB hWB hGK hz) rfl (fun h9 e9 => ?_)
  rw [show h9 = h from e9]
  refine k_callS (As := [.ref (K.1 (rFlour B z))]) (rest := []) (w := none) (st' := []) kv_X11_buyFlour_219 dX11_buyFlour_8 rfl rfl (Nat.le_of_ble_eq_true rfl) (Nat.le_of_ble_eq_true rfl) (Nat.le_of_ble_eq_true rfl) (Nat.le_of_ble_eq_true rfl) (cT) rfl (fun h9 e9 => ?_)
  rw [show h9 = h from e9]
  refine r_aload_n dX11_buyFlour_11 0 rfl ?_
  refine r_get cl_X11 8 (by decide) kf_X11_47 dX11_buyFlour_12 mx fx rfl ?_
  refine r_aload_n dX11_buyFlour_15 0 rfl ?_
  refine r_get cl_X11 4 (by decide) kf_X11_33 dX11_buyFlour_16 mx fx rfl ?_
  refine p_callV (As := [.ref o]) (b := yo) (rest := []) (w := none) (st' := []) kv_X11_buyFlour_223 dX11_buyFlour_19 rfl rfl (Nat.le_of_ble_eq_true rfl) (Nat.le_of_ble_eq_true rfl) (x_rv my fy rfl) rfl rfl (c_X3_remember hH hB (hDJ 7 4 (by decide) (by decide) (by decide))) rfl (fun h9 e9 => ?_)
  obtain ⟨hH9, hF9⟩ := e9
  have hB9 := hB.fr hF9 (hDJ 4 7 (by decide) (by decide) (by decide))
  have fx9 := (hF9.2 x (hDJ 0 7 (by decide) (by decide) (by decide) x (by simp [grp]))).trans fx
  have mx9 : x ∈ h9.1 := by rw [hF9.1]; exact mx
  obtain ⟨vb9, fb9⟩ := hB9.mem.2.1
  have cP := c_X1_applyFlour hB9 (n := z)
  refine r_aload_n dX11_buyFlour_22 0 rfl ?_
  refine r_get cl_X11 4 (by decide) kf_X11_33 dX11_buyFlour_23 mx9 fx9 rfl ?_
  refine r_iload_n dX11_buyFlour_26 1 rfl ?_
  refine p_callV (As := [.int (iI z)]) (b := o) (rest := []) (w := (some (.int (iI (B.1.2.2.1 + z))))) (st' := [.int (iI (B.1.2.2.1 + z))]) kv_X11_buyFlour_287 dX11_buyFlour_27 rfl rfl (Nat.le_of_ble_eq_true rfl) (Nat.le_of_ble_eq_true rfl) (x_rv hB9.mem.1 fb9 rfl) rfl rfl (cP) rfl (fun hE eE => ?_)
  refine r_ireturn rfl rfl dX11_buyFlour_30 ?_
  obtain ⟨hBE, hFE⟩ := eE
  have hJ : FRp (jn (grp x (I, (po, to), (so, ca, cb, cc), (o, A, fp), (wo, wA, wfp), (vo, vA, vfp), (yo, yA, yfp), (uo, uA))) [4, 7]) h hE := FRp.tr (hF9.toJ 7 (by decide) rfl) (hFE.toJ 4 (by decide) rfl)
  have hHE := hH9.fr hFE (hDJ 7 4 (by decide) (by decide) (by decide))
  exact ⟨rfl, ⟨by rw [hJ.1]; exact mx, (hJ.2 x (djn hDJ (k := 0) (by decide) (by decide) _ (by simp [grp]))).trans fx, hI.fr hJ (djn hDJ (k := 1) (by decide) (by decide) _ (by simp [grp])), ⟨I0, T0, t0, num0, hPs.fr hJ (djn hDJ (k := 2) (by decide) (by decide) _ (by simp [grp])) (djn hDJ (k := 2) (by decide) (by decide) _ (by simp [grp]))⟩, ⟨cs0, hSs.fr hJ (djn hDJ (k := 3) (by decide) (by decide) _ (by simp [grp])) (djn hDJ (k := 3) (by decide) (by decide) _ (by simp [grp])) (djn hDJ (k := 3) (by decide) (by decide) _ (by simp [grp])) (djn hDJ (k := 3) (by decide) (by decide) _ (by simp [grp]))⟩, hBE, ⟨Bd, hDr.fr hJ (djn hDJ (k := 5) (by decide) (by decide))⟩, ⟨Bv, hSn.fr hJ (djn hDJ (k := 6) (by decide) (by decide)), hSv⟩, hHE, hU.fr hJ (djn hDJ (k := 8) (by decide) (by decide) _ (by simp [grp])) (djn hDJ (k := 8) (by decide) (by decide) _ (by simp [grp])), hDJ⟩, hJ.X (by decide)⟩
theorem dummy42 : True := trivial
