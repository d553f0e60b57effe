/-! ===== the class: questions ===== -/
theorem nanF (a b : Int) (ha : 0 ≤ a ∧ a ≤ 4000) (hb : 1 ≤ b ∧ b ≤ 4000) : vf_n32 (FP.fdiv (FP.i2f (iI a)) (FP.i2f (iI b))) := nan_32 ha hb
theorem nanD (a b : Int) (ha : 0 ≤ a ∧ a ≤ 4000) (hb : 1 ≤ b ∧ b ≤ 4000) : vf_n64 (FP.ddiv (FP.i2d (iI a)) (FP.i2d (iI b))) := nan_64 ha hb
theorem hBut_b (l : List Int) : 0 ≤ hBut l ∧ hBut l ≤ hgt l := by
  induction l with
  | nil => simp [hBut, hgt]
  | cons x t ih =>
    have h1 := sz_nn x
    simp only [hBut, hgt, List.map_cons, List.sum_cons] at ih ⊢
    split <;> omega
set_option maxRecDepth 20000 in
set_option maxHeartbeats 1000000 in
theorem c_X11_layerCount_ok {G : xG} {h : xH} {K : xK} {sa : Nat → Nat} (hGC : GC G K sa) (hGT : GT G sa) (hGE : GE G) {x : Nat} {ad : XA} {S : XS} (hX : XB G h K x ad S) (hW : WX S) {z : Int} (hz : in32 z) (hs : hasS S.2.2.1 z = true) : CC G MX11_layerCount [.ref x, .int (iI z)] h (fun o' h' => o' = .inl (some (.int (iI ((sAt S.2.2.1 z).1.length : Int)))) ∧ h' = h) := by
  have hX0 := hX
  have hGK := hGC.1
  have hG := gk_D hGK
  obtain ⟨I, ⟨po, to⟩, ⟨so, ca, cb, cc⟩, ⟨o, A, fp⟩, ⟨wo, wA, wfp⟩, ⟨vo, vA, vfp⟩, ⟨yo, yA, yfp⟩, ⟨uo, uA⟩⟩ := ad
  obtain ⟨inp, ⟨cod, off⟩, B, sn, Hs, out⟩ := S
  obtain ⟨mx, fx, hI, hPs, hSs, hB, hDr, hSn, hH, hU, hDJ⟩ := hX
  obtain ⟨hWB, hWh, hWs9, hWi⟩ := hW
  have hWB : WB B := hWB
  have hB : BN G h o A fp B := hB
  have fx : h.2 x = .inr (7, [.ref I, .int (iI (inp.length : Int)), .ref po, .ref so, .ref o, .ref wo, .ref vo, .int (iI (b2 sn.isSome)), .ref yo, .ref uo]) := fx
  obtain ⟨⟨ro, me, fl, ho, ec, bk⟩, Ls⟩ := B
  have hB0 := hB
  obtain ⟨g, bs, F, hBo⟩ := hB
  have hBo0 := hBo
  obtain ⟨⟨mO, mA⟩, fO, fA, hL6, hLF, hK, hD, hfp⟩ := hBo
  have hL6 : Ls.length ≤ 6 := hL6
  have hLF : ∀ i, i < Ls.length → F i = Ls.getD i dS := hLF
  have fO : h.2 o = .inr (0, [.ref A, .int (iI (Ls.length : Int)), .int (iI ro), .int (iI me), .int (iI fl), .int (iI ho), .int (iI ec), .int (iI bk)]) := fO
  have nOA : o ≠ A := ne_oi fO fA
  obtain ⟨hWs, hro, hme, hfl, hho⟩ := hWB
  have hro : 0 ≤ ro ∧ ro ≤ 40 := hro
  have hme : 5 ≤ me ∧ me ≤ 35 := hme
  have hfl : 0 ≤ fl ∧ fl ≤ 999 := hfl
  have hho : 0 ≤ ho ∧ ho ≤ 9999 := hho
  have hWs : ∀ s ∈ Ls, WS s := hWs
  obtain ⟨hz0, hz1⟩ := hasS_t hs
  have hz1 : z < (Ls.length : Int) := hz1
  obtain ⟨i, rfl⟩ : ∃ i : Nat, z = (i : Int) := ⟨z.toNat, by omega⟩
  clear hs
  have hi : i < Ls.length := (by omega)
  have hi6 : i < 6 := by omega
  obtain ⟨a, t, b, hbs⟩ : ∃ a t b, bs i = (a, t, b) := ⟨_, _, _, rfl⟩
  have hgi : g i = some a := by rw [(hK i hi6).1, hbs]
  obtain ⟨s, hs⟩ : ∃ s, s = Ls.getD i dS := ⟨_, rfl⟩
  have hS : SH G h a t b s := by have z := (hK i hi6).2; rw [hbs, hLF i hi, ← hs] at z; exact z
  have hW : WS s := by rw [hs]; exact hWs _ (getD_memS hi)
  obtain ⟨l, ex, wa, fo, du, se, co⟩ := s
  have hS0 := hS
  obtain ⟨gt, gb, ⟨ma, mt, mb⟩, ⟨nta, nba, ntb⟩, fa, ft, fb, hl, hr⟩ := hS
  have hl : l.length ≤ 200 := hl
  have hr : sr gt gb l := hr
  have fa : h.2 a = .inr (5, [.ref t, .ref b, .int (iI (l.length : Int)), .int (iI ex), .int fo, .int (iI wa), .int (iI (b2 du)), .int (iI (b2 se)), .int (iI (b2 co))]) := fa
  have hW0 := hW
  obtain ⟨h1, hnz, h4, hw0, hw1⟩ := hW
  have h1 : 1 ≤ l.length := h1
  have h4 : hgt l ≤ 4000 := h4
  have hw0 : 0 ≤ wa := hw0
  have hw1 : wa ≤ 40 := hw1
  have hnz : ∀ x ∈ l, x ≠ 0 := hnz
  have hg0 := hgt_nn l
  have hgl := hgt_ge l hnz
  have noa : o ≠ a := ne_oo fO fa (by decide)
  have not : o ≠ t := ne_oi fO ft
  have nob : o ≠ b := ne_oi fO fb
  have nAa : A ≠ a := (ne_oi fa fA).symm
  have nAt : A ≠ t := ne_sz fA ft (by decide)
  have nAb : A ≠ b := ne_sz fA fb (by decide)
  have hs2 : sAt ((ro, me, fl, ho, ec, bk), Ls) (i : Int) = (l, ex, wa, fo, du, se, co) := hs.symm
  have cS := c_X11_sheetAt_ok (h := h) hGC hGE mx fx hBo0 (i := i) hi
  rw [hbs] at cS
  rw [hs2]
  show RR G MX11_layerCount 0 [(0, .ref x), (1, .int (iI ((i : Int))))] [] h (xm_R MX11_layerCount).cells (xm_R MX11_layerCount).slots (fun o' h' => o' = .inl (some (.int (iI (l.length : Int)))) ∧ h' = h)
  refine r_aload_n dX11_layerCount_0 0 rfl ?_
  refine r_iload_n dX11_layerCount_1 1 rfl ?_
  refine k_callV (As := [.int (iI ((i : Int)))]) (b := x) (rest := []) (w := (some (.ref a))) (st' := [.ref a]) kv_X11_layerCount_118 dX11_layerCount_2 rfl rfl (Nat.le_of_ble_eq_true rfl) (Nat.le_of_ble_eq_true rfl) (x_rv mx fx rfl) (Nat.le_of_ble_eq_true rfl) (Nat.le_of_ble_eq_true rfl) (cS) rfl (fun h9 e9 => ?_)
  rw [show h9 = h from e9]
  refine r_get cl_X8 2 (by decide) kf_X11_122 dX11_layerCount_5 ma fa rfl ?_
  refine r_ireturn rfl rfl dX11_layerCount_8 ?_
  exact ⟨rfl, rfl⟩
set_option maxRecDepth 20000 in
set_option maxHeartbeats 1000000 in
theorem c_X11_butterLayerCount_ok {G : xG} {h : xH} {K : xK} {sa : Nat → Nat} (hGC : GC G K sa) (hGT : GT G sa) (hGE : GE G) {x : Nat} {ad : XA} {S : XS} (hX : XB G h K x ad S) (hW : WX S) {z : Int} (hz : in32 z) (hs : hasS S.2.2.1 z = true) : CC G MX11_butterLayerCount [.ref x, .int (iI z)] h (fun o' h' => o' = .inl (some (.int (iI (nBut (sAt S.2.2.1 z).1)))) ∧ h' = h) := by
  have hX0 := hX
  have hGK := hGC.1
  have hG := gk_D hGK
  obtain ⟨I, ⟨po, to⟩, ⟨so, ca, cb, cc⟩, ⟨o, A, fp⟩, ⟨wo, wA, wfp⟩, ⟨vo, vA, vfp⟩, ⟨yo, yA, yfp⟩, ⟨uo, uA⟩⟩ := ad
  obtain ⟨inp, ⟨cod, off⟩, B, sn, Hs, out⟩ := S
  obtain ⟨mx, fx, hI, hPs, hSs, hB, hDr, hSn, hH, hU, hDJ⟩ := hX
  obtain ⟨hWB, hWh, hWs9, hWi⟩ := hW
  have hWB : WB B := hWB
  have hB : BN G h o A fp B := hB
  have fx : h.2 x = .inr (7, [.ref I, .int (iI (inp.length : Int)), .ref po, .ref so, .ref o, .ref wo, .ref vo, .int (iI (b2 sn.isSome)), .ref yo, .ref uo]) := fx
  obtain ⟨⟨ro, me, fl, ho, ec, bk⟩, Ls⟩ := B
  have hB0 := hB
  obtain ⟨g, bs, F, hBo⟩ := hB
  have hBo0 := hBo
  obtain ⟨⟨mO, mA⟩, fO, fA, hL6, hLF, hK, hD, hfp⟩ := hBo
  have hL6 : Ls.length ≤ 6 := hL6
  have hLF : ∀ i, i < Ls.length → F i = Ls.getD i dS := hLF
  have fO : h.2 o = .inr (0, [.ref A, .int (iI (Ls.length : Int)), .int (iI ro), .int (iI me), .int (iI fl), .int (iI ho), .int (iI ec), .int (iI bk)]) := fO
  have nOA : o ≠ A := ne_oi fO fA
  obtain ⟨hWs, hro, hme, hfl, hho⟩ := hWB
  have hro : 0 ≤ ro ∧ ro ≤ 40 := hro
  have hme : 5 ≤ me ∧ me ≤ 35 := hme
  have hfl : 0 ≤ fl ∧ fl ≤ 999 := hfl
  have hho : 0 ≤ ho ∧ ho ≤ 9999 := hho
  have hWs : ∀ s ∈ Ls, WS s := hWs
  obtain ⟨hz0, hz1⟩ := hasS_t hs
  have hz1 : z < (Ls.length : Int) := hz1
  obtain ⟨i, rfl⟩ : ∃ i : Nat, z = (i : Int) := ⟨z.toNat, by omega⟩
  clear hs
  have hi : i < Ls.length := (by omega)
  have hi6 : i < 6 := by omega
  obtain ⟨a, t, b, hbs⟩ : ∃ a t b, bs i = (a, t, b) := ⟨_, _, _, rfl⟩
  have hgi : g i = some a := by rw [(hK i hi6).1, hbs]
  obtain ⟨s, hs⟩ : ∃ s, s = Ls.getD i dS := ⟨_, rfl⟩
  have hS : SH G h a t b s := by have z := (hK i hi6).2; rw [hbs, hLF i hi, ← hs] at z; exact z
  have hW : WS s := by rw [hs]; exact hWs _ (getD_memS hi)
  obtain ⟨l, ex, wa, fo, du, se, co⟩ := s
  have hS0 := hS
  obtain ⟨gt, gb, ⟨ma, mt, mb⟩, ⟨nta, nba, ntb⟩, fa, ft, fb, hl, hr⟩ := hS
  have hl : l.length ≤ 200 := hl
  have hr : sr gt gb l := hr
  have fa : h.2 a = .inr (5, [.ref t, .ref b, .int (iI (l.length : Int)), .int (iI ex), .int fo, .int (iI wa), .int (iI (b2 du)), .int (iI (b2 se)), .int (iI (b2 co))]) := fa
  have hW0 := hW
  obtain ⟨h1, hnz, h4, hw0, hw1⟩ := hW
  have h1 : 1 ≤ l.length := h1
  have h4 : hgt l ≤ 4000 := h4
  have hw0 : 0 ≤ wa := hw0
  have hw1 : wa ≤ 40 := hw1
  have hnz : ∀ x ∈ l, x ≠ 0 := hnz
  have hg0 := hgt_nn l
  have hgl := hgt_ge l hnz
  have noa : o ≠ a := ne_oo fO fa (by decide)
  have not : o ≠ t := ne_oi fO ft
  have nob : o ≠ b := ne_oi fO fb
  have nAa : A ≠ a := (ne_oi fa fA).symm
  have nAt : A ≠ t := ne_sz fA ft (by decide)
  have nAb : A ≠ b := ne_sz fA fb (by decide)
  have hs2 : sAt ((ro, me, fl, ho, ec, bk), Ls) (i : Int) = (l, ex, wa, fo, du, se, co) := hs.symm
  have cS := c_X11_sheetAt_ok (h := h) hGC hGE mx fx hBo0 (i := i) hi
  rw [hbs] at cS
  rw [hs2]
  show RR G MX11_butterLayerCount 0 [(0, .ref x), (1, .int (iI ((i : Int))))] [] h (xm_R MX11_butterLayerCount).cells (xm_R MX11_butterLayerCount).slots (fun o' h' => o' = .inl (some (.int (iI (nBut l)))) ∧ h' = h)
  refine r_aload_n dX11_butterLayerCount_0 0 rfl ?_
  refine r_iload_n dX11_butterLayerCount_1 1 rfl ?_
  refine k_callV (As := [.int (iI ((i : Int)))]) (b := x) (rest := []) (w := (some (.ref a))) (st' := [.ref a]) kv_X11_butterLayerCount_118 dX11_butterLayerCount_2 rfl rfl (Nat.le_of_ble_eq_true rfl) (Nat.le_of_ble_eq_true rfl) (x_rv mx fx rfl) (Nat.le_of_ble_eq_true rfl) (Nat.le_of_ble_eq_true rfl) (cS) rfl (fun h9 e9 => ?_)
  rw [show h9 = h from e9]
  refine p_callV (As := []) (b := a) (rest := []) (w := (some (.int (iI (nBut l))))) (st' := [.int (iI (nBut l))]) kv_X11_butterLayerCount_127 dX11_butterLayerCount_5 rfl rfl (Nat.le_of_ble_eq_true rfl) (Nat.le_of_ble_eq_true rfl) (x_rv ma fa rfl) rfl rfl (c_X8_countButterLayers hS0) rfl (fun h9 e9 => ?_)
  rw [show h9 = h from e9]
  refine r_ireturn rfl rfl dX11_butterLayerCount_8 ?_
  exact ⟨rfl, rfl⟩
set_option maxRecDepth 20000 in
set_option maxHeartbeats 1000000 in
theorem c_X11_height_ok {G : xG} {h : xH} {K : xK} {sa : Nat → Nat} (hGC : GC G K sa) (hGT : GT G sa) (hGE : GE G) {x : Nat} {ad : XA} {S : XS} (hX : XB G h K x ad S) (hW : WX S) {z : Int} (hz : in32 z) (hs : hasS S.2.2.1 z = true) : CC G MX11_height [.ref x, .int (iI z)] h (fun o' h' => o' = .inl (some (.int (iI (hgt (sAt S.2.2.1 z).1)))) ∧ h' = h) := by
  have hX0 := hX
  have hGK := hGC.1
  have hG := gk_D hGK
  obtain ⟨I, ⟨po, to⟩, ⟨so, ca, cb, cc⟩, ⟨o, A, fp⟩, ⟨wo, wA, wfp⟩, ⟨vo, vA, vfp⟩, ⟨yo, yA, yfp⟩, ⟨uo, uA⟩⟩ := ad
  obtain ⟨inp, ⟨cod, off⟩, B, sn, Hs, out⟩ := S
  obtain ⟨mx, fx, hI, hPs, hSs, hB, hDr, hSn, hH, hU, hDJ⟩ := hX
  obtain ⟨hWB, hWh, hWs9, hWi⟩ := hW
  have hWB : WB B := hWB
  have hB : BN G h o A fp B := hB
  have fx : h.2 x = .inr (7, [.ref I, .int (iI (inp.length : Int)), .ref po, .ref so, .ref o, .ref wo, .ref vo, .int (iI (b2 sn.isSome)), .ref yo, .ref uo]) := fx
  obtain ⟨⟨ro, me, fl, ho, ec, bk⟩, Ls⟩ := B
  have hB0 := hB
  obtain ⟨g, bs, F, hBo⟩ := hB
  have hBo0 := hBo
  obtain ⟨⟨mO, mA⟩, fO, fA, hL6, hLF, hK, hD, hfp⟩ := hBo
  have hL6 : Ls.length ≤ 6 := hL6
  have hLF : ∀ i, i < Ls.length → F i = Ls.getD i dS := hLF
  have fO : h.2 o = .inr (0, [.ref A, .int (iI (Ls.length : Int)), .int (iI ro), .int (iI me), .int (iI fl), .int (iI ho), .int (iI ec), .int (iI bk)]) := fO
  have nOA : o ≠ A := ne_oi fO fA
  obtain ⟨hWs, hro, hme, hfl, hho⟩ := hWB
  have hro : 0 ≤ ro ∧ ro ≤ 40 := hro
  have hme : 5 ≤ me ∧ me ≤ 35 := hme
  have hfl : 0 ≤ fl ∧ fl ≤ 999 := hfl
  have hho : 0 ≤ ho ∧ ho ≤ 9999 := hho
  have hWs : ∀ s ∈ Ls, WS s := hWs
  obtain ⟨hz0, hz1⟩ := hasS_t hs
  have hz1 : z < (Ls.length : Int) := hz1
  obtain ⟨i, rfl⟩ : ∃ i : Nat, z = (i : Int) := ⟨z.toNat, by omega⟩
  clear hs
  have hi : i < Ls.length := (by omega)
  have hi6 : i < 6 := by omega
  obtain ⟨a, t, b, hbs⟩ : ∃ a t b, bs i = (a, t, b) := ⟨_, _, _, rfl⟩
  have hgi : g i = some a := by rw [(hK i hi6).1, hbs]
  obtain ⟨s, hs⟩ : ∃ s, s = Ls.getD i dS := ⟨_, rfl⟩
  have hS : SH G h a t b s := by have z := (hK i hi6).2; rw [hbs, hLF i hi, ← hs] at z; exact z
  have hW : WS s := by rw [hs]; exact hWs _ (getD_memS hi)
  obtain ⟨l, ex, wa, fo, du, se, co⟩ := s
  have hS0 := hS
  obtain ⟨gt, gb, ⟨ma, mt, mb⟩, ⟨nta, nba, ntb⟩, fa, ft, fb, hl, hr⟩ := hS
  have hl : l.length ≤ 200 := hl
  have hr : sr gt gb l := hr
  have fa : h.2 a = .inr (5, [.ref t, .ref b, .int (iI (l.length : Int)), .int (iI ex), .int fo, .int (iI wa), .int (iI (b2 du)), .int (iI (b2 se)), .int (iI (b2 co))]) := fa
  have hW0 := hW
  obtain ⟨h1, hnz, h4, hw0, hw1⟩ := hW
  have h1 : 1 ≤ l.length := h1
  have h4 : hgt l ≤ 4000 := h4
  have hw0 : 0 ≤ wa := hw0
  have hw1 : wa ≤ 40 := hw1
  have hnz : ∀ x ∈ l, x ≠ 0 := hnz
  have hg0 := hgt_nn l
  have hgl := hgt_ge l hnz
  have noa : o ≠ a := ne_oo fO fa (by decide)
  have not : o ≠ t := ne_oi fO ft
  have nob : o ≠ b := ne_oi fO fb
  have nAa : A ≠ a := (ne_oi fa fA).symm
  have nAt : A ≠ t := ne_sz fA ft (by decide)
  have nAb : A ≠ b := ne_sz fA fb (by decide)
  have hs2 : sAt ((ro, me, fl, ho, ec, bk), Ls) (i : Int) = (l, ex, wa, fo, du, se, co) := hs.symm
  have cS := c_X11_sheetAt_ok (h := h) hGC hGE mx fx hBo0 (i := i) hi
  rw [hbs] at cS
  rw [hs2]
  show RR G MX11_height 0 [(0, .ref x), (1, .int (iI ((i : Int))))] [] h (xm_R MX11_height).cells (xm_R MX11_height).slots (fun o' h' => o' = .inl (some (.int (iI (hgt l)))) ∧ h' = h)
  refine r_aload_n dX11_height_0 0 rfl ?_
  refine r_iload_n dX11_height_1 1 rfl ?_
  refine k_callV (As := [.int (iI ((i : Int)))]) (b := x) (rest := []) (w := (some (.ref a))) (st' := [.ref a]) kv_X11_height_118 dX11_height_2 rfl rfl (Nat.le_of_ble_eq_true rfl) (Nat.le_of_ble_eq_true rfl) (x_rv mx fx rfl) (Nat.le_of_ble_eq_true rfl) (Nat.le_of_ble_eq_true rfl) (cS) rfl (fun h9 e9 => ?_)
  rw [show h9 = h from e9]
  refine p_callV (As := []) (b := a) (rest := []) (w := (some (.int (iI (hgt l))))) (st' := [.int (iI (hgt l))]) kv_X11_height_141 dX11_height_5 rfl rfl (Nat.le_of_ble_eq_true rfl) (Nat.le_of_ble_eq_true rfl) (x_rv ma fa rfl) rfl rfl (c_X8_totalHeight hS0) rfl (fun h9 e9 => ?_)
  rw [show h9 = h from e9]
  refine r_ireturn rfl rfl dX11_height_8 ?_
  exact ⟨rfl, rfl⟩
set_option maxRecDepth 20000 in
set_option maxHeartbeats 1000000 in
theorem c_X11_butterHeight_ok {G : xG} {h : xH} {K : xK} {sa : Nat → Nat} (hGC : GC G K sa) (hGT : GT G sa) (hGE : GE G) {x : Nat} {ad : XA} {S : XS} (hX : XB G h K x ad S) (hW : WX S) {z : Int} (hz : in32 z) (hs : hasS S.2.2.1 z = true) : CC G MX11_butterHeight [.ref x, .int (iI z)] h (fun o' h' => o' = .inl (some (.int (iI (hBut (sAt S.2.2.1 z).1)))) ∧ h' = h) := by
  have hX0 := hX
  have hGK := hGC.1
  have hG := gk_D hGK
  obtain ⟨I, ⟨po, to⟩, ⟨so, ca, cb, cc⟩, ⟨o, A, fp⟩, ⟨wo, wA, wfp⟩, ⟨vo, vA, vfp⟩, ⟨yo, yA, yfp⟩, ⟨uo, uA⟩⟩ := ad
  obtain ⟨inp, ⟨cod, off⟩, B, sn, Hs, out⟩ := S
  obtain ⟨mx, fx, hI, hPs, hSs, hB, hDr, hSn, hH, hU, hDJ⟩ := hX
  obtain ⟨hWB, hWh, hWs9, hWi⟩ := hW
  have hWB : WB B := hWB
  have hB : BN G h o A fp B := hB
  have fx : h.2 x = .inr (7, [.ref I, .int (iI (inp.length : Int)), .ref po, .ref so, .ref o, .ref wo, .ref vo, .int (iI (b2 sn.isSome)), .ref yo, .ref uo]) := fx
  obtain ⟨⟨ro, me, fl, ho, ec, bk⟩, Ls⟩ := B
  have hB0 := hB
  obtain ⟨g, bs, F, hBo⟩ := hB
  have hBo0 := hBo
  obtain ⟨⟨mO, mA⟩, fO, fA, hL6, hLF, hK, hD, hfp⟩ := hBo
  have hL6 : Ls.length ≤ 6 := hL6
  have hLF : ∀ i, i < Ls.length → F i = Ls.getD i dS := hLF
  have fO : h.2 o = .inr (0, [.ref A, .int (iI (Ls.length : Int)), .int (iI ro), .int (iI me), .int (iI fl), .int (iI ho), .int (iI ec), .int (iI bk)]) := fO
  have nOA : o ≠ A := ne_oi fO fA
  obtain ⟨hWs, hro, hme, hfl, hho⟩ := hWB
  have hro : 0 ≤ ro ∧ ro ≤ 40 := hro
  have hme : 5 ≤ me ∧ me ≤ 35 := hme
  have hfl : 0 ≤ fl ∧ fl ≤ 999 := hfl
  have hho : 0 ≤ ho ∧ ho ≤ 9999 := hho
  have hWs : ∀ s ∈ Ls, WS s := hWs
  obtain ⟨hz0, hz1⟩ := hasS_t hs
  have hz1 : z < (Ls.length : Int) := hz1
  obtain ⟨i, rfl⟩ : ∃ i : Nat, z = (i : Int) := ⟨z.toNat, by omega⟩
  clear hs
  have hi : i < Ls.length := (by omega)
  have hi6 : i < 6 := by omega
  obtain ⟨a, t, b, hbs⟩ : ∃ a t b, bs i = (a, t, b) := ⟨_, _, _, rfl⟩
  have hgi : g i = some a := by rw [(hK i hi6).1, hbs]
  obtain ⟨s, hs⟩ : ∃ s, s = Ls.getD i dS := ⟨_, rfl⟩
  have hS : SH G h a t b s := by have z := (hK i hi6).2; rw [hbs, hLF i hi, ← hs] at z; exact z
  have hW : WS s := by rw [hs]; exact hWs _ (getD_memS hi)
  obtain ⟨l, ex, wa, fo, du, se, co⟩ := s
  have hS0 := hS
  obtain ⟨gt, gb, ⟨ma, mt, mb⟩, ⟨nta, nba, ntb⟩, fa, ft, fb, hl, hr⟩ := hS
  have hl : l.length ≤ 200 := hl
  have hr : sr gt gb l := hr
  have fa : h.2 a = .inr (5, [.ref t, .ref b, .int (iI (l.length : Int)), .int (iI ex), .int fo, .int (iI wa), .int (iI (b2 du)), .int (iI (b2 se)), .int (iI (b2 co))]) := fa
  have hW0 := hW
  obtain ⟨h1, hnz, h4, hw0, hw1⟩ := hW
  have h1 : 1 ≤ l.length := h1
  have h4 : hgt l ≤ 4000 := h4
  have hw0 : 0 ≤ wa := hw0
  have hw1 : wa ≤ 40 := hw1
  have hnz : ∀ x ∈ l, x ≠ 0 := hnz
  have hg0 := hgt_nn l
  have hgl := hgt_ge l hnz
  have noa : o ≠ a := ne_oo fO fa (by decide)
  have not : o ≠ t := ne_oi fO ft
  have nob : o ≠ b := ne_oi fO fb
  have nAa : A ≠ a := (ne_oi fa fA).symm
  have nAt : A ≠ t := ne_sz fA ft (by decide)
  have nAb : A ≠ b := ne_sz fA fb (by decide)
  have hs2 : sAt ((ro, me, fl, ho, ec, bk), Ls) (i : Int) = (l, ex, wa, fo, du, se, co) := hs.symm
  have cS := c_X11_sheetAt_ok (h := h) hGC hGE mx fx hBo0 (i := i) hi
  rw [hbs] at cS
  rw [hs2]
  show RR G MX11_butterHeight 0 [(0, .ref x), (1, .int (iI ((i : Int))))] [] h (xm_R MX11_butterHeight).cells (xm_R MX11_butterHeight).slots (fun o' h' => o' = .inl (some (.int (iI (hBut l)))) ∧ h' = h)
  refine r_aload_n dX11_butterHeight_0 0 rfl ?_
  refine r_iload_n dX11_butterHeight_1 1 rfl ?_
  refine k_callV (As := [.int (iI ((i : Int)))]) (b := x) (rest := []) (w := (some (.ref a))) (st' := [.ref a]) kv_X11_butterHeight_118 dX11_butterHeight_2 rfl rfl (Nat.le_of_ble_eq_true rfl) (Nat.le_of_ble_eq_true rfl) (x_rv mx fx rfl) (Nat.le_of_ble_eq_true rfl) (Nat.le_of_ble_eq_true rfl) (cS) rfl (fun h9 e9 => ?_)
  rw [show h9 = h from e9]
  refine p_callV (As := []) (b := a) (rest := []) (w := (some (.int (iI (hBut l))))) (st' := [.int (iI (hBut l))]) kv_X11_butterHeight_144 dX11_butterHeight_5 rfl rfl (Nat.le_of_ble_eq_true rfl) (Nat.le_of_ble_eq_true rfl) (x_rv ma fa rfl) rfl rfl (c_X8_totalButter hS0) rfl (fun h9 e9 => ?_)
  rw [show h9 = h from e9]
  refine r_ireturn rfl rfl dX11_butterHeight_8 ?_
  exact ⟨rfl, rfl⟩
set_option maxRecDepth 20000 in
set_option maxHeartbeats 1000000 in
theorem c_X11_thinnestLayer_ok {G : xG} {h : xH} {K : xK} {sa : Nat → Nat} (hGC : GC G K sa) (hGT : GT G sa) (hGE : GE G) {x : Nat} {ad : XA} {S : XS} (hX : XB G h K x ad S) (hW : WX S) {z : Int} (hz : in32 z) (hs : hasS S.2.2.1 z = true) : CC G MX11_thinnestLayer [.ref x, .int (iI z)] h (fun o' h' => o' = .inl (some (.int (iI (thinB (sAt S.2.2.1 z).1 (sAt S.2.2.1 z).1.length : Int)))) ∧ h' = h) := by
  have hX0 := hX
  have hGK := hGC.1
  have hG := gk_D hGK
  obtain ⟨I, ⟨po, to⟩, ⟨so, ca, cb, cc⟩, ⟨o, A, fp⟩, ⟨wo, wA, wfp⟩, ⟨vo, vA, vfp⟩, ⟨yo, yA, yfp⟩, ⟨uo, uA⟩⟩ := ad
  obtain ⟨inp, ⟨cod, off⟩, B, sn, Hs, out⟩ := S
  obtain ⟨mx, fx, hI, hPs, hSs, hB, hDr, hSn, hH, hU, hDJ⟩ := hX
  obtain ⟨hWB, hWh, hWs9, hWi⟩ := hW
  have hWB : WB B := hWB
  have hB : BN G h o A fp B := hB
  have fx : h.2 x = .inr (7, [.ref I, .int (iI (inp.length : Int)), .ref po, .ref so, .ref o, .ref wo, .ref vo, .int (iI (b2 sn.isSome)), .ref yo, .ref uo]) := fx
  obtain ⟨⟨ro, me, fl, ho, ec, bk⟩, Ls⟩ := B
  have hB0 := hB
  obtain ⟨g, bs, F, hBo⟩ := hB
  have hBo0 := hBo
  obtain ⟨⟨mO, mA⟩, fO, fA, hL6, hLF, hK, hD, hfp⟩ := hBo
  have hL6 : Ls.length ≤ 6 := hL6
  have hLF : ∀ i, i < Ls.length → F i = Ls.getD i dS := hLF
  have fO : h.2 o = .inr (0, [.ref A, .int (iI (Ls.length : Int)), .int (iI ro), .int (iI me), .int (iI fl), .int (iI ho), .int (iI ec), .int (iI bk)]) := fO
  have nOA : o ≠ A := ne_oi fO fA
  obtain ⟨hWs, hro, hme, hfl, hho⟩ := hWB
  have hro : 0 ≤ ro ∧ ro ≤ 40 := hro
  have hme : 5 ≤ me ∧ me ≤ 35 := hme
  have hfl : 0 ≤ fl ∧ fl ≤ 999 := hfl
  have hho : 0 ≤ ho ∧ ho ≤ 9999 := hho
  have hWs : ∀ s ∈ Ls, WS s := hWs
  obtain ⟨hz0, hz1⟩ := hasS_t hs
  have hz1 : z < (Ls.length : Int) := hz1
  obtain ⟨i, rfl⟩ : ∃ i : Nat, z = (i : Int) := ⟨z.toNat, by omega⟩
  clear hs
  have hi : i < Ls.length := (by omega)
  have hi6 : i < 6 := by omega
  obtain ⟨a, t, b, hbs⟩ : ∃ a t b, bs i = (a, t, b) := ⟨_, _, _, rfl⟩
  have hgi : g i = some a := by rw [(hK i hi6).1, hbs]
  obtain ⟨s, hs⟩ : ∃ s, s = Ls.getD i dS := ⟨_, rfl⟩
  have hS : SH G h a t b s := by have z := (hK i hi6).2; rw [hbs, hLF i hi, ← hs] at z; exact z
  have hW : WS s := by rw [hs]; exact hWs _ (getD_memS hi)
  obtain ⟨l, ex, wa, fo, du, se, co⟩ := s
  have hS0 := hS
  obtain ⟨gt, gb, ⟨ma, mt, mb⟩, ⟨nta, nba, ntb⟩, fa, ft, fb, hl, hr⟩ := hS
  have hl : l.length ≤ 200 := hl
  have hr : sr gt gb l := hr
  have fa : h.2 a = .inr (5, [.ref t, .ref b, .int (iI (l.length : Int)), .int (iI ex), .int fo, .int (iI wa), .int (iI (b2 du)), .int (iI (b2 se)), .int (iI (b2 co))]) := fa
  have hW0 := hW
  obtain ⟨h1, hnz, h4, hw0, hw1⟩ := hW
  have h1 : 1 ≤ l.length := h1
  have h4 : hgt l ≤ 4000 := h4
  have hw0 : 0 ≤ wa := hw0
  have hw1 : wa ≤ 40 := hw1
  have hnz : ∀ x ∈ l, x ≠ 0 := hnz
  have hg0 := hgt_nn l
  have hgl := hgt_ge l hnz
  have noa : o ≠ a := ne_oo fO fa (by decide)
  have not : o ≠ t := ne_oi fO ft
  have nob : o ≠ b := ne_oi fO fb
  have nAa : A ≠ a := (ne_oi fa fA).symm
  have nAt : A ≠ t := ne_sz fA ft (by decide)
  have nAb : A ≠ b := ne_sz fA fb (by decide)
  have hs2 : sAt ((ro, me, fl, ho, ec, bk), Ls) (i : Int) = (l, ex, wa, fo, du, se, co) := hs.symm
  have cS := c_X11_sheetAt_ok (h := h) hGC hGE mx fx hBo0 (i := i) hi
  rw [hbs] at cS
  rw [hs2]
  show RR G MX11_thinnestLayer 0 [(0, .ref x), (1, .int (iI ((i : Int))))] [] h (xm_R MX11_thinnestLayer).cells (xm_R MX11_thinnestLayer).slots (fun o' h' => o' = .inl (some (.int (iI (thinB l l.length : Int)))) ∧ h' = h)
  refine r_aload_n dX11_thinnestLayer_0 0 rfl ?_
  refine r_iload_n dX11_thinnestLayer_1 1 rfl ?_
  refine k_callV (As := [.int (iI ((i : Int)))]) (b := x) (rest := []) (w := (some (.ref a))) (st' := [.ref a]) kv_X11_thinnestLayer_118 dX11_thinnestLayer_2 rfl rfl (Nat.le_of_ble_eq_true rfl) (Nat.le_of_ble_eq_true rfl) (x_rv mx fx rfl) (Nat.le_of_ble_eq_true rfl) (Nat.le_of_ble_eq_true rfl) (cS) rfl (fun h9 e9 => ?_)
  rw [show h9 = h from e9]
  refine p_callV (As := []) (b := a) (rest := []) (w := (some (.int (iI ((thinB l l.length : Int)))))) (st' := [.int (iI ((thinB l l.length : Int)))]) kv_X11_thinnestLayer_147 dX11_thinnestLayer_5 rfl rfl (Nat.le_of_ble_eq_true rfl) (Nat.le_of_ble_eq_true rfl) (x_rv ma fa rfl) rfl rfl (c_X8_findThinnest hS0 hW0) rfl (fun h9 e9 => ?_)
  rw [show h9 = h from e9]
  refine r_ireturn rfl rfl dX11_thinnestLayer_8 ?_
  exact ⟨rfl, rfl⟩
set_option maxRecDepth 20000 in
set_option maxHeartbeats 1000000 in
theorem c_X11_thickestLayer_ok {G : xG} {h : xH} {K : xK} {sa : Nat → Nat} (hGC : GC G K sa) (hGT : GT G sa) (hGE : GE G) {x : Nat} {ad : XA} {S : XS} (hX : XB G h K x ad S) (hW : WX S) {z : Int} (hz : in32 z) (hs : hasS S.2.2.1 z = true) : CC G MX11_thickestLayer [.ref x, .int (iI z)] h (fun o' h' => o' = .inl (some (.int (iI (thickB (sAt S.2.2.1 z).1 (sAt S.2.2.1 z).1.length : Int)))) ∧ h' = h) := by
  have hX0 := hX
  have hGK := hGC.1
  have hG := gk_D hGK
  obtain ⟨I, ⟨po, to⟩, ⟨so, ca, cb, cc⟩, ⟨o, A, fp⟩, ⟨wo, wA, wfp⟩, ⟨vo, vA, vfp⟩, ⟨yo, yA, yfp⟩, ⟨uo, uA⟩⟩ := ad
  obtain ⟨inp, ⟨cod, off⟩, B, sn, Hs, out⟩ := S
  obtain ⟨mx, fx, hI, hPs, hSs, hB, hDr, hSn, hH, hU, hDJ⟩ := hX
  obtain ⟨hWB, hWh, hWs9, hWi⟩ := hW
  have hWB : WB B := hWB
  have hB : BN G h o A fp B := hB
  have fx : h.2 x = .inr (7, [.ref I, .int (iI (inp.length : Int)), .ref po, .ref so, .ref o, .ref wo, .ref vo, .int (iI (b2 sn.isSome)), .ref yo, .ref uo]) := fx
  obtain ⟨⟨ro, me, fl, ho, ec, bk⟩, Ls⟩ := B
  have hB0 := hB
  obtain ⟨g, bs, F, hBo⟩ := hB
  have hBo0 := hBo
  obtain ⟨⟨mO, mA⟩, fO, fA, hL6, hLF, hK, hD, hfp⟩ := hBo
  have hL6 : Ls.length ≤ 6 := hL6
  have hLF : ∀ i, i < Ls.length → F i = Ls.getD i dS := hLF
  have fO : h.2 o = .inr (0, [.ref A, .int (iI (Ls.length : Int)), .int (iI ro), .int (iI me), .int (iI fl), .int (iI ho), .int (iI ec), .int (iI bk)]) := fO
  have nOA : o ≠ A := ne_oi fO fA
  obtain ⟨hWs, hro, hme, hfl, hho⟩ := hWB
  have hro : 0 ≤ ro ∧ ro ≤ 40 := hro
  have hme : 5 ≤ me ∧ me ≤ 35 := hme
  have hfl : 0 ≤ fl ∧ fl ≤ 999 := hfl
  have hho : 0 ≤ ho ∧ ho ≤ 9999 := hho
  have hWs : ∀ s ∈ Ls, WS s := hWs
  obtain ⟨hz0, hz1⟩ := hasS_t hs
  have hz1 : z < (Ls.length : Int) := hz1
  obtain ⟨i, rfl⟩ : ∃ i : Nat, z = (i : Int) := ⟨z.toNat, by omega⟩
  clear hs
  have hi : i < Ls.length := (by omega)
  have hi6 : i < 6 := by omega
  obtain ⟨a, t, b, hbs⟩ : ∃ a t b, bs i = (a, t, b) := ⟨_, _, _, rfl⟩
  have hgi : g i = some a := by rw [(hK i hi6).1, hbs]
  obtain ⟨s, hs⟩ : ∃ s, s = Ls.getD i dS := ⟨_, rfl⟩
  have hS : SH G h a t b s := by have z := (hK i hi6).2; rw [hbs, hLF i hi, ← hs] at z; exact z
  have hW : WS s := by rw [hs]; exact hWs _ (getD_memS hi)
  obtain ⟨l, ex, wa, fo, du, se, co⟩ := s
  have hS0 := hS
  obtain ⟨gt, gb, ⟨ma, mt, mb⟩, ⟨nta, nba, ntb⟩, fa, ft, fb, hl, hr⟩ := hS
  have hl : l.length ≤ 200 := hl
  have hr : sr gt gb l := hr
  have fa : h.2 a = .inr (5, [.ref t, .ref b, .int (iI (l.length : Int)), .int (iI ex), .int fo, .int (iI wa), .int (iI (b2 du)), .int (iI (b2 se)), .int (iI (b2 co))]) := fa
  have hW0 := hW
  obtain ⟨h1, hnz, h4, hw0, hw1⟩ := hW
  have h1 : 1 ≤ l.length := h1
  have h4 : hgt l ≤ 4000 := h4
  have hw0 : 0 ≤ wa := hw0
  have hw1 : wa ≤ 40 := hw1
  have hnz : ∀ x ∈ l, x ≠ 0 := hnz
  have hg0 := hgt_nn l
  have hgl := hgt_ge l hnz
  have noa : o ≠ a := ne_oo fO fa (by decide)
  have not : o ≠ t := ne_oi fO ft
  have nob : o ≠ b := ne_oi fO fb
  have nAa : A ≠ a := (ne_oi fa fA).symm
  have nAt : A ≠ t := ne_sz fA ft (by decide)
  have nAb : A ≠ b := ne_sz fA fb (by decide)
  have hs2 : sAt ((ro, me, fl, ho, ec, bk), Ls) (i : Int) = (l, ex, wa, fo, du, se, co) := hs.symm
  have cS := c_X11_sheetAt_ok (h := h) hGC hGE mx fx hBo0 (i := i) hi
  rw [hbs] at cS
  rw [hs2]
  show RR G MX11_thickestLayer 0 [(0, .ref x), (1, .int (iI ((i : Int))))] [] h (xm_R MX11_thickestLayer).cells (xm_R MX11_thickestLayer).slots (fun o' h' => o' = .inl (some (.int (iI (thickB l l.length : Int)))) ∧ h' = h)
  refine r_aload_n dX11_thickestLayer_0 0 rfl ?_
  refine r_iload_n dX11_thickestLayer_1 1 rfl ?_
  refine k_callV (As := [.int (iI ((i : Int)))]) (b := x) (rest := []) (w := (some (.ref a))) (st' := [.ref a]) kv_X11_thickestLayer_118 dX11_thickestLayer_2 rfl rfl (Nat.le_of_ble_eq_true rfl) (Nat.le_of_ble_eq_true rfl) (x_rv mx fx rfl) (Nat.le_of_ble_eq_true rfl) (Nat.le_of_ble_eq_true rfl) (cS) rfl (fun h9 e9 => ?_)
  rw [show h9 = h from e9]
  refine p_callV (As := []) (b := a) (rest := []) (w := (some (.int (iI ((thickB l l.length : Int)))))) (st' := [.int (iI ((thickB l l.length : Int)))]) kv_X11_thickestLayer_150 dX11_thickestLayer_5 rfl rfl (Nat.le_of_ble_eq_true rfl) (Nat.le_of_ble_eq_true rfl) (x_rv ma fa rfl) rfl rfl (c_X8_findThickest hS0 hW0) rfl (fun h9 e9 => ?_)
  rw [show h9 = h from e9]
  refine r_ireturn rfl rfl dX11_thickestLayer_8 ?_
  exact ⟨rfl, rfl⟩
set_option maxRecDepth 20000 in
set_option maxHeartbeats 1000000 in
theorem c_X11_seamCount_ok {G : xG} {h : xH} {K : xK} {sa : Nat → Nat} (hGC : GC G K sa) (hGT : GT G sa) (hGE : GE G) {x : Nat} {ad : XA} {S : XS} (hX : XB G h K x ad S) (hW : WX S) {z : Int} (hz : in32 z) (hs : hasS S.2.2.1 z = true) : CC G MX11_seamCount [.ref x, .int (iI z)] h (fun o' h' => o' = .inl (some (.int (iI (seams (sAt S.2.2.1 z).1 (sAt S.2.2.1 z).1.length)))) ∧ h' = h) := by
  have hX0 := hX
  have hGK := hGC.1
  have hG := gk_D hGK
  obtain ⟨I, ⟨po, to⟩, ⟨so, ca, cb, cc⟩, ⟨o, A, fp⟩, ⟨wo, wA, wfp⟩, ⟨vo, vA, vfp⟩, ⟨yo, yA, yfp⟩, ⟨uo, uA⟩⟩ := ad
  obtain ⟨inp, ⟨cod, off⟩, B, sn, Hs, out⟩ := S
  obtain ⟨mx, fx, hI, hPs, hSs, hB, hDr, hSn, hH, hU, hDJ⟩ := hX
  obtain ⟨hWB, hWh, hWs9, hWi⟩ := hW
  have hWB : WB B := hWB
  have hB : BN G h o A fp B := hB
  have fx : h.2 x = .inr (7, [.ref I, .int (iI (inp.length : Int)), .ref po, .ref so, .ref o, .ref wo, .ref vo, .int (iI (b2 sn.isSome)), .ref yo, .ref uo]) := fx
  obtain ⟨⟨ro, me, fl, ho, ec, bk⟩, Ls⟩ := B
  have hB0 := hB
  obtain ⟨g, bs, F, hBo⟩ := hB
  have hBo0 := hBo
  obtain ⟨⟨mO, mA⟩, fO, fA, hL6, hLF, hK, hD, hfp⟩ := hBo
  have hL6 : Ls.length ≤ 6 := hL6
  have hLF : ∀ i, i < Ls.length → F i = Ls.getD i dS := hLF
  have fO : h.2 o = .inr (0, [.ref A, .int (iI (Ls.length : Int)), .int (iI ro), .int (iI me), .int (iI fl), .int (iI ho), .int (iI ec), .int (iI bk)]) := fO
  have nOA : o ≠ A := ne_oi fO fA
  obtain ⟨hWs, hro, hme, hfl, hho⟩ := hWB
  have hro : 0 ≤ ro ∧ ro ≤ 40 := hro
  have hme : 5 ≤ me ∧ me ≤ 35 := hme
  have hfl : 0 ≤ fl ∧ fl ≤ 999 := hfl
  have hho : 0 ≤ ho ∧ ho ≤ 9999 := hho
  have hWs : ∀ s ∈ Ls, WS s := hWs
  obtain ⟨hz0, hz1⟩ := hasS_t hs
  have hz1 : z < (Ls.length : Int) := hz1
  obtain ⟨i, rfl⟩ : ∃ i : Nat, z = (i : Int) := ⟨z.toNat, by omega⟩
  clear hs
  have hi : i < Ls.length := (by omega)
  have hi6 : i < 6 := by omega
  obtain ⟨a, t, b, hbs⟩ : ∃ a t b, bs i = (a, t, b) := ⟨_, _, _, rfl⟩
  have hgi : g i = some a := by rw [(hK i hi6).1, hbs]
  obtain ⟨s, hs⟩ : ∃ s, s = Ls.getD i dS := ⟨_, rfl⟩
  have hS : SH G h a t b s := by have z := (hK i hi6).2; rw [hbs, hLF i hi, ← hs] at z; exact z
  have hW : WS s := by rw [hs]; exact hWs _ (getD_memS hi)
  obtain ⟨l, ex, wa, fo, du, se, co⟩ := s
  have hS0 := hS
  obtain ⟨gt, gb, ⟨ma, mt, mb⟩, ⟨nta, nba, ntb⟩, fa, ft, fb, hl, hr⟩ := hS
  have hl : l.length ≤ 200 := hl
  have hr : sr gt gb l := hr
  have fa : h.2 a = .inr (5, [.ref t, .ref b, .int (iI (l.length : Int)), .int (iI ex), .int fo, .int (iI wa), .int (iI (b2 du)), .int (iI (b2 se)), .int (iI (b2 co))]) := fa
  have hW0 := hW
  obtain ⟨h1, hnz, h4, hw0, hw1⟩ := hW
  have h1 : 1 ≤ l.length := h1
  have h4 : hgt l ≤ 4000 := h4
  have hw0 : 0 ≤ wa := hw0
  have hw1 : wa ≤ 40 := hw1
  have hnz : ∀ x ∈ l, x ≠ 0 := hnz
  have hg0 := hgt_nn l
  have hgl := hgt_ge l hnz
  have noa : o ≠ a := ne_oo fO fa (by decide)
  have not : o ≠ t := ne_oi fO ft
  have nob : o ≠ b := ne_oi fO fb
  have nAa : A ≠ a := (ne_oi fa fA).symm
  have nAt : A ≠ t := ne_sz fA ft (by decide)
  have nAb : A ≠ b := ne_sz fA fb (by decide)
  have hs2 : sAt ((ro, me, fl, ho, ec, bk), Ls) (i : Int) = (l, ex, wa, fo, du, se, co) := hs.symm
  have cS := c_X11_sheetAt_ok (h := h) hGC hGE mx fx hBo0 (i := i) hi
  rw [hbs] at cS
  rw [hs2]
  show RR G MX11_seamCount 0 [(0, .ref x), (1, .int (iI ((i : Int))))] [] h (xm_R MX11_seamCount).cells (xm_R MX11_seamCount).slots (fun o' h' => o' = .inl (some (.int (iI (seams l l.length)))) ∧ h' = h)
  refine r_aload_n dX11_seamCount_0 0 rfl ?_
  refine r_iload_n dX11_seamCount_1 1 rfl ?_
  refine k_callV (As := [.int (iI ((i : Int)))]) (b := x) (rest := []) (w := (some (.ref a))) (st' := [.ref a]) kv_X11_seamCount_118 dX11_seamCount_2 rfl rfl (Nat.le_of_ble_eq_true rfl) (Nat.le_of_ble_eq_true rfl) (x_rv mx fx rfl) (Nat.le_of_ble_eq_true rfl) (Nat.le_of_ble_eq_true rfl) (cS) rfl (fun h9 e9 => ?_)
  rw [show h9 = h from e9]
  refine p_callV (As := []) (b := a) (rest := []) (w := (some (.int (iI (seams l l.length))))) (st' := [.int (iI (seams l l.length))]) kv_X11_seamCount_153 dX11_seamCount_5 rfl rfl (Nat.le_of_ble_eq_true rfl) (Nat.le_of_ble_eq_true rfl) (x_rv ma fa rfl) rfl rfl (c_X8_countSeams hS0 hW0) rfl (fun h9 e9 => ?_)
  rw [show h9 = h from e9]
  refine r_ireturn rfl rfl dX11_seamCount_8 ?_
  exact ⟨rfl, rfl⟩
set_option maxRecDepth 20000 in
set_option maxHeartbeats 1000000 in
theorem c_X11_isSymmetric_ok {G : xG} {h : xH} {K : xK} {sa : Nat → Nat} (hGC : GC G K sa) (hGT : GT G sa) (hGE : GE G) {x : Nat} {ad : XA} {S : XS} (hX : XB G h K x ad S) (hW : WX S) {z : Int} (hz : in32 z) (hs : hasS S.2.2.1 z = true) : CC G MX11_isSymmetric [.ref x, .int (iI z)] h (fun o' h' => o' = .inl (some (.int (iI (b2 (symL (sAt S.2.2.1 z).1))))) ∧ h' = h) := by
  have hX0 := hX
  have hGK := hGC.1
  have hG := gk_D hGK
  obtain ⟨I, ⟨po, to⟩, ⟨so, ca, cb, cc⟩, ⟨o, A, fp⟩, ⟨wo, wA, wfp⟩, ⟨vo, vA, vfp⟩, ⟨yo, yA, yfp⟩, ⟨uo, uA⟩⟩ := ad
  obtain ⟨inp, ⟨cod, off⟩, B, sn, Hs, out⟩ := S
  obtain ⟨mx, fx, hI, hPs, hSs, hB, hDr, hSn, hH, hU, hDJ⟩ := hX
  obtain ⟨hWB, hWh, hWs9, hWi⟩ := hW
  have hWB : WB B := hWB
  have hB : BN G h o A fp B := hB
  have fx : h.2 x = .inr (7, [.ref I, .int (iI (inp.length : Int)), .ref po, .ref so, .ref o, .ref wo, .ref vo, .int (iI (b2 sn.isSome)), .ref yo, .ref uo]) := fx
  obtain ⟨⟨ro, me, fl, ho, ec, bk⟩, Ls⟩ := B
  have hB0 := hB
  obtain ⟨g, bs, F, hBo⟩ := hB
  have hBo0 := hBo
  obtain ⟨⟨mO, mA⟩, fO, fA, hL6, hLF, hK, hD, hfp⟩ := hBo
  have hL6 : Ls.length ≤ 6 := hL6
  have hLF : ∀ i, i < Ls.length → F i = Ls.getD i dS := hLF
  have fO : h.2 o = .inr (0, [.ref A, .int (iI (Ls.length : Int)), .int (iI ro), .int (iI me), .int (iI fl), .int (iI ho), .int (iI ec), .int (iI bk)]) := fO
  have nOA : o ≠ A := ne_oi fO fA
  obtain ⟨hWs, hro, hme, hfl, hho⟩ := hWB
  have hro : 0 ≤ ro ∧ ro ≤ 40 := hro
  have hme : 5 ≤ me ∧ me ≤ 35 := hme
  have hfl : 0 ≤ fl ∧ fl ≤ 999 := hfl
  have hho : 0 ≤ ho ∧ ho ≤ 9999 := hho
  have hWs : ∀ s ∈ Ls, WS s := hWs
  obtain ⟨hz0, hz1⟩ := hasS_t hs
  have hz1 : z < (Ls.length : Int) := hz1
  obtain ⟨i, rfl⟩ : ∃ i : Nat, z = (i : Int) := ⟨z.toNat, by omega⟩
  clear hs
  have hi : i < Ls.length := (by omega)
  have hi6 : i < 6 := by omega
  obtain ⟨a, t, b, hbs⟩ : ∃ a t b, bs i = (a, t, b) := ⟨_, _, _, rfl⟩
  have hgi : g i = some a := by rw [(hK i hi6).1, hbs]
  obtain ⟨s, hs⟩ : ∃ s, s = Ls.getD i dS := ⟨_, rfl⟩
  have hS : SH G h a t b s := by have z := (hK i hi6).2; rw [hbs, hLF i hi, ← hs] at z; exact z
  have hW : WS s := by rw [hs]; exact hWs _ (getD_memS hi)
  obtain ⟨l, ex, wa, fo, du, se, co⟩ := s
  have hS0 := hS
  obtain ⟨gt, gb, ⟨ma, mt, mb⟩, ⟨nta, nba, ntb⟩, fa, ft, fb, hl, hr⟩ := hS
  have hl : l.length ≤ 200 := hl
  have hr : sr gt gb l := hr
  have fa : h.2 a = .inr (5, [.ref t, .ref b, .int (iI (l.length : Int)), .int (iI ex), .int fo, .int (iI wa), .int (iI (b2 du)), .int (iI (b2 se)), .int (iI (b2 co))]) := fa
  have hW0 := hW
  obtain ⟨h1, hnz, h4, hw0, hw1⟩ := hW
  have h1 : 1 ≤ l.length := h1
  have h4 : hgt l ≤ 4000 := h4
  have hw0 : 0 ≤ wa := hw0
  have hw1 : wa ≤ 40 := hw1
  have hnz : ∀ x ∈ l, x ≠ 0 := hnz
  have hg0 := hgt_nn l
  have hgl := hgt_ge l hnz
  have noa : o ≠ a := ne_oo fO fa (by decide)
  have not : o ≠ t := ne_oi fO ft
  have nob : o ≠ b := ne_oi fO fb
  have nAa : A ≠ a := (ne_oi fa fA).symm
  have nAt : A ≠ t := ne_sz fA ft (by decide)
  have nAb : A ≠ b := ne_sz fA fb (by decide)
  have hs2 : sAt ((ro, me, fl, ho, ec, bk), Ls) (i : Int) = (l, ex, wa, fo, du, se, co) := hs.symm
  have cS := c_X11_sheetAt_ok (h := h) hGC hGE mx fx hBo0 (i := i) hi
  rw [hbs] at cS
  rw [hs2]
  show RR G MX11_isSymmetric 0 [(0, .ref x), (1, .int (iI ((i : Int))))] [] h (xm_R MX11_isSymmetric).cells (xm_R MX11_isSymmetric).slots (fun o' h' => o' = .inl (some (.int (iI (b2 (symL l))))) ∧ h' = h)
  refine r_aload_n dX11_isSymmetric_0 0 rfl ?_
  refine r_iload_n dX11_isSymmetric_1 1 rfl ?_
  refine k_callV (As := [.int (iI ((i : Int)))]) (b := x) (rest := []) (w := (some (.ref a))) (st' := [.ref a]) kv_X11_isSymmetric_118 dX11_isSymmetric_2 rfl rfl (Nat.le_of_ble_eq_true rfl) (Nat.le_of_ble_eq_true rfl) (x_rv mx fx rfl) (Nat.le_of_ble_eq_true rfl) (Nat.le_of_ble_eq_true rfl) (cS) rfl (fun h9 e9 => ?_)
  rw [show h9 = h from e9]
  refine p_callV (As := []) (b := a) (rest := []) (w := (some (.int (iI (b2 (symL l)))))) (st' := [.int (iI (b2 (symL l)))]) kv_X11_isSymmetric_156 dX11_isSymmetric_5 rfl rfl (Nat.le_of_ble_eq_true rfl) (Nat.le_of_ble_eq_true rfl) (x_rv ma fa rfl) rfl rfl (c_X8_sameFromBothSides hS0 hW0) rfl (fun h9 e9 => ?_)
  rw [show h9 = h from e9]
  refine r_ireturn rfl (b2_nar _) dX11_isSymmetric_8 ?_
  exact ⟨rfl, rfl⟩
set_option maxRecDepth 20000 in
set_option maxHeartbeats 1000000 in
theorem c_X11_temperature_ok {G : xG} {h : xH} {K : xK} {sa : Nat → Nat} (hGC : GC G K sa) (hGT : GT G sa) (hGE : GE G) {x : Nat} {ad : XA} {S : XS} (hX : XB G h K x ad S) (hW : WX S) {z : Int} (hz : in32 z) (hs : hasS S.2.2.1 z = true) : CC G MX11_temperature [.ref x, .int (iI z)] h (fun o' h' => o' = .inl (some (.int (iI (sAt S.2.2.1 z).2.2.1))) ∧ h' = h) := by
  have hX0 := hX
  have hGK := hGC.1
  have hG := gk_D hGK
  obtain ⟨I, ⟨po, to⟩, ⟨so, ca, cb, cc⟩, ⟨o, A, fp⟩, ⟨wo, wA, wfp⟩, ⟨vo, vA, vfp⟩, ⟨yo, yA, yfp⟩, ⟨uo, uA⟩⟩ := ad
  obtain ⟨inp, ⟨cod, off⟩, B, sn, Hs, out⟩ := S
  obtain ⟨mx, fx, hI, hPs, hSs, hB, hDr, hSn, hH, hU, hDJ⟩ := hX
  obtain ⟨hWB, hWh, hWs9, hWi⟩ := hW
  have hWB : WB B := hWB
  have hB : BN G h o A fp B := hB
  have fx : h.2 x = .inr (7, [.ref I, .int (iI (inp.length : Int)), .ref po, .ref so, .ref o, .ref wo, .ref vo, .int (iI (b2 sn.isSome)), .ref yo, .ref uo]) := fx
  obtain ⟨⟨ro, me, fl, ho, ec, bk⟩, Ls⟩ := B
  have hB0 := hB
  obtain ⟨g, bs, F, hBo⟩ := hB
  have hBo0 := hBo
  obtain ⟨⟨mO, mA⟩, fO, fA, hL6, hLF, hK, hD, hfp⟩ := hBo
  have hL6 : Ls.length ≤ 6 := hL6
  have hLF : ∀ i, i < Ls.length → F i = Ls.getD i dS := hLF
  have fO : h.2 o = .inr (0, [.ref A, .int (iI (Ls.length : Int)), .int (iI ro), .int (iI me), .int (iI fl), .int (iI ho), .int (iI ec), .int (iI bk)]) := fO
  have nOA : o ≠ A := ne_oi fO fA
  obtain ⟨hWs, hro, hme, hfl, hho⟩ := hWB
  have hro : 0 ≤ ro ∧ ro ≤ 40 := hro
  have hme : 5 ≤ me ∧ me ≤ 35 := hme
  have hfl : 0 ≤ fl ∧ fl ≤ 999 := hfl
  have hho : 0 ≤ ho ∧ ho ≤ 9999 := hho
  have hWs : ∀ s ∈ Ls, WS s := hWs
  obtain ⟨hz0, hz1⟩ := hasS_t hs
  have hz1 : z < (Ls.length : Int) := hz1
  obtain ⟨i, rfl⟩ : ∃ i : Nat, z = (i : Int) := ⟨z.toNat, by omega⟩
  clear hs
  have hi : i < Ls.length := (by omega)
  have hi6 : i < 6 := by omega
  obtain ⟨a, t, b, hbs⟩ : ∃ a t b, bs i = (a, t, b) := ⟨_, _, _, rfl⟩
  have hgi : g i = some a := by rw [(hK i hi6).1, hbs]
  obtain ⟨s, hs⟩ : ∃ s, s = Ls.getD i dS := ⟨_, rfl⟩
  have hS : SH G h a t b s := by have z := (hK i hi6).2; rw [hbs, hLF i hi, ← hs] at z; exact z
  have hW : WS s := by rw [hs]; exact hWs _ (getD_memS hi)
  obtain ⟨l, ex, wa, fo, du, se, co⟩ := s
  have hS0 := hS
  obtain ⟨gt, gb, ⟨ma, mt, mb⟩, ⟨nta, nba, ntb⟩, fa, ft, fb, hl, hr⟩ := hS
  have hl : l.length ≤ 200 := hl
  have hr : sr gt gb l := hr
  have fa : h.2 a = .inr (5, [.ref t, .ref b, .int (iI (l.length : Int)), .int (iI ex), .int fo, .int (iI wa), .int (iI (b2 du)), .int (iI (b2 se)), .int (iI (b2 co))]) := fa
  have hW0 := hW
  obtain ⟨h1, hnz, h4, hw0, hw1⟩ := hW
  have h1 : 1 ≤ l.length := h1
  have h4 : hgt l ≤ 4000 := h4
  have hw0 : 0 ≤ wa := hw0
  have hw1 : wa ≤ 40 := hw1
  have hnz : ∀ x ∈ l, x ≠ 0 := hnz
  have hg0 := hgt_nn l
  have hgl := hgt_ge l hnz
  have noa : o ≠ a := ne_oo fO fa (by decide)
  have not : o ≠ t := ne_oi fO ft
  have nob : o ≠ b := ne_oi fO fb
  have nAa : A ≠ a := (ne_oi fa fA).symm
  have nAt : A ≠ t := ne_sz fA ft (by decide)
  have nAb : A ≠ b := ne_sz fA fb (by decide)
  have hs2 : sAt ((ro, me, fl, ho, ec, bk), Ls) (i : Int) = (l, ex, wa, fo, du, se, co) := hs.symm
  have cS := c_X11_sheetAt_ok (h := h) hGC hGE mx fx hBo0 (i := i) hi
  rw [hbs] at cS
  rw [hs2]
  show RR G MX11_temperature 0 [(0, .ref x), (1, .int (iI ((i : Int))))] [] h (xm_R MX11_temperature).cells (xm_R MX11_temperature).slots (fun o' h' => o' = .inl (some (.int (iI wa))) ∧ h' = h)
  refine r_aload_n dX11_temperature_0 0 rfl ?_
  refine r_iload_n dX11_temperature_1 1 rfl ?_
  refine k_callV (As := [.int (iI ((i : Int)))]) (b := x) (rest := []) (w := (some (.ref a))) (st' := [.ref a]) kv_X11_temperature_118 dX11_temperature_2 rfl rfl (Nat.le_of_ble_eq_true rfl) (Nat.le_of_ble_eq_true rfl) (x_rv mx fx rfl) (Nat.le_of_ble_eq_true rfl) (Nat.le_of_ble_eq_true rfl) (cS) rfl (fun h9 e9 => ?_)
  rw [show h9 = h from e9]
  refine r_get cl_X8 5 (by decide) kf_X11_160 dX11_temperature_5 ma fa rfl ?_
  refine r_ireturn rfl rfl dX11_temperature_8 ?_
  exact ⟨rfl, rfl⟩
set_option maxRecDepth 20000 in
set_option maxHeartbeats 1000000 in
theorem c_X11_isDusted_ok {G : xG} {h : xH} {K : xK} {sa : Nat → Nat} (hGC : GC G K sa) (hGT : GT G sa) (hGE : GE G) {x : Nat} {ad : XA} {S : XS} (hX : XB G h K x ad S) (hW : WX S) {z : Int} (hz : in32 z) (hs : hasS S.2.2.1 z = true) : CC G MX11_isDusted [.ref x, .int (iI z)] h (fun o' h' => o' = .inl (some (.int (iI (b2 (sAt S.2.2.1 z).2.2.2.2.1)))) ∧ h' = h) := by
  have hX0 := hX
  have hGK := hGC.1
  have hG := gk_D hGK
  obtain ⟨I, ⟨po, to⟩, ⟨so, ca, cb, cc⟩, ⟨o, A, fp⟩, ⟨wo, wA, wfp⟩, ⟨vo, vA, vfp⟩, ⟨yo, yA, yfp⟩, ⟨uo, uA⟩⟩ := ad
  obtain ⟨inp, ⟨cod, off⟩, B, sn, Hs, out⟩ := S
  obtain ⟨mx, fx, hI, hPs, hSs, hB, hDr, hSn, hH, hU, hDJ⟩ := hX
  obtain ⟨hWB, hWh, hWs9, hWi⟩ := hW
  have hWB : WB B := hWB
  have hB : BN G h o A fp B := hB
  have fx : h.2 x = .inr (7, [.ref I, .int (iI (inp.length : Int)), .ref po, .ref so, .ref o, .ref wo, .ref vo, .int (iI (b2 sn.isSome)), .ref yo, .ref uo]) := fx
  obtain ⟨⟨ro, me, fl, ho, ec, bk⟩, Ls⟩ := B
  have hB0 := hB
  obtain ⟨g, bs, F, hBo⟩ := hB
  have hBo0 := hBo
  obtain ⟨⟨mO, mA⟩, fO, fA, hL6, hLF, hK, hD, hfp⟩ := hBo
  have hL6 : Ls.length ≤ 6 := hL6
  have hLF : ∀ i, i < Ls.length → F i = Ls.getD i dS := hLF
  have fO : h.2 o = .inr (0, [.ref A, .int (iI (Ls.length : Int)), .int (iI ro), .int (iI me), .int (iI fl), .int (iI ho), .int (iI ec), .int (iI bk)]) := fO
  have nOA : o ≠ A := ne_oi fO fA
  obtain ⟨hWs, hro, hme, hfl, hho⟩ := hWB
  have hro : 0 ≤ ro ∧ ro ≤ 40 := hro
  have hme : 5 ≤ me ∧ me ≤ 35 := hme
  have hfl : 0 ≤ fl ∧ fl ≤ 999 := hfl
  have hho : 0 ≤ ho ∧ ho ≤ 9999 := hho
  have hWs : ∀ s ∈ Ls, WS s := hWs
  obtain ⟨hz0, hz1⟩ := hasS_t hs
  have hz1 : z < (Ls.length : Int) := hz1
  obtain ⟨i, rfl⟩ : ∃ i : Nat, z = (i : Int) := ⟨z.toNat, by omega⟩
  clear hs
  have hi : i < Ls.length := (by omega)
  have hi6 : i < 6 := by omega
  obtain ⟨a, t, b, hbs⟩ : ∃ a t b, bs i = (a, t, b) := ⟨_, _, _, rfl⟩
  have hgi : g i = some a := by rw [(hK i hi6).1, hbs]
  obtain ⟨s, hs⟩ : ∃ s, s = Ls.getD i dS := ⟨_, rfl⟩
  have hS : SH G h a t b s := by have z := (hK i hi6).2; rw [hbs, hLF i hi, ← hs] at z; exact z
  have hW : WS s := by rw [hs]; exact hWs _ (getD_memS hi)
  obtain ⟨l, ex, wa, fo, du, se, co⟩ := s
  have hS0 := hS
  obtain ⟨gt, gb, ⟨ma, mt, mb⟩, ⟨nta, nba, ntb⟩, fa, ft, fb, hl, hr⟩ := hS
  have hl : l.length ≤ 200 := hl
  have hr : sr gt gb l := hr
  have fa : h.2 a = .inr (5, [.ref t, .ref b, .int (iI (l.length : Int)), .int (iI ex), .int fo, .int (iI wa), .int (iI (b2 du)), .int (iI (b2 se)), .int (iI (b2 co))]) := fa
  have hW0 := hW
  obtain ⟨h1, hnz, h4, hw0, hw1⟩ := hW
  have h1 : 1 ≤ l.length := h1
  have h4 : hgt l ≤ 4000 := h4
  have hw0 : 0 ≤ wa := hw0
  have hw1 : wa ≤ 40 := hw1
  have hnz : ∀ x ∈ l, x ≠ 0 := hnz
  have hg0 := hgt_nn l
  have hgl := hgt_ge l hnz
  have noa : o ≠ a := ne_oo fO fa (by decide)
  have not : o ≠ t := ne_oi fO ft
  have nob : o ≠ b := ne_oi fO fb
  have nAa : A ≠ a := (ne_oi fa fA).symm
  have nAt : A ≠ t := ne_sz fA ft (by decide)
  have nAb : A ≠ b := ne_sz fA fb (by decide)
  have hs2 : sAt ((ro, me, fl, ho, ec, bk), Ls) (i : Int) = (l, ex, wa, fo, du, se, co) := hs.symm
  have cS := c_X11_sheetAt_ok (h := h) hGC hGE mx fx hBo0 (i := i) hi
  rw [hbs] at cS
  rw [hs2]
  show RR G MX11_isDusted 0 [(0, .ref x), (1, .int (iI ((i : Int))))] [] h (xm_R MX11_isDusted).cells (xm_R MX11_isDusted).slots (fun o' h' => o' = .inl (some (.int (iI (b2 du)))) ∧ h' = h)
  refine r_aload_n dX11_isDusted_0 0 rfl ?_
  refine r_iload_n dX11_isDusted_1 1 rfl ?_
  refine k_callV (As := [.int (iI ((i : Int)))]) (b := x) (rest := []) (w := (some (.ref a))) (st' := [.ref a]) kv_X11_isDusted_118 dX11_isDusted_2 rfl rfl (Nat.le_of_ble_eq_true rfl) (Nat.le_of_ble_eq_true rfl) (x_rv mx fx rfl) (Nat.le_of_ble_eq_true rfl) (Nat.le_of_ble_eq_true rfl) (cS) rfl (fun h9 e9 => ?_)
  rw [show h9 = h from e9]
  refine r_get cl_X8 6 (by decide) kf_X11_163 dX11_isDusted_5 ma fa rfl ?_
  refine r_ireturn rfl (b2_nar _) dX11_isDusted_8 ?_
  exact ⟨rfl, rfl⟩
set_option maxRecDepth 20000 in
set_option maxHeartbeats 1000000 in
theorem c_X11_isSealed_ok {G : xG} {h : xH} {K : xK} {sa : Nat → Nat} (hGC : GC G K sa) (hGT : GT G sa) (hGE : GE G) {x : Nat} {ad : XA} {S : XS} (hX : XB G h K x ad S) (hW : WX S) {z : Int} (hz : in32 z) (hs : hasS S.2.2.1 z = true) : CC G MX11_isSealed [.ref x, .int (iI z)] h (fun o' h' => o' = .inl (some (.int (iI (b2 (sAt S.2.2.1 z).2.2.2.2.2.1)))) ∧ h' = h) := by
  have hX0 := hX
  have hGK := hGC.1
  have hG := gk_D hGK
  obtain ⟨I, ⟨po, to⟩, ⟨so, ca, cb, cc⟩, ⟨o, A, fp⟩, ⟨wo, wA, wfp⟩, ⟨vo, vA, vfp⟩, ⟨yo, yA, yfp⟩, ⟨uo, uA⟩⟩ := ad
  obtain ⟨inp, ⟨cod, off⟩, B, sn, Hs, out⟩ := S
  obtain ⟨mx, fx, hI, hPs, hSs, hB, hDr, hSn, hH, hU, hDJ⟩ := hX
  obtain ⟨hWB, hWh, hWs9, hWi⟩ := hW
  have hWB : WB B := hWB
  have hB : BN G h o A fp B := hB
  have fx : h.2 x = .inr (7, [.ref I, .int (iI (inp.length : Int)), .ref po, .ref so, .ref o, .ref wo, .ref vo, .int (iI (b2 sn.isSome)), .ref yo, .ref uo]) := fx
  obtain ⟨⟨ro, me, fl, ho, ec, bk⟩, Ls⟩ := B
  have hB0 := hB
  obtain ⟨g, bs, F, hBo⟩ := hB
  have hBo0 := hBo
  obtain ⟨⟨mO, mA⟩, fO, fA, hL6, hLF, hK, hD, hfp⟩ := hBo
  have hL6 : Ls.length ≤ 6 := hL6
  have hLF : ∀ i, i < Ls.length → F i = Ls.getD i dS := hLF
  have fO : h.2 o = .inr (0, [.ref A, .int (iI (Ls.length : Int)), .int (iI ro), .int (iI me), .int (iI fl), .int (iI ho), .int (iI ec), .int (iI bk)]) := fO
  have nOA : o ≠ A := ne_oi fO fA
  obtain ⟨hWs, hro, hme, hfl, hho⟩ := hWB
  have hro : 0 ≤ ro ∧ ro ≤ 40 := hro
  have hme : 5 ≤ me ∧ me ≤ 35 := hme
  have hfl : 0 ≤ fl ∧ fl ≤ 999 := hfl
  have hho : 0 ≤ ho ∧ ho ≤ 9999 := hho
  have hWs : ∀ s ∈ Ls, WS s := hWs
  obtain ⟨hz0, hz1⟩ := hasS_t hs
  have hz1 : z < (Ls.length : Int) := hz1
  obtain ⟨i, rfl⟩ : ∃ i : Nat, z = (i : Int) := ⟨z.toNat, by omega⟩
  clear hs
  have hi : i < Ls.length := (by omega)
  have hi6 : i < 6 := by omega
  obtain ⟨a, t, b, hbs⟩ : ∃ a t b, bs i = (a, t, b) := ⟨_, _, _, rfl⟩
  have hgi : g i = some a := by rw [(hK i hi6).1, hbs]
  obtain ⟨s, hs⟩ : ∃ s, s = Ls.getD i dS := ⟨_, rfl⟩
  have hS : SH G h a t b s := by have z := (hK i hi6).2; rw [hbs, hLF i hi, ← hs] at z; exact z
  have hW : WS s := by rw [hs]; exact hWs _ (getD_memS hi)
  obtain ⟨l, ex, wa, fo, du, se, co⟩ := s
  have hS0 := hS
  obtain ⟨gt, gb, ⟨ma, mt, mb⟩, ⟨nta, nba, ntb⟩, fa, ft, fb, hl, hr⟩ := hS
  have hl : l.length ≤ 200 := hl
  have hr : sr gt gb l := hr
  have fa : h.2 a = .inr (5, [.ref t, .ref b, .int (iI (l.length : Int)), .int (iI ex), .int fo, .int (iI wa), .int (iI (b2 du)), .int (iI (b2 se)), .int (iI (b2 co))]) := fa
  have hW0 := hW
  obtain ⟨h1, hnz, h4, hw0, hw1⟩ := hW
  have h1 : 1 ≤ l.length := h1
  have h4 : hgt l ≤ 4000 := h4
  have hw0 : 0 ≤ wa := hw0
  have hw1 : wa ≤ 40 := hw1
  have hnz : ∀ x ∈ l, x ≠ 0 := hnz
  have hg0 := hgt_nn l
  have hgl := hgt_ge l hnz
  have noa : o ≠ a := ne_oo fO fa (by decide)
  have not : o ≠ t := ne_oi fO ft
  have nob : o ≠ b := ne_oi fO fb
  have nAa : A ≠ a := (ne_oi fa fA).symm
  have nAt : A ≠ t := ne_sz fA ft (by decide)
  have nAb : A ≠ b := ne_sz fA fb (by decide)
  have hs2 : sAt ((ro, me, fl, ho, ec, bk), Ls) (i : Int) = (l, ex, wa, fo, du, se, co) := hs.symm
  have cS := c_X11_sheetAt_ok (h := h) hGC hGE mx fx hBo0 (i := i) hi
  rw [hbs] at cS
  rw [hs2]
  show RR G MX11_isSealed 0 [(0, .ref x), (1, .int (iI ((i : Int))))] [] h (xm_R MX11_isSealed).cells (xm_R MX11_isSealed).slots (fun o' h' => o' = .inl (some (.int (iI (b2 se)))) ∧ h' = h)
  refine r_aload_n dX11_isSealed_0 0 rfl ?_
  refine r_iload_n dX11_isSealed_1 1 rfl ?_
  refine k_callV (As := [.int (iI ((i : Int)))]) (b := x) (rest := []) (w := (some (.ref a))) (st' := [.ref a]) kv_X11_isSealed_118 dX11_isSealed_2 rfl rfl (Nat.le_of_ble_eq_true rfl) (Nat.le_of_ble_eq_true rfl) (x_rv mx fx rfl) (Nat.le_of_ble_eq_true rfl) (Nat.le_of_ble_eq_true rfl) (cS) rfl (fun h9 e9 => ?_)
  rw [show h9 = h from e9]
  refine r_get cl_X8 7 (by decide) kf_X11_166 dX11_isSealed_5 ma fa rfl ?_
  refine r_ireturn rfl (b2_nar _) dX11_isSealed_8 ?_
  exact ⟨rfl, rfl⟩
set_option maxRecDepth 20000 in
set_option maxHeartbeats 1000000 in
theorem c_X11_isCooling_ok {G : xG} {h : xH} {K : xK} {sa : Nat → Nat} (hGC : GC G K sa) (hGT : GT G sa) (hGE : GE G) {x : Nat} {ad : XA} {S : XS} (hX : XB G h K x ad S) (hW : WX S) {z : Int} (hz : in32 z) (hs : hasS S.2.2.1 z = true) : CC G MX11_isCooling [.ref x, .int (iI z)] h (fun o' h' => o' = .inl (some (.int (iI (b2 (sAt S.2.2.1 z).2.2.2.2.2.2)))) ∧ h' = h) := by
  have hX0 := hX
  have hGK := hGC.1
  have hG := gk_D hGK
  obtain ⟨I, ⟨po, to⟩, ⟨so, ca, cb, cc⟩, ⟨o, A, fp⟩, ⟨wo, wA, wfp⟩, ⟨vo, vA, vfp⟩, ⟨yo, yA, yfp⟩, ⟨uo, uA⟩⟩ := ad
  obtain ⟨inp, ⟨cod, off⟩, B, sn, Hs, out⟩ := S
  obtain ⟨mx, fx, hI, hPs, hSs, hB, hDr, hSn, hH, hU, hDJ⟩ := hX
  obtain ⟨hWB, hWh, hWs9, hWi⟩ := hW
  have hWB : WB B := hWB
  have hB : BN G h o A fp B := hB
  have fx : h.2 x = .inr (7, [.ref I, .int (iI (inp.length : Int)), .ref po, .ref so, .ref o, .ref wo, .ref vo, .int (iI (b2 sn.isSome)), .ref yo, .ref uo]) := fx
  obtain ⟨⟨ro, me, fl, ho, ec, bk⟩, Ls⟩ := B
  have hB0 := hB
  obtain ⟨g, bs, F, hBo⟩ := hB
  have hBo0 := hBo
  obtain ⟨⟨mO, mA⟩, fO, fA, hL6, hLF, hK, hD, hfp⟩ := hBo
  have hL6 : Ls.length ≤ 6 := hL6
  have hLF : ∀ i, i < Ls.length → F i = Ls.getD i dS := hLF
  have fO : h.2 o = .inr (0, [.ref A, .int (iI (Ls.length : Int)), .int (iI ro), .int (iI me), .int (iI fl), .int (iI ho), .int (iI ec), .int (iI bk)]) := fO
  have nOA : o ≠ A := ne_oi fO fA
  obtain ⟨hWs, hro, hme, hfl, hho⟩ := hWB
  have hro : 0 ≤ ro ∧ ro ≤ 40 := hro
  have hme : 5 ≤ me ∧ me ≤ 35 := hme
  have hfl : 0 ≤ fl ∧ fl ≤ 999 := hfl
  have hho : 0 ≤ ho ∧ ho ≤ 9999 := hho
  have hWs : ∀ s ∈ Ls, WS s := hWs
  obtain ⟨hz0, hz1⟩ := hasS_t hs
  have hz1 : z < (Ls.length : Int) := hz1
  obtain ⟨i, rfl⟩ : ∃ i : Nat, z = (i : Int) := ⟨z.toNat, by omega⟩
  clear hs
  have hi : i < Ls.length := (by omega)
  have hi6 : i < 6 := by omega
  obtain ⟨a, t, b, hbs⟩ : ∃ a t b, bs i = (a, t, b) := ⟨_, _, _, rfl⟩
  have hgi : g i = some a := by rw [(hK i hi6).1, hbs]
  obtain ⟨s, hs⟩ : ∃ s, s = Ls.getD i dS := ⟨_, rfl⟩
  have hS : SH G h a t b s := by have z := (hK i hi6).2; rw [hbs, hLF i hi, ← hs] at z; exact z
  have hW : WS s := by rw [hs]; exact hWs _ (getD_memS hi)
  obtain ⟨l, ex, wa, fo, du, se, co⟩ := s
  have hS0 := hS
  obtain ⟨gt, gb, ⟨ma, mt, mb⟩, ⟨nta, nba, ntb⟩, fa, ft, fb, hl, hr⟩ := hS
  have hl : l.length ≤ 200 := hl
  have hr : sr gt gb l := hr
  have fa : h.2 a = .inr (5, [.ref t, .ref b, .int (iI (l.length : Int)), .int (iI ex), .int fo, .int (iI wa), .int (iI (b2 du)), .int (iI (b2 se)), .int (iI (b2 co))]) := fa
  have hW0 := hW
  obtain ⟨h1, hnz, h4, hw0, hw1⟩ := hW
  have h1 : 1 ≤ l.length := h1
  have h4 : hgt l ≤ 4000 := h4
  have hw0 : 0 ≤ wa := hw0
  have hw1 : wa ≤ 40 := hw1
  have hnz : ∀ x ∈ l, x ≠ 0 := hnz
  have hg0 := hgt_nn l
  have hgl := hgt_ge l hnz
  have noa : o ≠ a := ne_oo fO fa (by decide)
  have not : o ≠ t := ne_oi fO ft
  have nob : o ≠ b := ne_oi fO fb
  have nAa : A ≠ a := (ne_oi fa fA).symm
  have nAt : A ≠ t := ne_sz fA ft (by decide)
  have nAb : A ≠ b := ne_sz fA fb (by decide)
  have hs2 : sAt ((ro, me, fl, ho, ec, bk), Ls) (i : Int) = (l, ex, wa, fo, du, se, co) := hs.symm
  have cS := c_X11_sheetAt_ok (h := h) hGC hGE mx fx hBo0 (i := i) hi
  rw [hbs] at cS
  rw [hs2]
  show RR G MX11_isCooling 0 [(0, .ref x), (1, .int (iI ((i : Int))))] [] h (xm_R MX11_isCooling).cells (xm_R MX11_isCooling).slots (fun o' h' => o' = .inl (some (.int (iI (b2 co)))) ∧ h' = h)
  refine r_aload_n dX11_isCooling_0 0 rfl ?_
  refine r_iload_n dX11_isCooling_1 1 rfl ?_
  refine k_callV (As := [.int (iI ((i : Int)))]) (b := x) (rest := []) (w := (some (.ref a))) (st' := [.ref a]) kv_X11_isCooling_118 dX11_isCooling_2 rfl rfl (Nat.le_of_ble_eq_true rfl) (Nat.le_of_ble_eq_true rfl) (x_rv mx fx rfl) (Nat.le_of_ble_eq_true rfl) (Nat.le_of_ble_eq_true rfl) (cS) rfl (fun h9 e9 => ?_)
  rw [show h9 = h from e9]
  refine r_get cl_X8 8 (by decide) kf_X11_169 dX11_isCooling_5 ma fa rfl ?_
  refine r_ireturn rfl (b2_nar _) dX11_isCooling_8 ?_
  exact ⟨rfl, rfl⟩
set_option maxRecDepth 20000 in
set_option maxHeartbeats 1000000 in
theorem c_X11_foldCount_ok {G : xG} {h : xH} {K : xK} {sa : Nat → Nat} (hGC : GC G K sa) (hGT : GT G sa) (hGE : GE G) {x : Nat} {ad : XA} {S : XS} (hX : XB G h K x ad S) (hW : WX S) {z : Int} (hz : in32 z) (hs : hasS S.2.2.1 z = true) : CC G MX11_foldCount [.ref x, .int (iI z)] h (fun o' h' => o' = .inl (some (.int (sAt S.2.2.1 z).2.2.2.1)) ∧ h' = h) := by
  have hX0 := hX
  have hGK := hGC.1
  have hG := gk_D hGK
  obtain ⟨I, ⟨po, to⟩, ⟨so, ca, cb, cc⟩, ⟨o, A, fp⟩, ⟨wo, wA, wfp⟩, ⟨vo, vA, vfp⟩, ⟨yo, yA, yfp⟩, ⟨uo, uA⟩⟩ := ad
  obtain ⟨inp, ⟨cod, off⟩, B, sn, Hs, out⟩ := S
  obtain ⟨mx, fx, hI, hPs, hSs, hB, hDr, hSn, hH, hU, hDJ⟩ := hX
  obtain ⟨hWB, hWh, hWs9, hWi⟩ := hW
  have hWB : WB B := hWB
  have hB : BN G h o A fp B := hB
  have fx : h.2 x = .inr (7, [.ref I, .int (iI (inp.length : Int)), .ref po, .ref so, .ref o, .ref wo, .ref vo, .int (iI (b2 sn.isSome)), .ref yo, .ref uo]) := fx
  obtain ⟨⟨ro, me, fl, ho, ec, bk⟩, Ls⟩ := B
  have hB0 := hB
  obtain ⟨g, bs, F, hBo⟩ := hB
  have hBo0 := hBo
  obtain ⟨⟨mO, mA⟩, fO, fA, hL6, hLF, hK, hD, hfp⟩ := hBo
  have hL6 : Ls.length ≤ 6 := hL6
  have hLF : ∀ i, i < Ls.length → F i = Ls.getD i dS := hLF
  have fO : h.2 o = .inr (0, [.ref A, .int (iI (Ls.length : Int)), .int (iI ro), .int (iI me), .int (iI fl), .int (iI ho), .int (iI ec), .int (iI bk)]) := fO
  have nOA : o ≠ A := ne_oi fO fA
  obtain ⟨hWs, hro, hme, hfl, hho⟩ := hWB
  have hro : 0 ≤ ro ∧ ro ≤ 40 := hro
  have hme : 5 ≤ me ∧ me ≤ 35 := hme
  have hfl : 0 ≤ fl ∧ fl ≤ 999 := hfl
  have hho : 0 ≤ ho ∧ ho ≤ 9999 := hho
  have hWs : ∀ s ∈ Ls, WS s := hWs
  obtain ⟨hz0, hz1⟩ := hasS_t hs
  have hz1 : z < (Ls.length : Int) := hz1
  obtain ⟨i, rfl⟩ : ∃ i : Nat, z = (i : Int) := ⟨z.toNat, by omega⟩
  clear hs
  have hi : i < Ls.length := (by omega)
  have hi6 : i < 6 := by omega
  obtain ⟨a, t, b, hbs⟩ : ∃ a t b, bs i = (a, t, b) := ⟨_, _, _, rfl⟩
  have hgi : g i = some a := by rw [(hK i hi6).1, hbs]
  obtain ⟨s, hs⟩ : ∃ s, s = Ls.getD i dS := ⟨_, rfl⟩
  have hS : SH G h a t b s := by have z := (hK i hi6).2; rw [hbs, hLF i hi, ← hs] at z; exact z
  have hW : WS s := by rw [hs]; exact hWs _ (getD_memS hi)
  obtain ⟨l, ex, wa, fo, du, se, co⟩ := s
  have hS0 := hS
  obtain ⟨gt, gb, ⟨ma, mt, mb⟩, ⟨nta, nba, ntb⟩, fa, ft, fb, hl, hr⟩ := hS
  have hl : l.length ≤ 200 := hl
  have hr : sr gt gb l := hr
  have fa : h.2 a = .inr (5, [.ref t, .ref b, .int (iI (l.length : Int)), .int (iI ex), .int fo, .int (iI wa), .int (iI (b2 du)), .int (iI (b2 se)), .int (iI (b2 co))]) := fa
  have hW0 := hW
  obtain ⟨h1, hnz, h4, hw0, hw1⟩ := hW
  have h1 : 1 ≤ l.length := h1
  have h4 : hgt l ≤ 4000 := h4
  have hw0 : 0 ≤ wa := hw0
  have hw1 : wa ≤ 40 := hw1
  have hnz : ∀ x ∈ l, x ≠ 0 := hnz
  have hg0 := hgt_nn l
  have hgl := hgt_ge l hnz
  have noa : o ≠ a := ne_oo fO fa (by decide)
  have not : o ≠ t := ne_oi fO ft
  have nob : o ≠ b := ne_oi fO fb
  have nAa : A ≠ a := (ne_oi fa fA).symm
  have nAt : A ≠ t := ne_sz fA ft (by decide)
  have nAb : A ≠ b := ne_sz fA fb (by decide)
  have hs2 : sAt ((ro, me, fl, ho, ec, bk), Ls) (i : Int) = (l, ex, wa, fo, du, se, co) := hs.symm
  have cS := c_X11_sheetAt_ok (h := h) hGC hGE mx fx hBo0 (i := i) hi
  rw [hbs] at cS
  rw [hs2]
  show RR G MX11_foldCount 0 [(0, .ref x), (1, .int (iI ((i : Int))))] [] h (xm_R MX11_foldCount).cells (xm_R MX11_foldCount).slots (fun o' h' => o' = .inl (some (.int fo)) ∧ h' = h)
  refine r_aload_n dX11_foldCount_0 0 rfl ?_
  refine r_iload_n dX11_foldCount_1 1 rfl ?_
  refine k_callV (As := [.int (iI ((i : Int)))]) (b := x) (rest := []) (w := (some (.ref a))) (st' := [.ref a]) kv_X11_foldCount_118 dX11_foldCount_2 rfl rfl (Nat.le_of_ble_eq_true rfl) (Nat.le_of_ble_eq_true rfl) (x_rv mx fx rfl) (Nat.le_of_ble_eq_true rfl) (Nat.le_of_ble_eq_true rfl) (cS) rfl (fun h9 e9 => ?_)
  rw [show h9 = h from e9]
  refine r_get cl_X8 4 (by decide) kf_X11_172 dX11_foldCount_5 ma fa rfl ?_
  refine r_ireturn rfl rfl dX11_foldCount_8 ?_
  exact ⟨rfl, rfl⟩
set_option maxRecDepth 20000 in
set_option maxHeartbeats 1000000 in
theorem c_X11_expectedLayers_ok {G : xG} {h : xH} {K : xK} {sa : Nat → Nat} (hGC : GC G K sa) (hGT : GT G sa) (hGE : GE G) {x : Nat} {ad : XA} {S : XS} (hX : XB G h K x ad S) (hW : WX S) {z : Int} (hz : in32 z) (hs : hasS S.2.2.1 z = true) : CC G MX11_expectedLayers [.ref x, .int (iI z)] h (fun o' h' => o' = .inl (some (.int (iI (sAt S.2.2.1 z).2.1))) ∧ h' = h) := by
  have hX0 := hX
  have hGK := hGC.1
  have hG := gk_D hGK
  obtain ⟨I, ⟨po, to⟩, ⟨so, ca, cb, cc⟩, ⟨o, A, fp⟩, ⟨wo, wA, wfp⟩, ⟨vo, vA, vfp⟩, ⟨yo, yA, yfp⟩, ⟨uo, uA⟩⟩ := ad
  obtain ⟨inp, ⟨cod, off⟩, B, sn, Hs, out⟩ := S
  obtain ⟨mx, fx, hI, hPs, hSs, hB, hDr, hSn, hH, hU, hDJ⟩ := hX
  obtain ⟨hWB, hWh, hWs9, hWi⟩ := hW
  have hWB : WB B := hWB
  have hB : BN G h o A fp B := hB
  have fx : h.2 x = .inr (7, [.ref I, .int (iI (inp.length : Int)), .ref po, .ref so, .ref o, .ref wo, .ref vo, .int (iI (b2 sn.isSome)), .ref yo, .ref uo]) := fx
  obtain ⟨⟨ro, me, fl, ho, ec, bk⟩, Ls⟩ := B
  have hB0 := hB
  obtain ⟨g, bs, F, hBo⟩ := hB
  have hBo0 := hBo
  obtain ⟨⟨mO, mA⟩, fO, fA, hL6, hLF, hK, hD, hfp⟩ := hBo
  have hL6 : Ls.length ≤ 6 := hL6
  have hLF : ∀ i, i < Ls.length → F i = Ls.getD i dS := hLF
  have fO : h.2 o = .inr (0, [.ref A, .int (iI (Ls.length : Int)), .int (iI ro), .int (iI me), .int (iI fl), .int (iI ho), .int (iI ec), .int (iI bk)]) := fO
  have nOA : o ≠ A := ne_oi fO fA
  obtain ⟨hWs, hro, hme, hfl, hho⟩ := hWB
  have hro : 0 ≤ ro ∧ ro ≤ 40 := hro
  have hme : 5 ≤ me ∧ me ≤ 35 := hme
  have hfl : 0 ≤ fl ∧ fl ≤ 999 := hfl
  have hho : 0 ≤ ho ∧ ho ≤ 9999 := hho
  have hWs : ∀ s ∈ Ls, WS s := hWs
  obtain ⟨hz0, hz1⟩ := hasS_t hs
  have hz1 : z < (Ls.length : Int) := hz1
  obtain ⟨i, rfl⟩ : ∃ i : Nat, z = (i : Int) := ⟨z.toNat, by omega⟩
  clear hs
  have hi : i < Ls.length := (by omega)
  have hi6 : i < 6 := by omega
  obtain ⟨a, t, b, hbs⟩ : ∃ a t b, bs i = (a, t, b) := ⟨_, _, _, rfl⟩
  have hgi : g i = some a := by rw [(hK i hi6).1, hbs]
  obtain ⟨s, hs⟩ : ∃ s, s = Ls.getD i dS := ⟨_, rfl⟩
  have hS : SH G h a t b s := by have z := (hK i hi6).2; rw [hbs, hLF i hi, ← hs] at z; exact z
  have hW : WS s := by rw [hs]; exact hWs _ (getD_memS hi)
  obtain ⟨l, ex, wa, fo, du, se, co⟩ := s
  have hS0 := hS
  obtain ⟨gt, gb, ⟨ma, mt, mb⟩, ⟨nta, nba, ntb⟩, fa, ft, fb, hl, hr⟩ := hS
  have hl : l.length ≤ 200 := hl
  have hr : sr gt gb l := hr
  have fa : h.2 a = .inr (5, [.ref t, .ref b, .int (iI (l.length : Int)), .int (iI ex), .int fo, .int (iI wa), .int (iI (b2 du)), .int (iI (b2 se)), .int (iI (b2 co))]) := fa
  have hW0 := hW
  obtain ⟨h1, hnz, h4, hw0, hw1⟩ := hW
  have h1 : 1 ≤ l.length := h1
  have h4 : hgt l ≤ 4000 := h4
  have hw0 : 0 ≤ wa := hw0
  have hw1 : wa ≤ 40 := hw1
  have hnz : ∀ x ∈ l, x ≠ 0 := hnz
  have hg0 := hgt_nn l
  have hgl := hgt_ge l hnz
  have noa : o ≠ a := ne_oo fO fa (by decide)
  have not : o ≠ t := ne_oi fO ft
  have nob : o ≠ b := ne_oi fO fb
  have nAa : A ≠ a := (ne_oi fa fA).symm
  have nAt : A ≠ t := ne_sz fA ft (by decide)
  have nAb : A ≠ b := ne_sz fA fb (by decide)
  have hs2 : sAt ((ro, me, fl, ho, ec, bk), Ls) (i : Int) = (l, ex, wa, fo, du, se, co) := hs.symm
  have cS := c_X11_sheetAt_ok (h := h) hGC hGE mx fx hBo0 (i := i) hi
  rw [hbs] at cS
  rw [hs2]
  show RR G MX11_expectedLayers 0 [(0, .ref x), (1, .int (iI ((i : Int))))] [] h (xm_R MX11_expectedLayers).cells (xm_R MX11_expectedLayers).slots (fun o' h' => o' = .inl (some (.int (iI ex))) ∧ h' = h)
  refine r_aload_n dX11_expectedLayers_0 0 rfl ?_
  refine r_iload_n dX11_expectedLayers_1 1 rfl ?_
  refine k_callV (As := [.int (iI ((i : Int)))]) (b := x) (rest := []) (w := (some (.ref a))) (st' := [.ref a]) kv_X11_expectedLayers_118 dX11_expectedLayers_2 rfl rfl (Nat.le_of_ble_eq_true rfl) (Nat.le_of_ble_eq_true rfl) (x_rv mx fx rfl) (Nat.le_of_ble_eq_true rfl) (Nat.le_of_ble_eq_true rfl) (cS) rfl (fun h9 e9 => ?_)
  rw [show h9 = h from e9]
  refine r_get cl_X8 3 (by decide) kf_X11_175 dX11_expectedLayers_5 ma fa rfl ?_
  refine r_ireturn rfl rfl dX11_expectedLayers_8 ?_
  exact ⟨rfl, rfl⟩
set_option maxRecDepth 20000 in
set_option maxHeartbeats 1000000 in
theorem c_X11_butterAtRisk_ok {G : xG} {h : xH} {K : xK} {sa : Nat → Nat} (hGC : GC G K sa) (hGT : GT G sa) (hGE : GE G) {x : Nat} {ad : XA} {S : XS} (hX : XB G h K x ad S) (hW : WX S) {z : Int} (hz : in32 z) (hs : hasS S.2.2.1 z = true) : CC G MX11_butterAtRisk [.ref x, .int (iI z)] h (fun o' h' => o' = .inl (some (.int (iI (sumF (escF (loss (sAt S.2.2.1 z) S.2.2.1.1.2.1)) (sAt S.2.2.1 z).1)))) ∧ h' = h) := by
  have hX0 := hX
  have hGK := hGC.1
  have hG := gk_D hGK
  obtain ⟨I, ⟨po, to⟩, ⟨so, ca, cb, cc⟩, ⟨o, A, fp⟩, ⟨wo, wA, wfp⟩, ⟨vo, vA, vfp⟩, ⟨yo, yA, yfp⟩, ⟨uo, uA⟩⟩ := ad
  obtain ⟨inp, ⟨cod, off⟩, B, sn, Hs, out⟩ := S
  obtain ⟨mx, fx, hI, hPs, hSs, hB, hDr, hSn, hH, hU, hDJ⟩ := hX
  obtain ⟨hWB, hWh, hWs9, hWi⟩ := hW
  have hWB : WB B := hWB
  have hB : BN G h o A fp B := hB
  have fx : h.2 x = .inr (7, [.ref I, .int (iI (inp.length : Int)), .ref po, .ref so, .ref o, .ref wo, .ref vo, .int (iI (b2 sn.isSome)), .ref yo, .ref uo]) := fx
  obtain ⟨⟨ro, me, fl, ho, ec, bk⟩, Ls⟩ := B
  have hB0 := hB
  obtain ⟨g, bs, F, hBo⟩ := hB
  have hBo0 := hBo
  obtain ⟨⟨mO, mA⟩, fO, fA, hL6, hLF, hK, hD, hfp⟩ := hBo
  have hL6 : Ls.length ≤ 6 := hL6
  have hLF : ∀ i, i < Ls.length → F i = Ls.getD i dS := hLF
  have fO : h.2 o = .inr (0, [.ref A, .int (iI (Ls.length : Int)), .int (iI ro), .int (iI me), .int (iI fl), .int (iI ho), .int (iI ec), .int (iI bk)]) := fO
  have nOA : o ≠ A := ne_oi fO fA
  obtain ⟨hWs, hro, hme, hfl, hho⟩ := hWB
  have hro : 0 ≤ ro ∧ ro ≤ 40 := hro
  have hme : 5 ≤ me ∧ me ≤ 35 := hme
  have hfl : 0 ≤ fl ∧ fl ≤ 999 := hfl
  have hho : 0 ≤ ho ∧ ho ≤ 9999 := hho
  have hWs : ∀ s ∈ Ls, WS s := hWs
  obtain ⟨hz0, hz1⟩ := hasS_t hs
  have hz1 : z < (Ls.length : Int) := hz1
  obtain ⟨i, rfl⟩ : ∃ i : Nat, z = (i : Int) := ⟨z.toNat, by omega⟩
  clear hs
  have hi : i < Ls.length := (by omega)
  have hi6 : i < 6 := by omega
  obtain ⟨a, t, b, hbs⟩ : ∃ a t b, bs i = (a, t, b) := ⟨_, _, _, rfl⟩
  have hgi : g i = some a := by rw [(hK i hi6).1, hbs]
  obtain ⟨s, hs⟩ : ∃ s, s = Ls.getD i dS := ⟨_, rfl⟩
  have hS : SH G h a t b s := by have z := (hK i hi6).2; rw [hbs, hLF i hi, ← hs] at z; exact z
  have hW : WS s := by rw [hs]; exact hWs _ (getD_memS hi)
  obtain ⟨l, ex, wa, fo, du, se, co⟩ := s
  have hS0 := hS
  obtain ⟨gt, gb, ⟨ma, mt, mb⟩, ⟨nta, nba, ntb⟩, fa, ft, fb, hl, hr⟩ := hS
  have hl : l.length ≤ 200 := hl
  have hr : sr gt gb l := hr
  have fa : h.2 a = .inr (5, [.ref t, .ref b, .int (iI (l.length : Int)), .int (iI ex), .int fo, .int (iI wa), .int (iI (b2 du)), .int (iI (b2 se)), .int (iI (b2 co))]) := fa
  have hW0 := hW
  obtain ⟨h1, hnz, h4, hw0, hw1⟩ := hW
  have h1 : 1 ≤ l.length := h1
  have h4 : hgt l ≤ 4000 := h4
  have hw0 : 0 ≤ wa := hw0
  have hw1 : wa ≤ 40 := hw1
  have hnz : ∀ x ∈ l, x ≠ 0 := hnz
  have hg0 := hgt_nn l
  have hgl := hgt_ge l hnz
  have noa : o ≠ a := ne_oo fO fa (by decide)
  have not : o ≠ t := ne_oi fO ft
  have nob : o ≠ b := ne_oi fO fb
  have nAa : A ≠ a := (ne_oi fa fA).symm
  have nAt : A ≠ t := ne_sz fA ft (by decide)
  have nAb : A ≠ b := ne_sz fA fb (by decide)
  have hs2 : sAt ((ro, me, fl, ho, ec, bk), Ls) (i : Int) = (l, ex, wa, fo, du, se, co) := hs.symm
  have cS := c_X11_sheetAt_ok (h := h) hGC hGE mx fx hBo0 (i := i) hi
  rw [hbs] at cS
  rw [hs2]
  show RR G MX11_butterAtRisk 0 [(0, .ref x), (1, .int (iI ((i : Int))))] [] h (xm_R MX11_butterAtRisk).cells (xm_R MX11_butterAtRisk).slots (fun o' h' => o' = .inl (some (.int (iI (sumF (escF (loss (l, ex, wa, fo, du, se, co) me)) l)))) ∧ h' = h)
  refine r_aload_n dX11_butterAtRisk_0 0 rfl ?_
  refine r_iload_n dX11_butterAtRisk_1 1 rfl ?_
  refine k_callV (As := [.int (iI ((i : Int)))]) (b := x) (rest := []) (w := (some (.ref a))) (st' := [.ref a]) kv_X11_butterAtRisk_118 dX11_butterAtRisk_2 rfl rfl (Nat.le_of_ble_eq_true rfl) (Nat.le_of_ble_eq_true rfl) (x_rv mx fx rfl) (Nat.le_of_ble_eq_true rfl) (Nat.le_of_ble_eq_true rfl) (cS) rfl (fun h9 e9 => ?_)
  rw [show h9 = h from e9]
  refine r_aload_n dX11_butterAtRisk_5 0 rfl ?_
  refine r_get cl_X11 4 (by decide) kf_X11_33 dX11_butterAtRisk_6 mx fx rfl ?_
  refine r_get cl_X1 3 (by decide) kf_X11_96 dX11_butterAtRisk_9 mO fO rfl ?_
  refine p_callV (As := [.int (iI me)]) (b := a) (rest := []) (w := (some (.int (iI (sumF (escF (loss (l, ex, wa, fo, du, se, co) me)) l))))) (st' := [.int (iI (sumF (escF (loss (l, ex, wa, fo, du, se, co) me)) l))]) kv_X11_butterAtRisk_192 dX11_butterAtRisk_12 rfl rfl (Nat.le_of_ble_eq_true rfl) (Nat.le_of_ble_eq_true rfl) (x_rv ma fa rfl) rfl rfl (c_X8_sumEscaping hS0 hW0 (m := me) (by omega)) rfl (fun h9 e9 => ?_)
  rw [show h9 = h from e9]
  refine r_ireturn rfl rfl dX11_butterAtRisk_15 ?_
  exact ⟨rfl, rfl⟩
set_option maxRecDepth 20000 in
set_option maxHeartbeats 1000000 in
theorem c_X11_hoursToSafety_ok {G : xG} {h : xH} {K : xK} {sa : Nat → Nat} (hGC : GC G K sa) (hGT : GT G sa) (hGE : GE G) {x : Nat} {ad : XA} {S : XS} (hX : XB G h K x ad S) (hW : WX S) {z : Int} (hz : in32 z) (hs : hasS S.2.2.1 z = true) : CC G MX11_hoursToSafety [.ref x, .int (iI z)] h (fun o' h' => o' = .inl (some (.int (iI (safeH S.2.2.1.1.2.1 40 (sAt S.2.2.1 z).2.2.1)))) ∧ h' = h) := by
  have hX0 := hX
  have hGK := hGC.1
  have hG := gk_D hGK
  obtain ⟨I, ⟨po, to⟩, ⟨so, ca, cb, cc⟩, ⟨o, A, fp⟩, ⟨wo, wA, wfp⟩, ⟨vo, vA, vfp⟩, ⟨yo, yA, yfp⟩, ⟨uo, uA⟩⟩ := ad
  obtain ⟨inp, ⟨cod, off⟩, B, sn, Hs, out⟩ := S
  obtain ⟨mx, fx, hI, hPs, hSs, hB, hDr, hSn, hH, hU, hDJ⟩ := hX
  obtain ⟨hWB, hWh, hWs9, hWi⟩ := hW
  have hWB : WB B := hWB
  have hB : BN G h o A fp B := hB
  have fx : h.2 x = .inr (7, [.ref I, .int (iI (inp.length : Int)), .ref po, .ref so, .ref o, .ref wo, .ref vo, .int (iI (b2 sn.isSome)), .ref yo, .ref uo]) := fx
  obtain ⟨⟨ro, me, fl, ho, ec, bk⟩, Ls⟩ := B
  have hB0 := hB
  obtain ⟨g, bs, F, hBo⟩ := hB
  have hBo0 := hBo
  obtain ⟨⟨mO, mA⟩, fO, fA, hL6, hLF, hK, hD, hfp⟩ := hBo
  have hL6 : Ls.length ≤ 6 := hL6
  have hLF : ∀ i, i < Ls.length → F i = Ls.getD i dS := hLF
  have fO : h.2 o = .inr (0, [.ref A, .int (iI (Ls.length : Int)), .int (iI ro), .int (iI me), .int (iI fl), .int (iI ho), .int (iI ec), .int (iI bk)]) := fO
  have nOA : o ≠ A := ne_oi fO fA
  obtain ⟨hWs, hro, hme, hfl, hho⟩ := hWB
  have hro : 0 ≤ ro ∧ ro ≤ 40 := hro
  have hme : 5 ≤ me ∧ me ≤ 35 := hme
  have hfl : 0 ≤ fl ∧ fl ≤ 999 := hfl
  have hho : 0 ≤ ho ∧ ho ≤ 9999 := hho
  have hWs : ∀ s ∈ Ls, WS s := hWs
  obtain ⟨hz0, hz1⟩ := hasS_t hs
  have hz1 : z < (Ls.length : Int) := hz1
  obtain ⟨i, rfl⟩ : ∃ i : Nat, z = (i : Int) := ⟨z.toNat, by omega⟩
  clear hs
  have hi : i < Ls.length := (by omega)
  have hi6 : i < 6 := by omega
  obtain ⟨a, t, b, hbs⟩ : ∃ a t b, bs i = (a, t, b) := ⟨_, _, _, rfl⟩
  have hgi : g i = some a := by rw [(hK i hi6).1, hbs]
  obtain ⟨s, hs⟩ : ∃ s, s = Ls.getD i dS := ⟨_, rfl⟩
  have hS : SH G h a t b s := by have z := (hK i hi6).2; rw [hbs, hLF i hi, ← hs] at z; exact z
  have hW : WS s := by rw [hs]; exact hWs _ (getD_memS hi)
  obtain ⟨l, ex, wa, fo, du, se, co⟩ := s
  have hS0 := hS
  obtain ⟨gt, gb, ⟨ma, mt, mb⟩, ⟨nta, nba, ntb⟩, fa, ft, fb, hl, hr⟩ := hS
  have hl : l.length ≤ 200 := hl
  have hr : sr gt gb l := hr
  have fa : h.2 a = .inr (5, [.ref t, .ref b, .int (iI (l.length : Int)), .int (iI ex), .int fo, .int (iI wa), .int (iI (b2 du)), .int (iI (b2 se)), .int (iI (b2 co))]) := fa
  have hW0 := hW
  obtain ⟨h1, hnz, h4, hw0, hw1⟩ := hW
  have h1 : 1 ≤ l.length := h1
  have h4 : hgt l ≤ 4000 := h4
  have hw0 : 0 ≤ wa := hw0
  have hw1 : wa ≤ 40 := hw1
  have hnz : ∀ x ∈ l, x ≠ 0 := hnz
  have hg0 := hgt_nn l
  have hgl := hgt_ge l hnz
  have noa : o ≠ a := ne_oo fO fa (by decide)
  have not : o ≠ t := ne_oi fO ft
  have nob : o ≠ b := ne_oi fO fb
  have nAa : A ≠ a := (ne_oi fa fA).symm
  have nAt : A ≠ t := ne_sz fA ft (by decide)
  have nAb : A ≠ b := ne_sz fA fb (by decide)
  have hs2 : sAt ((ro, me, fl, ho, ec, bk), Ls) (i : Int) = (l, ex, wa, fo, du, se, co) := hs.symm
  have cS := c_X11_sheetAt_ok (h := h) hGC hGE mx fx hBo0 (i := i) hi
  rw [hbs] at cS
  rw [hs2]
  show RR G MX11_hoursToSafety 0 [(0, .ref x), (1, .int (iI ((i : Int))))] [] h (xm_R MX11_hoursToSafety).cells (xm_R MX11_hoursToSafety).slots (fun o' h' => o' = .inl (some (.int (iI (safeH me 40 wa)))) ∧ h' = h)
  refine r_aload_n dX11_hoursToSafety_0 0 rfl ?_
  refine r_iload_n dX11_hoursToSafety_1 1 rfl ?_
  refine k_callV (As := [.int (iI ((i : Int)))]) (b := x) (rest := []) (w := (some (.ref a))) (st' := [.ref a]) kv_X11_hoursToSafety_118 dX11_hoursToSafety_2 rfl rfl (Nat.le_of_ble_eq_true rfl) (Nat.le_of_ble_eq_true rfl) (x_rv mx fx rfl) (Nat.le_of_ble_eq_true rfl) (Nat.le_of_ble_eq_true rfl) (cS) rfl (fun h9 e9 => ?_)
  rw [show h9 = h from e9]
  refine r_aload_n dX11_hoursToSafety_5 0 rfl ?_
  refine r_get cl_X11 4 (by decide) kf_X11_33 dX11_hoursToSafety_6 mx fx rfl ?_
  refine r_get cl_X1 3 (by decide) kf_X11_96 dX11_hoursToSafety_9 mO fO rfl ?_
  refine p_callV (As := [.int (iI me)]) (b := a) (rest := []) (w := (some (.int (iI (safeH me 40 wa))))) (st' := [.int (iI (safeH me 40 wa))]) kv_X11_hoursToSafety_212 dX11_hoursToSafety_12 rfl rfl (Nat.le_of_ble_eq_true rfl) (Nat.le_of_ble_eq_true rfl) (x_rv ma fa rfl) rfl rfl (c_X8_countHoursToSafety hS0 hW0 hG (m := me) (by omega)) rfl (fun h9 e9 => ?_)
  rw [show h9 = h from e9]
  refine r_ireturn rfl rfl dX11_hoursToSafety_15 ?_
  exact ⟨rfl, rfl⟩
set_option maxRecDepth 20000 in
set_option maxHeartbeats 1000000 in
theorem c_X11_butterShare_ok {G : xG} {h : xH} {K : xK} {sa : Nat → Nat} (hGC : GC G K sa) (hGT : GT G sa) (hGE : GE G) {x : Nat} {ad : XA} {S : XS} (hX : XB G h K x ad S) (hW : WX S) {z : Int} (hz : in32 z) (hs : hasS S.2.2.1 z = true) : CC G MX11_butterShare [.ref x, .int (iI z)] h (fun o' h' => o' = .inl (some (.float (FP.fdiv (FP.i2f (iI (hBut (sAt S.2.2.1 z).1))) (FP.i2f (iI (hgt (sAt S.2.2.1 z).1)))))) ∧ h' = h) := by
  have hX0 := hX
  have hGK := hGC.1
  have hG := gk_D hGK
  obtain ⟨I, ⟨po, to⟩, ⟨so, ca, cb, cc⟩, ⟨o, A, fp⟩, ⟨wo, wA, wfp⟩, ⟨vo, vA, vfp⟩, ⟨yo, yA, yfp⟩, ⟨uo, uA⟩⟩ := ad
  obtain ⟨inp, ⟨cod, off⟩, B, sn, Hs, out⟩ := S
  obtain ⟨mx, fx, hI, hPs, hSs, hB, hDr, hSn, hH, hU, hDJ⟩ := hX
  obtain ⟨hWB, hWh, hWs9, hWi⟩ := hW
  have hWB : WB B := hWB
  have hB : BN G h o A fp B := hB
  have fx : h.2 x = .inr (7, [.ref I, .int (iI (inp.length : Int)), .ref po, .ref so, .ref o, .ref wo, .ref vo, .int (iI (b2 sn.isSome)), .ref yo, .ref uo]) := fx
  obtain ⟨⟨ro, me, fl, ho, ec, bk⟩, Ls⟩ := B
  have hB0 := hB
  obtain ⟨g, bs, F, hBo⟩ := hB
  have hBo0 := hBo
  obtain ⟨⟨mO, mA⟩, fO, fA, hL6, hLF, hK, hD, hfp⟩ := hBo
  have hL6 : Ls.length ≤ 6 := hL6
  have hLF : ∀ i, i < Ls.length → F i = Ls.getD i dS := hLF
  have fO : h.2 o = .inr (0, [.ref A, .int (iI (Ls.length : Int)), .int (iI ro), .int (iI me), .int (iI fl), .int (iI ho), .int (iI ec), .int (iI bk)]) := fO
  have nOA : o ≠ A := ne_oi fO fA
  obtain ⟨hWs, hro, hme, hfl, hho⟩ := hWB
  have hro : 0 ≤ ro ∧ ro ≤ 40 := hro
  have hme : 5 ≤ me ∧ me ≤ 35 := hme
  have hfl : 0 ≤ fl ∧ fl ≤ 999 := hfl
  have hho : 0 ≤ ho ∧ ho ≤ 9999 := hho
  have hWs : ∀ s ∈ Ls, WS s := hWs
  obtain ⟨hz0, hz1⟩ := hasS_t hs
  have hz1 : z < (Ls.length : Int) := hz1
  obtain ⟨i, rfl⟩ : ∃ i : Nat, z = (i : Int) := ⟨z.toNat, by omega⟩
  clear hs
  have hi : i < Ls.length := (by omega)
  have hi6 : i < 6 := by omega
  obtain ⟨a, t, b, hbs⟩ : ∃ a t b, bs i = (a, t, b) := ⟨_, _, _, rfl⟩
  have hgi : g i = some a := by rw [(hK i hi6).1, hbs]
  obtain ⟨s, hs⟩ : ∃ s, s = Ls.getD i dS := ⟨_, rfl⟩
  have hS : SH G h a t b s := by have z := (hK i hi6).2; rw [hbs, hLF i hi, ← hs] at z; exact z
  have hW : WS s := by rw [hs]; exact hWs _ (getD_memS hi)
  obtain ⟨l, ex, wa, fo, du, se, co⟩ := s
  have hS0 := hS
  obtain ⟨gt, gb, ⟨ma, mt, mb⟩, ⟨nta, nba, ntb⟩, fa, ft, fb, hl, hr⟩ := hS
  have hl : l.length ≤ 200 := hl
  have hr : sr gt gb l := hr
  have fa : h.2 a = .inr (5, [.ref t, .ref b, .int (iI (l.length : Int)), .int (iI ex), .int fo, .int (iI wa), .int (iI (b2 du)), .int (iI (b2 se)), .int (iI (b2 co))]) := fa
  have hW0 := hW
  obtain ⟨h1, hnz, h4, hw0, hw1⟩ := hW
  have h1 : 1 ≤ l.length := h1
  have h4 : hgt l ≤ 4000 := h4
  have hw0 : 0 ≤ wa := hw0
  have hw1 : wa ≤ 40 := hw1
  have hnz : ∀ x ∈ l, x ≠ 0 := hnz
  have hg0 := hgt_nn l
  have hgl := hgt_ge l hnz
  have noa : o ≠ a := ne_oo fO fa (by decide)
  have not : o ≠ t := ne_oi fO ft
  have nob : o ≠ b := ne_oi fO fb
  have nAa : A ≠ a := (ne_oi fa fA).symm
  have nAt : A ≠ t := ne_sz fA ft (by decide)
  have nAb : A ≠ b := ne_sz fA fb (by decide)
  have hs2 : sAt ((ro, me, fl, ho, ec, bk), Ls) (i : Int) = (l, ex, wa, fo, du, se, co) := hs.symm
  have cS := c_X11_sheetAt_ok (h := h) hGC hGE mx fx hBo0 (i := i) hi
  rw [hbs] at cS
  have hbb := hBut_b l
  rw [hs2]
  show RR G MX11_butterShare 0 [(0, .ref x), (1, .int (iI ((i : Int))))] [] h (xm_R MX11_butterShare).cells (xm_R MX11_butterShare).slots (fun o' h' => o' = .inl (some (.float (FP.fdiv (FP.i2f (iI (hBut l))) (FP.i2f (iI (hgt l)))))) ∧ h' = h)
  refine r_aload_n dX11_butterShare_0 0 rfl ?_
  refine r_iload_n dX11_butterShare_1 1 rfl ?_
  refine k_callV (As := [.int (iI ((i : Int)))]) (b := x) (rest := []) (w := (some (.ref a))) (st' := [.ref a]) kv_X11_butterShare_118 dX11_butterShare_2 rfl rfl (Nat.le_of_ble_eq_true rfl) (Nat.le_of_ble_eq_true rfl) (x_rv mx fx rfl) (Nat.le_of_ble_eq_true rfl) (Nat.le_of_ble_eq_true rfl) (cS) rfl (fun h9 e9 => ?_)
  rw [show h9 = h from e9]
  refine r_astore_n (ls' := [(0, .ref x), (1, .int (iI ((i : Int)))), (2, .ref a)]) dX11_butterShare_5 (by decide) rfl ?_
  refine r_aload_n dX11_butterShare_6 2 rfl ?_
  refine p_callV (As := []) (b := a) (rest := []) (w := (some (.int (iI (hgt l))))) (st' := [.int (iI (hgt l))]) kv_X11_butterShare_141 dX11_butterShare_7 rfl rfl (Nat.le_of_ble_eq_true rfl) (Nat.le_of_ble_eq_true rfl) (x_rv ma fa rfl) rfl rfl (c_X8_totalHeight hS0) rfl (fun h9 e9 => ?_)
  rw [show h9 = h from e9]
  refine r_istore_n (ls' := [(0, .ref x), (1, .int (iI ((i : Int)))), (2, .ref a), (3, .int (iI (hgt l)))]) dX11_butterShare_10 (by decide) rfl ?_
  refine r_iload_n dX11_butterShare_11 3 rfl ?_
  refine i_ifne dX11_butterShare_12 (tgt := 17) (by decide) (by unfold in32; omega) (fun c12 => ?_) (fun c12 => ?_)
  · refine r_aload_n dX11_butterShare_17 2 rfl ?_
    refine p_callV (As := []) (b := a) (rest := []) (w := (some (.int (iI (hBut l))))) (st' := [.int (iI (hBut l))]) kv_X11_butterShare_144 dX11_butterShare_18 rfl rfl (Nat.le_of_ble_eq_true rfl) (Nat.le_of_ble_eq_true rfl) (x_rv ma fa rfl) rfl rfl (c_X8_totalButter hS0) rfl (fun h9 e9 => ?_)
    rw [show h9 = h from e9]
    refine r_i2f dX11_butterShare_21 ?_
    refine r_iload_n dX11_butterShare_22 3 rfl ?_
    refine r_i2f dX11_butterShare_23 ?_
    refine r_fdiv dX11_butterShare_24 (nanF _ _ (by omega) (by omega)) ?_
    refine r_freturn rfl dX11_butterShare_25 ?_
    exact ⟨rfl, rfl⟩
  · exfalso
    omega
set_option maxRecDepth 20000 in
set_option maxHeartbeats 1000000 in
theorem c_X11_foldObstacle_ok {G : xG} {h : xH} {K : xK} {sa : Nat → Nat} (hGC : GC G K sa) (hGT : GT G sa) (hGE : GE G) {x : Nat} {ad : XA} {S : XS} (hX : XB G h K x ad S) (hW : WX S) {z : Int} (hz : in32 z) (hs : hasS S.2.2.1 z = true) {q : Int} (hq : in32 q) (hf : isFac q = true) : CC G MX11_foldObstacle [.ref x, .int (iI z), .int (iI q)] h (fun o' h' => o' = .inl (some (.int (iI (obst (sAt S.2.2.1 z) q)))) ∧ h' = h) := by
  have hX0 := hX
  have hGK := hGC.1
  have hG := gk_D hGK
  obtain ⟨I, ⟨po, to⟩, ⟨so, ca, cb, cc⟩, ⟨o, A, fp⟩, ⟨wo, wA, wfp⟩, ⟨vo, vA, vfp⟩, ⟨yo, yA, yfp⟩, ⟨uo, uA⟩⟩ := ad
  obtain ⟨inp, ⟨cod, off⟩, B, sn, Hs, out⟩ := S
  obtain ⟨mx, fx, hI, hPs, hSs, hB, hDr, hSn, hH, hU, hDJ⟩ := hX
  obtain ⟨hWB, hWh, hWs9, hWi⟩ := hW
  have hWB : WB B := hWB
  have hB : BN G h o A fp B := hB
  have fx : h.2 x = .inr (7, [.ref I, .int (iI (inp.length : Int)), .ref po, .ref so, .ref o, .ref wo, .ref vo, .int (iI (b2 sn.isSome)), .ref yo, .ref uo]) := fx
  obtain ⟨⟨ro, me, fl, ho, ec, bk⟩, Ls⟩ := B
  have hB0 := hB
  obtain ⟨g, bs, F, hBo⟩ := hB
  have hBo0 := hBo
  obtain ⟨⟨mO, mA⟩, fO, fA, hL6, hLF, hK, hD, hfp⟩ := hBo
  have hL6 : Ls.length ≤ 6 := hL6
  have hLF : ∀ i, i < Ls.length → F i = Ls.getD i dS := hLF
  have fO : h.2 o = .inr (0, [.ref A, .int (iI (Ls.length : Int)), .int (iI ro), .int (iI me), .int (iI fl), .int (iI ho), .int (iI ec), .int (iI bk)]) := fO
  have nOA : o ≠ A := ne_oi fO fA
  obtain ⟨hWs, hro, hme, hfl, hho⟩ := hWB
  have hro : 0 ≤ ro ∧ ro ≤ 40 := hro
  have hme : 5 ≤ me ∧ me ≤ 35 := hme
  have hfl : 0 ≤ fl ∧ fl ≤ 999 := hfl
  have hho : 0 ≤ ho ∧ ho ≤ 9999 := hho
  have hWs : ∀ s ∈ Ls, WS s := hWs
  obtain ⟨hz0, hz1⟩ := hasS_t hs
  have hz1 : z < (Ls.length : Int) := hz1
  obtain ⟨i, rfl⟩ : ∃ i : Nat, z = (i : Int) := ⟨z.toNat, by omega⟩
  clear hs
  have hi : i < Ls.length := (by omega)
  have hi6 : i < 6 := by omega
  obtain ⟨a, t, b, hbs⟩ : ∃ a t b, bs i = (a, t, b) := ⟨_, _, _, rfl⟩
  have hgi : g i = some a := by rw [(hK i hi6).1, hbs]
  obtain ⟨s, hs⟩ : ∃ s, s = Ls.getD i dS := ⟨_, rfl⟩
  have hS : SH G h a t b s := by have z := (hK i hi6).2; rw [hbs, hLF i hi, ← hs] at z; exact z
  have hW : WS s := by rw [hs]; exact hWs _ (getD_memS hi)
  obtain ⟨l, ex, wa, fo, du, se, co⟩ := s
  have hS0 := hS
  obtain ⟨gt, gb, ⟨ma, mt, mb⟩, ⟨nta, nba, ntb⟩, fa, ft, fb, hl, hr⟩ := hS
  have hl : l.length ≤ 200 := hl
  have hr : sr gt gb l := hr
  have fa : h.2 a = .inr (5, [.ref t, .ref b, .int (iI (l.length : Int)), .int (iI ex), .int fo, .int (iI wa), .int (iI (b2 du)), .int (iI (b2 se)), .int (iI (b2 co))]) := fa
  have hW0 := hW
  obtain ⟨h1, hnz, h4, hw0, hw1⟩ := hW
  have h1 : 1 ≤ l.length := h1
  have h4 : hgt l ≤ 4000 := h4
  have hw0 : 0 ≤ wa := hw0
  have hw1 : wa ≤ 40 := hw1
  have hnz : ∀ x ∈ l, x ≠ 0 := hnz
  have hg0 := hgt_nn l
  have hgl := hgt_ge l hnz
  have noa : o ≠ a := ne_oo fO fa (by decide)
  have not : o ≠ t := ne_oi fO ft
  have nob : o ≠ b := ne_oi fO fb
  have nAa : A ≠ a := (ne_oi fa fA).symm
  have nAt : A ≠ t := ne_sz fA ft (by decide)
  have nAb : A ≠ b := ne_sz fA fb (by decide)
  have hs2 : sAt ((ro, me, fl, ho, ec, bk), Ls) (i : Int) = (l, ex, wa, fo, du, se, co) := hs.symm
  have cS := c_X11_sheetAt_ok (h := h) hGC hGE mx fx hBo0 (i := i) hi
  rw [hbs] at cS
  have hq2 := fac_t hf
  rw [hs2]
  show RR G MX11_foldObstacle 0 [(0, .ref x), (1, .int (iI ((i : Int)))), (2, .int (iI q))] [] h (xm_R MX11_foldObstacle).cells (xm_R MX11_foldObstacle).slots (fun o' h' => o' = .inl (some (.int (iI (obst (l, ex, wa, fo, du, se, co) q)))) ∧ h' = h)
  refine r_aload_n dX11_foldObstacle_0 0 rfl ?_
  refine r_iload_n dX11_foldObstacle_1 1 rfl ?_
  refine k_callV (As := [.int (iI ((i : Int)))]) (b := x) (rest := []) (w := (some (.ref a))) (st' := [.ref a]) kv_X11_foldObstacle_118 dX11_foldObstacle_2 rfl rfl (Nat.le_of_ble_eq_true rfl) (Nat.le_of_ble_eq_true rfl) (x_rv mx fx rfl) (Nat.le_of_ble_eq_true rfl) (Nat.le_of_ble_eq_true rfl) (cS) rfl (fun h9 e9 => ?_)
  rw [show h9 = h from e9]
  refine r_astore_n (ls' := [(0, .ref x), (1, .int (iI ((i : Int)))), (2, .int (iI q)), (3, .ref a)]) dX11_foldObstacle_5 (by decide) rfl ?_
  refine r_iload_n dX11_foldObstacle_6 2 rfl ?_
  refine k_callS (As := [.int (iI q)]) (rest := []) (w := none) (st' := []) kv_X11_foldObstacle_178 dX11_foldObstacle_7 rfl rfl (Nat.le_of_ble_eq_true rfl) (Nat.le_of_ble_eq_true rfl) (Nat.le_of_ble_eq_true rfl) (Nat.le_of_ble_eq_true rfl) (c_X11_requireFactor_ok hGC hGE hq hf) rfl (fun h9 e9 => ?_)
  rw [show h9 = h from e9]
  refine r_aload_n dX11_foldObstacle_10 3 rfl ?_
  refine r_iload_n dX11_foldObstacle_11 2 rfl ?_
  refine p_callV (As := [.int (iI q)]) (b := a) (rest := []) (w := (some (.int (iI (obst (l, ex, wa, fo, du, se, co) q))))) (st' := [.int (iI (obst (l, ex, wa, fo, du, se, co) q))]) kv_X11_foldObstacle_181 dX11_foldObstacle_12 rfl rfl (Nat.le_of_ble_eq_true rfl) (Nat.le_of_ble_eq_true rfl) (x_rv ma fa rfl) rfl rfl (c_X8_findFoldObstacle hS0 hW0 hG hq2) rfl (fun h9 e9 => ?_)
  rw [show h9 = h from e9]
  refine r_ireturn rfl rfl dX11_foldObstacle_15 ?_
  exact ⟨rfl, rfl⟩
set_option maxRecDepth 20000 in
set_option maxHeartbeats 1000000 in
theorem c_X11_foldsPossible_ok {G : xG} {h : xH} {K : xK} {sa : Nat → Nat} (hGC : GC G K sa) (hGT : GT G sa) (hGE : GE G) {x : Nat} {ad : XA} {S : XS} (hX : XB G h K x ad S) (hW : WX S) {z : Int} (hz : in32 z) (hs : hasS S.2.2.1 z = true) {q : Int} (hq : in32 q) (hf : isFac q = true) : CC G MX11_foldsPossible [.ref x, .int (iI z), .int (iI q)] h (fun o' h' => o' = .inl (some (.int (iI (fps (sAt S.2.2.1 z) q)))) ∧ h' = h) := by
  have hX0 := hX
  have hGK := hGC.1
  have hG := gk_D hGK
  obtain ⟨I, ⟨po, to⟩, ⟨so, ca, cb, cc⟩, ⟨o, A, fp⟩, ⟨wo, wA, wfp⟩, ⟨vo, vA, vfp⟩, ⟨yo, yA, yfp⟩, ⟨uo, uA⟩⟩ := ad
  obtain ⟨inp, ⟨cod, off⟩, B, sn, Hs, out⟩ := S
  obtain ⟨mx, fx, hI, hPs, hSs, hB, hDr, hSn, hH, hU, hDJ⟩ := hX
  obtain ⟨hWB, hWh, hWs9, hWi⟩ := hW
  have hWB : WB B := hWB
  have hB : BN G h o A fp B := hB
  have fx : h.2 x = .inr (7, [.ref I, .int (iI (inp.length : Int)), .ref po, .ref so, .ref o, .ref wo, .ref vo, .int (iI (b2 sn.isSome)), .ref yo, .ref uo]) := fx
  obtain ⟨⟨ro, me, fl, ho, ec, bk⟩, Ls⟩ := B
  have hB0 := hB
  obtain ⟨g, bs, F, hBo⟩ := hB
  have hBo0 := hBo
  obtain ⟨⟨mO, mA⟩, fO, fA, hL6, hLF, hK, hD, hfp⟩ := hBo
  have hL6 : Ls.length ≤ 6 := hL6
  have hLF : ∀ i, i < Ls.length → F i = Ls.getD i dS := hLF
  have fO : h.2 o = .inr (0, [.ref A, .int (iI (Ls.length : Int)), .int (iI ro), .int (iI me), .int (iI fl), .int (iI ho), .int (iI ec), .int (iI bk)]) := fO
  have nOA : o ≠ A := ne_oi fO fA
  obtain ⟨hWs, hro, hme, hfl, hho⟩ := hWB
  have hro : 0 ≤ ro ∧ ro ≤ 40 := hro
  have hme : 5 ≤ me ∧ me ≤ 35 := hme
  have hfl : 0 ≤ fl ∧ fl ≤ 999 := hfl
  have hho : 0 ≤ ho ∧ ho ≤ 9999 := hho
  have hWs : ∀ s ∈ Ls, WS s := hWs
  obtain ⟨hz0, hz1⟩ := hasS_t hs
  have hz1 : z < (Ls.length : Int) := hz1
  obtain ⟨i, rfl⟩ : ∃ i : Nat, z = (i : Int) := ⟨z.toNat, by omega⟩
  clear hs
  have hi : i < Ls.length := (by omega)
  have hi6 : i < 6 := by omega
  obtain ⟨a, t, b, hbs⟩ : ∃ a t b, bs i = (a, t, b) := ⟨_, _, _, rfl⟩
  have hgi : g i = some a := by rw [(hK i hi6).1, hbs]
  obtain ⟨s, hs⟩ : ∃ s, s = Ls.getD i dS := ⟨_, rfl⟩
  have hS : SH G h a t b s := by have z := (hK i hi6).2; rw [hbs, hLF i hi, ← hs] at z; exact z
  have hW : WS s := by rw [hs]; exact hWs _ (getD_memS hi)
  obtain ⟨l, ex, wa, fo, du, se, co⟩ := s
  have hS0 := hS
  obtain ⟨gt, gb, ⟨ma, mt, mb⟩, ⟨nta, nba, ntb⟩, fa, ft, fb, hl, hr⟩ := hS
  have hl : l.length ≤ 200 := hl
  have hr : sr gt gb l := hr
  have fa : h.2 a = .inr (5, [.ref t, .ref b, .int (iI (l.length : Int)), .int (iI ex), .int fo, .int (iI wa), .int (iI (b2 du)), .int (iI (b2 se)), .int (iI (b2 co))]) := fa
  have hW0 := hW
  obtain ⟨h1, hnz, h4, hw0, hw1⟩ := hW
  have h1 : 1 ≤ l.length := h1
  have h4 : hgt l ≤ 4000 := h4
  have hw0 : 0 ≤ wa := hw0
  have hw1 : wa ≤ 40 := hw1
  have hnz : ∀ x ∈ l, x ≠ 0 := hnz
  have hg0 := hgt_nn l
  have hgl := hgt_ge l hnz
  have noa : o ≠ a := ne_oo fO fa (by decide)
  have not : o ≠ t := ne_oi fO ft
  have nob : o ≠ b := ne_oi fO fb
  have nAa : A ≠ a := (ne_oi fa fA).symm
  have nAt : A ≠ t := ne_sz fA ft (by decide)
  have nAb : A ≠ b := ne_sz fA fb (by decide)
  have hs2 : sAt ((ro, me, fl, ho, ec, bk), Ls) (i : Int) = (l, ex, wa, fo, du, se, co) := hs.symm
  have cS := c_X11_sheetAt_ok (h := h) hGC hGE mx fx hBo0 (i := i) hi
  rw [hbs] at cS
  have hq2 := fac_t hf
  rw [hs2]
  show RR G MX11_foldsPossible 0 [(0, .ref x), (1, .int (iI ((i : Int)))), (2, .int (iI q))] [] h (xm_R MX11_foldsPossible).cells (xm_R MX11_foldsPossible).slots (fun o' h' => o' = .inl (some (.int (iI (fps (l, ex, wa, fo, du, se, co) q)))) ∧ h' = h)
  refine r_aload_n dX11_foldsPossible_0 0 rfl ?_
  refine r_iload_n dX11_foldsPossible_1 1 rfl ?_
  refine k_callV (As := [.int (iI ((i : Int)))]) (b := x) (rest := []) (w := (some (.ref a))) (st' := [.ref a]) kv_X11_foldsPossible_118 dX11_foldsPossible_2 rfl rfl (Nat.le_of_ble_eq_true rfl) (Nat.le_of_ble_eq_true rfl) (x_rv mx fx rfl) (Nat.le_of_ble_eq_true rfl) (Nat.le_of_ble_eq_true rfl) (cS) rfl (fun h9 e9 => ?_)
  rw [show h9 = h from e9]
  refine r_astore_n (ls' := [(0, .ref x), (1, .int (iI ((i : Int)))), (2, .int (iI q)), (3, .ref a)]) dX11_foldsPossible_5 (by decide) rfl ?_
  refine r_iload_n dX11_foldsPossible_6 2 rfl ?_
  refine k_callS (As := [.int (iI q)]) (rest := []) (w := none) (st' := []) kv_X11_foldsPossible_178 dX11_foldsPossible_7 rfl rfl (Nat.le_of_ble_eq_true rfl) (Nat.le_of_ble_eq_true rfl) (Nat.le_of_ble_eq_true rfl) (Nat.le_of_ble_eq_true rfl) (c_X11_requireFactor_ok hGC hGE hq hf) rfl (fun h9 e9 => ?_)
  rw [show h9 = h from e9]
  refine r_aload_n dX11_foldsPossible_10 3 rfl ?_
  refine r_iload_n dX11_foldsPossible_11 2 rfl ?_
  refine p_callV (As := [.int (iI q)]) (b := a) (rest := []) (w := (some (.int (iI (fps (l, ex, wa, fo, du, se, co) q))))) (st' := [.int (iI (fps (l, ex, wa, fo, du, se, co) q))]) kv_X11_foldsPossible_189 dX11_foldsPossible_12 rfl rfl (Nat.le_of_ble_eq_true rfl) (Nat.le_of_ble_eq_true rfl) (x_rv ma fa rfl) rfl rfl (c_X8_countPossibleFolds hS0 hW0 hG hq2) rfl (fun h9 e9 => ?_)
  rw [show h9 = h from e9]
  refine r_ireturn rfl rfl dX11_foldsPossible_15 ?_
  exact ⟨rfl, rfl⟩
set_option maxRecDepth 20000 in
set_option maxHeartbeats 1000000 in
theorem c_X11_layersAtRisk_ok {G : xG} {h : xH} {K : xK} {sa : Nat → Nat} (hGC : GC G K sa) (hGT : GT G sa) (hGE : GE G) {x : Nat} {ad : XA} {S : XS} (hX : XB G h K x ad S) (hW : WX S) {z : Int} (hz : in32 z) (hs : hasS S.2.2.1 z = true) {q : Int} (hq : in32 q) (hf : isFac q = true) : CC G MX11_layersAtRisk [.ref x, .int (iI z), .int (iI q)] h (fun o' h' => o' = .inl (some (.int (iI (sumF (brF q (loss (sAt S.2.2.1 z) S.2.2.1.1.2.1)) (sAt S.2.2.1 z).1)))) ∧ h' = h) := by
  have hX0 := hX
  have hGK := hGC.1
  have hG := gk_D hGK
  obtain ⟨I, ⟨po, to⟩, ⟨so, ca, cb, cc⟩, ⟨o, A, fp⟩, ⟨wo, wA, wfp⟩, ⟨vo, vA, vfp⟩, ⟨yo, yA, yfp⟩, ⟨uo, uA⟩⟩ := ad
  obtain ⟨inp, ⟨cod, off⟩, B, sn, Hs, out⟩ := S
  obtain ⟨mx, fx, hI, hPs, hSs, hB, hDr, hSn, hH, hU, hDJ⟩ := hX
  obtain ⟨hWB, hWh, hWs9, hWi⟩ := hW
  have hWB : WB B := hWB
  have hB : BN G h o A fp B := hB
  have fx : h.2 x = .inr (7, [.ref I, .int (iI (inp.length : Int)), .ref po, .ref so, .ref o, .ref wo, .ref vo, .int (iI (b2 sn.isSome)), .ref yo, .ref uo]) := fx
  obtain ⟨⟨ro, me, fl, ho, ec, bk⟩, Ls⟩ := B
  have hB0 := hB
  obtain ⟨g, bs, F, hBo⟩ := hB
  have hBo0 := hBo
  obtain ⟨⟨mO, mA⟩, fO, fA, hL6, hLF, hK, hD, hfp⟩ := hBo
  have hL6 : Ls.length ≤ 6 := hL6
  have hLF : ∀ i, i < Ls.length → F i = Ls.getD i dS := hLF
  have fO : h.2 o = .inr (0, [.ref A, .int (iI (Ls.length : Int)), .int (iI ro), .int (iI me), .int (iI fl), .int (iI ho), .int (iI ec), .int (iI bk)]) := fO
  have nOA : o ≠ A := ne_oi fO fA
  obtain ⟨hWs, hro, hme, hfl, hho⟩ := hWB
  have hro : 0 ≤ ro ∧ ro ≤ 40 := hro
  have hme : 5 ≤ me ∧ me ≤ 35 := hme
  have hfl : 0 ≤ fl ∧ fl ≤ 999 := hfl
  have hho : 0 ≤ ho ∧ ho ≤ 9999 := hho
  have hWs : ∀ s ∈ Ls, WS s := hWs
  obtain ⟨hz0, hz1⟩ := hasS_t hs
  have hz1 : z < (Ls.length : Int) := hz1
  obtain ⟨i, rfl⟩ : ∃ i : Nat, z = (i : Int) := ⟨z.toNat, by omega⟩
  clear hs
  have hi : i < Ls.length := (by omega)
  have hi6 : i < 6 := by omega
  obtain ⟨a, t, b, hbs⟩ : ∃ a t b, bs i = (a, t, b) := ⟨_, _, _, rfl⟩
  have hgi : g i = some a := by rw [(hK i hi6).1, hbs]
  obtain ⟨s, hs⟩ : ∃ s, s = Ls.getD i dS := ⟨_, rfl⟩
  have hS : SH G h a t b s := by have z := (hK i hi6).2; rw [hbs, hLF i hi, ← hs] at z; exact z
  have hW : WS s := by rw [hs]; exact hWs _ (getD_memS hi)
  obtain ⟨l, ex, wa, fo, du, se, co⟩ := s
  have hS0 := hS
  obtain ⟨gt, gb, ⟨ma, mt, mb⟩, ⟨nta, nba, ntb⟩, fa, ft, fb, hl, hr⟩ := hS
  have hl : l.length ≤ 200 := hl
  have hr : sr gt gb l := hr
  have fa : h.2 a = .inr (5, [.ref t, .ref b, .int (iI (l.length : Int)), .int (iI ex), .int fo, .int (iI wa), .int (iI (b2 du)), .int (iI (b2 se)), .int (iI (b2 co))]) := fa
  have hW0 := hW
  obtain ⟨h1, hnz, h4, hw0, hw1⟩ := hW
  have h1 : 1 ≤ l.length := h1
  have h4 : hgt l ≤ 4000 := h4
  have hw0 : 0 ≤ wa := hw0
  have hw1 : wa ≤ 40 := hw1
  have hnz : ∀ x ∈ l, x ≠ 0 := hnz
  have hg0 := hgt_nn l
  have hgl := hgt_ge l hnz
  have noa : o ≠ a := ne_oo fO fa (by decide)
  have not : o ≠ t := ne_oi fO ft
  have nob : o ≠ b := ne_oi fO fb
  have nAa : A ≠ a := (ne_oi fa fA).symm
  have nAt : A ≠ t := ne_sz fA ft (by decide)
  have nAb : A ≠ b := ne_sz fA fb (by decide)
  have hs2 : sAt ((ro, me, fl, ho, ec, bk), Ls) (i : Int) = (l, ex, wa, fo, du, se, co) := hs.symm
  have cS := c_X11_sheetAt_ok (h := h) hGC hGE mx fx hBo0 (i := i) hi
  rw [hbs] at cS
  have hq2 := fac_t hf
  rw [hs2]
  show RR G MX11_layersAtRisk 0 [(0, .ref x), (1, .int (iI ((i : Int)))), (2, .int (iI q))] [] h (xm_R MX11_layersAtRisk).cells (xm_R MX11_layersAtRisk).slots (fun o' h' => o' = .inl (some (.int (iI (sumF (brF q (loss (l, ex, wa, fo, du, se, co) me)) l)))) ∧ h' = h)
  refine r_aload_n dX11_layersAtRisk_0 0 rfl ?_
  refine r_iload_n dX11_layersAtRisk_1 1 rfl ?_
  refine k_callV (As := [.int (iI ((i : Int)))]) (b := x) (rest := []) (w := (some (.ref a))) (st' := [.ref a]) kv_X11_layersAtRisk_118 dX11_layersAtRisk_2 rfl rfl (Nat.le_of_ble_eq_true rfl) (Nat.le_of_ble_eq_true rfl) (x_rv mx fx rfl) (Nat.le_of_ble_eq_true rfl) (Nat.le_of_ble_eq_true rfl) (cS) rfl (fun h9 e9 => ?_)
  rw [show h9 = h from e9]
  refine r_astore_n (ls' := [(0, .ref x), (1, .int (iI ((i : Int)))), (2, .int (iI q)), (3, .ref a)]) dX11_layersAtRisk_5 (by decide) rfl ?_
  refine r_iload_n dX11_layersAtRisk_6 2 rfl ?_
  refine k_callS (As := [.int (iI q)]) (rest := []) (w := none) (st' := []) kv_X11_layersAtRisk_178 dX11_layersAtRisk_7 rfl rfl (Nat.le_of_ble_eq_true rfl) (Nat.le_of_ble_eq_true rfl) (Nat.le_of_ble_eq_true rfl) (Nat.le_of_ble_eq_true rfl) (c_X11_requireFactor_ok hGC hGE hq hf) rfl (fun h9 e9 => ?_)
  rw [show h9 = h from e9]
  refine r_aload_n dX11_layersAtRisk_10 3 rfl ?_
  refine r_iload_n dX11_layersAtRisk_11 2 rfl ?_
  refine r_aload_n dX11_layersAtRisk_12 0 rfl ?_
  refine r_get cl_X11 4 (by decide) kf_X11_33 dX11_layersAtRisk_13 mx fx rfl ?_
  refine r_get cl_X1 3 (by decide) kf_X11_96 dX11_layersAtRisk_16 mO fO rfl ?_
  refine p_callV (As := [.int (iI q), .int (iI me)]) (b := a) (rest := []) (w := (some (.int (iI (sumF (brF q (loss (l, ex, wa, fo, du, se, co) me)) l))))) (st' := [.int (iI (sumF (brF q (loss (l, ex, wa, fo, du, se, co) me)) l))]) kv_X11_layersAtRisk_195 dX11_layersAtRisk_19 rfl rfl (Nat.le_of_ble_eq_true rfl) (Nat.le_of_ble_eq_true rfl) (x_rv ma fa rfl) rfl rfl (c_X8_countBreaking hS0 hW0 (m := me) (by omega) hq2) rfl (fun h9 e9 => ?_)
  rw [show h9 = h from e9]
  refine r_ireturn rfl rfl dX11_layersAtRisk_22 ?_
  exact ⟨rfl, rfl⟩
set_option maxRecDepth 20000 in
set_option maxHeartbeats 1000000 in
theorem c_X11_heightAfterRoll_ok {G : xG} {h : xH} {K : xK} {sa : Nat → Nat} (hGC : GC G K sa) (hGT : GT G sa) (hGE : GE G) {x : Nat} {ad : XA} {S : XS} (hX : XB G h K x ad S) (hW : WX S) {z : Int} (hz : in32 z) (hs : hasS S.2.2.1 z = true) {q : Int} (hq : in32 q) (hf : isFac q = true) : CC G MX11_heightAfterRoll [.ref x, .int (iI z), .int (iI q)] h (fun o' h' => o' = .inl (some (.int (iI (sumF (rt q (loss (sAt S.2.2.1 z) S.2.2.1.1.2.1)) (sAt S.2.2.1 z).1)))) ∧ h' = h) := by
  have hX0 := hX
  have hGK := hGC.1
  have hG := gk_D hGK
  obtain ⟨I, ⟨po, to⟩, ⟨so, ca, cb, cc⟩, ⟨o, A, fp⟩, ⟨wo, wA, wfp⟩, ⟨vo, vA, vfp⟩, ⟨yo, yA, yfp⟩, ⟨uo, uA⟩⟩ := ad
  obtain ⟨inp, ⟨cod, off⟩, B, sn, Hs, out⟩ := S
  obtain ⟨mx, fx, hI, hPs, hSs, hB, hDr, hSn, hH, hU, hDJ⟩ := hX
  obtain ⟨hWB, hWh, hWs9, hWi⟩ := hW
  have hWB : WB B := hWB
  have hB : BN G h o A fp B := hB
  have fx : h.2 x = .inr (7, [.ref I, .int (iI (inp.length : Int)), .ref po, .ref so, .ref o, .ref wo, .ref vo, .int (iI (b2 sn.isSome)), .ref yo, .ref uo]) := fx
  obtain ⟨⟨ro, me, fl, ho, ec, bk⟩, Ls⟩ := B
  have hB0 := hB
  obtain ⟨g, bs, F, hBo⟩ := hB
  have hBo0 := hBo
  obtain ⟨⟨mO, mA⟩, fO, fA, hL6, hLF, hK, hD, hfp⟩ := hBo
  have hL6 : Ls.length ≤ 6 := hL6
  have hLF : ∀ i, i < Ls.length → F i = Ls.getD i dS := hLF
  have fO : h.2 o = .inr (0, [.ref A, .int (iI (Ls.length : Int)), .int (iI ro), .int (iI me), .int (iI fl), .int (iI ho), .int (iI ec), .int (iI bk)]) := fO
  have nOA : o ≠ A := ne_oi fO fA
  obtain ⟨hWs, hro, hme, hfl, hho⟩ := hWB
  have hro : 0 ≤ ro ∧ ro ≤ 40 := hro
  have hme : 5 ≤ me ∧ me ≤ 35 := hme
  have hfl : 0 ≤ fl ∧ fl ≤ 999 := hfl
  have hho : 0 ≤ ho ∧ ho ≤ 9999 := hho
  have hWs : ∀ s ∈ Ls, WS s := hWs
  obtain ⟨hz0, hz1⟩ := hasS_t hs
  have hz1 : z < (Ls.length : Int) := hz1
  obtain ⟨i, rfl⟩ : ∃ i : Nat, z = (i : Int) := ⟨z.toNat, by omega⟩
  clear hs
  have hi : i < Ls.length := (by omega)
  have hi6 : i < 6 := by omega
  obtain ⟨a, t, b, hbs⟩ : ∃ a t b, bs i = (a, t, b) := ⟨_, _, _, rfl⟩
  have hgi : g i = some a := by rw [(hK i hi6).1, hbs]
  obtain ⟨s, hs⟩ : ∃ s, s = Ls.getD i dS := ⟨_, rfl⟩
  have hS : SH G h a t b s := by have z := (hK i hi6).2; rw [hbs, hLF i hi, ← hs] at z; exact z
  have hW : WS s := by rw [hs]; exact hWs _ (getD_memS hi)
  obtain ⟨l, ex, wa, fo, du, se, co⟩ := s
  have hS0 := hS
  obtain ⟨gt, gb, ⟨ma, mt, mb⟩, ⟨nta, nba, ntb⟩, fa, ft, fb, hl, hr⟩ := hS
  have hl : l.length ≤ 200 := hl
  have hr : sr gt gb l := hr
  have fa : h.2 a = .inr (5, [.ref t, .ref b, .int (iI (l.length : Int)), .int (iI ex), .int fo, .int (iI wa), .int (iI (b2 du)), .int (iI (b2 se)), .int (iI (b2 co))]) := fa
  have hW0 := hW
  obtain ⟨h1, hnz, h4, hw0, hw1⟩ := hW
  have h1 : 1 ≤ l.length := h1
  have h4 : hgt l ≤ 4000 := h4
  have hw0 : 0 ≤ wa := hw0
  have hw1 : wa ≤ 40 := hw1
  have hnz : ∀ x ∈ l, x ≠ 0 := hnz
  have hg0 := hgt_nn l
  have hgl := hgt_ge l hnz
  have noa : o ≠ a := ne_oo fO fa (by decide)
  have not : o ≠ t := ne_oi fO ft
  have nob : o ≠ b := ne_oi fO fb
  have nAa : A ≠ a := (ne_oi fa fA).symm
  have nAt : A ≠ t := ne_sz fA ft (by decide)
  have nAb : A ≠ b := ne_sz fA fb (by decide)
  have hs2 : sAt ((ro, me, fl, ho, ec, bk), Ls) (i : Int) = (l, ex, wa, fo, du, se, co) := hs.symm
  have cS := c_X11_sheetAt_ok (h := h) hGC hGE mx fx hBo0 (i := i) hi
  rw [hbs] at cS
  have hq2 := fac_t hf
  rw [hs2]
  show RR G MX11_heightAfterRoll 0 [(0, .ref x), (1, .int (iI ((i : Int)))), (2, .int (iI q))] [] h (xm_R MX11_heightAfterRoll).cells (xm_R MX11_heightAfterRoll).slots (fun o' h' => o' = .inl (some (.int (iI (sumF (rt q (loss (l, ex, wa, fo, du, se, co) me)) l)))) ∧ h' = h)
  refine r_aload_n dX11_heightAfterRoll_0 0 rfl ?_
  refine r_iload_n dX11_heightAfterRoll_1 1 rfl ?_
  refine k_callV (As := [.int (iI ((i : Int)))]) (b := x) (rest := []) (w := (some (.ref a))) (st' := [.ref a]) kv_X11_heightAfterRoll_118 dX11_heightAfterRoll_2 rfl rfl (Nat.le_of_ble_eq_true rfl) (Nat.le_of_ble_eq_true rfl) (x_rv mx fx rfl) (Nat.le_of_ble_eq_true rfl) (Nat.le_of_ble_eq_true rfl) (cS) rfl (fun h9 e9 => ?_)
  rw [show h9 = h from e9]
  refine r_astore_n (ls' := [(0, .ref x), (1, .int (iI ((i : Int)))), (2, .int (iI q)), (3, .ref a)]) dX11_heightAfterRoll_5 (by decide) rfl ?_
  refine r_iload_n dX11_heightAfterRoll_6 2 rfl ?_
  refine k_callS (As := [.int (iI q)]) (rest := []) (w := none) (st' := []) kv_X11_heightAfterRoll_178 dX11_heightAfterRoll_7 rfl rfl (Nat.le_of_ble_eq_true rfl) (Nat.le_of_ble_eq_true rfl) (Nat.le_of_ble_eq_true rfl) (Nat.le_of_ble_eq_true rfl) (c_X11_requireFactor_ok hGC hGE hq hf) rfl (fun h9 e9 => ?_)
  rw [show h9 = h from e9]
  refine r_aload_n dX11_heightAfterRoll_10 3 rfl ?_
  refine r_iload_n dX11_heightAfterRoll_11 2 rfl ?_
  refine r_aload_n dX11_heightAfterRoll_12 0 rfl ?_
  refine r_get cl_X11 4 (by decide) kf_X11_33 dX11_heightAfterRoll_13 mx fx rfl ?_
  refine r_get cl_X1 3 (by decide) kf_X11_96 dX11_heightAfterRoll_16 mO fO rfl ?_
  refine p_callV (As := [.int (iI q), .int (iI me)]) (b := a) (rest := []) (w := (some (.int (iI (sumF (rt q (loss (l, ex, wa, fo, du, se, co) me)) l))))) (st' := [.int (iI (sumF (rt q (loss (l, ex, wa, fo, du, se, co) me)) l))]) kv_X11_heightAfterRoll_199 dX11_heightAfterRoll_19 rfl rfl (Nat.le_of_ble_eq_true rfl) (Nat.le_of_ble_eq_true rfl) (x_rv ma fa rfl) rfl rfl (c_X8_sumRolled hS0 hW0 (m := me) (by omega) hq2) rfl (fun h9 e9 => ?_)
  rw [show h9 = h from e9]
  refine r_ireturn rfl rfl dX11_heightAfterRoll_22 ?_
  exact ⟨rfl, rfl⟩
def lafS (s : AS) (q : Int) : Int := if obst s q = 0 then folded (s.1.length : Int) q s.2.2.2.2.1 else -1
set_option maxRecDepth 20000 in
set_option maxHeartbeats 1000000 in
theorem c_X11_layersAfterFold_ok {G : xG} {h : xH} {K : xK} {sa : Nat → Nat} (hGC : GC G K sa) (hGT : GT G sa) (hGE : GE G) {x : Nat} {ad : XA} {S : XS} (hX : XB G h K x ad S) (hW : WX S) {z : Int} (hz : in32 z) (hs : hasS S.2.2.1 z = true) {q : Int} (hq : in32 q) (hf : isFac q = true) : CC G MX11_layersAfterFold [.ref x, .int (iI z), .int (iI q)] h (fun o' h' => o' = .inl (some (.int (iI (lafS (sAt S.2.2.1 z) q)))) ∧ h' = h) := by
  have hX0 := hX
  have hGK := hGC.1
  have hG := gk_D hGK
  obtain ⟨I, ⟨po, to⟩, ⟨so, ca, cb, cc⟩, ⟨o, A, fp⟩, ⟨wo, wA, wfp⟩, ⟨vo, vA, vfp⟩, ⟨yo, yA, yfp⟩, ⟨uo, uA⟩⟩ := ad
  obtain ⟨inp, ⟨cod, off⟩, B, sn, Hs, out⟩ := S
  obtain ⟨mx, fx, hI, hPs, hSs, hB, hDr, hSn, hH, hU, hDJ⟩ := hX
  obtain ⟨hWB, hWh, hWs9, hWi⟩ := hW
  have hWB : WB B := hWB
  have hB : BN G h o A fp B := hB
  have fx : h.2 x = .inr (7, [.ref I, .int (iI (inp.length : Int)), .ref po, .ref so, .ref o, .ref wo, .ref vo, .int (iI (b2 sn.isSome)), .ref yo, .ref uo]) := fx
  obtain ⟨⟨ro, me, fl, ho, ec, bk⟩, Ls⟩ := B
  have hB0 := hB
  obtain ⟨g, bs, F, hBo⟩ := hB
  have hBo0 := hBo
  obtain ⟨⟨mO, mA⟩, fO, fA, hL6, hLF, hK, hD, hfp⟩ := hBo
  have hL6 : Ls.length ≤ 6 := hL6
  have hLF : ∀ i, i < Ls.length → F i = Ls.getD i dS := hLF
  have fO : h.2 o = .inr (0, [.ref A, .int (iI (Ls.length : Int)), .int (iI ro), .int (iI me), .int (iI fl), .int (iI ho), .int (iI ec), .int (iI bk)]) := fO
  have nOA : o ≠ A := ne_oi fO fA
  obtain ⟨hWs, hro, hme, hfl, hho⟩ := hWB
  have hro : 0 ≤ ro ∧ ro ≤ 40 := hro
  have hme : 5 ≤ me ∧ me ≤ 35 := hme
  have hfl : 0 ≤ fl ∧ fl ≤ 999 := hfl
  have hho : 0 ≤ ho ∧ ho ≤ 9999 := hho
  have hWs : ∀ s ∈ Ls, WS s := hWs
  obtain ⟨hz0, hz1⟩ := hasS_t hs
  have hz1 : z < (Ls.length : Int) := hz1
  obtain ⟨i, rfl⟩ : ∃ i : Nat, z = (i : Int) := ⟨z.toNat, by omega⟩
  clear hs
  have hi : i < Ls.length := (by omega)
  have hi6 : i < 6 := by omega
  obtain ⟨a, t, b, hbs⟩ : ∃ a t b, bs i = (a, t, b) := ⟨_, _, _, rfl⟩
  have hgi : g i = some a := by rw [(hK i hi6).1, hbs]
  obtain ⟨s, hs⟩ : ∃ s, s = Ls.getD i dS := ⟨_, rfl⟩
  have hS : SH G h a t b s := by have z := (hK i hi6).2; rw [hbs, hLF i hi, ← hs] at z; exact z
  have hW : WS s := by rw [hs]; exact hWs _ (getD_memS hi)
  obtain ⟨l, ex, wa, fo, du, se, co⟩ := s
  have hS0 := hS
  obtain ⟨gt, gb, ⟨ma, mt, mb⟩, ⟨nta, nba, ntb⟩, fa, ft, fb, hl, hr⟩ := hS
  have hl : l.length ≤ 200 := hl
  have hr : sr gt gb l := hr
  have fa : h.2 a = .inr (5, [.ref t, .ref b, .int (iI (l.length : Int)), .int (iI ex), .int fo, .int (iI wa), .int (iI (b2 du)), .int (iI (b2 se)), .int (iI (b2 co))]) := fa
  have hW0 := hW
  obtain ⟨h1, hnz, h4, hw0, hw1⟩ := hW
  have h1 : 1 ≤ l.length := h1
  have h4 : hgt l ≤ 4000 := h4
  have hw0 : 0 ≤ wa := hw0
  have hw1 : wa ≤ 40 := hw1
  have hnz : ∀ x ∈ l, x ≠ 0 := hnz
  have hg0 := hgt_nn l
  have hgl := hgt_ge l hnz
  have noa : o ≠ a := ne_oo fO fa (by decide)
  have not : o ≠ t := ne_oi fO ft
  have nob : o ≠ b := ne_oi fO fb
  have nAa : A ≠ a := (ne_oi fa fA).symm
  have nAt : A ≠ t := ne_sz fA ft (by decide)
  have nAb : A ≠ b := ne_sz fA fb (by decide)
  have hs2 : sAt ((ro, me, fl, ho, ec, bk), Ls) (i : Int) = (l, ex, wa, fo, du, se, co) := hs.symm
  have cS := c_X11_sheetAt_ok (h := h) hGC hGE mx fx hBo0 (i := i) hi
  rw [hbs] at cS
  have hq2 := fac_t hf
  have hob := obst_b (l, ex, wa, fo, du, se, co) q
  unfold in32 at hob
  rw [hs2]
  show RR G MX11_layersAfterFold 0 [(0, .ref x), (1, .int (iI ((i : Int)))), (2, .int (iI q))] [] h (xm_R MX11_layersAfterFold).cells (xm_R MX11_layersAfterFold).slots (fun o' h' => o' = .inl (some (.int (iI (lafS (l, ex, wa, fo, du, se, co) q)))) ∧ h' = h)
  refine r_aload_n dX11_layersAfterFold_0 0 rfl ?_
  refine r_iload_n dX11_layersAfterFold_1 1 rfl ?_
  refine k_callV (As := [.int (iI ((i : Int)))]) (b := x) (rest := []) (w := (some (.ref a))) (st' := [.ref a]) kv_X11_layersAfterFold_118 dX11_layersAfterFold_2 rfl rfl (Nat.le_of_ble_eq_true rfl) (Nat.le_of_ble_eq_true rfl) (x_rv mx fx rfl) (Nat.le_of_ble_eq_true rfl) (Nat.le_of_ble_eq_true rfl) (cS) rfl (fun h9 e9 => ?_)
  rw [show h9 = h from e9]
  refine r_astore_n (ls' := [(0, .ref x), (1, .int (iI ((i : Int)))), (2, .int (iI q)), (3, .ref a)]) dX11_layersAfterFold_5 (by decide) rfl ?_
  refine r_iload_n dX11_layersAfterFold_6 2 rfl ?_
  refine k_callS (As := [.int (iI q)]) (rest := []) (w := none) (st' := []) kv_X11_layersAfterFold_178 dX11_layersAfterFold_7 rfl rfl (Nat.le_of_ble_eq_true rfl) (Nat.le_of_ble_eq_true rfl) (Nat.le_of_ble_eq_true rfl) (Nat.le_of_ble_eq_true rfl) (c_X11_requireFactor_ok hGC hGE hq hf) rfl (fun h9 e9 => ?_)
  rw [show h9 = h from e9]
  refine r_aload_n dX11_layersAfterFold_10 3 rfl ?_
  refine r_iload_n dX11_layersAfterFold_11 2 rfl ?_
  refine p_callV (As := [.int (iI q)]) (b := a) (rest := []) (w := (some (.int (iI (obst (l, ex, wa, fo, du, se, co) q))))) (st' := [.int (iI (obst (l, ex, wa, fo, du, se, co) q))]) kv_X11_layersAfterFold_181 dX11_layersAfterFold_12 rfl rfl (Nat.le_of_ble_eq_true rfl) (Nat.le_of_ble_eq_true rfl) (x_rv ma fa rfl) rfl rfl (c_X8_findFoldObstacle hS0 hW0 hG hq2) rfl (fun h9 e9 => ?_)
  rw [show h9 = h from e9]
  refine i_ifeq dX11_layersAfterFold_15 (tgt := 20) (by decide) (by unfold in32; omega) (fun c15 => ?_) (fun c15 => ?_)
  · refine r_aload_n dX11_layersAfterFold_20 3 rfl ?_
    refine r_get cl_X8 2 (by decide) kf_X11_122 dX11_layersAfterFold_21 ma fa rfl ?_
    refine r_iload_n dX11_layersAfterFold_24 2 rfl ?_
    refine r_aload_n dX11_layersAfterFold_25 3 rfl ?_
    refine r_get cl_X8 6 (by decide) kf_X11_163 dX11_layersAfterFold_26 ma fa rfl ?_
    refine p_callS (As := [.int (iI ((l.length : Int))), .int (iI q), .int (iI (b2 du))]) (rest := []) (w := (some (.int (iI (folded (l.length : Int) q du))))) (st' := [.int (iI (folded (l.length : Int) q du))]) kv_X11_layersAfterFold_185 dX11_layersAfterFold_29 rfl rfl (Nat.le_of_ble_eq_true rfl) (Nat.le_of_ble_eq_true rfl) rfl rfl (c_X11_layersFolded) rfl (fun h9 e9 => ?_)
    rw [show h9 = h from e9]
    refine r_ireturn rfl rfl dX11_layersAfterFold_32 ?_
    have e : lafS (l, ex, wa, fo, du, se, co) q = folded (l.length : Int) q du := by unfold lafS; rw [if_pos c15]
    rw [e]
    exact ⟨rfl, rfl⟩
  · refine i_const (-1) dX11_layersAfterFold_18 ?_
    refine r_ireturn rfl rfl dX11_layersAfterFold_19 ?_
    have e : lafS (l, ex, wa, fo, du, se, co) q = (-1) := by unfold lafS; rw [if_neg c15]
    rw [e]
    exact ⟨rfl, rfl⟩
set_option maxRecDepth 20000 in
set_option maxHeartbeats 1000000 in
theorem c_X11_isButter_ok {G : xG} {h : xH} {K : xK} {sa : Nat → Nat} (hGC : GC G K sa) (hGT : GT G sa) (hGE : GE G) {x : Nat} {ad : XA} {S : XS} (hX : XB G h K x ad S) (hW : WX S) {z : Int} (hz : in32 z) (hs : hasS S.2.2.1 z = true) {q : Int} (hq : in32 q) (hf : 0 ≤ q ∧ q < ((sAt S.2.2.1 z).1.length : Int)) : CC G MX11_isButter [.ref x, .int (iI z), .int (iI q)] h (fun o' h' => o' = .inl (some (.int (iI (b2 (isB ((sAt S.2.2.1 z).1.getD q.toNat 0)))))) ∧ h' = h) := by
  have hX0 := hX
  have hGK := hGC.1
  have hG := gk_D hGK
  obtain ⟨I, ⟨po, to⟩, ⟨so, ca, cb, cc⟩, ⟨o, A, fp⟩, ⟨wo, wA, wfp⟩, ⟨vo, vA, vfp⟩, ⟨yo, yA, yfp⟩, ⟨uo, uA⟩⟩ := ad
  obtain ⟨inp, ⟨cod, off⟩, B, sn, Hs, out⟩ := S
  obtain ⟨mx, fx, hI, hPs, hSs, hB, hDr, hSn, hH, hU, hDJ⟩ := hX
  obtain ⟨hWB, hWh, hWs9, hWi⟩ := hW
  have hWB : WB B := hWB
  have hB : BN G h o A fp B := hB
  have fx : h.2 x = .inr (7, [.ref I, .int (iI (inp.length : Int)), .ref po, .ref so, .ref o, .ref wo, .ref vo, .int (iI (b2 sn.isSome)), .ref yo, .ref uo]) := fx
  obtain ⟨⟨ro, me, fl, ho, ec, bk⟩, Ls⟩ := B
  have hB0 := hB
  obtain ⟨g, bs, F, hBo⟩ := hB
  have hBo0 := hBo
  obtain ⟨⟨mO, mA⟩, fO, fA, hL6, hLF, hK, hD, hfp⟩ := hBo
  have hL6 : Ls.length ≤ 6 := hL6
  have hLF : ∀ i, i < Ls.length → F i = Ls.getD i dS := hLF
  have fO : h.2 o = .inr (0, [.ref A, .int (iI (Ls.length : Int)), .int (iI ro), .int (iI me), .int (iI fl), .int (iI ho), .int (iI ec), .int (iI bk)]) := fO
  have nOA : o ≠ A := ne_oi fO fA
  obtain ⟨hWs, hro, hme, hfl, hho⟩ := hWB
  have hro : 0 ≤ ro ∧ ro ≤ 40 := hro
  have hme : 5 ≤ me ∧ me ≤ 35 := hme
  have hfl : 0 ≤ fl ∧ fl ≤ 999 := hfl
  have hho : 0 ≤ ho ∧ ho ≤ 9999 := hho
  have hWs : ∀ s ∈ Ls, WS s := hWs
  obtain ⟨hz0, hz1⟩ := hasS_t hs
  have hz1 : z < (Ls.length : Int) := hz1
  obtain ⟨i, rfl⟩ : ∃ i : Nat, z = (i : Int) := ⟨z.toNat, by omega⟩
  clear hs
  have hi : i < Ls.length := (by omega)
  have hi6 : i < 6 := by omega
  obtain ⟨a, t, b, hbs⟩ : ∃ a t b, bs i = (a, t, b) := ⟨_, _, _, rfl⟩
  have hgi : g i = some a := by rw [(hK i hi6).1, hbs]
  obtain ⟨s, hs⟩ : ∃ s, s = Ls.getD i dS := ⟨_, rfl⟩
  have hS : SH G h a t b s := by have z := (hK i hi6).2; rw [hbs, hLF i hi, ← hs] at z; exact z
  have hW : WS s := by rw [hs]; exact hWs _ (getD_memS hi)
  obtain ⟨l, ex, wa, fo, du, se, co⟩ := s
  have hS0 := hS
  obtain ⟨gt, gb, ⟨ma, mt, mb⟩, ⟨nta, nba, ntb⟩, fa, ft, fb, hl, hr⟩ := hS
  have hl : l.length ≤ 200 := hl
  have hr : sr gt gb l := hr
  have fa : h.2 a = .inr (5, [.ref t, .ref b, .int (iI (l.length : Int)), .int (iI ex), .int fo, .int (iI wa), .int (iI (b2 du)), .int (iI (b2 se)), .int (iI (b2 co))]) := fa
  have hW0 := hW
  obtain ⟨h1, hnz, h4, hw0, hw1⟩ := hW
  have h1 : 1 ≤ l.length := h1
  have h4 : hgt l ≤ 4000 := h4
  have hw0 : 0 ≤ wa := hw0
  have hw1 : wa ≤ 40 := hw1
  have hnz : ∀ x ∈ l, x ≠ 0 := hnz
  have hg0 := hgt_nn l
  have hgl := hgt_ge l hnz
  have noa : o ≠ a := ne_oo fO fa (by decide)
  have not : o ≠ t := ne_oi fO ft
  have nob : o ≠ b := ne_oi fO fb
  have nAa : A ≠ a := (ne_oi fa fA).symm
  have nAt : A ≠ t := ne_sz fA ft (by decide)
  have nAb : A ≠ b := ne_sz fA fb (by decide)
  have hs2 : sAt ((ro, me, fl, ho, ec, bk), Ls) (i : Int) = (l, ex, wa, fo, du, se, co) := hs.symm
  have cS := c_X11_sheetAt_ok (h := h) hGC hGE mx fx hBo0 (i := i) hi
  rw [hbs] at cS
  rw [hs2] at hf
  have hf : 0 ≤ q ∧ q < (l.length : Int) := hf
  rw [hs2]
  show RR G MX11_isButter 0 [(0, .ref x), (1, .int (iI ((i : Int)))), (2, .int (iI q))] [] h (xm_R MX11_isButter).cells (xm_R MX11_isButter).slots (fun o' h' => o' = .inl (some (.int (iI (b2 (isB (l.getD q.toNat 0)))))) ∧ h' = h)
  refine r_aload_n dX11_isButter_0 0 rfl ?_
  refine r_iload_n dX11_isButter_1 1 rfl ?_
  refine k_callV (As := [.int (iI ((i : Int)))]) (b := x) (rest := []) (w := (some (.ref a))) (st' := [.ref a]) kv_X11_isButter_118 dX11_isButter_2 rfl rfl (Nat.le_of_ble_eq_true rfl) (Nat.le_of_ble_eq_true rfl) (x_rv mx fx rfl) (Nat.le_of_ble_eq_true rfl) (Nat.le_of_ble_eq_true rfl) (cS) rfl (fun h9 e9 => ?_)
  rw [show h9 = h from e9]
  refine r_astore_n (ls' := [(0, .ref x), (1, .int (iI ((i : Int)))), (2, .int (iI q)), (3, .ref a)]) dX11_isButter_5 (by decide) rfl ?_
  refine r_aload_n dX11_isButter_6 3 rfl ?_
  refine r_iload_n dX11_isButter_7 2 rfl ?_
  refine k_callS (As := [.ref a, .int (iI q)]) (rest := []) (w := none) (st' := []) kv_X11_isButter_130 dX11_isButter_8 rfl rfl (Nat.le_of_ble_eq_true rfl) (Nat.le_of_ble_eq_true rfl) (Nat.le_of_ble_eq_true rfl) (Nat.le_of_ble_eq_true rfl) (c_X11_requireLayer_ok hGC hGE hS0 hq hf) rfl (fun h9 e9 => ?_)
  rw [show h9 = h from e9]
  refine r_aload_n dX11_isButter_11 3 rfl ?_
  refine r_get cl_X8 1 (by decide) kf_X11_134 dX11_isButter_12 ma fa rfl ?_
  refine r_iload_n dX11_isButter_15 2 rfl ?_
  refine i_zald q.toNat (by omega) dX11_isButter_16 mb fb (by omega) (by decide) (hr q.toNat (by omega)).2 ?_
  refine r_ireturn rfl (b2_nar _) dX11_isButter_17 ?_
  exact ⟨rfl, rfl⟩
set_option maxRecDepth 20000 in
set_option maxHeartbeats 1000000 in
theorem c_X11_thickness_ok {G : xG} {h : xH} {K : xK} {sa : Nat → Nat} (hGC : GC G K sa) (hGT : GT G sa) (hGE : GE G) {x : Nat} {ad : XA} {S : XS} (hX : XB G h K x ad S) (hW : WX S) {z : Int} (hz : in32 z) (hs : hasS S.2.2.1 z = true) {q : Int} (hq : in32 q) (hf : 0 ≤ q ∧ q < ((sAt S.2.2.1 z).1.length : Int)) : CC G MX11_thickness [.ref x, .int (iI z), .int (iI q)] h (fun o' h' => o' = .inl (some (.int (iI (sz ((sAt S.2.2.1 z).1.getD q.toNat 0))))) ∧ h' = h) := by
  have hX0 := hX
  have hGK := hGC.1
  have hG := gk_D hGK
  obtain ⟨I, ⟨po, to⟩, ⟨so, ca, cb, cc⟩, ⟨o, A, fp⟩, ⟨wo, wA, wfp⟩, ⟨vo, vA, vfp⟩, ⟨yo, yA, yfp⟩, ⟨uo, uA⟩⟩ := ad
  obtain ⟨inp, ⟨cod, off⟩, B, sn, Hs, out⟩ := S
  obtain ⟨mx, fx, hI, hPs, hSs, hB, hDr, hSn, hH, hU, hDJ⟩ := hX
  obtain ⟨hWB, hWh, hWs9, hWi⟩ := hW
  have hWB : WB B := hWB
  have hB : BN G h o A fp B := hB
  have fx : h.2 x = .inr (7, [.ref I, .int (iI (inp.length : Int)), .ref po, .ref so, .ref o, .ref wo, .ref vo, .int (iI (b2 sn.isSome)), .ref yo, .ref uo]) := fx
  obtain ⟨⟨ro, me, fl, ho, ec, bk⟩, Ls⟩ := B
  have hB0 := hB
  obtain ⟨g, bs, F, hBo⟩ := hB
  have hBo0 := hBo
  obtain ⟨⟨mO, mA⟩, fO, fA, hL6, hLF, hK, hD, hfp⟩ := hBo
  have hL6 : Ls.length ≤ 6 := hL6
  have hLF : ∀ i, i < Ls.length → F i = Ls.getD i dS := hLF
  have fO : h.2 o = .inr (0, [.ref A, .int (iI (Ls.length : Int)), .int (iI ro), .int (iI me), .int (iI fl), .int (iI ho), .int (iI ec), .int (iI bk)]) := fO
  have nOA : o ≠ A := ne_oi fO fA
  obtain ⟨hWs, hro, hme, hfl, hho⟩ := hWB
  have hro : 0 ≤ ro ∧ ro ≤ 40 := hro
  have hme : 5 ≤ me ∧ me ≤ 35 := hme
  have hfl : 0 ≤ fl ∧ fl ≤ 999 := hfl
  have hho : 0 ≤ ho ∧ ho ≤ 9999 := hho
  have hWs : ∀ s ∈ Ls, WS s := hWs
  obtain ⟨hz0, hz1⟩ := hasS_t hs
  have hz1 : z < (Ls.length : Int) := hz1
  obtain ⟨i, rfl⟩ : ∃ i : Nat, z = (i : Int) := ⟨z.toNat, by omega⟩
  clear hs
  have hi : i < Ls.length := (by omega)
  have hi6 : i < 6 := by omega
  obtain ⟨a, t, b, hbs⟩ : ∃ a t b, bs i = (a, t, b) := ⟨_, _, _, rfl⟩
  have hgi : g i = some a := by rw [(hK i hi6).1, hbs]
  obtain ⟨s, hs⟩ : ∃ s, s = Ls.getD i dS := ⟨_, rfl⟩
  have hS : SH G h a t b s := by have z := (hK i hi6).2; rw [hbs, hLF i hi, ← hs] at z; exact z
  have hW : WS s := by rw [hs]; exact hWs _ (getD_memS hi)
  obtain ⟨l, ex, wa, fo, du, se, co⟩ := s
  have hS0 := hS
  obtain ⟨gt, gb, ⟨ma, mt, mb⟩, ⟨nta, nba, ntb⟩, fa, ft, fb, hl, hr⟩ := hS
  have hl : l.length ≤ 200 := hl
  have hr : sr gt gb l := hr
  have fa : h.2 a = .inr (5, [.ref t, .ref b, .int (iI (l.length : Int)), .int (iI ex), .int fo, .int (iI wa), .int (iI (b2 du)), .int (iI (b2 se)), .int (iI (b2 co))]) := fa
  have hW0 := hW
  obtain ⟨h1, hnz, h4, hw0, hw1⟩ := hW
  have h1 : 1 ≤ l.length := h1
  have h4 : hgt l ≤ 4000 := h4
  have hw0 : 0 ≤ wa := hw0
  have hw1 : wa ≤ 40 := hw1
  have hnz : ∀ x ∈ l, x ≠ 0 := hnz
  have hg0 := hgt_nn l
  have hgl := hgt_ge l hnz
  have noa : o ≠ a := ne_oo fO fa (by decide)
  have not : o ≠ t := ne_oi fO ft
  have nob : o ≠ b := ne_oi fO fb
  have nAa : A ≠ a := (ne_oi fa fA).symm
  have nAt : A ≠ t := ne_sz fA ft (by decide)
  have nAb : A ≠ b := ne_sz fA fb (by decide)
  have hs2 : sAt ((ro, me, fl, ho, ec, bk), Ls) (i : Int) = (l, ex, wa, fo, du, se, co) := hs.symm
  have cS := c_X11_sheetAt_ok (h := h) hGC hGE mx fx hBo0 (i := i) hi
  rw [hbs] at cS
  rw [hs2] at hf
  have hf : 0 ≤ q ∧ q < (l.length : Int) := hf
  rw [hs2]
  show RR G MX11_thickness 0 [(0, .ref x), (1, .int (iI ((i : Int)))), (2, .int (iI q))] [] h (xm_R MX11_thickness).cells (xm_R MX11_thickness).slots (fun o' h' => o' = .inl (some (.int (iI (sz (l.getD q.toNat 0))))) ∧ h' = h)
  refine r_aload_n dX11_thickness_0 0 rfl ?_
  refine r_iload_n dX11_thickness_1 1 rfl ?_
  refine k_callV (As := [.int (iI ((i : Int)))]) (b := x) (rest := []) (w := (some (.ref a))) (st' := [.ref a]) kv_X11_thickness_118 dX11_thickness_2 rfl rfl (Nat.le_of_ble_eq_true rfl) (Nat.le_of_ble_eq_true rfl) (x_rv mx fx rfl) (Nat.le_of_ble_eq_true rfl) (Nat.le_of_ble_eq_true rfl) (cS) rfl (fun h9 e9 => ?_)
  rw [show h9 = h from e9]
  refine r_astore_n (ls' := [(0, .ref x), (1, .int (iI ((i : Int)))), (2, .int (iI q)), (3, .ref a)]) dX11_thickness_5 (by decide) rfl ?_
  refine r_aload_n dX11_thickness_6 3 rfl ?_
  refine r_iload_n dX11_thickness_7 2 rfl ?_
  refine k_callS (As := [.ref a, .int (iI q)]) (rest := []) (w := none) (st' := []) kv_X11_thickness_130 dX11_thickness_8 rfl rfl (Nat.le_of_ble_eq_true rfl) (Nat.le_of_ble_eq_true rfl) (Nat.le_of_ble_eq_true rfl) (Nat.le_of_ble_eq_true rfl) (c_X11_requireLayer_ok hGC hGE hS0 hq hf) rfl (fun h9 e9 => ?_)
  rw [show h9 = h from e9]
  refine r_aload_n dX11_thickness_11 3 rfl ?_
  refine r_get cl_X8 0 (by decide) kf_X11_138 dX11_thickness_12 ma fa rfl ?_
  refine r_iload_n dX11_thickness_15 2 rfl ?_
  refine i_iald q.toNat (by omega) dX11_thickness_16 mt ft (by omega) (by decide) (hr q.toNat (by omega)).1 ?_
  refine r_ireturn rfl rfl dX11_thickness_17 ?_
  exact ⟨rfl, rfl⟩
set_option maxRecDepth 20000 in
set_option maxHeartbeats 1000000 in
theorem c_X11_temperatureAfter_ok {G : xG} {h : xH} {K : xK} {sa : Nat → Nat} (hGC : GC G K sa) (hGT : GT G sa) (hGE : GE G) {x : Nat} {ad : XA} {S : XS} (hX : XB G h K x ad S) (hW : WX S) {z : Int} (hz : in32 z) (hs : hasS S.2.2.1 z = true) {q : Int} (hf : 0 ≤ q ∧ q ≤ 24) : CC G MX11_temperatureAfter [.ref x, .int (iI z), .int (iI q)] h (fun o' h' => o' = .inl (some (.int (iI (warmAt (sAt S.2.2.1 z) S.2.2.1.1.1 q.toNat)))) ∧ h' = h) := by
  have hX0 := hX
  have hGK := hGC.1
  have hG := gk_D hGK
  obtain ⟨I, ⟨po, to⟩, ⟨so, ca, cb, cc⟩, ⟨o, A, fp⟩, ⟨wo, wA, wfp⟩, ⟨vo, vA, vfp⟩, ⟨yo, yA, yfp⟩, ⟨uo, uA⟩⟩ := ad
  obtain ⟨inp, ⟨cod, off⟩, B, sn, Hs, out⟩ := S
  obtain ⟨mx, fx, hI, hPs, hSs, hB, hDr, hSn, hH, hU, hDJ⟩ := hX
  obtain ⟨hWB, hWh, hWs9, hWi⟩ := hW
  have hWB : WB B := hWB
  have hB : BN G h o A fp B := hB
  have fx : h.2 x = .inr (7, [.ref I, .int (iI (inp.length : Int)), .ref po, .ref so, .ref o, .ref wo, .ref vo, .int (iI (b2 sn.isSome)), .ref yo, .ref uo]) := fx
  obtain ⟨⟨ro, me, fl, ho, ec, bk⟩, Ls⟩ := B
  have hB0 := hB
  obtain ⟨g, bs, F, hBo⟩ := hB
  have hBo0 := hBo
  obtain ⟨⟨mO, mA⟩, fO, fA, hL6, hLF, hK, hD, hfp⟩ := hBo
  have hL6 : Ls.length ≤ 6 := hL6
  have hLF : ∀ i, i < Ls.length → F i = Ls.getD i dS := hLF
  have fO : h.2 o = .inr (0, [.ref A, .int (iI (Ls.length : Int)), .int (iI ro), .int (iI me), .int (iI fl), .int (iI ho), .int (iI ec), .int (iI bk)]) := fO
  have nOA : o ≠ A := ne_oi fO fA
  obtain ⟨hWs, hro, hme, hfl, hho⟩ := hWB
  have hro : 0 ≤ ro ∧ ro ≤ 40 := hro
  have hme : 5 ≤ me ∧ me ≤ 35 := hme
  have hfl : 0 ≤ fl ∧ fl ≤ 999 := hfl
  have hho : 0 ≤ ho ∧ ho ≤ 9999 := hho
  have hWs : ∀ s ∈ Ls, WS s := hWs
  obtain ⟨hz0, hz1⟩ := hasS_t hs
  have hz1 : z < (Ls.length : Int) := hz1
  obtain ⟨i, rfl⟩ : ∃ i : Nat, z = (i : Int) := ⟨z.toNat, by omega⟩
  clear hs
  have hi : i < Ls.length := (by omega)
  have hi6 : i < 6 := by omega
  obtain ⟨a, t, b, hbs⟩ : ∃ a t b, bs i = (a, t, b) := ⟨_, _, _, rfl⟩
  have hgi : g i = some a := by rw [(hK i hi6).1, hbs]
  obtain ⟨s, hs⟩ : ∃ s, s = Ls.getD i dS := ⟨_, rfl⟩
  have hS : SH G h a t b s := by have z := (hK i hi6).2; rw [hbs, hLF i hi, ← hs] at z; exact z
  have hW : WS s := by rw [hs]; exact hWs _ (getD_memS hi)
  obtain ⟨l, ex, wa, fo, du, se, co⟩ := s
  have hS0 := hS
  obtain ⟨gt, gb, ⟨ma, mt, mb⟩, ⟨nta, nba, ntb⟩, fa, ft, fb, hl, hr⟩ := hS
  have hl : l.length ≤ 200 := hl
  have hr : sr gt gb l := hr
  have fa : h.2 a = .inr (5, [.ref t, .ref b, .int (iI (l.length : Int)), .int (iI ex), .int fo, .int (iI wa), .int (iI (b2 du)), .int (iI (b2 se)), .int (iI (b2 co))]) := fa
  have hW0 := hW
  obtain ⟨h1, hnz, h4, hw0, hw1⟩ := hW
  have h1 : 1 ≤ l.length := h1
  have h4 : hgt l ≤ 4000 := h4
  have hw0 : 0 ≤ wa := hw0
  have hw1 : wa ≤ 40 := hw1
  have hnz : ∀ x ∈ l, x ≠ 0 := hnz
  have hg0 := hgt_nn l
  have hgl := hgt_ge l hnz
  have noa : o ≠ a := ne_oo fO fa (by decide)
  have not : o ≠ t := ne_oi fO ft
  have nob : o ≠ b := ne_oi fO fb
  have nAa : A ≠ a := (ne_oi fa fA).symm
  have nAt : A ≠ t := ne_sz fA ft (by decide)
  have nAb : A ≠ b := ne_sz fA fb (by decide)
  have hs2 : sAt ((ro, me, fl, ho, ec, bk), Ls) (i : Int) = (l, ex, wa, fo, du, se, co) := hs.symm
  have cS := c_X11_sheetAt_ok (h := h) hGC hGE mx fx hBo0 (i := i) hi
  rw [hbs] at cS
  have cWA := c_X8_warmthAfter (h := h) hS0 hW0 hG (r := ro) hro (n := q.toNat) (by omega)
  rw [show (q.toNat : Int) = q by omega] at cWA
  rw [hs2]
  show RR G MX11_temperatureAfter 0 [(0, .ref x), (1, .int (iI ((i : Int)))), (2, .int (iI q))] [] h (xm_R MX11_temperatureAfter).cells (xm_R MX11_temperatureAfter).slots (fun o' h' => o' = .inl (some (.int (iI (warmAt (l, ex, wa, fo, du, se, co) ro q.toNat)))) ∧ h' = h)
  refine r_aload_n dX11_temperatureAfter_0 0 rfl ?_
  refine r_iload_n dX11_temperatureAfter_1 1 rfl ?_
  refine k_callV (As := [.int (iI ((i : Int)))]) (b := x) (rest := []) (w := (some (.ref a))) (st' := [.ref a]) kv_X11_temperatureAfter_118 dX11_temperatureAfter_2 rfl rfl (Nat.le_of_ble_eq_true rfl) (Nat.le_of_ble_eq_true rfl) (x_rv mx fx rfl) (Nat.le_of_ble_eq_true rfl) (Nat.le_of_ble_eq_true rfl) (cS) rfl (fun h9 e9 => ?_)
  rw [show h9 = h from e9]
  refine r_astore_n (ls' := [(0, .ref x), (1, .int (iI ((i : Int)))), (2, .int (iI q)), (3, .ref a)]) dX11_temperatureAfter_5 (by decide) rfl ?_
  refine r_iload_n dX11_temperatureAfter_6 2 rfl ?_
  refine i_iflt dX11_temperatureAfter_7 (tgt := 16) (by decide) (by unfold in32; omega) (fun c7 => ?_) (fun c7 => ?_)
  · exfalso
    omega
  · refine r_iload_n dX11_temperatureAfter_10 2 rfl ?_
    refine i_bipush (24) (by decide) dX11_temperatureAfter_11 ?_
    refine i_icmple dX11_temperatureAfter_13 (tgt := 26) (by decide) (by unfold in32; omega) ⟨by decide, by decide⟩ (fun c13 => ?_) (fun c13 => ?_)
    · refine r_aload_n dX11_temperatureAfter_26 3 rfl ?_
      refine r_iload_n dX11_temperatureAfter_27 2 rfl ?_
      refine r_aload_n dX11_temperatureAfter_28 0 rfl ?_
      refine r_get cl_X11 4 (by decide) kf_X11_33 dX11_temperatureAfter_29 mx fx rfl ?_
      refine r_get cl_X1 2 (by decide) kf_X11_93 dX11_temperatureAfter_32 mO fO rfl ?_
      refine p_callV (As := [.int (iI q), .int (iI ro)]) (b := a) (rest := []) (w := (some (.int (iI (warmAt (l, ex, wa, fo, du, se, co) ro q.toNat))))) (st' := [.int (iI (warmAt (l, ex, wa, fo, du, se, co) ro q.toNat))]) kv_X11_temperatureAfter_209 dX11_temperatureAfter_35 rfl rfl (Nat.le_of_ble_eq_true rfl) (Nat.le_of_ble_eq_true rfl) (x_rv ma fa rfl) rfl rfl (cWA) rfl (fun h9 e9 => ?_)
      rw [show h9 = h from e9]
      refine r_ireturn rfl rfl dX11_temperatureAfter_38 ?_
      exact ⟨rfl, rfl⟩
    · exfalso
      omega
set_option maxRecDepth 20000 in
set_option maxHeartbeats 1000000 in
theorem c_X11_sheetCount {G : xG} {h : xH} {K : xK} {sa : Nat → Nat} (hGC : GC G K sa) (hGT : GT G sa) (hGE : GE G) {x : Nat} {ad : XA} {S : XS} (hX : XB G h K x ad S) (hW : WX S) : CC G MX11_sheetCount [.ref x] h (fun o' h' => o' = .inl (some (.int (iI (S.2.2.1.2.length : Int)))) ∧ h' = h) := by
  have hX0 := hX
  have hGK := hGC.1
  have hG := gk_D hGK
  obtain ⟨I, ⟨po, to⟩, ⟨so, ca, cb, cc⟩, ⟨o, A, fp⟩, ⟨wo, wA, wfp⟩, ⟨vo, vA, vfp⟩, ⟨yo, yA, yfp⟩, ⟨uo, uA⟩⟩ := ad
  obtain ⟨inp, ⟨cod, off⟩, B, sn, Hs, out⟩ := S
  obtain ⟨mx, fx, hI, hPs, hSs, hB, hDr, hSn, hH, hU, hDJ⟩ := hX
  obtain ⟨hWB, hWh, hWs9, hWi⟩ := hW
  have hWB : WB B := hWB
  have hB : BN G h o A fp B := hB
  have fx : h.2 x = .inr (7, [.ref I, .int (iI (inp.length : Int)), .ref po, .ref so, .ref o, .ref wo, .ref vo, .int (iI (b2 sn.isSome)), .ref yo, .ref uo]) := fx
  have hWB0 := hWB
  obtain ⟨⟨ro, me, fl, ho, ec, bk⟩, Ls⟩ := B
  have hB0 := hB
  obtain ⟨g, bs, F, hBo⟩ := hB
  have hBo0 := hBo
  obtain ⟨⟨mO, mA⟩, fO, fA, hL6, hLF, hK, hD, hfp⟩ := hBo
  have hL6 : Ls.length ≤ 6 := hL6
  have hLF : ∀ i, i < Ls.length → F i = Ls.getD i dS := hLF
  have fO : h.2 o = .inr (0, [.ref A, .int (iI (Ls.length : Int)), .int (iI ro), .int (iI me), .int (iI fl), .int (iI ho), .int (iI ec), .int (iI bk)]) := fO
  have nOA : o ≠ A := ne_oi fO fA
  obtain ⟨hWs, hro, hme, hfl, hho⟩ := hWB
  have hro : 0 ≤ ro ∧ ro ≤ 40 := hro
  have hme : 5 ≤ me ∧ me ≤ 35 := hme
  have hfl : 0 ≤ fl ∧ fl ≤ 999 := hfl
  have hho : 0 ≤ ho ∧ ho ≤ 9999 := hho
  have hWs : ∀ s ∈ Ls, WS s := hWs
  obtain ⟨I0, T0, t0, num, hPs⟩ := hPs
  obtain ⟨yg, ybo, yX, ⟨my, -⟩, fy, -⟩ := id hH
  show RR G MX11_sheetCount 0 [(0, .ref x)] [] h (xm_R MX11_sheetCount).cells (xm_R MX11_sheetCount).slots (fun o' h' => o' = .inl (some (.int (iI (Ls.length : Int)))) ∧ h' = h)
  refine r_aload_n dX11_sheetCount_0 0 rfl ?_
  refine r_get cl_X11 4 (by decide) kf_X11_33 dX11_sheetCount_1 mx fx rfl ?_
  refine r_get cl_X1 1 (by decide) kf_X11_84 dX11_sheetCount_4 mO fO rfl ?_
  refine r_ireturn rfl rfl dX11_sheetCount_7 ?_
  exact ⟨rfl, rfl⟩
set_option maxRecDepth 20000 in
set_option maxHeartbeats 1000000 in
theorem c_X11_meltingPoint {G : xG} {h : xH} {K : xK} {sa : Nat → Nat} (hGC : GC G K sa) (hGT : GT G sa) (hGE : GE G) {x : Nat} {ad : XA} {S : XS} (hX : XB G h K x ad S) (hW : WX S) : CC G MX11_meltingPoint [.ref x] h (fun o' h' => o' = .inl (some (.int (iI S.2.2.1.1.2.1))) ∧ h' = h) := by
  have hX0 := hX
  have hGK := hGC.1
  have hG := gk_D hGK
  obtain ⟨I, ⟨po, to⟩, ⟨so, ca, cb, cc⟩, ⟨o, A, fp⟩, ⟨wo, wA, wfp⟩, ⟨vo, vA, vfp⟩, ⟨yo, yA, yfp⟩, ⟨uo, uA⟩⟩ := ad
  obtain ⟨inp, ⟨cod, off⟩, B, sn, Hs, out⟩ := S
  obtain ⟨mx, fx, hI, hPs, hSs, hB, hDr, hSn, hH, hU, hDJ⟩ := hX
  obtain ⟨hWB, hWh, hWs9, hWi⟩ := hW
  have hWB : WB B := hWB
  have hB : BN G h o A fp B := hB
  have fx : h.2 x = .inr (7, [.ref I, .int (iI (inp.length : Int)), .ref po, .ref so, .ref o, .ref wo, .ref vo, .int (iI (b2 sn.isSome)), .ref yo, .ref uo]) := fx
  have hWB0 := hWB
  obtain ⟨⟨ro, me, fl, ho, ec, bk⟩, Ls⟩ := B
  have hB0 := hB
  obtain ⟨g, bs, F, hBo⟩ := hB
  have hBo0 := hBo
  obtain ⟨⟨mO, mA⟩, fO, fA, hL6, hLF, hK, hD, hfp⟩ := hBo
  have hL6 : Ls.length ≤ 6 := hL6
  have hLF : ∀ i, i < Ls.length → F i = Ls.getD i dS := hLF
  have fO : h.2 o = .inr (0, [.ref A, .int (iI (Ls.length : Int)), .int (iI ro), .int (iI me), .int (iI fl), .int (iI ho), .int (iI ec), .int (iI bk)]) := fO
  have nOA : o ≠ A := ne_oi fO fA
  obtain ⟨hWs, hro, hme, hfl, hho⟩ := hWB
  have hro : 0 ≤ ro ∧ ro ≤ 40 := hro
  have hme : 5 ≤ me ∧ me ≤ 35 := hme
  have hfl : 0 ≤ fl ∧ fl ≤ 999 := hfl
  have hho : 0 ≤ ho ∧ ho ≤ 9999 := hho
  have hWs : ∀ s ∈ Ls, WS s := hWs
  obtain ⟨I0, T0, t0, num, hPs⟩ := hPs
  obtain ⟨yg, ybo, yX, ⟨my, -⟩, fy, -⟩ := id hH
  show RR G MX11_meltingPoint 0 [(0, .ref x)] [] h (xm_R MX11_meltingPoint).cells (xm_R MX11_meltingPoint).slots (fun o' h' => o' = .inl (some (.int (iI me))) ∧ h' = h)
  refine r_aload_n dX11_meltingPoint_0 0 rfl ?_
  refine r_get cl_X11 4 (by decide) kf_X11_33 dX11_meltingPoint_1 mx fx rfl ?_
  refine r_get cl_X1 3 (by decide) kf_X11_96 dX11_meltingPoint_4 mO fO rfl ?_
  refine r_ireturn rfl rfl dX11_meltingPoint_7 ?_
  exact ⟨rfl, rfl⟩
set_option maxRecDepth 20000 in
set_option maxHeartbeats 1000000 in
theorem c_X11_flour {G : xG} {h : xH} {K : xK} {sa : Nat → Nat} (hGC : GC G K sa) (hGT : GT G sa) (hGE : GE G) {x : Nat} {ad : XA} {S : XS} (hX : XB G h K x ad S) (hW : WX S) : CC G MX11_flour [.ref x] h (fun o' h' => o' = .inl (some (.int (iI S.2.2.1.1.2.2.1))) ∧ h' = h) := by
  have hX0 := hX
  have hGK := hGC.1
  have hG := gk_D hGK
  obtain ⟨I, ⟨po, to⟩, ⟨so, ca, cb, cc⟩, ⟨o, A, fp⟩, ⟨wo, wA, wfp⟩, ⟨vo, vA, vfp⟩, ⟨yo, yA, yfp⟩, ⟨uo, uA⟩⟩ := ad
  obtain ⟨inp, ⟨cod, off⟩, B, sn, Hs, out⟩ := S
  obtain ⟨mx, fx, hI, hPs, hSs, hB, hDr, hSn, hH, hU, hDJ⟩ := hX
  obtain ⟨hWB, hWh, hWs9, hWi⟩ := hW
  have hWB : WB B := hWB
  have hB : BN G h o A fp B := hB
  have fx : h.2 x = .inr (7, [.ref I, .int (iI (inp.length : Int)), .ref po, .ref so, .ref o, .ref wo, .ref vo, .int (iI (b2 sn.isSome)), .ref yo, .ref uo]) := fx
  have hWB0 := hWB
  obtain ⟨⟨ro, me, fl, ho, ec, bk⟩, Ls⟩ := B
  have hB0 := hB
  obtain ⟨g, bs, F, hBo⟩ := hB
  have hBo0 := hBo
  obtain ⟨⟨mO, mA⟩, fO, fA, hL6, hLF, hK, hD, hfp⟩ := hBo
  have hL6 : Ls.length ≤ 6 := hL6
  have hLF : ∀ i, i < Ls.length → F i = Ls.getD i dS := hLF
  have fO : h.2 o = .inr (0, [.ref A, .int (iI (Ls.length : Int)), .int (iI ro), .int (iI me), .int (iI fl), .int (iI ho), .int (iI ec), .int (iI bk)]) := fO
  have nOA : o ≠ A := ne_oi fO fA
  obtain ⟨hWs, hro, hme, hfl, hho⟩ := hWB
  have hro : 0 ≤ ro ∧ ro ≤ 40 := hro
  have hme : 5 ≤ me ∧ me ≤ 35 := hme
  have hfl : 0 ≤ fl ∧ fl ≤ 999 := hfl
  have hho : 0 ≤ ho ∧ ho ≤ 9999 := hho
  have hWs : ∀ s ∈ Ls, WS s := hWs
  obtain ⟨I0, T0, t0, num, hPs⟩ := hPs
  obtain ⟨yg, ybo, yX, ⟨my, -⟩, fy, -⟩ := id hH
  show RR G MX11_flour 0 [(0, .ref x)] [] h (xm_R MX11_flour).cells (xm_R MX11_flour).slots (fun o' h' => o' = .inl (some (.int (iI fl))) ∧ h' = h)
  refine r_aload_n dX11_flour_0 0 rfl ?_
  refine r_get cl_X11 4 (by decide) kf_X11_33 dX11_flour_1 mx fx rfl ?_
  refine r_get cl_X1 4 (by decide) kf_X11_99 dX11_flour_4 mO fO rfl ?_
  refine r_ireturn rfl rfl dX11_flour_7 ?_
  exact ⟨rfl, rfl⟩
set_option maxRecDepth 20000 in
set_option maxHeartbeats 1000000 in
theorem c_X11_hoursPassed {G : xG} {h : xH} {K : xK} {sa : Nat → Nat} (hGC : GC G K sa) (hGT : GT G sa) (hGE : GE G) {x : Nat} {ad : XA} {S : XS} (hX : XB G h K x ad S) (hW : WX S) : CC G MX11_hoursPassed [.ref x] h (fun o' h' => o' = .inl (some (.int (iI S.2.2.1.1.2.2.2.1))) ∧ h' = h) := by
  have hX0 := hX
  have hGK := hGC.1
  have hG := gk_D hGK
  obtain ⟨I, ⟨po, to⟩, ⟨so, ca, cb, cc⟩, ⟨o, A, fp⟩, ⟨wo, wA, wfp⟩, ⟨vo, vA, vfp⟩, ⟨yo, yA, yfp⟩, ⟨uo, uA⟩⟩ := ad
  obtain ⟨inp, ⟨cod, off⟩, B, sn, Hs, out⟩ := S
  obtain ⟨mx, fx, hI, hPs, hSs, hB, hDr, hSn, hH, hU, hDJ⟩ := hX
  obtain ⟨hWB, hWh, hWs9, hWi⟩ := hW
  have hWB : WB B := hWB
  have hB : BN G h o A fp B := hB
  have fx : h.2 x = .inr (7, [.ref I, .int (iI (inp.length : Int)), .ref po, .ref so, .ref o, .ref wo, .ref vo, .int (iI (b2 sn.isSome)), .ref yo, .ref uo]) := fx
  have hWB0 := hWB
  obtain ⟨⟨ro, me, fl, ho, ec, bk⟩, Ls⟩ := B
  have hB0 := hB
  obtain ⟨g, bs, F, hBo⟩ := hB
  have hBo0 := hBo
  obtain ⟨⟨mO, mA⟩, fO, fA, hL6, hLF, hK, hD, hfp⟩ := hBo
  have hL6 : Ls.length ≤ 6 := hL6
  have hLF : ∀ i, i < Ls.length → F i = Ls.getD i dS := hLF
  have fO : h.2 o = .inr (0, [.ref A, .int (iI (Ls.length : Int)), .int (iI ro), .int (iI me), .int (iI fl), .int (iI ho), .int (iI ec), .int (iI bk)]) := fO
  have nOA : o ≠ A := ne_oi fO fA
  obtain ⟨hWs, hro, hme, hfl, hho⟩ := hWB
  have hro : 0 ≤ ro ∧ ro ≤ 40 := hro
  have hme : 5 ≤ me ∧ me ≤ 35 := hme
  have hfl : 0 ≤ fl ∧ fl ≤ 999 := hfl
  have hho : 0 ≤ ho ∧ ho ≤ 9999 := hho
  have hWs : ∀ s ∈ Ls, WS s := hWs
  obtain ⟨I0, T0, t0, num, hPs⟩ := hPs
  obtain ⟨yg, ybo, yX, ⟨my, -⟩, fy, -⟩ := id hH
  show RR G MX11_hoursPassed 0 [(0, .ref x)] [] h (xm_R MX11_hoursPassed).cells (xm_R MX11_hoursPassed).slots (fun o' h' => o' = .inl (some (.int (iI ho))) ∧ h' = h)
  refine r_aload_n dX11_hoursPassed_0 0 rfl ?_
  refine r_get cl_X11 4 (by decide) kf_X11_33 dX11_hoursPassed_1 mx fx rfl ?_
  refine r_get cl_X1 5 (by decide) kf_X11_102 dX11_hoursPassed_4 mO fO rfl ?_
  refine r_ireturn rfl rfl dX11_hoursPassed_7 ?_
  exact ⟨rfl, rfl⟩
set_option maxRecDepth 20000 in
set_option maxHeartbeats 1000000 in
theorem c_X11_escapedButter {G : xG} {h : xH} {K : xK} {sa : Nat → Nat} (hGC : GC G K sa) (hGT : GT G sa) (hGE : GE G) {x : Nat} {ad : XA} {S : XS} (hX : XB G h K x ad S) (hW : WX S) : CC G MX11_escapedButter [.ref x] h (fun o' h' => o' = .inl (some (.int (iI S.2.2.1.1.2.2.2.2.1))) ∧ h' = h) := by
  have hX0 := hX
  have hGK := hGC.1
  have hG := gk_D hGK
  obtain ⟨I, ⟨po, to⟩, ⟨so, ca, cb, cc⟩, ⟨o, A, fp⟩, ⟨wo, wA, wfp⟩, ⟨vo, vA, vfp⟩, ⟨yo, yA, yfp⟩, ⟨uo, uA⟩⟩ := ad
  obtain ⟨inp, ⟨cod, off⟩, B, sn, Hs, out⟩ := S
  obtain ⟨mx, fx, hI, hPs, hSs, hB, hDr, hSn, hH, hU, hDJ⟩ := hX
  obtain ⟨hWB, hWh, hWs9, hWi⟩ := hW
  have hWB : WB B := hWB
  have hB : BN G h o A fp B := hB
  have fx : h.2 x = .inr (7, [.ref I, .int (iI (inp.length : Int)), .ref po, .ref so, .ref o, .ref wo, .ref vo, .int (iI (b2 sn.isSome)), .ref yo, .ref uo]) := fx
  have hWB0 := hWB
  obtain ⟨⟨ro, me, fl, ho, ec, bk⟩, Ls⟩ := B
  have hB0 := hB
  obtain ⟨g, bs, F, hBo⟩ := hB
  have hBo0 := hBo
  obtain ⟨⟨mO, mA⟩, fO, fA, hL6, hLF, hK, hD, hfp⟩ := hBo
  have hL6 : Ls.length ≤ 6 := hL6
  have hLF : ∀ i, i < Ls.length → F i = Ls.getD i dS := hLF
  have fO : h.2 o = .inr (0, [.ref A, .int (iI (Ls.length : Int)), .int (iI ro), .int (iI me), .int (iI fl), .int (iI ho), .int (iI ec), .int (iI bk)]) := fO
  have nOA : o ≠ A := ne_oi fO fA
  obtain ⟨hWs, hro, hme, hfl, hho⟩ := hWB
  have hro : 0 ≤ ro ∧ ro ≤ 40 := hro
  have hme : 5 ≤ me ∧ me ≤ 35 := hme
  have hfl : 0 ≤ fl ∧ fl ≤ 999 := hfl
  have hho : 0 ≤ ho ∧ ho ≤ 9999 := hho
  have hWs : ∀ s ∈ Ls, WS s := hWs
  obtain ⟨I0, T0, t0, num, hPs⟩ := hPs
  obtain ⟨yg, ybo, yX, ⟨my, -⟩, fy, -⟩ := id hH
  show RR G MX11_escapedButter 0 [(0, .ref x)] [] h (xm_R MX11_escapedButter).cells (xm_R MX11_escapedButter).slots (fun o' h' => o' = .inl (some (.int (iI ec))) ∧ h' = h)
  refine r_aload_n dX11_escapedButter_0 0 rfl ?_
  refine r_get cl_X11 4 (by decide) kf_X11_33 dX11_escapedButter_1 mx fx rfl ?_
  refine r_get cl_X1 6 (by decide) kf_X11_105 dX11_escapedButter_4 mO fO rfl ?_
  refine r_ireturn rfl rfl dX11_escapedButter_7 ?_
  exact ⟨rfl, rfl⟩
set_option maxRecDepth 20000 in
set_option maxHeartbeats 1000000 in
theorem c_X11_brokenLayers {G : xG} {h : xH} {K : xK} {sa : Nat → Nat} (hGC : GC G K sa) (hGT : GT G sa) (hGE : GE G) {x : Nat} {ad : XA} {S : XS} (hX : XB G h K x ad S) (hW : WX S) : CC G MX11_brokenLayers [.ref x] h (fun o' h' => o' = .inl (some (.int (iI S.2.2.1.1.2.2.2.2.2))) ∧ h' = h) := by
  have hX0 := hX
  have hGK := hGC.1
  have hG := gk_D hGK
  obtain ⟨I, ⟨po, to⟩, ⟨so, ca, cb, cc⟩, ⟨o, A, fp⟩, ⟨wo, wA, wfp⟩, ⟨vo, vA, vfp⟩, ⟨yo, yA, yfp⟩, ⟨uo, uA⟩⟩ := ad
  obtain ⟨inp, ⟨cod, off⟩, B, sn, Hs, out⟩ := S
  obtain ⟨mx, fx, hI, hPs, hSs, hB, hDr, hSn, hH, hU, hDJ⟩ := hX
  obtain ⟨hWB, hWh, hWs9, hWi⟩ := hW
  have hWB : WB B := hWB
  have hB : BN G h o A fp B := hB
  have fx : h.2 x = .inr (7, [.ref I, .int (iI (inp.length : Int)), .ref po, .ref so, .ref o, .ref wo, .ref vo, .int (iI (b2 sn.isSome)), .ref yo, .ref uo]) := fx
  have hWB0 := hWB
  obtain ⟨⟨ro, me, fl, ho, ec, bk⟩, Ls⟩ := B
  have hB0 := hB
  obtain ⟨g, bs, F, hBo⟩ := hB
  have hBo0 := hBo
  obtain ⟨⟨mO, mA⟩, fO, fA, hL6, hLF, hK, hD, hfp⟩ := hBo
  have hL6 : Ls.length ≤ 6 := hL6
  have hLF : ∀ i, i < Ls.length → F i = Ls.getD i dS := hLF
  have fO : h.2 o = .inr (0, [.ref A, .int (iI (Ls.length : Int)), .int (iI ro), .int (iI me), .int (iI fl), .int (iI ho), .int (iI ec), .int (iI bk)]) := fO
  have nOA : o ≠ A := ne_oi fO fA
  obtain ⟨hWs, hro, hme, hfl, hho⟩ := hWB
  have hro : 0 ≤ ro ∧ ro ≤ 40 := hro
  have hme : 5 ≤ me ∧ me ≤ 35 := hme
  have hfl : 0 ≤ fl ∧ fl ≤ 999 := hfl
  have hho : 0 ≤ ho ∧ ho ≤ 9999 := hho
  have hWs : ∀ s ∈ Ls, WS s := hWs
  obtain ⟨I0, T0, t0, num, hPs⟩ := hPs
  obtain ⟨yg, ybo, yX, ⟨my, -⟩, fy, -⟩ := id hH
  show RR G MX11_brokenLayers 0 [(0, .ref x)] [] h (xm_R MX11_brokenLayers).cells (xm_R MX11_brokenLayers).slots (fun o' h' => o' = .inl (some (.int (iI bk))) ∧ h' = h)
  refine r_aload_n dX11_brokenLayers_0 0 rfl ?_
  refine r_get cl_X11 4 (by decide) kf_X11_33 dX11_brokenLayers_1 mx fx rfl ?_
  refine r_get cl_X1 7 (by decide) kf_X11_108 dX11_brokenLayers_4 mO fO rfl ?_
  refine r_ireturn rfl rfl dX11_brokenLayers_7 ?_
  exact ⟨rfl, rfl⟩
set_option maxRecDepth 20000 in
set_option maxHeartbeats 1000000 in
theorem c_X11_warmestSheet {G : xG} {h : xH} {K : xK} {sa : Nat → Nat} (hGC : GC G K sa) (hGT : GT G sa) (hGE : GE G) {x : Nat} {ad : XA} {S : XS} (hX : XB G h K x ad S) (hW : WX S) : CC G MX11_warmestSheet [.ref x] h (fun o' h' => o' = .inl (some (.int (iI (grt dgS S.2.2.1.2)))) ∧ h' = h) := by
  have hX0 := hX
  have hGK := hGC.1
  have hG := gk_D hGK
  obtain ⟨I, ⟨po, to⟩, ⟨so, ca, cb, cc⟩, ⟨o, A, fp⟩, ⟨wo, wA, wfp⟩, ⟨vo, vA, vfp⟩, ⟨yo, yA, yfp⟩, ⟨uo, uA⟩⟩ := ad
  obtain ⟨inp, ⟨cod, off⟩, B, sn, Hs, out⟩ := S
  obtain ⟨mx, fx, hI, hPs, hSs, hB, hDr, hSn, hH, hU, hDJ⟩ := hX
  obtain ⟨hWB, hWh, hWs9, hWi⟩ := hW
  have hWB : WB B := hWB
  have hB : BN G h o A fp B := hB
  have fx : h.2 x = .inr (7, [.ref I, .int (iI (inp.length : Int)), .ref po, .ref so, .ref o, .ref wo, .ref vo, .int (iI (b2 sn.isSome)), .ref yo, .ref uo]) := fx
  have hWB0 := hWB
  obtain ⟨⟨ro, me, fl, ho, ec, bk⟩, Ls⟩ := B
  have hB0 := hB
  obtain ⟨g, bs, F, hBo⟩ := hB
  have hBo0 := hBo
  obtain ⟨⟨mO, mA⟩, fO, fA, hL6, hLF, hK, hD, hfp⟩ := hBo
  have hL6 : Ls.length ≤ 6 := hL6
  have hLF : ∀ i, i < Ls.length → F i = Ls.getD i dS := hLF
  have fO : h.2 o = .inr (0, [.ref A, .int (iI (Ls.length : Int)), .int (iI ro), .int (iI me), .int (iI fl), .int (iI ho), .int (iI ec), .int (iI bk)]) := fO
  have nOA : o ≠ A := ne_oi fO fA
  obtain ⟨hWs, hro, hme, hfl, hho⟩ := hWB
  have hro : 0 ≤ ro ∧ ro ≤ 40 := hro
  have hme : 5 ≤ me ∧ me ≤ 35 := hme
  have hfl : 0 ≤ fl ∧ fl ≤ 999 := hfl
  have hho : 0 ≤ ho ∧ ho ≤ 9999 := hho
  have hWs : ∀ s ∈ Ls, WS s := hWs
  obtain ⟨I0, T0, t0, num, hPs⟩ := hPs
  obtain ⟨yg, ybo, yX, ⟨my, -⟩, fy, -⟩ := id hH
  show RR G MX11_warmestSheet 0 [(0, .ref x)] [] h (xm_R MX11_warmestSheet).cells (xm_R MX11_warmestSheet).slots (fun o' h' => o' = .inl (some (.int (iI (grt dgS Ls)))) ∧ h' = h)
  refine r_aload_n dX11_warmestSheet_0 0 rfl ?_
  refine r_get cl_X11 4 (by decide) kf_X11_33 dX11_warmestSheet_1 mx fx rfl ?_
  refine p_callV (As := []) (b := o) (rest := []) (w := (some (.int (iI (grt dgS Ls))))) (st' := [.int (iI (grt dgS Ls))]) kv_X11_warmestSheet_111 dX11_warmestSheet_4 rfl rfl (Nat.le_of_ble_eq_true rfl) (Nat.le_of_ble_eq_true rfl) (x_rv mO fO rfl) rfl rfl (c_X1_findWarmest hB0 hWB0) rfl (fun h9 e9 => ?_)
  rw [show h9 = h from e9]
  refine r_ireturn rfl rfl dX11_warmestSheet_7 ?_
  exact ⟨rfl, rfl⟩
set_option maxRecDepth 20000 in
set_option maxHeartbeats 1000000 in
theorem c_X11_finestSheet {G : xG} {h : xH} {K : xK} {sa : Nat → Nat} (hGC : GC G K sa) (hGT : GT G sa) (hGE : GE G) {x : Nat} {ad : XA} {S : XS} (hX : XB G h K x ad S) (hW : WX S) : CC G MX11_finestSheet [.ref x] h (fun o' h' => o' = .inl (some (.int (iI (grt lnS S.2.2.1.2)))) ∧ h' = h) := by
  have hX0 := hX
  have hGK := hGC.1
  have hG := gk_D hGK
  obtain ⟨I, ⟨po, to⟩, ⟨so, ca, cb, cc⟩, ⟨o, A, fp⟩, ⟨wo, wA, wfp⟩, ⟨vo, vA, vfp⟩, ⟨yo, yA, yfp⟩, ⟨uo, uA⟩⟩ := ad
  obtain ⟨inp, ⟨cod, off⟩, B, sn, Hs, out⟩ := S
  obtain ⟨mx, fx, hI, hPs, hSs, hB, hDr, hSn, hH, hU, hDJ⟩ := hX
  obtain ⟨hWB, hWh, hWs9, hWi⟩ := hW
  have hWB : WB B := hWB
  have hB : BN G h o A fp B := hB
  have fx : h.2 x = .inr (7, [.ref I, .int (iI (inp.length : Int)), .ref po, .ref so, .ref o, .ref wo, .ref vo, .int (iI (b2 sn.isSome)), .ref yo, .ref uo]) := fx
  have hWB0 := hWB
  obtain ⟨⟨ro, me, fl, ho, ec, bk⟩, Ls⟩ := B
  have hB0 := hB
  obtain ⟨g, bs, F, hBo⟩ := hB
  have hBo0 := hBo
  obtain ⟨⟨mO, mA⟩, fO, fA, hL6, hLF, hK, hD, hfp⟩ := hBo
  have hL6 : Ls.length ≤ 6 := hL6
  have hLF : ∀ i, i < Ls.length → F i = Ls.getD i dS := hLF
  have fO : h.2 o = .inr (0, [.ref A, .int (iI (Ls.length : Int)), .int (iI ro), .int (iI me), .int (iI fl), .int (iI ho), .int (iI ec), .int (iI bk)]) := fO
  have nOA : o ≠ A := ne_oi fO fA
  obtain ⟨hWs, hro, hme, hfl, hho⟩ := hWB
  have hro : 0 ≤ ro ∧ ro ≤ 40 := hro
  have hme : 5 ≤ me ∧ me ≤ 35 := hme
  have hfl : 0 ≤ fl ∧ fl ≤ 999 := hfl
  have hho : 0 ≤ ho ∧ ho ≤ 9999 := hho
  have hWs : ∀ s ∈ Ls, WS s := hWs
  obtain ⟨I0, T0, t0, num, hPs⟩ := hPs
  obtain ⟨yg, ybo, yX, ⟨my, -⟩, fy, -⟩ := id hH
  show RR G MX11_finestSheet 0 [(0, .ref x)] [] h (xm_R MX11_finestSheet).cells (xm_R MX11_finestSheet).slots (fun o' h' => o' = .inl (some (.int (iI (grt lnS Ls)))) ∧ h' = h)
  refine r_aload_n dX11_finestSheet_0 0 rfl ?_
  refine r_get cl_X11 4 (by decide) kf_X11_33 dX11_finestSheet_1 mx fx rfl ?_
  refine p_callV (As := []) (b := o) (rest := []) (w := (some (.int (iI (grt lnS Ls))))) (st' := [.int (iI (grt lnS Ls))]) kv_X11_finestSheet_115 dX11_finestSheet_4 rfl rfl (Nat.le_of_ble_eq_true rfl) (Nat.le_of_ble_eq_true rfl) (x_rv mO fO rfl) rfl rfl (c_X1_findFinest hB0 hWB0) rfl (fun h9 e9 => ?_)
  rw [show h9 = h from e9]
  refine r_ireturn rfl rfl dX11_finestSheet_7 ?_
  exact ⟨rfl, rfl⟩
set_option maxRecDepth 20000 in
set_option maxHeartbeats 1000000 in
theorem c_X11_undoableCount {G : xG} {h : xH} {K : xK} {sa : Nat → Nat} (hGC : GC G K sa) (hGT : GT G sa) (hGE : GE G) {x : Nat} {ad : XA} {S : XS} (hX : XB G h K x ad S) (hW : WX S) : CC G MX11_undoableCount [.ref x] h (fun o' h' => o' = .inl (some (.int (iI (S.2.2.2.2.1.length : Int)))) ∧ h' = h) := by
  have hX0 := hX
  have hGK := hGC.1
  have hG := gk_D hGK
  obtain ⟨I, ⟨po, to⟩, ⟨so, ca, cb, cc⟩, ⟨o, A, fp⟩, ⟨wo, wA, wfp⟩, ⟨vo, vA, vfp⟩, ⟨yo, yA, yfp⟩, ⟨uo, uA⟩⟩ := ad
  obtain ⟨inp, ⟨cod, off⟩, B, sn, Hs, out⟩ := S
  obtain ⟨mx, fx, hI, hPs, hSs, hB, hDr, hSn, hH, hU, hDJ⟩ := hX
  obtain ⟨hWB, hWh, hWs9, hWi⟩ := hW
  have hWB : WB B := hWB
  have hB : BN G h o A fp B := hB
  have fx : h.2 x = .inr (7, [.ref I, .int (iI (inp.length : Int)), .ref po, .ref so, .ref o, .ref wo, .ref vo, .int (iI (b2 sn.isSome)), .ref yo, .ref uo]) := fx
  have hWB0 := hWB
  obtain ⟨⟨ro, me, fl, ho, ec, bk⟩, Ls⟩ := B
  have hB0 := hB
  obtain ⟨g, bs, F, hBo⟩ := hB
  have hBo0 := hBo
  obtain ⟨⟨mO, mA⟩, fO, fA, hL6, hLF, hK, hD, hfp⟩ := hBo
  have hL6 : Ls.length ≤ 6 := hL6
  have hLF : ∀ i, i < Ls.length → F i = Ls.getD i dS := hLF
  have fO : h.2 o = .inr (0, [.ref A, .int (iI (Ls.length : Int)), .int (iI ro), .int (iI me), .int (iI fl), .int (iI ho), .int (iI ec), .int (iI bk)]) := fO
  have nOA : o ≠ A := ne_oi fO fA
  obtain ⟨hWs, hro, hme, hfl, hho⟩ := hWB
  have hro : 0 ≤ ro ∧ ro ≤ 40 := hro
  have hme : 5 ≤ me ∧ me ≤ 35 := hme
  have hfl : 0 ≤ fl ∧ fl ≤ 999 := hfl
  have hho : 0 ≤ ho ∧ ho ≤ 9999 := hho
  have hWs : ∀ s ∈ Ls, WS s := hWs
  obtain ⟨I0, T0, t0, num, hPs⟩ := hPs
  obtain ⟨yg, ybo, yX, ⟨my, -⟩, fy, -⟩ := id hH
  show RR G MX11_undoableCount 0 [(0, .ref x)] [] h (xm_R MX11_undoableCount).cells (xm_R MX11_undoableCount).slots (fun o' h' => o' = .inl (some (.int (iI (Hs.length : Int)))) ∧ h' = h)
  refine r_aload_n dX11_undoableCount_0 0 rfl ?_
  refine r_get cl_X11 8 (by decide) kf_X11_47 dX11_undoableCount_1 mx fx rfl ?_
  refine r_get cl_X3 1 (by decide) kf_X11_313 dX11_undoableCount_4 my fy rfl ?_
  refine r_ireturn rfl rfl dX11_undoableCount_7 ?_
  exact ⟨rfl, rfl⟩
