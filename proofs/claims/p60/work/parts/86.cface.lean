/-! ===== constructors: the class itself ===== -/
theorem djl_mk {L : List (List Nat)} (H : Nat → List Nat) (hs : ∀ i, i < 9 → ∀ q ∈ H i, q ∈ H (i + 1)) (hm : ∀ i, i < 9 → ∀ q ∈ L.getD i [], q ∈ H (i + 1)) (hn : ∀ i, i < 9 → ∀ q ∈ L.getD i [], q ∉ H i) : DJL L := by
  have mono : ∀ d i, i + d ≤ 9 → ∀ q ∈ H i, q ∈ H (i + d) := by
    intro d
    induction d with
    | zero => intro i _ q hq; exact hq
    | succ d ih => intro i hi q hq; exact hs (i + d) (by omega) q (ih i (by omega) q hq)
  have lt : ∀ i j, i < j → j < 9 → ∀ q ∈ L.getD i [], q ∉ L.getD j [] := by
    intro i j h1 h2 q hq hz
    have := mono (j - (i + 1)) (i + 1) (by omega) q (hm i (by omega) q hq)
    rw [show i + 1 + (j - (i + 1)) = j by omega] at this
    exact hn j h2 q hz this
  intro i j hi hj e q hq hz
  rcases Nat.lt_or_gt_of_ne e with c | c
  · exact lt i j c hj q hq hz
  · exact lt j i c hi q hz hq
def S00 : XS := ([], (0, -1), B00, none, [], [])
theorem mem1 {q x : Nat} (h : q ∈ [x]) : q = x := List.mem_singleton.mp h
theorem mem2 {q x y : Nat} (h : q ∈ [x, y]) : q = x ∨ q = y := by simpa using h
theorem mem4 {q x y z w : Nat} (h : q ∈ [x, y, z, w]) : q = x ∨ q = y ∨ q = z ∨ q = w := by simpa using h
set_option maxRecDepth 20000 in
set_option maxHeartbeats 1000000 in
theorem c_X11_init {G : xG} {h : xH} {K : xK} (hGK : GK G K) (hAO : GAO G) {x : Nat} (mx : x ∈ h.1) (fx : h.2 x = .inr (7, [.null, .int (iI 0), .null, .null, .null, .null, .null, .int (iI 0), .null, .null])) : CC G MX11_init [.ref x] h (fun o9 h9 => o9 = .inl none ∧ ∃ a, XB G h9 K x a S00 ∧ (∀ q ∈ fpX x a, q = x ∨ q ∉ h.1) ∧ (∀ q ∈ fpX x a, q ∈ h9.1) ∧ GRp [x] h h9) := by
  have hG := gk_D hGK
  have gr0 : GRp [x] h h := GRp.rf
  have gz0 : GRp [x] h h := GRp.rf
  show RR G MX11_init 0 [(0, .ref x)] [] h (xm_R MX11_init).cells (xm_R MX11_init).slots (fun o9 h9 => o9 = .inl none ∧ ∃ a, XB G h9 K x a S00 ∧ (∀ q ∈ fpX x a, q = x ∨ q ∉ h.1) ∧ (∀ q ∈ fpX x a, q ∈ h9.1) ∧ GRp [x] h h9)
  refine r_aload_n dX11_init_0 0 rfl ?_
  refine r_objinit km_X11_1 ks_obj.1 ks_obj.2 dX11_init_1 (by decide) (by decide) ?_
  refine r_aload_n dX11_init_4 0 rfl ?_
  refine i_sipush (500) (by decide) dX11_init_5 ?_
  refine i_newI 500 rfl (by decide) dX11_init_8 (Nat.le_of_ble_eq_true rfl) (Nat.le_of_ble_eq_true rfl) (fun inp hn1 hqn1 e0_n1 e1_n1 e2_n1 => ?_)
  have nx_n1 : x ≠ inp := fun z => hqn1 (by rw [← z]; exact mx)
  have fx_n1 := (e2_n1 x nx_n1).trans fx
  have mx_n1 : x ∈ hn1.1 := by rw [e0_n1]; exact List.mem_append_left _ mx
  have minp : inp ∈ hn1.1 := by rw [e0_n1]; exact List.mem_append_right _ (List.mem_singleton.mpr rfl)
  have grn1 := gr0.tr ((GRp.new hqn1 e0_n1 e2_n1).mono (fun _ z => absurd z List.not_mem_nil))
  have nwinp : inp ∉ h.1 := fun z => hqn1 (gr0.1 _ z)
  have nm0_inp : inp ∉ h.1 := fun z => hqn1 (gz0.1 _ z)
  have gm0_n1 := gz0.tr ((GRp.new hqn1 e0_n1 e2_n1).mono (fun _ z => absurd z List.not_mem_nil))
  have sub1 := gm0_n1.1
  have gz1 : GRp [x] hn1 hn1 := GRp.rf
  have mm1 : ∀ q ∈ [inp], q ∈ hn1.1 := fun q z => by rw [mem1 z]; exact minp
  have nn1 : ∀ q ∈ [inp], q ∉ h.1 := fun q z => by rw [mem1 z]; exact nm0_inp
  have hI1 : INP G hn1 inp [] := ⟨_, minp, e1_n1, by decide, fun k hk => absurd hk (Nat.not_lt_zero k), fun k hk => absurd hk (Nat.not_lt_zero k)⟩
  refine i_putF [.ref inp, .int (iI 0), .null, .null, .null, .null, .null, .int (iI 0), .null, .null] cl_X11 0 (by decide) kf_X11_9 rfl rfl rfl dX11_init_10 mx_n1 fx_n1 rfl rfl (by simp) rfl (fun h2 e0_2 e1_2 e2_2 => ?_)
  have mx_2 : x ∈ h2.1 := by rw [e0_2]; exact mx_n1
  have gw2 := grn1.tr (GRp.w (List.mem_singleton.mpr rfl) e0_2 e2_2)
  have gm0_2 := gm0_n1.tr (GRp.w (List.mem_singleton.mpr rfl) e0_2 e2_2)
  have gm1_2 := gz1.tr (GRp.w (List.mem_singleton.mpr rfl) e0_2 e2_2)
  refine r_aload_n dX11_init_13 0 rfl ?_
  refine i_newO cl_X5 (fs := [.null, .int (iI 0), .int (iI 0), .int (iI 0)]) kl_X11_13 kn_X5 ki_X5 dX11_init_14 (fun j hj => by rcases (show j = 0 ∨ j = 1 ∨ j = 2 ∨ j = 3 by omega) with rfl | rfl | rfl | rfl <;> rfl) (Nat.le_of_ble_eq_true rfl) (Nat.le_of_ble_eq_true rfl) (fun po hn3 hqn3 e0_n3 e1_n3 e2_n3 => ?_)
  have nx_n3 : x ≠ po := fun z => hqn3 (by rw [← z]; exact mx_2)
  have fx_n3 := (e2_n3 x nx_n3).trans e1_2
  have mx_n3 : x ∈ hn3.1 := by rw [e0_n3]; exact List.mem_append_left _ mx_2
  have mpo : po ∈ hn3.1 := by rw [e0_n3]; exact List.mem_append_right _ (List.mem_singleton.mpr rfl)
  have grn3 := gw2.tr ((GRp.new hqn3 e0_n3 e2_n3).mono (fun _ z => absurd z List.not_mem_nil))
  have nwpo : po ∉ h.1 := fun z => hqn3 (gw2.1 _ z)
  have nm0_po : po ∉ h.1 := fun z => hqn3 (gm0_2.1 _ z)
  have gm0_n3 := gm0_2.tr ((GRp.new hqn3 e0_n3 e2_n3).mono (fun _ z => absurd z List.not_mem_nil))
  have nm1_po : po ∉ hn1.1 := fun z => hqn3 (gm1_2.1 _ z)
  have gm1_n3 := gm1_2.tr ((GRp.new hqn3 e0_n3 e2_n3).mono (fun _ z => absurd z List.not_mem_nil))
  refine r_dup dX11_init_17 rfl ?_
  refine k_callIN (As := []) (b := po) (rest := [.ref po, .ref x]) (w := none) (st' := [.ref po, .ref x]) (kv_X11_init_15 (gn_X11_15 hG)) dX11_init_18 rfl rfl (Nat.le_of_ble_eq_true rfl) (Nat.le_of_ble_eq_true rfl) (Nat.le_of_ble_eq_true rfl) (Nat.le_of_ble_eq_true rfl) (c_X5_init hGK mpo e1_n3) rfl (fun hk4 e9k4 => ?_)
  obtain ⟨tok4, hPxk4, ntok4, gck4⟩ := e9k4
  have fx_k4 := (gck4.2 x mx_n3 (fun z => nx_n3 (List.mem_singleton.mp z))).trans fx_n3
  have mx_k4 : x ∈ hk4.1 := gck4.1 _ mx_n3
  have grk4 := grn3.off gck4 (fun q z => by rw [List.mem_singleton.mp z]; exact nwpo)
  have gm0_k4 := gm0_n3.off gck4 (fun y z => by rw [List.mem_singleton.mp z]; exact nm0_po)
  have gm1_k4 := gm1_n3.off gck4 (fun y z => by rw [List.mem_singleton.mp z]; exact nm1_po)
  obtain ⟨Ik4, Tk4, tkk4, numk4, hPk4⟩ := hPxk4
  have mtok4 : tok4 ∈ hk4.1 := by obtain ⟨v, m, -⟩ := hPk4.2.2; exact m
  have sub2 := gm1_k4.1
  have gz2 : GRp [x] hk4 hk4 := GRp.rf
  have mm2 : ∀ q ∈ [po, tok4], q ∈ hk4.1 := fun q z => by rcases mem2 z with e | e <;> rw [e]; exact hPk4.1; exact mtok4
  have nn2 : ∀ q ∈ [po, tok4], q ∉ hn1.1 := fun q z => by rcases mem2 z with e | e <;> rw [e]; exact nm1_po; exact fun u => ntok4 (gm1_n3.1 _ u)
  refine i_putF [.ref inp, .int (iI 0), .ref po, .null, .null, .null, .null, .int (iI 0), .null, .null] cl_X11 2 (by decide) kf_X11_16 rfl rfl rfl dX11_init_21 mx_k4 fx_k4 rfl rfl (by simp) rfl (fun h5 e0_5 e1_5 e2_5 => ?_)
  have mx_5 : x ∈ h5.1 := by rw [e0_5]; exact mx_k4
  have gw5 := grk4.tr (GRp.w (List.mem_singleton.mpr rfl) e0_5 e2_5)
  have gm0_5 := gm0_k4.tr (GRp.w (List.mem_singleton.mpr rfl) e0_5 e2_5)
  have gm1_5 := gm1_k4.tr (GRp.w (List.mem_singleton.mpr rfl) e0_5 e2_5)
  have gm2_5 := gz2.tr (GRp.w (List.mem_singleton.mpr rfl) e0_5 e2_5)
  refine r_aload_n dX11_init_24 0 rfl ?_
  refine i_newO cl_X7 (fs := [.null, .null, .null, .int (iI 0)]) kl_X11_20 kn_X7 ki_X7 dX11_init_25 (fun j hj => by rcases (show j = 0 ∨ j = 1 ∨ j = 2 ∨ j = 3 by omega) with rfl | rfl | rfl | rfl <;> rfl) (Nat.le_of_ble_eq_true rfl) (Nat.le_of_ble_eq_true rfl) (fun so hn6 hqn6 e0_n6 e1_n6 e2_n6 => ?_)
  have nx_n6 : x ≠ so := fun z => hqn6 (by rw [← z]; exact mx_5)
  have fx_n6 := (e2_n6 x nx_n6).trans e1_5
  have mx_n6 : x ∈ hn6.1 := by rw [e0_n6]; exact List.mem_append_left _ mx_5
  have mso : so ∈ hn6.1 := by rw [e0_n6]; exact List.mem_append_right _ (List.mem_singleton.mpr rfl)
  have grn6 := gw5.tr ((GRp.new hqn6 e0_n6 e2_n6).mono (fun _ z => absurd z List.not_mem_nil))
  have nwso : so ∉ h.1 := fun z => hqn6 (gw5.1 _ z)
  have nm0_so : so ∉ h.1 := fun z => hqn6 (gm0_5.1 _ z)
  have gm0_n6 := gm0_5.tr ((GRp.new hqn6 e0_n6 e2_n6).mono (fun _ z => absurd z List.not_mem_nil))
  have nm1_so : so ∉ hn1.1 := fun z => hqn6 (gm1_5.1 _ z)
  have gm1_n6 := gm1_5.tr ((GRp.new hqn6 e0_n6 e2_n6).mono (fun _ z => absurd z List.not_mem_nil))
  have nm2_so : so ∉ hk4.1 := fun z => hqn6 (gm2_5.1 _ z)
  have gm2_n6 := gm2_5.tr ((GRp.new hqn6 e0_n6 e2_n6).mono (fun _ z => absurd z List.not_mem_nil))
  refine r_dup dX11_init_28 rfl ?_
  refine k_callIN (As := []) (b := so) (rest := [.ref so, .ref x]) (w := none) (st' := [.ref so, .ref x]) (kv_X11_init_22 (gn_X11_22 hG)) dX11_init_29 rfl rfl (Nat.le_of_ble_eq_true rfl) (Nat.le_of_ble_eq_true rfl) (Nat.le_of_ble_eq_true rfl) (Nat.le_of_ble_eq_true rfl) (c_X7_init (K := K) hAO mso e1_n6) rfl (fun hk7 e9k7 => ?_)
  obtain ⟨ak7, bk7, ck7, hSk7, nak7, nbk7, nck7, gck7⟩ := e9k7
  have fx_k7 := (gck7.2 x mx_n6 (fun z => nx_n6 (List.mem_singleton.mp z))).trans fx_n6
  have mx_k7 : x ∈ hk7.1 := gck7.1 _ mx_n6
  have grk7 := grn6.off gck7 (fun q z => by rw [List.mem_singleton.mp z]; exact nwso)
  have gm0_k7 := gm0_n6.off gck7 (fun y z => by rw [List.mem_singleton.mp z]; exact nm0_so)
  have gm1_k7 := gm1_n6.off gck7 (fun y z => by rw [List.mem_singleton.mp z]; exact nm1_so)
  have gm2_k7 := gm2_n6.off gck7 (fun y z => by rw [List.mem_singleton.mp z]; exact nm2_so)
  have mSk7 : so ∈ hk7.1 ∧ ak7 ∈ hk7.1 ∧ bk7 ∈ hk7.1 ∧ ck7 ∈ hk7.1 := by obtain ⟨g, f, s, m, -⟩ := hSk7; exact m
  have sub3 := gm2_k7.1
  have gz3 : GRp [x] hk7 hk7 := GRp.rf
  have mm3 : ∀ q ∈ [so, ak7, bk7, ck7], q ∈ hk7.1 := fun q z => by rcases mem4 z with e | e | e | e <;> rw [e]; exact mSk7.1; exact mSk7.2.1; exact mSk7.2.2.1; exact mSk7.2.2.2
  have nn3 : ∀ q ∈ [so, ak7, bk7, ck7], q ∉ hk4.1 := fun q z => by rcases mem4 z with e | e | e | e <;> rw [e]; exact nm2_so; exact fun u => nak7 (gm2_n6.1 _ u); exact fun u => nbk7 (gm2_n6.1 _ u); exact fun u => nck7 (gm2_n6.1 _ u)
  refine i_putF [.ref inp, .int (iI 0), .ref po, .ref so, .null, .null, .null, .int (iI 0), .null, .null] cl_X11 3 (by decide) kf_X11_23 rfl rfl rfl dX11_init_32 mx_k7 fx_k7 rfl rfl (by simp) rfl (fun h8 e0_8 e1_8 e2_8 => ?_)
  have mx_8 : x ∈ h8.1 := by rw [e0_8]; exact mx_k7
  have gw8 := grk7.tr (GRp.w (List.mem_singleton.mpr rfl) e0_8 e2_8)
  have gm0_8 := gm0_k7.tr (GRp.w (List.mem_singleton.mpr rfl) e0_8 e2_8)
  have gm1_8 := gm1_k7.tr (GRp.w (List.mem_singleton.mpr rfl) e0_8 e2_8)
  have gm2_8 := gm2_k7.tr (GRp.w (List.mem_singleton.mpr rfl) e0_8 e2_8)
  have gm3_8 := gz3.tr (GRp.w (List.mem_singleton.mpr rfl) e0_8 e2_8)
  refine r_aload_n dX11_init_35 0 rfl ?_
  refine r_callS (As := []) (rest := [.ref x]) kv_X11_init_27 dX11_init_36 rfl rfl (Nat.le_of_ble_eq_true rfl) (Nat.le_of_ble_eq_true rfl) (Nat.le_of_ble_eq_true rfl) (Nat.le_of_ble_eq_true rfl) (c_X1_first hGK hAO) (fun E h9 z9 => ?_) (fun v9 hk9 e9k9 => ?_)
  · obtain ⟨_, _, _, z9, -⟩ := z9
    cases z9
  obtain ⟨bo, bA, fpk9, ev, hBk9, nfk9, mfk9, gck9⟩ := e9k9
  cases ev
  have fx_k9 := (gck9.2 x mx_8 List.not_mem_nil).trans e1_8
  have mx_k9 : x ∈ hk9.1 := gck9.1 _ mx_8
  have grk9 := gw8.tr (gck9.mono (fun _ z => absurd z List.not_mem_nil))
  have gm0_k9 := gm0_8.tr (gck9.mono (fun _ z => absurd z List.not_mem_nil))
  have gm1_k9 := gm1_8.tr (gck9.mono (fun _ z => absurd z List.not_mem_nil))
  have gm2_k9 := gm2_8.tr (gck9.mono (fun _ z => absurd z List.not_mem_nil))
  have gm3_k9 := gm3_8.tr (gck9.mono (fun _ z => absurd z List.not_mem_nil))
  have sub4 := gm3_k9.1
  have gz4 : GRp [x] hk9 hk9 := GRp.rf
  have mm4 : ∀ q ∈ fpk9, q ∈ hk9.1 := mfk9
  have nn4 : ∀ q ∈ fpk9, q ∉ hk7.1 := fun q z u => nfk9 q z (gm3_8.1 _ u)
  show RR G MX11_init 39 [(0, .ref x)] [.ref bo, .ref x] hk9 _ _ _
  refine i_putF [.ref inp, .int (iI 0), .ref po, .ref so, .ref bo, .null, .null, .int (iI 0), .null, .null] cl_X11 4 (by decide) kf_X11_33 rfl rfl rfl dX11_init_39 mx_k9 fx_k9 rfl rfl (by simp) rfl (fun h10 e0_10 e1_10 e2_10 => ?_)
  have mx_10 : x ∈ h10.1 := by rw [e0_10]; exact mx_k9
  have gw10 := grk9.tr (GRp.w (List.mem_singleton.mpr rfl) e0_10 e2_10)
  have gm0_10 := gm0_k9.tr (GRp.w (List.mem_singleton.mpr rfl) e0_10 e2_10)
  have gm1_10 := gm1_k9.tr (GRp.w (List.mem_singleton.mpr rfl) e0_10 e2_10)
  have gm2_10 := gm2_k9.tr (GRp.w (List.mem_singleton.mpr rfl) e0_10 e2_10)
  have gm3_10 := gm3_k9.tr (GRp.w (List.mem_singleton.mpr rfl) e0_10 e2_10)
  have gm4_10 := gz4.tr (GRp.w (List.mem_singleton.mpr rfl) e0_10 e2_10)
  refine r_aload_n dX11_init_42 0 rfl ?_
  refine i_newO cl_X1 (fs := [.null, .int (iI 0), .int (iI 0), .int (iI 0), .int (iI 0), .int (iI 0), .int (iI 0), .int (iI 0)]) kl_X11_28 kn_X1 ki_X1 dX11_init_43 (fun j hj => by rcases (show j = 0 ∨ j = 1 ∨ j = 2 ∨ j = 3 ∨ j = 4 ∨ j = 5 ∨ j = 6 ∨ j = 7 by omega) with rfl | rfl | rfl | rfl | rfl | rfl | rfl | rfl <;> rfl) (Nat.le_of_ble_eq_true rfl) (Nat.le_of_ble_eq_true rfl) (fun dft hn11 hqn11 e0_n11 e1_n11 e2_n11 => ?_)
  have nx_n11 : x ≠ dft := fun z => hqn11 (by rw [← z]; exact mx_10)
  have fx_n11 := (e2_n11 x nx_n11).trans e1_10
  have mx_n11 : x ∈ hn11.1 := by rw [e0_n11]; exact List.mem_append_left _ mx_10
  have mdft : dft ∈ hn11.1 := by rw [e0_n11]; exact List.mem_append_right _ (List.mem_singleton.mpr rfl)
  have grn11 := gw10.tr ((GRp.new hqn11 e0_n11 e2_n11).mono (fun _ z => absurd z List.not_mem_nil))
  have nwdft : dft ∉ h.1 := fun z => hqn11 (gw10.1 _ z)
  have nm0_dft : dft ∉ h.1 := fun z => hqn11 (gm0_10.1 _ z)
  have gm0_n11 := gm0_10.tr ((GRp.new hqn11 e0_n11 e2_n11).mono (fun _ z => absurd z List.not_mem_nil))
  have nm1_dft : dft ∉ hn1.1 := fun z => hqn11 (gm1_10.1 _ z)
  have gm1_n11 := gm1_10.tr ((GRp.new hqn11 e0_n11 e2_n11).mono (fun _ z => absurd z List.not_mem_nil))
  have nm2_dft : dft ∉ hk4.1 := fun z => hqn11 (gm2_10.1 _ z)
  have gm2_n11 := gm2_10.tr ((GRp.new hqn11 e0_n11 e2_n11).mono (fun _ z => absurd z List.not_mem_nil))
  have nm3_dft : dft ∉ hk7.1 := fun z => hqn11 (gm3_10.1 _ z)
  have gm3_n11 := gm3_10.tr ((GRp.new hqn11 e0_n11 e2_n11).mono (fun _ z => absurd z List.not_mem_nil))
  have nm4_dft : dft ∉ hk9.1 := fun z => hqn11 (gm4_10.1 _ z)
  have gm4_n11 := gm4_10.tr ((GRp.new hqn11 e0_n11 e2_n11).mono (fun _ z => absurd z List.not_mem_nil))
  refine r_dup dX11_init_46 rfl ?_
  refine k_callI (As := []) (b := dft) (rest := [.ref dft, .ref x]) (w := none) (st' := [.ref dft, .ref x]) kv_X11_init_37 dX11_init_47 rfl rfl (Nat.le_of_ble_eq_true rfl) (Nat.le_of_ble_eq_true rfl) (Nat.le_of_ble_eq_true rfl) (Nat.le_of_ble_eq_true rfl) (c_X1_init hGK hAO mdft e1_n11) rfl (fun hk12 e9k12 => ?_)
  obtain ⟨Ak12, fpk12, hBk12, nfk12, mfk12, gck12⟩ := e9k12
  have fx_k12 := (gck12.2 x mx_n11 (fun z => nx_n11 (List.mem_singleton.mp z))).trans fx_n11
  have mx_k12 : x ∈ hk12.1 := gck12.1 _ mx_n11
  have grk12 := grn11.off gck12 (fun q z => by rw [List.mem_singleton.mp z]; exact nwdft)
  have gm0_k12 := gm0_n11.off gck12 (fun y z => by rw [List.mem_singleton.mp z]; exact nm0_dft)
  have gm1_k12 := gm1_n11.off gck12 (fun y z => by rw [List.mem_singleton.mp z]; exact nm1_dft)
  have gm2_k12 := gm2_n11.off gck12 (fun y z => by rw [List.mem_singleton.mp z]; exact nm2_dft)
  have gm3_k12 := gm3_n11.off gck12 (fun y z => by rw [List.mem_singleton.mp z]; exact nm3_dft)
  have gm4_k12 := gm4_n11.off gck12 (fun y z => by rw [List.mem_singleton.mp z]; exact nm4_dft)
  have sub5 := gm4_k12.1
  have gz5 : GRp [x] hk12 hk12 := GRp.rf
  have mm5 : ∀ q ∈ fpk12, q ∈ hk12.1 := mfk12
  have nn5 : ∀ q ∈ fpk12, q ∉ hk9.1 := fun q z u => by rcases nfk12 q z with e | e; exact nm4_dft (by rw [← e]; exact u); exact e (gm4_n11.1 _ u)
  refine i_putF [.ref inp, .int (iI 0), .ref po, .ref so, .ref bo, .ref dft, .null, .int (iI 0), .null, .null] cl_X11 5 (by decide) kf_X11_38 rfl rfl rfl dX11_init_50 mx_k12 fx_k12 rfl rfl (by simp) rfl (fun h13 e0_13 e1_13 e2_13 => ?_)
  have mx_13 : x ∈ h13.1 := by rw [e0_13]; exact mx_k12
  have gw13 := grk12.tr (GRp.w (List.mem_singleton.mpr rfl) e0_13 e2_13)
  have gm0_13 := gm0_k12.tr (GRp.w (List.mem_singleton.mpr rfl) e0_13 e2_13)
  have gm1_13 := gm1_k12.tr (GRp.w (List.mem_singleton.mpr rfl) e0_13 e2_13)
  have gm2_13 := gm2_k12.tr (GRp.w (List.mem_singleton.mpr rfl) e0_13 e2_13)
  have gm3_13 := gm3_k12.tr (GRp.w (List.mem_singleton.mpr rfl) e0_13 e2_13)
  have gm4_13 := gm4_k12.tr (GRp.w (List.mem_singleton.mpr rfl) e0_13 e2_13)
  have gm5_13 := gz5.tr (GRp.w (List.mem_singleton.mpr rfl) e0_13 e2_13)
  refine r_aload_n dX11_init_53 0 rfl ?_
  refine i_newO cl_X1 (fs := [.null, .int (iI 0), .int (iI 0), .int (iI 0), .int (iI 0), .int (iI 0), .int (iI 0), .int (iI 0)]) kl_X11_28 kn_X1 ki_X1 dX11_init_54 (fun j hj => by rcases (show j = 0 ∨ j = 1 ∨ j = 2 ∨ j = 3 ∨ j = 4 ∨ j = 5 ∨ j = 6 ∨ j = 7 by omega) with rfl | rfl | rfl | rfl | rfl | rfl | rfl | rfl <;> rfl) (Nat.le_of_ble_eq_true rfl) (Nat.le_of_ble_eq_true rfl) (fun snp hn14 hqn14 e0_n14 e1_n14 e2_n14 => ?_)
  have nx_n14 : x ≠ snp := fun z => hqn14 (by rw [← z]; exact mx_13)
  have fx_n14 := (e2_n14 x nx_n14).trans e1_13
  have mx_n14 : x ∈ hn14.1 := by rw [e0_n14]; exact List.mem_append_left _ mx_13
  have msnp : snp ∈ hn14.1 := by rw [e0_n14]; exact List.mem_append_right _ (List.mem_singleton.mpr rfl)
  have grn14 := gw13.tr ((GRp.new hqn14 e0_n14 e2_n14).mono (fun _ z => absurd z List.not_mem_nil))
  have nwsnp : snp ∉ h.1 := fun z => hqn14 (gw13.1 _ z)
  have nm0_snp : snp ∉ h.1 := fun z => hqn14 (gm0_13.1 _ z)
  have gm0_n14 := gm0_13.tr ((GRp.new hqn14 e0_n14 e2_n14).mono (fun _ z => absurd z List.not_mem_nil))
  have nm1_snp : snp ∉ hn1.1 := fun z => hqn14 (gm1_13.1 _ z)
  have gm1_n14 := gm1_13.tr ((GRp.new hqn14 e0_n14 e2_n14).mono (fun _ z => absurd z List.not_mem_nil))
  have nm2_snp : snp ∉ hk4.1 := fun z => hqn14 (gm2_13.1 _ z)
  have gm2_n14 := gm2_13.tr ((GRp.new hqn14 e0_n14 e2_n14).mono (fun _ z => absurd z List.not_mem_nil))
  have nm3_snp : snp ∉ hk7.1 := fun z => hqn14 (gm3_13.1 _ z)
  have gm3_n14 := gm3_13.tr ((GRp.new hqn14 e0_n14 e2_n14).mono (fun _ z => absurd z List.not_mem_nil))
  have nm4_snp : snp ∉ hk9.1 := fun z => hqn14 (gm4_13.1 _ z)
  have gm4_n14 := gm4_13.tr ((GRp.new hqn14 e0_n14 e2_n14).mono (fun _ z => absurd z List.not_mem_nil))
  have nm5_snp : snp ∉ hk12.1 := fun z => hqn14 (gm5_13.1 _ z)
  have gm5_n14 := gm5_13.tr ((GRp.new hqn14 e0_n14 e2_n14).mono (fun _ z => absurd z List.not_mem_nil))
  refine r_dup dX11_init_57 rfl ?_
  refine k_callI (As := []) (b := snp) (rest := [.ref snp, .ref x]) (w := none) (st' := [.ref snp, .ref x]) kv_X11_init_37 dX11_init_58 rfl rfl (Nat.le_of_ble_eq_true rfl) (Nat.le_of_ble_eq_true rfl) (Nat.le_of_ble_eq_true rfl) (Nat.le_of_ble_eq_true rfl) (c_X1_init hGK hAO msnp e1_n14) rfl (fun hk15 e9k15 => ?_)
  obtain ⟨Ak15, fpk15, hBk15, nfk15, mfk15, gck15⟩ := e9k15
  have fx_k15 := (gck15.2 x mx_n14 (fun z => nx_n14 (List.mem_singleton.mp z))).trans fx_n14
  have mx_k15 : x ∈ hk15.1 := gck15.1 _ mx_n14
  have grk15 := grn14.off gck15 (fun q z => by rw [List.mem_singleton.mp z]; exact nwsnp)
  have gm0_k15 := gm0_n14.off gck15 (fun y z => by rw [List.mem_singleton.mp z]; exact nm0_snp)
  have gm1_k15 := gm1_n14.off gck15 (fun y z => by rw [List.mem_singleton.mp z]; exact nm1_snp)
  have gm2_k15 := gm2_n14.off gck15 (fun y z => by rw [List.mem_singleton.mp z]; exact nm2_snp)
  have gm3_k15 := gm3_n14.off gck15 (fun y z => by rw [List.mem_singleton.mp z]; exact nm3_snp)
  have gm4_k15 := gm4_n14.off gck15 (fun y z => by rw [List.mem_singleton.mp z]; exact nm4_snp)
  have gm5_k15 := gm5_n14.off gck15 (fun y z => by rw [List.mem_singleton.mp z]; exact nm5_snp)
  have sub6 := gm5_k15.1
  have gz6 : GRp [x] hk15 hk15 := GRp.rf
  have mm6 : ∀ q ∈ fpk15, q ∈ hk15.1 := mfk15
  have nn6 : ∀ q ∈ fpk15, q ∉ hk12.1 := fun q z u => by rcases nfk15 q z with e | e; exact nm5_snp (by rw [← e]; exact u); exact e (gm5_n14.1 _ u)
  refine i_putF [.ref inp, .int (iI 0), .ref po, .ref so, .ref bo, .ref dft, .ref snp, .int (iI 0), .null, .null] cl_X11 6 (by decide) kf_X11_41 rfl rfl rfl dX11_init_61 mx_k15 fx_k15 rfl rfl (by simp) rfl (fun h16 e0_16 e1_16 e2_16 => ?_)
  have mx_16 : x ∈ h16.1 := by rw [e0_16]; exact mx_k15
  have gw16 := grk15.tr (GRp.w (List.mem_singleton.mpr rfl) e0_16 e2_16)
  have gm0_16 := gm0_k15.tr (GRp.w (List.mem_singleton.mpr rfl) e0_16 e2_16)
  have gm1_16 := gm1_k15.tr (GRp.w (List.mem_singleton.mpr rfl) e0_16 e2_16)
  have gm2_16 := gm2_k15.tr (GRp.w (List.mem_singleton.mpr rfl) e0_16 e2_16)
  have gm3_16 := gm3_k15.tr (GRp.w (List.mem_singleton.mpr rfl) e0_16 e2_16)
  have gm4_16 := gm4_k15.tr (GRp.w (List.mem_singleton.mpr rfl) e0_16 e2_16)
  have gm5_16 := gm5_k15.tr (GRp.w (List.mem_singleton.mpr rfl) e0_16 e2_16)
  have gm6_16 := gz6.tr (GRp.w (List.mem_singleton.mpr rfl) e0_16 e2_16)
  refine r_aload_n dX11_init_64 0 rfl ?_
  refine i_newO cl_X3 (fs := [.null, .int (iI 0)]) kl_X11_44 kn_X3 ki_X3 dX11_init_65 (fun j hj => by rcases (show j = 0 ∨ j = 1 by omega) with rfl | rfl <;> rfl) (Nat.le_of_ble_eq_true rfl) (Nat.le_of_ble_eq_true rfl) (fun hy hn17 hqn17 e0_n17 e1_n17 e2_n17 => ?_)
  have nx_n17 : x ≠ hy := fun z => hqn17 (by rw [← z]; exact mx_16)
  have fx_n17 := (e2_n17 x nx_n17).trans e1_16
  have mx_n17 : x ∈ hn17.1 := by rw [e0_n17]; exact List.mem_append_left _ mx_16
  have mhy : hy ∈ hn17.1 := by rw [e0_n17]; exact List.mem_append_right _ (List.mem_singleton.mpr rfl)
  have grn17 := gw16.tr ((GRp.new hqn17 e0_n17 e2_n17).mono (fun _ z => absurd z List.not_mem_nil))
  have nwhy : hy ∉ h.1 := fun z => hqn17 (gw16.1 _ z)
  have nm0_hy : hy ∉ h.1 := fun z => hqn17 (gm0_16.1 _ z)
  have gm0_n17 := gm0_16.tr ((GRp.new hqn17 e0_n17 e2_n17).mono (fun _ z => absurd z List.not_mem_nil))
  have nm1_hy : hy ∉ hn1.1 := fun z => hqn17 (gm1_16.1 _ z)
  have gm1_n17 := gm1_16.tr ((GRp.new hqn17 e0_n17 e2_n17).mono (fun _ z => absurd z List.not_mem_nil))
  have nm2_hy : hy ∉ hk4.1 := fun z => hqn17 (gm2_16.1 _ z)
  have gm2_n17 := gm2_16.tr ((GRp.new hqn17 e0_n17 e2_n17).mono (fun _ z => absurd z List.not_mem_nil))
  have nm3_hy : hy ∉ hk7.1 := fun z => hqn17 (gm3_16.1 _ z)
  have gm3_n17 := gm3_16.tr ((GRp.new hqn17 e0_n17 e2_n17).mono (fun _ z => absurd z List.not_mem_nil))
  have nm4_hy : hy ∉ hk9.1 := fun z => hqn17 (gm4_16.1 _ z)
  have gm4_n17 := gm4_16.tr ((GRp.new hqn17 e0_n17 e2_n17).mono (fun _ z => absurd z List.not_mem_nil))
  have nm5_hy : hy ∉ hk12.1 := fun z => hqn17 (gm5_16.1 _ z)
  have gm5_n17 := gm5_16.tr ((GRp.new hqn17 e0_n17 e2_n17).mono (fun _ z => absurd z List.not_mem_nil))
  have nm6_hy : hy ∉ hk15.1 := fun z => hqn17 (gm6_16.1 _ z)
  have gm6_n17 := gm6_16.tr ((GRp.new hqn17 e0_n17 e2_n17).mono (fun _ z => absurd z List.not_mem_nil))
  refine r_dup dX11_init_68 rfl ?_
  refine k_callI (As := []) (b := hy) (rest := [.ref hy, .ref x]) (w := none) (st' := [.ref hy, .ref x]) kv_X11_init_46 dX11_init_69 rfl rfl (Nat.le_of_ble_eq_true rfl) (Nat.le_of_ble_eq_true rfl) (Nat.le_of_ble_eq_true rfl) (Nat.le_of_ble_eq_true rfl) (c_X3_init hGK hAO mhy e1_n17) rfl (fun hk18 e9k18 => ?_)
  obtain ⟨Ak18, fpk18, hBk18, nfk18, mfk18, gck18⟩ := e9k18
  have fx_k18 := (gck18.2 x mx_n17 (fun z => nx_n17 (List.mem_singleton.mp z))).trans fx_n17
  have mx_k18 : x ∈ hk18.1 := gck18.1 _ mx_n17
  have grk18 := grn17.off gck18 (fun q z => by rw [List.mem_singleton.mp z]; exact nwhy)
  have gm0_k18 := gm0_n17.off gck18 (fun y z => by rw [List.mem_singleton.mp z]; exact nm0_hy)
  have gm1_k18 := gm1_n17.off gck18 (fun y z => by rw [List.mem_singleton.mp z]; exact nm1_hy)
  have gm2_k18 := gm2_n17.off gck18 (fun y z => by rw [List.mem_singleton.mp z]; exact nm2_hy)
  have gm3_k18 := gm3_n17.off gck18 (fun y z => by rw [List.mem_singleton.mp z]; exact nm3_hy)
  have gm4_k18 := gm4_n17.off gck18 (fun y z => by rw [List.mem_singleton.mp z]; exact nm4_hy)
  have gm5_k18 := gm5_n17.off gck18 (fun y z => by rw [List.mem_singleton.mp z]; exact nm5_hy)
  have gm6_k18 := gm6_n17.off gck18 (fun y z => by rw [List.mem_singleton.mp z]; exact nm6_hy)
  have sub7 := gm6_k18.1
  have gz7 : GRp [x] hk18 hk18 := GRp.rf
  have mm7 : ∀ q ∈ fpk18, q ∈ hk18.1 := mfk18
  have nn7 : ∀ q ∈ fpk18, q ∉ hk15.1 := fun q z u => by rcases nfk18 q z with e | e; exact nm6_hy (by rw [← e]; exact u); exact e (gm6_n17.1 _ u)
  refine i_putF [.ref inp, .int (iI 0), .ref po, .ref so, .ref bo, .ref dft, .ref snp, .int (iI 0), .ref hy, .null] cl_X11 8 (by decide) kf_X11_47 rfl rfl rfl dX11_init_72 mx_k18 fx_k18 rfl rfl (by simp) rfl (fun h19 e0_19 e1_19 e2_19 => ?_)
  have mx_19 : x ∈ h19.1 := by rw [e0_19]; exact mx_k18
  have gw19 := grk18.tr (GRp.w (List.mem_singleton.mpr rfl) e0_19 e2_19)
  have gm0_19 := gm0_k18.tr (GRp.w (List.mem_singleton.mpr rfl) e0_19 e2_19)
  have gm1_19 := gm1_k18.tr (GRp.w (List.mem_singleton.mpr rfl) e0_19 e2_19)
  have gm2_19 := gm2_k18.tr (GRp.w (List.mem_singleton.mpr rfl) e0_19 e2_19)
  have gm3_19 := gm3_k18.tr (GRp.w (List.mem_singleton.mpr rfl) e0_19 e2_19)
  have gm4_19 := gm4_k18.tr (GRp.w (List.mem_singleton.mpr rfl) e0_19 e2_19)
  have gm5_19 := gm5_k18.tr (GRp.w (List.mem_singleton.mpr rfl) e0_19 e2_19)
  have gm6_19 := gm6_k18.tr (GRp.w (List.mem_singleton.mpr rfl) e0_19 e2_19)
  have gm7_19 := gz7.tr (GRp.w (List.mem_singleton.mpr rfl) e0_19 e2_19)
  refine r_aload_n dX11_init_75 0 rfl ?_
  refine i_newO cl_X4 (fs := [.null, .int (iI 0)]) kl_X11_51 kn_X4 ki_X4 dX11_init_76 (fun j hj => by rcases (show j = 0 ∨ j = 1 by omega) with rfl | rfl <;> rfl) (Nat.le_of_ble_eq_true rfl) (Nat.le_of_ble_eq_true rfl) (fun uo hn20 hqn20 e0_n20 e1_n20 e2_n20 => ?_)
  have nx_n20 : x ≠ uo := fun z => hqn20 (by rw [← z]; exact mx_19)
  have fx_n20 := (e2_n20 x nx_n20).trans e1_19
  have mx_n20 : x ∈ hn20.1 := by rw [e0_n20]; exact List.mem_append_left _ mx_19
  have muo : uo ∈ hn20.1 := by rw [e0_n20]; exact List.mem_append_right _ (List.mem_singleton.mpr rfl)
  have grn20 := gw19.tr ((GRp.new hqn20 e0_n20 e2_n20).mono (fun _ z => absurd z List.not_mem_nil))
  have nwuo : uo ∉ h.1 := fun z => hqn20 (gw19.1 _ z)
  have nm0_uo : uo ∉ h.1 := fun z => hqn20 (gm0_19.1 _ z)
  have gm0_n20 := gm0_19.tr ((GRp.new hqn20 e0_n20 e2_n20).mono (fun _ z => absurd z List.not_mem_nil))
  have nm1_uo : uo ∉ hn1.1 := fun z => hqn20 (gm1_19.1 _ z)
  have gm1_n20 := gm1_19.tr ((GRp.new hqn20 e0_n20 e2_n20).mono (fun _ z => absurd z List.not_mem_nil))
  have nm2_uo : uo ∉ hk4.1 := fun z => hqn20 (gm2_19.1 _ z)
  have gm2_n20 := gm2_19.tr ((GRp.new hqn20 e0_n20 e2_n20).mono (fun _ z => absurd z List.not_mem_nil))
  have nm3_uo : uo ∉ hk7.1 := fun z => hqn20 (gm3_19.1 _ z)
  have gm3_n20 := gm3_19.tr ((GRp.new hqn20 e0_n20 e2_n20).mono (fun _ z => absurd z List.not_mem_nil))
  have nm4_uo : uo ∉ hk9.1 := fun z => hqn20 (gm4_19.1 _ z)
  have gm4_n20 := gm4_19.tr ((GRp.new hqn20 e0_n20 e2_n20).mono (fun _ z => absurd z List.not_mem_nil))
  have nm5_uo : uo ∉ hk12.1 := fun z => hqn20 (gm5_19.1 _ z)
  have gm5_n20 := gm5_19.tr ((GRp.new hqn20 e0_n20 e2_n20).mono (fun _ z => absurd z List.not_mem_nil))
  have nm6_uo : uo ∉ hk15.1 := fun z => hqn20 (gm6_19.1 _ z)
  have gm6_n20 := gm6_19.tr ((GRp.new hqn20 e0_n20 e2_n20).mono (fun _ z => absurd z List.not_mem_nil))
  have nm7_uo : uo ∉ hk18.1 := fun z => hqn20 (gm7_19.1 _ z)
  have gm7_n20 := gm7_19.tr ((GRp.new hqn20 e0_n20 e2_n20).mono (fun _ z => absurd z List.not_mem_nil))
  refine r_dup dX11_init_79 rfl ?_
  refine k_callIN (As := []) (b := uo) (rest := [.ref uo, .ref x]) (w := none) (st' := [.ref uo, .ref x]) (kv_X11_init_53 (gn_X11_53 hG)) dX11_init_80 rfl rfl (Nat.le_of_ble_eq_true rfl) (Nat.le_of_ble_eq_true rfl) (Nat.le_of_ble_eq_true rfl) (Nat.le_of_ble_eq_true rfl) (c_X4_init muo e1_n20) rfl (fun hk21 e9k21 => ?_)
  obtain ⟨Ak21, hUk21, nAk21, gck21⟩ := e9k21
  have fx_k21 := (gck21.2 x mx_n20 (fun z => nx_n20 (List.mem_singleton.mp z))).trans fx_n20
  have mx_k21 : x ∈ hk21.1 := gck21.1 _ mx_n20
  have grk21 := grn20.off gck21 (fun q z => by rw [List.mem_singleton.mp z]; exact nwuo)
  have gm0_k21 := gm0_n20.off gck21 (fun y z => by rw [List.mem_singleton.mp z]; exact nm0_uo)
  have gm1_k21 := gm1_n20.off gck21 (fun y z => by rw [List.mem_singleton.mp z]; exact nm1_uo)
  have gm2_k21 := gm2_n20.off gck21 (fun y z => by rw [List.mem_singleton.mp z]; exact nm2_uo)
  have gm3_k21 := gm3_n20.off gck21 (fun y z => by rw [List.mem_singleton.mp z]; exact nm3_uo)
  have gm4_k21 := gm4_n20.off gck21 (fun y z => by rw [List.mem_singleton.mp z]; exact nm4_uo)
  have gm5_k21 := gm5_n20.off gck21 (fun y z => by rw [List.mem_singleton.mp z]; exact nm5_uo)
  have gm6_k21 := gm6_n20.off gck21 (fun y z => by rw [List.mem_singleton.mp z]; exact nm6_uo)
  have gm7_k21 := gm7_n20.off gck21 (fun y z => by rw [List.mem_singleton.mp z]; exact nm7_uo)
  have mUk21 : uo ∈ hk21.1 ∧ Ak21 ∈ hk21.1 := by obtain ⟨g, m, -⟩ := hUk21; exact m
  have sub8 := gm7_k21.1
  have gz8 : GRp [x] hk21 hk21 := GRp.rf
  have mm8 : ∀ q ∈ [uo, Ak21], q ∈ hk21.1 := fun q z => by rcases mem2 z with e | e <;> rw [e]; exact mUk21.1; exact mUk21.2
  have nn8 : ∀ q ∈ [uo, Ak21], q ∉ hk18.1 := fun q z => by rcases mem2 z with e | e <;> rw [e]; exact nm7_uo; exact fun u => nAk21 (gm7_n20.1 _ u)
  refine i_putF [.ref inp, .int (iI 0), .ref po, .ref so, .ref bo, .ref dft, .ref snp, .int (iI 0), .ref hy, .ref uo] cl_X11 9 (by decide) kf_X11_54 rfl rfl rfl dX11_init_83 mx_k21 fx_k21 rfl rfl (by simp) rfl (fun h22 e0_22 e1_22 e2_22 => ?_)
  have mx_22 : x ∈ h22.1 := by rw [e0_22]; exact mx_k21
  have gw22 := grk21.tr (GRp.w (List.mem_singleton.mpr rfl) e0_22 e2_22)
  have gm0_22 := gm0_k21.tr (GRp.w (List.mem_singleton.mpr rfl) e0_22 e2_22)
  have gm1_22 := gm1_k21.tr (GRp.w (List.mem_singleton.mpr rfl) e0_22 e2_22)
  have gm2_22 := gm2_k21.tr (GRp.w (List.mem_singleton.mpr rfl) e0_22 e2_22)
  have gm3_22 := gm3_k21.tr (GRp.w (List.mem_singleton.mpr rfl) e0_22 e2_22)
  have gm4_22 := gm4_k21.tr (GRp.w (List.mem_singleton.mpr rfl) e0_22 e2_22)
  have gm5_22 := gm5_k21.tr (GRp.w (List.mem_singleton.mpr rfl) e0_22 e2_22)
  have gm6_22 := gm6_k21.tr (GRp.w (List.mem_singleton.mpr rfl) e0_22 e2_22)
  have gm7_22 := gm7_k21.tr (GRp.w (List.mem_singleton.mpr rfl) e0_22 e2_22)
  have gm8_22 := gz8.tr (GRp.w (List.mem_singleton.mpr rfl) e0_22 e2_22)
  refine r_return rfl dX11_init_86 ?_
  have nxx : ∀ {L H : List Nat}, (∀ q ∈ L, q ∉ H) → x ∈ H → ∀ q ∈ L, q ∉ [x] := fun a b q hq z => a q hq (by rw [mem1 z]; exact b)
  have x0 : x ∈ h.1 := mx
  have x1 : x ∈ hn1.1 := sub1 x x0
  have x2 : x ∈ hk4.1 := sub2 x x1
  have x3 : x ∈ hk7.1 := sub3 x x2
  have x4 : x ∈ hk9.1 := sub4 x x3
  have x5 : x ∈ hk12.1 := sub5 x x4
  have x6 : x ∈ hk15.1 := sub6 x x5
  have x7 : x ∈ hk18.1 := sub7 x x6
  have x8 : x ∈ hk21.1 := sub8 x x7
  have nx1 := nxx nn1 x0
  have nx2 := nxx nn2 x1
  have nx3 := nxx nn3 x2
  have nx4 := nxx nn4 x3
  have nx5 := nxx nn5 x4
  have nx6 := nxx nn6 x5
  have nx7 := nxx nn7 x6
  have nx8 := nxx nn8 x7
  have aI := hI1.gr gm1_22 (nx1 inp (by simp))
  have aP := hPk4.gr gm2_22 (nx2 po (by simp)) (nx2 tok4 (by simp))
  have aS := hSk7.gr gm3_22 (nx3 so (by simp)) (nx3 ak7 (by simp)) (nx3 bk7 (by simp)) (nx3 ck7 (by simp))
  have aB4 := hBk9.gr gm4_22 nx4
  have aB5 := hBk12.gr gm5_22 nx5
  have aB6 := hBk15.gr gm6_22 nx6
  have aH := hBk18.gr gm7_22 nx7
  have aU := hUk21.gr gm8_22 (nx8 uo (by simp)) (nx8 Ak21 (by simp))
  refine ⟨rfl, (inp, (po, tok4), (so, ak7, bk7, ck7), (bo, bA, fpk9), (dft, Ak12, fpk12), (snp, Ak15, fpk15), (hy, Ak18, fpk18), (uo, Ak21)), ⟨mx_22, e1_22, aI, ⟨_, _, _, _, aP⟩, ⟨_, aS⟩, aB4, ⟨_, aB5⟩, ⟨_, aB6, fun B9 z => by cases z⟩, aH, aU, ?_⟩, fun q hq => ?_, fun q hq => ?_, gw22⟩
  · refine djl_mk (fun i => match i with | 0 => [] | 1 => h.1 | 2 => hn1.1 | 3 => hk4.1 | 4 => hk7.1 | 5 => hk9.1 | 6 => hk12.1 | 7 => hk15.1 | 8 => hk18.1 | _ => hk21.1) ?_ ?_ ?_
    · intro i hi; rcases (show i = 0 ∨ i = 1 ∨ i = 2 ∨ i = 3 ∨ i = 4 ∨ i = 5 ∨ i = 6 ∨ i = 7 ∨ i = 8 by omega) with rfl | rfl | rfl | rfl | rfl | rfl | rfl | rfl | rfl
      exact fun q z => absurd z List.not_mem_nil
      exact sub1
      exact sub2
      exact sub3
      exact sub4
      exact sub5
      exact sub6
      exact sub7
      exact sub8
    · intro i hi; rcases (show i = 0 ∨ i = 1 ∨ i = 2 ∨ i = 3 ∨ i = 4 ∨ i = 5 ∨ i = 6 ∨ i = 7 ∨ i = 8 by omega) with rfl | rfl | rfl | rfl | rfl | rfl | rfl | rfl | rfl
      exact fun q z => by rw [mem1 z]; exact mx
      exact mm1
      exact mm2
      exact mm3
      exact mm4
      exact mm5
      exact mm6
      exact mm7
      exact mm8
    · intro i hi; rcases (show i = 0 ∨ i = 1 ∨ i = 2 ∨ i = 3 ∨ i = 4 ∨ i = 5 ∨ i = 6 ∨ i = 7 ∨ i = 8 by omega) with rfl | rfl | rfl | rfl | rfl | rfl | rfl | rfl | rfl
      exact fun q _ => List.not_mem_nil
      exact nn1
      exact nn2
      exact nn3
      exact nn4
      exact nn5
      exact nn6
      exact nn7
      exact nn8
  · have up : ∀ k : Nat, True := fun _ => trivial
    obtain ⟨l9, hl9, hq9⟩ := List.mem_flatten.mp hq
    obtain ⟨c9, hc9, e9⟩ := List.mem_map.mp hl9
    have hc9 : c9 = 0 ∨ c9 = 1 ∨ c9 = 2 ∨ c9 = 3 ∨ c9 = 4 ∨ c9 = 5 ∨ c9 = 6 ∨ c9 = 7 ∨ c9 = 8 := by simpa using hc9
    subst e9
    rcases hc9 with rfl | rfl | rfl | rfl | rfl | rfl | rfl | rfl | rfl
    · exact Or.inl (mem1 hq9)
    · exact Or.inr (fun z => nn1 q hq9 (z))
    · exact Or.inr (fun z => nn2 q hq9 (sub1 _ (z)))
    · exact Or.inr (fun z => nn3 q hq9 (sub2 _ (sub1 _ (z))))
    · exact Or.inr (fun z => nn4 q hq9 (sub3 _ (sub2 _ (sub1 _ (z)))))
    · exact Or.inr (fun z => nn5 q hq9 (sub4 _ (sub3 _ (sub2 _ (sub1 _ (z))))))
    · exact Or.inr (fun z => nn6 q hq9 (sub5 _ (sub4 _ (sub3 _ (sub2 _ (sub1 _ (z)))))))
    · exact Or.inr (fun z => nn7 q hq9 (sub6 _ (sub5 _ (sub4 _ (sub3 _ (sub2 _ (sub1 _ (z))))))))
    · exact Or.inr (fun z => nn8 q hq9 (sub7 _ (sub6 _ (sub5 _ (sub4 _ (sub3 _ (sub2 _ (sub1 _ (z)))))))))
  · obtain ⟨l9, hl9, hq9⟩ := List.mem_flatten.mp hq
    obtain ⟨c9, hc9, e9⟩ := List.mem_map.mp hl9
    have hc9 : c9 = 0 ∨ c9 = 1 ∨ c9 = 2 ∨ c9 = 3 ∨ c9 = 4 ∨ c9 = 5 ∨ c9 = 6 ∨ c9 = 7 ∨ c9 = 8 := by simpa using hc9
    subst e9
    rcases hc9 with rfl | rfl | rfl | rfl | rfl | rfl | rfl | rfl | rfl
    · rw [mem1 hq9]; exact mx_22
    · exact gm1_22.1 _ (mm1 q hq9)
    · exact gm2_22.1 _ (mm2 q hq9)
    · exact gm3_22.1 _ (mm3 q hq9)
    · exact gm4_22.1 _ (mm4 q hq9)
    · exact gm5_22.1 _ (mm5 q hq9)
    · exact gm6_22.1 _ (mm6 q hq9)
    · exact gm7_22.1 _ (mm7 q hq9)
    · exact gm8_22.1 _ (mm8 q hq9)
