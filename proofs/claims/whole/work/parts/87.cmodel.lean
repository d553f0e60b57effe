/-! ===== the reference: made ===== -/
def HDR (g : Nat → Int32) : Prop := g 0 = iI 22 ∧ g 1 = iI 18 ∧ g 2 = iI 5 ∧ g 4 = iI 0 ∧ g 5 = iI 0 ∧ g 6 = iI 0 ∧ ∃ s6, SWr g (7 + 207 * 6) s6
theorem HDR.of {g : Nat → Int32} (h : RWf g 0 ((22, 18, 5, 0, 0, 0), [])) : HDR g := by
  obtain ⟨⟨⟨e0, e1, e2, e3, e4, e5, e6⟩, -, -⟩, s6, h6⟩ := h
  exact ⟨e0, e1, e2, e4, e5, e6, s6, h6⟩
theorem HDR.eqo {g g' : Nat → Int32} {i : Nat} (h : HDR g) (e : EQo i g g') (hi : i ≤ 5) : HDR g' := by
  obtain ⟨e0, e1, e2, e4, e5, e6, s6, h6⟩ := h
  exact ⟨(e 0 (Or.inl (by omega))).trans e0, (e 1 (Or.inl (by omega))).trans e1, (e 2 (Or.inl (by omega))).trans e2, (e 4 (Or.inl (by omega))).trans e4, (e 5 (Or.inl (by omega))).trans e5, (e 6 (Or.inl (by omega))).trans e6, s6, h6.oth e (by omega)⟩
theorem HDR.rw {g : Nat → Int32} (h : HDR g) {s0 s1 : AS} (h0 : SWr g (7 + 207 * 0) s0) (h1 : SWr g (7 + 207 * 1) s1) : RWf (upd g 3 (iI 2)) 0 ((22, 18, 5, 0, 0, 0), [s0, s1]) := by
  obtain ⟨e0, e1, e2, e4, e5, e6, s6, h6⟩ := h
  have n : ∀ k, k ≠ 3 → upd g 3 (iI 2) k = g k := fun k hk => if_neg hk
  refine ⟨⟨⟨(n 0 (by decide)).trans e0, (n 1 (by decide)).trans e1, (n 2 (by decide)).trans e2, if_pos rfl, (n 4 (by decide)).trans e4, (n 5 (by decide)).trans e5, (n 6 (by decide)).trans e6⟩, by show 2 ≤ 6; decide, fun i hi => ?_⟩, s6, ?_⟩
  · have hi : i < 2 := hi
    rcases (show i = 0 ∨ i = 1 by omega) with e | e <;> subst e
    · exact h0.mv (fun k hk => (n _ (by omega)).trans (congrArg g (by omega)))
    · exact h1.mv (fun k hk => (n _ (by omega)).trans (congrArg g (by omega)))
  · exact h6.mv (fun k hk => (n _ (by omega)).trans (congrArg g (by omega)))
theorem nfr {q x : Nat} (h : q ≠ x) : q ∉ [x] := fun z => h (List.mem_singleton.mp z)
set_option maxRecDepth 20000 in
set_option maxHeartbeats 1000000 in
theorem c_X12_init {G : xG} {h : xH} {sa : Nat → Nat} (hGT : GT G sa) (hAO : GAO G) {m : Nat} (mm : m ∈ h.1) (fm : h.2 m = .inr (8, [.null, .null, .null, .null, .null, .null, .int (iI 0), .int (iI 0), .int (iI 0), .int (iI 0), .int (iI 0), .int (iI 0), .int (iI 0), .int (iI 0), .null, .int (iI 0), .null, .int (iI 0), .int (iI 0), .int (iI 0), .int (iI 0), .int (iI 0), .int (iI 0), .int (iI 0), .int (iI 0), .int (iI 0), .null, .null, .int (iI 0)])) : CC G MX12_init [.ref m] h (fun o9 h9 => o9 = .inl none ∧ ∃ a, MB G h9 sa m a S00 0 ∧ (∀ q ∈ fpM m a, q = m ∨ q ∉ h.1) ∧ a.2.2.2.2.2.2.2.2 ∉ h.1 ∧ GRp [m] h h9) := by
  have hOs : ∀ i, i < 13 → x_zz G (va_O "java/lang/String" (sa i)) := fun i hi => by obtain ⟨⟨w9, hO, -⟩, -⟩ := hGT.2.1 i hi; exact hO
  have gr0 : GRp [m] h h := GRp.rf
  show RR G MX12_init 0 [(0, .ref m)] [] h (xm_R MX12_init).cells (xm_R MX12_init).slots (fun o9 h9 => o9 = .inl none ∧ ∃ a, MB G h9 sa m a S00 0 ∧ (∀ q ∈ fpM m a, q = m ∨ q ∉ h.1) ∧ a.2.2.2.2.2.2.2.2 ∉ h.1 ∧ GRp [m] h h9)
  refine r_aload_n dX12_init_0 0 rfl ?_
  refine r_objinit km_X12_1 ks_obj.1 ks_obj.2 dX12_init_1 (by decide) (by decide) ?_
  refine r_aload_n dX12_init_4 0 rfl ?_
  refine i_sipush (1456) (by decide) dX12_init_5 ?_
  refine i_newI 1456 rfl (by decide) dX12_init_8 (Nat.le_of_ble_eq_true rfl) (Nat.le_of_ble_eq_true rfl) (fun nw hn1 hqn1 e0_n1 e1_n1 e2_n1 => ?_)
  have nm_n1 : m ≠ nw := fun z => hqn1 (by rw [← z]; exact mm)
  have fm_n1 := (e2_n1 m nm_n1).trans fm
  have mm_n1 : m ∈ hn1.1 := by rw [e0_n1]; exact List.mem_append_left _ mm
  have mnw : nw ∈ hn1.1 := by rw [e0_n1]; exact List.mem_append_right _ (List.mem_singleton.mpr rfl)
  have grn1 := gr0.tr ((GRp.new hqn1 e0_n1 e2_n1).mono (fun _ z => absurd z List.not_mem_nil))
  have nwnw : nw ∉ h.1 := fun z => hqn1 (gr0.1 _ z)
  refine i_putF [.ref nw, .null, .null, .null, .null, .null, .int (iI 0), .int (iI 0), .int (iI 0), .int (iI 0), .int (iI 0), .int (iI 0), .int (iI 0), .int (iI 0), .null, .int (iI 0), .null, .int (iI 0), .int (iI 0), .int (iI 0), .int (iI 0), .int (iI 0), .int (iI 0), .int (iI 0), .int (iI 0), .int (iI 0), .null, .null, .int (iI 0)] cl_X12 0 (by decide) kf_X12_9 rfl rfl rfl dX12_init_10 mm_n1 fm_n1 rfl rfl (by simp) rfl (fun h2 e0_2 e1_2 e2_2 => ?_)
  have mm_2 : m ∈ h2.1 := by rw [e0_2]; exact mm_n1
  have mnw_2 : nw ∈ h2.1 := by rw [e0_2]; exact mnw
  have fnw_2 := (e2_2 _ (Ne.symm nm_n1)).trans e1_n1
  have gw2 := grn1.tr (GRp.w (List.mem_singleton.mpr rfl) e0_2 e2_2)
  refine r_aload_n dX12_init_13 0 rfl ?_
  refine i_sipush (1456) (by decide) dX12_init_14 ?_
  refine i_newI 1456 rfl (by decide) dX12_init_17 (Nat.le_of_ble_eq_true rfl) (Nat.le_of_ble_eq_true rfl) (fun dr hn3 hqn3 e0_n3 e1_n3 e2_n3 => ?_)
  have nm_n3 : m ≠ dr := fun z => hqn3 (by rw [← z]; exact mm_2)
  have fm_n3 := (e2_n3 m nm_n3).trans e1_2
  have mm_n3 : m ∈ hn3.1 := by rw [e0_n3]; exact List.mem_append_left _ mm_2
  have nnw_n3 : nw ≠ dr := fun z => hqn3 (by rw [← z]; exact mnw_2)
  have fnw_n3 := (e2_n3 nw nnw_n3).trans fnw_2
  have mnw_n3 : nw ∈ hn3.1 := by rw [e0_n3]; exact List.mem_append_left _ mnw_2
  have mdr : dr ∈ hn3.1 := by rw [e0_n3]; exact List.mem_append_right _ (List.mem_singleton.mpr rfl)
  have grn3 := gw2.tr ((GRp.new hqn3 e0_n3 e2_n3).mono (fun _ z => absurd z List.not_mem_nil))
  have nwdr : dr ∉ h.1 := fun z => hqn3 (gw2.1 _ z)
  refine i_putF [.ref nw, .ref dr, .null, .null, .null, .null, .int (iI 0), .int (iI 0), .int (iI 0), .int (iI 0), .int (iI 0), .int (iI 0), .int (iI 0), .int (iI 0), .null, .int (iI 0), .null, .int (iI 0), .int (iI 0), .int (iI 0), .int (iI 0), .int (iI 0), .int (iI 0), .int (iI 0), .int (iI 0), .int (iI 0), .null, .null, .int (iI 0)] cl_X12 1 (by decide) kf_X12_13 rfl rfl rfl dX12_init_19 mm_n3 fm_n3 rfl rfl (by simp) rfl (fun h4 e0_4 e1_4 e2_4 => ?_)
  have mm_4 : m ∈ h4.1 := by rw [e0_4]; exact mm_n3
  have mnw_4 : nw ∈ h4.1 := by rw [e0_4]; exact mnw_n3
  have fnw_4 := (e2_4 _ (Ne.symm nm_n1)).trans fnw_n3
  have mdr_4 : dr ∈ h4.1 := by rw [e0_4]; exact mdr
  have fdr_4 := (e2_4 _ (Ne.symm nm_n3)).trans e1_n3
  have gw4 := grn3.tr (GRp.w (List.mem_singleton.mpr rfl) e0_4 e2_4)
  refine r_aload_n dX12_init_22 0 rfl ?_
  refine i_sipush (1456) (by decide) dX12_init_23 ?_
  refine i_newI 1456 rfl (by decide) dX12_init_26 (Nat.le_of_ble_eq_true rfl) (Nat.le_of_ble_eq_true rfl) (fun kp hn5 hqn5 e0_n5 e1_n5 e2_n5 => ?_)
  have nm_n5 : m ≠ kp := fun z => hqn5 (by rw [← z]; exact mm_4)
  have fm_n5 := (e2_n5 m nm_n5).trans e1_4
  have mm_n5 : m ∈ hn5.1 := by rw [e0_n5]; exact List.mem_append_left _ mm_4
  have nnw_n5 : nw ≠ kp := fun z => hqn5 (by rw [← z]; exact mnw_4)
  have fnw_n5 := (e2_n5 nw nnw_n5).trans fnw_4
  have mnw_n5 : nw ∈ hn5.1 := by rw [e0_n5]; exact List.mem_append_left _ mnw_4
  have ndr_n5 : dr ≠ kp := fun z => hqn5 (by rw [← z]; exact mdr_4)
  have fdr_n5 := (e2_n5 dr ndr_n5).trans fdr_4
  have mdr_n5 : dr ∈ hn5.1 := by rw [e0_n5]; exact List.mem_append_left _ mdr_4
  have mkp : kp ∈ hn5.1 := by rw [e0_n5]; exact List.mem_append_right _ (List.mem_singleton.mpr rfl)
  have grn5 := gw4.tr ((GRp.new hqn5 e0_n5 e2_n5).mono (fun _ z => absurd z List.not_mem_nil))
  have nwkp : kp ∉ h.1 := fun z => hqn5 (gw4.1 _ z)
  refine i_putF [.ref nw, .ref dr, .ref kp, .null, .null, .null, .int (iI 0), .int (iI 0), .int (iI 0), .int (iI 0), .int (iI 0), .int (iI 0), .int (iI 0), .int (iI 0), .null, .int (iI 0), .null, .int (iI 0), .int (iI 0), .int (iI 0), .int (iI 0), .int (iI 0), .int (iI 0), .int (iI 0), .int (iI 0), .int (iI 0), .null, .null, .int (iI 0)] cl_X12 2 (by decide) kf_X12_16 rfl rfl rfl dX12_init_28 mm_n5 fm_n5 rfl rfl (by simp) rfl (fun h6 e0_6 e1_6 e2_6 => ?_)
  have mm_6 : m ∈ h6.1 := by rw [e0_6]; exact mm_n5
  have mnw_6 : nw ∈ h6.1 := by rw [e0_6]; exact mnw_n5
  have fnw_6 := (e2_6 _ (Ne.symm nm_n1)).trans fnw_n5
  have mdr_6 : dr ∈ h6.1 := by rw [e0_6]; exact mdr_n5
  have fdr_6 := (e2_6 _ (Ne.symm nm_n3)).trans fdr_n5
  have mkp_6 : kp ∈ h6.1 := by rw [e0_6]; exact mkp
  have fkp_6 := (e2_6 _ (Ne.symm nm_n5)).trans e1_n5
  have gw6 := grn5.tr (GRp.w (List.mem_singleton.mpr rfl) e0_6 e2_6)
  refine r_aload_n dX12_init_31 0 rfl ?_
  refine i_sipush (1456) (by decide) dX12_init_32 ?_
  refine i_newI 1456 rfl (by decide) dX12_init_35 (Nat.le_of_ble_eq_true rfl) (Nat.le_of_ble_eq_true rfl) (fun sv hn7 hqn7 e0_n7 e1_n7 e2_n7 => ?_)
  have nm_n7 : m ≠ sv := fun z => hqn7 (by rw [← z]; exact mm_6)
  have fm_n7 := (e2_n7 m nm_n7).trans e1_6
  have mm_n7 : m ∈ hn7.1 := by rw [e0_n7]; exact List.mem_append_left _ mm_6
  have nnw_n7 : nw ≠ sv := fun z => hqn7 (by rw [← z]; exact mnw_6)
  have fnw_n7 := (e2_n7 nw nnw_n7).trans fnw_6
  have mnw_n7 : nw ∈ hn7.1 := by rw [e0_n7]; exact List.mem_append_left _ mnw_6
  have ndr_n7 : dr ≠ sv := fun z => hqn7 (by rw [← z]; exact mdr_6)
  have fdr_n7 := (e2_n7 dr ndr_n7).trans fdr_6
  have mdr_n7 : dr ∈ hn7.1 := by rw [e0_n7]; exact List.mem_append_left _ mdr_6
  have nkp_n7 : kp ≠ sv := fun z => hqn7 (by rw [← z]; exact mkp_6)
  have fkp_n7 := (e2_n7 kp nkp_n7).trans fkp_6
  have mkp_n7 : kp ∈ hn7.1 := by rw [e0_n7]; exact List.mem_append_left _ mkp_6
  have msv : sv ∈ hn7.1 := by rw [e0_n7]; exact List.mem_append_right _ (List.mem_singleton.mpr rfl)
  have grn7 := gw6.tr ((GRp.new hqn7 e0_n7 e2_n7).mono (fun _ z => absurd z List.not_mem_nil))
  have nwsv : sv ∉ h.1 := fun z => hqn7 (gw6.1 _ z)
  refine i_putF [.ref nw, .ref dr, .ref kp, .ref sv, .null, .null, .int (iI 0), .int (iI 0), .int (iI 0), .int (iI 0), .int (iI 0), .int (iI 0), .int (iI 0), .int (iI 0), .null, .int (iI 0), .null, .int (iI 0), .int (iI 0), .int (iI 0), .int (iI 0), .int (iI 0), .int (iI 0), .int (iI 0), .int (iI 0), .int (iI 0), .null, .null, .int (iI 0)] cl_X12 3 (by decide) kf_X12_19 rfl rfl rfl dX12_init_37 mm_n7 fm_n7 rfl rfl (by simp) rfl (fun h8 e0_8 e1_8 e2_8 => ?_)
  have mm_8 : m ∈ h8.1 := by rw [e0_8]; exact mm_n7
  have mnw_8 : nw ∈ h8.1 := by rw [e0_8]; exact mnw_n7
  have fnw_8 := (e2_8 _ (Ne.symm nm_n1)).trans fnw_n7
  have mdr_8 : dr ∈ h8.1 := by rw [e0_8]; exact mdr_n7
  have fdr_8 := (e2_8 _ (Ne.symm nm_n3)).trans fdr_n7
  have mkp_8 : kp ∈ h8.1 := by rw [e0_8]; exact mkp_n7
  have fkp_8 := (e2_8 _ (Ne.symm nm_n5)).trans fkp_n7
  have msv_8 : sv ∈ h8.1 := by rw [e0_8]; exact msv
  have fsv_8 := (e2_8 _ (Ne.symm nm_n7)).trans e1_n7
  have gw8 := grn7.tr (GRp.w (List.mem_singleton.mpr rfl) e0_8 e2_8)
  refine r_aload_n dX12_init_40 0 rfl ?_
  refine i_sipush (11648) (by decide) dX12_init_41 ?_
  refine i_newI 11648 rfl (by decide) dX12_init_44 (Nat.le_of_ble_eq_true rfl) (Nat.le_of_ble_eq_true rfl) (fun hy hn9 hqn9 e0_n9 e1_n9 e2_n9 => ?_)
  have nm_n9 : m ≠ hy := fun z => hqn9 (by rw [← z]; exact mm_8)
  have fm_n9 := (e2_n9 m nm_n9).trans e1_8
  have mm_n9 : m ∈ hn9.1 := by rw [e0_n9]; exact List.mem_append_left _ mm_8
  have nnw_n9 : nw ≠ hy := fun z => hqn9 (by rw [← z]; exact mnw_8)
  have fnw_n9 := (e2_n9 nw nnw_n9).trans fnw_8
  have mnw_n9 : nw ∈ hn9.1 := by rw [e0_n9]; exact List.mem_append_left _ mnw_8
  have ndr_n9 : dr ≠ hy := fun z => hqn9 (by rw [← z]; exact mdr_8)
  have fdr_n9 := (e2_n9 dr ndr_n9).trans fdr_8
  have mdr_n9 : dr ∈ hn9.1 := by rw [e0_n9]; exact List.mem_append_left _ mdr_8
  have nkp_n9 : kp ≠ hy := fun z => hqn9 (by rw [← z]; exact mkp_8)
  have fkp_n9 := (e2_n9 kp nkp_n9).trans fkp_8
  have mkp_n9 : kp ∈ hn9.1 := by rw [e0_n9]; exact List.mem_append_left _ mkp_8
  have nsv_n9 : sv ≠ hy := fun z => hqn9 (by rw [← z]; exact msv_8)
  have fsv_n9 := (e2_n9 sv nsv_n9).trans fsv_8
  have msv_n9 : sv ∈ hn9.1 := by rw [e0_n9]; exact List.mem_append_left _ msv_8
  have mhy : hy ∈ hn9.1 := by rw [e0_n9]; exact List.mem_append_right _ (List.mem_singleton.mpr rfl)
  have grn9 := gw8.tr ((GRp.new hqn9 e0_n9 e2_n9).mono (fun _ z => absurd z List.not_mem_nil))
  have nwhy : hy ∉ h.1 := fun z => hqn9 (gw8.1 _ z)
  refine i_putF [.ref nw, .ref dr, .ref kp, .ref sv, .ref hy, .null, .int (iI 0), .int (iI 0), .int (iI 0), .int (iI 0), .int (iI 0), .int (iI 0), .int (iI 0), .int (iI 0), .null, .int (iI 0), .null, .int (iI 0), .int (iI 0), .int (iI 0), .int (iI 0), .int (iI 0), .int (iI 0), .int (iI 0), .int (iI 0), .int (iI 0), .null, .null, .int (iI 0)] cl_X12 4 (by decide) kf_X12_22 rfl rfl rfl dX12_init_46 mm_n9 fm_n9 rfl rfl (by simp) rfl (fun h10 e0_10 e1_10 e2_10 => ?_)
  have mm_10 : m ∈ h10.1 := by rw [e0_10]; exact mm_n9
  have mnw_10 : nw ∈ h10.1 := by rw [e0_10]; exact mnw_n9
  have fnw_10 := (e2_10 _ (Ne.symm nm_n1)).trans fnw_n9
  have mdr_10 : dr ∈ h10.1 := by rw [e0_10]; exact mdr_n9
  have fdr_10 := (e2_10 _ (Ne.symm nm_n3)).trans fdr_n9
  have mkp_10 : kp ∈ h10.1 := by rw [e0_10]; exact mkp_n9
  have fkp_10 := (e2_10 _ (Ne.symm nm_n5)).trans fkp_n9
  have msv_10 : sv ∈ h10.1 := by rw [e0_10]; exact msv_n9
  have fsv_10 := (e2_10 _ (Ne.symm nm_n7)).trans fsv_n9
  have mhy_10 : hy ∈ h10.1 := by rw [e0_10]; exact mhy
  have fhy_10 := (e2_10 _ (Ne.symm nm_n9)).trans e1_n9
  have gw10 := grn9.tr (GRp.w (List.mem_singleton.mpr rfl) e0_10 e2_10)
  refine r_aload_n dX12_init_49 0 rfl ?_
  refine r_aload_n dX12_init_50 0 rfl ?_
  refine r_get cl_X12 0 (by decide) kf_X12_9 dX12_init_51 mm_10 e1_10 rfl ?_
  refine i_put [.ref nw, .ref dr, .ref kp, .ref sv, .ref hy, .ref nw, .int (iI 0), .int (iI 0), .int (iI 0), .int (iI 0), .int (iI 0), .int (iI 0), .int (iI 0), .int (iI 0), .null, .int (iI 0), .null, .int (iI 0), .int (iI 0), .int (iI 0), .int (iI 0), .int (iI 0), .int (iI 0), .int (iI 0), .int (iI 0), .int (iI 0), .null, .null, .int (iI 0)] cl_X12 5 (by decide) kf_X12_25 rfl dX12_init_54 mm_10 e1_10 rfl rfl (by simp) rfl (fun h11 e0_11 e1_11 e2_11 => ?_)
  have mm_11 : m ∈ h11.1 := by rw [e0_11]; exact mm_10
  have mnw_11 : nw ∈ h11.1 := by rw [e0_11]; exact mnw_10
  have fnw_11 := (e2_11 _ (Ne.symm nm_n1)).trans fnw_10
  have mdr_11 : dr ∈ h11.1 := by rw [e0_11]; exact mdr_10
  have fdr_11 := (e2_11 _ (Ne.symm nm_n3)).trans fdr_10
  have mkp_11 : kp ∈ h11.1 := by rw [e0_11]; exact mkp_10
  have fkp_11 := (e2_11 _ (Ne.symm nm_n5)).trans fkp_10
  have msv_11 : sv ∈ h11.1 := by rw [e0_11]; exact msv_10
  have fsv_11 := (e2_11 _ (Ne.symm nm_n7)).trans fsv_10
  have mhy_11 : hy ∈ h11.1 := by rw [e0_11]; exact mhy_10
  have fhy_11 := (e2_11 _ (Ne.symm nm_n9)).trans fhy_10
  have gw11 := gw10.tr (GRp.w (List.mem_singleton.mpr rfl) e0_11 e2_11)
  refine r_aload_n dX12_init_57 0 rfl ?_
  refine i_sipush (1300) (by decide) dX12_init_58 ?_
  refine i_newI 1300 rfl (by decide) dX12_init_61 (Nat.le_of_ble_eq_true rfl) (Nat.le_of_ble_eq_true rfl) (fun ou hn12 hqn12 e0_n12 e1_n12 e2_n12 => ?_)
  have nm_n12 : m ≠ ou := fun z => hqn12 (by rw [← z]; exact mm_11)
  have fm_n12 := (e2_n12 m nm_n12).trans e1_11
  have mm_n12 : m ∈ hn12.1 := by rw [e0_n12]; exact List.mem_append_left _ mm_11
  have nnw_n12 : nw ≠ ou := fun z => hqn12 (by rw [← z]; exact mnw_11)
  have fnw_n12 := (e2_n12 nw nnw_n12).trans fnw_11
  have mnw_n12 : nw ∈ hn12.1 := by rw [e0_n12]; exact List.mem_append_left _ mnw_11
  have ndr_n12 : dr ≠ ou := fun z => hqn12 (by rw [← z]; exact mdr_11)
  have fdr_n12 := (e2_n12 dr ndr_n12).trans fdr_11
  have mdr_n12 : dr ∈ hn12.1 := by rw [e0_n12]; exact List.mem_append_left _ mdr_11
  have nkp_n12 : kp ≠ ou := fun z => hqn12 (by rw [← z]; exact mkp_11)
  have fkp_n12 := (e2_n12 kp nkp_n12).trans fkp_11
  have mkp_n12 : kp ∈ hn12.1 := by rw [e0_n12]; exact List.mem_append_left _ mkp_11
  have nsv_n12 : sv ≠ ou := fun z => hqn12 (by rw [← z]; exact msv_11)
  have fsv_n12 := (e2_n12 sv nsv_n12).trans fsv_11
  have msv_n12 : sv ∈ hn12.1 := by rw [e0_n12]; exact List.mem_append_left _ msv_11
  have nhy_n12 : hy ≠ ou := fun z => hqn12 (by rw [← z]; exact mhy_11)
  have fhy_n12 := (e2_n12 hy nhy_n12).trans fhy_11
  have mhy_n12 : hy ∈ hn12.1 := by rw [e0_n12]; exact List.mem_append_left _ mhy_11
  have mou : ou ∈ hn12.1 := by rw [e0_n12]; exact List.mem_append_right _ (List.mem_singleton.mpr rfl)
  have grn12 := gw11.tr ((GRp.new hqn12 e0_n12 e2_n12).mono (fun _ z => absurd z List.not_mem_nil))
  have nwou : ou ∉ h.1 := fun z => hqn12 (gw11.1 _ z)
  refine i_putF [.ref nw, .ref dr, .ref kp, .ref sv, .ref hy, .ref nw, .int (iI 0), .int (iI 0), .int (iI 0), .int (iI 0), .int (iI 0), .int (iI 0), .int (iI 0), .int (iI 0), .ref ou, .int (iI 0), .null, .int (iI 0), .int (iI 0), .int (iI 0), .int (iI 0), .int (iI 0), .int (iI 0), .int (iI 0), .int (iI 0), .int (iI 0), .null, .null, .int (iI 0)] cl_X12 14 (by decide) kf_X12_28 rfl rfl rfl dX12_init_63 mm_n12 fm_n12 rfl rfl (by simp) rfl (fun h13 e0_13 e1_13 e2_13 => ?_)
  have mm_13 : m ∈ h13.1 := by rw [e0_13]; exact mm_n12
  have mnw_13 : nw ∈ h13.1 := by rw [e0_13]; exact mnw_n12
  have fnw_13 := (e2_13 _ (Ne.symm nm_n1)).trans fnw_n12
  have mdr_13 : dr ∈ h13.1 := by rw [e0_13]; exact mdr_n12
  have fdr_13 := (e2_13 _ (Ne.symm nm_n3)).trans fdr_n12
  have mkp_13 : kp ∈ h13.1 := by rw [e0_13]; exact mkp_n12
  have fkp_13 := (e2_13 _ (Ne.symm nm_n5)).trans fkp_n12
  have msv_13 : sv ∈ h13.1 := by rw [e0_13]; exact msv_n12
  have fsv_13 := (e2_13 _ (Ne.symm nm_n7)).trans fsv_n12
  have mhy_13 : hy ∈ h13.1 := by rw [e0_13]; exact mhy_n12
  have fhy_13 := (e2_13 _ (Ne.symm nm_n9)).trans fhy_n12
  have mou_13 : ou ∈ h13.1 := by rw [e0_13]; exact mou
  have fou_13 := (e2_13 _ (Ne.symm nm_n12)).trans e1_n12
  have gw13 := grn12.tr (GRp.w (List.mem_singleton.mpr rfl) e0_13 e2_13)
  refine r_aload_n dX12_init_66 0 rfl ?_
  refine i_sipush (500) (by decide) dX12_init_67 ?_
  refine i_newI 500 rfl (by decide) dX12_init_70 (Nat.le_of_ble_eq_true rfl) (Nat.le_of_ble_eq_true rfl) (fun bu hn14 hqn14 e0_n14 e1_n14 e2_n14 => ?_)
  have nm_n14 : m ≠ bu := fun z => hqn14 (by rw [← z]; exact mm_13)
  have fm_n14 := (e2_n14 m nm_n14).trans e1_13
  have mm_n14 : m ∈ hn14.1 := by rw [e0_n14]; exact List.mem_append_left _ mm_13
  have nnw_n14 : nw ≠ bu := fun z => hqn14 (by rw [← z]; exact mnw_13)
  have fnw_n14 := (e2_n14 nw nnw_n14).trans fnw_13
  have mnw_n14 : nw ∈ hn14.1 := by rw [e0_n14]; exact List.mem_append_left _ mnw_13
  have ndr_n14 : dr ≠ bu := fun z => hqn14 (by rw [← z]; exact mdr_13)
  have fdr_n14 := (e2_n14 dr ndr_n14).trans fdr_13
  have mdr_n14 : dr ∈ hn14.1 := by rw [e0_n14]; exact List.mem_append_left _ mdr_13
  have nkp_n14 : kp ≠ bu := fun z => hqn14 (by rw [← z]; exact mkp_13)
  have fkp_n14 := (e2_n14 kp nkp_n14).trans fkp_13
  have mkp_n14 : kp ∈ hn14.1 := by rw [e0_n14]; exact List.mem_append_left _ mkp_13
  have nsv_n14 : sv ≠ bu := fun z => hqn14 (by rw [← z]; exact msv_13)
  have fsv_n14 := (e2_n14 sv nsv_n14).trans fsv_13
  have msv_n14 : sv ∈ hn14.1 := by rw [e0_n14]; exact List.mem_append_left _ msv_13
  have nhy_n14 : hy ≠ bu := fun z => hqn14 (by rw [← z]; exact mhy_13)
  have fhy_n14 := (e2_n14 hy nhy_n14).trans fhy_13
  have mhy_n14 : hy ∈ hn14.1 := by rw [e0_n14]; exact List.mem_append_left _ mhy_13
  have nou_n14 : ou ≠ bu := fun z => hqn14 (by rw [← z]; exact mou_13)
  have fou_n14 := (e2_n14 ou nou_n14).trans fou_13
  have mou_n14 : ou ∈ hn14.1 := by rw [e0_n14]; exact List.mem_append_left _ mou_13
  have mbu : bu ∈ hn14.1 := by rw [e0_n14]; exact List.mem_append_right _ (List.mem_singleton.mpr rfl)
  have grn14 := gw13.tr ((GRp.new hqn14 e0_n14 e2_n14).mono (fun _ z => absurd z List.not_mem_nil))
  have nwbu : bu ∉ h.1 := fun z => hqn14 (gw13.1 _ z)
  refine i_putF [.ref nw, .ref dr, .ref kp, .ref sv, .ref hy, .ref nw, .int (iI 0), .int (iI 0), .int (iI 0), .int (iI 0), .int (iI 0), .int (iI 0), .int (iI 0), .int (iI 0), .ref ou, .int (iI 0), .ref bu, .int (iI 0), .int (iI 0), .int (iI 0), .int (iI 0), .int (iI 0), .int (iI 0), .int (iI 0), .int (iI 0), .int (iI 0), .null, .null, .int (iI 0)] cl_X12 16 (by decide) kf_X12_31 rfl rfl rfl dX12_init_72 mm_n14 fm_n14 rfl rfl (by simp) rfl (fun h15 e0_15 e1_15 e2_15 => ?_)
  have mm_15 : m ∈ h15.1 := by rw [e0_15]; exact mm_n14
  have mnw_15 : nw ∈ h15.1 := by rw [e0_15]; exact mnw_n14
  have fnw_15 := (e2_15 _ (Ne.symm nm_n1)).trans fnw_n14
  have mdr_15 : dr ∈ h15.1 := by rw [e0_15]; exact mdr_n14
  have fdr_15 := (e2_15 _ (Ne.symm nm_n3)).trans fdr_n14
  have mkp_15 : kp ∈ h15.1 := by rw [e0_15]; exact mkp_n14
  have fkp_15 := (e2_15 _ (Ne.symm nm_n5)).trans fkp_n14
  have msv_15 : sv ∈ h15.1 := by rw [e0_15]; exact msv_n14
  have fsv_15 := (e2_15 _ (Ne.symm nm_n7)).trans fsv_n14
  have mhy_15 : hy ∈ h15.1 := by rw [e0_15]; exact mhy_n14
  have fhy_15 := (e2_15 _ (Ne.symm nm_n9)).trans fhy_n14
  have mou_15 : ou ∈ h15.1 := by rw [e0_15]; exact mou_n14
  have fou_15 := (e2_15 _ (Ne.symm nm_n12)).trans fou_n14
  have mbu_15 : bu ∈ h15.1 := by rw [e0_15]; exact mbu
  have fbu_15 := (e2_15 _ (Ne.symm nm_n14)).trans e1_n14
  have gw15 := grn14.tr (GRp.w (List.mem_singleton.mpr rfl) e0_15 e2_15)
  refine r_aload_n dX12_init_75 0 rfl ?_
  refine i_const (-1) dX12_init_76 ?_
  refine i_put [.ref nw, .ref dr, .ref kp, .ref sv, .ref hy, .ref nw, .int (iI 0), .int (iI 0), .int (iI 0), .int (iI 0), .int (iI 0), .int (iI 0), .int (iI 0), .int (iI 0), .ref ou, .int (iI 0), .ref bu, .int (iI 0), .int (iI 0), .int (iI 0), .int (iI 0), .int (iI 0), .int (iI 0), .int (iI 0), .int (iI ((-1))), .int (iI 0), .null, .null, .int (iI 0)] cl_X12 24 (by decide) kf_X12_34 rfl dX12_init_77 mm_15 e1_15 rfl rfl (by simp) rfl (fun h16 e0_16 e1_16 e2_16 => ?_)
  have mm_16 : m ∈ h16.1 := by rw [e0_16]; exact mm_15
  have mnw_16 : nw ∈ h16.1 := by rw [e0_16]; exact mnw_15
  have fnw_16 := (e2_16 _ (Ne.symm nm_n1)).trans fnw_15
  have mdr_16 : dr ∈ h16.1 := by rw [e0_16]; exact mdr_15
  have fdr_16 := (e2_16 _ (Ne.symm nm_n3)).trans fdr_15
  have mkp_16 : kp ∈ h16.1 := by rw [e0_16]; exact mkp_15
  have fkp_16 := (e2_16 _ (Ne.symm nm_n5)).trans fkp_15
  have msv_16 : sv ∈ h16.1 := by rw [e0_16]; exact msv_15
  have fsv_16 := (e2_16 _ (Ne.symm nm_n7)).trans fsv_15
  have mhy_16 : hy ∈ h16.1 := by rw [e0_16]; exact mhy_15
  have fhy_16 := (e2_16 _ (Ne.symm nm_n9)).trans fhy_15
  have mou_16 : ou ∈ h16.1 := by rw [e0_16]; exact mou_15
  have fou_16 := (e2_16 _ (Ne.symm nm_n12)).trans fou_15
  have mbu_16 : bu ∈ h16.1 := by rw [e0_16]; exact mbu_15
  have fbu_16 := (e2_16 _ (Ne.symm nm_n14)).trans fbu_15
  have gw16 := gw15.tr (GRp.w (List.mem_singleton.mpr rfl) e0_16 e2_16)
  refine r_aload_n dX12_init_80 0 rfl ?_
  refine i_bipush (60) (by decide) dX12_init_81 ?_
  refine i_newI 60 rfl (by decide) dX12_init_83 (Nat.le_of_ble_eq_true rfl) (Nat.le_of_ble_eq_true rfl) (fun od hn17 hqn17 e0_n17 e1_n17 e2_n17 => ?_)
  have nm_n17 : m ≠ od := fun z => hqn17 (by rw [← z]; exact mm_16)
  have fm_n17 := (e2_n17 m nm_n17).trans e1_16
  have mm_n17 : m ∈ hn17.1 := by rw [e0_n17]; exact List.mem_append_left _ mm_16
  have nnw_n17 : nw ≠ od := fun z => hqn17 (by rw [← z]; exact mnw_16)
  have fnw_n17 := (e2_n17 nw nnw_n17).trans fnw_16
  have mnw_n17 : nw ∈ hn17.1 := by rw [e0_n17]; exact List.mem_append_left _ mnw_16
  have ndr_n17 : dr ≠ od := fun z => hqn17 (by rw [← z]; exact mdr_16)
  have fdr_n17 := (e2_n17 dr ndr_n17).trans fdr_16
  have mdr_n17 : dr ∈ hn17.1 := by rw [e0_n17]; exact List.mem_append_left _ mdr_16
  have nkp_n17 : kp ≠ od := fun z => hqn17 (by rw [← z]; exact mkp_16)
  have fkp_n17 := (e2_n17 kp nkp_n17).trans fkp_16
  have mkp_n17 : kp ∈ hn17.1 := by rw [e0_n17]; exact List.mem_append_left _ mkp_16
  have nsv_n17 : sv ≠ od := fun z => hqn17 (by rw [← z]; exact msv_16)
  have fsv_n17 := (e2_n17 sv nsv_n17).trans fsv_16
  have msv_n17 : sv ∈ hn17.1 := by rw [e0_n17]; exact List.mem_append_left _ msv_16
  have nhy_n17 : hy ≠ od := fun z => hqn17 (by rw [← z]; exact mhy_16)
  have fhy_n17 := (e2_n17 hy nhy_n17).trans fhy_16
  have mhy_n17 : hy ∈ hn17.1 := by rw [e0_n17]; exact List.mem_append_left _ mhy_16
  have nou_n17 : ou ≠ od := fun z => hqn17 (by rw [← z]; exact mou_16)
  have fou_n17 := (e2_n17 ou nou_n17).trans fou_16
  have mou_n17 : ou ∈ hn17.1 := by rw [e0_n17]; exact List.mem_append_left _ mou_16
  have nbu_n17 : bu ≠ od := fun z => hqn17 (by rw [← z]; exact mbu_16)
  have fbu_n17 := (e2_n17 bu nbu_n17).trans fbu_16
  have mbu_n17 : bu ∈ hn17.1 := by rw [e0_n17]; exact List.mem_append_left _ mbu_16
  have mod : od ∈ hn17.1 := by rw [e0_n17]; exact List.mem_append_right _ (List.mem_singleton.mpr rfl)
  have grn17 := gw16.tr ((GRp.new hqn17 e0_n17 e2_n17).mono (fun _ z => absurd z List.not_mem_nil))
  have nwod : od ∉ h.1 := fun z => hqn17 (gw16.1 _ z)
  refine i_putF [.ref nw, .ref dr, .ref kp, .ref sv, .ref hy, .ref nw, .int (iI 0), .int (iI 0), .int (iI 0), .int (iI 0), .int (iI 0), .int (iI 0), .int (iI 0), .int (iI 0), .ref ou, .int (iI 0), .ref bu, .int (iI 0), .int (iI 0), .int (iI 0), .int (iI 0), .int (iI 0), .int (iI 0), .int (iI 0), .int (iI ((-1))), .int (iI 0), .ref od, .null, .int (iI 0)] cl_X12 26 (by decide) kf_X12_38 rfl rfl rfl dX12_init_85 mm_n17 fm_n17 rfl rfl (by simp) rfl (fun h18 e0_18 e1_18 e2_18 => ?_)
  have mm_18 : m ∈ h18.1 := by rw [e0_18]; exact mm_n17
  have mnw_18 : nw ∈ h18.1 := by rw [e0_18]; exact mnw_n17
  have fnw_18 := (e2_18 _ (Ne.symm nm_n1)).trans fnw_n17
  have mdr_18 : dr ∈ h18.1 := by rw [e0_18]; exact mdr_n17
  have fdr_18 := (e2_18 _ (Ne.symm nm_n3)).trans fdr_n17
  have mkp_18 : kp ∈ h18.1 := by rw [e0_18]; exact mkp_n17
  have fkp_18 := (e2_18 _ (Ne.symm nm_n5)).trans fkp_n17
  have msv_18 : sv ∈ h18.1 := by rw [e0_18]; exact msv_n17
  have fsv_18 := (e2_18 _ (Ne.symm nm_n7)).trans fsv_n17
  have mhy_18 : hy ∈ h18.1 := by rw [e0_18]; exact mhy_n17
  have fhy_18 := (e2_18 _ (Ne.symm nm_n9)).trans fhy_n17
  have mou_18 : ou ∈ h18.1 := by rw [e0_18]; exact mou_n17
  have fou_18 := (e2_18 _ (Ne.symm nm_n12)).trans fou_n17
  have mbu_18 : bu ∈ h18.1 := by rw [e0_18]; exact mbu_n17
  have fbu_18 := (e2_18 _ (Ne.symm nm_n14)).trans fbu_n17
  have mod_18 : od ∈ h18.1 := by rw [e0_18]; exact mod
  have fod_18 := (e2_18 _ (Ne.symm nm_n17)).trans e1_n17
  have gw18 := grn17.tr (GRp.w (List.mem_singleton.mpr rfl) e0_18 e2_18)
  refine r_aload_n dX12_init_88 0 rfl ?_
  refine i_bipush (9) (by decide) dX12_init_89 ?_
  refine i_newQ (t := 7) (C := "java/lang/String") 9 rfl (by decide) (hAO.2.2.2) rfl kl_X12_41 dX12_init_91 (Nat.le_of_ble_eq_true rfl) (Nat.le_of_ble_eq_true rfl) (fun ow hn19 hqn19 e0_n19 e1_n19 e2_n19 => ?_)
  have nm_n19 : m ≠ ow := fun z => hqn19 (by rw [← z]; exact mm_18)
  have fm_n19 := (e2_n19 m nm_n19).trans e1_18
  have mm_n19 : m ∈ hn19.1 := by rw [e0_n19]; exact List.mem_append_left _ mm_18
  have nnw_n19 : nw ≠ ow := fun z => hqn19 (by rw [← z]; exact mnw_18)
  have fnw_n19 := (e2_n19 nw nnw_n19).trans fnw_18
  have mnw_n19 : nw ∈ hn19.1 := by rw [e0_n19]; exact List.mem_append_left _ mnw_18
  have ndr_n19 : dr ≠ ow := fun z => hqn19 (by rw [← z]; exact mdr_18)
  have fdr_n19 := (e2_n19 dr ndr_n19).trans fdr_18
  have mdr_n19 : dr ∈ hn19.1 := by rw [e0_n19]; exact List.mem_append_left _ mdr_18
  have nkp_n19 : kp ≠ ow := fun z => hqn19 (by rw [← z]; exact mkp_18)
  have fkp_n19 := (e2_n19 kp nkp_n19).trans fkp_18
  have mkp_n19 : kp ∈ hn19.1 := by rw [e0_n19]; exact List.mem_append_left _ mkp_18
  have nsv_n19 : sv ≠ ow := fun z => hqn19 (by rw [← z]; exact msv_18)
  have fsv_n19 := (e2_n19 sv nsv_n19).trans fsv_18
  have msv_n19 : sv ∈ hn19.1 := by rw [e0_n19]; exact List.mem_append_left _ msv_18
  have nhy_n19 : hy ≠ ow := fun z => hqn19 (by rw [← z]; exact mhy_18)
  have fhy_n19 := (e2_n19 hy nhy_n19).trans fhy_18
  have mhy_n19 : hy ∈ hn19.1 := by rw [e0_n19]; exact List.mem_append_left _ mhy_18
  have nou_n19 : ou ≠ ow := fun z => hqn19 (by rw [← z]; exact mou_18)
  have fou_n19 := (e2_n19 ou nou_n19).trans fou_18
  have mou_n19 : ou ∈ hn19.1 := by rw [e0_n19]; exact List.mem_append_left _ mou_18
  have nbu_n19 : bu ≠ ow := fun z => hqn19 (by rw [← z]; exact mbu_18)
  have fbu_n19 := (e2_n19 bu nbu_n19).trans fbu_18
  have mbu_n19 : bu ∈ hn19.1 := by rw [e0_n19]; exact List.mem_append_left _ mbu_18
  have nod_n19 : od ≠ ow := fun z => hqn19 (by rw [← z]; exact mod_18)
  have fod_n19 := (e2_n19 od nod_n19).trans fod_18
  have mod_n19 : od ∈ hn19.1 := by rw [e0_n19]; exact List.mem_append_left _ mod_18
  have mow : ow ∈ hn19.1 := by rw [e0_n19]; exact List.mem_append_right _ (List.mem_singleton.mpr rfl)
  have grn19 := gw18.tr ((GRp.new hqn19 e0_n19 e2_n19).mono (fun _ z => absurd z List.not_mem_nil))
  have nwow : ow ∉ h.1 := fun z => hqn19 (gw18.1 _ z)
  refine r_dup dX12_init_94 rfl ?_
  refine i_const (0) dX12_init_95 ?_
  refine r_ldcS (hGT.2.2 ("PastryBenchModel", 43, "fold", 4) (List.mem_of_getElem? (i := 4) rfl)) rfl dX12_init_96 ?_
  refine i_aastc rfl (hOs 4 (by decide)) 0 rfl dX12_init_98 mow e1_n19 (by omega) (by decide) (fun h20 e0_20 e1_20 e2_20 => ?_)
  have mm_20 : m ∈ h20.1 := by rw [e0_20]; exact mm_n19
  have fm_20 := (e2_20 _ nm_n19).trans fm_n19
  have mnw_20 : nw ∈ h20.1 := by rw [e0_20]; exact mnw_n19
  have fnw_20 := (e2_20 _ nnw_n19).trans fnw_n19
  have mdr_20 : dr ∈ h20.1 := by rw [e0_20]; exact mdr_n19
  have fdr_20 := (e2_20 _ ndr_n19).trans fdr_n19
  have mkp_20 : kp ∈ h20.1 := by rw [e0_20]; exact mkp_n19
  have fkp_20 := (e2_20 _ nkp_n19).trans fkp_n19
  have msv_20 : sv ∈ h20.1 := by rw [e0_20]; exact msv_n19
  have fsv_20 := (e2_20 _ nsv_n19).trans fsv_n19
  have mhy_20 : hy ∈ h20.1 := by rw [e0_20]; exact mhy_n19
  have fhy_20 := (e2_20 _ nhy_n19).trans fhy_n19
  have mou_20 : ou ∈ h20.1 := by rw [e0_20]; exact mou_n19
  have fou_20 := (e2_20 _ nou_n19).trans fou_n19
  have mbu_20 : bu ∈ h20.1 := by rw [e0_20]; exact mbu_n19
  have fbu_20 := (e2_20 _ nbu_n19).trans fbu_n19
  have mod_20 : od ∈ h20.1 := by rw [e0_20]; exact mod_n19
  have fod_20 := (e2_20 _ nod_n19).trans fod_n19
  have mow_20 : ow ∈ h20.1 := by rw [e0_20]; exact mow
  have gw20 := grn19.off (GRp.w (fp := [ow]) (List.mem_singleton.mpr rfl) e0_20 e2_20) (fun q z => by rw [List.mem_singleton.mp z]; exact nwow)
  refine r_dup dX12_init_99 rfl ?_
  refine i_const (1) dX12_init_100 ?_
  refine r_ldcS (hGT.2.2 ("PastryBenchModel", 45, "roll", 5) (List.mem_of_getElem? (i := 5) rfl)) rfl dX12_init_101 ?_
  refine i_aastc rfl (hOs 5 (by decide)) 1 rfl dX12_init_103 mow_20 e1_20 (by omega) (by decide) (fun h21 e0_21 e1_21 e2_21 => ?_)
  have mm_21 : m ∈ h21.1 := by rw [e0_21]; exact mm_20
  have fm_21 := (e2_21 _ nm_n19).trans fm_20
  have mnw_21 : nw ∈ h21.1 := by rw [e0_21]; exact mnw_20
  have fnw_21 := (e2_21 _ nnw_n19).trans fnw_20
  have mdr_21 : dr ∈ h21.1 := by rw [e0_21]; exact mdr_20
  have fdr_21 := (e2_21 _ ndr_n19).trans fdr_20
  have mkp_21 : kp ∈ h21.1 := by rw [e0_21]; exact mkp_20
  have fkp_21 := (e2_21 _ nkp_n19).trans fkp_20
  have msv_21 : sv ∈ h21.1 := by rw [e0_21]; exact msv_20
  have fsv_21 := (e2_21 _ nsv_n19).trans fsv_20
  have mhy_21 : hy ∈ h21.1 := by rw [e0_21]; exact mhy_20
  have fhy_21 := (e2_21 _ nhy_n19).trans fhy_20
  have mou_21 : ou ∈ h21.1 := by rw [e0_21]; exact mou_20
  have fou_21 := (e2_21 _ nou_n19).trans fou_20
  have mbu_21 : bu ∈ h21.1 := by rw [e0_21]; exact mbu_20
  have fbu_21 := (e2_21 _ nbu_n19).trans fbu_20
  have mod_21 : od ∈ h21.1 := by rw [e0_21]; exact mod_20
  have fod_21 := (e2_21 _ nod_n19).trans fod_20
  have mow_21 : ow ∈ h21.1 := by rw [e0_21]; exact mow_20
  have gw21 := gw20.off (GRp.w (fp := [ow]) (List.mem_singleton.mpr rfl) e0_21 e2_21) (fun q z => by rw [List.mem_singleton.mp z]; exact nwow)
  refine r_dup dX12_init_104 rfl ?_
  refine i_const (2) dX12_init_105 ?_
  refine r_ldcS (hGT.2.2 ("PastryBenchModel", 47, "dust", 6) (List.mem_of_getElem? (i := 6) rfl)) rfl dX12_init_106 ?_
  refine i_aastc rfl (hOs 6 (by decide)) 2 rfl dX12_init_108 mow_21 e1_21 (by omega) (by decide) (fun h22 e0_22 e1_22 e2_22 => ?_)
  have mm_22 : m ∈ h22.1 := by rw [e0_22]; exact mm_21
  have fm_22 := (e2_22 _ nm_n19).trans fm_21
  have mnw_22 : nw ∈ h22.1 := by rw [e0_22]; exact mnw_21
  have fnw_22 := (e2_22 _ nnw_n19).trans fnw_21
  have mdr_22 : dr ∈ h22.1 := by rw [e0_22]; exact mdr_21
  have fdr_22 := (e2_22 _ ndr_n19).trans fdr_21
  have mkp_22 : kp ∈ h22.1 := by rw [e0_22]; exact mkp_21
  have fkp_22 := (e2_22 _ nkp_n19).trans fkp_21
  have msv_22 : sv ∈ h22.1 := by rw [e0_22]; exact msv_21
  have fsv_22 := (e2_22 _ nsv_n19).trans fsv_21
  have mhy_22 : hy ∈ h22.1 := by rw [e0_22]; exact mhy_21
  have fhy_22 := (e2_22 _ nhy_n19).trans fhy_21
  have mou_22 : ou ∈ h22.1 := by rw [e0_22]; exact mou_21
  have fou_22 := (e2_22 _ nou_n19).trans fou_21
  have mbu_22 : bu ∈ h22.1 := by rw [e0_22]; exact mbu_21
  have fbu_22 := (e2_22 _ nbu_n19).trans fbu_21
  have mod_22 : od ∈ h22.1 := by rw [e0_22]; exact mod_21
  have fod_22 := (e2_22 _ nod_n19).trans fod_21
  have mow_22 : ow ∈ h22.1 := by rw [e0_22]; exact mow_21
  have gw22 := gw21.off (GRp.w (fp := [ow]) (List.mem_singleton.mpr rfl) e0_22 e2_22) (fun q z => by rw [List.mem_singleton.mp z]; exact nwow)
  refine r_dup dX12_init_109 rfl ?_
  refine i_const (3) dX12_init_110 ?_
  refine r_ldcS (hGT.2.2 ("PastryBenchModel", 49, "seal", 7) (List.mem_of_getElem? (i := 7) rfl)) rfl dX12_init_111 ?_
  refine i_aastc rfl (hOs 7 (by decide)) 3 rfl dX12_init_113 mow_22 e1_22 (by omega) (by decide) (fun h23 e0_23 e1_23 e2_23 => ?_)
  have mm_23 : m ∈ h23.1 := by rw [e0_23]; exact mm_22
  have fm_23 := (e2_23 _ nm_n19).trans fm_22
  have mnw_23 : nw ∈ h23.1 := by rw [e0_23]; exact mnw_22
  have fnw_23 := (e2_23 _ nnw_n19).trans fnw_22
  have mdr_23 : dr ∈ h23.1 := by rw [e0_23]; exact mdr_22
  have fdr_23 := (e2_23 _ ndr_n19).trans fdr_22
  have mkp_23 : kp ∈ h23.1 := by rw [e0_23]; exact mkp_22
  have fkp_23 := (e2_23 _ nkp_n19).trans fkp_22
  have msv_23 : sv ∈ h23.1 := by rw [e0_23]; exact msv_22
  have fsv_23 := (e2_23 _ nsv_n19).trans fsv_22
  have mhy_23 : hy ∈ h23.1 := by rw [e0_23]; exact mhy_22
  have fhy_23 := (e2_23 _ nhy_n19).trans fhy_22
  have mou_23 : ou ∈ h23.1 := by rw [e0_23]; exact mou_22
  have fou_23 := (e2_23 _ nou_n19).trans fou_22
  have mbu_23 : bu ∈ h23.1 := by rw [e0_23]; exact mbu_22
  have fbu_23 := (e2_23 _ nbu_n19).trans fbu_22
  have mod_23 : od ∈ h23.1 := by rw [e0_23]; exact mod_22
  have fod_23 := (e2_23 _ nod_n19).trans fod_22
  have mow_23 : ow ∈ h23.1 := by rw [e0_23]; exact mow_22
  have gw23 := gw22.off (GRp.w (fp := [ow]) (List.mem_singleton.mpr rfl) e0_23 e2_23) (fun q z => by rw [List.mem_singleton.mp z]; exact nwow)
  refine r_dup dX12_init_114 rfl ?_
  refine i_const (4) dX12_init_115 ?_
  refine r_ldcS (hGT.2.2 ("PastryBenchModel", 51, "cool", 8) (List.mem_of_getElem? (i := 8) rfl)) rfl dX12_init_116 ?_
  refine i_aastc rfl (hOs 8 (by decide)) 4 rfl dX12_init_118 mow_23 e1_23 (by omega) (by decide) (fun h24 e0_24 e1_24 e2_24 => ?_)
  have mm_24 : m ∈ h24.1 := by rw [e0_24]; exact mm_23
  have fm_24 := (e2_24 _ nm_n19).trans fm_23
  have mnw_24 : nw ∈ h24.1 := by rw [e0_24]; exact mnw_23
  have fnw_24 := (e2_24 _ nnw_n19).trans fnw_23
  have mdr_24 : dr ∈ h24.1 := by rw [e0_24]; exact mdr_23
  have fdr_24 := (e2_24 _ ndr_n19).trans fdr_23
  have mkp_24 : kp ∈ h24.1 := by rw [e0_24]; exact mkp_23
  have fkp_24 := (e2_24 _ nkp_n19).trans fkp_23
  have msv_24 : sv ∈ h24.1 := by rw [e0_24]; exact msv_23
  have fsv_24 := (e2_24 _ nsv_n19).trans fsv_23
  have mhy_24 : hy ∈ h24.1 := by rw [e0_24]; exact mhy_23
  have fhy_24 := (e2_24 _ nhy_n19).trans fhy_23
  have mou_24 : ou ∈ h24.1 := by rw [e0_24]; exact mou_23
  have fou_24 := (e2_24 _ nou_n19).trans fou_23
  have mbu_24 : bu ∈ h24.1 := by rw [e0_24]; exact mbu_23
  have fbu_24 := (e2_24 _ nbu_n19).trans fbu_23
  have mod_24 : od ∈ h24.1 := by rw [e0_24]; exact mod_23
  have fod_24 := (e2_24 _ nod_n19).trans fod_23
  have mow_24 : ow ∈ h24.1 := by rw [e0_24]; exact mow_23
  have gw24 := gw23.off (GRp.w (fp := [ow]) (List.mem_singleton.mpr rfl) e0_24 e2_24) (fun q z => by rw [List.mem_singleton.mp z]; exact nwow)
  refine r_dup dX12_init_119 rfl ?_
  refine i_const (5) dX12_init_120 ?_
  refine r_ldcS (hGT.2.2 ("PastryBenchModel", 53, "takeout", 9) (List.mem_of_getElem? (i := 9) rfl)) rfl dX12_init_121 ?_
  refine i_aastc rfl (hOs 9 (by decide)) 5 rfl dX12_init_123 mow_24 e1_24 (by omega) (by decide) (fun h25 e0_25 e1_25 e2_25 => ?_)
  have mm_25 : m ∈ h25.1 := by rw [e0_25]; exact mm_24
  have fm_25 := (e2_25 _ nm_n19).trans fm_24
  have mnw_25 : nw ∈ h25.1 := by rw [e0_25]; exact mnw_24
  have fnw_25 := (e2_25 _ nnw_n19).trans fnw_24
  have mdr_25 : dr ∈ h25.1 := by rw [e0_25]; exact mdr_24
  have fdr_25 := (e2_25 _ ndr_n19).trans fdr_24
  have mkp_25 : kp ∈ h25.1 := by rw [e0_25]; exact mkp_24
  have fkp_25 := (e2_25 _ nkp_n19).trans fkp_24
  have msv_25 : sv ∈ h25.1 := by rw [e0_25]; exact msv_24
  have fsv_25 := (e2_25 _ nsv_n19).trans fsv_24
  have mhy_25 : hy ∈ h25.1 := by rw [e0_25]; exact mhy_24
  have fhy_25 := (e2_25 _ nhy_n19).trans fhy_24
  have mou_25 : ou ∈ h25.1 := by rw [e0_25]; exact mou_24
  have fou_25 := (e2_25 _ nou_n19).trans fou_24
  have mbu_25 : bu ∈ h25.1 := by rw [e0_25]; exact mbu_24
  have fbu_25 := (e2_25 _ nbu_n19).trans fbu_24
  have mod_25 : od ∈ h25.1 := by rw [e0_25]; exact mod_24
  have fod_25 := (e2_25 _ nod_n19).trans fod_24
  have mow_25 : ow ∈ h25.1 := by rw [e0_25]; exact mow_24
  have gw25 := gw24.off (GRp.w (fp := [ow]) (List.mem_singleton.mpr rfl) e0_25 e2_25) (fun q z => by rw [List.mem_singleton.mp z]; exact nwow)
  refine r_dup dX12_init_124 rfl ?_
  refine i_bipush (6) (by decide) dX12_init_125 ?_
  refine r_ldcS (hGT.2.2 ("PastryBenchModel", 55, "wait", 10) (List.mem_of_getElem? (i := 10) rfl)) rfl dX12_init_127 ?_
  refine i_aastc rfl (hOs 10 (by decide)) 6 rfl dX12_init_129 mow_25 e1_25 (by omega) (by decide) (fun h26 e0_26 e1_26 e2_26 => ?_)
  have mm_26 : m ∈ h26.1 := by rw [e0_26]; exact mm_25
  have fm_26 := (e2_26 _ nm_n19).trans fm_25
  have mnw_26 : nw ∈ h26.1 := by rw [e0_26]; exact mnw_25
  have fnw_26 := (e2_26 _ nnw_n19).trans fnw_25
  have mdr_26 : dr ∈ h26.1 := by rw [e0_26]; exact mdr_25
  have fdr_26 := (e2_26 _ ndr_n19).trans fdr_25
  have mkp_26 : kp ∈ h26.1 := by rw [e0_26]; exact mkp_25
  have fkp_26 := (e2_26 _ nkp_n19).trans fkp_25
  have msv_26 : sv ∈ h26.1 := by rw [e0_26]; exact msv_25
  have fsv_26 := (e2_26 _ nsv_n19).trans fsv_25
  have mhy_26 : hy ∈ h26.1 := by rw [e0_26]; exact mhy_25
  have fhy_26 := (e2_26 _ nhy_n19).trans fhy_25
  have mou_26 : ou ∈ h26.1 := by rw [e0_26]; exact mou_25
  have fou_26 := (e2_26 _ nou_n19).trans fou_25
  have mbu_26 : bu ∈ h26.1 := by rw [e0_26]; exact mbu_25
  have fbu_26 := (e2_26 _ nbu_n19).trans fbu_25
  have mod_26 : od ∈ h26.1 := by rw [e0_26]; exact mod_25
  have fod_26 := (e2_26 _ nod_n19).trans fod_25
  have mow_26 : ow ∈ h26.1 := by rw [e0_26]; exact mow_25
  have gw26 := gw25.off (GRp.w (fp := [ow]) (List.mem_singleton.mpr rfl) e0_26 e2_26) (fun q z => by rw [List.mem_singleton.mp z]; exact nwow)
  refine r_dup dX12_init_130 rfl ?_
  refine i_bipush (7) (by decide) dX12_init_131 ?_
  refine r_ldcS (hGT.2.2 ("PastryBenchModel", 57, "cut", 11) (List.mem_of_getElem? (i := 11) rfl)) rfl dX12_init_133 ?_
  refine i_aastc rfl (hOs 11 (by decide)) 7 rfl dX12_init_135 mow_26 e1_26 (by omega) (by decide) (fun h27 e0_27 e1_27 e2_27 => ?_)
  have mm_27 : m ∈ h27.1 := by rw [e0_27]; exact mm_26
  have fm_27 := (e2_27 _ nm_n19).trans fm_26
  have mnw_27 : nw ∈ h27.1 := by rw [e0_27]; exact mnw_26
  have fnw_27 := (e2_27 _ nnw_n19).trans fnw_26
  have mdr_27 : dr ∈ h27.1 := by rw [e0_27]; exact mdr_26
  have fdr_27 := (e2_27 _ ndr_n19).trans fdr_26
  have mkp_27 : kp ∈ h27.1 := by rw [e0_27]; exact mkp_26
  have fkp_27 := (e2_27 _ nkp_n19).trans fkp_26
  have msv_27 : sv ∈ h27.1 := by rw [e0_27]; exact msv_26
  have fsv_27 := (e2_27 _ nsv_n19).trans fsv_26
  have mhy_27 : hy ∈ h27.1 := by rw [e0_27]; exact mhy_26
  have fhy_27 := (e2_27 _ nhy_n19).trans fhy_26
  have mou_27 : ou ∈ h27.1 := by rw [e0_27]; exact mou_26
  have fou_27 := (e2_27 _ nou_n19).trans fou_26
  have mbu_27 : bu ∈ h27.1 := by rw [e0_27]; exact mbu_26
  have fbu_27 := (e2_27 _ nbu_n19).trans fbu_26
  have mod_27 : od ∈ h27.1 := by rw [e0_27]; exact mod_26
  have fod_27 := (e2_27 _ nod_n19).trans fod_26
  have mow_27 : ow ∈ h27.1 := by rw [e0_27]; exact mow_26
  have gw27 := gw26.off (GRp.w (fp := [ow]) (List.mem_singleton.mpr rfl) e0_27 e2_27) (fun q z => by rw [List.mem_singleton.mp z]; exact nwow)
  refine r_dup dX12_init_136 rfl ?_
  refine i_bipush (8) (by decide) dX12_init_137 ?_
  refine r_ldcS (hGT.2.2 ("PastryBenchModel", 59, "stack", 12) (List.mem_of_getElem? (i := 12) rfl)) rfl dX12_init_139 ?_
  refine i_aastc rfl (hOs 12 (by decide)) 8 rfl dX12_init_141 mow_27 e1_27 (by omega) (by decide) (fun h28 e0_28 e1_28 e2_28 => ?_)
  have mm_28 : m ∈ h28.1 := by rw [e0_28]; exact mm_27
  have fm_28 := (e2_28 _ nm_n19).trans fm_27
  have mnw_28 : nw ∈ h28.1 := by rw [e0_28]; exact mnw_27
  have fnw_28 := (e2_28 _ nnw_n19).trans fnw_27
  have mdr_28 : dr ∈ h28.1 := by rw [e0_28]; exact mdr_27
  have fdr_28 := (e2_28 _ ndr_n19).trans fdr_27
  have mkp_28 : kp ∈ h28.1 := by rw [e0_28]; exact mkp_27
  have fkp_28 := (e2_28 _ nkp_n19).trans fkp_27
  have msv_28 : sv ∈ h28.1 := by rw [e0_28]; exact msv_27
  have fsv_28 := (e2_28 _ nsv_n19).trans fsv_27
  have mhy_28 : hy ∈ h28.1 := by rw [e0_28]; exact mhy_27
  have fhy_28 := (e2_28 _ nhy_n19).trans fhy_27
  have mou_28 : ou ∈ h28.1 := by rw [e0_28]; exact mou_27
  have fou_28 := (e2_28 _ nou_n19).trans fou_27
  have mbu_28 : bu ∈ h28.1 := by rw [e0_28]; exact mbu_27
  have fbu_28 := (e2_28 _ nbu_n19).trans fbu_27
  have mod_28 : od ∈ h28.1 := by rw [e0_28]; exact mod_27
  have fod_28 := (e2_28 _ nod_n19).trans fod_27
  have mow_28 : ow ∈ h28.1 := by rw [e0_28]; exact mow_27
  have gw28 := gw27.off (GRp.w (fp := [ow]) (List.mem_singleton.mpr rfl) e0_28 e2_28) (fun q z => by rw [List.mem_singleton.mp z]; exact nwow)
  refine i_putF [.ref nw, .ref dr, .ref kp, .ref sv, .ref hy, .ref nw, .int (iI 0), .int (iI 0), .int (iI 0), .int (iI 0), .int (iI 0), .int (iI 0), .int (iI 0), .int (iI 0), .ref ou, .int (iI 0), .ref bu, .int (iI 0), .int (iI 0), .int (iI 0), .int (iI 0), .int (iI 0), .int (iI 0), .int (iI 0), .int (iI ((-1))), .int (iI 0), .ref od, .ref ow, .int (iI 0)] cl_X12 27 (by decide) kf_X12_61 rfl rfl rfl dX12_init_142 mm_28 fm_28 rfl rfl (by simp) rfl (fun h29 e0_29 e1_29 e2_29 => ?_)
  have mm_29 : m ∈ h29.1 := by rw [e0_29]; exact mm_28
  have mnw_29 : nw ∈ h29.1 := by rw [e0_29]; exact mnw_28
  have fnw_29 := (e2_29 _ (Ne.symm nm_n1)).trans fnw_28
  have mdr_29 : dr ∈ h29.1 := by rw [e0_29]; exact mdr_28
  have fdr_29 := (e2_29 _ (Ne.symm nm_n3)).trans fdr_28
  have mkp_29 : kp ∈ h29.1 := by rw [e0_29]; exact mkp_28
  have fkp_29 := (e2_29 _ (Ne.symm nm_n5)).trans fkp_28
  have msv_29 : sv ∈ h29.1 := by rw [e0_29]; exact msv_28
  have fsv_29 := (e2_29 _ (Ne.symm nm_n7)).trans fsv_28
  have mhy_29 : hy ∈ h29.1 := by rw [e0_29]; exact mhy_28
  have fhy_29 := (e2_29 _ (Ne.symm nm_n9)).trans fhy_28
  have mou_29 : ou ∈ h29.1 := by rw [e0_29]; exact mou_28
  have fou_29 := (e2_29 _ (Ne.symm nm_n12)).trans fou_28
  have mbu_29 : bu ∈ h29.1 := by rw [e0_29]; exact mbu_28
  have fbu_29 := (e2_29 _ (Ne.symm nm_n14)).trans fbu_28
  have mod_29 : od ∈ h29.1 := by rw [e0_29]; exact mod_28
  have fod_29 := (e2_29 _ (Ne.symm nm_n17)).trans fod_28
  have mow_29 : ow ∈ h29.1 := by rw [e0_29]; exact mow_28
  have fow_29 := (e2_29 _ (Ne.symm nm_n19)).trans e1_28
  have gw29 := gw28.tr (GRp.w (List.mem_singleton.mpr rfl) e0_29 e2_29)
  refine r_aload_n dX12_init_145 0 rfl ?_
  refine i_bipush (22) (by decide) dX12_init_146 ?_
  refine i_bipush (18) (by decide) dX12_init_148 ?_
  refine i_const (5) dX12_init_150 ?_
  refine p_callV (As := [.int (iI 22), .int (iI 18), .int (iI 5)]) (b := m) (rest := []) (w := none) (st' := []) kv_X12_init_65 dX12_init_151 rfl rfl (Nat.le_of_ble_eq_true rfl) (Nat.le_of_ble_eq_true rfl) (x_rv mm_29 e1_29 rfl) rfl rfl (c_X12_begin (⟨mm_29, e1_29⟩ : MO G h29 m (nw, dr, kp, sv, hy, ou, bu, od, ow) (nw, 0, 0, 0, 0, 0, 0, 0, false, 0, 0, 0, 0, 0, 0, 0, 0, -1, 0, 0)) (⟨mnw_29, fnw_29⟩ : AR G h29 nw 1456 (fun _ => iI 0))) rfl (fun hk30 e9k30 => ?_)
  obtain ⟨gk30, hRk30, hWk30, hFk30⟩ := e9k30
  have hFk30 : FRp [nw] h29 hk30 := hFk30
  have mm_k30 : m ∈ hk30.1 := by rw [hFk30.1]; exact mm_29
  have fm_k30 := (hFk30.2 m (nfr nm_n1)).trans e1_29
  have mdr_k30 : dr ∈ hk30.1 := by rw [hFk30.1]; exact mdr_29
  have fdr_k30 := (hFk30.2 dr (nfr (Ne.symm nnw_n3))).trans fdr_29
  have mkp_k30 : kp ∈ hk30.1 := by rw [hFk30.1]; exact mkp_29
  have fkp_k30 := (hFk30.2 kp (nfr (Ne.symm nnw_n5))).trans fkp_29
  have msv_k30 : sv ∈ hk30.1 := by rw [hFk30.1]; exact msv_29
  have fsv_k30 := (hFk30.2 sv (nfr (Ne.symm nnw_n7))).trans fsv_29
  have mhy_k30 : hy ∈ hk30.1 := by rw [hFk30.1]; exact mhy_29
  have fhy_k30 := (hFk30.2 hy (nfr (Ne.symm nnw_n9))).trans fhy_29
  have mou_k30 : ou ∈ hk30.1 := by rw [hFk30.1]; exact mou_29
  have fou_k30 := (hFk30.2 ou (nfr (Ne.symm nnw_n12))).trans fou_29
  have mbu_k30 : bu ∈ hk30.1 := by rw [hFk30.1]; exact mbu_29
  have fbu_k30 := (hFk30.2 bu (nfr (Ne.symm nnw_n14))).trans fbu_29
  have mod_k30 : od ∈ hk30.1 := by rw [hFk30.1]; exact mod_29
  have fod_k30 := (hFk30.2 od (nfr (Ne.symm nnw_n17))).trans fod_29
  have mow_k30 : ow ∈ hk30.1 := by rw [hFk30.1]; exact mow_29
  have fow_k30 := (hFk30.2 ow (nfr (Ne.symm nnw_n19))).trans fow_29
  have hdk30 := HDR.of hWk30
  have gfk30 := gw29.off (GRp.of hFk30) (fun q z => by rw [List.mem_singleton.mp z]; exact nwnw)
  refine r_aload_n dX12_init_154 0 rfl ?_
  refine i_const (0) dX12_init_155 ?_
  refine i_bipush (10) (by decide) dX12_init_156 ?_
  refine p_callV (As := [.int (iI 0), .int (iI 10)]) (b := m) (rest := []) (w := none) (st' := []) kv_X12_init_69 dX12_init_158 rfl rfl (Nat.le_of_ble_eq_true rfl) (Nat.le_of_ble_eq_true rfl) (x_rv mm_k30 fm_k30 rfl) rfl rfl (c_X12_startSheet (i := 0) (⟨mm_k30, fm_k30⟩ : MO G hk30 m (nw, dr, kp, sv, hy, ou, bu, od, ow) (nw, 0, 0, 0, 0, 0, 0, 0, false, 0, 0, 0, 0, 0, 0, 0, 0, -1, 0, 0)) (⟨hRk30.1, hRk30.2⟩ : AR G hk30 nw 1456 gk30) (by decide)) rfl (fun hk31 e9k31 => ?_)
  obtain ⟨gk31, hRk31, hSk31, hEk31, hFk31⟩ := e9k31
  have hFk31 : FRp [nw] hk30 hk31 := hFk31
  have mm_k31 : m ∈ hk31.1 := by rw [hFk31.1]; exact mm_k30
  have fm_k31 := (hFk31.2 m (nfr nm_n1)).trans fm_k30
  have mdr_k31 : dr ∈ hk31.1 := by rw [hFk31.1]; exact mdr_k30
  have fdr_k31 := (hFk31.2 dr (nfr (Ne.symm nnw_n3))).trans fdr_k30
  have mkp_k31 : kp ∈ hk31.1 := by rw [hFk31.1]; exact mkp_k30
  have fkp_k31 := (hFk31.2 kp (nfr (Ne.symm nnw_n5))).trans fkp_k30
  have msv_k31 : sv ∈ hk31.1 := by rw [hFk31.1]; exact msv_k30
  have fsv_k31 := (hFk31.2 sv (nfr (Ne.symm nnw_n7))).trans fsv_k30
  have mhy_k31 : hy ∈ hk31.1 := by rw [hFk31.1]; exact mhy_k30
  have fhy_k31 := (hFk31.2 hy (nfr (Ne.symm nnw_n9))).trans fhy_k30
  have mou_k31 : ou ∈ hk31.1 := by rw [hFk31.1]; exact mou_k30
  have fou_k31 := (hFk31.2 ou (nfr (Ne.symm nnw_n12))).trans fou_k30
  have mbu_k31 : bu ∈ hk31.1 := by rw [hFk31.1]; exact mbu_k30
  have fbu_k31 := (hFk31.2 bu (nfr (Ne.symm nnw_n14))).trans fbu_k30
  have mod_k31 : od ∈ hk31.1 := by rw [hFk31.1]; exact mod_k30
  have fod_k31 := (hFk31.2 od (nfr (Ne.symm nnw_n17))).trans fod_k30
  have mow_k31 : ow ∈ hk31.1 := by rw [hFk31.1]; exact mow_k30
  have fow_k31 := (hFk31.2 ow (nfr (Ne.symm nnw_n19))).trans fow_k30
  have hdk31 := hdk30.eqo hEk31 (by decide)
  have gfk31 := gfk30.off (GRp.of hFk31) (fun q z => by rw [List.mem_singleton.mp z]; exact nwnw)
  refine r_aload_n dX12_init_161 0 rfl ?_
  refine i_const (0) dX12_init_162 ?_
  refine i_bipush (60) (by decide) dX12_init_163 ?_
  refine p_callV (As := [.int (iI 0), .int (iI 60)]) (b := m) (rest := []) (w := none) (st' := []) kv_X12_init_73 dX12_init_165 rfl rfl (Nat.le_of_ble_eq_true rfl) (Nat.le_of_ble_eq_true rfl) (x_rv mm_k31 fm_k31 rfl) rfl rfl (c_X12_addLayer (i := 0) (⟨mm_k31, fm_k31⟩ : MO G hk31 m (nw, dr, kp, sv, hy, ou, bu, od, ow) (nw, 0, 0, 0, 0, 0, 0, 0, false, 0, 0, 0, 0, 0, 0, 0, 0, -1, 0, 0)) (⟨hRk31.1, hRk31.2⟩ : AR G hk31 nw 1456 gk31) (by decide) hSk31 (by decide)) rfl (fun hk32 e9k32 => ?_)
  obtain ⟨gk32, hRk32, hSk32, hEk32, hFk32⟩ := e9k32
  have hFk32 : FRp [nw] hk31 hk32 := hFk32
  have mm_k32 : m ∈ hk32.1 := by rw [hFk32.1]; exact mm_k31
  have fm_k32 := (hFk32.2 m (nfr nm_n1)).trans fm_k31
  have mdr_k32 : dr ∈ hk32.1 := by rw [hFk32.1]; exact mdr_k31
  have fdr_k32 := (hFk32.2 dr (nfr (Ne.symm nnw_n3))).trans fdr_k31
  have mkp_k32 : kp ∈ hk32.1 := by rw [hFk32.1]; exact mkp_k31
  have fkp_k32 := (hFk32.2 kp (nfr (Ne.symm nnw_n5))).trans fkp_k31
  have msv_k32 : sv ∈ hk32.1 := by rw [hFk32.1]; exact msv_k31
  have fsv_k32 := (hFk32.2 sv (nfr (Ne.symm nnw_n7))).trans fsv_k31
  have mhy_k32 : hy ∈ hk32.1 := by rw [hFk32.1]; exact mhy_k31
  have fhy_k32 := (hFk32.2 hy (nfr (Ne.symm nnw_n9))).trans fhy_k31
  have mou_k32 : ou ∈ hk32.1 := by rw [hFk32.1]; exact mou_k31
  have fou_k32 := (hFk32.2 ou (nfr (Ne.symm nnw_n12))).trans fou_k31
  have mbu_k32 : bu ∈ hk32.1 := by rw [hFk32.1]; exact mbu_k31
  have fbu_k32 := (hFk32.2 bu (nfr (Ne.symm nnw_n14))).trans fbu_k31
  have mod_k32 : od ∈ hk32.1 := by rw [hFk32.1]; exact mod_k31
  have fod_k32 := (hFk32.2 od (nfr (Ne.symm nnw_n17))).trans fod_k31
  have mow_k32 : ow ∈ hk32.1 := by rw [hFk32.1]; exact mow_k31
  have fow_k32 := (hFk32.2 ow (nfr (Ne.symm nnw_n19))).trans fow_k31
  have hdk32 := hdk31.eqo hEk32 (by decide)
  have gfk32 := gfk31.off (GRp.of hFk32) (fun q z => by rw [List.mem_singleton.mp z]; exact nwnw)
  refine r_aload_n dX12_init_168 0 rfl ?_
  refine i_const (0) dX12_init_169 ?_
  refine i_bipush (-40) (by decide) dX12_init_170 ?_
  refine p_callV (As := [.int (iI 0), .int (iI ((-40)))]) (b := m) (rest := []) (w := none) (st' := []) kv_X12_init_73 dX12_init_172 rfl rfl (Nat.le_of_ble_eq_true rfl) (Nat.le_of_ble_eq_true rfl) (x_rv mm_k32 fm_k32 rfl) rfl rfl (c_X12_addLayer (i := 0) (⟨mm_k32, fm_k32⟩ : MO G hk32 m (nw, dr, kp, sv, hy, ou, bu, od, ow) (nw, 0, 0, 0, 0, 0, 0, 0, false, 0, 0, 0, 0, 0, 0, 0, 0, -1, 0, 0)) (⟨hRk32.1, hRk32.2⟩ : AR G hk32 nw 1456 gk32) (by decide) hSk32 (by decide)) rfl (fun hk33 e9k33 => ?_)
  obtain ⟨gk33, hRk33, hSk33, hEk33, hFk33⟩ := e9k33
  have hFk33 : FRp [nw] hk32 hk33 := hFk33
  have mm_k33 : m ∈ hk33.1 := by rw [hFk33.1]; exact mm_k32
  have fm_k33 := (hFk33.2 m (nfr nm_n1)).trans fm_k32
  have mdr_k33 : dr ∈ hk33.1 := by rw [hFk33.1]; exact mdr_k32
  have fdr_k33 := (hFk33.2 dr (nfr (Ne.symm nnw_n3))).trans fdr_k32
  have mkp_k33 : kp ∈ hk33.1 := by rw [hFk33.1]; exact mkp_k32
  have fkp_k33 := (hFk33.2 kp (nfr (Ne.symm nnw_n5))).trans fkp_k32
  have msv_k33 : sv ∈ hk33.1 := by rw [hFk33.1]; exact msv_k32
  have fsv_k33 := (hFk33.2 sv (nfr (Ne.symm nnw_n7))).trans fsv_k32
  have mhy_k33 : hy ∈ hk33.1 := by rw [hFk33.1]; exact mhy_k32
  have fhy_k33 := (hFk33.2 hy (nfr (Ne.symm nnw_n9))).trans fhy_k32
  have mou_k33 : ou ∈ hk33.1 := by rw [hFk33.1]; exact mou_k32
  have fou_k33 := (hFk33.2 ou (nfr (Ne.symm nnw_n12))).trans fou_k32
  have mbu_k33 : bu ∈ hk33.1 := by rw [hFk33.1]; exact mbu_k32
  have fbu_k33 := (hFk33.2 bu (nfr (Ne.symm nnw_n14))).trans fbu_k32
  have mod_k33 : od ∈ hk33.1 := by rw [hFk33.1]; exact mod_k32
  have fod_k33 := (hFk33.2 od (nfr (Ne.symm nnw_n17))).trans fod_k32
  have mow_k33 : ow ∈ hk33.1 := by rw [hFk33.1]; exact mow_k32
  have fow_k33 := (hFk33.2 ow (nfr (Ne.symm nnw_n19))).trans fow_k32
  have hdk33 := hdk32.eqo hEk33 (by decide)
  have gfk33 := gfk32.off (GRp.of hFk33) (fun q z => by rw [List.mem_singleton.mp z]; exact nwnw)
  refine r_aload_n dX12_init_175 0 rfl ?_
  refine i_const (0) dX12_init_176 ?_
  refine i_bipush (60) (by decide) dX12_init_177 ?_
  refine p_callV (As := [.int (iI 0), .int (iI 60)]) (b := m) (rest := []) (w := none) (st' := []) kv_X12_init_73 dX12_init_179 rfl rfl (Nat.le_of_ble_eq_true rfl) (Nat.le_of_ble_eq_true rfl) (x_rv mm_k33 fm_k33 rfl) rfl rfl (c_X12_addLayer (i := 0) (⟨mm_k33, fm_k33⟩ : MO G hk33 m (nw, dr, kp, sv, hy, ou, bu, od, ow) (nw, 0, 0, 0, 0, 0, 0, 0, false, 0, 0, 0, 0, 0, 0, 0, 0, -1, 0, 0)) (⟨hRk33.1, hRk33.2⟩ : AR G hk33 nw 1456 gk33) (by decide) hSk33 (by decide)) rfl (fun hk34 e9k34 => ?_)
  obtain ⟨gk34, hRk34, hSk34, hEk34, hFk34⟩ := e9k34
  have hFk34 : FRp [nw] hk33 hk34 := hFk34
  have mm_k34 : m ∈ hk34.1 := by rw [hFk34.1]; exact mm_k33
  have fm_k34 := (hFk34.2 m (nfr nm_n1)).trans fm_k33
  have mdr_k34 : dr ∈ hk34.1 := by rw [hFk34.1]; exact mdr_k33
  have fdr_k34 := (hFk34.2 dr (nfr (Ne.symm nnw_n3))).trans fdr_k33
  have mkp_k34 : kp ∈ hk34.1 := by rw [hFk34.1]; exact mkp_k33
  have fkp_k34 := (hFk34.2 kp (nfr (Ne.symm nnw_n5))).trans fkp_k33
  have msv_k34 : sv ∈ hk34.1 := by rw [hFk34.1]; exact msv_k33
  have fsv_k34 := (hFk34.2 sv (nfr (Ne.symm nnw_n7))).trans fsv_k33
  have mhy_k34 : hy ∈ hk34.1 := by rw [hFk34.1]; exact mhy_k33
  have fhy_k34 := (hFk34.2 hy (nfr (Ne.symm nnw_n9))).trans fhy_k33
  have mou_k34 : ou ∈ hk34.1 := by rw [hFk34.1]; exact mou_k33
  have fou_k34 := (hFk34.2 ou (nfr (Ne.symm nnw_n12))).trans fou_k33
  have mbu_k34 : bu ∈ hk34.1 := by rw [hFk34.1]; exact mbu_k33
  have fbu_k34 := (hFk34.2 bu (nfr (Ne.symm nnw_n14))).trans fbu_k33
  have mod_k34 : od ∈ hk34.1 := by rw [hFk34.1]; exact mod_k33
  have fod_k34 := (hFk34.2 od (nfr (Ne.symm nnw_n17))).trans fod_k33
  have mow_k34 : ow ∈ hk34.1 := by rw [hFk34.1]; exact mow_k33
  have fow_k34 := (hFk34.2 ow (nfr (Ne.symm nnw_n19))).trans fow_k33
  have hdk34 := hdk33.eqo hEk34 (by decide)
  have gfk34 := gfk33.off (GRp.of hFk34) (fun q z => by rw [List.mem_singleton.mp z]; exact nwnw)
  refine r_aload_n dX12_init_182 0 rfl ?_
  refine i_const (1) dX12_init_183 ?_
  refine i_bipush (20) (by decide) dX12_init_184 ?_
  refine p_callV (As := [.int (iI 1), .int (iI 20)]) (b := m) (rest := []) (w := none) (st' := []) kv_X12_init_69 dX12_init_186 rfl rfl (Nat.le_of_ble_eq_true rfl) (Nat.le_of_ble_eq_true rfl) (x_rv mm_k34 fm_k34 rfl) rfl rfl (c_X12_startSheet (i := 1) (⟨mm_k34, fm_k34⟩ : MO G hk34 m (nw, dr, kp, sv, hy, ou, bu, od, ow) (nw, 0, 0, 0, 0, 0, 0, 0, false, 0, 0, 0, 0, 0, 0, 0, 0, -1, 0, 0)) (⟨hRk34.1, hRk34.2⟩ : AR G hk34 nw 1456 gk34) (by decide)) rfl (fun hk35 e9k35 => ?_)
  obtain ⟨gk35, hRk35, hSk35, hEk35, hFk35⟩ := e9k35
  have hFk35 : FRp [nw] hk34 hk35 := hFk35
  have mm_k35 : m ∈ hk35.1 := by rw [hFk35.1]; exact mm_k34
  have fm_k35 := (hFk35.2 m (nfr nm_n1)).trans fm_k34
  have mdr_k35 : dr ∈ hk35.1 := by rw [hFk35.1]; exact mdr_k34
  have fdr_k35 := (hFk35.2 dr (nfr (Ne.symm nnw_n3))).trans fdr_k34
  have mkp_k35 : kp ∈ hk35.1 := by rw [hFk35.1]; exact mkp_k34
  have fkp_k35 := (hFk35.2 kp (nfr (Ne.symm nnw_n5))).trans fkp_k34
  have msv_k35 : sv ∈ hk35.1 := by rw [hFk35.1]; exact msv_k34
  have fsv_k35 := (hFk35.2 sv (nfr (Ne.symm nnw_n7))).trans fsv_k34
  have mhy_k35 : hy ∈ hk35.1 := by rw [hFk35.1]; exact mhy_k34
  have fhy_k35 := (hFk35.2 hy (nfr (Ne.symm nnw_n9))).trans fhy_k34
  have mou_k35 : ou ∈ hk35.1 := by rw [hFk35.1]; exact mou_k34
  have fou_k35 := (hFk35.2 ou (nfr (Ne.symm nnw_n12))).trans fou_k34
  have mbu_k35 : bu ∈ hk35.1 := by rw [hFk35.1]; exact mbu_k34
  have fbu_k35 := (hFk35.2 bu (nfr (Ne.symm nnw_n14))).trans fbu_k34
  have mod_k35 : od ∈ hk35.1 := by rw [hFk35.1]; exact mod_k34
  have fod_k35 := (hFk35.2 od (nfr (Ne.symm nnw_n17))).trans fod_k34
  have mow_k35 : ow ∈ hk35.1 := by rw [hFk35.1]; exact mow_k34
  have fow_k35 := (hFk35.2 ow (nfr (Ne.symm nnw_n19))).trans fow_k34
  have hdk35 := hdk34.eqo hEk35 (by decide)
  have hzk35 := hSk34.oth hEk35 (by decide)
  have gfk35 := gfk34.off (GRp.of hFk35) (fun q z => by rw [List.mem_singleton.mp z]; exact nwnw)
  refine r_aload_n dX12_init_189 0 rfl ?_
  refine i_const (1) dX12_init_190 ?_
  refine i_bipush (30) (by decide) dX12_init_191 ?_
  refine p_callV (As := [.int (iI 1), .int (iI 30)]) (b := m) (rest := []) (w := none) (st' := []) kv_X12_init_73 dX12_init_193 rfl rfl (Nat.le_of_ble_eq_true rfl) (Nat.le_of_ble_eq_true rfl) (x_rv mm_k35 fm_k35 rfl) rfl rfl (c_X12_addLayer (i := 1) (⟨mm_k35, fm_k35⟩ : MO G hk35 m (nw, dr, kp, sv, hy, ou, bu, od, ow) (nw, 0, 0, 0, 0, 0, 0, 0, false, 0, 0, 0, 0, 0, 0, 0, 0, -1, 0, 0)) (⟨hRk35.1, hRk35.2⟩ : AR G hk35 nw 1456 gk35) (by decide) hSk35 (by decide)) rfl (fun hk36 e9k36 => ?_)
  obtain ⟨gk36, hRk36, hSk36, hEk36, hFk36⟩ := e9k36
  have hFk36 : FRp [nw] hk35 hk36 := hFk36
  have mm_k36 : m ∈ hk36.1 := by rw [hFk36.1]; exact mm_k35
  have fm_k36 := (hFk36.2 m (nfr nm_n1)).trans fm_k35
  have mdr_k36 : dr ∈ hk36.1 := by rw [hFk36.1]; exact mdr_k35
  have fdr_k36 := (hFk36.2 dr (nfr (Ne.symm nnw_n3))).trans fdr_k35
  have mkp_k36 : kp ∈ hk36.1 := by rw [hFk36.1]; exact mkp_k35
  have fkp_k36 := (hFk36.2 kp (nfr (Ne.symm nnw_n5))).trans fkp_k35
  have msv_k36 : sv ∈ hk36.1 := by rw [hFk36.1]; exact msv_k35
  have fsv_k36 := (hFk36.2 sv (nfr (Ne.symm nnw_n7))).trans fsv_k35
  have mhy_k36 : hy ∈ hk36.1 := by rw [hFk36.1]; exact mhy_k35
  have fhy_k36 := (hFk36.2 hy (nfr (Ne.symm nnw_n9))).trans fhy_k35
  have mou_k36 : ou ∈ hk36.1 := by rw [hFk36.1]; exact mou_k35
  have fou_k36 := (hFk36.2 ou (nfr (Ne.symm nnw_n12))).trans fou_k35
  have mbu_k36 : bu ∈ hk36.1 := by rw [hFk36.1]; exact mbu_k35
  have fbu_k36 := (hFk36.2 bu (nfr (Ne.symm nnw_n14))).trans fbu_k35
  have mod_k36 : od ∈ hk36.1 := by rw [hFk36.1]; exact mod_k35
  have fod_k36 := (hFk36.2 od (nfr (Ne.symm nnw_n17))).trans fod_k35
  have mow_k36 : ow ∈ hk36.1 := by rw [hFk36.1]; exact mow_k35
  have fow_k36 := (hFk36.2 ow (nfr (Ne.symm nnw_n19))).trans fow_k35
  have hdk36 := hdk35.eqo hEk36 (by decide)
  have hzk36 := hzk35.oth hEk36 (by decide)
  have gfk36 := gfk35.off (GRp.of hFk36) (fun q z => by rw [List.mem_singleton.mp z]; exact nwnw)
  refine r_aload_n dX12_init_196 0 rfl ?_
  refine i_const (1) dX12_init_197 ?_
  refine i_bipush (-9) (by decide) dX12_init_198 ?_
  refine p_callV (As := [.int (iI 1), .int (iI ((-9)))]) (b := m) (rest := []) (w := none) (st' := []) kv_X12_init_73 dX12_init_200 rfl rfl (Nat.le_of_ble_eq_true rfl) (Nat.le_of_ble_eq_true rfl) (x_rv mm_k36 fm_k36 rfl) rfl rfl (c_X12_addLayer (i := 1) (⟨mm_k36, fm_k36⟩ : MO G hk36 m (nw, dr, kp, sv, hy, ou, bu, od, ow) (nw, 0, 0, 0, 0, 0, 0, 0, false, 0, 0, 0, 0, 0, 0, 0, 0, -1, 0, 0)) (⟨hRk36.1, hRk36.2⟩ : AR G hk36 nw 1456 gk36) (by decide) hSk36 (by decide)) rfl (fun hk37 e9k37 => ?_)
  obtain ⟨gk37, hRk37, hSk37, hEk37, hFk37⟩ := e9k37
  have hFk37 : FRp [nw] hk36 hk37 := hFk37
  have mm_k37 : m ∈ hk37.1 := by rw [hFk37.1]; exact mm_k36
  have fm_k37 := (hFk37.2 m (nfr nm_n1)).trans fm_k36
  have mdr_k37 : dr ∈ hk37.1 := by rw [hFk37.1]; exact mdr_k36
  have fdr_k37 := (hFk37.2 dr (nfr (Ne.symm nnw_n3))).trans fdr_k36
  have mkp_k37 : kp ∈ hk37.1 := by rw [hFk37.1]; exact mkp_k36
  have fkp_k37 := (hFk37.2 kp (nfr (Ne.symm nnw_n5))).trans fkp_k36
  have msv_k37 : sv ∈ hk37.1 := by rw [hFk37.1]; exact msv_k36
  have fsv_k37 := (hFk37.2 sv (nfr (Ne.symm nnw_n7))).trans fsv_k36
  have mhy_k37 : hy ∈ hk37.1 := by rw [hFk37.1]; exact mhy_k36
  have fhy_k37 := (hFk37.2 hy (nfr (Ne.symm nnw_n9))).trans fhy_k36
  have mou_k37 : ou ∈ hk37.1 := by rw [hFk37.1]; exact mou_k36
  have fou_k37 := (hFk37.2 ou (nfr (Ne.symm nnw_n12))).trans fou_k36
  have mbu_k37 : bu ∈ hk37.1 := by rw [hFk37.1]; exact mbu_k36
  have fbu_k37 := (hFk37.2 bu (nfr (Ne.symm nnw_n14))).trans fbu_k36
  have mod_k37 : od ∈ hk37.1 := by rw [hFk37.1]; exact mod_k36
  have fod_k37 := (hFk37.2 od (nfr (Ne.symm nnw_n17))).trans fod_k36
  have mow_k37 : ow ∈ hk37.1 := by rw [hFk37.1]; exact mow_k36
  have fow_k37 := (hFk37.2 ow (nfr (Ne.symm nnw_n19))).trans fow_k36
  have hdk37 := hdk36.eqo hEk37 (by decide)
  have hzk37 := hzk36.oth hEk37 (by decide)
  have gfk37 := gfk36.off (GRp.of hFk37) (fun q z => by rw [List.mem_singleton.mp z]; exact nwnw)
  refine r_aload_n dX12_init_203 0 rfl ?_
  refine i_const (1) dX12_init_204 ?_
  refine i_bipush (25) (by decide) dX12_init_205 ?_
  refine p_callV (As := [.int (iI 1), .int (iI 25)]) (b := m) (rest := []) (w := none) (st' := []) kv_X12_init_73 dX12_init_207 rfl rfl (Nat.le_of_ble_eq_true rfl) (Nat.le_of_ble_eq_true rfl) (x_rv mm_k37 fm_k37 rfl) rfl rfl (c_X12_addLayer (i := 1) (⟨mm_k37, fm_k37⟩ : MO G hk37 m (nw, dr, kp, sv, hy, ou, bu, od, ow) (nw, 0, 0, 0, 0, 0, 0, 0, false, 0, 0, 0, 0, 0, 0, 0, 0, -1, 0, 0)) (⟨hRk37.1, hRk37.2⟩ : AR G hk37 nw 1456 gk37) (by decide) hSk37 (by decide)) rfl (fun hk38 e9k38 => ?_)
  obtain ⟨gk38, hRk38, hSk38, hEk38, hFk38⟩ := e9k38
  have hFk38 : FRp [nw] hk37 hk38 := hFk38
  have mm_k38 : m ∈ hk38.1 := by rw [hFk38.1]; exact mm_k37
  have fm_k38 := (hFk38.2 m (nfr nm_n1)).trans fm_k37
  have mdr_k38 : dr ∈ hk38.1 := by rw [hFk38.1]; exact mdr_k37
  have fdr_k38 := (hFk38.2 dr (nfr (Ne.symm nnw_n3))).trans fdr_k37
  have mkp_k38 : kp ∈ hk38.1 := by rw [hFk38.1]; exact mkp_k37
  have fkp_k38 := (hFk38.2 kp (nfr (Ne.symm nnw_n5))).trans fkp_k37
  have msv_k38 : sv ∈ hk38.1 := by rw [hFk38.1]; exact msv_k37
  have fsv_k38 := (hFk38.2 sv (nfr (Ne.symm nnw_n7))).trans fsv_k37
  have mhy_k38 : hy ∈ hk38.1 := by rw [hFk38.1]; exact mhy_k37
  have fhy_k38 := (hFk38.2 hy (nfr (Ne.symm nnw_n9))).trans fhy_k37
  have mou_k38 : ou ∈ hk38.1 := by rw [hFk38.1]; exact mou_k37
  have fou_k38 := (hFk38.2 ou (nfr (Ne.symm nnw_n12))).trans fou_k37
  have mbu_k38 : bu ∈ hk38.1 := by rw [hFk38.1]; exact mbu_k37
  have fbu_k38 := (hFk38.2 bu (nfr (Ne.symm nnw_n14))).trans fbu_k37
  have mod_k38 : od ∈ hk38.1 := by rw [hFk38.1]; exact mod_k37
  have fod_k38 := (hFk38.2 od (nfr (Ne.symm nnw_n17))).trans fod_k37
  have mow_k38 : ow ∈ hk38.1 := by rw [hFk38.1]; exact mow_k37
  have fow_k38 := (hFk38.2 ow (nfr (Ne.symm nnw_n19))).trans fow_k37
  have hdk38 := hdk37.eqo hEk38 (by decide)
  have hzk38 := hzk37.oth hEk38 (by decide)
  have gfk38 := gfk37.off (GRp.of hFk38) (fun q z => by rw [List.mem_singleton.mp z]; exact nwnw)
  refine r_aload_n dX12_init_210 0 rfl ?_
  refine i_const (1) dX12_init_211 ?_
  refine i_bipush (-3) (by decide) dX12_init_212 ?_
  refine p_callV (As := [.int (iI 1), .int (iI ((-3)))]) (b := m) (rest := []) (w := none) (st' := []) kv_X12_init_73 dX12_init_214 rfl rfl (Nat.le_of_ble_eq_true rfl) (Nat.le_of_ble_eq_true rfl) (x_rv mm_k38 fm_k38 rfl) rfl rfl (c_X12_addLayer (i := 1) (⟨mm_k38, fm_k38⟩ : MO G hk38 m (nw, dr, kp, sv, hy, ou, bu, od, ow) (nw, 0, 0, 0, 0, 0, 0, 0, false, 0, 0, 0, 0, 0, 0, 0, 0, -1, 0, 0)) (⟨hRk38.1, hRk38.2⟩ : AR G hk38 nw 1456 gk38) (by decide) hSk38 (by decide)) rfl (fun hk39 e9k39 => ?_)
  obtain ⟨gk39, hRk39, hSk39, hEk39, hFk39⟩ := e9k39
  have hFk39 : FRp [nw] hk38 hk39 := hFk39
  have mm_k39 : m ∈ hk39.1 := by rw [hFk39.1]; exact mm_k38
  have fm_k39 := (hFk39.2 m (nfr nm_n1)).trans fm_k38
  have mdr_k39 : dr ∈ hk39.1 := by rw [hFk39.1]; exact mdr_k38
  have fdr_k39 := (hFk39.2 dr (nfr (Ne.symm nnw_n3))).trans fdr_k38
  have mkp_k39 : kp ∈ hk39.1 := by rw [hFk39.1]; exact mkp_k38
  have fkp_k39 := (hFk39.2 kp (nfr (Ne.symm nnw_n5))).trans fkp_k38
  have msv_k39 : sv ∈ hk39.1 := by rw [hFk39.1]; exact msv_k38
  have fsv_k39 := (hFk39.2 sv (nfr (Ne.symm nnw_n7))).trans fsv_k38
  have mhy_k39 : hy ∈ hk39.1 := by rw [hFk39.1]; exact mhy_k38
  have fhy_k39 := (hFk39.2 hy (nfr (Ne.symm nnw_n9))).trans fhy_k38
  have mou_k39 : ou ∈ hk39.1 := by rw [hFk39.1]; exact mou_k38
  have fou_k39 := (hFk39.2 ou (nfr (Ne.symm nnw_n12))).trans fou_k38
  have mbu_k39 : bu ∈ hk39.1 := by rw [hFk39.1]; exact mbu_k38
  have fbu_k39 := (hFk39.2 bu (nfr (Ne.symm nnw_n14))).trans fbu_k38
  have mod_k39 : od ∈ hk39.1 := by rw [hFk39.1]; exact mod_k38
  have fod_k39 := (hFk39.2 od (nfr (Ne.symm nnw_n17))).trans fod_k38
  have mow_k39 : ow ∈ hk39.1 := by rw [hFk39.1]; exact mow_k38
  have fow_k39 := (hFk39.2 ow (nfr (Ne.symm nnw_n19))).trans fow_k38
  have hdk39 := hdk38.eqo hEk39 (by decide)
  have hzk39 := hzk38.oth hEk39 (by decide)
  have gfk39 := gfk38.off (GRp.of hFk39) (fun q z => by rw [List.mem_singleton.mp z]; exact nwnw)
  refine r_aload_n dX12_init_217 0 rfl ?_
  refine i_const (1) dX12_init_218 ?_
  refine i_bipush (30) (by decide) dX12_init_219 ?_
  refine p_callV (As := [.int (iI 1), .int (iI 30)]) (b := m) (rest := []) (w := none) (st' := []) kv_X12_init_73 dX12_init_221 rfl rfl (Nat.le_of_ble_eq_true rfl) (Nat.le_of_ble_eq_true rfl) (x_rv mm_k39 fm_k39 rfl) rfl rfl (c_X12_addLayer (i := 1) (⟨mm_k39, fm_k39⟩ : MO G hk39 m (nw, dr, kp, sv, hy, ou, bu, od, ow) (nw, 0, 0, 0, 0, 0, 0, 0, false, 0, 0, 0, 0, 0, 0, 0, 0, -1, 0, 0)) (⟨hRk39.1, hRk39.2⟩ : AR G hk39 nw 1456 gk39) (by decide) hSk39 (by decide)) rfl (fun hk40 e9k40 => ?_)
  obtain ⟨gk40, hRk40, hSk40, hEk40, hFk40⟩ := e9k40
  have hFk40 : FRp [nw] hk39 hk40 := hFk40
  have mm_k40 : m ∈ hk40.1 := by rw [hFk40.1]; exact mm_k39
  have fm_k40 := (hFk40.2 m (nfr nm_n1)).trans fm_k39
  have mdr_k40 : dr ∈ hk40.1 := by rw [hFk40.1]; exact mdr_k39
  have fdr_k40 := (hFk40.2 dr (nfr (Ne.symm nnw_n3))).trans fdr_k39
  have mkp_k40 : kp ∈ hk40.1 := by rw [hFk40.1]; exact mkp_k39
  have fkp_k40 := (hFk40.2 kp (nfr (Ne.symm nnw_n5))).trans fkp_k39
  have msv_k40 : sv ∈ hk40.1 := by rw [hFk40.1]; exact msv_k39
  have fsv_k40 := (hFk40.2 sv (nfr (Ne.symm nnw_n7))).trans fsv_k39
  have mhy_k40 : hy ∈ hk40.1 := by rw [hFk40.1]; exact mhy_k39
  have fhy_k40 := (hFk40.2 hy (nfr (Ne.symm nnw_n9))).trans fhy_k39
  have mou_k40 : ou ∈ hk40.1 := by rw [hFk40.1]; exact mou_k39
  have fou_k40 := (hFk40.2 ou (nfr (Ne.symm nnw_n12))).trans fou_k39
  have mbu_k40 : bu ∈ hk40.1 := by rw [hFk40.1]; exact mbu_k39
  have fbu_k40 := (hFk40.2 bu (nfr (Ne.symm nnw_n14))).trans fbu_k39
  have mod_k40 : od ∈ hk40.1 := by rw [hFk40.1]; exact mod_k39
  have fod_k40 := (hFk40.2 od (nfr (Ne.symm nnw_n17))).trans fod_k39
  have mow_k40 : ow ∈ hk40.1 := by rw [hFk40.1]; exact mow_k39
  have fow_k40 := (hFk40.2 ow (nfr (Ne.symm nnw_n19))).trans fow_k39
  have hdk40 := hdk39.eqo hEk40 (by decide)
  have hzk40 := hzk39.oth hEk40 (by decide)
  have gfk40 := gfk39.off (GRp.of hFk40) (fun q z => by rw [List.mem_singleton.mp z]; exact nwnw)
  refine r_aload_n dX12_init_224 0 rfl ?_
  refine r_get cl_X12 5 (by decide) kf_X12_25 dX12_init_225 mm_k40 fm_k40 rfl ?_
  refine i_const (3) dX12_init_228 ?_
  refine i_const (2) dX12_init_229 ?_
  refine i_iast 3 rfl dX12_init_230 hRk40.1 hRk40.2 (by omega) (by decide) (fun h41 e0_41 e1_41 e2_41 => ?_)
  have mm_41 : m ∈ h41.1 := by rw [e0_41]; exact mm_k40
  have fm_41 := (e2_41 _ nm_n1).trans fm_k40
  have mnw_41 : nw ∈ h41.1 := by rw [e0_41]; exact hRk40.1
  have mdr_41 : dr ∈ h41.1 := by rw [e0_41]; exact mdr_k40
  have fdr_41 := (e2_41 _ (Ne.symm nnw_n3)).trans fdr_k40
  have mkp_41 : kp ∈ h41.1 := by rw [e0_41]; exact mkp_k40
  have fkp_41 := (e2_41 _ (Ne.symm nnw_n5)).trans fkp_k40
  have msv_41 : sv ∈ h41.1 := by rw [e0_41]; exact msv_k40
  have fsv_41 := (e2_41 _ (Ne.symm nnw_n7)).trans fsv_k40
  have mhy_41 : hy ∈ h41.1 := by rw [e0_41]; exact mhy_k40
  have fhy_41 := (e2_41 _ (Ne.symm nnw_n9)).trans fhy_k40
  have mou_41 : ou ∈ h41.1 := by rw [e0_41]; exact mou_k40
  have fou_41 := (e2_41 _ (Ne.symm nnw_n12)).trans fou_k40
  have mbu_41 : bu ∈ h41.1 := by rw [e0_41]; exact mbu_k40
  have fbu_41 := (e2_41 _ (Ne.symm nnw_n14)).trans fbu_k40
  have mod_41 : od ∈ h41.1 := by rw [e0_41]; exact mod_k40
  have fod_41 := (e2_41 _ (Ne.symm nnw_n17)).trans fod_k40
  have mow_41 : ow ∈ h41.1 := by rw [e0_41]; exact mow_k40
  have fow_41 := (e2_41 _ (Ne.symm nnw_n19)).trans fow_k40
  have gw41 := gfk40.off (GRp.w (fp := [nw]) (List.mem_singleton.mpr rfl) e0_41 e2_41) (fun q z => by rw [List.mem_singleton.mp z]; exact nwnw)
  refine r_aload_n dX12_init_231 0 rfl ?_
  have hRW9 := hdk40.rw hzk40 hSk40
  refine p_callV (As := []) (b := m) (rest := []) (w := none) (st' := []) kv_X12_init_76 dX12_init_232 rfl rfl (Nat.le_of_ble_eq_true rfl) (Nat.le_of_ble_eq_true rfl) (x_rv mm_41 fm_41 rfl) rfl rfl (c_X12_expectLayers (⟨mm_41, fm_41⟩ : MO G h41 m (nw, dr, kp, sv, hy, ou, bu, od, ow) (nw, 0, 0, 0, 0, 0, 0, 0, false, 0, 0, 0, 0, 0, 0, 0, 0, -1, 0, 0)) (⟨mnw_41, e1_41⟩ : AR G h41 nw 1456 (upd gk40 3 (iI 2))) hRW9) rfl (fun hk42 e9k42 => ?_)
  obtain ⟨gk42, hRk42, hWk42, hFk42⟩ := e9k42
  have hFk42 : FRp [nw] h41 hk42 := hFk42
  have mm_k42 : m ∈ hk42.1 := by rw [hFk42.1]; exact mm_41
  have fm_k42 := (hFk42.2 m (nfr nm_n1)).trans fm_41
  have mdr_k42 : dr ∈ hk42.1 := by rw [hFk42.1]; exact mdr_41
  have fdr_k42 := (hFk42.2 dr (nfr (Ne.symm nnw_n3))).trans fdr_41
  have mkp_k42 : kp ∈ hk42.1 := by rw [hFk42.1]; exact mkp_41
  have fkp_k42 := (hFk42.2 kp (nfr (Ne.symm nnw_n5))).trans fkp_41
  have msv_k42 : sv ∈ hk42.1 := by rw [hFk42.1]; exact msv_41
  have fsv_k42 := (hFk42.2 sv (nfr (Ne.symm nnw_n7))).trans fsv_41
  have mhy_k42 : hy ∈ hk42.1 := by rw [hFk42.1]; exact mhy_41
  have fhy_k42 := (hFk42.2 hy (nfr (Ne.symm nnw_n9))).trans fhy_41
  have mou_k42 : ou ∈ hk42.1 := by rw [hFk42.1]; exact mou_41
  have fou_k42 := (hFk42.2 ou (nfr (Ne.symm nnw_n12))).trans fou_41
  have mbu_k42 : bu ∈ hk42.1 := by rw [hFk42.1]; exact mbu_41
  have fbu_k42 := (hFk42.2 bu (nfr (Ne.symm nnw_n14))).trans fbu_41
  have mod_k42 : od ∈ hk42.1 := by rw [hFk42.1]; exact mod_41
  have fod_k42 := (hFk42.2 od (nfr (Ne.symm nnw_n17))).trans fod_41
  have mow_k42 : ow ∈ hk42.1 := by rw [hFk42.1]; exact mow_41
  have fow_k42 := (hFk42.2 ow (nfr (Ne.symm nnw_n19))).trans fow_41
  have gfk42 := gw41.off (GRp.of hFk42) (fun q z => by rw [List.mem_singleton.mp z]; exact nwnw)
  refine r_return rfl dX12_init_235 ?_
  have hB0 : B00 = (((22, 18, 5, 0, 0, 0), [([60, -40, 60], 0, 10, iI 0, false, false, false), ([30, -9, 25, -3, 30], 0, 20, iI 0, false, false, false)].map exS) : AB) := rfl
  have hfin : RWf gk42 0 B00 := by rw [hB0]; exact hWk42
  refine ⟨rfl, (nw, dr, kp, sv, hy, ou, bu, od, ow), ⟨(nw, 0, 0, 0, 0, 0, 0, 0, false, 0, 0, 0, 0, 0, 0, 0, 0, -1, 0, 0), rfl, ⟨mm_k42, fm_k42⟩, ⟨rfl, rfl, rfl, rfl, rfl, rfl, rfl⟩, ⟨⟨_, ⟨hRk42.1, hRk42.2⟩, hfin⟩, ⟨_, ⟨mdr_k42, fdr_k42⟩⟩, ⟨_, ⟨mkp_k42, fkp_k42⟩, fun B9 z => by cases z⟩, ⟨_, ⟨msv_k42, fsv_k42⟩, fun B9 z => by cases z⟩, ⟨_, ⟨mhy_k42, fhy_k42⟩, by decide, fun k hk => absurd hk (Nat.not_lt_zero k)⟩, ⟨_, ⟨mou_k42, fou_k42⟩, by decide, fun k hk => absurd hk (Nat.not_lt_zero k)⟩, ⟨_, mbu_k42, fbu_k42, by decide, fun k hk => absurd hk (Nat.not_lt_zero k), fun k hk => absurd hk (Nat.not_lt_zero k)⟩, ⟨_, ⟨mod_k42, fod_k42⟩⟩, ⟨mow_k42, _, fow_k42, ?_⟩⟩, ⟨nnw_n3, nnw_n5, nnw_n7, ndr_n5, ndr_n7, nkp_n7⟩⟩, ?_, nwow, gfk42⟩
  · intro k hk; rcases (show k = 0 ∨ k = 1 ∨ k = 2 ∨ k = 3 ∨ k = 4 ∨ k = 5 ∨ k = 6 ∨ k = 7 ∨ k = 8 by omega) with rfl | rfl | rfl | rfl | rfl | rfl | rfl | rfl | rfl <;> rfl
  · intro q hq
    have hq9 : q = m ∨ q = nw ∨ q = dr ∨ q = kp ∨ q = sv ∨ q = hy ∨ q = ou ∨ q = bu ∨ q = od := by simpa [fpM] using hq
    rcases hq9 with e | e | e | e | e | e | e | e | e
    · exact Or.inl e
    · exact Or.inr (by rw [e]; exact nwnw)
    · exact Or.inr (by rw [e]; exact nwdr)
    · exact Or.inr (by rw [e]; exact nwkp)
    · exact Or.inr (by rw [e]; exact nwsv)
    · exact Or.inr (by rw [e]; exact nwhy)
    · exact Or.inr (by rw [e]; exact nwou)
    · exact Or.inr (by rw [e]; exact nwbu)
    · exact Or.inr (by rw [e]; exact nwod)
