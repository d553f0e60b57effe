/-! ===== the class: text ===== -/
def byA (w : Int32) (s : Int) : Int := (((w).toUInt32 >>> ((iI s).toUInt32 &&& Int32.toUInt32 31)).toInt32 &&& iI 255).toInt
def words4 (w : Int32) : List Int := [byA w 24, byA w 16, byA w 8, byA w 0]
theorem and255_b (y : Int32) : 0 ≤ (y &&& iI 255).toInt ∧ (y &&& iI 255).toInt ≤ 255 := by
  have e : (y &&& iI 255).toInt = (((y &&& iI 255).toBitVec.toNat : Nat) : Int) := by
    rw [← Int32.toInt_toBitVec, BitVec.toInt_eq_toNat_of_lt]
    rw [Int32.toBitVec_and, BitVec.toNat_and]
    have : y.toBitVec.toNat &&& (iI 255).toBitVec.toNat ≤ 255 := Nat.le_trans Nat.and_le_right (by decide)
    omega
  rw [e, Int32.toBitVec_and, BitVec.toNat_and]
  have : y.toBitVec.toNat &&& (iI 255).toBitVec.toNat ≤ 255 := Nat.le_trans Nat.and_le_right (by decide)
  omega
theorem byA_b (w : Int32) (s : Int) : 0 ≤ byA w s ∧ byA w s ≤ 255 := and255_b _
theorem byA_i (w : Int32) (s : Int) : ((w).toUInt32 >>> ((iI s).toUInt32 &&& Int32.toUInt32 31)).toInt32 &&& iI 255 = iI (byA w s) := (iI_of _).symm
def BYT (T : List Int) : Prop := ∀ k, k < T.length → 0 ≤ T.getD k 0 ∧ T.getD k 0 ≤ 255
theorem BYT.push {T : List Int} {c : Int} (h : BYT T) (hc : 0 ≤ c ∧ c ≤ 255) : BYT (T ++ [c]) := by
  intro k hk
  rw [List.length_append, List.length_singleton] at hk
  by_cases e : k = T.length
  · rw [e]; simp; exact hc
  · rw [List.getD_eq_getElem?_getD, List.getElem?_append_left (by omega), ← List.getD_eq_getElem?_getD]; exact h k (by omega)
theorem INP.take {G : xG} {h : xH} {I : Nat} {T : List Int} (hI : INP G h I T) (n : Nat) : INP G h I (T.take n) := by
  obtain ⟨g, m, f, hl, hg, hb⟩ := hI
  have e : ∀ k, k < (T.take n).length → k < T.length ∧ (T.take n).getD k 0 = T.getD k 0 := by
    intro k hk
    rw [List.length_take] at hk
    exact ⟨by omega, by rw [List.getD_eq_getElem?_getD, List.getElem?_take, if_pos (by omega), ← List.getD_eq_getElem?_getD]⟩
  exact ⟨g, m, f, by rw [List.length_take]; omega, fun k hk => by rw [(e k hk).2]; exact hg k (e k hk).1, fun k hk => by rw [(e k hk).2]; exact hb k (e k hk).1⟩
theorem INP.nil {G : xG} {h : xH} {I : Nat} {T : List Int} (hI : INP G h I T) : INP G h I [] := by
  have z := hI.take 0
  rwa [List.take_zero] at z
def ldB (T : List Int) : (Int × Int) ⊕ AB := match sBench T with | .inl e => .inl e | .inr a => .inr (addSh (hdB a.1.1) a.1.2)
def ldC (T : List Int) : (Int × Int) ⊕ List CM := match sScript T with | .inl e => .inl e | .inr a => .inr a.1
theorem WX.inp {inp inp' : List Int} {r} (h : WX (inp, r)) : WX (inp', r) := h
theorem WX.inp2 {S : XS} {inp' : List Int} (h : WX S) : WX (inp', S.2) := h
set_option maxRecDepth 20000 in
set_option maxHeartbeats 1000000 in
theorem c_X11_requireLength_ok {G : xG} {h : xH} {K : xK} {sa : Nat → Nat} (hGC : GC G K sa) (hGT : GT G sa) (hGE : GE G) {x : Nat} {ad : XA} {S : XS} (hX : XB G h K x ad S) (hW : WX S) {z : Int} (hz : in32 z) (hf : (0 ≤ z ∧ z ≤ (S.1.length : Int))) : CC G MX11_requireLength [.ref x, .int (iI z)] h (fun o' h' => o' = .inl none ∧ h' = h) := by
  have hX0 := hX
  have hGK := hGC.1
  have hG := gk_D hGK
  obtain ⟨I, ⟨po, to⟩, ⟨so, ca, cb, cc⟩, ⟨o, A, fp⟩, ⟨wo, wA, wfp⟩, ⟨vo, vA, vfp⟩, ⟨yo, yA, yfp⟩, ⟨uo, uA⟩⟩ := ad
  obtain ⟨inp, ⟨cod, off⟩, B, sn, Hs, out⟩ := S
  obtain ⟨mx, fx, hI, hPs, hSs, hB, hDr, hSn, hH, hU, hDJ⟩ := hX
  obtain ⟨hWB, hWh, hWs9, hWi⟩ := hW
  have hWB : WB B := hWB
  have hB : BN G h o A fp B := hB
  have fx : h.2 x = .inr (7, [.ref I, .int (iI (inp.length : Int)), .ref po, .ref so, .ref o, .ref wo, .ref vo, .int (iI (b2 sn.isSome)), .ref yo, .ref uo]) := fx
  have hf : (0 ≤ z ∧ z ≤ (inp.length : Int)) := hf
  have hil : inp.length ≤ 500 := by obtain ⟨g9, m9, f9, hl9, q9⟩ := hI; exact hl9
  show RR G MX11_requireLength 0 [(0, .ref x), (1, .int (iI z))] [] h (xm_R MX11_requireLength).cells (xm_R MX11_requireLength).slots (fun o' h' => o' = .inl none ∧ h' = h)
  refine r_iload_n dX11_requireLength_0 1 rfl ?_
  refine i_iflt dX11_requireLength_1 (tgt := 12) (by decide) (by first | assumption | (unfold in32; omega)) (fun c1 => ?_) (fun c1 => ?_)
  · exfalso
    omega
  · refine r_iload_n dX11_requireLength_4 1 rfl ?_
    refine r_aload_n dX11_requireLength_5 0 rfl ?_
    refine r_get cl_X11 1 (by decide) kf_X11_58 dX11_requireLength_6 mx fx rfl ?_
    refine i_icmple dX11_requireLength_9 (tgt := 23) (by decide) (by first | assumption | (unfold in32; omega)) (by first | assumption | (unfold in32; omega)) (fun c9 => ?_) (fun c9 => ?_)
    · refine r_return rfl dX11_requireLength_23 ?_
      exact ⟨rfl, rfl⟩
    · exfalso
      omega
set_option maxRecDepth 20000 in
set_option maxHeartbeats 1000000 in
theorem c_X11_appendWord {G : xG} {h : xH} {K : xK} {sa : Nat → Nat} (hGC : GC G K sa) (hGT : GT G sa) (hGE : GE G) {x : Nat} {ad : XA} {S : XS} (hX : XB G h K x ad S) (hW : WX S) {v : Int32} (hr4 : S.1.length + 4 ≤ 500) : CC G MX11_appendWord [.ref x, .int v] h (fun o' h' => o' = .inl none ∧ XB G h' K x ad (S.1 ++ words4 v, S.2) ∧ FRp (fpX x ad) h h') := by
  have hX0 := hX
  have hGK := hGC.1
  have hG := gk_D hGK
  obtain ⟨I, ⟨po, to⟩, ⟨so, ca, cb, cc⟩, ⟨o, A, fp⟩, ⟨wo, wA, wfp⟩, ⟨vo, vA, vfp⟩, ⟨yo, yA, yfp⟩, ⟨uo, uA⟩⟩ := ad
  obtain ⟨inp, ⟨cod, off⟩, B, sn, Hs, out⟩ := S
  obtain ⟨mx, fx, hI, hPs, hSs, hB, hDr, hSn, hH, hU, hDJ⟩ := hX
  obtain ⟨hWB, hWh, hWs9, hWi⟩ := hW
  have hWB : WB B := hWB
  have hB : BN G h o A fp B := hB
  have fx : h.2 x = .inr (7, [.ref I, .int (iI (inp.length : Int)), .ref po, .ref so, .ref o, .ref wo, .ref vo, .int (iI (b2 sn.isSome)), .ref yo, .ref uo]) := fx
  obtain ⟨I0, T0, t0, num0, hPs⟩ := hPs
  obtain ⟨cs0, hSs⟩ := hSs
  obtain ⟨Bd, hDr⟩ := hDr
  obtain ⟨Bv, hSn, hSv⟩ := hSn
  obtain ⟨ig, mI, fI, hil, hg, hb⟩ := hI
  have hil : inp.length ≤ 500 := hil
  have hr4 : inp.length + 4 ≤ 500 := hr4
  have hg : ∀ k, k < inp.length → ig k = iI (inp.getD k 0) := hg
  have hb : BYT inp := hb
  have fI : h.2 I = .inl (G.2.1 0, 500, .inl ig) := fI
  have nxI : x ≠ I := ne_oi fx fI
  show RR G MX11_appendWord 0 [(0, .ref x), (1, .int v)] [] h (xm_R MX11_appendWord).cells (xm_R MX11_appendWord).slots (fun o' h' => o' = .inl none ∧ XB G h' K x (I, (po, to), (so, ca, cb, cc), (o, A, fp), (wo, wA, wfp), (vo, vA, vfp), (yo, yA, yfp), (uo, uA)) (inp ++ words4 v, (cod, off), B, sn, Hs, out) ∧ FRp (fpX x (I, (po, to), (so, ca, cb, cc), (o, A, fp), (wo, wA, wfp), (vo, vA, vfp), (yo, yA, yfp), (uo, uA))) h h')
  refine i_bipush (24) (by decide) dX11_appendWord_0 ?_
  refine r_istore_n (ls' := [(0, .ref x), (1, .int v), (2, .int (iI 24))]) dX11_appendWord_2 (by decide) rfl ?_
  refine r_iload_n dX11_appendWord_3 2 rfl ?_
  refine i_iflt dX11_appendWord_4 (tgt := 49) (by decide) ⟨by decide, by decide⟩ (fun c => absurd c (by decide)) (fun _ => ?_)
  refine r_aload_n dX11_appendWord_7 0 rfl ?_
  refine r_get cl_X11 1 (by decide) kf_X11_58 dX11_appendWord_8 mx fx rfl ?_
  refine i_sipush (500) (by decide) dX11_appendWord_11 ?_
  refine i_icmpge dX11_appendWord_14 (tgt := 49) (by decide) (by unfold in32; omega) ⟨by decide, by decide⟩ (fun c => ?_) (fun _ => ?_)
  · exfalso; omega
  · refine r_aload_n dX11_appendWord_17 0 rfl ?_
    refine r_get cl_X11 0 (by decide) kf_X11_9 dX11_appendWord_18 mx fx rfl ?_
    refine r_aload_n dX11_appendWord_21 0 rfl ?_
    refine r_get cl_X11 1 (by decide) kf_X11_58 dX11_appendWord_22 mx fx rfl ?_
    refine r_iload_n dX11_appendWord_25 1 rfl ?_
    refine r_iload_n dX11_appendWord_26 2 rfl ?_
    refine r_iushr dX11_appendWord_27 ?_
    refine i_sipush (255) (by decide) dX11_appendWord_28 ?_
    refine r_iand dX11_appendWord_31 ?_
    rw [byA_i v 24]
    refine i_iast inp.length rfl dX11_appendWord_32 mI fI (by omega) (by decide) (fun h1 e0_1 e1_1 e2_1 => ?_)
    have mx_1 : x ∈ h1.1 := by rw [e0_1]; exact mx
    have fx_1 := (e2_1 _ nxI).trans fx
    have mI_1 : I ∈ h1.1 := by rw [e0_1]; exact mI
    refine r_aload_n dX11_appendWord_33 0 rfl ?_
    refine r_dup dX11_appendWord_34 rfl ?_
    refine r_get cl_X11 1 (by decide) kf_X11_58 dX11_appendWord_35 mx_1 fx_1 rfl ?_
    refine i_const (1) dX11_appendWord_38 ?_
    refine i_add dX11_appendWord_39 ?_
    refine i_put [.ref I, .int (iI ((inp.length : Int) + 1)), .ref po, .ref so, .ref o, .ref wo, .ref vo, .int (iI (b2 sn.isSome)), .ref yo, .ref uo] cl_X11 1 (by decide) kf_X11_58 rfl dX11_appendWord_40 mx_1 fx_1 rfl rfl (by simp) rfl (fun h2 e0_2 e1_2 e2_2 => ?_)
    have mx_2 : x ∈ h2.1 := by rw [e0_2]; exact mx_1
    have mI_2 : I ∈ h2.1 := by rw [e0_2]; exact mI_1
    have fI_2 := (e2_2 _ (Ne.symm nxI)).trans e1_1
    refine i_iinc (ls' := [(0, .ref x), (1, .int v), (2, .int (iI 16))]) (-8) (v := 16) dX11_appendWord_43 2 rfl (by decide) (by decide) rfl ?_
    refine r_goto dX11_appendWord_46 (tgt := 3) (by decide) ?_
    refine r_iload_n dX11_appendWord_3 2 rfl ?_
    refine i_iflt dX11_appendWord_4 (tgt := 49) (by decide) ⟨by decide, by decide⟩ (fun c => absurd c (by decide)) (fun _ => ?_)
    refine r_aload_n dX11_appendWord_7 0 rfl ?_
    refine r_get cl_X11 1 (by decide) kf_X11_58 dX11_appendWord_8 mx_2 e1_2 rfl ?_
    refine i_sipush (500) (by decide) dX11_appendWord_11 ?_
    refine i_icmpge dX11_appendWord_14 (tgt := 49) (by decide) (by unfold in32; omega) ⟨by decide, by decide⟩ (fun c => ?_) (fun _ => ?_)
    · exfalso; omega
    · refine r_aload_n dX11_appendWord_17 0 rfl ?_
      refine r_get cl_X11 0 (by decide) kf_X11_9 dX11_appendWord_18 mx_2 e1_2 rfl ?_
      refine r_aload_n dX11_appendWord_21 0 rfl ?_
      refine r_get cl_X11 1 (by decide) kf_X11_58 dX11_appendWord_22 mx_2 e1_2 rfl ?_
      refine r_iload_n dX11_appendWord_25 1 rfl ?_
      refine r_iload_n dX11_appendWord_26 2 rfl ?_
      refine r_iushr dX11_appendWord_27 ?_
      refine i_sipush (255) (by decide) dX11_appendWord_28 ?_
      refine r_iand dX11_appendWord_31 ?_
      rw [byA_i v 16]
      refine i_iast (inp.length + 1) (by omega) dX11_appendWord_32 mI_2 fI_2 (by omega) (by decide) (fun h3 e0_3 e1_3 e2_3 => ?_)
      have mx_3 : x ∈ h3.1 := by rw [e0_3]; exact mx_2
      have fx_3 := (e2_3 _ nxI).trans e1_2
      have mI_3 : I ∈ h3.1 := by rw [e0_3]; exact mI_2
      refine r_aload_n dX11_appendWord_33 0 rfl ?_
      refine r_dup dX11_appendWord_34 rfl ?_
      refine r_get cl_X11 1 (by decide) kf_X11_58 dX11_appendWord_35 mx_3 fx_3 rfl ?_
      refine i_const (1) dX11_appendWord_38 ?_
      refine i_add dX11_appendWord_39 ?_
      rw [show (inp.length : Int) + 1 + 1 = (inp.length : Int) + 2 by omega]
      refine i_put [.ref I, .int (iI ((inp.length : Int) + 2)), .ref po, .ref so, .ref o, .ref wo, .ref vo, .int (iI (b2 sn.isSome)), .ref yo, .ref uo] cl_X11 1 (by decide) kf_X11_58 rfl dX11_appendWord_40 mx_3 fx_3 rfl rfl (by simp) rfl (fun h4 e0_4 e1_4 e2_4 => ?_)
      have mx_4 : x ∈ h4.1 := by rw [e0_4]; exact mx_3
      have mI_4 : I ∈ h4.1 := by rw [e0_4]; exact mI_3
      have fI_4 := (e2_4 _ (Ne.symm nxI)).trans e1_3
      refine i_iinc (ls' := [(0, .ref x), (1, .int v), (2, .int (iI 8))]) (-8) (v := 8) dX11_appendWord_43 2 rfl (by decide) (by decide) rfl ?_
      refine r_goto dX11_appendWord_46 (tgt := 3) (by decide) ?_
      refine r_iload_n dX11_appendWord_3 2 rfl ?_
      refine i_iflt dX11_appendWord_4 (tgt := 49) (by decide) ⟨by decide, by decide⟩ (fun c => absurd c (by decide)) (fun _ => ?_)
      refine r_aload_n dX11_appendWord_7 0 rfl ?_
      refine r_get cl_X11 1 (by decide) kf_X11_58 dX11_appendWord_8 mx_4 e1_4 rfl ?_
      refine i_sipush (500) (by decide) dX11_appendWord_11 ?_
      refine i_icmpge dX11_appendWord_14 (tgt := 49) (by decide) (by unfold in32; omega) ⟨by decide, by decide⟩ (fun c => ?_) (fun _ => ?_)
      · exfalso; omega
      · refine r_aload_n dX11_appendWord_17 0 rfl ?_
        refine r_get cl_X11 0 (by decide) kf_X11_9 dX11_appendWord_18 mx_4 e1_4 rfl ?_
        refine r_aload_n dX11_appendWord_21 0 rfl ?_
        refine r_get cl_X11 1 (by decide) kf_X11_58 dX11_appendWord_22 mx_4 e1_4 rfl ?_
        refine r_iload_n dX11_appendWord_25 1 rfl ?_
        refine r_iload_n dX11_appendWord_26 2 rfl ?_
        refine r_iushr dX11_appendWord_27 ?_
        refine i_sipush (255) (by decide) dX11_appendWord_28 ?_
        refine r_iand dX11_appendWord_31 ?_
        rw [byA_i v 8]
        refine i_iast (inp.length + 2) (by omega) dX11_appendWord_32 mI_4 fI_4 (by omega) (by decide) (fun h5 e0_5 e1_5 e2_5 => ?_)
        have mx_5 : x ∈ h5.1 := by rw [e0_5]; exact mx_4
        have fx_5 := (e2_5 _ nxI).trans e1_4
        have mI_5 : I ∈ h5.1 := by rw [e0_5]; exact mI_4
        refine r_aload_n dX11_appendWord_33 0 rfl ?_
        refine r_dup dX11_appendWord_34 rfl ?_
        refine r_get cl_X11 1 (by decide) kf_X11_58 dX11_appendWord_35 mx_5 fx_5 rfl ?_
        refine i_const (1) dX11_appendWord_38 ?_
        refine i_add dX11_appendWord_39 ?_
        rw [show (inp.length : Int) + 2 + 1 = (inp.length : Int) + 3 by omega]
        refine i_put [.ref I, .int (iI ((inp.length : Int) + 3)), .ref po, .ref so, .ref o, .ref wo, .ref vo, .int (iI (b2 sn.isSome)), .ref yo, .ref uo] cl_X11 1 (by decide) kf_X11_58 rfl dX11_appendWord_40 mx_5 fx_5 rfl rfl (by simp) rfl (fun h6 e0_6 e1_6 e2_6 => ?_)
        have mx_6 : x ∈ h6.1 := by rw [e0_6]; exact mx_5
        have mI_6 : I ∈ h6.1 := by rw [e0_6]; exact mI_5
        have fI_6 := (e2_6 _ (Ne.symm nxI)).trans e1_5
        refine i_iinc (ls' := [(0, .ref x), (1, .int v), (2, .int (iI 0))]) (-8) (v := 0) dX11_appendWord_43 2 rfl (by decide) (by decide) rfl ?_
        refine r_goto dX11_appendWord_46 (tgt := 3) (by decide) ?_
        refine r_iload_n dX11_appendWord_3 2 rfl ?_
        refine i_iflt dX11_appendWord_4 (tgt := 49) (by decide) ⟨by decide, by decide⟩ (fun c => absurd c (by decide)) (fun _ => ?_)
        refine r_aload_n dX11_appendWord_7 0 rfl ?_
        refine r_get cl_X11 1 (by decide) kf_X11_58 dX11_appendWord_8 mx_6 e1_6 rfl ?_
        refine i_sipush (500) (by decide) dX11_appendWord_11 ?_
        refine i_icmpge dX11_appendWord_14 (tgt := 49) (by decide) (by unfold in32; omega) ⟨by decide, by decide⟩ (fun c => ?_) (fun _ => ?_)
        · exfalso; omega
        · refine r_aload_n dX11_appendWord_17 0 rfl ?_
          refine r_get cl_X11 0 (by decide) kf_X11_9 dX11_appendWord_18 mx_6 e1_6 rfl ?_
          refine r_aload_n dX11_appendWord_21 0 rfl ?_
          refine r_get cl_X11 1 (by decide) kf_X11_58 dX11_appendWord_22 mx_6 e1_6 rfl ?_
          refine r_iload_n dX11_appendWord_25 1 rfl ?_
          refine r_iload_n dX11_appendWord_26 2 rfl ?_
          refine r_iushr dX11_appendWord_27 ?_
          refine i_sipush (255) (by decide) dX11_appendWord_28 ?_
          refine r_iand dX11_appendWord_31 ?_
          rw [byA_i v 0]
          refine i_iast (inp.length + 3) (by omega) dX11_appendWord_32 mI_6 fI_6 (by omega) (by decide) (fun h7 e0_7 e1_7 e2_7 => ?_)
          have mx_7 : x ∈ h7.1 := by rw [e0_7]; exact mx_6
          have fx_7 := (e2_7 _ nxI).trans e1_6
          have mI_7 : I ∈ h7.1 := by rw [e0_7]; exact mI_6
          refine r_aload_n dX11_appendWord_33 0 rfl ?_
          refine r_dup dX11_appendWord_34 rfl ?_
          refine r_get cl_X11 1 (by decide) kf_X11_58 dX11_appendWord_35 mx_7 fx_7 rfl ?_
          refine i_const (1) dX11_appendWord_38 ?_
          refine i_add dX11_appendWord_39 ?_
          rw [show (inp.length : Int) + 3 + 1 = (inp.length : Int) + 4 by omega]
          refine i_put [.ref I, .int (iI ((inp.length : Int) + 4)), .ref po, .ref so, .ref o, .ref wo, .ref vo, .int (iI (b2 sn.isSome)), .ref yo, .ref uo] cl_X11 1 (by decide) kf_X11_58 rfl dX11_appendWord_40 mx_7 fx_7 rfl rfl (by simp) rfl (fun h8 e0_8 e1_8 e2_8 => ?_)
          have mx_8 : x ∈ h8.1 := by rw [e0_8]; exact mx_7
          have mI_8 : I ∈ h8.1 := by rw [e0_8]; exact mI_7
          have fI_8 := (e2_8 _ (Ne.symm nxI)).trans e1_7
          refine i_iinc (ls' := [(0, .ref x), (1, .int v), (2, .int (iI (-8)))]) (-8) (v := -8) dX11_appendWord_43 2 rfl (by decide) (by decide) rfl ?_
          refine r_goto dX11_appendWord_46 (tgt := 3) (by decide) ?_
          refine r_iload_n dX11_appendWord_3 2 rfl ?_
          refine i_iflt dX11_appendWord_4 (tgt := 49) (by decide) ⟨by decide, by decide⟩ (fun _ => ?_) (fun c => absurd c (by decide))
          refine r_return rfl dX11_appendWord_49 ?_
          have q0 := ob_push (x := byA v 24) hg
          have q1 := ob_push (x := byA v 16) q0
          have q2 := ob_push (x := byA v 8) q1
          have q3 := ob_push (x := byA v 0) q2
          have b3 := (((BYT.push (T := inp) hb (byA_b v 24)).push (byA_b v 16)).push (byA_b v 8)).push (byA_b v 0)
          have ea : inp ++ [byA v 24] ++ [byA v 16] ++ [byA v 8] ++ [byA v 0] = inp ++ words4 v := by simp [words4]
          rw [ea] at q3 b3
          rw [show (inp ++ [byA v 24]).length = inp.length + 1 by simp, show (inp ++ [byA v 24] ++ [byA v 16]).length = inp.length + 2 by simp, show (inp ++ [byA v 24] ++ [byA v 16] ++ [byA v 8]).length = inp.length + 3 by simp] at q3
          have hw : FRp [x, I] h h8 := (FRp.tr (FRp.tr (FRp.tr (FRp.tr (FRp.tr (FRp.tr (FRp.tr (FRp.w (by simp) e0_1 e2_1) (FRp.w (by simp) e0_2 e2_2)) (FRp.w (by simp) e0_3 e2_3)) (FRp.w (by simp) e0_4 e2_4)) (FRp.w (by simp) e0_5 e2_5)) (FRp.w (by simp) e0_6 e2_6)) (FRp.w (by simp) e0_7 e2_7)) (FRp.w (by simp) e0_8 e2_8))
          have hJ : FRp (jn (grp x (I, (po, to), (so, ca, cb, cc), (o, A, fp), (wo, wA, wfp), (vo, vA, vfp), (yo, yA, yfp), (uo, uA))) [0, 1]) h h8 := hw.mono (fun q hq => (List.mem_cons.mp hq).elim (fun z => jn_m (c := 0) (by decide) (by simp [grp, z])) (fun z => jn_m (c := 1) (by decide) (by simp [grp, List.mem_singleton.mp z])))
          have hl4 : (inp ++ words4 v).length = inp.length + 4 := by simp [words4]
          have fx8 : h8.2 x = .inr (7, xfl (I, (po, to), (so, ca, cb, cc), (o, A, fp), (wo, wA, wfp), (vo, vA, vfp), (yo, yA, yfp), (uo, uA)) (inp ++ words4 v, (cod, off), B, sn, Hs, out)) := by rw [e1_8]; simp only [xfl, hl4]; rw [show ((inp.length + 4 : Nat) : Int) = (inp.length : Int) + 4 by omega]
          have hI8 : INP G h8 I (inp ++ words4 v) := ⟨_, mI_8, fI_8, by rw [hl4]; omega, q3, b3⟩
          exact ⟨rfl, ⟨by rw [hJ.1]; exact mx, fx8, hI8, ⟨I0, T0, t0, num0, hPs.fr hJ (djn hDJ (k := 2) (by decide) (by decide) _ (by simp [grp])) (djn hDJ (k := 2) (by decide) (by decide) _ (by simp [grp]))⟩, ⟨cs0, hSs.fr hJ (djn hDJ (k := 3) (by decide) (by decide) _ (by simp [grp])) (djn hDJ (k := 3) (by decide) (by decide) _ (by simp [grp])) (djn hDJ (k := 3) (by decide) (by decide) _ (by simp [grp])) (djn hDJ (k := 3) (by decide) (by decide) _ (by simp [grp]))⟩, hB.fr hJ (djn hDJ (k := 4) (by decide) (by decide)), ⟨Bd, hDr.fr hJ (djn hDJ (k := 5) (by decide) (by decide))⟩, ⟨Bv, hSn.fr hJ (djn hDJ (k := 6) (by decide) (by decide)), hSv⟩, hH.fr hJ (djn hDJ (k := 7) (by decide) (by decide)), hU.fr hJ (djn hDJ (k := 8) (by decide) (by decide) _ (by simp [grp])) (djn hDJ (k := 8) (by decide) (by decide) _ (by simp [grp])), hDJ⟩, hJ.X (by decide)⟩
set_option maxRecDepth 20000 in
set_option maxHeartbeats 1000000 in
theorem c_X11_appendText_ok {G : xG} {h : xH} {K : xK} {sa : Nat → Nat} (hGC : GC G K sa) (hGT : GT G sa) (hGE : GE G) {x : Nat} {ad : XA} {S : XS} (hX : XB G h K x ad S) (hW : WX S) {v1 v2 v3 v4 v5 : Int32} (hr : S.1.length ≤ 480) : CC G MX11_appendText [.ref x, .int v1, .int v2, .int v3, .int v4, .int v5] h (fun o' h' => o' = .inl (some (.int (iI ((S.1 ++ words4 v1 ++ words4 v2 ++ words4 v3 ++ words4 v4 ++ words4 v5).length : Int)))) ∧ XB G h' K x ad (S.1 ++ words4 v1 ++ words4 v2 ++ words4 v3 ++ words4 v4 ++ words4 v5, S.2) ∧ FRp (fpX x ad) h h') := by
  have hW8 := hW
  have hX0 := hX
  have hGK := hGC.1
  have hG := gk_D hGK
  obtain ⟨I, ⟨po, to⟩, ⟨so, ca, cb, cc⟩, ⟨o, A, fp⟩, ⟨wo, wA, wfp⟩, ⟨vo, vA, vfp⟩, ⟨yo, yA, yfp⟩, ⟨uo, uA⟩⟩ := ad
  obtain ⟨inp, ⟨cod, off⟩, B, sn, Hs, out⟩ := S
  obtain ⟨mx, fx, hI, hPs, hSs, hB, hDr, hSn, hH, hU, hDJ⟩ := hX
  obtain ⟨hWB, hWh, hWs9, hWi⟩ := hW
  have hWB : WB B := hWB
  have hB : BN G h o A fp B := hB
  have fx : h.2 x = .inr (7, [.ref I, .int (iI (inp.length : Int)), .ref po, .ref so, .ref o, .ref wo, .ref vo, .int (iI (b2 sn.isSome)), .ref yo, .ref uo]) := fx
  have hil : inp.length ≤ 500 := by obtain ⟨g9, m9, f9, hl9, q9⟩ := hI; exact hl9
  have hr : inp.length ≤ 480 := hr
  have hW := hW8
  show RR G MX11_appendText 0 [(0, .ref x), (1, .int v1), (2, .int v2), (3, .int v3), (4, .int v4), (5, .int v5)] [] h (xm_R MX11_appendText).cells (xm_R MX11_appendText).slots (fun o' h' => o' = .inl (some (.int (iI ((inp ++ words4 v1 ++ words4 v2 ++ words4 v3 ++ words4 v4 ++ words4 v5).length : Int)))) ∧ XB G h' K x (I, (po, to), (so, ca, cb, cc), (o, A, fp), (wo, wA, wfp), (vo, vA, vfp), (yo, yA, yfp), (uo, uA)) (inp ++ words4 v1 ++ words4 v2 ++ words4 v3 ++ words4 v4 ++ words4 v5, (cod, off), B, sn, Hs, out) ∧ FRp (fpX x (I, (po, to), (so, ca, cb, cc), (o, A, fp), (wo, wA, wfp), (vo, vA, vfp), (yo, yA, yfp), (uo, uA))) h h')
  refine r_aload_n dX11_appendText_0 0 rfl ?_
  refine r_get cl_X11 1 (by decide) kf_X11_58 dX11_appendText_1 mx fx rfl ?_
  refine i_bipush (20) (by decide) dX11_appendText_4 ?_
  refine i_add dX11_appendText_6 ?_
  refine i_sipush (500) (by decide) dX11_appendText_7 ?_
  refine i_icmple dX11_appendText_10 (tgt := 15) (by decide) (by unfold in32; omega) ⟨by decide, by decide⟩ (fun c10 => ?_) (fun c10 => ?_)
  · refine r_aload_n dX11_appendText_15 0 rfl ?_
    refine r_iload_n dX11_appendText_16 1 rfl ?_
    refine p_callV (As := [.int v1]) (b := x) (rest := []) (w := none) (st' := []) kv_X11_appendText_62 dX11_appendText_17 rfl rfl (Nat.le_of_ble_eq_true rfl) (Nat.le_of_ble_eq_true rfl) (x_rv mx fx rfl) rfl rfl (c_X11_appendWord hGC hGT hGE hX0 (WX.inp hW) (v := v1) (by simp [words4]; omega)) rfl (fun h9 e9 => ?_)
    obtain ⟨hX1, hF1⟩ := e9
    skip
    refine r_aload_n dX11_appendText_20 0 rfl ?_
    refine r_iload_n dX11_appendText_21 2 rfl ?_
    refine p_callV (As := [.int v2]) (b := x) (rest := []) (w := none) (st' := []) kv_X11_appendText_62 dX11_appendText_22 rfl rfl (Nat.le_of_ble_eq_true rfl) (Nat.le_of_ble_eq_true rfl) (x_rv hX1.1 hX1.2.1 rfl) rfl rfl (c_X11_appendWord hGC hGT hGE hX1 (WX.inp hW) (v := v2) (by simp [words4]; omega)) rfl (fun h9 e9 => ?_)
    obtain ⟨hX2, hF2⟩ := e9
    skip
    refine r_aload_n dX11_appendText_25 0 rfl ?_
    refine r_iload_n dX11_appendText_26 3 rfl ?_
    refine p_callV (As := [.int v3]) (b := x) (rest := []) (w := none) (st' := []) kv_X11_appendText_62 dX11_appendText_27 rfl rfl (Nat.le_of_ble_eq_true rfl) (Nat.le_of_ble_eq_true rfl) (x_rv hX2.1 hX2.2.1 rfl) rfl rfl (c_X11_appendWord hGC hGT hGE hX2 (WX.inp hW) (v := v3) (by simp [words4]; omega)) rfl (fun h9 e9 => ?_)
    obtain ⟨hX3, hF3⟩ := e9
    skip
    refine r_aload_n dX11_appendText_30 0 rfl ?_
    refine r_iload dX11_appendText_31 4 rfl ?_
    refine p_callV (As := [.int v4]) (b := x) (rest := []) (w := none) (st' := []) kv_X11_appendText_62 dX11_appendText_33 rfl rfl (Nat.le_of_ble_eq_true rfl) (Nat.le_of_ble_eq_true rfl) (x_rv hX3.1 hX3.2.1 rfl) rfl rfl (c_X11_appendWord hGC hGT hGE hX3 (WX.inp hW) (v := v4) (by simp [words4]; omega)) rfl (fun h9 e9 => ?_)
    obtain ⟨hX4, hF4⟩ := e9
    skip
    refine r_aload_n dX11_appendText_36 0 rfl ?_
    refine r_iload dX11_appendText_37 5 rfl ?_
    refine p_callV (As := [.int v5]) (b := x) (rest := []) (w := none) (st' := []) kv_X11_appendText_62 dX11_appendText_39 rfl rfl (Nat.le_of_ble_eq_true rfl) (Nat.le_of_ble_eq_true rfl) (x_rv hX4.1 hX4.2.1 rfl) rfl rfl (c_X11_appendWord hGC hGT hGE hX4 (WX.inp hW) (v := v5) (by simp [words4]; omega)) rfl (fun h9 e9 => ?_)
    obtain ⟨hX5, hF5⟩ := e9
    skip
    refine r_aload_n dX11_appendText_42 0 rfl ?_
    refine r_get cl_X11 1 (by decide) kf_X11_58 dX11_appendText_43 hX5.1 hX5.2.1 rfl ?_
    refine r_ireturn rfl rfl dX11_appendText_46 ?_
    exact ⟨rfl, hX5, FRp.tr hF1 (FRp.tr hF2 (FRp.tr hF3 (FRp.tr hF4 hF5)))⟩
  · exfalso
    omega
set_option maxRecDepth 20000 in
set_option maxHeartbeats 1000000 in
theorem c_X11_appendText_full {G : xG} {h : xH} {K : xK} {sa : Nat → Nat} (hGC : GC G K sa) (hGT : GT G sa) (hGE : GE G) {x : Nat} {ad : XA} {S : XS} (hX : XB G h K x ad S) (hW : WX S) {v1 v2 v3 v4 v5 : Int32} (hr : 480 < S.1.length) : CC G MX11_appendText [.ref x, .int v1, .int v2, .int v3, .int v4, .int v5] h (fun o' h' => o' = .inl (some (.int (iI (-1)))) ∧ XB G h' K x ad S ∧ FRp (fpX x ad) h h') := by
  have hW8 := hW
  have hX0 := hX
  have hGK := hGC.1
  have hG := gk_D hGK
  obtain ⟨I, ⟨po, to⟩, ⟨so, ca, cb, cc⟩, ⟨o, A, fp⟩, ⟨wo, wA, wfp⟩, ⟨vo, vA, vfp⟩, ⟨yo, yA, yfp⟩, ⟨uo, uA⟩⟩ := ad
  obtain ⟨inp, ⟨cod, off⟩, B, sn, Hs, out⟩ := S
  obtain ⟨mx, fx, hI, hPs, hSs, hB, hDr, hSn, hH, hU, hDJ⟩ := hX
  obtain ⟨hWB, hWh, hWs9, hWi⟩ := hW
  have hWB : WB B := hWB
  have hB : BN G h o A fp B := hB
  have fx : h.2 x = .inr (7, [.ref I, .int (iI (inp.length : Int)), .ref po, .ref so, .ref o, .ref wo, .ref vo, .int (iI (b2 sn.isSome)), .ref yo, .ref uo]) := fx
  have hil : inp.length ≤ 500 := by obtain ⟨g9, m9, f9, hl9, q9⟩ := hI; exact hl9
  have hr : 480 < inp.length := hr
  have hW := hW8
  show RR G MX11_appendText 0 [(0, .ref x), (1, .int v1), (2, .int v2), (3, .int v3), (4, .int v4), (5, .int v5)] [] h (xm_R MX11_appendText).cells (xm_R MX11_appendText).slots (fun o' h' => o' = .inl (some (.int (iI (-1)))) ∧ XB G h' K x (I, (po, to), (so, ca, cb, cc), (o, A, fp), (wo, wA, wfp), (vo, vA, vfp), (yo, yA, yfp), (uo, uA)) (inp, (cod, off), B, sn, Hs, out) ∧ FRp (fpX x (I, (po, to), (so, ca, cb, cc), (o, A, fp), (wo, wA, wfp), (vo, vA, vfp), (yo, yA, yfp), (uo, uA))) h h')
  refine r_aload_n dX11_appendText_0 0 rfl ?_
  refine r_get cl_X11 1 (by decide) kf_X11_58 dX11_appendText_1 mx fx rfl ?_
  refine i_bipush (20) (by decide) dX11_appendText_4 ?_
  refine i_add dX11_appendText_6 ?_
  refine i_sipush (500) (by decide) dX11_appendText_7 ?_
  refine i_icmple dX11_appendText_10 (tgt := 15) (by decide) (by unfold in32; omega) ⟨by decide, by decide⟩ (fun c10 => ?_) (fun c10 => ?_)
  · exfalso
    omega
  · refine i_const (-1) dX11_appendText_13 ?_
    refine r_ireturn rfl rfl dX11_appendText_14 ?_
    exact ⟨rfl, hX0, FRp.rf⟩
