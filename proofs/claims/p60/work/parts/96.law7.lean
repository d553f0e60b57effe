theorem rr_top {G : xG} {M : xM} {pc : Nat} {ls : List (Nat × Value)} {a b : Value} {st : List Value} {h : xH} {kc ks : Nat} {Q : xR → xH → Prop} (e : a = b) (k : RR G M pc ls (b :: st) h kc ks Q) : RR G M pc ls (a :: st) h kc ks Q := by
  subst e; exact k
set_option maxRecDepth 20000 in
set_option maxHeartbeats 4000000 in
theorem act_stack {G : xG} {h : xH} {K : xK} {sa : Nat → Nat} (hGC : GC G K sa) (hGT : GT G sa) (hGE : GE G) {x : Nat} {ad : XA} {S : XS} (hX : XB G h K x ad S) (hI : IV S) (hE : EB S.2.2.1) (hH : S.2.2.1.1.2.2.2.1 ≤ 9900) {v : Int32} {k p : Int} (hk : k = aK S.2.2.1 v) (hp : p = aP v) {q : Int} (hq : q = aQ S.2.2.1 v) (d : 17 < mst v 24 ∧ mst v 24 < 20 ∧ 1 < (S.2.2.1.2.length : Int)) : RR G ML_act 900 [(0, .ref x), (1, .int v), (2, .int (iI (mst v 24))), (3, .int (aU v)), (4, .int (iI ((S.2.2.1.2.length : Int)))), (5, .int (iI k)), (6, .int (iI (((sAt S.2.2.1 k).1.length : Int)))), (7, .int (iI (b2 (sAt S.2.2.1 k).2.2.2.2.2.2))), (8, .int (iI p))] [] h (xm_R ML_act).cells (xm_R ML_act).slots (fun o' h' => o' = .inl (some (.int (iI 1))) ∧ XB G h' K x ad (updS S (actR S.2.2.1 v)) ∧ FRp (fpX x ad) h h') := by
  have hW := hI.1
  have hWB := hW.1
  have hC3 := hI.2.1
  have hlen := hX.len
  have hl6 := hlen.1
  have hn1 := hE.2
  have hm := hWB.2.2.1
  have hfl := hWB.2.2.2.1
  have hro := hWB.2.1
  have hho := hWB.2.2.2.2
  obtain ⟨hk0, hk1, hsk⟩ := aK_b hE v
  rw [← hk] at hk0 hk1 hsk
  have hp4 := aP_b v
  rw [← hp] at hp4
  have hzk : in32 k := by unfold in32; omega
  have hlk : (sAt S.2.2.1 k).1.length ≤ 200 := hlen.2 _ (getD_memS (hasS_n hsk).1)
  have hS := hWB.at hsk
  have hS1 := hS.1
  have hS3 := hS.2.2.1
  have hS4 := hS.2.2.2
  have hg1 := hgt_ge (sAt S.2.2.1 k).1 hS.2.1
  have hmw := mst_b v (m := 24) (by decide)
  have hlo := loss_b (m := S.2.2.1.1.2.1) hS4 (by omega)
  have hA := actR_7 hk hq d
  obtain ⟨hq0, hq1, hsq, hne⟩ := aQ_b hE (by omega) v d.2.2
  rw [← hq, ← hk] at hne
  rw [← hq] at hq0 hq1 hsq
  have hlq : (sAt S.2.2.1 q).1.length ≤ 200 := hlen.2 _ (getD_memS (hasS_n hsq).1)
  have hQS := hWB.at hsq
  have hQ1 := hQS.1
  have hQ3 := hQS.2.2.1
  have hgq := hgt_nn (sAt S.2.2.1 q).1
  have hm3 := mst_b (aU v >>> (iI 3 &&& 31)) (m := (S.2.2.1.2.length : Int) - 1) (by omega)
  refine r_iload dL_act_900 5 rfl ?_
  refine i_const (1) dL_act_902 ?_
  refine i_add dL_act_903 ?_
  refine r_iload_n dL_act_904 3 rfl ?_
  refine i_const (3) dL_act_905 ?_
  refine r_ishr dL_act_906 ?_
  refine r_iload dL_act_907 4 rfl ?_
  refine i_const (1) dL_act_909 ?_
  refine i_sub dL_act_910 ?_
  refine p_callS (As := [.int ((aU v) >>> ((iI 3) &&& 31)), .int (iI ((S.2.2.1.2.length : Int) - 1))]) (rest := [.int (iI (k + 1))]) (w := (some (.int (iI (mst (aU v >>> (iI 3 &&& 31)) ((S.2.2.1.2.length : Int) - 1)))))) (st' := [.int (iI (mst (aU v >>> (iI 3 &&& 31)) ((S.2.2.1.2.length : Int) - 1))), .int (iI (k + 1))]) kv_L_act_128 dL_act_911 rfl rfl (Nat.le_of_ble_eq_true rfl) (Nat.le_of_ble_eq_true rfl) rfl rfl (c_L_most (by omega)) rfl (fun hk1 e9k1 => ?_)
  rw [show hk1 = h from e9k1]
  refine i_add dL_act_914 ?_
  refine r_iload dL_act_915 4 rfl ?_
  refine i_rem dL_act_917 (by unfold in32; omega) (by unfold in32; omega) (by omega) (by omega) ?_
  rw [show ((k + 1) + (mst (aU v >>> (iI 3 &&& 31)) ((S.2.2.1.2.length : Int) - 1))) % (S.2.2.1.2.length : Int) = q by rw [hq, hk]; rfl]
  refine r_istore (ls' := [(0, .ref x), (1, .int v), (2, .int (iI (mst v 24))), (3, .int (aU v)), (4, .int (iI ((S.2.2.1.2.length : Int)))), (5, .int (iI k)), (6, .int (iI (((sAt S.2.2.1 k).1.length : Int)))), (7, .int (iI (b2 (sAt S.2.2.1 k).2.2.2.2.2.2))), (8, .int (iI p)), (9, .int (iI q))]) dL_act_918 (by decide) rfl ?_
  refine r_aload_n dL_act_920 0 rfl ?_
  refine r_iload dL_act_921 5 rfl ?_
  refine p_callV (As := [.int (iI k)]) (b := x) (rest := []) (w := (some (.int (iI (hgt (sAt S.2.2.1 k).1))))) (st' := [.int (iI (hgt (sAt S.2.2.1 k).1))]) kv_L_act_88 dL_act_923 rfl rfl (Nat.le_of_ble_eq_true rfl) (Nat.le_of_ble_eq_true rfl) (xb_rv hX) rfl rfl (c_X11_height_ok hGC hGT hGE hX hW (z := k) hzk hsk) rfl (fun hk2 e9k2 => ?_)
  rw [show hk2 = h from e9k2]
  refine r_aload_n dL_act_926 0 rfl ?_
  refine r_iload dL_act_927 9 rfl ?_
  refine p_callV (As := [.int (iI q)]) (b := x) (rest := [.int (iI (hgt (sAt S.2.2.1 k).1))]) (w := (some (.int (iI (hgt (sAt S.2.2.1 q).1))))) (st' := [.int (iI (hgt (sAt S.2.2.1 q).1)), .int (iI (hgt (sAt S.2.2.1 k).1))]) kv_L_act_88 dL_act_929 rfl rfl (Nat.le_of_ble_eq_true rfl) (Nat.le_of_ble_eq_true rfl) (xb_rv hX) rfl rfl (c_X11_height_ok hGC hGT hGE hX hW (z := q) (by unfold in32; omega) hsq) rfl (fun hk3 e9k3 => ?_)
  rw [show hk3 = h from e9k3]
  refine i_add dL_act_932 ?_
  refine r_istore (ls' := [(0, .ref x), (1, .int v), (2, .int (iI (mst v 24))), (3, .int (aU v)), (4, .int (iI ((S.2.2.1.2.length : Int)))), (5, .int (iI k)), (6, .int (iI (((sAt S.2.2.1 k).1.length : Int)))), (7, .int (iI (b2 (sAt S.2.2.1 k).2.2.2.2.2.2))), (8, .int (iI p)), (9, .int (iI q)), (10, .int (iI ((hgt (sAt S.2.2.1 k).1) + (hgt (sAt S.2.2.1 q).1))))]) dL_act_933 (by decide) rfl ?_
  refine r_iload dL_act_935 6 rfl ?_
  refine r_aload_n dL_act_937 0 rfl ?_
  refine r_iload dL_act_938 9 rfl ?_
  refine p_callV (As := [.int (iI q)]) (b := x) (rest := [.int (iI (((sAt S.2.2.1 k).1.length : Int)))]) (w := (some (.int (iI (((sAt S.2.2.1 q).1.length : Int)))))) (st' := [.int (iI (((sAt S.2.2.1 q).1.length : Int))), .int (iI (((sAt S.2.2.1 k).1.length : Int)))]) kv_L_act_33 dL_act_940 rfl rfl (Nat.le_of_ble_eq_true rfl) (Nat.le_of_ble_eq_true rfl) (xb_rv hX) rfl rfl (c_X11_layerCount_ok hGC hGT hGE hX hW (z := q) (by unfold in32; omega) hsq) rfl (fun hk4 e9k4 => ?_)
  rw [show hk4 = h from e9k4]
  refine i_add dL_act_943 ?_
  refine r_istore (ls' := [(0, .ref x), (1, .int v), (2, .int (iI (mst v 24))), (3, .int (aU v)), (4, .int (iI ((S.2.2.1.2.length : Int)))), (5, .int (iI k)), (6, .int (iI (((sAt S.2.2.1 k).1.length : Int)))), (7, .int (iI (b2 (sAt S.2.2.1 k).2.2.2.2.2.2))), (8, .int (iI p)), (9, .int (iI q)), (10, .int (iI ((hgt (sAt S.2.2.1 k).1) + (hgt (sAt S.2.2.1 q).1)))), (11, .int (iI (((sAt S.2.2.1 k).1.length : Int) + ((sAt S.2.2.1 q).1.length : Int))))]) dL_act_944 (by decide) rfl ?_
  refine r_iload dL_act_946 7 rfl ?_
  refine i_ifneb dL_act_948 (tgt := 976) (by decide) (fun c948 => ?_) (fun c948 => ?_)
  · refine i_const (1) dL_act_976 ?_
    refine r_ireturn rfl (b2_nar true) dL_act_977 ?_
    exact ⟨rfl, by rw [hA, if_pos (Or.inl c948)]; exact hX, FRp.rf⟩
  · refine r_aload_n dL_act_951 0 rfl ?_
    refine r_iload dL_act_952 9 rfl ?_
    refine p_callV (As := [.int (iI q)]) (b := x) (rest := []) (w := (some (.int (iI (b2 (sAt S.2.2.1 q).2.2.2.2.2.2))))) (st' := [.int (iI (b2 (sAt S.2.2.1 q).2.2.2.2.2.2))]) kv_L_act_65 dL_act_954 rfl rfl (Nat.le_of_ble_eq_true rfl) (Nat.le_of_ble_eq_true rfl) (xb_rv hX) rfl rfl (c_X11_isCooling_ok hGC hGT hGE hX hW (z := q) (by unfold in32; omega) hsq) rfl (fun hk5 e9k5 => ?_)
    rw [show hk5 = h from e9k5]
    refine i_ifneb dL_act_957 (tgt := 976) (by decide) (fun c957 => ?_) (fun c957 => ?_)
    · refine i_const (1) dL_act_976 ?_
      refine r_ireturn rfl (b2_nar true) dL_act_977 ?_
      exact ⟨rfl, by rw [hA, if_pos (Or.inr (Or.inl c957))]; exact hX, FRp.rf⟩
    · refine r_iload dL_act_960 10 rfl ?_
      refine i_sipush (4000) (by decide) dL_act_962 ?_
      refine i_icmpgt dL_act_965 (tgt := 976) (by decide) (by unfold in32; omega) ⟨by decide, by decide⟩ (fun c965 => ?_) (fun c965 => ?_)
      · refine i_const (1) dL_act_976 ?_
        refine r_ireturn rfl (b2_nar true) dL_act_977 ?_
        exact ⟨rfl, by rw [hA, if_pos (Or.inr (Or.inr (Or.inl (by omega))))]; exact hX, FRp.rf⟩
      · refine r_iload dL_act_968 11 rfl ?_
        refine i_sipush (200) (by decide) dL_act_970 ?_
        refine i_icmple dL_act_973 (tgt := 978) (by decide) (by unfold in32; omega) ⟨by decide, by decide⟩ (fun c973 => ?_) (fun c973 => ?_)
        · have h0 := R_stackS c948 c957 (by omega) (by omega)
          refine r_aload_n dL_act_978 0 rfl ?_
          refine r_iload dL_act_979 5 rfl ?_
          refine p_callV (As := [.int (iI k)]) (b := x) (rest := []) (w := (some (.int (iI (b2 (sAt S.2.2.1 k).2.2.2.2.1))))) (st' := [.int (iI (b2 (sAt S.2.2.1 k).2.2.2.2.1))]) kv_L_act_58 dL_act_981 rfl rfl (Nat.le_of_ble_eq_true rfl) (Nat.le_of_ble_eq_true rfl) (xb_rv hX) rfl rfl (c_X11_isDusted_ok hGC hGT hGE hX hW (z := k) hzk hsk) rfl (fun hk6 e9k6 => ?_)
          rw [show hk6 = h from e9k6]
          refine i_ifneb dL_act_984 (tgt := 1011) (by decide) (fun c984 => ?_) (fun c984 => ?_)
          · refine i_const (0) dL_act_1011 ?_
            have hj : (if jW (sAt S.2.2.1 k) (sAt S.2.2.1 q) then (1 : Int) else 0) = 0 := by rw [jW_v hS1 hQ1, c984]; rfl
            refine r_istore (ls' := [(0, .ref x), (1, .int v), (2, .int (iI (mst v 24))), (3, .int (aU v)), (4, .int (iI ((S.2.2.1.2.length : Int)))), (5, .int (iI k)), (6, .int (iI (((sAt S.2.2.1 k).1.length : Int)))), (7, .int (iI (b2 (sAt S.2.2.1 k).2.2.2.2.2.2))), (8, .int (iI p)), (9, .int (iI q)), (10, .int (iI ((hgt (sAt S.2.2.1 k).1) + (hgt (sAt S.2.2.1 q).1)))), (11, .int (iI (((sAt S.2.2.1 k).1.length : Int) + ((sAt S.2.2.1 q).1.length : Int)))), (12, .int (iI 0))]) dL_act_1012 (by decide) rfl ?_
            refine r_aload_n dL_act_1014 0 rfl ?_
            refine r_iload dL_act_1015 5 rfl ?_
            refine r_iload dL_act_1017 9 rfl ?_
            have hr := R_stack hsk hsq hne h0
            have hL := L_stack hWB hsk hsq hne h0
            have hI9 := hI.chg (inp := S.1) (e := S.2.1) hI.1.2.2.2 (hWB.cmd hr) (CB_cmd hr hC3)
            obtain ⟨B1, hB1⟩ : ∃ B1, B1 = aCmd 8 S.2.2.1 k q := ⟨_, rfl⟩
            rw [← hB1] at hL hI9
            have hW1 : WX (S.1, S.2.1, B1, S.2.2.2.1, remH S.2.2.2.2.1 S.2.2.1, S.2.2.2.2.2) := hI9.1
            obtain ⟨hsw, l2, l3, l4, l5⟩ := hL
            have hnw : 0 ≤ nowK k q ∧ nowK k q < 6 := by unfold nowK; split <;> omega
            refine p_callV (As := [.int (iI k), .int (iI q)]) (b := x) (rest := []) (w := (some (.int (iI (vCmd 8 S.2.2.1 k q))))) (st' := [.int (iI (vCmd 8 S.2.2.1 k q))]) kv_L_act_164 dL_act_1019 rfl rfl (Nat.le_of_ble_eq_true rfl) (Nat.le_of_ble_eq_true rfl) (xb_rv hX) rfl rfl (c_X11_stack_ok hGC hGT hGE hX hW hzk (q := q) (by unfold in32; omega) hr) rfl (fun hk7 e9k7 => ?_)
            obtain ⟨hX9, hF1⟩ := e9k7
            have hX1 : XB G hk7 K x ad (S.1, S.2.1, B1, S.2.2.2.1, remH S.2.2.2.2.1 S.2.2.1, S.2.2.2.2.2) := by rw [hB1]; exact hX9
            have hlen1 := hX1.len
            have hg9 := hgt_nn (sAt B1 (nowK k q)).1
            refine r_istore (ls' := [(0, .ref x), (1, .int v), (2, .int (iI (mst v 24))), (3, .int (aU v)), (4, .int (iI ((S.2.2.1.2.length : Int)))), (5, .int (iI k)), (6, .int (iI (((sAt S.2.2.1 k).1.length : Int)))), (7, .int (iI (b2 (sAt S.2.2.1 k).2.2.2.2.2.2))), (8, .int (iI p)), (9, .int (iI q)), (10, .int (iI ((hgt (sAt S.2.2.1 k).1) + (hgt (sAt S.2.2.1 q).1)))), (11, .int (iI (((sAt S.2.2.1 k).1.length : Int) + ((sAt S.2.2.1 q).1.length : Int)))), (12, .int (iI 0)), (13, .int (iI (vCmd 8 S.2.2.1 k q)))]) dL_act_1022 (by decide) rfl ?_
            refine r_iload dL_act_1024 9 rfl ?_
            refine r_iload dL_act_1026 5 rfl ?_
            refine i_icmpge dL_act_1028 (tgt := 1038) (by decide) (by unfold in32; omega) (by unfold in32; omega) (fun c1028 => ?_) (fun c1028 => ?_)
            · refine r_iload dL_act_1038 5 rfl ?_
              refine rr_top (show Value.int (iI (k)) = .int (iI (nowK k q)) by unfold nowK; rw [if_neg (by omega)]) ?_
              refine r_istore (ls' := [(0, .ref x), (1, .int v), (2, .int (iI (mst v 24))), (3, .int (aU v)), (4, .int (iI ((S.2.2.1.2.length : Int)))), (5, .int (iI k)), (6, .int (iI (((sAt S.2.2.1 k).1.length : Int)))), (7, .int (iI (b2 (sAt S.2.2.1 k).2.2.2.2.2.2))), (8, .int (iI p)), (9, .int (iI q)), (10, .int (iI ((hgt (sAt S.2.2.1 k).1) + (hgt (sAt S.2.2.1 q).1)))), (11, .int (iI (((sAt S.2.2.1 k).1.length : Int) + ((sAt S.2.2.1 q).1.length : Int)))), (12, .int (iI 0)), (13, .int (iI (vCmd 8 S.2.2.1 k q))), (14, .int (iI (nowK k q)))]) dL_act_1040 (by decide) rfl ?_
              refine r_iload dL_act_1042 13 rfl ?_
              refine r_iload dL_act_1044 11 rfl ?_
              refine r_iload dL_act_1046 12 rfl ?_
              refine i_ifeq dL_act_1048 (tgt := 1055) (by decide) ⟨by decide, by decide⟩ (fun _ => ?_) (fun c => absurd c (by decide))
              refine i_const (0) dL_act_1055 ?_
              refine i_sub dL_act_1056 ?_
              refine i_icmpne dL_act_1057 (tgt := 1097) (by decide) (by unfold in32; omega) (by unfold in32; omega) (fun c => (by exfalso; omega)) (fun _ => ?_)
              refine r_aload_n dL_act_1060 0 rfl ?_
              refine p_callV (As := []) (b := x) (rest := []) (w := (some (.int (iI ((B1.2.length : Int)))))) (st' := [.int (iI ((B1.2.length : Int)))]) kv_L_act_30 dL_act_1061 rfl rfl (Nat.le_of_ble_eq_true rfl) (Nat.le_of_ble_eq_true rfl) (xb_rv hX1) rfl rfl (c_X11_sheetCount hGC hGT hGE hX1 hW1) rfl (fun hk8 e9k8 => ?_)
              rw [show hk8 = hk7 from e9k8]
              refine r_iload dL_act_1064 4 rfl ?_
              refine i_const (1) dL_act_1066 ?_
              refine i_sub dL_act_1067 ?_
              refine i_icmpne dL_act_1068 (tgt := 1097) (by decide) (by unfold in32; omega) (by unfold in32; omega) (fun c => (by exfalso; omega)) (fun _ => ?_)
              refine r_aload_n dL_act_1071 0 rfl ?_
              refine r_iload dL_act_1072 14 rfl ?_
              refine p_callV (As := [.int (iI (nowK k q))]) (b := x) (rest := []) (w := (some (.int (iI (hgt (sAt B1 (nowK k q)).1))))) (st' := [.int (iI (hgt (sAt B1 (nowK k q)).1))]) kv_L_act_88 dL_act_1074 rfl rfl (Nat.le_of_ble_eq_true rfl) (Nat.le_of_ble_eq_true rfl) (xb_rv hX1) rfl rfl (c_X11_height_ok hGC hGT hGE hX1 hW1 (z := (nowK k q)) (by unfold in32; omega) hsw) rfl (fun hk9 e9k9 => ?_)
              rw [show hk9 = hk7 from e9k9]
              refine r_iload dL_act_1077 10 rfl ?_
              refine i_icmpne dL_act_1079 (tgt := 1097) (by decide) (by unfold in32; omega) (by unfold in32; omega) (fun c => (by exfalso; omega)) (fun _ => ?_)
              refine r_aload_n dL_act_1082 0 rfl ?_
              refine r_iload dL_act_1083 14 rfl ?_
              refine p_callV (As := [.int (iI (nowK k q))]) (b := x) (rest := []) (w := (some (.int (iI (((sAt B1 (nowK k q)).1.length : Int)))))) (st' := [.int (iI (((sAt B1 (nowK k q)).1.length : Int)))]) kv_L_act_33 dL_act_1085 rfl rfl (Nat.le_of_ble_eq_true rfl) (Nat.le_of_ble_eq_true rfl) (xb_rv hX1) rfl rfl (c_X11_layerCount_ok hGC hGT hGE hX1 hW1 (z := (nowK k q)) (by unfold in32; omega) hsw) rfl (fun hk10 e9k10 => ?_)
              rw [show hk10 = hk7 from e9k10]
              refine r_iload dL_act_1088 13 rfl ?_
              refine i_icmpne dL_act_1090 (tgt := 1097) (by decide) (by unfold in32; omega) (by unfold in32; omega) (fun c => (by exfalso; omega)) (fun _ => ?_)
              refine i_const (1) dL_act_1093 ?_
              refine r_goto dL_act_1094 (tgt := 1098) (by decide) ?_
              refine r_ireturn rfl (b2_nar true) dL_act_1098 ?_
              exact ⟨rfl, by rw [hA, if_neg (by rw [c948, c957]; simp only [Bool.false_eq_true, false_or]; omega), ← hB1]; exact hX1, hF1⟩
            · refine r_iload dL_act_1031 5 rfl ?_
              refine i_const (1) dL_act_1033 ?_
              refine i_sub dL_act_1034 ?_
              refine r_goto dL_act_1035 (tgt := 1040) (by decide) ?_
              refine rr_top (show Value.int (iI (k - 1)) = .int (iI (nowK k q)) by unfold nowK; rw [if_pos (by omega)]) ?_
              refine r_istore (ls' := [(0, .ref x), (1, .int v), (2, .int (iI (mst v 24))), (3, .int (aU v)), (4, .int (iI ((S.2.2.1.2.length : Int)))), (5, .int (iI k)), (6, .int (iI (((sAt S.2.2.1 k).1.length : Int)))), (7, .int (iI (b2 (sAt S.2.2.1 k).2.2.2.2.2.2))), (8, .int (iI p)), (9, .int (iI q)), (10, .int (iI ((hgt (sAt S.2.2.1 k).1) + (hgt (sAt S.2.2.1 q).1)))), (11, .int (iI (((sAt S.2.2.1 k).1.length : Int) + ((sAt S.2.2.1 q).1.length : Int)))), (12, .int (iI 0)), (13, .int (iI (vCmd 8 S.2.2.1 k q))), (14, .int (iI (nowK k q)))]) dL_act_1040 (by decide) rfl ?_
              refine r_iload dL_act_1042 13 rfl ?_
              refine r_iload dL_act_1044 11 rfl ?_
              refine r_iload dL_act_1046 12 rfl ?_
              refine i_ifeq dL_act_1048 (tgt := 1055) (by decide) ⟨by decide, by decide⟩ (fun _ => ?_) (fun c => absurd c (by decide))
              refine i_const (0) dL_act_1055 ?_
              refine i_sub dL_act_1056 ?_
              refine i_icmpne dL_act_1057 (tgt := 1097) (by decide) (by unfold in32; omega) (by unfold in32; omega) (fun c => (by exfalso; omega)) (fun _ => ?_)
              refine r_aload_n dL_act_1060 0 rfl ?_
              refine p_callV (As := []) (b := x) (rest := []) (w := (some (.int (iI ((B1.2.length : Int)))))) (st' := [.int (iI ((B1.2.length : Int)))]) kv_L_act_30 dL_act_1061 rfl rfl (Nat.le_of_ble_eq_true rfl) (Nat.le_of_ble_eq_true rfl) (xb_rv hX1) rfl rfl (c_X11_sheetCount hGC hGT hGE hX1 hW1) rfl (fun hk11 e9k11 => ?_)
              rw [show hk11 = hk7 from e9k11]
              refine r_iload dL_act_1064 4 rfl ?_
              refine i_const (1) dL_act_1066 ?_
              refine i_sub dL_act_1067 ?_
              refine i_icmpne dL_act_1068 (tgt := 1097) (by decide) (by unfold in32; omega) (by unfold in32; omega) (fun c => (by exfalso; omega)) (fun _ => ?_)
              refine r_aload_n dL_act_1071 0 rfl ?_
              refine r_iload dL_act_1072 14 rfl ?_
              refine p_callV (As := [.int (iI (nowK k q))]) (b := x) (rest := []) (w := (some (.int (iI (hgt (sAt B1 (nowK k q)).1))))) (st' := [.int (iI (hgt (sAt B1 (nowK k q)).1))]) kv_L_act_88 dL_act_1074 rfl rfl (Nat.le_of_ble_eq_true rfl) (Nat.le_of_ble_eq_true rfl) (xb_rv hX1) rfl rfl (c_X11_height_ok hGC hGT hGE hX1 hW1 (z := (nowK k q)) (by unfold in32; omega) hsw) rfl (fun hk12 e9k12 => ?_)
              rw [show hk12 = hk7 from e9k12]
              refine r_iload dL_act_1077 10 rfl ?_
              refine i_icmpne dL_act_1079 (tgt := 1097) (by decide) (by unfold in32; omega) (by unfold in32; omega) (fun c => (by exfalso; omega)) (fun _ => ?_)
              refine r_aload_n dL_act_1082 0 rfl ?_
              refine r_iload dL_act_1083 14 rfl ?_
              refine p_callV (As := [.int (iI (nowK k q))]) (b := x) (rest := []) (w := (some (.int (iI (((sAt B1 (nowK k q)).1.length : Int)))))) (st' := [.int (iI (((sAt B1 (nowK k q)).1.length : Int)))]) kv_L_act_33 dL_act_1085 rfl rfl (Nat.le_of_ble_eq_true rfl) (Nat.le_of_ble_eq_true rfl) (xb_rv hX1) rfl rfl (c_X11_layerCount_ok hGC hGT hGE hX1 hW1 (z := (nowK k q)) (by unfold in32; omega) hsw) rfl (fun hk13 e9k13 => ?_)
              rw [show hk13 = hk7 from e9k13]
              refine r_iload dL_act_1088 13 rfl ?_
              refine i_icmpne dL_act_1090 (tgt := 1097) (by decide) (by unfold in32; omega) (by unfold in32; omega) (fun c => (by exfalso; omega)) (fun _ => ?_)
              refine i_const (1) dL_act_1093 ?_
              refine r_goto dL_act_1094 (tgt := 1098) (by decide) ?_
              refine r_ireturn rfl (b2_nar true) dL_act_1098 ?_
              exact ⟨rfl, by rw [hA, if_neg (by rw [c948, c957]; simp only [Bool.false_eq_true, false_or]; omega), ← hB1]; exact hX1, hF1⟩
          · refine r_aload_n dL_act_987 0 rfl ?_
            refine r_iload dL_act_988 5 rfl ?_
            refine r_iload dL_act_990 6 rfl ?_
            refine i_const (1) dL_act_992 ?_
            refine i_sub dL_act_993 ?_
            refine p_callV (As := [.int (iI k), .int (iI (((sAt S.2.2.1 k).1.length : Int) - 1))]) (b := x) (rest := []) (w := (some (.int (iI (b2 (isB ((sAt S.2.2.1 k).1.getD ((sAt S.2.2.1 k).1.length - 1) 0))))))) (st' := [.int (iI (b2 (isB ((sAt S.2.2.1 k).1.getD ((sAt S.2.2.1 k).1.length - 1) 0))))]) kv_L_act_68 dL_act_994 rfl rfl (Nat.le_of_ble_eq_true rfl) (Nat.le_of_ble_eq_true rfl) (xb_rv hX) rfl rfl ((by have z := c_X11_isButter_ok hGC hGT hGE hX hW hzk hsk (q := (((sAt S.2.2.1 k).1.length : Int) - 1)) (by unfold in32; omega) (by omega); rw [show ((((sAt S.2.2.1 k).1.length : Int) - 1)).toNat = (sAt S.2.2.1 k).1.length - 1 by omega] at z; exact z)) rfl (fun hk14 e9k14 => ?_)
            rw [show hk14 = h from e9k14]
            refine r_aload_n dL_act_997 0 rfl ?_
            refine r_iload dL_act_998 9 rfl ?_
            refine i_const (0) dL_act_1000 ?_
            refine p_callV (As := [.int (iI q), .int (iI 0)]) (b := x) (rest := [.int (iI (b2 (isB ((sAt S.2.2.1 k).1.getD ((sAt S.2.2.1 k).1.length - 1) 0))))]) (w := (some (.int (iI (b2 (isB ((sAt S.2.2.1 q).1.getD 0 0))))))) (st' := [.int (iI (b2 (isB ((sAt S.2.2.1 q).1.getD 0 0)))), .int (iI (b2 (isB ((sAt S.2.2.1 k).1.getD ((sAt S.2.2.1 k).1.length - 1) 0))))]) kv_L_act_68 dL_act_1001 rfl rfl (Nat.le_of_ble_eq_true rfl) (Nat.le_of_ble_eq_true rfl) (xb_rv hX) rfl rfl (c_X11_isButter_ok hGC hGT hGE hX hW (z := q) (by unfold in32; omega) hsq (q := 0) ⟨by decide, by decide⟩ (by omega)) rfl (fun hk15 e9k15 => ?_)
            rw [show hk15 = h from e9k15]
            refine i_icmpne dL_act_1004 (tgt := 1011) (by decide) (in32_b2 _) (in32_b2 _) (fun c1004 => ?_) (fun c1004 => ?_)
            · refine i_const (0) dL_act_1011 ?_
              have hj : (if jW (sAt S.2.2.1 k) (sAt S.2.2.1 q) then (1 : Int) else 0) = 0 := by rw [jW_v hS1 hQ1, c984, beq_false_of_ne (b2_ne c1004)]; rfl
              refine r_istore (ls' := [(0, .ref x), (1, .int v), (2, .int (iI (mst v 24))), (3, .int (aU v)), (4, .int (iI ((S.2.2.1.2.length : Int)))), (5, .int (iI k)), (6, .int (iI (((sAt S.2.2.1 k).1.length : Int)))), (7, .int (iI (b2 (sAt S.2.2.1 k).2.2.2.2.2.2))), (8, .int (iI p)), (9, .int (iI q)), (10, .int (iI ((hgt (sAt S.2.2.1 k).1) + (hgt (sAt S.2.2.1 q).1)))), (11, .int (iI (((sAt S.2.2.1 k).1.length : Int) + ((sAt S.2.2.1 q).1.length : Int)))), (12, .int (iI 0))]) dL_act_1012 (by decide) rfl ?_
              refine r_aload_n dL_act_1014 0 rfl ?_
              refine r_iload dL_act_1015 5 rfl ?_
              refine r_iload dL_act_1017 9 rfl ?_
              have hr := R_stack hsk hsq hne h0
              have hL := L_stack hWB hsk hsq hne h0
              have hI9 := hI.chg (inp := S.1) (e := S.2.1) hI.1.2.2.2 (hWB.cmd hr) (CB_cmd hr hC3)
              obtain ⟨B1, hB1⟩ : ∃ B1, B1 = aCmd 8 S.2.2.1 k q := ⟨_, rfl⟩
              rw [← hB1] at hL hI9
              have hW1 : WX (S.1, S.2.1, B1, S.2.2.2.1, remH S.2.2.2.2.1 S.2.2.1, S.2.2.2.2.2) := hI9.1
              obtain ⟨hsw, l2, l3, l4, l5⟩ := hL
              have hnw : 0 ≤ nowK k q ∧ nowK k q < 6 := by unfold nowK; split <;> omega
              refine p_callV (As := [.int (iI k), .int (iI q)]) (b := x) (rest := []) (w := (some (.int (iI (vCmd 8 S.2.2.1 k q))))) (st' := [.int (iI (vCmd 8 S.2.2.1 k q))]) kv_L_act_164 dL_act_1019 rfl rfl (Nat.le_of_ble_eq_true rfl) (Nat.le_of_ble_eq_true rfl) (xb_rv hX) rfl rfl (c_X11_stack_ok hGC hGT hGE hX hW hzk (q := q) (by unfold in32; omega) hr) rfl (fun hk16 e9k16 => ?_)
              obtain ⟨hX9, hF1⟩ := e9k16
              have hX1 : XB G hk16 K x ad (S.1, S.2.1, B1, S.2.2.2.1, remH S.2.2.2.2.1 S.2.2.1, S.2.2.2.2.2) := by rw [hB1]; exact hX9
              have hlen1 := hX1.len
              have hg9 := hgt_nn (sAt B1 (nowK k q)).1
              refine r_istore (ls' := [(0, .ref x), (1, .int v), (2, .int (iI (mst v 24))), (3, .int (aU v)), (4, .int (iI ((S.2.2.1.2.length : Int)))), (5, .int (iI k)), (6, .int (iI (((sAt S.2.2.1 k).1.length : Int)))), (7, .int (iI (b2 (sAt S.2.2.1 k).2.2.2.2.2.2))), (8, .int (iI p)), (9, .int (iI q)), (10, .int (iI ((hgt (sAt S.2.2.1 k).1) + (hgt (sAt S.2.2.1 q).1)))), (11, .int (iI (((sAt S.2.2.1 k).1.length : Int) + ((sAt S.2.2.1 q).1.length : Int)))), (12, .int (iI 0)), (13, .int (iI (vCmd 8 S.2.2.1 k q)))]) dL_act_1022 (by decide) rfl ?_
              refine r_iload dL_act_1024 9 rfl ?_
              refine r_iload dL_act_1026 5 rfl ?_
              refine i_icmpge dL_act_1028 (tgt := 1038) (by decide) (by unfold in32; omega) (by unfold in32; omega) (fun c1028 => ?_) (fun c1028 => ?_)
              · refine r_iload dL_act_1038 5 rfl ?_
                refine rr_top (show Value.int (iI (k)) = .int (iI (nowK k q)) by unfold nowK; rw [if_neg (by omega)]) ?_
                refine r_istore (ls' := [(0, .ref x), (1, .int v), (2, .int (iI (mst v 24))), (3, .int (aU v)), (4, .int (iI ((S.2.2.1.2.length : Int)))), (5, .int (iI k)), (6, .int (iI (((sAt S.2.2.1 k).1.length : Int)))), (7, .int (iI (b2 (sAt S.2.2.1 k).2.2.2.2.2.2))), (8, .int (iI p)), (9, .int (iI q)), (10, .int (iI ((hgt (sAt S.2.2.1 k).1) + (hgt (sAt S.2.2.1 q).1)))), (11, .int (iI (((sAt S.2.2.1 k).1.length : Int) + ((sAt S.2.2.1 q).1.length : Int)))), (12, .int (iI 0)), (13, .int (iI (vCmd 8 S.2.2.1 k q))), (14, .int (iI (nowK k q)))]) dL_act_1040 (by decide) rfl ?_
                refine r_iload dL_act_1042 13 rfl ?_
                refine r_iload dL_act_1044 11 rfl ?_
                refine r_iload dL_act_1046 12 rfl ?_
                refine i_ifeq dL_act_1048 (tgt := 1055) (by decide) ⟨by decide, by decide⟩ (fun _ => ?_) (fun c => absurd c (by decide))
                refine i_const (0) dL_act_1055 ?_
                refine i_sub dL_act_1056 ?_
                refine i_icmpne dL_act_1057 (tgt := 1097) (by decide) (by unfold in32; omega) (by unfold in32; omega) (fun c => (by exfalso; omega)) (fun _ => ?_)
                refine r_aload_n dL_act_1060 0 rfl ?_
                refine p_callV (As := []) (b := x) (rest := []) (w := (some (.int (iI ((B1.2.length : Int)))))) (st' := [.int (iI ((B1.2.length : Int)))]) kv_L_act_30 dL_act_1061 rfl rfl (Nat.le_of_ble_eq_true rfl) (Nat.le_of_ble_eq_true rfl) (xb_rv hX1) rfl rfl (c_X11_sheetCount hGC hGT hGE hX1 hW1) rfl (fun hk17 e9k17 => ?_)
                rw [show hk17 = hk16 from e9k17]
                refine r_iload dL_act_1064 4 rfl ?_
                refine i_const (1) dL_act_1066 ?_
                refine i_sub dL_act_1067 ?_
                refine i_icmpne dL_act_1068 (tgt := 1097) (by decide) (by unfold in32; omega) (by unfold in32; omega) (fun c => (by exfalso; omega)) (fun _ => ?_)
                refine r_aload_n dL_act_1071 0 rfl ?_
                refine r_iload dL_act_1072 14 rfl ?_
                refine p_callV (As := [.int (iI (nowK k q))]) (b := x) (rest := []) (w := (some (.int (iI (hgt (sAt B1 (nowK k q)).1))))) (st' := [.int (iI (hgt (sAt B1 (nowK k q)).1))]) kv_L_act_88 dL_act_1074 rfl rfl (Nat.le_of_ble_eq_true rfl) (Nat.le_of_ble_eq_true rfl) (xb_rv hX1) rfl rfl (c_X11_height_ok hGC hGT hGE hX1 hW1 (z := (nowK k q)) (by unfold in32; omega) hsw) rfl (fun hk18 e9k18 => ?_)
                rw [show hk18 = hk16 from e9k18]
                refine r_iload dL_act_1077 10 rfl ?_
                refine i_icmpne dL_act_1079 (tgt := 1097) (by decide) (by unfold in32; omega) (by unfold in32; omega) (fun c => (by exfalso; omega)) (fun _ => ?_)
                refine r_aload_n dL_act_1082 0 rfl ?_
                refine r_iload dL_act_1083 14 rfl ?_
                refine p_callV (As := [.int (iI (nowK k q))]) (b := x) (rest := []) (w := (some (.int (iI (((sAt B1 (nowK k q)).1.length : Int)))))) (st' := [.int (iI (((sAt B1 (nowK k q)).1.length : Int)))]) kv_L_act_33 dL_act_1085 rfl rfl (Nat.le_of_ble_eq_true rfl) (Nat.le_of_ble_eq_true rfl) (xb_rv hX1) rfl rfl (c_X11_layerCount_ok hGC hGT hGE hX1 hW1 (z := (nowK k q)) (by unfold in32; omega) hsw) rfl (fun hk19 e9k19 => ?_)
                rw [show hk19 = hk16 from e9k19]
                refine r_iload dL_act_1088 13 rfl ?_
                refine i_icmpne dL_act_1090 (tgt := 1097) (by decide) (by unfold in32; omega) (by unfold in32; omega) (fun c => (by exfalso; omega)) (fun _ => ?_)
                refine i_const (1) dL_act_1093 ?_
                refine r_goto dL_act_1094 (tgt := 1098) (by decide) ?_
                refine r_ireturn rfl (b2_nar true) dL_act_1098 ?_
                exact ⟨rfl, by rw [hA, if_neg (by rw [c948, c957]; simp only [Bool.false_eq_true, false_or]; omega), ← hB1]; exact hX1, hF1⟩
              · refine r_iload dL_act_1031 5 rfl ?_
                refine i_const (1) dL_act_1033 ?_
                refine i_sub dL_act_1034 ?_
                refine r_goto dL_act_1035 (tgt := 1040) (by decide) ?_
                refine rr_top (show Value.int (iI (k - 1)) = .int (iI (nowK k q)) by unfold nowK; rw [if_pos (by omega)]) ?_
                refine r_istore (ls' := [(0, .ref x), (1, .int v), (2, .int (iI (mst v 24))), (3, .int (aU v)), (4, .int (iI ((S.2.2.1.2.length : Int)))), (5, .int (iI k)), (6, .int (iI (((sAt S.2.2.1 k).1.length : Int)))), (7, .int (iI (b2 (sAt S.2.2.1 k).2.2.2.2.2.2))), (8, .int (iI p)), (9, .int (iI q)), (10, .int (iI ((hgt (sAt S.2.2.1 k).1) + (hgt (sAt S.2.2.1 q).1)))), (11, .int (iI (((sAt S.2.2.1 k).1.length : Int) + ((sAt S.2.2.1 q).1.length : Int)))), (12, .int (iI 0)), (13, .int (iI (vCmd 8 S.2.2.1 k q))), (14, .int (iI (nowK k q)))]) dL_act_1040 (by decide) rfl ?_
                refine r_iload dL_act_1042 13 rfl ?_
                refine r_iload dL_act_1044 11 rfl ?_
                refine r_iload dL_act_1046 12 rfl ?_
                refine i_ifeq dL_act_1048 (tgt := 1055) (by decide) ⟨by decide, by decide⟩ (fun _ => ?_) (fun c => absurd c (by decide))
                refine i_const (0) dL_act_1055 ?_
                refine i_sub dL_act_1056 ?_
                refine i_icmpne dL_act_1057 (tgt := 1097) (by decide) (by unfold in32; omega) (by unfold in32; omega) (fun c => (by exfalso; omega)) (fun _ => ?_)
                refine r_aload_n dL_act_1060 0 rfl ?_
                refine p_callV (As := []) (b := x) (rest := []) (w := (some (.int (iI ((B1.2.length : Int)))))) (st' := [.int (iI ((B1.2.length : Int)))]) kv_L_act_30 dL_act_1061 rfl rfl (Nat.le_of_ble_eq_true rfl) (Nat.le_of_ble_eq_true rfl) (xb_rv hX1) rfl rfl (c_X11_sheetCount hGC hGT hGE hX1 hW1) rfl (fun hk20 e9k20 => ?_)
                rw [show hk20 = hk16 from e9k20]
                refine r_iload dL_act_1064 4 rfl ?_
                refine i_const (1) dL_act_1066 ?_
                refine i_sub dL_act_1067 ?_
                refine i_icmpne dL_act_1068 (tgt := 1097) (by decide) (by unfold in32; omega) (by unfold in32; omega) (fun c => (by exfalso; omega)) (fun _ => ?_)
                refine r_aload_n dL_act_1071 0 rfl ?_
                refine r_iload dL_act_1072 14 rfl ?_
                refine p_callV (As := [.int (iI (nowK k q))]) (b := x) (rest := []) (w := (some (.int (iI (hgt (sAt B1 (nowK k q)).1))))) (st' := [.int (iI (hgt (sAt B1 (nowK k q)).1))]) kv_L_act_88 dL_act_1074 rfl rfl (Nat.le_of_ble_eq_true rfl) (Nat.le_of_ble_eq_true rfl) (xb_rv hX1) rfl rfl (c_X11_height_ok hGC hGT hGE hX1 hW1 (z := (nowK k q)) (by unfold in32; omega) hsw) rfl (fun hk21 e9k21 => ?_)
                rw [show hk21 = hk16 from e9k21]
                refine r_iload dL_act_1077 10 rfl ?_
                refine i_icmpne dL_act_1079 (tgt := 1097) (by decide) (by unfold in32; omega) (by unfold in32; omega) (fun c => (by exfalso; omega)) (fun _ => ?_)
                refine r_aload_n dL_act_1082 0 rfl ?_
                refine r_iload dL_act_1083 14 rfl ?_
                refine p_callV (As := [.int (iI (nowK k q))]) (b := x) (rest := []) (w := (some (.int (iI (((sAt B1 (nowK k q)).1.length : Int)))))) (st' := [.int (iI (((sAt B1 (nowK k q)).1.length : Int)))]) kv_L_act_33 dL_act_1085 rfl rfl (Nat.le_of_ble_eq_true rfl) (Nat.le_of_ble_eq_true rfl) (xb_rv hX1) rfl rfl (c_X11_layerCount_ok hGC hGT hGE hX1 hW1 (z := (nowK k q)) (by unfold in32; omega) hsw) rfl (fun hk22 e9k22 => ?_)
                rw [show hk22 = hk16 from e9k22]
                refine r_iload dL_act_1088 13 rfl ?_
                refine i_icmpne dL_act_1090 (tgt := 1097) (by decide) (by unfold in32; omega) (by unfold in32; omega) (fun c => (by exfalso; omega)) (fun _ => ?_)
                refine i_const (1) dL_act_1093 ?_
                refine r_goto dL_act_1094 (tgt := 1098) (by decide) ?_
                refine r_ireturn rfl (b2_nar true) dL_act_1098 ?_
                exact ⟨rfl, by rw [hA, if_neg (by rw [c948, c957]; simp only [Bool.false_eq_true, false_or]; omega), ← hB1]; exact hX1, hF1⟩
            · refine i_const (1) dL_act_1007 ?_
              refine r_goto dL_act_1008 (tgt := 1012) (by decide) ?_
              have hj : (if jW (sAt S.2.2.1 k) (sAt S.2.2.1 q) then (1 : Int) else 0) = 1 := by rw [jW_v hS1 hQ1, c984, b2_eq c1004, beq_self_eq_true]; rfl
              refine r_istore (ls' := [(0, .ref x), (1, .int v), (2, .int (iI (mst v 24))), (3, .int (aU v)), (4, .int (iI ((S.2.2.1.2.length : Int)))), (5, .int (iI k)), (6, .int (iI (((sAt S.2.2.1 k).1.length : Int)))), (7, .int (iI (b2 (sAt S.2.2.1 k).2.2.2.2.2.2))), (8, .int (iI p)), (9, .int (iI q)), (10, .int (iI ((hgt (sAt S.2.2.1 k).1) + (hgt (sAt S.2.2.1 q).1)))), (11, .int (iI (((sAt S.2.2.1 k).1.length : Int) + ((sAt S.2.2.1 q).1.length : Int)))), (12, .int (iI 1))]) dL_act_1012 (by decide) rfl ?_
              refine r_aload_n dL_act_1014 0 rfl ?_
              refine r_iload dL_act_1015 5 rfl ?_
              refine r_iload dL_act_1017 9 rfl ?_
              have hr := R_stack hsk hsq hne h0
              have hL := L_stack hWB hsk hsq hne h0
              have hI9 := hI.chg (inp := S.1) (e := S.2.1) hI.1.2.2.2 (hWB.cmd hr) (CB_cmd hr hC3)
              obtain ⟨B1, hB1⟩ : ∃ B1, B1 = aCmd 8 S.2.2.1 k q := ⟨_, rfl⟩
              rw [← hB1] at hL hI9
              have hW1 : WX (S.1, S.2.1, B1, S.2.2.2.1, remH S.2.2.2.2.1 S.2.2.1, S.2.2.2.2.2) := hI9.1
              obtain ⟨hsw, l2, l3, l4, l5⟩ := hL
              have hnw : 0 ≤ nowK k q ∧ nowK k q < 6 := by unfold nowK; split <;> omega
              refine p_callV (As := [.int (iI k), .int (iI q)]) (b := x) (rest := []) (w := (some (.int (iI (vCmd 8 S.2.2.1 k q))))) (st' := [.int (iI (vCmd 8 S.2.2.1 k q))]) kv_L_act_164 dL_act_1019 rfl rfl (Nat.le_of_ble_eq_true rfl) (Nat.le_of_ble_eq_true rfl) (xb_rv hX) rfl rfl (c_X11_stack_ok hGC hGT hGE hX hW hzk (q := q) (by unfold in32; omega) hr) rfl (fun hk23 e9k23 => ?_)
              obtain ⟨hX9, hF1⟩ := e9k23
              have hX1 : XB G hk23 K x ad (S.1, S.2.1, B1, S.2.2.2.1, remH S.2.2.2.2.1 S.2.2.1, S.2.2.2.2.2) := by rw [hB1]; exact hX9
              have hlen1 := hX1.len
              have hg9 := hgt_nn (sAt B1 (nowK k q)).1
              refine r_istore (ls' := [(0, .ref x), (1, .int v), (2, .int (iI (mst v 24))), (3, .int (aU v)), (4, .int (iI ((S.2.2.1.2.length : Int)))), (5, .int (iI k)), (6, .int (iI (((sAt S.2.2.1 k).1.length : Int)))), (7, .int (iI (b2 (sAt S.2.2.1 k).2.2.2.2.2.2))), (8, .int (iI p)), (9, .int (iI q)), (10, .int (iI ((hgt (sAt S.2.2.1 k).1) + (hgt (sAt S.2.2.1 q).1)))), (11, .int (iI (((sAt S.2.2.1 k).1.length : Int) + ((sAt S.2.2.1 q).1.length : Int)))), (12, .int (iI 1)), (13, .int (iI (vCmd 8 S.2.2.1 k q)))]) dL_act_1022 (by decide) rfl ?_
              refine r_iload dL_act_1024 9 rfl ?_
              refine r_iload dL_act_1026 5 rfl ?_
              refine i_icmpge dL_act_1028 (tgt := 1038) (by decide) (by unfold in32; omega) (by unfold in32; omega) (fun c1028 => ?_) (fun c1028 => ?_)
              · refine r_iload dL_act_1038 5 rfl ?_
                refine rr_top (show Value.int (iI (k)) = .int (iI (nowK k q)) by unfold nowK; rw [if_neg (by omega)]) ?_
                refine r_istore (ls' := [(0, .ref x), (1, .int v), (2, .int (iI (mst v 24))), (3, .int (aU v)), (4, .int (iI ((S.2.2.1.2.length : Int)))), (5, .int (iI k)), (6, .int (iI (((sAt S.2.2.1 k).1.length : Int)))), (7, .int (iI (b2 (sAt S.2.2.1 k).2.2.2.2.2.2))), (8, .int (iI p)), (9, .int (iI q)), (10, .int (iI ((hgt (sAt S.2.2.1 k).1) + (hgt (sAt S.2.2.1 q).1)))), (11, .int (iI (((sAt S.2.2.1 k).1.length : Int) + ((sAt S.2.2.1 q).1.length : Int)))), (12, .int (iI 1)), (13, .int (iI (vCmd 8 S.2.2.1 k q))), (14, .int (iI (nowK k q)))]) dL_act_1040 (by decide) rfl ?_
                refine r_iload dL_act_1042 13 rfl ?_
                refine r_iload dL_act_1044 11 rfl ?_
                refine r_iload dL_act_1046 12 rfl ?_
                refine i_ifeq dL_act_1048 (tgt := 1055) (by decide) ⟨by decide, by decide⟩ (fun c => absurd c (by decide)) (fun _ => ?_)
                refine i_const (1) dL_act_1051 ?_
                refine r_goto dL_act_1052 (tgt := 1056) (by decide) ?_
                refine i_sub dL_act_1056 ?_
                refine i_icmpne dL_act_1057 (tgt := 1097) (by decide) (by unfold in32; omega) (by unfold in32; omega) (fun c => (by exfalso; omega)) (fun _ => ?_)
                refine r_aload_n dL_act_1060 0 rfl ?_
                refine p_callV (As := []) (b := x) (rest := []) (w := (some (.int (iI ((B1.2.length : Int)))))) (st' := [.int (iI ((B1.2.length : Int)))]) kv_L_act_30 dL_act_1061 rfl rfl (Nat.le_of_ble_eq_true rfl) (Nat.le_of_ble_eq_true rfl) (xb_rv hX1) rfl rfl (c_X11_sheetCount hGC hGT hGE hX1 hW1) rfl (fun hk24 e9k24 => ?_)
                rw [show hk24 = hk23 from e9k24]
                refine r_iload dL_act_1064 4 rfl ?_
                refine i_const (1) dL_act_1066 ?_
                refine i_sub dL_act_1067 ?_
                refine i_icmpne dL_act_1068 (tgt := 1097) (by decide) (by unfold in32; omega) (by unfold in32; omega) (fun c => (by exfalso; omega)) (fun _ => ?_)
                refine r_aload_n dL_act_1071 0 rfl ?_
                refine r_iload dL_act_1072 14 rfl ?_
                refine p_callV (As := [.int (iI (nowK k q))]) (b := x) (rest := []) (w := (some (.int (iI (hgt (sAt B1 (nowK k q)).1))))) (st' := [.int (iI (hgt (sAt B1 (nowK k q)).1))]) kv_L_act_88 dL_act_1074 rfl rfl (Nat.le_of_ble_eq_true rfl) (Nat.le_of_ble_eq_true rfl) (xb_rv hX1) rfl rfl (c_X11_height_ok hGC hGT hGE hX1 hW1 (z := (nowK k q)) (by unfold in32; omega) hsw) rfl (fun hk25 e9k25 => ?_)
                rw [show hk25 = hk23 from e9k25]
                refine r_iload dL_act_1077 10 rfl ?_
                refine i_icmpne dL_act_1079 (tgt := 1097) (by decide) (by unfold in32; omega) (by unfold in32; omega) (fun c => (by exfalso; omega)) (fun _ => ?_)
                refine r_aload_n dL_act_1082 0 rfl ?_
                refine r_iload dL_act_1083 14 rfl ?_
                refine p_callV (As := [.int (iI (nowK k q))]) (b := x) (rest := []) (w := (some (.int (iI (((sAt B1 (nowK k q)).1.length : Int)))))) (st' := [.int (iI (((sAt B1 (nowK k q)).1.length : Int)))]) kv_L_act_33 dL_act_1085 rfl rfl (Nat.le_of_ble_eq_true rfl) (Nat.le_of_ble_eq_true rfl) (xb_rv hX1) rfl rfl (c_X11_layerCount_ok hGC hGT hGE hX1 hW1 (z := (nowK k q)) (by unfold in32; omega) hsw) rfl (fun hk26 e9k26 => ?_)
                rw [show hk26 = hk23 from e9k26]
                refine r_iload dL_act_1088 13 rfl ?_
                refine i_icmpne dL_act_1090 (tgt := 1097) (by decide) (by unfold in32; omega) (by unfold in32; omega) (fun c => (by exfalso; omega)) (fun _ => ?_)
                refine i_const (1) dL_act_1093 ?_
                refine r_goto dL_act_1094 (tgt := 1098) (by decide) ?_
                refine r_ireturn rfl (b2_nar true) dL_act_1098 ?_
                exact ⟨rfl, by rw [hA, if_neg (by rw [c948, c957]; simp only [Bool.false_eq_true, false_or]; omega), ← hB1]; exact hX1, hF1⟩
              · refine r_iload dL_act_1031 5 rfl ?_
                refine i_const (1) dL_act_1033 ?_
                refine i_sub dL_act_1034 ?_
                refine r_goto dL_act_1035 (tgt := 1040) (by decide) ?_
                refine rr_top (show Value.int (iI (k - 1)) = .int (iI (nowK k q)) by unfold nowK; rw [if_pos (by omega)]) ?_
                refine r_istore (ls' := [(0, .ref x), (1, .int v), (2, .int (iI (mst v 24))), (3, .int (aU v)), (4, .int (iI ((S.2.2.1.2.length : Int)))), (5, .int (iI k)), (6, .int (iI (((sAt S.2.2.1 k).1.length : Int)))), (7, .int (iI (b2 (sAt S.2.2.1 k).2.2.2.2.2.2))), (8, .int (iI p)), (9, .int (iI q)), (10, .int (iI ((hgt (sAt S.2.2.1 k).1) + (hgt (sAt S.2.2.1 q).1)))), (11, .int (iI (((sAt S.2.2.1 k).1.length : Int) + ((sAt S.2.2.1 q).1.length : Int)))), (12, .int (iI 1)), (13, .int (iI (vCmd 8 S.2.2.1 k q))), (14, .int (iI (nowK k q)))]) dL_act_1040 (by decide) rfl ?_
                refine r_iload dL_act_1042 13 rfl ?_
                refine r_iload dL_act_1044 11 rfl ?_
                refine r_iload dL_act_1046 12 rfl ?_
                refine i_ifeq dL_act_1048 (tgt := 1055) (by decide) ⟨by decide, by decide⟩ (fun c => absurd c (by decide)) (fun _ => ?_)
                refine i_const (1) dL_act_1051 ?_
                refine r_goto dL_act_1052 (tgt := 1056) (by decide) ?_
                refine i_sub dL_act_1056 ?_
                refine i_icmpne dL_act_1057 (tgt := 1097) (by decide) (by unfold in32; omega) (by unfold in32; omega) (fun c => (by exfalso; omega)) (fun _ => ?_)
                refine r_aload_n dL_act_1060 0 rfl ?_
                refine p_callV (As := []) (b := x) (rest := []) (w := (some (.int (iI ((B1.2.length : Int)))))) (st' := [.int (iI ((B1.2.length : Int)))]) kv_L_act_30 dL_act_1061 rfl rfl (Nat.le_of_ble_eq_true rfl) (Nat.le_of_ble_eq_true rfl) (xb_rv hX1) rfl rfl (c_X11_sheetCount hGC hGT hGE hX1 hW1) rfl (fun hk27 e9k27 => ?_)
                rw [show hk27 = hk23 from e9k27]
                refine r_iload dL_act_1064 4 rfl ?_
                refine i_const (1) dL_act_1066 ?_
                refine i_sub dL_act_1067 ?_
                refine i_icmpne dL_act_1068 (tgt := 1097) (by decide) (by unfold in32; omega) (by unfold in32; omega) (fun c => (by exfalso; omega)) (fun _ => ?_)
                refine r_aload_n dL_act_1071 0 rfl ?_
                refine r_iload dL_act_1072 14 rfl ?_
                refine p_callV (As := [.int (iI (nowK k q))]) (b := x) (rest := []) (w := (some (.int (iI (hgt (sAt B1 (nowK k q)).1))))) (st' := [.int (iI (hgt (sAt B1 (nowK k q)).1))]) kv_L_act_88 dL_act_1074 rfl rfl (Nat.le_of_ble_eq_true rfl) (Nat.le_of_ble_eq_true rfl) (xb_rv hX1) rfl rfl (c_X11_height_ok hGC hGT hGE hX1 hW1 (z := (nowK k q)) (by unfold in32; omega) hsw) rfl (fun hk28 e9k28 => ?_)
                rw [show hk28 = hk23 from e9k28]
                refine r_iload dL_act_1077 10 rfl ?_
                refine i_icmpne dL_act_1079 (tgt := 1097) (by decide) (by unfold in32; omega) (by unfold in32; omega) (fun c => (by exfalso; omega)) (fun _ => ?_)
                refine r_aload_n dL_act_1082 0 rfl ?_
                refine r_iload dL_act_1083 14 rfl ?_
                refine p_callV (As := [.int (iI (nowK k q))]) (b := x) (rest := []) (w := (some (.int (iI (((sAt B1 (nowK k q)).1.length : Int)))))) (st' := [.int (iI (((sAt B1 (nowK k q)).1.length : Int)))]) kv_L_act_33 dL_act_1085 rfl rfl (Nat.le_of_ble_eq_true rfl) (Nat.le_of_ble_eq_true rfl) (xb_rv hX1) rfl rfl (c_X11_layerCount_ok hGC hGT hGE hX1 hW1 (z := (nowK k q)) (by unfold in32; omega) hsw) rfl (fun hk29 e9k29 => ?_)
                rw [show hk29 = hk23 from e9k29]
                refine r_iload dL_act_1088 13 rfl ?_
                refine i_icmpne dL_act_1090 (tgt := 1097) (by decide) (by unfold in32; omega) (by unfold in32; omega) (fun c => (by exfalso; omega)) (fun _ => ?_)
                refine i_const (1) dL_act_1093 ?_
                refine r_goto dL_act_1094 (tgt := 1098) (by decide) ?_
                refine r_ireturn rfl (b2_nar true) dL_act_1098 ?_
                exact ⟨rfl, by rw [hA, if_neg (by rw [c948, c957]; simp only [Bool.false_eq_true, false_or]; omega), ← hB1]; exact hX1, hF1⟩
        · refine i_const (1) dL_act_976 ?_
          refine r_ireturn rfl (b2_nar true) dL_act_977 ?_
          exact ⟨rfl, by rw [hA, if_pos (Or.inr (Or.inr (Or.inr (by omega))))]; exact hX, FRp.rf⟩
set_option maxRecDepth 20000 in
set_option maxHeartbeats 4000000 in
theorem act_butter {G : xG} {h : xH} {K : xK} {sa : Nat → Nat} (hGC : GC G K sa) (hGT : GT G sa) (hGE : GE G) {x : Nat} {ad : XA} {S : XS} (hX : XB G h K x ad S) (hI : IV S) (hE : EB S.2.2.1) (hH : S.2.2.1.1.2.2.2.1 ≤ 9900) {v : Int32} {k p : Int} (hk : k = aK S.2.2.1 v) (hp : p = aP v) {T : Int} (hT : T = aT v) (d : 17 < mst v 24 ∧ mst v 24 < 23 ∧ ¬ (mst v 24 < 20 ∧ 1 < (S.2.2.1.2.length : Int))) : RR G ML_act 1105 [(0, .ref x), (1, .int v), (2, .int (iI (mst v 24))), (3, .int (aU v)), (4, .int (iI ((S.2.2.1.2.length : Int)))), (5, .int (iI k)), (6, .int (iI (((sAt S.2.2.1 k).1.length : Int)))), (7, .int (iI (b2 (sAt S.2.2.1 k).2.2.2.2.2.2))), (8, .int (iI p))] [] h (xm_R ML_act).cells (xm_R ML_act).slots (fun o' h' => o' = .inl (some (.int (iI 1))) ∧ XB G h' K x ad (updS S (actR S.2.2.1 v)) ∧ FRp (fpX x ad) h h') := by
  have hW := hI.1
  have hWB := hW.1
  have hC3 := hI.2.1
  have hlen := hX.len
  have hl6 := hlen.1
  have hn1 := hE.2
  have hm := hWB.2.2.1
  have hfl := hWB.2.2.2.1
  have hro := hWB.2.1
  have hho := hWB.2.2.2.2
  obtain ⟨hk0, hk1, hsk⟩ := aK_b hE v
  rw [← hk] at hk0 hk1 hsk
  have hp4 := aP_b v
  rw [← hp] at hp4
  have hzk : in32 k := by unfold in32; omega
  have hlk : (sAt S.2.2.1 k).1.length ≤ 200 := hlen.2 _ (getD_memS (hasS_n hsk).1)
  have hS := hWB.at hsk
  have hS1 := hS.1
  have hS3 := hS.2.2.1
  have hS4 := hS.2.2.2
  have hg1 := hgt_ge (sAt S.2.2.1 k).1 hS.2.1
  have hmw := mst_b v (m := 24) (by decide)
  have hlo := loss_b (m := S.2.2.1.1.2.1) hS4 (by omega)
  have hA := actR_8 hk hT d
  have hT4 := aT_b v
  rw [← hT] at hT4
  have hm4 := mst_b (aU v >>> (iI 2 &&& 31)) (m := 40) (by decide)
  refine i_const (1) dL_act_1105 ?_
  refine r_iload_n dL_act_1106 3 rfl ?_
  refine i_const (2) dL_act_1107 ?_
  refine r_ishr dL_act_1108 ?_
  refine i_bipush (40) (by decide) dL_act_1109 ?_
  refine p_callS (As := [.int ((aU v) >>> ((iI 2) &&& 31)), .int (iI 40)]) (rest := [.int (iI 1)]) (w := (some (.int (iI (mst (aU v >>> (iI 2 &&& 31)) 40))))) (st' := [.int (iI (mst (aU v >>> (iI 2 &&& 31)) 40)), .int (iI 1)]) kv_L_act_128 dL_act_1111 rfl rfl (Nat.le_of_ble_eq_true rfl) (Nat.le_of_ble_eq_true rfl) rfl rfl (c_L_most (by omega)) rfl (fun hk1 e9k1 => ?_)
  rw [show hk1 = h from e9k1]
  refine i_add dL_act_1114 ?_
  rw [show 1 + (mst (aU v >>> (iI 2 &&& 31)) 40) = T by rw [hT]; rfl]
  refine r_istore (ls' := [(0, .ref x), (1, .int v), (2, .int (iI (mst v 24))), (3, .int (aU v)), (4, .int (iI ((S.2.2.1.2.length : Int)))), (5, .int (iI k)), (6, .int (iI (((sAt S.2.2.1 k).1.length : Int)))), (7, .int (iI (b2 (sAt S.2.2.1 k).2.2.2.2.2.2))), (8, .int (iI p)), (9, .int (iI T))]) dL_act_1115 (by decide) rfl ?_
  refine r_aload_n dL_act_1117 0 rfl ?_
  refine r_iload dL_act_1118 5 rfl ?_
  refine p_callV (As := [.int (iI k)]) (b := x) (rest := []) (w := (some (.int (iI (hgt (sAt S.2.2.1 k).1))))) (st' := [.int (iI (hgt (sAt S.2.2.1 k).1))]) kv_L_act_88 dL_act_1120 rfl rfl (Nat.le_of_ble_eq_true rfl) (Nat.le_of_ble_eq_true rfl) (xb_rv hX) rfl rfl (c_X11_height_ok hGC hGT hGE hX hW (z := k) hzk hsk) rfl (fun hk2 e9k2 => ?_)
  rw [show hk2 = h from e9k2]
  refine r_istore (ls' := [(0, .ref x), (1, .int v), (2, .int (iI (mst v 24))), (3, .int (aU v)), (4, .int (iI ((S.2.2.1.2.length : Int)))), (5, .int (iI k)), (6, .int (iI (((sAt S.2.2.1 k).1.length : Int)))), (7, .int (iI (b2 (sAt S.2.2.1 k).2.2.2.2.2.2))), (8, .int (iI p)), (9, .int (iI T)), (10, .int (iI (hgt (sAt S.2.2.1 k).1)))]) dL_act_1123 (by decide) rfl ?_
  refine r_iload dL_act_1125 7 rfl ?_
  refine i_ifneb dL_act_1127 (tgt := 1149) (by decide) (fun c1127 => ?_) (fun c1127 => ?_)
  · refine i_const (1) dL_act_1149 ?_
    refine r_ireturn rfl (b2_nar true) dL_act_1150 ?_
    exact ⟨rfl, by rw [hA, if_pos (Or.inl c1127)]; exact hX, FRp.rf⟩
  · refine r_iload dL_act_1130 6 rfl ?_
    refine i_sipush (200) (by decide) dL_act_1132 ?_
    refine i_icmpeq dL_act_1135 (tgt := 1149) (by decide) (by unfold in32; omega) ⟨by decide, by decide⟩ (fun c1135 => ?_) (fun c1135 => ?_)
    · refine i_const (1) dL_act_1149 ?_
      refine r_ireturn rfl (b2_nar true) dL_act_1150 ?_
      exact ⟨rfl, by rw [hA, if_pos (Or.inr (Or.inl c1135))]; exact hX, FRp.rf⟩
    · refine r_iload dL_act_1138 10 rfl ?_
      refine r_iload dL_act_1140 9 rfl ?_
      refine i_add dL_act_1142 ?_
      refine i_sipush (4000) (by decide) dL_act_1143 ?_
      refine i_icmple dL_act_1146 (tgt := 1151) (by decide) (by unfold in32; omega) ⟨by decide, by decide⟩ (fun c1146 => ?_) (fun c1146 => ?_)
      · refine r_aload_n dL_act_1151 0 rfl ?_
        refine r_iload dL_act_1152 5 rfl ?_
        refine p_callV (As := [.int (iI k)]) (b := x) (rest := []) (w := (some (.int (iI (b2 (sAt S.2.2.1 k).2.2.2.2.1))))) (st' := [.int (iI (b2 (sAt S.2.2.1 k).2.2.2.2.1))]) kv_L_act_58 dL_act_1154 rfl rfl (Nat.le_of_ble_eq_true rfl) (Nat.le_of_ble_eq_true rfl) (xb_rv hX) rfl rfl (c_X11_isDusted_ok hGC hGT hGE hX hW (z := k) hzk hsk) rfl (fun hk3 e9k3 => ?_)
        rw [show hk3 = h from e9k3]
        refine i_ifneb dL_act_1157 (tgt := 1177) (by decide) (fun c1157 => ?_) (fun c1157 => ?_)
        · refine i_const (0) dL_act_1177 ?_
          have hj : (if (!(sAt S.2.2.1 k).2.2.2.2.1 && isB ((sAt S.2.2.1 k).1.getD ((sAt S.2.2.1 k).1.length - 1) 0)) = true then (0 : Int) else 1) = 1 := by rw [c1157]; rfl
          refine r_istore (ls' := [(0, .ref x), (1, .int v), (2, .int (iI (mst v 24))), (3, .int (aU v)), (4, .int (iI ((S.2.2.1.2.length : Int)))), (5, .int (iI k)), (6, .int (iI (((sAt S.2.2.1 k).1.length : Int)))), (7, .int (iI (b2 (sAt S.2.2.1 k).2.2.2.2.2.2))), (8, .int (iI p)), (9, .int (iI T)), (10, .int (iI (hgt (sAt S.2.2.1 k).1))), (11, .int (iI 0))]) dL_act_1178 (by decide) rfl ?_
          refine r_aload_n dL_act_1180 0 rfl ?_
          refine r_iload dL_act_1181 5 rfl ?_
          refine r_iload dL_act_1183 9 rfl ?_
          have hr := R_but hsk (T := T) (by omega) c1127 (by omega) (by omega)
          have hL := L_but hWB hsk (T := T) (by omega)
          have hI9 := hI.chg (inp := S.1) (e := S.2.1) hI.1.2.2.2 (hWB.but hr) (CB_but hr hC3)
          obtain ⟨B1, hB1⟩ : ∃ B1, B1 = aBut S.2.2.1 k.toNat T := ⟨_, rfl⟩
          rw [← hB1] at hL hI9
          have hW1 : WX (S.1, S.2.1, B1, S.2.2.2.1, remH S.2.2.2.2.1 S.2.2.1, S.2.2.2.2.2) := hI9.1
          obtain ⟨hs1, l2, l3, l4, l5, l6⟩ := hL
          refine p_callV (As := [.int (iI k), .int (iI T)]) (b := x) (rest := []) (w := (some (.int (iI (((butS (S.2.2.1.2.getD k.toNat dS) T).1.length : Int)))))) (st' := [.int (iI (((butS (S.2.2.1.2.getD k.toNat dS) T).1.length : Int)))]) kv_L_act_167 dL_act_1185 rfl rfl (Nat.le_of_ble_eq_true rfl) (Nat.le_of_ble_eq_true rfl) (xb_rv hX) rfl rfl (c_X11_addButter_ok hGC hGT hGE hX hW hzk (q := T) (by unfold in32; omega) hr) rfl (fun hk4 e9k4 => ?_)
          obtain ⟨hX9, hF1⟩ := e9k4
          have hX1 : XB G hk4 K x ad (S.1, S.2.1, B1, S.2.2.2.1, remH S.2.2.2.2.1 S.2.2.1, S.2.2.2.2.2) := by rw [hB1]; exact hX9
          have hlen1 := hX1.len
          have hS9 : WS (sAt B1 k) := hI9.1.1.at hs1
          have hl1 : (sAt B1 k).1.length ≤ 200 := hlen1.2 _ (getD_memS (hasS_n hs1).1)
          have hg9 := hgt_nn (sAt B1 k).1
          have hg8 := hS9.2.2.1
          have hw8 := hS9.2.2.2
          refine r_iload dL_act_1188 6 rfl ?_
          refine r_iload dL_act_1190 11 rfl ?_
          refine i_ifeq dL_act_1192 (tgt := 1199) (by decide) ⟨by decide, by decide⟩ (fun _ => ?_) (fun c => absurd c (by decide))
          refine i_const (1) dL_act_1199 ?_
          refine i_add dL_act_1200 ?_
          refine i_icmpne dL_act_1201 (tgt := 1239) (by decide) (by unfold in32; omega) (by unfold in32; omega) (fun c => (by exfalso; omega)) (fun _ => ?_)
          refine r_aload_n dL_act_1204 0 rfl ?_
          refine r_iload dL_act_1205 5 rfl ?_
          refine p_callV (As := [.int (iI k)]) (b := x) (rest := []) (w := (some (.int (iI (hgt (sAt B1 k).1))))) (st' := [.int (iI (hgt (sAt B1 k).1))]) kv_L_act_88 dL_act_1207 rfl rfl (Nat.le_of_ble_eq_true rfl) (Nat.le_of_ble_eq_true rfl) (xb_rv hX1) rfl rfl (c_X11_height_ok hGC hGT hGE hX1 hW1 (z := k) hzk hs1) rfl (fun hk5 e9k5 => ?_)
          rw [show hk5 = hk4 from e9k5]
          refine r_iload dL_act_1210 10 rfl ?_
          refine r_iload dL_act_1212 9 rfl ?_
          refine i_add dL_act_1214 ?_
          refine i_icmpne dL_act_1215 (tgt := 1239) (by decide) (by unfold in32; omega) (by unfold in32; omega) (fun c => (by exfalso; omega)) (fun _ => ?_)
          refine r_aload_n dL_act_1218 0 rfl ?_
          refine r_iload dL_act_1219 5 rfl ?_
          refine r_aload_n dL_act_1221 0 rfl ?_
          refine r_iload dL_act_1222 5 rfl ?_
          refine p_callV (As := [.int (iI k)]) (b := x) (rest := [.int (iI k), .ref x]) (w := (some (.int (iI (((sAt B1 k).1.length : Int)))))) (st' := [.int (iI (((sAt B1 k).1.length : Int))), .int (iI k), .ref x]) kv_L_act_33 dL_act_1224 rfl rfl (Nat.le_of_ble_eq_true rfl) (Nat.le_of_ble_eq_true rfl) (xb_rv hX1) rfl rfl (c_X11_layerCount_ok hGC hGT hGE hX1 hW1 (z := k) hzk hs1) rfl (fun hk6 e9k6 => ?_)
          rw [show hk6 = hk4 from e9k6]
          refine i_const (1) dL_act_1227 ?_
          refine i_sub dL_act_1228 ?_
          refine p_callV (As := [.int (iI k), .int (iI (((sAt B1 k).1.length : Int) - 1))]) (b := x) (rest := []) (w := (some (.int (iI (b2 (isB ((sAt B1 k).1.getD ((sAt B1 k).1.length - 1) 0))))))) (st' := [.int (iI (b2 (isB ((sAt B1 k).1.getD ((sAt B1 k).1.length - 1) 0))))]) kv_L_act_68 dL_act_1229 rfl rfl (Nat.le_of_ble_eq_true rfl) (Nat.le_of_ble_eq_true rfl) (xb_rv hX1) rfl rfl ((by have z := c_X11_isButter_ok hGC hGT hGE hX1 hW1 hzk hs1 (q := (((sAt B1 k).1.length : Int) - 1)) (by unfold in32; omega) (show 0 ≤ (((sAt B1 k).1.length : Int) - 1) ∧ (((sAt B1 k).1.length : Int) - 1) < ((sAt B1 k).1.length : Int) by omega); rw [show ((((sAt B1 k).1.length : Int) - 1)).toNat = (sAt B1 k).1.length - 1 by omega] at z; exact z)) rfl (fun hk7 e9k7 => ?_)
          rw [show hk7 = hk4 from e9k7]
          refine i_ifeqb dL_act_1232 (tgt := 1239) (by decide) (fun c => absurd (c.symm.trans l5) (by decide)) (fun _ => ?_)
          refine i_const (1) dL_act_1235 ?_
          refine r_goto dL_act_1236 (tgt := 1240) (by decide) ?_
          refine r_ireturn rfl (b2_nar true) dL_act_1240 ?_
          exact ⟨rfl, by rw [hA, if_neg (by rw [c1127]; simp only [Bool.false_eq_true, false_or]; omega), ← hB1]; exact hX1, hF1⟩
        · refine r_aload_n dL_act_1160 0 rfl ?_
          refine r_iload dL_act_1161 5 rfl ?_
          refine r_iload dL_act_1163 6 rfl ?_
          refine i_const (1) dL_act_1165 ?_
          refine i_sub dL_act_1166 ?_
          refine p_callV (As := [.int (iI k), .int (iI (((sAt S.2.2.1 k).1.length : Int) - 1))]) (b := x) (rest := []) (w := (some (.int (iI (b2 (isB ((sAt S.2.2.1 k).1.getD ((sAt S.2.2.1 k).1.length - 1) 0))))))) (st' := [.int (iI (b2 (isB ((sAt S.2.2.1 k).1.getD ((sAt S.2.2.1 k).1.length - 1) 0))))]) kv_L_act_68 dL_act_1167 rfl rfl (Nat.le_of_ble_eq_true rfl) (Nat.le_of_ble_eq_true rfl) (xb_rv hX) rfl rfl ((by have z := c_X11_isButter_ok hGC hGT hGE hX hW hzk hsk (q := (((sAt S.2.2.1 k).1.length : Int) - 1)) (by unfold in32; omega) (by omega); rw [show ((((sAt S.2.2.1 k).1.length : Int) - 1)).toNat = (sAt S.2.2.1 k).1.length - 1 by omega] at z; exact z)) rfl (fun hk8 e9k8 => ?_)
          rw [show hk8 = h from e9k8]
          refine i_ifeqb dL_act_1170 (tgt := 1177) (by decide) (fun c1170 => ?_) (fun c1170 => ?_)
          · refine i_const (0) dL_act_1177 ?_
            have hj : (if (!(sAt S.2.2.1 k).2.2.2.2.1 && isB ((sAt S.2.2.1 k).1.getD ((sAt S.2.2.1 k).1.length - 1) 0)) = true then (0 : Int) else 1) = 1 := by rw [c1157, c1170]; rfl
            refine r_istore (ls' := [(0, .ref x), (1, .int v), (2, .int (iI (mst v 24))), (3, .int (aU v)), (4, .int (iI ((S.2.2.1.2.length : Int)))), (5, .int (iI k)), (6, .int (iI (((sAt S.2.2.1 k).1.length : Int)))), (7, .int (iI (b2 (sAt S.2.2.1 k).2.2.2.2.2.2))), (8, .int (iI p)), (9, .int (iI T)), (10, .int (iI (hgt (sAt S.2.2.1 k).1))), (11, .int (iI 0))]) dL_act_1178 (by decide) rfl ?_
            refine r_aload_n dL_act_1180 0 rfl ?_
            refine r_iload dL_act_1181 5 rfl ?_
            refine r_iload dL_act_1183 9 rfl ?_
            have hr := R_but hsk (T := T) (by omega) c1127 (by omega) (by omega)
            have hL := L_but hWB hsk (T := T) (by omega)
            have hI9 := hI.chg (inp := S.1) (e := S.2.1) hI.1.2.2.2 (hWB.but hr) (CB_but hr hC3)
            obtain ⟨B1, hB1⟩ : ∃ B1, B1 = aBut S.2.2.1 k.toNat T := ⟨_, rfl⟩
            rw [← hB1] at hL hI9
            have hW1 : WX (S.1, S.2.1, B1, S.2.2.2.1, remH S.2.2.2.2.1 S.2.2.1, S.2.2.2.2.2) := hI9.1
            obtain ⟨hs1, l2, l3, l4, l5, l6⟩ := hL
            refine p_callV (As := [.int (iI k), .int (iI T)]) (b := x) (rest := []) (w := (some (.int (iI (((butS (S.2.2.1.2.getD k.toNat dS) T).1.length : Int)))))) (st' := [.int (iI (((butS (S.2.2.1.2.getD k.toNat dS) T).1.length : Int)))]) kv_L_act_167 dL_act_1185 rfl rfl (Nat.le_of_ble_eq_true rfl) (Nat.le_of_ble_eq_true rfl) (xb_rv hX) rfl rfl (c_X11_addButter_ok hGC hGT hGE hX hW hzk (q := T) (by unfold in32; omega) hr) rfl (fun hk9 e9k9 => ?_)
            obtain ⟨hX9, hF1⟩ := e9k9
            have hX1 : XB G hk9 K x ad (S.1, S.2.1, B1, S.2.2.2.1, remH S.2.2.2.2.1 S.2.2.1, S.2.2.2.2.2) := by rw [hB1]; exact hX9
            have hlen1 := hX1.len
            have hS9 : WS (sAt B1 k) := hI9.1.1.at hs1
            have hl1 : (sAt B1 k).1.length ≤ 200 := hlen1.2 _ (getD_memS (hasS_n hs1).1)
            have hg9 := hgt_nn (sAt B1 k).1
            have hg8 := hS9.2.2.1
            have hw8 := hS9.2.2.2
            refine r_iload dL_act_1188 6 rfl ?_
            refine r_iload dL_act_1190 11 rfl ?_
            refine i_ifeq dL_act_1192 (tgt := 1199) (by decide) ⟨by decide, by decide⟩ (fun _ => ?_) (fun c => absurd c (by decide))
            refine i_const (1) dL_act_1199 ?_
            refine i_add dL_act_1200 ?_
            refine i_icmpne dL_act_1201 (tgt := 1239) (by decide) (by unfold in32; omega) (by unfold in32; omega) (fun c => (by exfalso; omega)) (fun _ => ?_)
            refine r_aload_n dL_act_1204 0 rfl ?_
            refine r_iload dL_act_1205 5 rfl ?_
            refine p_callV (As := [.int (iI k)]) (b := x) (rest := []) (w := (some (.int (iI (hgt (sAt B1 k).1))))) (st' := [.int (iI (hgt (sAt B1 k).1))]) kv_L_act_88 dL_act_1207 rfl rfl (Nat.le_of_ble_eq_true rfl) (Nat.le_of_ble_eq_true rfl) (xb_rv hX1) rfl rfl (c_X11_height_ok hGC hGT hGE hX1 hW1 (z := k) hzk hs1) rfl (fun hk10 e9k10 => ?_)
            rw [show hk10 = hk9 from e9k10]
            refine r_iload dL_act_1210 10 rfl ?_
            refine r_iload dL_act_1212 9 rfl ?_
            refine i_add dL_act_1214 ?_
            refine i_icmpne dL_act_1215 (tgt := 1239) (by decide) (by unfold in32; omega) (by unfold in32; omega) (fun c => (by exfalso; omega)) (fun _ => ?_)
            refine r_aload_n dL_act_1218 0 rfl ?_
            refine r_iload dL_act_1219 5 rfl ?_
            refine r_aload_n dL_act_1221 0 rfl ?_
            refine r_iload dL_act_1222 5 rfl ?_
            refine p_callV (As := [.int (iI k)]) (b := x) (rest := [.int (iI k), .ref x]) (w := (some (.int (iI (((sAt B1 k).1.length : Int)))))) (st' := [.int (iI (((sAt B1 k).1.length : Int))), .int (iI k), .ref x]) kv_L_act_33 dL_act_1224 rfl rfl (Nat.le_of_ble_eq_true rfl) (Nat.le_of_ble_eq_true rfl) (xb_rv hX1) rfl rfl (c_X11_layerCount_ok hGC hGT hGE hX1 hW1 (z := k) hzk hs1) rfl (fun hk11 e9k11 => ?_)
            rw [show hk11 = hk9 from e9k11]
            refine i_const (1) dL_act_1227 ?_
            refine i_sub dL_act_1228 ?_
            refine p_callV (As := [.int (iI k), .int (iI (((sAt B1 k).1.length : Int) - 1))]) (b := x) (rest := []) (w := (some (.int (iI (b2 (isB ((sAt B1 k).1.getD ((sAt B1 k).1.length - 1) 0))))))) (st' := [.int (iI (b2 (isB ((sAt B1 k).1.getD ((sAt B1 k).1.length - 1) 0))))]) kv_L_act_68 dL_act_1229 rfl rfl (Nat.le_of_ble_eq_true rfl) (Nat.le_of_ble_eq_true rfl) (xb_rv hX1) rfl rfl ((by have z := c_X11_isButter_ok hGC hGT hGE hX1 hW1 hzk hs1 (q := (((sAt B1 k).1.length : Int) - 1)) (by unfold in32; omega) (show 0 ≤ (((sAt B1 k).1.length : Int) - 1) ∧ (((sAt B1 k).1.length : Int) - 1) < ((sAt B1 k).1.length : Int) by omega); rw [show ((((sAt B1 k).1.length : Int) - 1)).toNat = (sAt B1 k).1.length - 1 by omega] at z; exact z)) rfl (fun hk12 e9k12 => ?_)
            rw [show hk12 = hk9 from e9k12]
            refine i_ifeqb dL_act_1232 (tgt := 1239) (by decide) (fun c => absurd (c.symm.trans l5) (by decide)) (fun _ => ?_)
            refine i_const (1) dL_act_1235 ?_
            refine r_goto dL_act_1236 (tgt := 1240) (by decide) ?_
            refine r_ireturn rfl (b2_nar true) dL_act_1240 ?_
            exact ⟨rfl, by rw [hA, if_neg (by rw [c1127]; simp only [Bool.false_eq_true, false_or]; omega), ← hB1]; exact hX1, hF1⟩
          · refine i_const (1) dL_act_1173 ?_
            refine r_goto dL_act_1174 (tgt := 1178) (by decide) ?_
            have hj : (if (!(sAt S.2.2.1 k).2.2.2.2.1 && isB ((sAt S.2.2.1 k).1.getD ((sAt S.2.2.1 k).1.length - 1) 0)) = true then (0 : Int) else 1) = 0 := by rw [c1157, c1170]; rfl
            refine r_istore (ls' := [(0, .ref x), (1, .int v), (2, .int (iI (mst v 24))), (3, .int (aU v)), (4, .int (iI ((S.2.2.1.2.length : Int)))), (5, .int (iI k)), (6, .int (iI (((sAt S.2.2.1 k).1.length : Int)))), (7, .int (iI (b2 (sAt S.2.2.1 k).2.2.2.2.2.2))), (8, .int (iI p)), (9, .int (iI T)), (10, .int (iI (hgt (sAt S.2.2.1 k).1))), (11, .int (iI 1))]) dL_act_1178 (by decide) rfl ?_
            refine r_aload_n dL_act_1180 0 rfl ?_
            refine r_iload dL_act_1181 5 rfl ?_
            refine r_iload dL_act_1183 9 rfl ?_
            have hr := R_but hsk (T := T) (by omega) c1127 (by omega) (by omega)
            have hL := L_but hWB hsk (T := T) (by omega)
            have hI9 := hI.chg (inp := S.1) (e := S.2.1) hI.1.2.2.2 (hWB.but hr) (CB_but hr hC3)
            obtain ⟨B1, hB1⟩ : ∃ B1, B1 = aBut S.2.2.1 k.toNat T := ⟨_, rfl⟩
            rw [← hB1] at hL hI9
            have hW1 : WX (S.1, S.2.1, B1, S.2.2.2.1, remH S.2.2.2.2.1 S.2.2.1, S.2.2.2.2.2) := hI9.1
            obtain ⟨hs1, l2, l3, l4, l5, l6⟩ := hL
            refine p_callV (As := [.int (iI k), .int (iI T)]) (b := x) (rest := []) (w := (some (.int (iI (((butS (S.2.2.1.2.getD k.toNat dS) T).1.length : Int)))))) (st' := [.int (iI (((butS (S.2.2.1.2.getD k.toNat dS) T).1.length : Int)))]) kv_L_act_167 dL_act_1185 rfl rfl (Nat.le_of_ble_eq_true rfl) (Nat.le_of_ble_eq_true rfl) (xb_rv hX) rfl rfl (c_X11_addButter_ok hGC hGT hGE hX hW hzk (q := T) (by unfold in32; omega) hr) rfl (fun hk13 e9k13 => ?_)
            obtain ⟨hX9, hF1⟩ := e9k13
            have hX1 : XB G hk13 K x ad (S.1, S.2.1, B1, S.2.2.2.1, remH S.2.2.2.2.1 S.2.2.1, S.2.2.2.2.2) := by rw [hB1]; exact hX9
            have hlen1 := hX1.len
            have hS9 : WS (sAt B1 k) := hI9.1.1.at hs1
            have hl1 : (sAt B1 k).1.length ≤ 200 := hlen1.2 _ (getD_memS (hasS_n hs1).1)
            have hg9 := hgt_nn (sAt B1 k).1
            have hg8 := hS9.2.2.1
            have hw8 := hS9.2.2.2
            refine r_iload dL_act_1188 6 rfl ?_
            refine r_iload dL_act_1190 11 rfl ?_
            refine i_ifeq dL_act_1192 (tgt := 1199) (by decide) ⟨by decide, by decide⟩ (fun c => absurd c (by decide)) (fun _ => ?_)
            refine i_const (0) dL_act_1195 ?_
            refine r_goto dL_act_1196 (tgt := 1200) (by decide) ?_
            refine i_add dL_act_1200 ?_
            refine i_icmpne dL_act_1201 (tgt := 1239) (by decide) (by unfold in32; omega) (by unfold in32; omega) (fun c => (by exfalso; omega)) (fun _ => ?_)
            refine r_aload_n dL_act_1204 0 rfl ?_
            refine r_iload dL_act_1205 5 rfl ?_
            refine p_callV (As := [.int (iI k)]) (b := x) (rest := []) (w := (some (.int (iI (hgt (sAt B1 k).1))))) (st' := [.int (iI (hgt (sAt B1 k).1))]) kv_L_act_88 dL_act_1207 rfl rfl (Nat.le_of_ble_eq_true rfl) (Nat.le_of_ble_eq_true rfl) (xb_rv hX1) rfl rfl (c_X11_height_ok hGC hGT hGE hX1 hW1 (z := k) hzk hs1) rfl (fun hk14 e9k14 => ?_)
            rw [show hk14 = hk13 from e9k14]
            refine r_iload dL_act_1210 10 rfl ?_
            refine r_iload dL_act_1212 9 rfl ?_
            refine i_add dL_act_1214 ?_
            refine i_icmpne dL_act_1215 (tgt := 1239) (by decide) (by unfold in32; omega) (by unfold in32; omega) (fun c => (by exfalso; omega)) (fun _ => ?_)
            refine r_aload_n dL_act_1218 0 rfl ?_
            refine r_iload dL_act_1219 5 rfl ?_
            refine r_aload_n dL_act_1221 0 rfl ?_
            refine r_iload dL_act_1222 5 rfl ?_
            refine p_callV (As := [.int (iI k)]) (b := x) (rest := [.int (iI k), .ref x]) (w := (some (.int (iI (((sAt B1 k).1.length : Int)))))) (st' := [.int (iI (((sAt B1 k).1.length : Int))), .int (iI k), .ref x]) kv_L_act_33 dL_act_1224 rfl rfl (Nat.le_of_ble_eq_true rfl) (Nat.le_of_ble_eq_true rfl) (xb_rv hX1) rfl rfl (c_X11_layerCount_ok hGC hGT hGE hX1 hW1 (z := k) hzk hs1) rfl (fun hk15 e9k15 => ?_)
            rw [show hk15 = hk13 from e9k15]
            refine i_const (1) dL_act_1227 ?_
            refine i_sub dL_act_1228 ?_
            refine p_callV (As := [.int (iI k), .int (iI (((sAt B1 k).1.length : Int) - 1))]) (b := x) (rest := []) (w := (some (.int (iI (b2 (isB ((sAt B1 k).1.getD ((sAt B1 k).1.length - 1) 0))))))) (st' := [.int (iI (b2 (isB ((sAt B1 k).1.getD ((sAt B1 k).1.length - 1) 0))))]) kv_L_act_68 dL_act_1229 rfl rfl (Nat.le_of_ble_eq_true rfl) (Nat.le_of_ble_eq_true rfl) (xb_rv hX1) rfl rfl ((by have z := c_X11_isButter_ok hGC hGT hGE hX1 hW1 hzk hs1 (q := (((sAt B1 k).1.length : Int) - 1)) (by unfold in32; omega) (show 0 ≤ (((sAt B1 k).1.length : Int) - 1) ∧ (((sAt B1 k).1.length : Int) - 1) < ((sAt B1 k).1.length : Int) by omega); rw [show ((((sAt B1 k).1.length : Int) - 1)).toNat = (sAt B1 k).1.length - 1 by omega] at z; exact z)) rfl (fun hk16 e9k16 => ?_)
            rw [show hk16 = hk13 from e9k16]
            refine i_ifeqb dL_act_1232 (tgt := 1239) (by decide) (fun c => absurd (c.symm.trans l5) (by decide)) (fun _ => ?_)
            refine i_const (1) dL_act_1235 ?_
            refine r_goto dL_act_1236 (tgt := 1240) (by decide) ?_
            refine r_ireturn rfl (b2_nar true) dL_act_1240 ?_
            exact ⟨rfl, by rw [hA, if_neg (by rw [c1127]; simp only [Bool.false_eq_true, false_or]; omega), ← hB1]; exact hX1, hF1⟩
      · refine i_const (1) dL_act_1149 ?_
        refine r_ireturn rfl (b2_nar true) dL_act_1150 ?_
        exact ⟨rfl, by rw [hA, if_pos (Or.inr (Or.inr (by omega)))]; exact hX, FRp.rf⟩
set_option maxRecDepth 20000 in
set_option maxHeartbeats 4000000 in
theorem act_flour {G : xG} {h : xH} {K : xK} {sa : Nat → Nat} (hGC : GC G K sa) (hGT : GT G sa) (hGE : GE G) {x : Nat} {ad : XA} {S : XS} (hX : XB G h K x ad S) (hI : IV S) (hE : EB S.2.2.1) (hH : S.2.2.1.1.2.2.2.1 ≤ 9900) {v : Int32} {k p : Int} (hk : k = aK S.2.2.1 v) (hp : p = aP v) (d : 22 < mst v 24) : RR G ML_act 1241 [(0, .ref x), (1, .int v), (2, .int (iI (mst v 24))), (3, .int (aU v)), (4, .int (iI ((S.2.2.1.2.length : Int)))), (5, .int (iI k)), (6, .int (iI (((sAt S.2.2.1 k).1.length : Int)))), (7, .int (iI (b2 (sAt S.2.2.1 k).2.2.2.2.2.2))), (8, .int (iI p))] [] h (xm_R ML_act).cells (xm_R ML_act).slots (fun o' h' => o' = .inl (some (.int (iI 1))) ∧ XB G h' K x ad (updS S (actR S.2.2.1 v)) ∧ FRp (fpX x ad) h h') := by
  have hW := hI.1
  have hWB := hW.1
  have hC3 := hI.2.1
  have hlen := hX.len
  have hl6 := hlen.1
  have hn1 := hE.2
  have hm := hWB.2.2.1
  have hfl := hWB.2.2.2.1
  have hro := hWB.2.1
  have hho := hWB.2.2.2.2
  obtain ⟨hk0, hk1, hsk⟩ := aK_b hE v
  rw [← hk] at hk0 hk1 hsk
  have hp4 := aP_b v
  rw [← hp] at hp4
  have hzk : in32 k := by unfold in32; omega
  have hlk : (sAt S.2.2.1 k).1.length ≤ 200 := hlen.2 _ (getD_memS (hasS_n hsk).1)
  have hS := hWB.at hsk
  have hS1 := hS.1
  have hS3 := hS.2.2.1
  have hS4 := hS.2.2.2
  have hg1 := hgt_ge (sAt S.2.2.1 k).1 hS.2.1
  have hmw := mst_b v (m := 24) (by decide)
  have hlo := loss_b (m := S.2.2.1.1.2.1) hS4 (by omega)
  have hA := actR_9 (B := S.2.2.1) d
  have hm50 := mst_b (aU v) (m := 50) (by decide)
  refine r_aload_n dL_act_1241 0 rfl ?_
  refine p_callV (As := []) (b := x) (rest := []) (w := (some (.int (iI S.2.2.1.1.2.2.1)))) (st' := [.int (iI S.2.2.1.1.2.2.1)]) kv_L_act_37 dL_act_1242 rfl rfl (Nat.le_of_ble_eq_true rfl) (Nat.le_of_ble_eq_true rfl) (xb_rv hX) rfl rfl (c_X11_flour hGC hGT hGE hX hW) rfl (fun hk1 e9k1 => ?_)
  rw [show hk1 = h from e9k1]
  refine r_istore (ls' := [(0, .ref x), (1, .int v), (2, .int (iI (mst v 24))), (3, .int (aU v)), (4, .int (iI ((S.2.2.1.2.length : Int)))), (5, .int (iI k)), (6, .int (iI (((sAt S.2.2.1 k).1.length : Int)))), (7, .int (iI (b2 (sAt S.2.2.1 k).2.2.2.2.2.2))), (8, .int (iI p)), (9, .int (iI S.2.2.1.1.2.2.1))]) dL_act_1245 (by decide) rfl ?_
  refine r_iload dL_act_1247 9 rfl ?_
  refine i_sipush (900) (by decide) dL_act_1249 ?_
  refine i_icmpgt dL_act_1252 (tgt := 1281) (by decide) (by unfold in32; omega) ⟨by decide, by decide⟩ (fun c1252 => ?_) (fun c1252 => ?_)
  · refine i_const (1) dL_act_1281 ?_
    refine r_goto dL_act_1282 (tgt := 1286) (by decide) ?_
    refine r_ireturn rfl (b2_nar true) dL_act_1286 ?_
    exact ⟨rfl, by rw [hA, if_pos (by omega)]; exact hX, FRp.rf⟩
  · refine r_aload_n dL_act_1255 0 rfl ?_
    refine i_const (1) dL_act_1256 ?_
    refine r_iload_n dL_act_1257 3 rfl ?_
    refine i_bipush (50) (by decide) dL_act_1258 ?_
    refine p_callS (As := [.int (aU v), .int (iI 50)]) (rest := [.int (iI 1), .ref x]) (w := (some (.int (iI (mst (aU v) 50))))) (st' := [.int (iI (mst (aU v) 50)), .int (iI 1), .ref x]) kv_L_act_128 dL_act_1260 rfl rfl (Nat.le_of_ble_eq_true rfl) (Nat.le_of_ble_eq_true rfl) rfl rfl (c_L_most (by omega)) rfl (fun hk2 e9k2 => ?_)
    rw [show hk2 = h from e9k2]
    refine i_add dL_act_1263 ?_
    have hr := R_flo (B := S.2.2.1) (n := 1 + mst (aU v) 50) (by omega) (by omega)
    have hL := (show (aFlour S.2.2.1 (1 + mst (aU v) 50)).1.2.2.1 = S.2.2.1.1.2.2.1 + (1 + mst (aU v) 50) from rfl)
    have hI9 := hI.chg (inp := S.1) (e := S.2.1) hI.1.2.2.2 (hWB.flo hr) hC3
    obtain ⟨B1, hB1⟩ : ∃ B1, B1 = aFlour S.2.2.1 (1 + mst (aU v) 50) := ⟨_, rfl⟩
    rw [← hB1] at hL hI9
    have hW1 : WX (S.1, S.2.1, B1, S.2.2.2.1, remH S.2.2.2.2.1 S.2.2.1, S.2.2.2.2.2) := hI9.1
    refine p_callV (As := [.int (iI (1 + (mst (aU v) 50)))]) (b := x) (rest := []) (w := (some (.int (iI (S.2.2.1.1.2.2.1 + (1 + mst (aU v) 50)))))) (st' := [.int (iI (S.2.2.1.1.2.2.1 + (1 + mst (aU v) 50)))]) kv_L_act_131 dL_act_1264 rfl rfl (Nat.le_of_ble_eq_true rfl) (Nat.le_of_ble_eq_true rfl) (xb_rv hX) rfl rfl (c_X11_buyFlour_ok hGC hGT hGE hX hW (z := 1 + mst (aU v) 50) (by unfold in32; omega) hr) rfl (fun hk3 e9k3 => ?_)
    obtain ⟨hX9, hF1⟩ := e9k3
    have hX1 : XB G hk3 K x ad (S.1, S.2.1, B1, S.2.2.2.1, remH S.2.2.2.2.1 S.2.2.1, S.2.2.2.2.2) := by rw [hB1]; exact hX9
    refine r_iload dL_act_1267 9 rfl ?_
    refine i_const (1) dL_act_1269 ?_
    refine i_add dL_act_1270 ?_
    refine r_iload_n dL_act_1271 3 rfl ?_
    refine i_bipush (50) (by decide) dL_act_1272 ?_
    refine p_callS (As := [.int (aU v), .int (iI 50)]) (rest := [.int (iI (S.2.2.1.1.2.2.1 + 1)), .int (iI (S.2.2.1.1.2.2.1 + (1 + mst (aU v) 50)))]) (w := (some (.int (iI (mst (aU v) 50))))) (st' := [.int (iI (mst (aU v) 50)), .int (iI (S.2.2.1.1.2.2.1 + 1)), .int (iI (S.2.2.1.1.2.2.1 + (1 + mst (aU v) 50)))]) kv_L_act_128 dL_act_1274 rfl rfl (Nat.le_of_ble_eq_true rfl) (Nat.le_of_ble_eq_true rfl) rfl rfl (c_L_most (by omega)) rfl (fun hk4 e9k4 => ?_)
    rw [show hk4 = hk3 from e9k4]
    refine i_add dL_act_1277 ?_
    refine i_icmpne dL_act_1278 (tgt := 1285) (by decide) (by unfold in32; omega) (by unfold in32; omega) (fun c => (by exfalso; omega)) (fun _ => ?_)
    refine i_const (1) dL_act_1281 ?_
    refine r_goto dL_act_1282 (tgt := 1286) (by decide) ?_
    refine r_ireturn rfl (b2_nar true) dL_act_1286 ?_
    exact ⟨rfl, by rw [hA, if_neg (by omega), ← hB1]; exact hX1, hF1⟩
set_option maxRecDepth 20000 in
set_option maxHeartbeats 4000000 in
theorem c_L_act {G : xG} {h : xH} {K : xK} {sa : Nat → Nat} (hGC : GC G K sa) (hGT : GT G sa) (hGE : GE G) {x : Nat} {ad : XA} {S : XS} (hX : XB G h K x ad S) (hI : IV S) (hE : EB S.2.2.1) (hH : S.2.2.1.1.2.2.2.1 ≤ 9900) {v : Int32} : CC G ML_act [.ref x, .int v] h (fun o' h' => o' = .inl (some (.int (iI 1))) ∧ XB G h' K x ad (updS S (actR S.2.2.1 v)) ∧ FRp (fpX x ad) h h') := by
  have hW := hI.1
  have hWB := hW.1
  have hlen := hX.len
  have hl6 := hlen.1
  have hn1 := hE.2
  obtain ⟨hk0, hk1, hsk⟩ := aK_b hE v
  have hzk : in32 (aK S.2.2.1 v) := by unfold in32; omega
  have hlk : (sAt S.2.2.1 (aK S.2.2.1 v)).1.length ≤ 200 := hlen.2 _ (getD_memS (hasS_n hsk).1)
  have hmw := mst_b v (m := 24) (by decide)
  show RR G ML_act 0 [(0, .ref x), (1, .int v)] [] h (xm_R ML_act).cells (xm_R ML_act).slots (fun o' h' => o' = .inl (some (.int (iI 1))) ∧ XB G h' K x ad (updS S (actR S.2.2.1 v)) ∧ FRp (fpX x ad) h h')
  refine r_iload_n dL_act_0 1 rfl ?_
  refine i_bipush (24) (by decide) dL_act_1 ?_
  refine p_callS (As := [.int v, .int (iI 24)]) (rest := []) (w := (some (.int (iI (mst v 24))))) (st' := [.int (iI (mst v 24))]) kv_L_act_128 dL_act_3 rfl rfl (Nat.le_of_ble_eq_true rfl) (Nat.le_of_ble_eq_true rfl) rfl rfl (c_L_most (by omega)) rfl (fun hk1 e9k1 => ?_)
  rw [show hk1 = h from e9k1]
  refine r_istore_n (ls' := [(0, .ref x), (1, .int v), (2, .int (iI (mst v 24)))]) dL_act_6 (by decide) rfl ?_
  refine r_iload_n dL_act_7 1 rfl ?_
  refine i_const (4) dL_act_8 ?_
  refine r_ishr dL_act_9 ?_
  rw [show v >>> (iI 4 &&& 31) = aU v from rfl]
  refine r_istore_n (ls' := [(0, .ref x), (1, .int v), (2, .int (iI (mst v 24))), (3, .int (aU v))]) dL_act_10 (by decide) rfl ?_
  refine r_aload_n dL_act_11 0 rfl ?_
  refine p_callV (As := []) (b := x) (rest := []) (w := (some (.int (iI ((S.2.2.1.2.length : Int)))))) (st' := [.int (iI ((S.2.2.1.2.length : Int)))]) kv_L_act_30 dL_act_12 rfl rfl (Nat.le_of_ble_eq_true rfl) (Nat.le_of_ble_eq_true rfl) (xb_rv hX) rfl rfl (c_X11_sheetCount hGC hGT hGE hX hW) rfl (fun hk2 e9k2 => ?_)
  rw [show hk2 = h from e9k2]
  refine r_istore (ls' := [(0, .ref x), (1, .int v), (2, .int (iI (mst v 24))), (3, .int (aU v)), (4, .int (iI ((S.2.2.1.2.length : Int))))]) dL_act_15 (by decide) rfl ?_
  refine r_iload dL_act_17 4 rfl ?_
  refine i_ifne dL_act_19 (tgt := 42) (by decide) (by unfold in32; omega) (fun _ => ?_) (fun c => (by exfalso; omega))
  refine r_iload_n dL_act_42 3 rfl ?_
  refine r_iload dL_act_43 4 rfl ?_
  refine p_callS (As := [.int (aU v), .int (iI ((S.2.2.1.2.length : Int)))]) (rest := []) (w := (some (.int (iI (aK S.2.2.1 v))))) (st' := [.int (iI (aK S.2.2.1 v))]) kv_L_act_128 dL_act_45 rfl rfl (Nat.le_of_ble_eq_true rfl) (Nat.le_of_ble_eq_true rfl) rfl rfl (c_L_most (by omega)) rfl (fun hk3 e9k3 => ?_)
  rw [show hk3 = h from e9k3]
  refine r_istore (ls' := [(0, .ref x), (1, .int v), (2, .int (iI (mst v 24))), (3, .int (aU v)), (4, .int (iI ((S.2.2.1.2.length : Int)))), (5, .int (iI (aK S.2.2.1 v)))]) dL_act_48 (by decide) rfl ?_
  refine r_aload_n dL_act_50 0 rfl ?_
  refine r_iload dL_act_51 5 rfl ?_
  refine p_callV (As := [.int (iI (aK S.2.2.1 v))]) (b := x) (rest := []) (w := (some (.int (iI (((sAt S.2.2.1 (aK S.2.2.1 v)).1.length : Int)))))) (st' := [.int (iI (((sAt S.2.2.1 (aK S.2.2.1 v)).1.length : Int)))]) kv_L_act_33 dL_act_53 rfl rfl (Nat.le_of_ble_eq_true rfl) (Nat.le_of_ble_eq_true rfl) (xb_rv hX) rfl rfl (c_X11_layerCount_ok hGC hGT hGE hX hW (z := (aK S.2.2.1 v)) hzk hsk) rfl (fun hk4 e9k4 => ?_)
  rw [show hk4 = h from e9k4]
  refine r_istore (ls' := [(0, .ref x), (1, .int v), (2, .int (iI (mst v 24))), (3, .int (aU v)), (4, .int (iI ((S.2.2.1.2.length : Int)))), (5, .int (iI (aK S.2.2.1 v))), (6, .int (iI (((sAt S.2.2.1 (aK S.2.2.1 v)).1.length : Int))))]) dL_act_56 (by decide) rfl ?_
  refine r_aload_n dL_act_58 0 rfl ?_
  refine r_iload dL_act_59 5 rfl ?_
  refine p_callV (As := [.int (iI (aK S.2.2.1 v))]) (b := x) (rest := []) (w := (some (.int (iI (b2 (sAt S.2.2.1 (aK S.2.2.1 v)).2.2.2.2.2.2))))) (st' := [.int (iI (b2 (sAt S.2.2.1 (aK S.2.2.1 v)).2.2.2.2.2.2))]) kv_L_act_65 dL_act_61 rfl rfl (Nat.le_of_ble_eq_true rfl) (Nat.le_of_ble_eq_true rfl) (xb_rv hX) rfl rfl (c_X11_isCooling_ok hGC hGT hGE hX hW (z := (aK S.2.2.1 v)) hzk hsk) rfl (fun hk5 e9k5 => ?_)
  rw [show hk5 = h from e9k5]
  refine r_istore (ls' := [(0, .ref x), (1, .int v), (2, .int (iI (mst v 24))), (3, .int (aU v)), (4, .int (iI ((S.2.2.1.2.length : Int)))), (5, .int (iI (aK S.2.2.1 v))), (6, .int (iI (((sAt S.2.2.1 (aK S.2.2.1 v)).1.length : Int)))), (7, .int (iI (b2 (sAt S.2.2.1 (aK S.2.2.1 v)).2.2.2.2.2.2)))]) dL_act_64 (by decide) rfl ?_
  refine i_const (2) dL_act_66 ?_
  refine r_iload_n dL_act_67 3 rfl ?_
  refine i_const (2) dL_act_68 ?_
  refine r_ishr dL_act_69 ?_
  refine i_const (3) dL_act_70 ?_
  refine p_callS (As := [.int ((aU v) >>> ((iI 2) &&& 31)), .int (iI 3)]) (rest := [.int (iI 2)]) (w := (some (.int (iI (mst (aU v >>> (iI 2 &&& 31)) 3))))) (st' := [.int (iI (mst (aU v >>> (iI 2 &&& 31)) 3)), .int (iI 2)]) kv_L_act_128 dL_act_71 rfl rfl (Nat.le_of_ble_eq_true rfl) (Nat.le_of_ble_eq_true rfl) rfl rfl (c_L_most (by omega)) rfl (fun hk6 e9k6 => ?_)
  rw [show hk6 = h from e9k6]
  refine i_add dL_act_74 ?_
  rw [show 2 + (mst (aU v >>> (iI 2 &&& 31)) 3) = aP v from rfl]
  refine r_istore (ls' := [(0, .ref x), (1, .int v), (2, .int (iI (mst v 24))), (3, .int (aU v)), (4, .int (iI ((S.2.2.1.2.length : Int)))), (5, .int (iI (aK S.2.2.1 v))), (6, .int (iI (((sAt S.2.2.1 (aK S.2.2.1 v)).1.length : Int)))), (7, .int (iI (b2 (sAt S.2.2.1 (aK S.2.2.1 v)).2.2.2.2.2.2))), (8, .int (iI (aP v)))]) dL_act_75 (by decide) rfl ?_
  refine r_iload_n dL_act_77 2 rfl ?_
  refine i_const (5) dL_act_78 ?_
  refine i_icmpge dL_act_79 (tgt := 266) (by decide) (by unfold in32; omega) ⟨by decide, by decide⟩ (fun c79 => ?_) (fun c79 => ?_)
  · refine r_iload_n dL_act_266 2 rfl ?_
    refine i_bipush (10) (by decide) dL_act_267 ?_
    refine i_icmpge dL_act_269 (tgt := 436) (by decide) (by unfold in32; omega) ⟨by decide, by decide⟩ (fun c269 => ?_) (fun c269 => ?_)
    · refine r_iload_n dL_act_436 2 rfl ?_
      refine i_bipush (10) (by decide) dL_act_437 ?_
      refine i_icmpne dL_act_439 (tgt := 495) (by decide) (by unfold in32; omega) ⟨by decide, by decide⟩ (fun c439 => ?_) (fun c439 => ?_)
      · refine r_iload_n dL_act_495 2 rfl ?_
        refine i_bipush (11) (by decide) dL_act_496 ?_
        refine i_icmpne dL_act_498 (tgt := 548) (by decide) (by unfold in32; omega) ⟨by decide, by decide⟩ (fun c498 => ?_) (fun c498 => ?_)
        · refine r_iload_n dL_act_548 2 rfl ?_
          refine i_bipush (14) (by decide) dL_act_549 ?_
          refine i_icmpge dL_act_551 (tgt := 665) (by decide) (by unfold in32; omega) ⟨by decide, by decide⟩ (fun c551 => ?_) (fun c551 => ?_)
          · refine r_iload_n dL_act_665 2 rfl ?_
            refine i_bipush (17) (by decide) dL_act_666 ?_
            refine i_icmpge dL_act_668 (tgt := 775) (by decide) (by unfold in32; omega) ⟨by decide, by decide⟩ (fun c668 => ?_) (fun c668 => ?_)
            · refine r_iload_n dL_act_775 2 rfl ?_
              refine i_bipush (17) (by decide) dL_act_776 ?_
              refine i_icmpne dL_act_778 (tgt := 888) (by decide) (by unfold in32; omega) ⟨by decide, by decide⟩ (fun c778 => ?_) (fun c778 => ?_)
              · refine r_iload_n dL_act_888 2 rfl ?_
                refine i_bipush (20) (by decide) dL_act_889 ?_
                refine i_icmpge dL_act_891 (tgt := 1099) (by decide) (by unfold in32; omega) ⟨by decide, by decide⟩ (fun c891 => ?_) (fun c891 => ?_)
                · refine r_iload_n dL_act_1099 2 rfl ?_
                  refine i_bipush (23) (by decide) dL_act_1100 ?_
                  refine i_icmpge dL_act_1102 (tgt := 1241) (by decide) (by unfold in32; omega) ⟨by decide, by decide⟩ (fun c1102 => ?_) (fun c1102 => ?_)
                  · exact act_flour hGC hGT hGE hX hI hE hH rfl rfl (by omega)
                  · exact act_butter hGC hGT hGE hX hI hE hH rfl rfl rfl (by omega)
                · refine r_iload dL_act_894 4 rfl ?_
                  refine i_const (1) dL_act_896 ?_
                  refine i_icmple dL_act_897 (tgt := 1099) (by decide) (by unfold in32; omega) ⟨by decide, by decide⟩ (fun c897 => ?_) (fun c897 => ?_)
                  · refine r_iload_n dL_act_1099 2 rfl ?_
                    refine i_bipush (23) (by decide) dL_act_1100 ?_
                    refine i_icmpge dL_act_1102 (tgt := 1241) (by decide) (by unfold in32; omega) ⟨by decide, by decide⟩ (fun c1102 => ?_) (fun c1102 => ?_)
                    · exact act_flour hGC hGT hGE hX hI hE hH rfl rfl (by omega)
                    · exact act_butter hGC hGT hGE hX hI hE hH rfl rfl rfl (by omega)
                  · exact act_stack hGC hGT hGE hX hI hE hH rfl rfl rfl (by omega)
              · exact act_cut hGC hGT hGE hX hI hE hH rfl rfl (by omega)
            · exact act_hours hGC hGT hGE hX hI hE hH rfl rfl (by omega)
          · exact act_fridge hGC hGT hGE hX hI hE hH rfl rfl (by omega)
        · exact act_seal hGC hGT hGE hX hI hE hH rfl rfl (by omega)
      · exact act_dust hGC hGT hGE hX hI hE hH rfl rfl (by omega)
    · exact act_roll hGC hGT hGE hX hI hE hH rfl rfl (by omega) (by omega)
  · refine r_iload dL_act_82 6 rfl ?_
    refine i_bipush (60) (by decide) dL_act_84 ?_
    refine i_icmpge dL_act_86 (tgt := 266) (by decide) (by unfold in32; omega) ⟨by decide, by decide⟩ (fun c86 => ?_) (fun c86 => ?_)
    · refine r_iload_n dL_act_266 2 rfl ?_
      refine i_bipush (10) (by decide) dL_act_267 ?_
      refine i_icmpge dL_act_269 (tgt := 436) (by decide) (by unfold in32; omega) ⟨by decide, by decide⟩ (fun c269 => ?_) (fun c269 => ?_)
      · refine r_iload_n dL_act_436 2 rfl ?_
        refine i_bipush (10) (by decide) dL_act_437 ?_
        refine i_icmpne dL_act_439 (tgt := 495) (by decide) (by unfold in32; omega) ⟨by decide, by decide⟩ (fun c439 => ?_) (fun c439 => ?_)
        · refine r_iload_n dL_act_495 2 rfl ?_
          refine i_bipush (11) (by decide) dL_act_496 ?_
          refine i_icmpne dL_act_498 (tgt := 548) (by decide) (by unfold in32; omega) ⟨by decide, by decide⟩ (fun c498 => ?_) (fun c498 => ?_)
          · refine r_iload_n dL_act_548 2 rfl ?_
            refine i_bipush (14) (by decide) dL_act_549 ?_
            refine i_icmpge dL_act_551 (tgt := 665) (by decide) (by unfold in32; omega) ⟨by decide, by decide⟩ (fun c551 => ?_) (fun c551 => ?_)
            · refine r_iload_n dL_act_665 2 rfl ?_
              refine i_bipush (17) (by decide) dL_act_666 ?_
              refine i_icmpge dL_act_668 (tgt := 775) (by decide) (by unfold in32; omega) ⟨by decide, by decide⟩ (fun c668 => ?_) (fun c668 => ?_)
              · refine r_iload_n dL_act_775 2 rfl ?_
                refine i_bipush (17) (by decide) dL_act_776 ?_
                refine i_icmpne dL_act_778 (tgt := 888) (by decide) (by unfold in32; omega) ⟨by decide, by decide⟩ (fun c778 => ?_) (fun c778 => ?_)
                · refine r_iload_n dL_act_888 2 rfl ?_
                  refine i_bipush (20) (by decide) dL_act_889 ?_
                  refine i_icmpge dL_act_891 (tgt := 1099) (by decide) (by unfold in32; omega) ⟨by decide, by decide⟩ (fun c891 => ?_) (fun c891 => ?_)
                  · refine r_iload_n dL_act_1099 2 rfl ?_
                    refine i_bipush (23) (by decide) dL_act_1100 ?_
                    refine i_icmpge dL_act_1102 (tgt := 1241) (by decide) (by unfold in32; omega) ⟨by decide, by decide⟩ (fun c1102 => ?_) (fun c1102 => ?_)
                    · exact act_flour hGC hGT hGE hX hI hE hH rfl rfl (by omega)
                    · exact act_butter hGC hGT hGE hX hI hE hH rfl rfl rfl (by omega)
                  · refine r_iload dL_act_894 4 rfl ?_
                    refine i_const (1) dL_act_896 ?_
                    refine i_icmple dL_act_897 (tgt := 1099) (by decide) (by unfold in32; omega) ⟨by decide, by decide⟩ (fun c897 => ?_) (fun c897 => ?_)
                    · refine r_iload_n dL_act_1099 2 rfl ?_
                      refine i_bipush (23) (by decide) dL_act_1100 ?_
                      refine i_icmpge dL_act_1102 (tgt := 1241) (by decide) (by unfold in32; omega) ⟨by decide, by decide⟩ (fun c1102 => ?_) (fun c1102 => ?_)
                      · exact act_flour hGC hGT hGE hX hI hE hH rfl rfl (by omega)
                      · exact act_butter hGC hGT hGE hX hI hE hH rfl rfl rfl (by omega)
                    · exact act_stack hGC hGT hGE hX hI hE hH rfl rfl rfl (by omega)
                · exact act_cut hGC hGT hGE hX hI hE hH rfl rfl (by omega)
              · exact act_hours hGC hGT hGE hX hI hE hH rfl rfl (by omega)
            · exact act_fridge hGC hGT hGE hX hI hE hH rfl rfl (by omega)
          · exact act_seal hGC hGT hGE hX hI hE hH rfl rfl (by omega)
        · exact act_dust hGC hGT hGE hX hI hE hH rfl rfl (by omega)
      · exact act_roll hGC hGT hGE hX hI hE hH rfl rfl (by omega) (by omega)
    · exact act_fold hGC hGT hGE hX hI hE hH rfl rfl (by omega)
