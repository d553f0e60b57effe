/-! ===== the cases of the law ===== -/
set_option maxRecDepth 20000 in
set_option maxHeartbeats 1000000 in
theorem lc_18 {G : xG} {K : xK} {sa : Nat → Nat} (hGC : GC G K sa) (hGT : GT G sa) (hGE : GE G) (hCA : GCA G) {b L : Nat} {zs : Nat → Int} (hXs : x_zz G (fun _ U H => va_X b L (fun j => iI (zs j)) U H)) (hb : b < G.2.2.2) (hL : L ≤ 3072) (hz : ∀ j, in32 (zs j)) {x m o d : Nat} {ad : XA} {a : MA} (hDJ : DJW x ad m a o d) {i : Nat} (hi : i + 6 ≤ L) {h : xH} {S : XS} {c : Int} (hW : LW G K sa x m o d ad a S c h) {kc ks : Nat} {Q : xR → xH → Prop} (kk : ∀ (h9 : xH) (S9 : XS) (c9 : Int), LW G K sa x m o d ad a S9 c9 h9 → RR G ML_law 3134 (lsL b x m o d i) [] h9 kc ks Q) : RR G ML_law 871 (lsL b x m o d i) [] h (kc + 3) (ks + 18) Q := by
  obtain ⟨hX, hM, hI, hO, hD⟩ := hW
  obtain ⟨S1, k, V, mv, hI1, hk, hr, cl, cm⟩ := s_butterHeight hGC hGT hGE hCA (m := m) (a := a) hX hI hO hDJ.2.2.1.1 (hz (i + 1))
  obtain ⟨w, rfl, rfl⟩ := hr
  show RR G ML_law 871 [(0, .ref b), (1, .ref x), (2, .ref m), (3, .ref o), (4, .ref d), (5, .int (iI ((i : Int))))] [] h (kc + 3) (ks + 18) Q
  refine r_aload_n dL_law_871 1 rfl ?_
  refine r_aload_n dL_law_872 0 rfl ?_
  refine r_iload dL_law_873 5 rfl ?_
  refine i_const (1) dL_law_875 ?_
  refine i_add dL_law_876 ?_
  refine r_sld hXs hb (i + 1) (by omega) (by omega) (by omega) dL_law_877 ?_
  refine r_aload_n dL_law_878 3 rfl ?_
  refine k_callSW (As := [.ref x, .int (iI (zs (i + 1))), .ref o]) (rest := []) (w := some (.int (iI k))) (st' := [.int (iI k)]) kw_L_butterHeight dL_law_879 rfl rfl (Nat.le_of_ble_eq_true rfl) (Nat.le_of_ble_eq_true rfl) (by show 1 ≤ kc + 3; omega) (by show 6 ≤ ks + 18; omega) cl rfl (fun h2 e2 => ?_)
  obtain ⟨hX2, ⟨mo2, g2, fo2, hg2⟩, hF2⟩ := e2
  have hM2 := hM.fr hF2 hDJ.mo hDJ.wo
  refine r_istore (ls' := [(0, .ref b), (1, .ref x), (2, .ref m), (3, .ref o), (4, .ref d), (5, .int (iI ((i : Int)))), (6, .int (iI k))]) dL_law_882 (by decide) rfl ?_
  refine r_aload_n dL_law_884 2 rfl ?_
  refine r_aload_n dL_law_885 0 rfl ?_
  refine r_iload dL_law_886 5 rfl ?_
  refine i_const (1) dL_law_888 ?_
  refine i_add dL_law_889 ?_
  refine r_sld hXs hb (i + 1) (by omega) (by omega) (by omega) dL_law_890 ?_
  refine p_callV (As := [.int (iI (zs (i + 1)))]) (b := m) (rest := []) (w := (some (.int w))) (st' := [.int w]) kv_L_law_231 dL_law_891 rfl rfl (Nat.le_of_ble_eq_true rfl) (Nat.le_of_ble_eq_true rfl) (mb_rv hM2) rfl rfl (cm h2 c hM2) rfl (fun h3 e3 => ?_)
  obtain ⟨hM3, hF3⟩ := e3
  have fo3 := (hF3.2 o hDJ.2.2.1.2.1).trans fo2
  have mo3 : o ∈ h3.1 := by rw [hF3.1]; exact mo2
  refine r_istore (ls' := [(0, .ref b), (1, .ref x), (2, .ref m), (3, .ref o), (4, .ref d), (5, .int (iI ((i : Int)))), (6, .int (iI k)), (7, .int w)]) dL_law_894 (by decide) rfl ?_
  refine r_aload_n dL_law_896 2 rfl ?_
  refine p_callV (As := []) (b := m) (rest := []) (w := (some (.int (iI k)))) (st' := [.int (iI k)]) kv_L_law_166 dL_law_897 rfl rfl (Nat.le_of_ble_eq_true rfl) (Nat.le_of_ble_eq_true rfl) (mb_rv hM3) rfl rfl (b_X12_thrown hM3) rfl (fun h9 e9 => ?_)
  rw [show h9 = h3 from e9]
  refine r_iload dL_law_900 6 rfl ?_
  refine i_icmpeq dL_law_902 (tgt := 907) (by decide) (in32_k hk) (in32_k hk) (fun _ => ?_) (fun c => absurd rfl c)
  refine r_iload dL_law_907 6 rfl ?_
  refine i_ifne dL_law_909 (tgt := 924) (by decide) (in32_k hk) (fun c909 => ?_) (fun c909 => ?_)
  · refine r_goto dL_law_924 (tgt := 3134) (by decide) ?_
    refine rr_room (rr_sub (kk _ _ _ (LW.mk hDJ hD hX2 ⟨mo2, g2, fo2⟩ hF2 hM3 hF3 hI1)) (lsL_t rfl)) ?_ ?_
    · show kc ≤ kc + 3 - 1; omega
    · show ks ≤ ks + 18 - 6; omega
  · refine r_aload_n dL_law_912 3 rfl ?_
    refine i_const (0) dL_law_913 ?_
    refine i_lald0 dL_law_914 mo3 fo3 (hg2 c909) ?_
    refine r_iload dL_law_915 7 rfl ?_
    refine r_i2l dL_law_917 ?_
    refine i_lcmpe dL_law_918 ?_
    refine i_ifeq dL_law_919 (tgt := 924) (by decide) ⟨by decide, by decide⟩ (fun _ => ?_) (fun c => absurd c (by decide))
    refine r_goto dL_law_924 (tgt := 3134) (by decide) ?_
    refine rr_room (rr_sub (kk _ _ _ (LW.mk hDJ hD hX2 ⟨mo2, g2, fo2⟩ hF2 hM3 hF3 hI1)) (lsL_t rfl)) ?_ ?_
    · show kc ≤ kc + 3 - 1; omega
    · show ks ≤ ks + 18 - 6; omega
set_option maxRecDepth 20000 in
set_option maxHeartbeats 1000000 in
theorem lc_19 {G : xG} {K : xK} {sa : Nat → Nat} (hGC : GC G K sa) (hGT : GT G sa) (hGE : GE G) (hCA : GCA G) {b L : Nat} {zs : Nat → Int} (hXs : x_zz G (fun _ U H => va_X b L (fun j => iI (zs j)) U H)) (hb : b < G.2.2.2) (hL : L ≤ 3072) (hz : ∀ j, in32 (zs j)) {x m o d : Nat} {ad : XA} {a : MA} (hDJ : DJW x ad m a o d) {i : Nat} (hi : i + 6 ≤ L) {h : xH} {S : XS} {c : Int} (hW : LW G K sa x m o d ad a S c h) {kc ks : Nat} {Q : xR → xH → Prop} (kk : ∀ (h9 : xH) (S9 : XS) (c9 : Int), LW G K sa x m o d ad a S9 c9 h9 → RR G ML_law 3134 (lsL b x m o d i) [] h9 kc ks Q) : RR G ML_law 927 (lsL b x m o d i) [] h (kc + 3) (ks + 18) Q := by
  obtain ⟨hX, hM, hI, hO, hD⟩ := hW
  obtain ⟨S1, k, V, mv, hI1, hk, hr, cl, cm⟩ := s_thinnestLayer hGC hGT hGE hCA (m := m) (a := a) hX hI hO hDJ.2.2.1.1 (hz (i + 1))
  obtain ⟨w, rfl, rfl⟩ := hr
  show RR G ML_law 927 [(0, .ref b), (1, .ref x), (2, .ref m), (3, .ref o), (4, .ref d), (5, .int (iI ((i : Int))))] [] h (kc + 3) (ks + 18) Q
  refine r_aload_n dL_law_927 1 rfl ?_
  refine r_aload_n dL_law_928 0 rfl ?_
  refine r_iload dL_law_929 5 rfl ?_
  refine i_const (1) dL_law_931 ?_
  refine i_add dL_law_932 ?_
  refine r_sld hXs hb (i + 1) (by omega) (by omega) (by omega) dL_law_933 ?_
  refine r_aload_n dL_law_934 3 rfl ?_
  refine k_callSW (As := [.ref x, .int (iI (zs (i + 1))), .ref o]) (rest := []) (w := some (.int (iI k))) (st' := [.int (iI k)]) kw_L_thinnestLayer dL_law_935 rfl rfl (Nat.le_of_ble_eq_true rfl) (Nat.le_of_ble_eq_true rfl) (by show 1 ≤ kc + 3; omega) (by show 6 ≤ ks + 18; omega) cl rfl (fun h2 e2 => ?_)
  obtain ⟨hX2, ⟨mo2, g2, fo2, hg2⟩, hF2⟩ := e2
  have hM2 := hM.fr hF2 hDJ.mo hDJ.wo
  refine r_istore (ls' := [(0, .ref b), (1, .ref x), (2, .ref m), (3, .ref o), (4, .ref d), (5, .int (iI ((i : Int)))), (6, .int (iI k))]) dL_law_938 (by decide) rfl ?_
  refine r_aload_n dL_law_940 2 rfl ?_
  refine r_aload_n dL_law_941 0 rfl ?_
  refine r_iload dL_law_942 5 rfl ?_
  refine i_const (1) dL_law_944 ?_
  refine i_add dL_law_945 ?_
  refine r_sld hXs hb (i + 1) (by omega) (by omega) (by omega) dL_law_946 ?_
  refine p_callV (As := [.int (iI (zs (i + 1)))]) (b := m) (rest := []) (w := (some (.int w))) (st' := [.int w]) kv_L_law_234 dL_law_947 rfl rfl (Nat.le_of_ble_eq_true rfl) (Nat.le_of_ble_eq_true rfl) (mb_rv hM2) rfl rfl (cm h2 c hM2) rfl (fun h3 e3 => ?_)
  obtain ⟨hM3, hF3⟩ := e3
  have fo3 := (hF3.2 o hDJ.2.2.1.2.1).trans fo2
  have mo3 : o ∈ h3.1 := by rw [hF3.1]; exact mo2
  refine r_istore (ls' := [(0, .ref b), (1, .ref x), (2, .ref m), (3, .ref o), (4, .ref d), (5, .int (iI ((i : Int)))), (6, .int (iI k)), (7, .int w)]) dL_law_950 (by decide) rfl ?_
  refine r_aload_n dL_law_952 2 rfl ?_
  refine p_callV (As := []) (b := m) (rest := []) (w := (some (.int (iI k)))) (st' := [.int (iI k)]) kv_L_law_166 dL_law_953 rfl rfl (Nat.le_of_ble_eq_true rfl) (Nat.le_of_ble_eq_true rfl) (mb_rv hM3) rfl rfl (b_X12_thrown hM3) rfl (fun h9 e9 => ?_)
  rw [show h9 = h3 from e9]
  refine r_iload dL_law_956 6 rfl ?_
  refine i_icmpeq dL_law_958 (tgt := 963) (by decide) (in32_k hk) (in32_k hk) (fun _ => ?_) (fun c => absurd rfl c)
  refine r_iload dL_law_963 6 rfl ?_
  refine i_ifne dL_law_965 (tgt := 980) (by decide) (in32_k hk) (fun c965 => ?_) (fun c965 => ?_)
  · refine r_goto dL_law_980 (tgt := 3134) (by decide) ?_
    refine rr_room (rr_sub (kk _ _ _ (LW.mk hDJ hD hX2 ⟨mo2, g2, fo2⟩ hF2 hM3 hF3 hI1)) (lsL_t rfl)) ?_ ?_
    · show kc ≤ kc + 3 - 1; omega
    · show ks ≤ ks + 18 - 6; omega
  · refine r_aload_n dL_law_968 3 rfl ?_
    refine i_const (0) dL_law_969 ?_
    refine i_lald0 dL_law_970 mo3 fo3 (hg2 c965) ?_
    refine r_iload dL_law_971 7 rfl ?_
    refine r_i2l dL_law_973 ?_
    refine i_lcmpe dL_law_974 ?_
    refine i_ifeq dL_law_975 (tgt := 980) (by decide) ⟨by decide, by decide⟩ (fun _ => ?_) (fun c => absurd c (by decide))
    refine r_goto dL_law_980 (tgt := 3134) (by decide) ?_
    refine rr_room (rr_sub (kk _ _ _ (LW.mk hDJ hD hX2 ⟨mo2, g2, fo2⟩ hF2 hM3 hF3 hI1)) (lsL_t rfl)) ?_ ?_
    · show kc ≤ kc + 3 - 1; omega
    · show ks ≤ ks + 18 - 6; omega
set_option maxRecDepth 20000 in
set_option maxHeartbeats 1000000 in
theorem lc_20 {G : xG} {K : xK} {sa : Nat → Nat} (hGC : GC G K sa) (hGT : GT G sa) (hGE : GE G) (hCA : GCA G) {b L : Nat} {zs : Nat → Int} (hXs : x_zz G (fun _ U H => va_X b L (fun j => iI (zs j)) U H)) (hb : b < G.2.2.2) (hL : L ≤ 3072) (hz : ∀ j, in32 (zs j)) {x m o d : Nat} {ad : XA} {a : MA} (hDJ : DJW x ad m a o d) {i : Nat} (hi : i + 6 ≤ L) {h : xH} {S : XS} {c : Int} (hW : LW G K sa x m o d ad a S c h) {kc ks : Nat} {Q : xR → xH → Prop} (kk : ∀ (h9 : xH) (S9 : XS) (c9 : Int), LW G K sa x m o d ad a S9 c9 h9 → RR G ML_law 3134 (lsL b x m o d i) [] h9 kc ks Q) : RR G ML_law 983 (lsL b x m o d i) [] h (kc + 3) (ks + 18) Q := by
  obtain ⟨hX, hM, hI, hO, hD⟩ := hW
  obtain ⟨S1, k, V, mv, hI1, hk, hr, cl, cm⟩ := s_thickestLayer hGC hGT hGE hCA (m := m) (a := a) hX hI hO hDJ.2.2.1.1 (hz (i + 1))
  obtain ⟨w, rfl, rfl⟩ := hr
  show RR G ML_law 983 [(0, .ref b), (1, .ref x), (2, .ref m), (3, .ref o), (4, .ref d), (5, .int (iI ((i : Int))))] [] h (kc + 3) (ks + 18) Q
  refine r_aload_n dL_law_983 1 rfl ?_
  refine r_aload_n dL_law_984 0 rfl ?_
  refine r_iload dL_law_985 5 rfl ?_
  refine i_const (1) dL_law_987 ?_
  refine i_add dL_law_988 ?_
  refine r_sld hXs hb (i + 1) (by omega) (by omega) (by omega) dL_law_989 ?_
  refine r_aload_n dL_law_990 3 rfl ?_
  refine k_callSW (As := [.ref x, .int (iI (zs (i + 1))), .ref o]) (rest := []) (w := some (.int (iI k))) (st' := [.int (iI k)]) kw_L_thickestLayer dL_law_991 rfl rfl (Nat.le_of_ble_eq_true rfl) (Nat.le_of_ble_eq_true rfl) (by show 1 ≤ kc + 3; omega) (by show 6 ≤ ks + 18; omega) cl rfl (fun h2 e2 => ?_)
  obtain ⟨hX2, ⟨mo2, g2, fo2, hg2⟩, hF2⟩ := e2
  have hM2 := hM.fr hF2 hDJ.mo hDJ.wo
  refine r_istore (ls' := [(0, .ref b), (1, .ref x), (2, .ref m), (3, .ref o), (4, .ref d), (5, .int (iI ((i : Int)))), (6, .int (iI k))]) dL_law_994 (by decide) rfl ?_
  refine r_aload_n dL_law_996 2 rfl ?_
  refine r_aload_n dL_law_997 0 rfl ?_
  refine r_iload dL_law_998 5 rfl ?_
  refine i_const (1) dL_law_1000 ?_
  refine i_add dL_law_1001 ?_
  refine r_sld hXs hb (i + 1) (by omega) (by omega) (by omega) dL_law_1002 ?_
  refine p_callV (As := [.int (iI (zs (i + 1)))]) (b := m) (rest := []) (w := (some (.int w))) (st' := [.int w]) kv_L_law_237 dL_law_1003 rfl rfl (Nat.le_of_ble_eq_true rfl) (Nat.le_of_ble_eq_true rfl) (mb_rv hM2) rfl rfl (cm h2 c hM2) rfl (fun h3 e3 => ?_)
  obtain ⟨hM3, hF3⟩ := e3
  have fo3 := (hF3.2 o hDJ.2.2.1.2.1).trans fo2
  have mo3 : o ∈ h3.1 := by rw [hF3.1]; exact mo2
  refine r_istore (ls' := [(0, .ref b), (1, .ref x), (2, .ref m), (3, .ref o), (4, .ref d), (5, .int (iI ((i : Int)))), (6, .int (iI k)), (7, .int w)]) dL_law_1006 (by decide) rfl ?_
  refine r_aload_n dL_law_1008 2 rfl ?_
  refine p_callV (As := []) (b := m) (rest := []) (w := (some (.int (iI k)))) (st' := [.int (iI k)]) kv_L_law_166 dL_law_1009 rfl rfl (Nat.le_of_ble_eq_true rfl) (Nat.le_of_ble_eq_true rfl) (mb_rv hM3) rfl rfl (b_X12_thrown hM3) rfl (fun h9 e9 => ?_)
  rw [show h9 = h3 from e9]
  refine r_iload dL_law_1012 6 rfl ?_
  refine i_icmpeq dL_law_1014 (tgt := 1019) (by decide) (in32_k hk) (in32_k hk) (fun _ => ?_) (fun c => absurd rfl c)
  refine r_iload dL_law_1019 6 rfl ?_
  refine i_ifne dL_law_1021 (tgt := 1036) (by decide) (in32_k hk) (fun c1021 => ?_) (fun c1021 => ?_)
  · refine r_goto dL_law_1036 (tgt := 3134) (by decide) ?_
    refine rr_room (rr_sub (kk _ _ _ (LW.mk hDJ hD hX2 ⟨mo2, g2, fo2⟩ hF2 hM3 hF3 hI1)) (lsL_t rfl)) ?_ ?_
    · show kc ≤ kc + 3 - 1; omega
    · show ks ≤ ks + 18 - 6; omega
  · refine r_aload_n dL_law_1024 3 rfl ?_
    refine i_const (0) dL_law_1025 ?_
    refine i_lald0 dL_law_1026 mo3 fo3 (hg2 c1021) ?_
    refine r_iload dL_law_1027 7 rfl ?_
    refine r_i2l dL_law_1029 ?_
    refine i_lcmpe dL_law_1030 ?_
    refine i_ifeq dL_law_1031 (tgt := 1036) (by decide) ⟨by decide, by decide⟩ (fun _ => ?_) (fun c => absurd c (by decide))
    refine r_goto dL_law_1036 (tgt := 3134) (by decide) ?_
    refine rr_room (rr_sub (kk _ _ _ (LW.mk hDJ hD hX2 ⟨mo2, g2, fo2⟩ hF2 hM3 hF3 hI1)) (lsL_t rfl)) ?_ ?_
    · show kc ≤ kc + 3 - 1; omega
    · show ks ≤ ks + 18 - 6; omega
set_option maxRecDepth 20000 in
set_option maxHeartbeats 1000000 in
theorem lc_21 {G : xG} {K : xK} {sa : Nat → Nat} (hGC : GC G K sa) (hGT : GT G sa) (hGE : GE G) (hCA : GCA G) {b L : Nat} {zs : Nat → Int} (hXs : x_zz G (fun _ U H => va_X b L (fun j => iI (zs j)) U H)) (hb : b < G.2.2.2) (hL : L ≤ 3072) (hz : ∀ j, in32 (zs j)) {x m o d : Nat} {ad : XA} {a : MA} (hDJ : DJW x ad m a o d) {i : Nat} (hi : i + 6 ≤ L) {h : xH} {S : XS} {c : Int} (hW : LW G K sa x m o d ad a S c h) {kc ks : Nat} {Q : xR → xH → Prop} (kk : ∀ (h9 : xH) (S9 : XS) (c9 : Int), LW G K sa x m o d ad a S9 c9 h9 → RR G ML_law 3134 (lsL b x m o d i) [] h9 kc ks Q) : RR G ML_law 1039 (lsL b x m o d i) [] h (kc + 3) (ks + 18) Q := by
  obtain ⟨hX, hM, hI, hO, hD⟩ := hW
  obtain ⟨S1, k, V, mv, hI1, hk, hr, cl, cm⟩ := s_seamCount hGC hGT hGE hCA (m := m) (a := a) hX hI hO hDJ.2.2.1.1 (hz (i + 1))
  obtain ⟨w, rfl, rfl⟩ := hr
  show RR G ML_law 1039 [(0, .ref b), (1, .ref x), (2, .ref m), (3, .ref o), (4, .ref d), (5, .int (iI ((i : Int))))] [] h (kc + 3) (ks + 18) Q
  refine r_aload_n dL_law_1039 1 rfl ?_
  refine r_aload_n dL_law_1040 0 rfl ?_
  refine r_iload dL_law_1041 5 rfl ?_
  refine i_const (1) dL_law_1043 ?_
  refine i_add dL_law_1044 ?_
  refine r_sld hXs hb (i + 1) (by omega) (by omega) (by omega) dL_law_1045 ?_
  refine r_aload_n dL_law_1046 3 rfl ?_
  refine k_callSW (As := [.ref x, .int (iI (zs (i + 1))), .ref o]) (rest := []) (w := some (.int (iI k))) (st' := [.int (iI k)]) kw_L_seamCount dL_law_1047 rfl rfl (Nat.le_of_ble_eq_true rfl) (Nat.le_of_ble_eq_true rfl) (by show 1 ≤ kc + 3; omega) (by show 6 ≤ ks + 18; omega) cl rfl (fun h2 e2 => ?_)
  obtain ⟨hX2, ⟨mo2, g2, fo2, hg2⟩, hF2⟩ := e2
  have hM2 := hM.fr hF2 hDJ.mo hDJ.wo
  refine r_istore (ls' := [(0, .ref b), (1, .ref x), (2, .ref m), (3, .ref o), (4, .ref d), (5, .int (iI ((i : Int)))), (6, .int (iI k))]) dL_law_1050 (by decide) rfl ?_
  refine r_aload_n dL_law_1052 2 rfl ?_
  refine r_aload_n dL_law_1053 0 rfl ?_
  refine r_iload dL_law_1054 5 rfl ?_
  refine i_const (1) dL_law_1056 ?_
  refine i_add dL_law_1057 ?_
  refine r_sld hXs hb (i + 1) (by omega) (by omega) (by omega) dL_law_1058 ?_
  refine p_callV (As := [.int (iI (zs (i + 1)))]) (b := m) (rest := []) (w := (some (.int w))) (st' := [.int w]) kv_L_law_240 dL_law_1059 rfl rfl (Nat.le_of_ble_eq_true rfl) (Nat.le_of_ble_eq_true rfl) (mb_rv hM2) rfl rfl (cm h2 c hM2) rfl (fun h3 e3 => ?_)
  obtain ⟨hM3, hF3⟩ := e3
  have fo3 := (hF3.2 o hDJ.2.2.1.2.1).trans fo2
  have mo3 : o ∈ h3.1 := by rw [hF3.1]; exact mo2
  refine r_istore (ls' := [(0, .ref b), (1, .ref x), (2, .ref m), (3, .ref o), (4, .ref d), (5, .int (iI ((i : Int)))), (6, .int (iI k)), (7, .int w)]) dL_law_1062 (by decide) rfl ?_
  refine r_aload_n dL_law_1064 2 rfl ?_
  refine p_callV (As := []) (b := m) (rest := []) (w := (some (.int (iI k)))) (st' := [.int (iI k)]) kv_L_law_166 dL_law_1065 rfl rfl (Nat.le_of_ble_eq_true rfl) (Nat.le_of_ble_eq_true rfl) (mb_rv hM3) rfl rfl (b_X12_thrown hM3) rfl (fun h9 e9 => ?_)
  rw [show h9 = h3 from e9]
  refine r_iload dL_law_1068 6 rfl ?_
  refine i_icmpeq dL_law_1070 (tgt := 1075) (by decide) (in32_k hk) (in32_k hk) (fun _ => ?_) (fun c => absurd rfl c)
  refine r_iload dL_law_1075 6 rfl ?_
  refine i_ifne dL_law_1077 (tgt := 1092) (by decide) (in32_k hk) (fun c1077 => ?_) (fun c1077 => ?_)
  · refine r_goto dL_law_1092 (tgt := 3134) (by decide) ?_
    refine rr_room (rr_sub (kk _ _ _ (LW.mk hDJ hD hX2 ⟨mo2, g2, fo2⟩ hF2 hM3 hF3 hI1)) (lsL_t rfl)) ?_ ?_
    · show kc ≤ kc + 3 - 1; omega
    · show ks ≤ ks + 18 - 6; omega
  · refine r_aload_n dL_law_1080 3 rfl ?_
    refine i_const (0) dL_law_1081 ?_
    refine i_lald0 dL_law_1082 mo3 fo3 (hg2 c1077) ?_
    refine r_iload dL_law_1083 7 rfl ?_
    refine r_i2l dL_law_1085 ?_
    refine i_lcmpe dL_law_1086 ?_
    refine i_ifeq dL_law_1087 (tgt := 1092) (by decide) ⟨by decide, by decide⟩ (fun _ => ?_) (fun c => absurd c (by decide))
    refine r_goto dL_law_1092 (tgt := 3134) (by decide) ?_
    refine rr_room (rr_sub (kk _ _ _ (LW.mk hDJ hD hX2 ⟨mo2, g2, fo2⟩ hF2 hM3 hF3 hI1)) (lsL_t rfl)) ?_ ?_
    · show kc ≤ kc + 3 - 1; omega
    · show ks ≤ ks + 18 - 6; omega
set_option maxRecDepth 20000 in
set_option maxHeartbeats 1000000 in
theorem lc_22 {G : xG} {K : xK} {sa : Nat → Nat} (hGC : GC G K sa) (hGT : GT G sa) (hGE : GE G) (hCA : GCA G) {b L : Nat} {zs : Nat → Int} (hXs : x_zz G (fun _ U H => va_X b L (fun j => iI (zs j)) U H)) (hb : b < G.2.2.2) (hL : L ≤ 3072) (hz : ∀ j, in32 (zs j)) {x m o d : Nat} {ad : XA} {a : MA} (hDJ : DJW x ad m a o d) {i : Nat} (hi : i + 6 ≤ L) {h : xH} {S : XS} {c : Int} (hW : LW G K sa x m o d ad a S c h) {kc ks : Nat} {Q : xR → xH → Prop} (kk : ∀ (h9 : xH) (S9 : XS) (c9 : Int), LW G K sa x m o d ad a S9 c9 h9 → RR G ML_law 3134 (lsL b x m o d i) [] h9 kc ks Q) : RR G ML_law 1095 (lsL b x m o d i) [] h (kc + 3) (ks + 18) Q := by
  obtain ⟨hX, hM, hI, hO, hD⟩ := hW
  obtain ⟨S1, k, V, mv, hI1, hk, hr, cl, cm⟩ := s_isSymmetric hGC hGT hGE hCA (m := m) (a := a) hX hI hO hDJ.2.2.1.1 (hz (i + 1))
  obtain ⟨w, rfl, rfl⟩ := hr
  show RR G ML_law 1095 [(0, .ref b), (1, .ref x), (2, .ref m), (3, .ref o), (4, .ref d), (5, .int (iI ((i : Int))))] [] h (kc + 3) (ks + 18) Q
  refine r_aload_n dL_law_1095 1 rfl ?_
  refine r_aload_n dL_law_1096 0 rfl ?_
  refine r_iload dL_law_1097 5 rfl ?_
  refine i_const (1) dL_law_1099 ?_
  refine i_add dL_law_1100 ?_
  refine r_sld hXs hb (i + 1) (by omega) (by omega) (by omega) dL_law_1101 ?_
  refine r_aload_n dL_law_1102 3 rfl ?_
  refine k_callSW (As := [.ref x, .int (iI (zs (i + 1))), .ref o]) (rest := []) (w := some (.int (iI k))) (st' := [.int (iI k)]) kw_L_isSymmetric dL_law_1103 rfl rfl (Nat.le_of_ble_eq_true rfl) (Nat.le_of_ble_eq_true rfl) (by show 1 ≤ kc + 3; omega) (by show 6 ≤ ks + 18; omega) cl rfl (fun h2 e2 => ?_)
  obtain ⟨hX2, ⟨mo2, g2, fo2, hg2⟩, hF2⟩ := e2
  have hM2 := hM.fr hF2 hDJ.mo hDJ.wo
  refine r_istore (ls' := [(0, .ref b), (1, .ref x), (2, .ref m), (3, .ref o), (4, .ref d), (5, .int (iI ((i : Int)))), (6, .int (iI k))]) dL_law_1106 (by decide) rfl ?_
  refine r_aload_n dL_law_1108 2 rfl ?_
  refine r_aload_n dL_law_1109 0 rfl ?_
  refine r_iload dL_law_1110 5 rfl ?_
  refine i_const (1) dL_law_1112 ?_
  refine i_add dL_law_1113 ?_
  refine r_sld hXs hb (i + 1) (by omega) (by omega) (by omega) dL_law_1114 ?_
  refine p_callV (As := [.int (iI (zs (i + 1)))]) (b := m) (rest := []) (w := (some (.int (iI (b2 w))))) (st' := [.int (iI (b2 w))]) kv_L_law_243 dL_law_1115 rfl rfl (Nat.le_of_ble_eq_true rfl) (Nat.le_of_ble_eq_true rfl) (mb_rv hM2) rfl rfl (cm h2 c hM2) rfl (fun h3 e3 => ?_)
  obtain ⟨hM3, hF3⟩ := e3
  have fo3 := (hF3.2 o hDJ.2.2.1.2.1).trans fo2
  have mo3 : o ∈ h3.1 := by rw [hF3.1]; exact mo2
  refine r_istore (ls' := [(0, .ref b), (1, .ref x), (2, .ref m), (3, .ref o), (4, .ref d), (5, .int (iI ((i : Int)))), (6, .int (iI k)), (7, .int (iI (b2 w)))]) dL_law_1118 (by decide) rfl ?_
  refine r_aload_n dL_law_1120 2 rfl ?_
  refine p_callV (As := []) (b := m) (rest := []) (w := (some (.int (iI k)))) (st' := [.int (iI k)]) kv_L_law_166 dL_law_1121 rfl rfl (Nat.le_of_ble_eq_true rfl) (Nat.le_of_ble_eq_true rfl) (mb_rv hM3) rfl rfl (b_X12_thrown hM3) rfl (fun h9 e9 => ?_)
  rw [show h9 = h3 from e9]
  refine r_iload dL_law_1124 6 rfl ?_
  refine i_icmpeq dL_law_1126 (tgt := 1131) (by decide) (in32_k hk) (in32_k hk) (fun _ => ?_) (fun c => absurd rfl c)
  refine r_iload dL_law_1131 6 rfl ?_
  refine i_ifne dL_law_1133 (tgt := 1155) (by decide) (in32_k hk) (fun c1133 => ?_) (fun c1133 => ?_)
  · refine r_goto dL_law_1155 (tgt := 3134) (by decide) ?_
    refine rr_room (rr_sub (kk _ _ _ (LW.mk hDJ hD hX2 ⟨mo2, g2, fo2⟩ hF2 hM3 hF3 hI1)) (lsL_t rfl)) ?_ ?_
    · show kc ≤ kc + 3 - 1; omega
    · show ks ≤ ks + 18 - 6; omega
  · refine r_aload_n dL_law_1136 3 rfl ?_
    refine i_const (0) dL_law_1137 ?_
    refine i_lald0 dL_law_1138 mo3 fo3 (hg2 c1133) ?_
    refine r_iload dL_law_1139 7 rfl ?_
    refine i_ifeqb dL_law_1141 (tgt := 1148) (by decide) (fun cb => ?_) (fun cb => ?_)
    · subst cb
      refine r_lconst dL_law_1148 ?_
      refine i_lcmpe dL_law_1149 ?_
      refine i_ifeq dL_law_1150 (tgt := 1155) (by decide) ⟨by decide, by decide⟩ (fun _ => ?_) (fun c => absurd c (by decide))
      refine r_goto dL_law_1155 (tgt := 3134) (by decide) ?_
      refine rr_room (rr_sub (kk _ _ _ (LW.mk hDJ hD hX2 ⟨mo2, g2, fo2⟩ hF2 hM3 hF3 hI1)) (lsL_t rfl)) ?_ ?_
      · show kc ≤ kc + 3 - 1; omega
      · show ks ≤ ks + 18 - 6; omega
    · subst cb
      refine r_lconst dL_law_1144 ?_
      refine r_goto dL_law_1145 (tgt := 1149) (by decide) ?_
      refine i_lcmpe dL_law_1149 ?_
      refine i_ifeq dL_law_1150 (tgt := 1155) (by decide) ⟨by decide, by decide⟩ (fun _ => ?_) (fun c => absurd c (by decide))
      refine r_goto dL_law_1155 (tgt := 3134) (by decide) ?_
      refine rr_room (rr_sub (kk _ _ _ (LW.mk hDJ hD hX2 ⟨mo2, g2, fo2⟩ hF2 hM3 hF3 hI1)) (lsL_t rfl)) ?_ ?_
      · show kc ≤ kc + 3 - 1; omega
      · show ks ≤ ks + 18 - 6; omega
set_option maxRecDepth 20000 in
set_option maxHeartbeats 1000000 in
theorem lc_23 {G : xG} {K : xK} {sa : Nat → Nat} (hGC : GC G K sa) (hGT : GT G sa) (hGE : GE G) (hCA : GCA G) {b L : Nat} {zs : Nat → Int} (hXs : x_zz G (fun _ U H => va_X b L (fun j => iI (zs j)) U H)) (hb : b < G.2.2.2) (hL : L ≤ 3072) (hz : ∀ j, in32 (zs j)) {x m o d : Nat} {ad : XA} {a : MA} (hDJ : DJW x ad m a o d) {i : Nat} (hi : i + 6 ≤ L) {h : xH} {S : XS} {c : Int} (hW : LW G K sa x m o d ad a S c h) {kc ks : Nat} {Q : xR → xH → Prop} (kk : ∀ (h9 : xH) (S9 : XS) (c9 : Int), LW G K sa x m o d ad a S9 c9 h9 → RR G ML_law 3134 (lsL b x m o d i) [] h9 kc ks Q) : RR G ML_law 1158 (lsL b x m o d i) [] h (kc + 3) (ks + 18) Q := by
  obtain ⟨hX, hM, hI, hO, hD⟩ := hW
  obtain ⟨S1, k, V, mv, hI1, hk, hr, cl, cm⟩ := s_temperature hGC hGT hGE hCA (m := m) (a := a) hX hI hO hDJ.2.2.1.1 (hz (i + 1))
  obtain ⟨w, rfl, rfl⟩ := hr
  show RR G ML_law 1158 [(0, .ref b), (1, .ref x), (2, .ref m), (3, .ref o), (4, .ref d), (5, .int (iI ((i : Int))))] [] h (kc + 3) (ks + 18) Q
  refine r_aload_n dL_law_1158 1 rfl ?_
  refine r_aload_n dL_law_1159 0 rfl ?_
  refine r_iload dL_law_1160 5 rfl ?_
  refine i_const (1) dL_law_1162 ?_
  refine i_add dL_law_1163 ?_
  refine r_sld hXs hb (i + 1) (by omega) (by omega) (by omega) dL_law_1164 ?_
  refine r_aload_n dL_law_1165 3 rfl ?_
  refine k_callSW (As := [.ref x, .int (iI (zs (i + 1))), .ref o]) (rest := []) (w := some (.int (iI k))) (st' := [.int (iI k)]) kw_L_temperature dL_law_1166 rfl rfl (Nat.le_of_ble_eq_true rfl) (Nat.le_of_ble_eq_true rfl) (by show 1 ≤ kc + 3; omega) (by show 6 ≤ ks + 18; omega) cl rfl (fun h2 e2 => ?_)
  obtain ⟨hX2, ⟨mo2, g2, fo2, hg2⟩, hF2⟩ := e2
  have hM2 := hM.fr hF2 hDJ.mo hDJ.wo
  refine r_istore (ls' := [(0, .ref b), (1, .ref x), (2, .ref m), (3, .ref o), (4, .ref d), (5, .int (iI ((i : Int)))), (6, .int (iI k))]) dL_law_1169 (by decide) rfl ?_
  refine r_aload_n dL_law_1171 2 rfl ?_
  refine r_aload_n dL_law_1172 0 rfl ?_
  refine r_iload dL_law_1173 5 rfl ?_
  refine i_const (1) dL_law_1175 ?_
  refine i_add dL_law_1176 ?_
  refine r_sld hXs hb (i + 1) (by omega) (by omega) (by omega) dL_law_1177 ?_
  refine p_callV (As := [.int (iI (zs (i + 1)))]) (b := m) (rest := []) (w := (some (.int w))) (st' := [.int w]) kv_L_law_246 dL_law_1178 rfl rfl (Nat.le_of_ble_eq_true rfl) (Nat.le_of_ble_eq_true rfl) (mb_rv hM2) rfl rfl (cm h2 c hM2) rfl (fun h3 e3 => ?_)
  obtain ⟨hM3, hF3⟩ := e3
  have fo3 := (hF3.2 o hDJ.2.2.1.2.1).trans fo2
  have mo3 : o ∈ h3.1 := by rw [hF3.1]; exact mo2
  refine r_istore (ls' := [(0, .ref b), (1, .ref x), (2, .ref m), (3, .ref o), (4, .ref d), (5, .int (iI ((i : Int)))), (6, .int (iI k)), (7, .int w)]) dL_law_1181 (by decide) rfl ?_
  refine r_aload_n dL_law_1183 2 rfl ?_
  refine p_callV (As := []) (b := m) (rest := []) (w := (some (.int (iI k)))) (st' := [.int (iI k)]) kv_L_law_166 dL_law_1184 rfl rfl (Nat.le_of_ble_eq_true rfl) (Nat.le_of_ble_eq_true rfl) (mb_rv hM3) rfl rfl (b_X12_thrown hM3) rfl (fun h9 e9 => ?_)
  rw [show h9 = h3 from e9]
  refine r_iload dL_law_1187 6 rfl ?_
  refine i_icmpeq dL_law_1189 (tgt := 1194) (by decide) (in32_k hk) (in32_k hk) (fun _ => ?_) (fun c => absurd rfl c)
  refine r_iload dL_law_1194 6 rfl ?_
  refine i_ifne dL_law_1196 (tgt := 1211) (by decide) (in32_k hk) (fun c1196 => ?_) (fun c1196 => ?_)
  · refine r_goto dL_law_1211 (tgt := 3134) (by decide) ?_
    refine rr_room (rr_sub (kk _ _ _ (LW.mk hDJ hD hX2 ⟨mo2, g2, fo2⟩ hF2 hM3 hF3 hI1)) (lsL_t rfl)) ?_ ?_
    · show kc ≤ kc + 3 - 1; omega
    · show ks ≤ ks + 18 - 6; omega
  · refine r_aload_n dL_law_1199 3 rfl ?_
    refine i_const (0) dL_law_1200 ?_
    refine i_lald0 dL_law_1201 mo3 fo3 (hg2 c1196) ?_
    refine r_iload dL_law_1202 7 rfl ?_
    refine r_i2l dL_law_1204 ?_
    refine i_lcmpe dL_law_1205 ?_
    refine i_ifeq dL_law_1206 (tgt := 1211) (by decide) ⟨by decide, by decide⟩ (fun _ => ?_) (fun c => absurd c (by decide))
    refine r_goto dL_law_1211 (tgt := 3134) (by decide) ?_
    refine rr_room (rr_sub (kk _ _ _ (LW.mk hDJ hD hX2 ⟨mo2, g2, fo2⟩ hF2 hM3 hF3 hI1)) (lsL_t rfl)) ?_ ?_
    · show kc ≤ kc + 3 - 1; omega
    · show ks ≤ ks + 18 - 6; omega
set_option maxRecDepth 20000 in
set_option maxHeartbeats 1000000 in
theorem lc_24 {G : xG} {K : xK} {sa : Nat → Nat} (hGC : GC G K sa) (hGT : GT G sa) (hGE : GE G) (hCA : GCA G) {b L : Nat} {zs : Nat → Int} (hXs : x_zz G (fun _ U H => va_X b L (fun j => iI (zs j)) U H)) (hb : b < G.2.2.2) (hL : L ≤ 3072) (hz : ∀ j, in32 (zs j)) {x m o d : Nat} {ad : XA} {a : MA} (hDJ : DJW x ad m a o d) {i : Nat} (hi : i + 6 ≤ L) {h : xH} {S : XS} {c : Int} (hW : LW G K sa x m o d ad a S c h) {kc ks : Nat} {Q : xR → xH → Prop} (kk : ∀ (h9 : xH) (S9 : XS) (c9 : Int), LW G K sa x m o d ad a S9 c9 h9 → RR G ML_law 3134 (lsL b x m o d i) [] h9 kc ks Q) : RR G ML_law 1214 (lsL b x m o d i) [] h (kc + 3) (ks + 18) Q := by
  obtain ⟨hX, hM, hI, hO, hD⟩ := hW
  obtain ⟨S1, k, V, mv, hI1, hk, hr, cl, cm⟩ := s_isDusted hGC hGT hGE hCA (m := m) (a := a) hX hI hO hDJ.2.2.1.1 (hz (i + 1))
  obtain ⟨w, rfl, rfl⟩ := hr
  show RR G ML_law 1214 [(0, .ref b), (1, .ref x), (2, .ref m), (3, .ref o), (4, .ref d), (5, .int (iI ((i : Int))))] [] h (kc + 3) (ks + 18) Q
  refine r_aload_n dL_law_1214 1 rfl ?_
  refine r_aload_n dL_law_1215 0 rfl ?_
  refine r_iload dL_law_1216 5 rfl ?_
  refine i_const (1) dL_law_1218 ?_
  refine i_add dL_law_1219 ?_
  refine r_sld hXs hb (i + 1) (by omega) (by omega) (by omega) dL_law_1220 ?_
  refine r_aload_n dL_law_1221 3 rfl ?_
  refine k_callSW (As := [.ref x, .int (iI (zs (i + 1))), .ref o]) (rest := []) (w := some (.int (iI k))) (st' := [.int (iI k)]) kw_L_isDusted dL_law_1222 rfl rfl (Nat.le_of_ble_eq_true rfl) (Nat.le_of_ble_eq_true rfl) (by show 1 ≤ kc + 3; omega) (by show 6 ≤ ks + 18; omega) cl rfl (fun h2 e2 => ?_)
  obtain ⟨hX2, ⟨mo2, g2, fo2, hg2⟩, hF2⟩ := e2
  have hM2 := hM.fr hF2 hDJ.mo hDJ.wo
  refine r_istore (ls' := [(0, .ref b), (1, .ref x), (2, .ref m), (3, .ref o), (4, .ref d), (5, .int (iI ((i : Int)))), (6, .int (iI k))]) dL_law_1225 (by decide) rfl ?_
  refine r_aload_n dL_law_1227 2 rfl ?_
  refine r_aload_n dL_law_1228 0 rfl ?_
  refine r_iload dL_law_1229 5 rfl ?_
  refine i_const (1) dL_law_1231 ?_
  refine i_add dL_law_1232 ?_
  refine r_sld hXs hb (i + 1) (by omega) (by omega) (by omega) dL_law_1233 ?_
  refine p_callV (As := [.int (iI (zs (i + 1)))]) (b := m) (rest := []) (w := (some (.int (iI (b2 w))))) (st' := [.int (iI (b2 w))]) kv_L_law_249 dL_law_1234 rfl rfl (Nat.le_of_ble_eq_true rfl) (Nat.le_of_ble_eq_true rfl) (mb_rv hM2) rfl rfl (cm h2 c hM2) rfl (fun h3 e3 => ?_)
  obtain ⟨hM3, hF3⟩ := e3
  have fo3 := (hF3.2 o hDJ.2.2.1.2.1).trans fo2
  have mo3 : o ∈ h3.1 := by rw [hF3.1]; exact mo2
  refine r_istore (ls' := [(0, .ref b), (1, .ref x), (2, .ref m), (3, .ref o), (4, .ref d), (5, .int (iI ((i : Int)))), (6, .int (iI k)), (7, .int (iI (b2 w)))]) dL_law_1237 (by decide) rfl ?_
  refine r_aload_n dL_law_1239 2 rfl ?_
  refine p_callV (As := []) (b := m) (rest := []) (w := (some (.int (iI k)))) (st' := [.int (iI k)]) kv_L_law_166 dL_law_1240 rfl rfl (Nat.le_of_ble_eq_true rfl) (Nat.le_of_ble_eq_true rfl) (mb_rv hM3) rfl rfl (b_X12_thrown hM3) rfl (fun h9 e9 => ?_)
  rw [show h9 = h3 from e9]
  refine r_iload dL_law_1243 6 rfl ?_
  refine i_icmpeq dL_law_1245 (tgt := 1250) (by decide) (in32_k hk) (in32_k hk) (fun _ => ?_) (fun c => absurd rfl c)
  refine r_iload dL_law_1250 6 rfl ?_
  refine i_ifne dL_law_1252 (tgt := 1274) (by decide) (in32_k hk) (fun c1252 => ?_) (fun c1252 => ?_)
  · refine r_goto dL_law_1274 (tgt := 3134) (by decide) ?_
    refine rr_room (rr_sub (kk _ _ _ (LW.mk hDJ hD hX2 ⟨mo2, g2, fo2⟩ hF2 hM3 hF3 hI1)) (lsL_t rfl)) ?_ ?_
    · show kc ≤ kc + 3 - 1; omega
    · show ks ≤ ks + 18 - 6; omega
  · refine r_aload_n dL_law_1255 3 rfl ?_
    refine i_const (0) dL_law_1256 ?_
    refine i_lald0 dL_law_1257 mo3 fo3 (hg2 c1252) ?_
    refine r_iload dL_law_1258 7 rfl ?_
    refine i_ifeqb dL_law_1260 (tgt := 1267) (by decide) (fun cb => ?_) (fun cb => ?_)
    · subst cb
      refine r_lconst dL_law_1267 ?_
      refine i_lcmpe dL_law_1268 ?_
      refine i_ifeq dL_law_1269 (tgt := 1274) (by decide) ⟨by decide, by decide⟩ (fun _ => ?_) (fun c => absurd c (by decide))
      refine r_goto dL_law_1274 (tgt := 3134) (by decide) ?_
      refine rr_room (rr_sub (kk _ _ _ (LW.mk hDJ hD hX2 ⟨mo2, g2, fo2⟩ hF2 hM3 hF3 hI1)) (lsL_t rfl)) ?_ ?_
      · show kc ≤ kc + 3 - 1; omega
      · show ks ≤ ks + 18 - 6; omega
    · subst cb
      refine r_lconst dL_law_1263 ?_
      refine r_goto dL_law_1264 (tgt := 1268) (by decide) ?_
      refine i_lcmpe dL_law_1268 ?_
      refine i_ifeq dL_law_1269 (tgt := 1274) (by decide) ⟨by decide, by decide⟩ (fun _ => ?_) (fun c => absurd c (by decide))
      refine r_goto dL_law_1274 (tgt := 3134) (by decide) ?_
      refine rr_room (rr_sub (kk _ _ _ (LW.mk hDJ hD hX2 ⟨mo2, g2, fo2⟩ hF2 hM3 hF3 hI1)) (lsL_t rfl)) ?_ ?_
      · show kc ≤ kc + 3 - 1; omega
      · show ks ≤ ks + 18 - 6; omega
set_option maxRecDepth 20000 in
set_option maxHeartbeats 1000000 in
theorem lc_25 {G : xG} {K : xK} {sa : Nat → Nat} (hGC : GC G K sa) (hGT : GT G sa) (hGE : GE G) (hCA : GCA G) {b L : Nat} {zs : Nat → Int} (hXs : x_zz G (fun _ U H => va_X b L (fun j => iI (zs j)) U H)) (hb : b < G.2.2.2) (hL : L ≤ 3072) (hz : ∀ j, in32 (zs j)) {x m o d : Nat} {ad : XA} {a : MA} (hDJ : DJW x ad m a o d) {i : Nat} (hi : i + 6 ≤ L) {h : xH} {S : XS} {c : Int} (hW : LW G K sa x m o d ad a S c h) {kc ks : Nat} {Q : xR → xH → Prop} (kk : ∀ (h9 : xH) (S9 : XS) (c9 : Int), LW G K sa x m o d ad a S9 c9 h9 → RR G ML_law 3134 (lsL b x m o d i) [] h9 kc ks Q) : RR G ML_law 1277 (lsL b x m o d i) [] h (kc + 3) (ks + 18) Q := by
  obtain ⟨hX, hM, hI, hO, hD⟩ := hW
  obtain ⟨S1, k, V, mv, hI1, hk, hr, cl, cm⟩ := s_isSealed hGC hGT hGE hCA (m := m) (a := a) hX hI hO hDJ.2.2.1.1 (hz (i + 1))
  obtain ⟨w, rfl, rfl⟩ := hr
  show RR G ML_law 1277 [(0, .ref b), (1, .ref x), (2, .ref m), (3, .ref o), (4, .ref d), (5, .int (iI ((i : Int))))] [] h (kc + 3) (ks + 18) Q
  refine r_aload_n dL_law_1277 1 rfl ?_
  refine r_aload_n dL_law_1278 0 rfl ?_
  refine r_iload dL_law_1279 5 rfl ?_
  refine i_const (1) dL_law_1281 ?_
  refine i_add dL_law_1282 ?_
  refine r_sld hXs hb (i + 1) (by omega) (by omega) (by omega) dL_law_1283 ?_
  refine r_aload_n dL_law_1284 3 rfl ?_
  refine k_callSW (As := [.ref x, .int (iI (zs (i + 1))), .ref o]) (rest := []) (w := some (.int (iI k))) (st' := [.int (iI k)]) kw_L_isSealed dL_law_1285 rfl rfl (Nat.le_of_ble_eq_true rfl) (Nat.le_of_ble_eq_true rfl) (by show 1 ≤ kc + 3; omega) (by show 6 ≤ ks + 18; omega) cl rfl (fun h2 e2 => ?_)
  obtain ⟨hX2, ⟨mo2, g2, fo2, hg2⟩, hF2⟩ := e2
  have hM2 := hM.fr hF2 hDJ.mo hDJ.wo
  refine r_istore (ls' := [(0, .ref b), (1, .ref x), (2, .ref m), (3, .ref o), (4, .ref d), (5, .int (iI ((i : Int)))), (6, .int (iI k))]) dL_law_1288 (by decide) rfl ?_
  refine r_aload_n dL_law_1290 2 rfl ?_
  refine r_aload_n dL_law_1291 0 rfl ?_
  refine r_iload dL_law_1292 5 rfl ?_
  refine i_const (1) dL_law_1294 ?_
  refine i_add dL_law_1295 ?_
  refine r_sld hXs hb (i + 1) (by omega) (by omega) (by omega) dL_law_1296 ?_
  refine p_callV (As := [.int (iI (zs (i + 1)))]) (b := m) (rest := []) (w := (some (.int (iI (b2 w))))) (st' := [.int (iI (b2 w))]) kv_L_law_252 dL_law_1297 rfl rfl (Nat.le_of_ble_eq_true rfl) (Nat.le_of_ble_eq_true rfl) (mb_rv hM2) rfl rfl (cm h2 c hM2) rfl (fun h3 e3 => ?_)
  obtain ⟨hM3, hF3⟩ := e3
  have fo3 := (hF3.2 o hDJ.2.2.1.2.1).trans fo2
  have mo3 : o ∈ h3.1 := by rw [hF3.1]; exact mo2
  refine r_istore (ls' := [(0, .ref b), (1, .ref x), (2, .ref m), (3, .ref o), (4, .ref d), (5, .int (iI ((i : Int)))), (6, .int (iI k)), (7, .int (iI (b2 w)))]) dL_law_1300 (by decide) rfl ?_
  refine r_aload_n dL_law_1302 2 rfl ?_
  refine p_callV (As := []) (b := m) (rest := []) (w := (some (.int (iI k)))) (st' := [.int (iI k)]) kv_L_law_166 dL_law_1303 rfl rfl (Nat.le_of_ble_eq_true rfl) (Nat.le_of_ble_eq_true rfl) (mb_rv hM3) rfl rfl (b_X12_thrown hM3) rfl (fun h9 e9 => ?_)
  rw [show h9 = h3 from e9]
  refine r_iload dL_law_1306 6 rfl ?_
  refine i_icmpeq dL_law_1308 (tgt := 1313) (by decide) (in32_k hk) (in32_k hk) (fun _ => ?_) (fun c => absurd rfl c)
  refine r_iload dL_law_1313 6 rfl ?_
  refine i_ifne dL_law_1315 (tgt := 1337) (by decide) (in32_k hk) (fun c1315 => ?_) (fun c1315 => ?_)
  · refine r_goto dL_law_1337 (tgt := 3134) (by decide) ?_
    refine rr_room (rr_sub (kk _ _ _ (LW.mk hDJ hD hX2 ⟨mo2, g2, fo2⟩ hF2 hM3 hF3 hI1)) (lsL_t rfl)) ?_ ?_
    · show kc ≤ kc + 3 - 1; omega
    · show ks ≤ ks + 18 - 6; omega
  · refine r_aload_n dL_law_1318 3 rfl ?_
    refine i_const (0) dL_law_1319 ?_
    refine i_lald0 dL_law_1320 mo3 fo3 (hg2 c1315) ?_
    refine r_iload dL_law_1321 7 rfl ?_
    refine i_ifeqb dL_law_1323 (tgt := 1330) (by decide) (fun cb => ?_) (fun cb => ?_)
    · subst cb
      refine r_lconst dL_law_1330 ?_
      refine i_lcmpe dL_law_1331 ?_
      refine i_ifeq dL_law_1332 (tgt := 1337) (by decide) ⟨by decide, by decide⟩ (fun _ => ?_) (fun c => absurd c (by decide))
      refine r_goto dL_law_1337 (tgt := 3134) (by decide) ?_
      refine rr_room (rr_sub (kk _ _ _ (LW.mk hDJ hD hX2 ⟨mo2, g2, fo2⟩ hF2 hM3 hF3 hI1)) (lsL_t rfl)) ?_ ?_
      · show kc ≤ kc + 3 - 1; omega
      · show ks ≤ ks + 18 - 6; omega
    · subst cb
      refine r_lconst dL_law_1326 ?_
      refine r_goto dL_law_1327 (tgt := 1331) (by decide) ?_
      refine i_lcmpe dL_law_1331 ?_
      refine i_ifeq dL_law_1332 (tgt := 1337) (by decide) ⟨by decide, by decide⟩ (fun _ => ?_) (fun c => absurd c (by decide))
      refine r_goto dL_law_1337 (tgt := 3134) (by decide) ?_
      refine rr_room (rr_sub (kk _ _ _ (LW.mk hDJ hD hX2 ⟨mo2, g2, fo2⟩ hF2 hM3 hF3 hI1)) (lsL_t rfl)) ?_ ?_
      · show kc ≤ kc + 3 - 1; omega
      · show ks ≤ ks + 18 - 6; omega
set_option maxRecDepth 20000 in
set_option maxHeartbeats 1000000 in
theorem lc_26 {G : xG} {K : xK} {sa : Nat → Nat} (hGC : GC G K sa) (hGT : GT G sa) (hGE : GE G) (hCA : GCA G) {b L : Nat} {zs : Nat → Int} (hXs : x_zz G (fun _ U H => va_X b L (fun j => iI (zs j)) U H)) (hb : b < G.2.2.2) (hL : L ≤ 3072) (hz : ∀ j, in32 (zs j)) {x m o d : Nat} {ad : XA} {a : MA} (hDJ : DJW x ad m a o d) {i : Nat} (hi : i + 6 ≤ L) {h : xH} {S : XS} {c : Int} (hW : LW G K sa x m o d ad a S c h) {kc ks : Nat} {Q : xR → xH → Prop} (kk : ∀ (h9 : xH) (S9 : XS) (c9 : Int), LW G K sa x m o d ad a S9 c9 h9 → RR G ML_law 3134 (lsL b x m o d i) [] h9 kc ks Q) : RR G ML_law 1340 (lsL b x m o d i) [] h (kc + 3) (ks + 18) Q := by
  obtain ⟨hX, hM, hI, hO, hD⟩ := hW
  obtain ⟨S1, k, V, mv, hI1, hk, hr, cl, cm⟩ := s_isCooling hGC hGT hGE hCA (m := m) (a := a) hX hI hO hDJ.2.2.1.1 (hz (i + 1))
  obtain ⟨w, rfl, rfl⟩ := hr
  show RR G ML_law 1340 [(0, .ref b), (1, .ref x), (2, .ref m), (3, .ref o), (4, .ref d), (5, .int (iI ((i : Int))))] [] h (kc + 3) (ks + 18) Q
  refine r_aload_n dL_law_1340 1 rfl ?_
  refine r_aload_n dL_law_1341 0 rfl ?_
  refine r_iload dL_law_1342 5 rfl ?_
  refine i_const (1) dL_law_1344 ?_
  refine i_add dL_law_1345 ?_
  refine r_sld hXs hb (i + 1) (by omega) (by omega) (by omega) dL_law_1346 ?_
  refine r_aload_n dL_law_1347 3 rfl ?_
  refine k_callSW (As := [.ref x, .int (iI (zs (i + 1))), .ref o]) (rest := []) (w := some (.int (iI k))) (st' := [.int (iI k)]) kw_L_isCooling dL_law_1348 rfl rfl (Nat.le_of_ble_eq_true rfl) (Nat.le_of_ble_eq_true rfl) (by show 1 ≤ kc + 3; omega) (by show 6 ≤ ks + 18; omega) cl rfl (fun h2 e2 => ?_)
  obtain ⟨hX2, ⟨mo2, g2, fo2, hg2⟩, hF2⟩ := e2
  have hM2 := hM.fr hF2 hDJ.mo hDJ.wo
  refine r_istore (ls' := [(0, .ref b), (1, .ref x), (2, .ref m), (3, .ref o), (4, .ref d), (5, .int (iI ((i : Int)))), (6, .int (iI k))]) dL_law_1351 (by decide) rfl ?_
  refine r_aload_n dL_law_1353 2 rfl ?_
  refine r_aload_n dL_law_1354 0 rfl ?_
  refine r_iload dL_law_1355 5 rfl ?_
  refine i_const (1) dL_law_1357 ?_
  refine i_add dL_law_1358 ?_
  refine r_sld hXs hb (i + 1) (by omega) (by omega) (by omega) dL_law_1359 ?_
  refine p_callV (As := [.int (iI (zs (i + 1)))]) (b := m) (rest := []) (w := (some (.int (iI (b2 w))))) (st' := [.int (iI (b2 w))]) kv_L_law_255 dL_law_1360 rfl rfl (Nat.le_of_ble_eq_true rfl) (Nat.le_of_ble_eq_true rfl) (mb_rv hM2) rfl rfl (cm h2 c hM2) rfl (fun h3 e3 => ?_)
  obtain ⟨hM3, hF3⟩ := e3
  have fo3 := (hF3.2 o hDJ.2.2.1.2.1).trans fo2
  have mo3 : o ∈ h3.1 := by rw [hF3.1]; exact mo2
  refine r_istore (ls' := [(0, .ref b), (1, .ref x), (2, .ref m), (3, .ref o), (4, .ref d), (5, .int (iI ((i : Int)))), (6, .int (iI k)), (7, .int (iI (b2 w)))]) dL_law_1363 (by decide) rfl ?_
  refine r_aload_n dL_law_1365 2 rfl ?_
  refine p_callV (As := []) (b := m) (rest := []) (w := (some (.int (iI k)))) (st' := [.int (iI k)]) kv_L_law_166 dL_law_1366 rfl rfl (Nat.le_of_ble_eq_true rfl) (Nat.le_of_ble_eq_true rfl) (mb_rv hM3) rfl rfl (b_X12_thrown hM3) rfl (fun h9 e9 => ?_)
  rw [show h9 = h3 from e9]
  refine r_iload dL_law_1369 6 rfl ?_
  refine i_icmpeq dL_law_1371 (tgt := 1376) (by decide) (in32_k hk) (in32_k hk) (fun _ => ?_) (fun c => absurd rfl c)
  refine r_iload dL_law_1376 6 rfl ?_
  refine i_ifne dL_law_1378 (tgt := 1400) (by decide) (in32_k hk) (fun c1378 => ?_) (fun c1378 => ?_)
  · refine r_goto dL_law_1400 (tgt := 3134) (by decide) ?_
    refine rr_room (rr_sub (kk _ _ _ (LW.mk hDJ hD hX2 ⟨mo2, g2, fo2⟩ hF2 hM3 hF3 hI1)) (lsL_t rfl)) ?_ ?_
    · show kc ≤ kc + 3 - 1; omega
    · show ks ≤ ks + 18 - 6; omega
  · refine r_aload_n dL_law_1381 3 rfl ?_
    refine i_const (0) dL_law_1382 ?_
    refine i_lald0 dL_law_1383 mo3 fo3 (hg2 c1378) ?_
    refine r_iload dL_law_1384 7 rfl ?_
    refine i_ifeqb dL_law_1386 (tgt := 1393) (by decide) (fun cb => ?_) (fun cb => ?_)
    · subst cb
      refine r_lconst dL_law_1393 ?_
      refine i_lcmpe dL_law_1394 ?_
      refine i_ifeq dL_law_1395 (tgt := 1400) (by decide) ⟨by decide, by decide⟩ (fun _ => ?_) (fun c => absurd c (by decide))
      refine r_goto dL_law_1400 (tgt := 3134) (by decide) ?_
      refine rr_room (rr_sub (kk _ _ _ (LW.mk hDJ hD hX2 ⟨mo2, g2, fo2⟩ hF2 hM3 hF3 hI1)) (lsL_t rfl)) ?_ ?_
      · show kc ≤ kc + 3 - 1; omega
      · show ks ≤ ks + 18 - 6; omega
    · subst cb
      refine r_lconst dL_law_1389 ?_
      refine r_goto dL_law_1390 (tgt := 1394) (by decide) ?_
      refine i_lcmpe dL_law_1394 ?_
      refine i_ifeq dL_law_1395 (tgt := 1400) (by decide) ⟨by decide, by decide⟩ (fun _ => ?_) (fun c => absurd c (by decide))
      refine r_goto dL_law_1400 (tgt := 3134) (by decide) ?_
      refine rr_room (rr_sub (kk _ _ _ (LW.mk hDJ hD hX2 ⟨mo2, g2, fo2⟩ hF2 hM3 hF3 hI1)) (lsL_t rfl)) ?_ ?_
      · show kc ≤ kc + 3 - 1; omega
      · show ks ≤ ks + 18 - 6; omega
set_option maxRecDepth 20000 in
set_option maxHeartbeats 1000000 in
theorem lc_27 {G : xG} {K : xK} {sa : Nat → Nat} (hGC : GC G K sa) (hGT : GT G sa) (hGE : GE G) (hCA : GCA G) {b L : Nat} {zs : Nat → Int} (hXs : x_zz G (fun _ U H => va_X b L (fun j => iI (zs j)) U H)) (hb : b < G.2.2.2) (hL : L ≤ 3072) (hz : ∀ j, in32 (zs j)) {x m o d : Nat} {ad : XA} {a : MA} (hDJ : DJW x ad m a o d) {i : Nat} (hi : i + 6 ≤ L) {h : xH} {S : XS} {c : Int} (hW : LW G K sa x m o d ad a S c h) {kc ks : Nat} {Q : xR → xH → Prop} (kk : ∀ (h9 : xH) (S9 : XS) (c9 : Int), LW G K sa x m o d ad a S9 c9 h9 → RR G ML_law 3134 (lsL b x m o d i) [] h9 kc ks Q) : RR G ML_law 1403 (lsL b x m o d i) [] h (kc + 3) (ks + 18) Q := by
  obtain ⟨hX, hM, hI, hO, hD⟩ := hW
  obtain ⟨S1, k, V, mv, hI1, hk, hr, cl, cm⟩ := s_foldCount hGC hGT hGE hCA (m := m) (a := a) hX hI hO hDJ.2.2.1.1 (hz (i + 1))
  obtain ⟨w, rfl, rfl⟩ := hr
  show RR G ML_law 1403 [(0, .ref b), (1, .ref x), (2, .ref m), (3, .ref o), (4, .ref d), (5, .int (iI ((i : Int))))] [] h (kc + 3) (ks + 18) Q
  refine r_aload_n dL_law_1403 1 rfl ?_
  refine r_aload_n dL_law_1404 0 rfl ?_
  refine r_iload dL_law_1405 5 rfl ?_
  refine i_const (1) dL_law_1407 ?_
  refine i_add dL_law_1408 ?_
  refine r_sld hXs hb (i + 1) (by omega) (by omega) (by omega) dL_law_1409 ?_
  refine r_aload_n dL_law_1410 3 rfl ?_
  refine k_callSW (As := [.ref x, .int (iI (zs (i + 1))), .ref o]) (rest := []) (w := some (.int (iI k))) (st' := [.int (iI k)]) kw_L_foldCount dL_law_1411 rfl rfl (Nat.le_of_ble_eq_true rfl) (Nat.le_of_ble_eq_true rfl) (by show 1 ≤ kc + 3; omega) (by show 6 ≤ ks + 18; omega) cl rfl (fun h2 e2 => ?_)
  obtain ⟨hX2, ⟨mo2, g2, fo2, hg2⟩, hF2⟩ := e2
  have hM2 := hM.fr hF2 hDJ.mo hDJ.wo
  refine r_istore (ls' := [(0, .ref b), (1, .ref x), (2, .ref m), (3, .ref o), (4, .ref d), (5, .int (iI ((i : Int)))), (6, .int (iI k))]) dL_law_1414 (by decide) rfl ?_
  refine r_aload_n dL_law_1416 2 rfl ?_
  refine r_aload_n dL_law_1417 0 rfl ?_
  refine r_iload dL_law_1418 5 rfl ?_
  refine i_const (1) dL_law_1420 ?_
  refine i_add dL_law_1421 ?_
  refine r_sld hXs hb (i + 1) (by omega) (by omega) (by omega) dL_law_1422 ?_
  refine p_callV (As := [.int (iI (zs (i + 1)))]) (b := m) (rest := []) (w := (some (.int w))) (st' := [.int w]) kv_L_law_258 dL_law_1423 rfl rfl (Nat.le_of_ble_eq_true rfl) (Nat.le_of_ble_eq_true rfl) (mb_rv hM2) rfl rfl (cm h2 c hM2) rfl (fun h3 e3 => ?_)
  obtain ⟨hM3, hF3⟩ := e3
  have fo3 := (hF3.2 o hDJ.2.2.1.2.1).trans fo2
  have mo3 : o ∈ h3.1 := by rw [hF3.1]; exact mo2
  refine r_istore (ls' := [(0, .ref b), (1, .ref x), (2, .ref m), (3, .ref o), (4, .ref d), (5, .int (iI ((i : Int)))), (6, .int (iI k)), (7, .int w)]) dL_law_1426 (by decide) rfl ?_
  refine r_aload_n dL_law_1428 2 rfl ?_
  refine p_callV (As := []) (b := m) (rest := []) (w := (some (.int (iI k)))) (st' := [.int (iI k)]) kv_L_law_166 dL_law_1429 rfl rfl (Nat.le_of_ble_eq_true rfl) (Nat.le_of_ble_eq_true rfl) (mb_rv hM3) rfl rfl (b_X12_thrown hM3) rfl (fun h9 e9 => ?_)
  rw [show h9 = h3 from e9]
  refine r_iload dL_law_1432 6 rfl ?_
  refine i_icmpeq dL_law_1434 (tgt := 1439) (by decide) (in32_k hk) (in32_k hk) (fun _ => ?_) (fun c => absurd rfl c)
  refine r_iload dL_law_1439 6 rfl ?_
  refine i_ifne dL_law_1441 (tgt := 1456) (by decide) (in32_k hk) (fun c1441 => ?_) (fun c1441 => ?_)
  · refine r_goto dL_law_1456 (tgt := 3134) (by decide) ?_
    refine rr_room (rr_sub (kk _ _ _ (LW.mk hDJ hD hX2 ⟨mo2, g2, fo2⟩ hF2 hM3 hF3 hI1)) (lsL_t rfl)) ?_ ?_
    · show kc ≤ kc + 3 - 1; omega
    · show ks ≤ ks + 18 - 6; omega
  · refine r_aload_n dL_law_1444 3 rfl ?_
    refine i_const (0) dL_law_1445 ?_
    refine i_lald0 dL_law_1446 mo3 fo3 (hg2 c1441) ?_
    refine r_iload dL_law_1447 7 rfl ?_
    refine r_i2l dL_law_1449 ?_
    refine i_lcmpe dL_law_1450 ?_
    refine i_ifeq dL_law_1451 (tgt := 1456) (by decide) ⟨by decide, by decide⟩ (fun _ => ?_) (fun c => absurd c (by decide))
    refine r_goto dL_law_1456 (tgt := 3134) (by decide) ?_
    refine rr_room (rr_sub (kk _ _ _ (LW.mk hDJ hD hX2 ⟨mo2, g2, fo2⟩ hF2 hM3 hF3 hI1)) (lsL_t rfl)) ?_ ?_
    · show kc ≤ kc + 3 - 1; omega
    · show ks ≤ ks + 18 - 6; omega
set_option maxRecDepth 20000 in
set_option maxHeartbeats 1000000 in
theorem lc_28 {G : xG} {K : xK} {sa : Nat → Nat} (hGC : GC G K sa) (hGT : GT G sa) (hGE : GE G) (hCA : GCA G) {b L : Nat} {zs : Nat → Int} (hXs : x_zz G (fun _ U H => va_X b L (fun j => iI (zs j)) U H)) (hb : b < G.2.2.2) (hL : L ≤ 3072) (hz : ∀ j, in32 (zs j)) {x m o d : Nat} {ad : XA} {a : MA} (hDJ : DJW x ad m a o d) {i : Nat} (hi : i + 6 ≤ L) {h : xH} {S : XS} {c : Int} (hW : LW G K sa x m o d ad a S c h) {kc ks : Nat} {Q : xR → xH → Prop} (kk : ∀ (h9 : xH) (S9 : XS) (c9 : Int), LW G K sa x m o d ad a S9 c9 h9 → RR G ML_law 3134 (lsL b x m o d i) [] h9 kc ks Q) : RR G ML_law 1459 (lsL b x m o d i) [] h (kc + 3) (ks + 18) Q := by
  obtain ⟨hX, hM, hI, hO, hD⟩ := hW
  obtain ⟨S1, k, V, mv, hI1, hk, hr, cl, cm⟩ := s_expectedLayers hGC hGT hGE hCA (m := m) (a := a) hX hI hO hDJ.2.2.1.1 (hz (i + 1))
  obtain ⟨w, rfl, rfl⟩ := hr
  show RR G ML_law 1459 [(0, .ref b), (1, .ref x), (2, .ref m), (3, .ref o), (4, .ref d), (5, .int (iI ((i : Int))))] [] h (kc + 3) (ks + 18) Q
  refine r_aload_n dL_law_1459 1 rfl ?_
  refine r_aload_n dL_law_1460 0 rfl ?_
  refine r_iload dL_law_1461 5 rfl ?_
  refine i_const (1) dL_law_1463 ?_
  refine i_add dL_law_1464 ?_
  refine r_sld hXs hb (i + 1) (by omega) (by omega) (by omega) dL_law_1465 ?_
  refine r_aload_n dL_law_1466 3 rfl ?_
  refine k_callSW (As := [.ref x, .int (iI (zs (i + 1))), .ref o]) (rest := []) (w := some (.int (iI k))) (st' := [.int (iI k)]) kw_L_expectedLayers dL_law_1467 rfl rfl (Nat.le_of_ble_eq_true rfl) (Nat.le_of_ble_eq_true rfl) (by show 1 ≤ kc + 3; omega) (by show 6 ≤ ks + 18; omega) cl rfl (fun h2 e2 => ?_)
  obtain ⟨hX2, ⟨mo2, g2, fo2, hg2⟩, hF2⟩ := e2
  have hM2 := hM.fr hF2 hDJ.mo hDJ.wo
  refine r_istore (ls' := [(0, .ref b), (1, .ref x), (2, .ref m), (3, .ref o), (4, .ref d), (5, .int (iI ((i : Int)))), (6, .int (iI k))]) dL_law_1470 (by decide) rfl ?_
  refine r_aload_n dL_law_1472 2 rfl ?_
  refine r_aload_n dL_law_1473 0 rfl ?_
  refine r_iload dL_law_1474 5 rfl ?_
  refine i_const (1) dL_law_1476 ?_
  refine i_add dL_law_1477 ?_
  refine r_sld hXs hb (i + 1) (by omega) (by omega) (by omega) dL_law_1478 ?_
  refine p_callV (As := [.int (iI (zs (i + 1)))]) (b := m) (rest := []) (w := (some (.int w))) (st' := [.int w]) kv_L_law_261 dL_law_1479 rfl rfl (Nat.le_of_ble_eq_true rfl) (Nat.le_of_ble_eq_true rfl) (mb_rv hM2) rfl rfl (cm h2 c hM2) rfl (fun h3 e3 => ?_)
  obtain ⟨hM3, hF3⟩ := e3
  have fo3 := (hF3.2 o hDJ.2.2.1.2.1).trans fo2
  have mo3 : o ∈ h3.1 := by rw [hF3.1]; exact mo2
  refine r_istore (ls' := [(0, .ref b), (1, .ref x), (2, .ref m), (3, .ref o), (4, .ref d), (5, .int (iI ((i : Int)))), (6, .int (iI k)), (7, .int w)]) dL_law_1482 (by decide) rfl ?_
  refine r_aload_n dL_law_1484 2 rfl ?_
  refine p_callV (As := []) (b := m) (rest := []) (w := (some (.int (iI k)))) (st' := [.int (iI k)]) kv_L_law_166 dL_law_1485 rfl rfl (Nat.le_of_ble_eq_true rfl) (Nat.le_of_ble_eq_true rfl) (mb_rv hM3) rfl rfl (b_X12_thrown hM3) rfl (fun h9 e9 => ?_)
  rw [show h9 = h3 from e9]
  refine r_iload dL_law_1488 6 rfl ?_
  refine i_icmpeq dL_law_1490 (tgt := 1495) (by decide) (in32_k hk) (in32_k hk) (fun _ => ?_) (fun c => absurd rfl c)
  refine r_iload dL_law_1495 6 rfl ?_
  refine i_ifne dL_law_1497 (tgt := 1512) (by decide) (in32_k hk) (fun c1497 => ?_) (fun c1497 => ?_)
  · refine r_goto dL_law_1512 (tgt := 3134) (by decide) ?_
    refine rr_room (rr_sub (kk _ _ _ (LW.mk hDJ hD hX2 ⟨mo2, g2, fo2⟩ hF2 hM3 hF3 hI1)) (lsL_t rfl)) ?_ ?_
    · show kc ≤ kc + 3 - 1; omega
    · show ks ≤ ks + 18 - 6; omega
  · refine r_aload_n dL_law_1500 3 rfl ?_
    refine i_const (0) dL_law_1501 ?_
    refine i_lald0 dL_law_1502 mo3 fo3 (hg2 c1497) ?_
    refine r_iload dL_law_1503 7 rfl ?_
    refine r_i2l dL_law_1505 ?_
    refine i_lcmpe dL_law_1506 ?_
    refine i_ifeq dL_law_1507 (tgt := 1512) (by decide) ⟨by decide, by decide⟩ (fun _ => ?_) (fun c => absurd c (by decide))
    refine r_goto dL_law_1512 (tgt := 3134) (by decide) ?_
    refine rr_room (rr_sub (kk _ _ _ (LW.mk hDJ hD hX2 ⟨mo2, g2, fo2⟩ hF2 hM3 hF3 hI1)) (lsL_t rfl)) ?_ ?_
    · show kc ≤ kc + 3 - 1; omega
    · show ks ≤ ks + 18 - 6; omega
set_option maxRecDepth 20000 in
set_option maxHeartbeats 1000000 in
theorem lc_29 {G : xG} {K : xK} {sa : Nat → Nat} (hGC : GC G K sa) (hGT : GT G sa) (hGE : GE G) (hCA : GCA G) {b L : Nat} {zs : Nat → Int} (hXs : x_zz G (fun _ U H => va_X b L (fun j => iI (zs j)) U H)) (hb : b < G.2.2.2) (hL : L ≤ 3072) (hz : ∀ j, in32 (zs j)) {x m o d : Nat} {ad : XA} {a : MA} (hDJ : DJW x ad m a o d) {i : Nat} (hi : i + 6 ≤ L) {h : xH} {S : XS} {c : Int} (hW : LW G K sa x m o d ad a S c h) {kc ks : Nat} {Q : xR → xH → Prop} (kk : ∀ (h9 : xH) (S9 : XS) (c9 : Int), LW G K sa x m o d ad a S9 c9 h9 → RR G ML_law 3134 (lsL b x m o d i) [] h9 kc ks Q) : RR G ML_law 1515 (lsL b x m o d i) [] h (kc + 3) (ks + 18) Q := by
  obtain ⟨hX, hM, hI, hO, hD⟩ := hW
  obtain ⟨S1, k, V, mv, hI1, hk, hr, cl, cm⟩ := s_butterShare hGC hGT hGE hCA (m := m) (a := a) hX hI hD hDJ.2.2.2.1.1 (hz (i + 1))
  obtain ⟨hnn, w, rfl, rfl⟩ := hr
  show RR G ML_law 1515 [(0, .ref b), (1, .ref x), (2, .ref m), (3, .ref o), (4, .ref d), (5, .int (iI ((i : Int))))] [] h (kc + 3) (ks + 18) Q
  refine r_aload_n dL_law_1515 1 rfl ?_
  refine r_aload_n dL_law_1516 0 rfl ?_
  refine r_iload dL_law_1517 5 rfl ?_
  refine i_const (1) dL_law_1519 ?_
  refine i_add dL_law_1520 ?_
  refine r_sld hXs hb (i + 1) (by omega) (by omega) (by omega) dL_law_1521 ?_
  refine r_aload dL_law_1522 4 rfl ?_
  refine k_callSW (As := [.ref x, .int (iI (zs (i + 1))), .ref d]) (rest := []) (w := some (.int (iI k))) (st' := [.int (iI k)]) kw_L_butterShare dL_law_1524 rfl rfl (Nat.le_of_ble_eq_true rfl) (Nat.le_of_ble_eq_true rfl) (by show 1 ≤ kc + 3; omega) (by show 6 ≤ ks + 18; omega) cl rfl (fun h2 e2 => ?_)
  obtain ⟨hX2, ⟨mo2, g2, fo2, hg2⟩, hF2⟩ := e2
  have hM2 := hM.fr hF2 hDJ.md hDJ.wd
  refine r_istore (ls' := [(0, .ref b), (1, .ref x), (2, .ref m), (3, .ref o), (4, .ref d), (5, .int (iI ((i : Int)))), (6, .int (iI k))]) dL_law_1527 (by decide) rfl ?_
  refine r_aload_n dL_law_1529 2 rfl ?_
  refine r_aload_n dL_law_1530 0 rfl ?_
  refine r_iload dL_law_1531 5 rfl ?_
  refine i_const (1) dL_law_1533 ?_
  refine i_add dL_law_1534 ?_
  refine r_sld hXs hb (i + 1) (by omega) (by omega) (by omega) dL_law_1535 ?_
  refine p_callV (As := [.int (iI (zs (i + 1)))]) (b := m) (rest := []) (w := (some (.float w))) (st' := [.float w]) kv_L_law_265 dL_law_1536 rfl rfl (Nat.le_of_ble_eq_true rfl) (Nat.le_of_ble_eq_true rfl) (mb_rv hM2) rfl rfl (cm h2 c hM2) rfl (fun h3 e3 => ?_)
  obtain ⟨hM3, hF3⟩ := e3
  have fo3 := (hF3.2 d hDJ.2.2.2.1.2.1).trans fo2
  have mo3 : d ∈ h3.1 := by rw [hF3.1]; exact mo2
  refine r_fstore (ls' := [(0, .ref b), (1, .ref x), (2, .ref m), (3, .ref o), (4, .ref d), (5, .int (iI ((i : Int)))), (6, .int (iI k)), (7, .float w)]) dL_law_1539 (by decide) rfl ?_
  refine r_aload_n dL_law_1541 2 rfl ?_
  refine p_callV (As := []) (b := m) (rest := []) (w := (some (.int (iI k)))) (st' := [.int (iI k)]) kv_L_law_166 dL_law_1542 rfl rfl (Nat.le_of_ble_eq_true rfl) (Nat.le_of_ble_eq_true rfl) (mb_rv hM3) rfl rfl (b_X12_thrown hM3) rfl (fun h9 e9 => ?_)
  rw [show h9 = h3 from e9]
  refine r_iload dL_law_1545 6 rfl ?_
  refine i_icmpeq dL_law_1547 (tgt := 1552) (by decide) (in32_k hk) (in32_k hk) (fun _ => ?_) (fun c => absurd rfl c)
  refine r_iload dL_law_1552 6 rfl ?_
  refine i_ifne dL_law_1554 (tgt := 1590) (by decide) (in32_k hk) (fun c1554 => ?_) (fun c1554 => ?_)
  · refine r_goto dL_law_1590 (tgt := 3134) (by decide) ?_
    refine rr_room (rr_sub (kk _ _ _ (LW.mkD hDJ hO hX2 ⟨mo2, g2, fo2⟩ hF2 hM3 hF3 hI1)) (lsL_t rfl)) ?_ ?_
    · show kc ≤ kc + 3 - 1; omega
    · show ks ≤ ks + 18 - 6; omega
  · refine r_aload dL_law_1557 4 rfl ?_
    refine i_const (0) dL_law_1559 ?_
    refine i_dald0 dL_law_1560 mo3 fo3 (hg2 c1554) ?_
    refine r_fload dL_law_1561 7 rfl ?_
    refine r_f2d dL_law_1563 hnn ?_
    refine i_dcmpe hnn dL_law_1564 ?_
    refine i_ifeq dL_law_1565 (tgt := 1590) (by decide) ⟨by decide, by decide⟩ (fun _ => ?_) (fun c => absurd c (by decide))
    refine r_goto dL_law_1590 (tgt := 3134) (by decide) ?_
    refine rr_room (rr_sub (kk _ _ _ (LW.mkD hDJ hO hX2 ⟨mo2, g2, fo2⟩ hF2 hM3 hF3 hI1)) (lsL_t rfl)) ?_ ?_
    · show kc ≤ kc + 3 - 1; omega
    · show ks ≤ ks + 18 - 6; omega
set_option maxRecDepth 20000 in
set_option maxHeartbeats 1000000 in
theorem lc_30 {G : xG} {K : xK} {sa : Nat → Nat} (hGC : GC G K sa) (hGT : GT G sa) (hGE : GE G) (hCA : GCA G) {b L : Nat} {zs : Nat → Int} (hXs : x_zz G (fun _ U H => va_X b L (fun j => iI (zs j)) U H)) (hb : b < G.2.2.2) (hL : L ≤ 3072) (hz : ∀ j, in32 (zs j)) {x m o d : Nat} {ad : XA} {a : MA} (hDJ : DJW x ad m a o d) {i : Nat} (hi : i + 6 ≤ L) {h : xH} {S : XS} {c : Int} (hW : LW G K sa x m o d ad a S c h) {kc ks : Nat} {Q : xR → xH → Prop} (kk : ∀ (h9 : xH) (S9 : XS) (c9 : Int), LW G K sa x m o d ad a S9 c9 h9 → RR G ML_law 3134 (lsL b x m o d i) [] h9 kc ks Q) : RR G ML_law 1593 (lsL b x m o d i) [] h (kc + 3) (ks + 18) Q := by
  obtain ⟨hX, hM, hI, hO, hD⟩ := hW
  obtain ⟨S1, k, V, mv, hI1, hk, hr, cl, cm⟩ := s_meanThickness hGC hGT hGE hCA (m := m) (a := a) hX hI hD hDJ.2.2.2.1.1 (hz (i + 1))
  obtain ⟨hnn, rfl⟩ := hr
  show RR G ML_law 1593 [(0, .ref b), (1, .ref x), (2, .ref m), (3, .ref o), (4, .ref d), (5, .int (iI ((i : Int))))] [] h (kc + 3) (ks + 18) Q
  refine r_aload_n dL_law_1593 1 rfl ?_
  refine r_aload_n dL_law_1594 0 rfl ?_
  refine r_iload dL_law_1595 5 rfl ?_
  refine i_const (1) dL_law_1597 ?_
  refine i_add dL_law_1598 ?_
  refine r_sld hXs hb (i + 1) (by omega) (by omega) (by omega) dL_law_1599 ?_
  refine r_aload dL_law_1600 4 rfl ?_
  refine k_callSW (As := [.ref x, .int (iI (zs (i + 1))), .ref d]) (rest := []) (w := some (.int (iI k))) (st' := [.int (iI k)]) kw_L_meanThickness dL_law_1602 rfl rfl (Nat.le_of_ble_eq_true rfl) (Nat.le_of_ble_eq_true rfl) (by show 1 ≤ kc + 3; omega) (by show 6 ≤ ks + 18; omega) cl rfl (fun h2 e2 => ?_)
  obtain ⟨hX2, ⟨mo2, g2, fo2, hg2⟩, hF2⟩ := e2
  have hM2 := hM.fr hF2 hDJ.md hDJ.wd
  refine r_istore (ls' := [(0, .ref b), (1, .ref x), (2, .ref m), (3, .ref o), (4, .ref d), (5, .int (iI ((i : Int)))), (6, .int (iI k))]) dL_law_1605 (by decide) rfl ?_
  refine r_aload_n dL_law_1607 2 rfl ?_
  refine r_aload_n dL_law_1608 0 rfl ?_
  refine r_iload dL_law_1609 5 rfl ?_
  refine i_const (1) dL_law_1611 ?_
  refine i_add dL_law_1612 ?_
  refine r_sld hXs hb (i + 1) (by omega) (by omega) (by omega) dL_law_1613 ?_
  refine p_callV (As := [.int (iI (zs (i + 1)))]) (b := m) (rest := []) (w := (some (.double V))) (st' := [.double V]) kv_L_law_268 dL_law_1614 rfl rfl (Nat.le_of_ble_eq_true rfl) (Nat.le_of_ble_eq_true rfl) (mb_rv hM2) rfl rfl (cm h2 c hM2) rfl (fun h3 e3 => ?_)
  obtain ⟨hM3, hF3⟩ := e3
  have fo3 := (hF3.2 d hDJ.2.2.2.1.2.1).trans fo2
  have mo3 : d ∈ h3.1 := by rw [hF3.1]; exact mo2
  refine r_dstore (ls' := [(0, .ref b), (1, .ref x), (2, .ref m), (3, .ref o), (4, .ref d), (5, .int (iI ((i : Int)))), (6, .int (iI k)), (7, .double V)]) dL_law_1617 (by decide) rfl ?_
  refine r_aload_n dL_law_1619 2 rfl ?_
  refine p_callV (As := []) (b := m) (rest := []) (w := (some (.int (iI k)))) (st' := [.int (iI k)]) kv_L_law_166 dL_law_1620 rfl rfl (Nat.le_of_ble_eq_true rfl) (Nat.le_of_ble_eq_true rfl) (mb_rv hM3) rfl rfl (b_X12_thrown hM3) rfl (fun h9 e9 => ?_)
  rw [show h9 = h3 from e9]
  refine r_iload dL_law_1623 6 rfl ?_
  refine i_icmpeq dL_law_1625 (tgt := 1630) (by decide) (in32_k hk) (in32_k hk) (fun _ => ?_) (fun c => absurd rfl c)
  refine r_iload dL_law_1630 6 rfl ?_
  refine i_ifne dL_law_1632 (tgt := 1667) (by decide) (in32_k hk) (fun c1632 => ?_) (fun c1632 => ?_)
  · refine r_goto dL_law_1667 (tgt := 3134) (by decide) ?_
    refine rr_room (rr_sub (kk _ _ _ (LW.mkD hDJ hO hX2 ⟨mo2, g2, fo2⟩ hF2 hM3 hF3 hI1)) (lsL_t rfl)) ?_ ?_
    · show kc ≤ kc + 3 - 1; omega
    · show ks ≤ ks + 18 - 6; omega
  · refine r_aload dL_law_1635 4 rfl ?_
    refine i_const (0) dL_law_1637 ?_
    refine i_dald0 dL_law_1638 mo3 fo3 (hg2 c1632) ?_
    refine r_dload dL_law_1639 7 rfl ?_
    refine i_dcmpe hnn dL_law_1641 ?_
    refine i_ifeq dL_law_1642 (tgt := 1667) (by decide) ⟨by decide, by decide⟩ (fun _ => ?_) (fun c => absurd c (by decide))
    refine r_goto dL_law_1667 (tgt := 3134) (by decide) ?_
    refine rr_room (rr_sub (kk _ _ _ (LW.mkD hDJ hO hX2 ⟨mo2, g2, fo2⟩ hF2 hM3 hF3 hI1)) (lsL_t rfl)) ?_ ?_
    · show kc ≤ kc + 3 - 1; omega
    · show ks ≤ ks + 18 - 6; omega
set_option maxRecDepth 20000 in
set_option maxHeartbeats 1000000 in
theorem lc_31 {G : xG} {K : xK} {sa : Nat → Nat} (hGC : GC G K sa) (hGT : GT G sa) (hGE : GE G) (hCA : GCA G) {b L : Nat} {zs : Nat → Int} (hXs : x_zz G (fun _ U H => va_X b L (fun j => iI (zs j)) U H)) (hb : b < G.2.2.2) (hL : L ≤ 3072) (hz : ∀ j, in32 (zs j)) {x m o d : Nat} {ad : XA} {a : MA} (hDJ : DJW x ad m a o d) {i : Nat} (hi : i + 6 ≤ L) {h : xH} {S : XS} {c : Int} (hW : LW G K sa x m o d ad a S c h) {kc ks : Nat} {Q : xR → xH → Prop} (kk : ∀ (h9 : xH) (S9 : XS) (c9 : Int), LW G K sa x m o d ad a S9 c9 h9 → RR G ML_law 3134 (lsL b x m o d i) [] h9 kc ks Q) : RR G ML_law 1670 (lsL b x m o d i) [] h (kc + 3) (ks + 18) Q := by
  obtain ⟨hX, hM, hI, hO, hD⟩ := hW
  obtain ⟨S1, k, V, mv, hI1, hk, hr, cl, cm⟩ := s_foldObstacle hGC hGT hGE hCA (m := m) (a := a) hX hI hO hDJ.2.2.1.1 (hz (i + 1)) (hz (i + 2))
  obtain ⟨w, rfl, rfl⟩ := hr
  show RR G ML_law 1670 [(0, .ref b), (1, .ref x), (2, .ref m), (3, .ref o), (4, .ref d), (5, .int (iI ((i : Int))))] [] h (kc + 3) (ks + 18) Q
  refine r_aload_n dL_law_1670 1 rfl ?_
  refine r_aload_n dL_law_1671 0 rfl ?_
  refine r_iload dL_law_1672 5 rfl ?_
  refine i_const (1) dL_law_1674 ?_
  refine i_add dL_law_1675 ?_
  refine r_sld hXs hb (i + 1) (by omega) (by omega) (by omega) dL_law_1676 ?_
  refine r_aload_n dL_law_1677 0 rfl ?_
  refine r_iload dL_law_1678 5 rfl ?_
  refine i_const (2) dL_law_1680 ?_
  refine i_add dL_law_1681 ?_
  refine r_sld hXs hb (i + 2) (by omega) (by omega) (by omega) dL_law_1682 ?_
  refine r_aload_n dL_law_1683 3 rfl ?_
  refine k_callSW (As := [.ref x, .int (iI (zs (i + 1))), .int (iI (zs (i + 2))), .ref o]) (rest := []) (w := some (.int (iI k))) (st' := [.int (iI k)]) kw_L_foldObstacle dL_law_1684 rfl rfl (Nat.le_of_ble_eq_true rfl) (Nat.le_of_ble_eq_true rfl) (by show 2 ≤ kc + 3; omega) (by show 12 ≤ ks + 18; omega) cl rfl (fun h2 e2 => ?_)
  obtain ⟨hX2, ⟨mo2, g2, fo2, hg2⟩, hF2⟩ := e2
  have hM2 := hM.fr hF2 hDJ.mo hDJ.wo
  refine r_istore (ls' := [(0, .ref b), (1, .ref x), (2, .ref m), (3, .ref o), (4, .ref d), (5, .int (iI ((i : Int)))), (6, .int (iI k))]) dL_law_1687 (by decide) rfl ?_
  refine r_aload_n dL_law_1689 2 rfl ?_
  refine r_aload_n dL_law_1690 0 rfl ?_
  refine r_iload dL_law_1691 5 rfl ?_
  refine i_const (1) dL_law_1693 ?_
  refine i_add dL_law_1694 ?_
  refine r_sld hXs hb (i + 1) (by omega) (by omega) (by omega) dL_law_1695 ?_
  refine r_aload_n dL_law_1696 0 rfl ?_
  refine r_iload dL_law_1697 5 rfl ?_
  refine i_const (2) dL_law_1699 ?_
  refine i_add dL_law_1700 ?_
  refine r_sld hXs hb (i + 2) (by omega) (by omega) (by omega) dL_law_1701 ?_
  refine p_callV (As := [.int (iI (zs (i + 1))), .int (iI (zs (i + 2)))]) (b := m) (rest := []) (w := (some (.int w))) (st' := [.int w]) kv_L_law_271 dL_law_1702 rfl rfl (Nat.le_of_ble_eq_true rfl) (Nat.le_of_ble_eq_true rfl) (mb_rv hM2) rfl rfl (cm h2 c hM2) rfl (fun h3 e3 => ?_)
  obtain ⟨hM3, hF3⟩ := e3
  have fo3 := (hF3.2 o hDJ.2.2.1.2.1).trans fo2
  have mo3 : o ∈ h3.1 := by rw [hF3.1]; exact mo2
  refine r_istore (ls' := [(0, .ref b), (1, .ref x), (2, .ref m), (3, .ref o), (4, .ref d), (5, .int (iI ((i : Int)))), (6, .int (iI k)), (7, .int w)]) dL_law_1705 (by decide) rfl ?_
  refine r_aload_n dL_law_1707 2 rfl ?_
  refine p_callV (As := []) (b := m) (rest := []) (w := (some (.int (iI k)))) (st' := [.int (iI k)]) kv_L_law_166 dL_law_1708 rfl rfl (Nat.le_of_ble_eq_true rfl) (Nat.le_of_ble_eq_true rfl) (mb_rv hM3) rfl rfl (b_X12_thrown hM3) rfl (fun h9 e9 => ?_)
  rw [show h9 = h3 from e9]
  refine r_iload dL_law_1711 6 rfl ?_
  refine i_icmpeq dL_law_1713 (tgt := 1718) (by decide) (in32_k hk) (in32_k hk) (fun _ => ?_) (fun c => absurd rfl c)
  refine r_iload dL_law_1718 6 rfl ?_
  refine i_ifne dL_law_1720 (tgt := 1735) (by decide) (in32_k hk) (fun c1720 => ?_) (fun c1720 => ?_)
  · refine r_goto dL_law_1735 (tgt := 3134) (by decide) ?_
    refine rr_room (rr_sub (kk _ _ _ (LW.mk hDJ hD hX2 ⟨mo2, g2, fo2⟩ hF2 hM3 hF3 hI1)) (lsL_t rfl)) ?_ ?_
    · show kc ≤ kc + 3 - 2; omega
    · show ks ≤ ks + 18 - 12; omega
  · refine r_aload_n dL_law_1723 3 rfl ?_
    refine i_const (0) dL_law_1724 ?_
    refine i_lald0 dL_law_1725 mo3 fo3 (hg2 c1720) ?_
    refine r_iload dL_law_1726 7 rfl ?_
    refine r_i2l dL_law_1728 ?_
    refine i_lcmpe dL_law_1729 ?_
    refine i_ifeq dL_law_1730 (tgt := 1735) (by decide) ⟨by decide, by decide⟩ (fun _ => ?_) (fun c => absurd c (by decide))
    refine r_goto dL_law_1735 (tgt := 3134) (by decide) ?_
    refine rr_room (rr_sub (kk _ _ _ (LW.mk hDJ hD hX2 ⟨mo2, g2, fo2⟩ hF2 hM3 hF3 hI1)) (lsL_t rfl)) ?_ ?_
    · show kc ≤ kc + 3 - 2; omega
    · show ks ≤ ks + 18 - 12; omega
set_option maxRecDepth 20000 in
set_option maxHeartbeats 1000000 in
theorem lc_32 {G : xG} {K : xK} {sa : Nat → Nat} (hGC : GC G K sa) (hGT : GT G sa) (hGE : GE G) (hCA : GCA G) {b L : Nat} {zs : Nat → Int} (hXs : x_zz G (fun _ U H => va_X b L (fun j => iI (zs j)) U H)) (hb : b < G.2.2.2) (hL : L ≤ 3072) (hz : ∀ j, in32 (zs j)) {x m o d : Nat} {ad : XA} {a : MA} (hDJ : DJW x ad m a o d) {i : Nat} (hi : i + 6 ≤ L) {h : xH} {S : XS} {c : Int} (hW : LW G K sa x m o d ad a S c h) {kc ks : Nat} {Q : xR → xH → Prop} (kk : ∀ (h9 : xH) (S9 : XS) (c9 : Int), LW G K sa x m o d ad a S9 c9 h9 → RR G ML_law 3134 (lsL b x m o d i) [] h9 kc ks Q) : RR G ML_law 1738 (lsL b x m o d i) [] h (kc + 3) (ks + 18) Q := by
  obtain ⟨hX, hM, hI, hO, hD⟩ := hW
  obtain ⟨S1, k, V, mv, hI1, hk, hr, cl, cm⟩ := s_layersAfterFold hGC hGT hGE hCA (m := m) (a := a) hX hI hO hDJ.2.2.1.1 (hz (i + 1)) (hz (i + 2))
  obtain ⟨w, rfl, rfl⟩ := hr
  show RR G ML_law 1738 [(0, .ref b), (1, .ref x), (2, .ref m), (3, .ref o), (4, .ref d), (5, .int (iI ((i : Int))))] [] h (kc + 3) (ks + 18) Q
  refine r_aload_n dL_law_1738 1 rfl ?_
  refine r_aload_n dL_law_1739 0 rfl ?_
  refine r_iload dL_law_1740 5 rfl ?_
  refine i_const (1) dL_law_1742 ?_
  refine i_add dL_law_1743 ?_
  refine r_sld hXs hb (i + 1) (by omega) (by omega) (by omega) dL_law_1744 ?_
  refine r_aload_n dL_law_1745 0 rfl ?_
  refine r_iload dL_law_1746 5 rfl ?_
  refine i_const (2) dL_law_1748 ?_
  refine i_add dL_law_1749 ?_
  refine r_sld hXs hb (i + 2) (by omega) (by omega) (by omega) dL_law_1750 ?_
  refine r_aload_n dL_law_1751 3 rfl ?_
  refine k_callSW (As := [.ref x, .int (iI (zs (i + 1))), .int (iI (zs (i + 2))), .ref o]) (rest := []) (w := some (.int (iI k))) (st' := [.int (iI k)]) kw_L_layersAfterFold dL_law_1752 rfl rfl (Nat.le_of_ble_eq_true rfl) (Nat.le_of_ble_eq_true rfl) (by show 2 ≤ kc + 3; omega) (by show 12 ≤ ks + 18; omega) cl rfl (fun h2 e2 => ?_)
  obtain ⟨hX2, ⟨mo2, g2, fo2, hg2⟩, hF2⟩ := e2
  have hM2 := hM.fr hF2 hDJ.mo hDJ.wo
  refine r_istore (ls' := [(0, .ref b), (1, .ref x), (2, .ref m), (3, .ref o), (4, .ref d), (5, .int (iI ((i : Int)))), (6, .int (iI k))]) dL_law_1755 (by decide) rfl ?_
  refine r_aload_n dL_law_1757 2 rfl ?_
  refine r_aload_n dL_law_1758 0 rfl ?_
  refine r_iload dL_law_1759 5 rfl ?_
  refine i_const (1) dL_law_1761 ?_
  refine i_add dL_law_1762 ?_
  refine r_sld hXs hb (i + 1) (by omega) (by omega) (by omega) dL_law_1763 ?_
  refine r_aload_n dL_law_1764 0 rfl ?_
  refine r_iload dL_law_1765 5 rfl ?_
  refine i_const (2) dL_law_1767 ?_
  refine i_add dL_law_1768 ?_
  refine r_sld hXs hb (i + 2) (by omega) (by omega) (by omega) dL_law_1769 ?_
  refine p_callV (As := [.int (iI (zs (i + 1))), .int (iI (zs (i + 2)))]) (b := m) (rest := []) (w := (some (.int w))) (st' := [.int w]) kv_L_law_274 dL_law_1770 rfl rfl (Nat.le_of_ble_eq_true rfl) (Nat.le_of_ble_eq_true rfl) (mb_rv hM2) rfl rfl (cm h2 c hM2) rfl (fun h3 e3 => ?_)
  obtain ⟨hM3, hF3⟩ := e3
  have fo3 := (hF3.2 o hDJ.2.2.1.2.1).trans fo2
  have mo3 : o ∈ h3.1 := by rw [hF3.1]; exact mo2
  refine r_istore (ls' := [(0, .ref b), (1, .ref x), (2, .ref m), (3, .ref o), (4, .ref d), (5, .int (iI ((i : Int)))), (6, .int (iI k)), (7, .int w)]) dL_law_1773 (by decide) rfl ?_
  refine r_aload_n dL_law_1775 2 rfl ?_
  refine p_callV (As := []) (b := m) (rest := []) (w := (some (.int (iI k)))) (st' := [.int (iI k)]) kv_L_law_166 dL_law_1776 rfl rfl (Nat.le_of_ble_eq_true rfl) (Nat.le_of_ble_eq_true rfl) (mb_rv hM3) rfl rfl (b_X12_thrown hM3) rfl (fun h9 e9 => ?_)
  rw [show h9 = h3 from e9]
  refine r_iload dL_law_1779 6 rfl ?_
  refine i_icmpeq dL_law_1781 (tgt := 1786) (by decide) (in32_k hk) (in32_k hk) (fun _ => ?_) (fun c => absurd rfl c)
  refine r_iload dL_law_1786 6 rfl ?_
  refine i_ifne dL_law_1788 (tgt := 1803) (by decide) (in32_k hk) (fun c1788 => ?_) (fun c1788 => ?_)
  · refine r_goto dL_law_1803 (tgt := 3134) (by decide) ?_
    refine rr_room (rr_sub (kk _ _ _ (LW.mk hDJ hD hX2 ⟨mo2, g2, fo2⟩ hF2 hM3 hF3 hI1)) (lsL_t rfl)) ?_ ?_
    · show kc ≤ kc + 3 - 2; omega
    · show ks ≤ ks + 18 - 12; omega
  · refine r_aload_n dL_law_1791 3 rfl ?_
    refine i_const (0) dL_law_1792 ?_
    refine i_lald0 dL_law_1793 mo3 fo3 (hg2 c1788) ?_
    refine r_iload dL_law_1794 7 rfl ?_
    refine r_i2l dL_law_1796 ?_
    refine i_lcmpe dL_law_1797 ?_
    refine i_ifeq dL_law_1798 (tgt := 1803) (by decide) ⟨by decide, by decide⟩ (fun _ => ?_) (fun c => absurd c (by decide))
    refine r_goto dL_law_1803 (tgt := 3134) (by decide) ?_
    refine rr_room (rr_sub (kk _ _ _ (LW.mk hDJ hD hX2 ⟨mo2, g2, fo2⟩ hF2 hM3 hF3 hI1)) (lsL_t rfl)) ?_ ?_
    · show kc ≤ kc + 3 - 2; omega
    · show ks ≤ ks + 18 - 12; omega
set_option maxRecDepth 20000 in
set_option maxHeartbeats 1000000 in
theorem lc_33 {G : xG} {K : xK} {sa : Nat → Nat} (hGC : GC G K sa) (hGT : GT G sa) (hGE : GE G) (hCA : GCA G) {b L : Nat} {zs : Nat → Int} (hXs : x_zz G (fun _ U H => va_X b L (fun j => iI (zs j)) U H)) (hb : b < G.2.2.2) (hL : L ≤ 3072) (hz : ∀ j, in32 (zs j)) {x m o d : Nat} {ad : XA} {a : MA} (hDJ : DJW x ad m a o d) {i : Nat} (hi : i + 6 ≤ L) {h : xH} {S : XS} {c : Int} (hW : LW G K sa x m o d ad a S c h) {kc ks : Nat} {Q : xR → xH → Prop} (kk : ∀ (h9 : xH) (S9 : XS) (c9 : Int), LW G K sa x m o d ad a S9 c9 h9 → RR G ML_law 3134 (lsL b x m o d i) [] h9 kc ks Q) : RR G ML_law 1806 (lsL b x m o d i) [] h (kc + 3) (ks + 18) Q := by
  obtain ⟨hX, hM, hI, hO, hD⟩ := hW
  obtain ⟨S1, k, V, mv, hI1, hk, hr, cl, cm⟩ := s_foldsPossible hGC hGT hGE hCA (m := m) (a := a) hX hI hO hDJ.2.2.1.1 (hz (i + 1)) (hz (i + 2))
  obtain ⟨w, rfl, rfl⟩ := hr
  show RR G ML_law 1806 [(0, .ref b), (1, .ref x), (2, .ref m), (3, .ref o), (4, .ref d), (5, .int (iI ((i : Int))))] [] h (kc + 3) (ks + 18) Q
  refine r_aload_n dL_law_1806 1 rfl ?_
  refine r_aload_n dL_law_1807 0 rfl ?_
  refine r_iload dL_law_1808 5 rfl ?_
  refine i_const (1) dL_law_1810 ?_
  refine i_add dL_law_1811 ?_
  refine r_sld hXs hb (i + 1) (by omega) (by omega) (by omega) dL_law_1812 ?_
  refine r_aload_n dL_law_1813 0 rfl ?_
  refine r_iload dL_law_1814 5 rfl ?_
  refine i_const (2) dL_law_1816 ?_
  refine i_add dL_law_1817 ?_
  refine r_sld hXs hb (i + 2) (by omega) (by omega) (by omega) dL_law_1818 ?_
  refine r_aload_n dL_law_1819 3 rfl ?_
  refine k_callSW (As := [.ref x, .int (iI (zs (i + 1))), .int (iI (zs (i + 2))), .ref o]) (rest := []) (w := some (.int (iI k))) (st' := [.int (iI k)]) kw_L_foldsPossible dL_law_1820 rfl rfl (Nat.le_of_ble_eq_true rfl) (Nat.le_of_ble_eq_true rfl) (by show 2 ≤ kc + 3; omega) (by show 12 ≤ ks + 18; omega) cl rfl (fun h2 e2 => ?_)
  obtain ⟨hX2, ⟨mo2, g2, fo2, hg2⟩, hF2⟩ := e2
  have hM2 := hM.fr hF2 hDJ.mo hDJ.wo
  refine r_istore (ls' := [(0, .ref b), (1, .ref x), (2, .ref m), (3, .ref o), (4, .ref d), (5, .int (iI ((i : Int)))), (6, .int (iI k))]) dL_law_1823 (by decide) rfl ?_
  refine r_aload_n dL_law_1825 2 rfl ?_
  refine r_aload_n dL_law_1826 0 rfl ?_
  refine r_iload dL_law_1827 5 rfl ?_
  refine i_const (1) dL_law_1829 ?_
  refine i_add dL_law_1830 ?_
  refine r_sld hXs hb (i + 1) (by omega) (by omega) (by omega) dL_law_1831 ?_
  refine r_aload_n dL_law_1832 0 rfl ?_
  refine r_iload dL_law_1833 5 rfl ?_
  refine i_const (2) dL_law_1835 ?_
  refine i_add dL_law_1836 ?_
  refine r_sld hXs hb (i + 2) (by omega) (by omega) (by omega) dL_law_1837 ?_
  refine p_callV (As := [.int (iI (zs (i + 1))), .int (iI (zs (i + 2)))]) (b := m) (rest := []) (w := (some (.int w))) (st' := [.int w]) kv_L_law_277 dL_law_1838 rfl rfl (Nat.le_of_ble_eq_true rfl) (Nat.le_of_ble_eq_true rfl) (mb_rv hM2) rfl rfl (cm h2 c hM2) rfl (fun h3 e3 => ?_)
  obtain ⟨hM3, hF3⟩ := e3
  have fo3 := (hF3.2 o hDJ.2.2.1.2.1).trans fo2
  have mo3 : o ∈ h3.1 := by rw [hF3.1]; exact mo2
  refine r_istore (ls' := [(0, .ref b), (1, .ref x), (2, .ref m), (3, .ref o), (4, .ref d), (5, .int (iI ((i : Int)))), (6, .int (iI k)), (7, .int w)]) dL_law_1841 (by decide) rfl ?_
  refine r_aload_n dL_law_1843 2 rfl ?_
  refine p_callV (As := []) (b := m) (rest := []) (w := (some (.int (iI k)))) (st' := [.int (iI k)]) kv_L_law_166 dL_law_1844 rfl rfl (Nat.le_of_ble_eq_true rfl) (Nat.le_of_ble_eq_true rfl) (mb_rv hM3) rfl rfl (b_X12_thrown hM3) rfl (fun h9 e9 => ?_)
  rw [show h9 = h3 from e9]
  refine r_iload dL_law_1847 6 rfl ?_
  refine i_icmpeq dL_law_1849 (tgt := 1854) (by decide) (in32_k hk) (in32_k hk) (fun _ => ?_) (fun c => absurd rfl c)
  refine r_iload dL_law_1854 6 rfl ?_
  refine i_ifne dL_law_1856 (tgt := 1871) (by decide) (in32_k hk) (fun c1856 => ?_) (fun c1856 => ?_)
  · refine r_goto dL_law_1871 (tgt := 3134) (by decide) ?_
    refine rr_room (rr_sub (kk _ _ _ (LW.mk hDJ hD hX2 ⟨mo2, g2, fo2⟩ hF2 hM3 hF3 hI1)) (lsL_t rfl)) ?_ ?_
    · show kc ≤ kc + 3 - 2; omega
    · show ks ≤ ks + 18 - 12; omega
  · refine r_aload_n dL_law_1859 3 rfl ?_
    refine i_const (0) dL_law_1860 ?_
    refine i_lald0 dL_law_1861 mo3 fo3 (hg2 c1856) ?_
    refine r_iload dL_law_1862 7 rfl ?_
    refine r_i2l dL_law_1864 ?_
    refine i_lcmpe dL_law_1865 ?_
    refine i_ifeq dL_law_1866 (tgt := 1871) (by decide) ⟨by decide, by decide⟩ (fun _ => ?_) (fun c => absurd c (by decide))
    refine r_goto dL_law_1871 (tgt := 3134) (by decide) ?_
    refine rr_room (rr_sub (kk _ _ _ (LW.mk hDJ hD hX2 ⟨mo2, g2, fo2⟩ hF2 hM3 hF3 hI1)) (lsL_t rfl)) ?_ ?_
    · show kc ≤ kc + 3 - 2; omega
    · show ks ≤ ks + 18 - 12; omega
set_option maxRecDepth 20000 in
set_option maxHeartbeats 1000000 in
theorem lc_34 {G : xG} {K : xK} {sa : Nat → Nat} (hGC : GC G K sa) (hGT : GT G sa) (hGE : GE G) (hCA : GCA G) {b L : Nat} {zs : Nat → Int} (hXs : x_zz G (fun _ U H => va_X b L (fun j => iI (zs j)) U H)) (hb : b < G.2.2.2) (hL : L ≤ 3072) (hz : ∀ j, in32 (zs j)) {x m o d : Nat} {ad : XA} {a : MA} (hDJ : DJW x ad m a o d) {i : Nat} (hi : i + 6 ≤ L) {h : xH} {S : XS} {c : Int} (hW : LW G K sa x m o d ad a S c h) {kc ks : Nat} {Q : xR → xH → Prop} (kk : ∀ (h9 : xH) (S9 : XS) (c9 : Int), LW G K sa x m o d ad a S9 c9 h9 → RR G ML_law 3134 (lsL b x m o d i) [] h9 kc ks Q) : RR G ML_law 1874 (lsL b x m o d i) [] h (kc + 3) (ks + 18) Q := by
  obtain ⟨hX, hM, hI, hO, hD⟩ := hW
  obtain ⟨S1, k, V, mv, hI1, hk, hr, cl, cm⟩ := s_butterAtRisk hGC hGT hGE hCA (m := m) (a := a) hX hI hO hDJ.2.2.1.1 (hz (i + 1))
  obtain ⟨w, rfl, rfl⟩ := hr
  show RR G ML_law 1874 [(0, .ref b), (1, .ref x), (2, .ref m), (3, .ref o), (4, .ref d), (5, .int (iI ((i : Int))))] [] h (kc + 3) (ks + 18) Q
  refine r_aload_n dL_law_1874 1 rfl ?_
  refine r_aload_n dL_law_1875 0 rfl ?_
  refine r_iload dL_law_1876 5 rfl ?_
  refine i_const (1) dL_law_1878 ?_
  refine i_add dL_law_1879 ?_
  refine r_sld hXs hb (i + 1) (by omega) (by omega) (by omega) dL_law_1880 ?_
  refine r_aload_n dL_law_1881 3 rfl ?_
  refine k_callSW (As := [.ref x, .int (iI (zs (i + 1))), .ref o]) (rest := []) (w := some (.int (iI k))) (st' := [.int (iI k)]) kw_L_butterAtRisk dL_law_1882 rfl rfl (Nat.le_of_ble_eq_true rfl) (Nat.le_of_ble_eq_true rfl) (by show 1 ≤ kc + 3; omega) (by show 6 ≤ ks + 18; omega) cl rfl (fun h2 e2 => ?_)
  obtain ⟨hX2, ⟨mo2, g2, fo2, hg2⟩, hF2⟩ := e2
  have hM2 := hM.fr hF2 hDJ.mo hDJ.wo
  refine r_istore (ls' := [(0, .ref b), (1, .ref x), (2, .ref m), (3, .ref o), (4, .ref d), (5, .int (iI ((i : Int)))), (6, .int (iI k))]) dL_law_1885 (by decide) rfl ?_
  refine r_aload_n dL_law_1887 2 rfl ?_
  refine r_aload_n dL_law_1888 0 rfl ?_
  refine r_iload dL_law_1889 5 rfl ?_
  refine i_const (1) dL_law_1891 ?_
  refine i_add dL_law_1892 ?_
  refine r_sld hXs hb (i + 1) (by omega) (by omega) (by omega) dL_law_1893 ?_
  refine p_callV (As := [.int (iI (zs (i + 1)))]) (b := m) (rest := []) (w := (some (.int w))) (st' := [.int w]) kv_L_law_280 dL_law_1894 rfl rfl (Nat.le_of_ble_eq_true rfl) (Nat.le_of_ble_eq_true rfl) (mb_rv hM2) rfl rfl (cm h2 c hM2) rfl (fun h3 e3 => ?_)
  obtain ⟨hM3, hF3⟩ := e3
  have fo3 := (hF3.2 o hDJ.2.2.1.2.1).trans fo2
  have mo3 : o ∈ h3.1 := by rw [hF3.1]; exact mo2
  refine r_istore (ls' := [(0, .ref b), (1, .ref x), (2, .ref m), (3, .ref o), (4, .ref d), (5, .int (iI ((i : Int)))), (6, .int (iI k)), (7, .int w)]) dL_law_1897 (by decide) rfl ?_
  refine r_aload_n dL_law_1899 2 rfl ?_
  refine p_callV (As := []) (b := m) (rest := []) (w := (some (.int (iI k)))) (st' := [.int (iI k)]) kv_L_law_166 dL_law_1900 rfl rfl (Nat.le_of_ble_eq_true rfl) (Nat.le_of_ble_eq_true rfl) (mb_rv hM3) rfl rfl (b_X12_thrown hM3) rfl (fun h9 e9 => ?_)
  rw [show h9 = h3 from e9]
  refine r_iload dL_law_1903 6 rfl ?_
  refine i_icmpeq dL_law_1905 (tgt := 1910) (by decide) (in32_k hk) (in32_k hk) (fun _ => ?_) (fun c => absurd rfl c)
  refine r_iload dL_law_1910 6 rfl ?_
  refine i_ifne dL_law_1912 (tgt := 1927) (by decide) (in32_k hk) (fun c1912 => ?_) (fun c1912 => ?_)
  · refine r_goto dL_law_1927 (tgt := 3134) (by decide) ?_
    refine rr_room (rr_sub (kk _ _ _ (LW.mk hDJ hD hX2 ⟨mo2, g2, fo2⟩ hF2 hM3 hF3 hI1)) (lsL_t rfl)) ?_ ?_
    · show kc ≤ kc + 3 - 1; omega
    · show ks ≤ ks + 18 - 6; omega
  · refine r_aload_n dL_law_1915 3 rfl ?_
    refine i_const (0) dL_law_1916 ?_
    refine i_lald0 dL_law_1917 mo3 fo3 (hg2 c1912) ?_
    refine r_iload dL_law_1918 7 rfl ?_
    refine r_i2l dL_law_1920 ?_
    refine i_lcmpe dL_law_1921 ?_
    refine i_ifeq dL_law_1922 (tgt := 1927) (by decide) ⟨by decide, by decide⟩ (fun _ => ?_) (fun c => absurd c (by decide))
    refine r_goto dL_law_1927 (tgt := 3134) (by decide) ?_
    refine rr_room (rr_sub (kk _ _ _ (LW.mk hDJ hD hX2 ⟨mo2, g2, fo2⟩ hF2 hM3 hF3 hI1)) (lsL_t rfl)) ?_ ?_
    · show kc ≤ kc + 3 - 1; omega
    · show ks ≤ ks + 18 - 6; omega
set_option maxRecDepth 20000 in
set_option maxHeartbeats 1000000 in
theorem lc_35 {G : xG} {K : xK} {sa : Nat → Nat} (hGC : GC G K sa) (hGT : GT G sa) (hGE : GE G) (hCA : GCA G) {b L : Nat} {zs : Nat → Int} (hXs : x_zz G (fun _ U H => va_X b L (fun j => iI (zs j)) U H)) (hb : b < G.2.2.2) (hL : L ≤ 3072) (hz : ∀ j, in32 (zs j)) {x m o d : Nat} {ad : XA} {a : MA} (hDJ : DJW x ad m a o d) {i : Nat} (hi : i + 6 ≤ L) {h : xH} {S : XS} {c : Int} (hW : LW G K sa x m o d ad a S c h) {kc ks : Nat} {Q : xR → xH → Prop} (kk : ∀ (h9 : xH) (S9 : XS) (c9 : Int), LW G K sa x m o d ad a S9 c9 h9 → RR G ML_law 3134 (lsL b x m o d i) [] h9 kc ks Q) : RR G ML_law 1930 (lsL b x m o d i) [] h (kc + 3) (ks + 18) Q := by
  obtain ⟨hX, hM, hI, hO, hD⟩ := hW
  obtain ⟨S1, k, V, mv, hI1, hk, hr, cl, cm⟩ := s_layersAtRisk hGC hGT hGE hCA (m := m) (a := a) hX hI hO hDJ.2.2.1.1 (hz (i + 1)) (hz (i + 2))
  obtain ⟨w, rfl, rfl⟩ := hr
  show RR G ML_law 1930 [(0, .ref b), (1, .ref x), (2, .ref m), (3, .ref o), (4, .ref d), (5, .int (iI ((i : Int))))] [] h (kc + 3) (ks + 18) Q
  refine r_aload_n dL_law_1930 1 rfl ?_
  refine r_aload_n dL_law_1931 0 rfl ?_
  refine r_iload dL_law_1932 5 rfl ?_
  refine i_const (1) dL_law_1934 ?_
  refine i_add dL_law_1935 ?_
  refine r_sld hXs hb (i + 1) (by omega) (by omega) (by omega) dL_law_1936 ?_
  refine r_aload_n dL_law_1937 0 rfl ?_
  refine r_iload dL_law_1938 5 rfl ?_
  refine i_const (2) dL_law_1940 ?_
  refine i_add dL_law_1941 ?_
  refine r_sld hXs hb (i + 2) (by omega) (by omega) (by omega) dL_law_1942 ?_
  refine r_aload_n dL_law_1943 3 rfl ?_
  refine k_callSW (As := [.ref x, .int (iI (zs (i + 1))), .int (iI (zs (i + 2))), .ref o]) (rest := []) (w := some (.int (iI k))) (st' := [.int (iI k)]) kw_L_layersAtRisk dL_law_1944 rfl rfl (Nat.le_of_ble_eq_true rfl) (Nat.le_of_ble_eq_true rfl) (by show 2 ≤ kc + 3; omega) (by show 12 ≤ ks + 18; omega) cl rfl (fun h2 e2 => ?_)
  obtain ⟨hX2, ⟨mo2, g2, fo2, hg2⟩, hF2⟩ := e2
  have hM2 := hM.fr hF2 hDJ.mo hDJ.wo
  refine r_istore (ls' := [(0, .ref b), (1, .ref x), (2, .ref m), (3, .ref o), (4, .ref d), (5, .int (iI ((i : Int)))), (6, .int (iI k))]) dL_law_1947 (by decide) rfl ?_
  refine r_aload_n dL_law_1949 2 rfl ?_
  refine r_aload_n dL_law_1950 0 rfl ?_
  refine r_iload dL_law_1951 5 rfl ?_
  refine i_const (1) dL_law_1953 ?_
  refine i_add dL_law_1954 ?_
  refine r_sld hXs hb (i + 1) (by omega) (by omega) (by omega) dL_law_1955 ?_
  refine r_aload_n dL_law_1956 0 rfl ?_
  refine r_iload dL_law_1957 5 rfl ?_
  refine i_const (2) dL_law_1959 ?_
  refine i_add dL_law_1960 ?_
  refine r_sld hXs hb (i + 2) (by omega) (by omega) (by omega) dL_law_1961 ?_
  refine p_callV (As := [.int (iI (zs (i + 1))), .int (iI (zs (i + 2)))]) (b := m) (rest := []) (w := (some (.int w))) (st' := [.int w]) kv_L_law_283 dL_law_1962 rfl rfl (Nat.le_of_ble_eq_true rfl) (Nat.le_of_ble_eq_true rfl) (mb_rv hM2) rfl rfl (cm h2 c hM2) rfl (fun h3 e3 => ?_)
  obtain ⟨hM3, hF3⟩ := e3
  have fo3 := (hF3.2 o hDJ.2.2.1.2.1).trans fo2
  have mo3 : o ∈ h3.1 := by rw [hF3.1]; exact mo2
  refine r_istore (ls' := [(0, .ref b), (1, .ref x), (2, .ref m), (3, .ref o), (4, .ref d), (5, .int (iI ((i : Int)))), (6, .int (iI k)), (7, .int w)]) dL_law_1965 (by decide) rfl ?_
  refine r_aload_n dL_law_1967 2 rfl ?_
  refine p_callV (As := []) (b := m) (rest := []) (w := (some (.int (iI k)))) (st' := [.int (iI k)]) kv_L_law_166 dL_law_1968 rfl rfl (Nat.le_of_ble_eq_true rfl) (Nat.le_of_ble_eq_true rfl) (mb_rv hM3) rfl rfl (b_X12_thrown hM3) rfl (fun h9 e9 => ?_)
  rw [show h9 = h3 from e9]
  refine r_iload dL_law_1971 6 rfl ?_
  refine i_icmpeq dL_law_1973 (tgt := 1978) (by decide) (in32_k hk) (in32_k hk) (fun _ => ?_) (fun c => absurd rfl c)
  refine r_iload dL_law_1978 6 rfl ?_
  refine i_ifne dL_law_1980 (tgt := 1995) (by decide) (in32_k hk) (fun c1980 => ?_) (fun c1980 => ?_)
  · refine r_goto dL_law_1995 (tgt := 3134) (by decide) ?_
    refine rr_room (rr_sub (kk _ _ _ (LW.mk hDJ hD hX2 ⟨mo2, g2, fo2⟩ hF2 hM3 hF3 hI1)) (lsL_t rfl)) ?_ ?_
    · show kc ≤ kc + 3 - 2; omega
    · show ks ≤ ks + 18 - 12; omega
  · refine r_aload_n dL_law_1983 3 rfl ?_
    refine i_const (0) dL_law_1984 ?_
    refine i_lald0 dL_law_1985 mo3 fo3 (hg2 c1980) ?_
    refine r_iload dL_law_1986 7 rfl ?_
    refine r_i2l dL_law_1988 ?_
    refine i_lcmpe dL_law_1989 ?_
    refine i_ifeq dL_law_1990 (tgt := 1995) (by decide) ⟨by decide, by decide⟩ (fun _ => ?_) (fun c => absurd c (by decide))
    refine r_goto dL_law_1995 (tgt := 3134) (by decide) ?_
    refine rr_room (rr_sub (kk _ _ _ (LW.mk hDJ hD hX2 ⟨mo2, g2, fo2⟩ hF2 hM3 hF3 hI1)) (lsL_t rfl)) ?_ ?_
    · show kc ≤ kc + 3 - 2; omega
    · show ks ≤ ks + 18 - 12; omega
set_option maxRecDepth 20000 in
set_option maxHeartbeats 1000000 in
theorem lc_36 {G : xG} {K : xK} {sa : Nat → Nat} (hGC : GC G K sa) (hGT : GT G sa) (hGE : GE G) (hCA : GCA G) {b L : Nat} {zs : Nat → Int} (hXs : x_zz G (fun _ U H => va_X b L (fun j => iI (zs j)) U H)) (hb : b < G.2.2.2) (hL : L ≤ 3072) (hz : ∀ j, in32 (zs j)) {x m o d : Nat} {ad : XA} {a : MA} (hDJ : DJW x ad m a o d) {i : Nat} (hi : i + 6 ≤ L) {h : xH} {S : XS} {c : Int} (hW : LW G K sa x m o d ad a S c h) {kc ks : Nat} {Q : xR → xH → Prop} (kk : ∀ (h9 : xH) (S9 : XS) (c9 : Int), LW G K sa x m o d ad a S9 c9 h9 → RR G ML_law 3134 (lsL b x m o d i) [] h9 kc ks Q) : RR G ML_law 1998 (lsL b x m o d i) [] h (kc + 3) (ks + 18) Q := by
  obtain ⟨hX, hM, hI, hO, hD⟩ := hW
  obtain ⟨S1, k, V, mv, hI1, hk, hr, cl, cm⟩ := s_heightAfterRoll hGC hGT hGE hCA (m := m) (a := a) hX hI hO hDJ.2.2.1.1 (hz (i + 1)) (hz (i + 2))
  obtain ⟨w, rfl, rfl⟩ := hr
  show RR G ML_law 1998 [(0, .ref b), (1, .ref x), (2, .ref m), (3, .ref o), (4, .ref d), (5, .int (iI ((i : Int))))] [] h (kc + 3) (ks + 18) Q
  refine r_aload_n dL_law_1998 1 rfl ?_
  refine r_aload_n dL_law_1999 0 rfl ?_
  refine r_iload dL_law_2000 5 rfl ?_
  refine i_const (1) dL_law_2002 ?_
  refine i_add dL_law_2003 ?_
  refine r_sld hXs hb (i + 1) (by omega) (by omega) (by omega) dL_law_2004 ?_
  refine r_aload_n dL_law_2005 0 rfl ?_
  refine r_iload dL_law_2006 5 rfl ?_
  refine i_const (2) dL_law_2008 ?_
  refine i_add dL_law_2009 ?_
  refine r_sld hXs hb (i + 2) (by omega) (by omega) (by omega) dL_law_2010 ?_
  refine r_aload_n dL_law_2011 3 rfl ?_
  refine k_callSW (As := [.ref x, .int (iI (zs (i + 1))), .int (iI (zs (i + 2))), .ref o]) (rest := []) (w := some (.int (iI k))) (st' := [.int (iI k)]) kw_L_heightAfterRoll dL_law_2012 rfl rfl (Nat.le_of_ble_eq_true rfl) (Nat.le_of_ble_eq_true rfl) (by show 2 ≤ kc + 3; omega) (by show 12 ≤ ks + 18; omega) cl rfl (fun h2 e2 => ?_)
  obtain ⟨hX2, ⟨mo2, g2, fo2, hg2⟩, hF2⟩ := e2
  have hM2 := hM.fr hF2 hDJ.mo hDJ.wo
  refine r_istore (ls' := [(0, .ref b), (1, .ref x), (2, .ref m), (3, .ref o), (4, .ref d), (5, .int (iI ((i : Int)))), (6, .int (iI k))]) dL_law_2015 (by decide) rfl ?_
  refine r_aload_n dL_law_2017 2 rfl ?_
  refine r_aload_n dL_law_2018 0 rfl ?_
  refine r_iload dL_law_2019 5 rfl ?_
  refine i_const (1) dL_law_2021 ?_
  refine i_add dL_law_2022 ?_
  refine r_sld hXs hb (i + 1) (by omega) (by omega) (by omega) dL_law_2023 ?_
  refine r_aload_n dL_law_2024 0 rfl ?_
  refine r_iload dL_law_2025 5 rfl ?_
  refine i_const (2) dL_law_2027 ?_
  refine i_add dL_law_2028 ?_
  refine r_sld hXs hb (i + 2) (by omega) (by omega) (by omega) dL_law_2029 ?_
  refine p_callV (As := [.int (iI (zs (i + 1))), .int (iI (zs (i + 2)))]) (b := m) (rest := []) (w := (some (.int w))) (st' := [.int w]) kv_L_law_286 dL_law_2030 rfl rfl (Nat.le_of_ble_eq_true rfl) (Nat.le_of_ble_eq_true rfl) (mb_rv hM2) rfl rfl (cm h2 c hM2) rfl (fun h3 e3 => ?_)
  obtain ⟨hM3, hF3⟩ := e3
  have fo3 := (hF3.2 o hDJ.2.2.1.2.1).trans fo2
  have mo3 : o ∈ h3.1 := by rw [hF3.1]; exact mo2
  refine r_istore (ls' := [(0, .ref b), (1, .ref x), (2, .ref m), (3, .ref o), (4, .ref d), (5, .int (iI ((i : Int)))), (6, .int (iI k)), (7, .int w)]) dL_law_2033 (by decide) rfl ?_
  refine r_aload_n dL_law_2035 2 rfl ?_
  refine p_callV (As := []) (b := m) (rest := []) (w := (some (.int (iI k)))) (st' := [.int (iI k)]) kv_L_law_166 dL_law_2036 rfl rfl (Nat.le_of_ble_eq_true rfl) (Nat.le_of_ble_eq_true rfl) (mb_rv hM3) rfl rfl (b_X12_thrown hM3) rfl (fun h9 e9 => ?_)
  rw [show h9 = h3 from e9]
  refine r_iload dL_law_2039 6 rfl ?_
  refine i_icmpeq dL_law_2041 (tgt := 2046) (by decide) (in32_k hk) (in32_k hk) (fun _ => ?_) (fun c => absurd rfl c)
  refine r_iload dL_law_2046 6 rfl ?_
  refine i_ifne dL_law_2048 (tgt := 2063) (by decide) (in32_k hk) (fun c2048 => ?_) (fun c2048 => ?_)
  · refine r_goto dL_law_2063 (tgt := 3134) (by decide) ?_
    refine rr_room (rr_sub (kk _ _ _ (LW.mk hDJ hD hX2 ⟨mo2, g2, fo2⟩ hF2 hM3 hF3 hI1)) (lsL_t rfl)) ?_ ?_
    · show kc ≤ kc + 3 - 2; omega
    · show ks ≤ ks + 18 - 12; omega
  · refine r_aload_n dL_law_2051 3 rfl ?_
    refine i_const (0) dL_law_2052 ?_
    refine i_lald0 dL_law_2053 mo3 fo3 (hg2 c2048) ?_
    refine r_iload dL_law_2054 7 rfl ?_
    refine r_i2l dL_law_2056 ?_
    refine i_lcmpe dL_law_2057 ?_
    refine i_ifeq dL_law_2058 (tgt := 2063) (by decide) ⟨by decide, by decide⟩ (fun _ => ?_) (fun c => absurd c (by decide))
    refine r_goto dL_law_2063 (tgt := 3134) (by decide) ?_
    refine rr_room (rr_sub (kk _ _ _ (LW.mk hDJ hD hX2 ⟨mo2, g2, fo2⟩ hF2 hM3 hF3 hI1)) (lsL_t rfl)) ?_ ?_
    · show kc ≤ kc + 3 - 2; omega
    · show ks ≤ ks + 18 - 12; omega
set_option maxRecDepth 20000 in
set_option maxHeartbeats 1000000 in
theorem lc_37 {G : xG} {K : xK} {sa : Nat → Nat} (hGC : GC G K sa) (hGT : GT G sa) (hGE : GE G) (hCA : GCA G) {b L : Nat} {zs : Nat → Int} (hXs : x_zz G (fun _ U H => va_X b L (fun j => iI (zs j)) U H)) (hb : b < G.2.2.2) (hL : L ≤ 3072) (hz : ∀ j, in32 (zs j)) {x m o d : Nat} {ad : XA} {a : MA} (hDJ : DJW x ad m a o d) {i : Nat} (hi : i + 6 ≤ L) {h : xH} {S : XS} {c : Int} (hW : LW G K sa x m o d ad a S c h) {kc ks : Nat} {Q : xR → xH → Prop} (kk : ∀ (h9 : xH) (S9 : XS) (c9 : Int), LW G K sa x m o d ad a S9 c9 h9 → RR G ML_law 3134 (lsL b x m o d i) [] h9 kc ks Q) : RR G ML_law 2066 (lsL b x m o d i) [] h (kc + 3) (ks + 18) Q := by
  obtain ⟨hX, hM, hI, hO, hD⟩ := hW
  obtain ⟨S1, k, V, mv, hI1, hk, hr, cl, cm⟩ := s_temperatureAfter hGC hGT hGE hCA (m := m) (a := a) hX hI hO hDJ.2.2.1.1 (hz (i + 1)) (hz (i + 2))
  obtain ⟨w, rfl, rfl⟩ := hr
  show RR G ML_law 2066 [(0, .ref b), (1, .ref x), (2, .ref m), (3, .ref o), (4, .ref d), (5, .int (iI ((i : Int))))] [] h (kc + 3) (ks + 18) Q
  refine r_aload_n dL_law_2066 1 rfl ?_
  refine r_aload_n dL_law_2067 0 rfl ?_
  refine r_iload dL_law_2068 5 rfl ?_
  refine i_const (1) dL_law_2070 ?_
  refine i_add dL_law_2071 ?_
  refine r_sld hXs hb (i + 1) (by omega) (by omega) (by omega) dL_law_2072 ?_
  refine r_aload_n dL_law_2073 0 rfl ?_
  refine r_iload dL_law_2074 5 rfl ?_
  refine i_const (2) dL_law_2076 ?_
  refine i_add dL_law_2077 ?_
  refine r_sld hXs hb (i + 2) (by omega) (by omega) (by omega) dL_law_2078 ?_
  refine r_aload_n dL_law_2079 3 rfl ?_
  refine k_callSW (As := [.ref x, .int (iI (zs (i + 1))), .int (iI (zs (i + 2))), .ref o]) (rest := []) (w := some (.int (iI k))) (st' := [.int (iI k)]) kw_L_temperatureAfter dL_law_2080 rfl rfl (Nat.le_of_ble_eq_true rfl) (Nat.le_of_ble_eq_true rfl) (by show 2 ≤ kc + 3; omega) (by show 12 ≤ ks + 18; omega) cl rfl (fun h2 e2 => ?_)
  obtain ⟨hX2, ⟨mo2, g2, fo2, hg2⟩, hF2⟩ := e2
  have hM2 := hM.fr hF2 hDJ.mo hDJ.wo
  refine r_istore (ls' := [(0, .ref b), (1, .ref x), (2, .ref m), (3, .ref o), (4, .ref d), (5, .int (iI ((i : Int)))), (6, .int (iI k))]) dL_law_2083 (by decide) rfl ?_
  refine r_aload_n dL_law_2085 2 rfl ?_
  refine r_aload_n dL_law_2086 0 rfl ?_
  refine r_iload dL_law_2087 5 rfl ?_
  refine i_const (1) dL_law_2089 ?_
  refine i_add dL_law_2090 ?_
  refine r_sld hXs hb (i + 1) (by omega) (by omega) (by omega) dL_law_2091 ?_
  refine r_aload_n dL_law_2092 0 rfl ?_
  refine r_iload dL_law_2093 5 rfl ?_
  refine i_const (2) dL_law_2095 ?_
  refine i_add dL_law_2096 ?_
  refine r_sld hXs hb (i + 2) (by omega) (by omega) (by omega) dL_law_2097 ?_
  refine p_callV (As := [.int (iI (zs (i + 1))), .int (iI (zs (i + 2)))]) (b := m) (rest := []) (w := (some (.int w))) (st' := [.int w]) kv_L_law_289 dL_law_2098 rfl rfl (Nat.le_of_ble_eq_true rfl) (Nat.le_of_ble_eq_true rfl) (mb_rv hM2) rfl rfl (cm h2 c hM2) rfl (fun h3 e3 => ?_)
  obtain ⟨hM3, hF3⟩ := e3
  have fo3 := (hF3.2 o hDJ.2.2.1.2.1).trans fo2
  have mo3 : o ∈ h3.1 := by rw [hF3.1]; exact mo2
  refine r_istore (ls' := [(0, .ref b), (1, .ref x), (2, .ref m), (3, .ref o), (4, .ref d), (5, .int (iI ((i : Int)))), (6, .int (iI k)), (7, .int w)]) dL_law_2101 (by decide) rfl ?_
  refine r_aload_n dL_law_2103 2 rfl ?_
  refine p_callV (As := []) (b := m) (rest := []) (w := (some (.int (iI k)))) (st' := [.int (iI k)]) kv_L_law_166 dL_law_2104 rfl rfl (Nat.le_of_ble_eq_true rfl) (Nat.le_of_ble_eq_true rfl) (mb_rv hM3) rfl rfl (b_X12_thrown hM3) rfl (fun h9 e9 => ?_)
  rw [show h9 = h3 from e9]
  refine r_iload dL_law_2107 6 rfl ?_
  refine i_icmpeq dL_law_2109 (tgt := 2114) (by decide) (in32_k hk) (in32_k hk) (fun _ => ?_) (fun c => absurd rfl c)
  refine r_iload dL_law_2114 6 rfl ?_
  refine i_ifne dL_law_2116 (tgt := 2131) (by decide) (in32_k hk) (fun c2116 => ?_) (fun c2116 => ?_)
  · refine r_goto dL_law_2131 (tgt := 3134) (by decide) ?_
    refine rr_room (rr_sub (kk _ _ _ (LW.mk hDJ hD hX2 ⟨mo2, g2, fo2⟩ hF2 hM3 hF3 hI1)) (lsL_t rfl)) ?_ ?_
    · show kc ≤ kc + 3 - 2; omega
    · show ks ≤ ks + 18 - 12; omega
  · refine r_aload_n dL_law_2119 3 rfl ?_
    refine i_const (0) dL_law_2120 ?_
    refine i_lald0 dL_law_2121 mo3 fo3 (hg2 c2116) ?_
    refine r_iload dL_law_2122 7 rfl ?_
    refine r_i2l dL_law_2124 ?_
    refine i_lcmpe dL_law_2125 ?_
    refine i_ifeq dL_law_2126 (tgt := 2131) (by decide) ⟨by decide, by decide⟩ (fun _ => ?_) (fun c => absurd c (by decide))
    refine r_goto dL_law_2131 (tgt := 3134) (by decide) ?_
    refine rr_room (rr_sub (kk _ _ _ (LW.mk hDJ hD hX2 ⟨mo2, g2, fo2⟩ hF2 hM3 hF3 hI1)) (lsL_t rfl)) ?_ ?_
    · show kc ≤ kc + 3 - 2; omega
    · show ks ≤ ks + 18 - 12; omega
