/-! ===== the cases of the law ===== -/
set_option maxRecDepth 20000 in
set_option maxHeartbeats 1000000 in
theorem lc_38 {G : xG} {K : xK} {sa : Nat → Nat} (hGC : GC G K sa) (hGT : GT G sa) (hGE : GE G) (hCA : GCA G) {b L : Nat} {zs : Nat → Int} (hXs : x_zz G (fun _ U H => va_X b L (fun j => iI (zs j)) U H)) (hb : b < G.2.2.2) (hL : L ≤ 3072) (hz : ∀ j, in32 (zs j)) {x m o d : Nat} {ad : XA} {a : MA} (hDJ : DJW x ad m a o d) {i : Nat} (hi : i + 6 ≤ L) {h : xH} {S : XS} {c : Int} (hW : LW G K sa x m o d ad a S c h) {kc ks : Nat} {Q : xR → xH → Prop} (kk : ∀ (h9 : xH) (S9 : XS) (c9 : Int), LW G K sa x m o d ad a S9 c9 h9 → RR G ML_law 3134 (lsL b x m o d i) [] h9 kc ks Q) : RR G ML_law 2134 (lsL b x m o d i) [] h (kc + 3) (ks + 18) Q := by
  obtain ⟨hX, hM, hI, hO, hD⟩ := hW
  obtain ⟨S1, k, V, mv, hI1, hk, hr, cl, cm⟩ := s_hoursToSafety hGC hGT hGE hCA (m := m) (a := a) hX hI hO hDJ.2.2.1.1 (hz (i + 1))
  obtain ⟨w, rfl, rfl⟩ := hr
  show RR G ML_law 2134 [(0, .ref b), (1, .ref x), (2, .ref m), (3, .ref o), (4, .ref d), (5, .int (iI ((i : Int))))] [] h (kc + 3) (ks + 18) Q
  refine r_aload_n dL_law_2134 1 rfl ?_
  refine r_aload_n dL_law_2135 0 rfl ?_
  refine r_iload dL_law_2136 5 rfl ?_
  refine i_const (1) dL_law_2138 ?_
  refine i_add dL_law_2139 ?_
  refine r_sld hXs hb (i + 1) (by omega) (by omega) (by omega) dL_law_2140 ?_
  refine r_aload_n dL_law_2141 3 rfl ?_
  refine k_callSW (As := [.ref x, .int (iI (zs (i + 1))), .ref o]) (rest := []) (w := some (.int (iI k))) (st' := [.int (iI k)]) kw_L_hoursToSafety dL_law_2142 rfl rfl (Nat.le_of_ble_eq_true rfl) (Nat.le_of_ble_eq_true rfl) (by show 1 ≤ kc + 3; omega) (by show 6 ≤ ks + 18; omega) cl rfl (fun h2 e2 => ?_)
  obtain ⟨hX2, ⟨mo2, g2, fo2, hg2⟩, hF2⟩ := e2
  have hM2 := hM.fr hF2 hDJ.mo hDJ.wo
  refine r_istore (ls' := [(0, .ref b), (1, .ref x), (2, .ref m), (3, .ref o), (4, .ref d), (5, .int (iI ((i : Int)))), (6, .int (iI k))]) dL_law_2145 (by decide) rfl ?_
  refine r_aload_n dL_law_2147 2 rfl ?_
  refine r_aload_n dL_law_2148 0 rfl ?_
  refine r_iload dL_law_2149 5 rfl ?_
  refine i_const (1) dL_law_2151 ?_
  refine i_add dL_law_2152 ?_
  refine r_sld hXs hb (i + 1) (by omega) (by omega) (by omega) dL_law_2153 ?_
  refine p_callV (As := [.int (iI (zs (i + 1)))]) (b := m) (rest := []) (w := (some (.int w))) (st' := [.int w]) kv_L_law_292 dL_law_2154 rfl rfl (Nat.le_of_ble_eq_true rfl) (Nat.le_of_ble_eq_true rfl) (mb_rv hM2) rfl rfl (cm h2 c hM2) rfl (fun h3 e3 => ?_)
  obtain ⟨hM3, hF3⟩ := e3
  have fo3 := (hF3.2 o hDJ.2.2.1.2.1).trans fo2
  have mo3 : o ∈ h3.1 := by rw [hF3.1]; exact mo2
  refine r_istore (ls' := [(0, .ref b), (1, .ref x), (2, .ref m), (3, .ref o), (4, .ref d), (5, .int (iI ((i : Int)))), (6, .int (iI k)), (7, .int w)]) dL_law_2157 (by decide) rfl ?_
  refine r_aload_n dL_law_2159 2 rfl ?_
  refine p_callV (As := []) (b := m) (rest := []) (w := (some (.int (iI k)))) (st' := [.int (iI k)]) kv_L_law_166 dL_law_2160 rfl rfl (Nat.le_of_ble_eq_true rfl) (Nat.le_of_ble_eq_true rfl) (mb_rv hM3) rfl rfl (b_X12_thrown hM3) rfl (fun h9 e9 => ?_)
  rw [show h9 = h3 from e9]
  refine r_iload dL_law_2163 6 rfl ?_
  refine i_icmpeq dL_law_2165 (tgt := 2170) (by decide) (in32_k hk) (in32_k hk) (fun _ => ?_) (fun c => absurd rfl c)
  refine r_iload dL_law_2170 6 rfl ?_
  refine i_ifne dL_law_2172 (tgt := 2187) (by decide) (in32_k hk) (fun c2172 => ?_) (fun c2172 => ?_)
  · refine r_goto dL_law_2187 (tgt := 3134) (by decide) ?_
    refine rr_room (rr_sub (kk _ _ _ (LW.mk hDJ hD hX2 ⟨mo2, g2, fo2⟩ hF2 hM3 hF3 hI1)) (lsL_t rfl)) ?_ ?_
    · show kc ≤ kc + 3 - 1; omega
    · show ks ≤ ks + 18 - 6; omega
  · refine r_aload_n dL_law_2175 3 rfl ?_
    refine i_const (0) dL_law_2176 ?_
    refine i_lald0 dL_law_2177 mo3 fo3 (hg2 c2172) ?_
    refine r_iload dL_law_2178 7 rfl ?_
    refine r_i2l dL_law_2180 ?_
    refine i_lcmpe dL_law_2181 ?_
    refine i_ifeq dL_law_2182 (tgt := 2187) (by decide) ⟨by decide, by decide⟩ (fun _ => ?_) (fun c => absurd c (by decide))
    refine r_goto dL_law_2187 (tgt := 3134) (by decide) ?_
    refine rr_room (rr_sub (kk _ _ _ (LW.mk hDJ hD hX2 ⟨mo2, g2, fo2⟩ hF2 hM3 hF3 hI1)) (lsL_t rfl)) ?_ ?_
    · show kc ≤ kc + 3 - 1; omega
    · show ks ≤ ks + 18 - 6; omega
set_option maxRecDepth 20000 in
set_option maxHeartbeats 1000000 in
theorem lc_39 {G : xG} {K : xK} {sa : Nat → Nat} (hGC : GC G K sa) (hGT : GT G sa) (hGE : GE G) (hCA : GCA G) {b L : Nat} {zs : Nat → Int} (hXs : x_zz G (fun _ U H => va_X b L (fun j => iI (zs j)) U H)) (hb : b < G.2.2.2) (hL : L ≤ 3072) (hz : ∀ j, in32 (zs j)) {x m o d : Nat} {ad : XA} {a : MA} (hDJ : DJW x ad m a o d) {i : Nat} (hi : i + 6 ≤ L) {h : xH} {S : XS} {c : Int} (hW : LW G K sa x m o d ad a S c h) {kc ks : Nat} {Q : xR → xH → Prop} (kk : ∀ (h9 : xH) (S9 : XS) (c9 : Int), LW G K sa x m o d ad a S9 c9 h9 → RR G ML_law 3134 (lsL b x m o d i) [] h9 kc ks Q) : RR G ML_law 2190 (lsL b x m o d i) [] h (kc + 3) (ks + 18) Q := by
  obtain ⟨hX, hM, hI, hO, hD⟩ := hW
  obtain ⟨S1, k, V, mv, hI1, hk, hr, cl, cm⟩ := s_fold hGC hGT hGE hCA (m := m) (a := a) hX hI hO hDJ.2.2.1.1 (hz (i + 1)) (hz (i + 2))
  obtain ⟨w, rfl, rfl⟩ := hr
  show RR G ML_law 2190 [(0, .ref b), (1, .ref x), (2, .ref m), (3, .ref o), (4, .ref d), (5, .int (iI ((i : Int))))] [] h (kc + 3) (ks + 18) Q
  refine r_aload_n dL_law_2190 1 rfl ?_
  refine r_aload_n dL_law_2191 0 rfl ?_
  refine r_iload dL_law_2192 5 rfl ?_
  refine i_const (1) dL_law_2194 ?_
  refine i_add dL_law_2195 ?_
  refine r_sld hXs hb (i + 1) (by omega) (by omega) (by omega) dL_law_2196 ?_
  refine r_aload_n dL_law_2197 0 rfl ?_
  refine r_iload dL_law_2198 5 rfl ?_
  refine i_const (2) dL_law_2200 ?_
  refine i_add dL_law_2201 ?_
  refine r_sld hXs hb (i + 2) (by omega) (by omega) (by omega) dL_law_2202 ?_
  refine r_aload_n dL_law_2203 3 rfl ?_
  refine k_callSW (As := [.ref x, .int (iI (zs (i + 1))), .int (iI (zs (i + 2))), .ref o]) (rest := []) (w := some (.int (iI k))) (st' := [.int (iI k)]) kw_L_fold dL_law_2204 rfl rfl (Nat.le_of_ble_eq_true rfl) (Nat.le_of_ble_eq_true rfl) (by show 3 ≤ kc + 3; omega) (by show 18 ≤ ks + 18; omega) cl rfl (fun h2 e2 => ?_)
  obtain ⟨hX2, ⟨mo2, g2, fo2, hg2⟩, hF2⟩ := e2
  have hM2 := hM.fr hF2 hDJ.mo hDJ.wo
  refine r_istore (ls' := [(0, .ref b), (1, .ref x), (2, .ref m), (3, .ref o), (4, .ref d), (5, .int (iI ((i : Int)))), (6, .int (iI k))]) dL_law_2207 (by decide) rfl ?_
  refine r_aload_n dL_law_2209 2 rfl ?_
  refine r_aload_n dL_law_2210 0 rfl ?_
  refine r_iload dL_law_2211 5 rfl ?_
  refine i_const (1) dL_law_2213 ?_
  refine i_add dL_law_2214 ?_
  refine r_sld hXs hb (i + 1) (by omega) (by omega) (by omega) dL_law_2215 ?_
  refine r_aload_n dL_law_2216 0 rfl ?_
  refine r_iload dL_law_2217 5 rfl ?_
  refine i_const (2) dL_law_2219 ?_
  refine i_add dL_law_2220 ?_
  refine r_sld hXs hb (i + 2) (by omega) (by omega) (by omega) dL_law_2221 ?_
  refine p_callV (As := [.int (iI (zs (i + 1))), .int (iI (zs (i + 2)))]) (b := m) (rest := []) (w := (some (.int w))) (st' := [.int w]) kv_L_law_295 dL_law_2222 rfl rfl (Nat.le_of_ble_eq_true rfl) (Nat.le_of_ble_eq_true rfl) (mb_rv hM2) rfl rfl (cm h2 c hM2) rfl (fun h3 e3 => ?_)
  obtain ⟨hM3, hF3⟩ := e3
  have fo3 := (hF3.2 o hDJ.2.2.1.2.1).trans fo2
  have mo3 : o ∈ h3.1 := by rw [hF3.1]; exact mo2
  refine r_istore (ls' := [(0, .ref b), (1, .ref x), (2, .ref m), (3, .ref o), (4, .ref d), (5, .int (iI ((i : Int)))), (6, .int (iI k)), (7, .int w)]) dL_law_2225 (by decide) rfl ?_
  refine r_aload_n dL_law_2227 2 rfl ?_
  refine p_callV (As := []) (b := m) (rest := []) (w := (some (.int (iI k)))) (st' := [.int (iI k)]) kv_L_law_166 dL_law_2228 rfl rfl (Nat.le_of_ble_eq_true rfl) (Nat.le_of_ble_eq_true rfl) (mb_rv hM3) rfl rfl (b_X12_thrown hM3) rfl (fun h9 e9 => ?_)
  rw [show h9 = h3 from e9]
  refine r_iload dL_law_2231 6 rfl ?_
  refine i_icmpeq dL_law_2233 (tgt := 2238) (by decide) (in32_k hk) (in32_k hk) (fun _ => ?_) (fun c => absurd rfl c)
  refine r_iload dL_law_2238 6 rfl ?_
  refine i_ifne dL_law_2240 (tgt := 2255) (by decide) (in32_k hk) (fun c2240 => ?_) (fun c2240 => ?_)
  · refine r_goto dL_law_2255 (tgt := 3134) (by decide) ?_
    refine rr_room (rr_sub (kk _ _ _ (LW.mk hDJ hD hX2 ⟨mo2, g2, fo2⟩ hF2 hM3 hF3 hI1)) (lsL_t rfl)) ?_ ?_
    · show kc ≤ kc + 3 - 3; omega
    · show ks ≤ ks + 18 - 18; omega
  · refine r_aload_n dL_law_2243 3 rfl ?_
    refine i_const (0) dL_law_2244 ?_
    refine i_lald0 dL_law_2245 mo3 fo3 (hg2 c2240) ?_
    refine r_iload dL_law_2246 7 rfl ?_
    refine r_i2l dL_law_2248 ?_
    refine i_lcmpe dL_law_2249 ?_
    refine i_ifeq dL_law_2250 (tgt := 2255) (by decide) ⟨by decide, by decide⟩ (fun _ => ?_) (fun c => absurd c (by decide))
    refine r_goto dL_law_2255 (tgt := 3134) (by decide) ?_
    refine rr_room (rr_sub (kk _ _ _ (LW.mk hDJ hD hX2 ⟨mo2, g2, fo2⟩ hF2 hM3 hF3 hI1)) (lsL_t rfl)) ?_ ?_
    · show kc ≤ kc + 3 - 3; omega
    · show ks ≤ ks + 18 - 18; omega
set_option maxRecDepth 20000 in
set_option maxHeartbeats 1000000 in
theorem lc_40 {G : xG} {K : xK} {sa : Nat → Nat} (hGC : GC G K sa) (hGT : GT G sa) (hGE : GE G) (hCA : GCA G) {b L : Nat} {zs : Nat → Int} (hXs : x_zz G (fun _ U H => va_X b L (fun j => iI (zs j)) U H)) (hb : b < G.2.2.2) (hL : L ≤ 3072) (hz : ∀ j, in32 (zs j)) {x m o d : Nat} {ad : XA} {a : MA} (hDJ : DJW x ad m a o d) {i : Nat} (hi : i + 6 ≤ L) {h : xH} {S : XS} {c : Int} (hW : LW G K sa x m o d ad a S c h) {kc ks : Nat} {Q : xR → xH → Prop} (kk : ∀ (h9 : xH) (S9 : XS) (c9 : Int), LW G K sa x m o d ad a S9 c9 h9 → RR G ML_law 3134 (lsL b x m o d i) [] h9 kc ks Q) : RR G ML_law 2258 (lsL b x m o d i) [] h (kc + 3) (ks + 18) Q := by
  obtain ⟨hX, hM, hI, hO, hD⟩ := hW
  obtain ⟨S1, k, V, mv, hI1, hk, hr, cl, cm⟩ := s_roll hGC hGT hGE hCA (m := m) (a := a) hX hI hO hDJ.2.2.1.1 (hz (i + 1)) (hz (i + 2))
  obtain ⟨w, rfl, rfl⟩ := hr
  show RR G ML_law 2258 [(0, .ref b), (1, .ref x), (2, .ref m), (3, .ref o), (4, .ref d), (5, .int (iI ((i : Int))))] [] h (kc + 3) (ks + 18) Q
  refine r_aload_n dL_law_2258 1 rfl ?_
  refine r_aload_n dL_law_2259 0 rfl ?_
  refine r_iload dL_law_2260 5 rfl ?_
  refine i_const (1) dL_law_2262 ?_
  refine i_add dL_law_2263 ?_
  refine r_sld hXs hb (i + 1) (by omega) (by omega) (by omega) dL_law_2264 ?_
  refine r_aload_n dL_law_2265 0 rfl ?_
  refine r_iload dL_law_2266 5 rfl ?_
  refine i_const (2) dL_law_2268 ?_
  refine i_add dL_law_2269 ?_
  refine r_sld hXs hb (i + 2) (by omega) (by omega) (by omega) dL_law_2270 ?_
  refine r_aload_n dL_law_2271 3 rfl ?_
  refine k_callSW (As := [.ref x, .int (iI (zs (i + 1))), .int (iI (zs (i + 2))), .ref o]) (rest := []) (w := some (.int (iI k))) (st' := [.int (iI k)]) kw_L_roll dL_law_2272 rfl rfl (Nat.le_of_ble_eq_true rfl) (Nat.le_of_ble_eq_true rfl) (by show 3 ≤ kc + 3; omega) (by show 18 ≤ ks + 18; omega) cl rfl (fun h2 e2 => ?_)
  obtain ⟨hX2, ⟨mo2, g2, fo2, hg2⟩, hF2⟩ := e2
  have hM2 := hM.fr hF2 hDJ.mo hDJ.wo
  refine r_istore (ls' := [(0, .ref b), (1, .ref x), (2, .ref m), (3, .ref o), (4, .ref d), (5, .int (iI ((i : Int)))), (6, .int (iI k))]) dL_law_2275 (by decide) rfl ?_
  refine r_aload_n dL_law_2277 2 rfl ?_
  refine r_aload_n dL_law_2278 0 rfl ?_
  refine r_iload dL_law_2279 5 rfl ?_
  refine i_const (1) dL_law_2281 ?_
  refine i_add dL_law_2282 ?_
  refine r_sld hXs hb (i + 1) (by omega) (by omega) (by omega) dL_law_2283 ?_
  refine r_aload_n dL_law_2284 0 rfl ?_
  refine r_iload dL_law_2285 5 rfl ?_
  refine i_const (2) dL_law_2287 ?_
  refine i_add dL_law_2288 ?_
  refine r_sld hXs hb (i + 2) (by omega) (by omega) (by omega) dL_law_2289 ?_
  refine p_callV (As := [.int (iI (zs (i + 1))), .int (iI (zs (i + 2)))]) (b := m) (rest := []) (w := (some (.int w))) (st' := [.int w]) kv_L_law_298 dL_law_2290 rfl rfl (Nat.le_of_ble_eq_true rfl) (Nat.le_of_ble_eq_true rfl) (mb_rv hM2) rfl rfl (cm h2 c hM2) rfl (fun h3 e3 => ?_)
  obtain ⟨hM3, hF3⟩ := e3
  have fo3 := (hF3.2 o hDJ.2.2.1.2.1).trans fo2
  have mo3 : o ∈ h3.1 := by rw [hF3.1]; exact mo2
  refine r_istore (ls' := [(0, .ref b), (1, .ref x), (2, .ref m), (3, .ref o), (4, .ref d), (5, .int (iI ((i : Int)))), (6, .int (iI k)), (7, .int w)]) dL_law_2293 (by decide) rfl ?_
  refine r_aload_n dL_law_2295 2 rfl ?_
  refine p_callV (As := []) (b := m) (rest := []) (w := (some (.int (iI k)))) (st' := [.int (iI k)]) kv_L_law_166 dL_law_2296 rfl rfl (Nat.le_of_ble_eq_true rfl) (Nat.le_of_ble_eq_true rfl) (mb_rv hM3) rfl rfl (b_X12_thrown hM3) rfl (fun h9 e9 => ?_)
  rw [show h9 = h3 from e9]
  refine r_iload dL_law_2299 6 rfl ?_
  refine i_icmpeq dL_law_2301 (tgt := 2306) (by decide) (in32_k hk) (in32_k hk) (fun _ => ?_) (fun c => absurd rfl c)
  refine r_iload dL_law_2306 6 rfl ?_
  refine i_ifne dL_law_2308 (tgt := 2323) (by decide) (in32_k hk) (fun c2308 => ?_) (fun c2308 => ?_)
  · refine r_goto dL_law_2323 (tgt := 3134) (by decide) ?_
    refine rr_room (rr_sub (kk _ _ _ (LW.mk hDJ hD hX2 ⟨mo2, g2, fo2⟩ hF2 hM3 hF3 hI1)) (lsL_t rfl)) ?_ ?_
    · show kc ≤ kc + 3 - 3; omega
    · show ks ≤ ks + 18 - 18; omega
  · refine r_aload_n dL_law_2311 3 rfl ?_
    refine i_const (0) dL_law_2312 ?_
    refine i_lald0 dL_law_2313 mo3 fo3 (hg2 c2308) ?_
    refine r_iload dL_law_2314 7 rfl ?_
    refine r_i2l dL_law_2316 ?_
    refine i_lcmpe dL_law_2317 ?_
    refine i_ifeq dL_law_2318 (tgt := 2323) (by decide) ⟨by decide, by decide⟩ (fun _ => ?_) (fun c => absurd c (by decide))
    refine r_goto dL_law_2323 (tgt := 3134) (by decide) ?_
    refine rr_room (rr_sub (kk _ _ _ (LW.mk hDJ hD hX2 ⟨mo2, g2, fo2⟩ hF2 hM3 hF3 hI1)) (lsL_t rfl)) ?_ ?_
    · show kc ≤ kc + 3 - 3; omega
    · show ks ≤ ks + 18 - 18; omega
set_option maxRecDepth 20000 in
set_option maxHeartbeats 1000000 in
theorem lc_41 {G : xG} {K : xK} {sa : Nat → Nat} (hGC : GC G K sa) (hGT : GT G sa) (hGE : GE G) (hCA : GCA G) {b L : Nat} {zs : Nat → Int} (hXs : x_zz G (fun _ U H => va_X b L (fun j => iI (zs j)) U H)) (hb : b < G.2.2.2) (hL : L ≤ 3072) (hz : ∀ j, in32 (zs j)) {x m o d : Nat} {ad : XA} {a : MA} (hDJ : DJW x ad m a o d) {i : Nat} (hi : i + 6 ≤ L) {h : xH} {S : XS} {c : Int} (hW : LW G K sa x m o d ad a S c h) {kc ks : Nat} {Q : xR → xH → Prop} (kk : ∀ (h9 : xH) (S9 : XS) (c9 : Int), LW G K sa x m o d ad a S9 c9 h9 → RR G ML_law 3134 (lsL b x m o d i) [] h9 kc ks Q) : RR G ML_law 2326 (lsL b x m o d i) [] h (kc + 3) (ks + 18) Q := by
  obtain ⟨hX, hM, hI, hO, hD⟩ := hW
  obtain ⟨S1, k, V, mv, hI1, hk, hr, cl, cm⟩ := s_dust hGC hGT hGE hCA (m := m) (a := a) hX hI hO hDJ.2.2.1.1 (hz (i + 1))
  obtain ⟨w, rfl, rfl⟩ := hr
  show RR G ML_law 2326 [(0, .ref b), (1, .ref x), (2, .ref m), (3, .ref o), (4, .ref d), (5, .int (iI ((i : Int))))] [] h (kc + 3) (ks + 18) Q
  refine r_aload_n dL_law_2326 1 rfl ?_
  refine r_aload_n dL_law_2327 0 rfl ?_
  refine r_iload dL_law_2328 5 rfl ?_
  refine i_const (1) dL_law_2330 ?_
  refine i_add dL_law_2331 ?_
  refine r_sld hXs hb (i + 1) (by omega) (by omega) (by omega) dL_law_2332 ?_
  refine r_aload_n dL_law_2333 3 rfl ?_
  refine k_callSW (As := [.ref x, .int (iI (zs (i + 1))), .ref o]) (rest := []) (w := some (.int (iI k))) (st' := [.int (iI k)]) kw_L_dust dL_law_2334 rfl rfl (Nat.le_of_ble_eq_true rfl) (Nat.le_of_ble_eq_true rfl) (by show 3 ≤ kc + 3; omega) (by show 18 ≤ ks + 18; omega) cl rfl (fun h2 e2 => ?_)
  obtain ⟨hX2, ⟨mo2, g2, fo2, hg2⟩, hF2⟩ := e2
  have hM2 := hM.fr hF2 hDJ.mo hDJ.wo
  refine r_istore (ls' := [(0, .ref b), (1, .ref x), (2, .ref m), (3, .ref o), (4, .ref d), (5, .int (iI ((i : Int)))), (6, .int (iI k))]) dL_law_2337 (by decide) rfl ?_
  refine r_aload_n dL_law_2339 2 rfl ?_
  refine r_aload_n dL_law_2340 0 rfl ?_
  refine r_iload dL_law_2341 5 rfl ?_
  refine i_const (1) dL_law_2343 ?_
  refine i_add dL_law_2344 ?_
  refine r_sld hXs hb (i + 1) (by omega) (by omega) (by omega) dL_law_2345 ?_
  refine p_callV (As := [.int (iI (zs (i + 1)))]) (b := m) (rest := []) (w := (some (.int w))) (st' := [.int w]) kv_L_law_301 dL_law_2346 rfl rfl (Nat.le_of_ble_eq_true rfl) (Nat.le_of_ble_eq_true rfl) (mb_rv hM2) rfl rfl (cm h2 c hM2) rfl (fun h3 e3 => ?_)
  obtain ⟨hM3, hF3⟩ := e3
  have fo3 := (hF3.2 o hDJ.2.2.1.2.1).trans fo2
  have mo3 : o ∈ h3.1 := by rw [hF3.1]; exact mo2
  refine r_istore (ls' := [(0, .ref b), (1, .ref x), (2, .ref m), (3, .ref o), (4, .ref d), (5, .int (iI ((i : Int)))), (6, .int (iI k)), (7, .int w)]) dL_law_2349 (by decide) rfl ?_
  refine r_aload_n dL_law_2351 2 rfl ?_
  refine p_callV (As := []) (b := m) (rest := []) (w := (some (.int (iI k)))) (st' := [.int (iI k)]) kv_L_law_166 dL_law_2352 rfl rfl (Nat.le_of_ble_eq_true rfl) (Nat.le_of_ble_eq_true rfl) (mb_rv hM3) rfl rfl (b_X12_thrown hM3) rfl (fun h9 e9 => ?_)
  rw [show h9 = h3 from e9]
  refine r_iload dL_law_2355 6 rfl ?_
  refine i_icmpeq dL_law_2357 (tgt := 2362) (by decide) (in32_k hk) (in32_k hk) (fun _ => ?_) (fun c => absurd rfl c)
  refine r_iload dL_law_2362 6 rfl ?_
  refine i_ifne dL_law_2364 (tgt := 2379) (by decide) (in32_k hk) (fun c2364 => ?_) (fun c2364 => ?_)
  · refine r_goto dL_law_2379 (tgt := 3134) (by decide) ?_
    refine rr_room (rr_sub (kk _ _ _ (LW.mk hDJ hD hX2 ⟨mo2, g2, fo2⟩ hF2 hM3 hF3 hI1)) (lsL_t rfl)) ?_ ?_
    · show kc ≤ kc + 3 - 3; omega
    · show ks ≤ ks + 18 - 18; omega
  · refine r_aload_n dL_law_2367 3 rfl ?_
    refine i_const (0) dL_law_2368 ?_
    refine i_lald0 dL_law_2369 mo3 fo3 (hg2 c2364) ?_
    refine r_iload dL_law_2370 7 rfl ?_
    refine r_i2l dL_law_2372 ?_
    refine i_lcmpe dL_law_2373 ?_
    refine i_ifeq dL_law_2374 (tgt := 2379) (by decide) ⟨by decide, by decide⟩ (fun _ => ?_) (fun c => absurd c (by decide))
    refine r_goto dL_law_2379 (tgt := 3134) (by decide) ?_
    refine rr_room (rr_sub (kk _ _ _ (LW.mk hDJ hD hX2 ⟨mo2, g2, fo2⟩ hF2 hM3 hF3 hI1)) (lsL_t rfl)) ?_ ?_
    · show kc ≤ kc + 3 - 3; omega
    · show ks ≤ ks + 18 - 18; omega
set_option maxRecDepth 20000 in
set_option maxHeartbeats 1000000 in
theorem lc_42 {G : xG} {K : xK} {sa : Nat → Nat} (hGC : GC G K sa) (hGT : GT G sa) (hGE : GE G) (hCA : GCA G) {b L : Nat} {zs : Nat → Int} (hXs : x_zz G (fun _ U H => va_X b L (fun j => iI (zs j)) U H)) (hb : b < G.2.2.2) (hL : L ≤ 3072) (hz : ∀ j, in32 (zs j)) {x m o d : Nat} {ad : XA} {a : MA} (hDJ : DJW x ad m a o d) {i : Nat} (hi : i + 6 ≤ L) {h : xH} {S : XS} {c : Int} (hW : LW G K sa x m o d ad a S c h) {kc ks : Nat} {Q : xR → xH → Prop} (kk : ∀ (h9 : xH) (S9 : XS) (c9 : Int), LW G K sa x m o d ad a S9 c9 h9 → RR G ML_law 3134 (lsL b x m o d i) [] h9 kc ks Q) : RR G ML_law 2382 (lsL b x m o d i) [] h (kc + 3) (ks + 18) Q := by
  obtain ⟨hX, hM, hI, hO, hD⟩ := hW
  obtain ⟨S1, k, V, mv, hI1, hk, hr, cl, cm⟩ := s_seal hGC hGT hGE hCA (m := m) (a := a) hX hI hO hDJ.2.2.1.1 (hz (i + 1))
  obtain ⟨w, rfl, rfl⟩ := hr
  show RR G ML_law 2382 [(0, .ref b), (1, .ref x), (2, .ref m), (3, .ref o), (4, .ref d), (5, .int (iI ((i : Int))))] [] h (kc + 3) (ks + 18) Q
  refine r_aload_n dL_law_2382 1 rfl ?_
  refine r_aload_n dL_law_2383 0 rfl ?_
  refine r_iload dL_law_2384 5 rfl ?_
  refine i_const (1) dL_law_2386 ?_
  refine i_add dL_law_2387 ?_
  refine r_sld hXs hb (i + 1) (by omega) (by omega) (by omega) dL_law_2388 ?_
  refine r_aload_n dL_law_2389 3 rfl ?_
  refine k_callSW (As := [.ref x, .int (iI (zs (i + 1))), .ref o]) (rest := []) (w := some (.int (iI k))) (st' := [.int (iI k)]) kw_L_seal dL_law_2390 rfl rfl (Nat.le_of_ble_eq_true rfl) (Nat.le_of_ble_eq_true rfl) (by show 3 ≤ kc + 3; omega) (by show 18 ≤ ks + 18; omega) cl rfl (fun h2 e2 => ?_)
  obtain ⟨hX2, ⟨mo2, g2, fo2, hg2⟩, hF2⟩ := e2
  have hM2 := hM.fr hF2 hDJ.mo hDJ.wo
  refine r_istore (ls' := [(0, .ref b), (1, .ref x), (2, .ref m), (3, .ref o), (4, .ref d), (5, .int (iI ((i : Int)))), (6, .int (iI k))]) dL_law_2393 (by decide) rfl ?_
  refine r_aload_n dL_law_2395 2 rfl ?_
  refine r_aload_n dL_law_2396 0 rfl ?_
  refine r_iload dL_law_2397 5 rfl ?_
  refine i_const (1) dL_law_2399 ?_
  refine i_add dL_law_2400 ?_
  refine r_sld hXs hb (i + 1) (by omega) (by omega) (by omega) dL_law_2401 ?_
  refine p_callV (As := [.int (iI (zs (i + 1)))]) (b := m) (rest := []) (w := (some (.int w))) (st' := [.int w]) kv_L_law_304 dL_law_2402 rfl rfl (Nat.le_of_ble_eq_true rfl) (Nat.le_of_ble_eq_true rfl) (mb_rv hM2) rfl rfl (cm h2 c hM2) rfl (fun h3 e3 => ?_)
  obtain ⟨hM3, hF3⟩ := e3
  have fo3 := (hF3.2 o hDJ.2.2.1.2.1).trans fo2
  have mo3 : o ∈ h3.1 := by rw [hF3.1]; exact mo2
  refine r_istore (ls' := [(0, .ref b), (1, .ref x), (2, .ref m), (3, .ref o), (4, .ref d), (5, .int (iI ((i : Int)))), (6, .int (iI k)), (7, .int w)]) dL_law_2405 (by decide) rfl ?_
  refine r_aload_n dL_law_2407 2 rfl ?_
  refine p_callV (As := []) (b := m) (rest := []) (w := (some (.int (iI k)))) (st' := [.int (iI k)]) kv_L_law_166 dL_law_2408 rfl rfl (Nat.le_of_ble_eq_true rfl) (Nat.le_of_ble_eq_true rfl) (mb_rv hM3) rfl rfl (b_X12_thrown hM3) rfl (fun h9 e9 => ?_)
  rw [show h9 = h3 from e9]
  refine r_iload dL_law_2411 6 rfl ?_
  refine i_icmpeq dL_law_2413 (tgt := 2418) (by decide) (in32_k hk) (in32_k hk) (fun _ => ?_) (fun c => absurd rfl c)
  refine r_iload dL_law_2418 6 rfl ?_
  refine i_ifne dL_law_2420 (tgt := 2435) (by decide) (in32_k hk) (fun c2420 => ?_) (fun c2420 => ?_)
  · refine r_goto dL_law_2435 (tgt := 3134) (by decide) ?_
    refine rr_room (rr_sub (kk _ _ _ (LW.mk hDJ hD hX2 ⟨mo2, g2, fo2⟩ hF2 hM3 hF3 hI1)) (lsL_t rfl)) ?_ ?_
    · show kc ≤ kc + 3 - 3; omega
    · show ks ≤ ks + 18 - 18; omega
  · refine r_aload_n dL_law_2423 3 rfl ?_
    refine i_const (0) dL_law_2424 ?_
    refine i_lald0 dL_law_2425 mo3 fo3 (hg2 c2420) ?_
    refine r_iload dL_law_2426 7 rfl ?_
    refine r_i2l dL_law_2428 ?_
    refine i_lcmpe dL_law_2429 ?_
    refine i_ifeq dL_law_2430 (tgt := 2435) (by decide) ⟨by decide, by decide⟩ (fun _ => ?_) (fun c => absurd c (by decide))
    refine r_goto dL_law_2435 (tgt := 3134) (by decide) ?_
    refine rr_room (rr_sub (kk _ _ _ (LW.mk hDJ hD hX2 ⟨mo2, g2, fo2⟩ hF2 hM3 hF3 hI1)) (lsL_t rfl)) ?_ ?_
    · show kc ≤ kc + 3 - 3; omega
    · show ks ≤ ks + 18 - 18; omega
set_option maxRecDepth 20000 in
set_option maxHeartbeats 1000000 in
theorem lc_43 {G : xG} {K : xK} {sa : Nat → Nat} (hGC : GC G K sa) (hGT : GT G sa) (hGE : GE G) (hCA : GCA G) {b L : Nat} {zs : Nat → Int} (hXs : x_zz G (fun _ U H => va_X b L (fun j => iI (zs j)) U H)) (hb : b < G.2.2.2) (hL : L ≤ 3072) (hz : ∀ j, in32 (zs j)) {x m o d : Nat} {ad : XA} {a : MA} (hDJ : DJW x ad m a o d) {i : Nat} (hi : i + 6 ≤ L) {h : xH} {S : XS} {c : Int} (hW : LW G K sa x m o d ad a S c h) {kc ks : Nat} {Q : xR → xH → Prop} (kk : ∀ (h9 : xH) (S9 : XS) (c9 : Int), LW G K sa x m o d ad a S9 c9 h9 → RR G ML_law 3134 (lsL b x m o d i) [] h9 kc ks Q) : RR G ML_law 2438 (lsL b x m o d i) [] h (kc + 3) (ks + 18) Q := by
  obtain ⟨hX, hM, hI, hO, hD⟩ := hW
  obtain ⟨S1, k, V, mv, hI1, hk, hr, cl, cm⟩ := s_cool hGC hGT hGE hCA (m := m) (a := a) hX hI hO hDJ.2.2.1.1 (hz (i + 1))
  obtain ⟨w, rfl, rfl⟩ := hr
  show RR G ML_law 2438 [(0, .ref b), (1, .ref x), (2, .ref m), (3, .ref o), (4, .ref d), (5, .int (iI ((i : Int))))] [] h (kc + 3) (ks + 18) Q
  refine r_aload_n dL_law_2438 1 rfl ?_
  refine r_aload_n dL_law_2439 0 rfl ?_
  refine r_iload dL_law_2440 5 rfl ?_
  refine i_const (1) dL_law_2442 ?_
  refine i_add dL_law_2443 ?_
  refine r_sld hXs hb (i + 1) (by omega) (by omega) (by omega) dL_law_2444 ?_
  refine r_aload_n dL_law_2445 3 rfl ?_
  refine k_callSW (As := [.ref x, .int (iI (zs (i + 1))), .ref o]) (rest := []) (w := some (.int (iI k))) (st' := [.int (iI k)]) kw_L_cool dL_law_2446 rfl rfl (Nat.le_of_ble_eq_true rfl) (Nat.le_of_ble_eq_true rfl) (by show 3 ≤ kc + 3; omega) (by show 18 ≤ ks + 18; omega) cl rfl (fun h2 e2 => ?_)
  obtain ⟨hX2, ⟨mo2, g2, fo2, hg2⟩, hF2⟩ := e2
  have hM2 := hM.fr hF2 hDJ.mo hDJ.wo
  refine r_istore (ls' := [(0, .ref b), (1, .ref x), (2, .ref m), (3, .ref o), (4, .ref d), (5, .int (iI ((i : Int)))), (6, .int (iI k))]) dL_law_2449 (by decide) rfl ?_
  refine r_aload_n dL_law_2451 2 rfl ?_
  refine r_aload_n dL_law_2452 0 rfl ?_
  refine r_iload dL_law_2453 5 rfl ?_
  refine i_const (1) dL_law_2455 ?_
  refine i_add dL_law_2456 ?_
  refine r_sld hXs hb (i + 1) (by omega) (by omega) (by omega) dL_law_2457 ?_
  refine p_callV (As := [.int (iI (zs (i + 1)))]) (b := m) (rest := []) (w := (some (.int w))) (st' := [.int w]) kv_L_law_307 dL_law_2458 rfl rfl (Nat.le_of_ble_eq_true rfl) (Nat.le_of_ble_eq_true rfl) (mb_rv hM2) rfl rfl (cm h2 c hM2) rfl (fun h3 e3 => ?_)
  obtain ⟨hM3, hF3⟩ := e3
  have fo3 := (hF3.2 o hDJ.2.2.1.2.1).trans fo2
  have mo3 : o ∈ h3.1 := by rw [hF3.1]; exact mo2
  refine r_istore (ls' := [(0, .ref b), (1, .ref x), (2, .ref m), (3, .ref o), (4, .ref d), (5, .int (iI ((i : Int)))), (6, .int (iI k)), (7, .int w)]) dL_law_2461 (by decide) rfl ?_
  refine r_aload_n dL_law_2463 2 rfl ?_
  refine p_callV (As := []) (b := m) (rest := []) (w := (some (.int (iI k)))) (st' := [.int (iI k)]) kv_L_law_166 dL_law_2464 rfl rfl (Nat.le_of_ble_eq_true rfl) (Nat.le_of_ble_eq_true rfl) (mb_rv hM3) rfl rfl (b_X12_thrown hM3) rfl (fun h9 e9 => ?_)
  rw [show h9 = h3 from e9]
  refine r_iload dL_law_2467 6 rfl ?_
  refine i_icmpeq dL_law_2469 (tgt := 2474) (by decide) (in32_k hk) (in32_k hk) (fun _ => ?_) (fun c => absurd rfl c)
  refine r_iload dL_law_2474 6 rfl ?_
  refine i_ifne dL_law_2476 (tgt := 2491) (by decide) (in32_k hk) (fun c2476 => ?_) (fun c2476 => ?_)
  · refine r_goto dL_law_2491 (tgt := 3134) (by decide) ?_
    refine rr_room (rr_sub (kk _ _ _ (LW.mk hDJ hD hX2 ⟨mo2, g2, fo2⟩ hF2 hM3 hF3 hI1)) (lsL_t rfl)) ?_ ?_
    · show kc ≤ kc + 3 - 3; omega
    · show ks ≤ ks + 18 - 18; omega
  · refine r_aload_n dL_law_2479 3 rfl ?_
    refine i_const (0) dL_law_2480 ?_
    refine i_lald0 dL_law_2481 mo3 fo3 (hg2 c2476) ?_
    refine r_iload dL_law_2482 7 rfl ?_
    refine r_i2l dL_law_2484 ?_
    refine i_lcmpe dL_law_2485 ?_
    refine i_ifeq dL_law_2486 (tgt := 2491) (by decide) ⟨by decide, by decide⟩ (fun _ => ?_) (fun c => absurd c (by decide))
    refine r_goto dL_law_2491 (tgt := 3134) (by decide) ?_
    refine rr_room (rr_sub (kk _ _ _ (LW.mk hDJ hD hX2 ⟨mo2, g2, fo2⟩ hF2 hM3 hF3 hI1)) (lsL_t rfl)) ?_ ?_
    · show kc ≤ kc + 3 - 3; omega
    · show ks ≤ ks + 18 - 18; omega
set_option maxRecDepth 20000 in
set_option maxHeartbeats 1000000 in
theorem lc_44 {G : xG} {K : xK} {sa : Nat → Nat} (hGC : GC G K sa) (hGT : GT G sa) (hGE : GE G) (hCA : GCA G) {b L : Nat} {zs : Nat → Int} (hXs : x_zz G (fun _ U H => va_X b L (fun j => iI (zs j)) U H)) (hb : b < G.2.2.2) (hL : L ≤ 3072) (hz : ∀ j, in32 (zs j)) {x m o d : Nat} {ad : XA} {a : MA} (hDJ : DJW x ad m a o d) {i : Nat} (hi : i + 6 ≤ L) {h : xH} {S : XS} {c : Int} (hW : LW G K sa x m o d ad a S c h) {kc ks : Nat} {Q : xR → xH → Prop} (kk : ∀ (h9 : xH) (S9 : XS) (c9 : Int), LW G K sa x m o d ad a S9 c9 h9 → RR G ML_law 3134 (lsL b x m o d i) [] h9 kc ks Q) : RR G ML_law 2494 (lsL b x m o d i) [] h (kc + 3) (ks + 18) Q := by
  obtain ⟨hX, hM, hI, hO, hD⟩ := hW
  obtain ⟨S1, k, V, mv, hI1, hk, hr, cl, cm⟩ := s_takeOut hGC hGT hGE hCA (m := m) (a := a) hX hI hO hDJ.2.2.1.1 (hz (i + 1))
  obtain ⟨w, rfl, rfl⟩ := hr
  show RR G ML_law 2494 [(0, .ref b), (1, .ref x), (2, .ref m), (3, .ref o), (4, .ref d), (5, .int (iI ((i : Int))))] [] h (kc + 3) (ks + 18) Q
  refine r_aload_n dL_law_2494 1 rfl ?_
  refine r_aload_n dL_law_2495 0 rfl ?_
  refine r_iload dL_law_2496 5 rfl ?_
  refine i_const (1) dL_law_2498 ?_
  refine i_add dL_law_2499 ?_
  refine r_sld hXs hb (i + 1) (by omega) (by omega) (by omega) dL_law_2500 ?_
  refine r_aload_n dL_law_2501 3 rfl ?_
  refine k_callSW (As := [.ref x, .int (iI (zs (i + 1))), .ref o]) (rest := []) (w := some (.int (iI k))) (st' := [.int (iI k)]) kw_L_takeOut dL_law_2502 rfl rfl (Nat.le_of_ble_eq_true rfl) (Nat.le_of_ble_eq_true rfl) (by show 3 ≤ kc + 3; omega) (by show 18 ≤ ks + 18; omega) cl rfl (fun h2 e2 => ?_)
  obtain ⟨hX2, ⟨mo2, g2, fo2, hg2⟩, hF2⟩ := e2
  have hM2 := hM.fr hF2 hDJ.mo hDJ.wo
  refine r_istore (ls' := [(0, .ref b), (1, .ref x), (2, .ref m), (3, .ref o), (4, .ref d), (5, .int (iI ((i : Int)))), (6, .int (iI k))]) dL_law_2505 (by decide) rfl ?_
  refine r_aload_n dL_law_2507 2 rfl ?_
  refine r_aload_n dL_law_2508 0 rfl ?_
  refine r_iload dL_law_2509 5 rfl ?_
  refine i_const (1) dL_law_2511 ?_
  refine i_add dL_law_2512 ?_
  refine r_sld hXs hb (i + 1) (by omega) (by omega) (by omega) dL_law_2513 ?_
  refine p_callV (As := [.int (iI (zs (i + 1)))]) (b := m) (rest := []) (w := (some (.int w))) (st' := [.int w]) kv_L_law_310 dL_law_2514 rfl rfl (Nat.le_of_ble_eq_true rfl) (Nat.le_of_ble_eq_true rfl) (mb_rv hM2) rfl rfl (cm h2 c hM2) rfl (fun h3 e3 => ?_)
  obtain ⟨hM3, hF3⟩ := e3
  have fo3 := (hF3.2 o hDJ.2.2.1.2.1).trans fo2
  have mo3 : o ∈ h3.1 := by rw [hF3.1]; exact mo2
  refine r_istore (ls' := [(0, .ref b), (1, .ref x), (2, .ref m), (3, .ref o), (4, .ref d), (5, .int (iI ((i : Int)))), (6, .int (iI k)), (7, .int w)]) dL_law_2517 (by decide) rfl ?_
  refine r_aload_n dL_law_2519 2 rfl ?_
  refine p_callV (As := []) (b := m) (rest := []) (w := (some (.int (iI k)))) (st' := [.int (iI k)]) kv_L_law_166 dL_law_2520 rfl rfl (Nat.le_of_ble_eq_true rfl) (Nat.le_of_ble_eq_true rfl) (mb_rv hM3) rfl rfl (b_X12_thrown hM3) rfl (fun h9 e9 => ?_)
  rw [show h9 = h3 from e9]
  refine r_iload dL_law_2523 6 rfl ?_
  refine i_icmpeq dL_law_2525 (tgt := 2530) (by decide) (in32_k hk) (in32_k hk) (fun _ => ?_) (fun c => absurd rfl c)
  refine r_iload dL_law_2530 6 rfl ?_
  refine i_ifne dL_law_2532 (tgt := 2547) (by decide) (in32_k hk) (fun c2532 => ?_) (fun c2532 => ?_)
  · refine r_goto dL_law_2547 (tgt := 3134) (by decide) ?_
    refine rr_room (rr_sub (kk _ _ _ (LW.mk hDJ hD hX2 ⟨mo2, g2, fo2⟩ hF2 hM3 hF3 hI1)) (lsL_t rfl)) ?_ ?_
    · show kc ≤ kc + 3 - 3; omega
    · show ks ≤ ks + 18 - 18; omega
  · refine r_aload_n dL_law_2535 3 rfl ?_
    refine i_const (0) dL_law_2536 ?_
    refine i_lald0 dL_law_2537 mo3 fo3 (hg2 c2532) ?_
    refine r_iload dL_law_2538 7 rfl ?_
    refine r_i2l dL_law_2540 ?_
    refine i_lcmpe dL_law_2541 ?_
    refine i_ifeq dL_law_2542 (tgt := 2547) (by decide) ⟨by decide, by decide⟩ (fun _ => ?_) (fun c => absurd c (by decide))
    refine r_goto dL_law_2547 (tgt := 3134) (by decide) ?_
    refine rr_room (rr_sub (kk _ _ _ (LW.mk hDJ hD hX2 ⟨mo2, g2, fo2⟩ hF2 hM3 hF3 hI1)) (lsL_t rfl)) ?_ ?_
    · show kc ≤ kc + 3 - 3; omega
    · show ks ≤ ks + 18 - 18; omega
set_option maxRecDepth 20000 in
set_option maxHeartbeats 1000000 in
theorem lc_45 {G : xG} {K : xK} {sa : Nat → Nat} (hGC : GC G K sa) (hGT : GT G sa) (hGE : GE G) (hCA : GCA G) {b L : Nat} {zs : Nat → Int} (hXs : x_zz G (fun _ U H => va_X b L (fun j => iI (zs j)) U H)) (hb : b < G.2.2.2) (hL : L ≤ 3072) (hz : ∀ j, in32 (zs j)) {x m o d : Nat} {ad : XA} {a : MA} (hDJ : DJW x ad m a o d) {i : Nat} (hi : i + 6 ≤ L) {h : xH} {S : XS} {c : Int} (hW : LW G K sa x m o d ad a S c h) {kc ks : Nat} {Q : xR → xH → Prop} (kk : ∀ (h9 : xH) (S9 : XS) (c9 : Int), LW G K sa x m o d ad a S9 c9 h9 → RR G ML_law 3134 (lsL b x m o d i) [] h9 kc ks Q) : RR G ML_law 2550 (lsL b x m o d i) [] h (kc + 3) (ks + 18) Q := by
  obtain ⟨hX, hM, hI, hO, hD⟩ := hW
  obtain ⟨S1, k, V, mv, hI1, hk, hr, cl, cm⟩ := s_passHours hGC hGT hGE hCA (m := m) (a := a) hX hI hO hDJ.2.2.1.1 (hz (i + 1))
  obtain ⟨w, rfl, rfl⟩ := hr
  show RR G ML_law 2550 [(0, .ref b), (1, .ref x), (2, .ref m), (3, .ref o), (4, .ref d), (5, .int (iI ((i : Int))))] [] h (kc + 3) (ks + 18) Q
  refine r_aload_n dL_law_2550 1 rfl ?_
  refine r_aload_n dL_law_2551 0 rfl ?_
  refine r_iload dL_law_2552 5 rfl ?_
  refine i_const (1) dL_law_2554 ?_
  refine i_add dL_law_2555 ?_
  refine r_sld hXs hb (i + 1) (by omega) (by omega) (by omega) dL_law_2556 ?_
  refine r_aload_n dL_law_2557 3 rfl ?_
  refine k_callSW (As := [.ref x, .int (iI (zs (i + 1))), .ref o]) (rest := []) (w := some (.int (iI k))) (st' := [.int (iI k)]) kw_L_passHours dL_law_2558 rfl rfl (Nat.le_of_ble_eq_true rfl) (Nat.le_of_ble_eq_true rfl) (by show 3 ≤ kc + 3; omega) (by show 18 ≤ ks + 18; omega) cl rfl (fun h2 e2 => ?_)
  obtain ⟨hX2, ⟨mo2, g2, fo2, hg2⟩, hF2⟩ := e2
  have hM2 := hM.fr hF2 hDJ.mo hDJ.wo
  refine r_istore (ls' := [(0, .ref b), (1, .ref x), (2, .ref m), (3, .ref o), (4, .ref d), (5, .int (iI ((i : Int)))), (6, .int (iI k))]) dL_law_2561 (by decide) rfl ?_
  refine r_aload_n dL_law_2563 2 rfl ?_
  refine r_aload_n dL_law_2564 0 rfl ?_
  refine r_iload dL_law_2565 5 rfl ?_
  refine i_const (1) dL_law_2567 ?_
  refine i_add dL_law_2568 ?_
  refine r_sld hXs hb (i + 1) (by omega) (by omega) (by omega) dL_law_2569 ?_
  refine p_callV (As := [.int (iI (zs (i + 1)))]) (b := m) (rest := []) (w := (some (.int w))) (st' := [.int w]) kv_L_law_313 dL_law_2570 rfl rfl (Nat.le_of_ble_eq_true rfl) (Nat.le_of_ble_eq_true rfl) (mb_rv hM2) rfl rfl (cm h2 c hM2) rfl (fun h3 e3 => ?_)
  obtain ⟨hM3, hF3⟩ := e3
  have fo3 := (hF3.2 o hDJ.2.2.1.2.1).trans fo2
  have mo3 : o ∈ h3.1 := by rw [hF3.1]; exact mo2
  refine r_istore (ls' := [(0, .ref b), (1, .ref x), (2, .ref m), (3, .ref o), (4, .ref d), (5, .int (iI ((i : Int)))), (6, .int (iI k)), (7, .int w)]) dL_law_2573 (by decide) rfl ?_
  refine r_aload_n dL_law_2575 2 rfl ?_
  refine p_callV (As := []) (b := m) (rest := []) (w := (some (.int (iI k)))) (st' := [.int (iI k)]) kv_L_law_166 dL_law_2576 rfl rfl (Nat.le_of_ble_eq_true rfl) (Nat.le_of_ble_eq_true rfl) (mb_rv hM3) rfl rfl (b_X12_thrown hM3) rfl (fun h9 e9 => ?_)
  rw [show h9 = h3 from e9]
  refine r_iload dL_law_2579 6 rfl ?_
  refine i_icmpeq dL_law_2581 (tgt := 2586) (by decide) (in32_k hk) (in32_k hk) (fun _ => ?_) (fun c => absurd rfl c)
  refine r_iload dL_law_2586 6 rfl ?_
  refine i_ifne dL_law_2588 (tgt := 2603) (by decide) (in32_k hk) (fun c2588 => ?_) (fun c2588 => ?_)
  · refine r_goto dL_law_2603 (tgt := 3134) (by decide) ?_
    refine rr_room (rr_sub (kk _ _ _ (LW.mk hDJ hD hX2 ⟨mo2, g2, fo2⟩ hF2 hM3 hF3 hI1)) (lsL_t rfl)) ?_ ?_
    · show kc ≤ kc + 3 - 3; omega
    · show ks ≤ ks + 18 - 18; omega
  · refine r_aload_n dL_law_2591 3 rfl ?_
    refine i_const (0) dL_law_2592 ?_
    refine i_lald0 dL_law_2593 mo3 fo3 (hg2 c2588) ?_
    refine r_iload dL_law_2594 7 rfl ?_
    refine r_i2l dL_law_2596 ?_
    refine i_lcmpe dL_law_2597 ?_
    refine i_ifeq dL_law_2598 (tgt := 2603) (by decide) ⟨by decide, by decide⟩ (fun _ => ?_) (fun c => absurd c (by decide))
    refine r_goto dL_law_2603 (tgt := 3134) (by decide) ?_
    refine rr_room (rr_sub (kk _ _ _ (LW.mk hDJ hD hX2 ⟨mo2, g2, fo2⟩ hF2 hM3 hF3 hI1)) (lsL_t rfl)) ?_ ?_
    · show kc ≤ kc + 3 - 3; omega
    · show ks ≤ ks + 18 - 18; omega
set_option maxRecDepth 20000 in
set_option maxHeartbeats 1000000 in
theorem lc_46 {G : xG} {K : xK} {sa : Nat → Nat} (hGC : GC G K sa) (hGT : GT G sa) (hGE : GE G) (hCA : GCA G) {b L : Nat} {zs : Nat → Int} (hXs : x_zz G (fun _ U H => va_X b L (fun j => iI (zs j)) U H)) (hb : b < G.2.2.2) (hL : L ≤ 3072) (hz : ∀ j, in32 (zs j)) {x m o d : Nat} {ad : XA} {a : MA} (hDJ : DJW x ad m a o d) {i : Nat} (hi : i + 6 ≤ L) {h : xH} {S : XS} {c : Int} (hW : LW G K sa x m o d ad a S c h) {kc ks : Nat} {Q : xR → xH → Prop} (kk : ∀ (h9 : xH) (S9 : XS) (c9 : Int), LW G K sa x m o d ad a S9 c9 h9 → RR G ML_law 3134 (lsL b x m o d i) [] h9 kc ks Q) : RR G ML_law 2606 (lsL b x m o d i) [] h (kc + 3) (ks + 18) Q := by
  obtain ⟨hX, hM, hI, hO, hD⟩ := hW
  obtain ⟨S1, k, V, mv, hI1, hk, hr, cl, cm⟩ := s_cut hGC hGT hGE hCA (m := m) (a := a) hX hI hO hDJ.2.2.1.1 (hz (i + 1))
  obtain ⟨w, rfl, rfl⟩ := hr
  show RR G ML_law 2606 [(0, .ref b), (1, .ref x), (2, .ref m), (3, .ref o), (4, .ref d), (5, .int (iI ((i : Int))))] [] h (kc + 3) (ks + 18) Q
  refine r_aload_n dL_law_2606 1 rfl ?_
  refine r_aload_n dL_law_2607 0 rfl ?_
  refine r_iload dL_law_2608 5 rfl ?_
  refine i_const (1) dL_law_2610 ?_
  refine i_add dL_law_2611 ?_
  refine r_sld hXs hb (i + 1) (by omega) (by omega) (by omega) dL_law_2612 ?_
  refine r_aload_n dL_law_2613 3 rfl ?_
  refine k_callSW (As := [.ref x, .int (iI (zs (i + 1))), .ref o]) (rest := []) (w := some (.int (iI k))) (st' := [.int (iI k)]) kw_L_cut dL_law_2614 rfl rfl (Nat.le_of_ble_eq_true rfl) (Nat.le_of_ble_eq_true rfl) (by show 3 ≤ kc + 3; omega) (by show 18 ≤ ks + 18; omega) cl rfl (fun h2 e2 => ?_)
  obtain ⟨hX2, ⟨mo2, g2, fo2, hg2⟩, hF2⟩ := e2
  have hM2 := hM.fr hF2 hDJ.mo hDJ.wo
  refine r_istore (ls' := [(0, .ref b), (1, .ref x), (2, .ref m), (3, .ref o), (4, .ref d), (5, .int (iI ((i : Int)))), (6, .int (iI k))]) dL_law_2617 (by decide) rfl ?_
  refine r_aload_n dL_law_2619 2 rfl ?_
  refine r_aload_n dL_law_2620 0 rfl ?_
  refine r_iload dL_law_2621 5 rfl ?_
  refine i_const (1) dL_law_2623 ?_
  refine i_add dL_law_2624 ?_
  refine r_sld hXs hb (i + 1) (by omega) (by omega) (by omega) dL_law_2625 ?_
  refine p_callV (As := [.int (iI (zs (i + 1)))]) (b := m) (rest := []) (w := (some (.int w))) (st' := [.int w]) kv_L_law_316 dL_law_2626 rfl rfl (Nat.le_of_ble_eq_true rfl) (Nat.le_of_ble_eq_true rfl) (mb_rv hM2) rfl rfl (cm h2 c hM2) rfl (fun h3 e3 => ?_)
  obtain ⟨hM3, hF3⟩ := e3
  have fo3 := (hF3.2 o hDJ.2.2.1.2.1).trans fo2
  have mo3 : o ∈ h3.1 := by rw [hF3.1]; exact mo2
  refine r_istore (ls' := [(0, .ref b), (1, .ref x), (2, .ref m), (3, .ref o), (4, .ref d), (5, .int (iI ((i : Int)))), (6, .int (iI k)), (7, .int w)]) dL_law_2629 (by decide) rfl ?_
  refine r_aload_n dL_law_2631 2 rfl ?_
  refine p_callV (As := []) (b := m) (rest := []) (w := (some (.int (iI k)))) (st' := [.int (iI k)]) kv_L_law_166 dL_law_2632 rfl rfl (Nat.le_of_ble_eq_true rfl) (Nat.le_of_ble_eq_true rfl) (mb_rv hM3) rfl rfl (b_X12_thrown hM3) rfl (fun h9 e9 => ?_)
  rw [show h9 = h3 from e9]
  refine r_iload dL_law_2635 6 rfl ?_
  refine i_icmpeq dL_law_2637 (tgt := 2642) (by decide) (in32_k hk) (in32_k hk) (fun _ => ?_) (fun c => absurd rfl c)
  refine r_iload dL_law_2642 6 rfl ?_
  refine i_ifne dL_law_2644 (tgt := 2659) (by decide) (in32_k hk) (fun c2644 => ?_) (fun c2644 => ?_)
  · refine r_goto dL_law_2659 (tgt := 3134) (by decide) ?_
    refine rr_room (rr_sub (kk _ _ _ (LW.mk hDJ hD hX2 ⟨mo2, g2, fo2⟩ hF2 hM3 hF3 hI1)) (lsL_t rfl)) ?_ ?_
    · show kc ≤ kc + 3 - 3; omega
    · show ks ≤ ks + 18 - 18; omega
  · refine r_aload_n dL_law_2647 3 rfl ?_
    refine i_const (0) dL_law_2648 ?_
    refine i_lald0 dL_law_2649 mo3 fo3 (hg2 c2644) ?_
    refine r_iload dL_law_2650 7 rfl ?_
    refine r_i2l dL_law_2652 ?_
    refine i_lcmpe dL_law_2653 ?_
    refine i_ifeq dL_law_2654 (tgt := 2659) (by decide) ⟨by decide, by decide⟩ (fun _ => ?_) (fun c => absurd c (by decide))
    refine r_goto dL_law_2659 (tgt := 3134) (by decide) ?_
    refine rr_room (rr_sub (kk _ _ _ (LW.mk hDJ hD hX2 ⟨mo2, g2, fo2⟩ hF2 hM3 hF3 hI1)) (lsL_t rfl)) ?_ ?_
    · show kc ≤ kc + 3 - 3; omega
    · show ks ≤ ks + 18 - 18; omega
set_option maxRecDepth 20000 in
set_option maxHeartbeats 1000000 in
theorem lc_47 {G : xG} {K : xK} {sa : Nat → Nat} (hGC : GC G K sa) (hGT : GT G sa) (hGE : GE G) (hCA : GCA G) {b L : Nat} {zs : Nat → Int} (hXs : x_zz G (fun _ U H => va_X b L (fun j => iI (zs j)) U H)) (hb : b < G.2.2.2) (hL : L ≤ 3072) (hz : ∀ j, in32 (zs j)) {x m o d : Nat} {ad : XA} {a : MA} (hDJ : DJW x ad m a o d) {i : Nat} (hi : i + 6 ≤ L) {h : xH} {S : XS} {c : Int} (hW : LW G K sa x m o d ad a S c h) {kc ks : Nat} {Q : xR → xH → Prop} (kk : ∀ (h9 : xH) (S9 : XS) (c9 : Int), LW G K sa x m o d ad a S9 c9 h9 → RR G ML_law 3134 (lsL b x m o d i) [] h9 kc ks Q) : RR G ML_law 2662 (lsL b x m o d i) [] h (kc + 3) (ks + 18) Q := by
  obtain ⟨hX, hM, hI, hO, hD⟩ := hW
  obtain ⟨S1, k, V, mv, hI1, hk, hr, cl, cm⟩ := s_stack hGC hGT hGE hCA (m := m) (a := a) hX hI hO hDJ.2.2.1.1 (hz (i + 1)) (hz (i + 2))
  obtain ⟨w, rfl, rfl⟩ := hr
  show RR G ML_law 2662 [(0, .ref b), (1, .ref x), (2, .ref m), (3, .ref o), (4, .ref d), (5, .int (iI ((i : Int))))] [] h (kc + 3) (ks + 18) Q
  refine r_aload_n dL_law_2662 1 rfl ?_
  refine r_aload_n dL_law_2663 0 rfl ?_
  refine r_iload dL_law_2664 5 rfl ?_
  refine i_const (1) dL_law_2666 ?_
  refine i_add dL_law_2667 ?_
  refine r_sld hXs hb (i + 1) (by omega) (by omega) (by omega) dL_law_2668 ?_
  refine r_aload_n dL_law_2669 0 rfl ?_
  refine r_iload dL_law_2670 5 rfl ?_
  refine i_const (2) dL_law_2672 ?_
  refine i_add dL_law_2673 ?_
  refine r_sld hXs hb (i + 2) (by omega) (by omega) (by omega) dL_law_2674 ?_
  refine r_aload_n dL_law_2675 3 rfl ?_
  refine k_callSW (As := [.ref x, .int (iI (zs (i + 1))), .int (iI (zs (i + 2))), .ref o]) (rest := []) (w := some (.int (iI k))) (st' := [.int (iI k)]) kw_L_stack dL_law_2676 rfl rfl (Nat.le_of_ble_eq_true rfl) (Nat.le_of_ble_eq_true rfl) (by show 3 ≤ kc + 3; omega) (by show 18 ≤ ks + 18; omega) cl rfl (fun h2 e2 => ?_)
  obtain ⟨hX2, ⟨mo2, g2, fo2, hg2⟩, hF2⟩ := e2
  have hM2 := hM.fr hF2 hDJ.mo hDJ.wo
  refine r_istore (ls' := [(0, .ref b), (1, .ref x), (2, .ref m), (3, .ref o), (4, .ref d), (5, .int (iI ((i : Int)))), (6, .int (iI k))]) dL_law_2679 (by decide) rfl ?_
  refine r_aload_n dL_law_2681 2 rfl ?_
  refine r_aload_n dL_law_2682 0 rfl ?_
  refine r_iload dL_law_2683 5 rfl ?_
  refine i_const (1) dL_law_2685 ?_
  refine i_add dL_law_2686 ?_
  refine r_sld hXs hb (i + 1) (by omega) (by omega) (by omega) dL_law_2687 ?_
  refine r_aload_n dL_law_2688 0 rfl ?_
  refine r_iload dL_law_2689 5 rfl ?_
  refine i_const (2) dL_law_2691 ?_
  refine i_add dL_law_2692 ?_
  refine r_sld hXs hb (i + 2) (by omega) (by omega) (by omega) dL_law_2693 ?_
  refine p_callV (As := [.int (iI (zs (i + 1))), .int (iI (zs (i + 2)))]) (b := m) (rest := []) (w := (some (.int w))) (st' := [.int w]) kv_L_law_319 dL_law_2694 rfl rfl (Nat.le_of_ble_eq_true rfl) (Nat.le_of_ble_eq_true rfl) (mb_rv hM2) rfl rfl (cm h2 c hM2) rfl (fun h3 e3 => ?_)
  obtain ⟨hM3, hF3⟩ := e3
  have fo3 := (hF3.2 o hDJ.2.2.1.2.1).trans fo2
  have mo3 : o ∈ h3.1 := by rw [hF3.1]; exact mo2
  refine r_istore (ls' := [(0, .ref b), (1, .ref x), (2, .ref m), (3, .ref o), (4, .ref d), (5, .int (iI ((i : Int)))), (6, .int (iI k)), (7, .int w)]) dL_law_2697 (by decide) rfl ?_
  refine r_aload_n dL_law_2699 2 rfl ?_
  refine p_callV (As := []) (b := m) (rest := []) (w := (some (.int (iI k)))) (st' := [.int (iI k)]) kv_L_law_166 dL_law_2700 rfl rfl (Nat.le_of_ble_eq_true rfl) (Nat.le_of_ble_eq_true rfl) (mb_rv hM3) rfl rfl (b_X12_thrown hM3) rfl (fun h9 e9 => ?_)
  rw [show h9 = h3 from e9]
  refine r_iload dL_law_2703 6 rfl ?_
  refine i_icmpeq dL_law_2705 (tgt := 2710) (by decide) (in32_k hk) (in32_k hk) (fun _ => ?_) (fun c => absurd rfl c)
  refine r_iload dL_law_2710 6 rfl ?_
  refine i_ifne dL_law_2712 (tgt := 2727) (by decide) (in32_k hk) (fun c2712 => ?_) (fun c2712 => ?_)
  · refine r_goto dL_law_2727 (tgt := 3134) (by decide) ?_
    refine rr_room (rr_sub (kk _ _ _ (LW.mk hDJ hD hX2 ⟨mo2, g2, fo2⟩ hF2 hM3 hF3 hI1)) (lsL_t rfl)) ?_ ?_
    · show kc ≤ kc + 3 - 3; omega
    · show ks ≤ ks + 18 - 18; omega
  · refine r_aload_n dL_law_2715 3 rfl ?_
    refine i_const (0) dL_law_2716 ?_
    refine i_lald0 dL_law_2717 mo3 fo3 (hg2 c2712) ?_
    refine r_iload dL_law_2718 7 rfl ?_
    refine r_i2l dL_law_2720 ?_
    refine i_lcmpe dL_law_2721 ?_
    refine i_ifeq dL_law_2722 (tgt := 2727) (by decide) ⟨by decide, by decide⟩ (fun _ => ?_) (fun c => absurd c (by decide))
    refine r_goto dL_law_2727 (tgt := 3134) (by decide) ?_
    refine rr_room (rr_sub (kk _ _ _ (LW.mk hDJ hD hX2 ⟨mo2, g2, fo2⟩ hF2 hM3 hF3 hI1)) (lsL_t rfl)) ?_ ?_
    · show kc ≤ kc + 3 - 3; omega
    · show ks ≤ ks + 18 - 18; omega
set_option maxRecDepth 20000 in
set_option maxHeartbeats 1000000 in
theorem lc_48 {G : xG} {K : xK} {sa : Nat → Nat} (hGC : GC G K sa) (hGT : GT G sa) (hGE : GE G) (hCA : GCA G) {b L : Nat} {zs : Nat → Int} (hXs : x_zz G (fun _ U H => va_X b L (fun j => iI (zs j)) U H)) (hb : b < G.2.2.2) (hL : L ≤ 3072) (hz : ∀ j, in32 (zs j)) {x m o d : Nat} {ad : XA} {a : MA} (hDJ : DJW x ad m a o d) {i : Nat} (hi : i + 6 ≤ L) {h : xH} {S : XS} {c : Int} (hW : LW G K sa x m o d ad a S c h) {kc ks : Nat} {Q : xR → xH → Prop} (kk : ∀ (h9 : xH) (S9 : XS) (c9 : Int), LW G K sa x m o d ad a S9 c9 h9 → RR G ML_law 3134 (lsL b x m o d i) [] h9 kc ks Q) : RR G ML_law 2730 (lsL b x m o d i) [] h (kc + 3) (ks + 18) Q := by
  obtain ⟨hX, hM, hI, hO, hD⟩ := hW
  obtain ⟨S1, k, V, mv, hI1, hk, hr, cl, cm⟩ := s_addButter hGC hGT hGE hCA (m := m) (a := a) hX hI hO hDJ.2.2.1.1 (hz (i + 1)) (hz (i + 2))
  obtain ⟨w, rfl, rfl⟩ := hr
  show RR G ML_law 2730 [(0, .ref b), (1, .ref x), (2, .ref m), (3, .ref o), (4, .ref d), (5, .int (iI ((i : Int))))] [] h (kc + 3) (ks + 18) Q
  refine r_aload_n dL_law_2730 1 rfl ?_
  refine r_aload_n dL_law_2731 0 rfl ?_
  refine r_iload dL_law_2732 5 rfl ?_
  refine i_const (1) dL_law_2734 ?_
  refine i_add dL_law_2735 ?_
  refine r_sld hXs hb (i + 1) (by omega) (by omega) (by omega) dL_law_2736 ?_
  refine r_aload_n dL_law_2737 0 rfl ?_
  refine r_iload dL_law_2738 5 rfl ?_
  refine i_const (2) dL_law_2740 ?_
  refine i_add dL_law_2741 ?_
  refine r_sld hXs hb (i + 2) (by omega) (by omega) (by omega) dL_law_2742 ?_
  refine r_aload_n dL_law_2743 3 rfl ?_
  refine k_callSW (As := [.ref x, .int (iI (zs (i + 1))), .int (iI (zs (i + 2))), .ref o]) (rest := []) (w := some (.int (iI k))) (st' := [.int (iI k)]) kw_L_addButter dL_law_2744 rfl rfl (Nat.le_of_ble_eq_true rfl) (Nat.le_of_ble_eq_true rfl) (by show 3 ≤ kc + 3; omega) (by show 18 ≤ ks + 18; omega) cl rfl (fun h2 e2 => ?_)
  obtain ⟨hX2, ⟨mo2, g2, fo2, hg2⟩, hF2⟩ := e2
  have hM2 := hM.fr hF2 hDJ.mo hDJ.wo
  refine r_istore (ls' := [(0, .ref b), (1, .ref x), (2, .ref m), (3, .ref o), (4, .ref d), (5, .int (iI ((i : Int)))), (6, .int (iI k))]) dL_law_2747 (by decide) rfl ?_
  refine r_aload_n dL_law_2749 2 rfl ?_
  refine r_aload_n dL_law_2750 0 rfl ?_
  refine r_iload dL_law_2751 5 rfl ?_
  refine i_const (1) dL_law_2753 ?_
  refine i_add dL_law_2754 ?_
  refine r_sld hXs hb (i + 1) (by omega) (by omega) (by omega) dL_law_2755 ?_
  refine r_aload_n dL_law_2756 0 rfl ?_
  refine r_iload dL_law_2757 5 rfl ?_
  refine i_const (2) dL_law_2759 ?_
  refine i_add dL_law_2760 ?_
  refine r_sld hXs hb (i + 2) (by omega) (by omega) (by omega) dL_law_2761 ?_
  refine p_callV (As := [.int (iI (zs (i + 1))), .int (iI (zs (i + 2)))]) (b := m) (rest := []) (w := (some (.int w))) (st' := [.int w]) kv_L_law_322 dL_law_2762 rfl rfl (Nat.le_of_ble_eq_true rfl) (Nat.le_of_ble_eq_true rfl) (mb_rv hM2) rfl rfl (cm h2 c hM2) rfl (fun h3 e3 => ?_)
  obtain ⟨hM3, hF3⟩ := e3
  have fo3 := (hF3.2 o hDJ.2.2.1.2.1).trans fo2
  have mo3 : o ∈ h3.1 := by rw [hF3.1]; exact mo2
  refine r_istore (ls' := [(0, .ref b), (1, .ref x), (2, .ref m), (3, .ref o), (4, .ref d), (5, .int (iI ((i : Int)))), (6, .int (iI k)), (7, .int w)]) dL_law_2765 (by decide) rfl ?_
  refine r_aload_n dL_law_2767 2 rfl ?_
  refine p_callV (As := []) (b := m) (rest := []) (w := (some (.int (iI k)))) (st' := [.int (iI k)]) kv_L_law_166 dL_law_2768 rfl rfl (Nat.le_of_ble_eq_true rfl) (Nat.le_of_ble_eq_true rfl) (mb_rv hM3) rfl rfl (b_X12_thrown hM3) rfl (fun h9 e9 => ?_)
  rw [show h9 = h3 from e9]
  refine r_iload dL_law_2771 6 rfl ?_
  refine i_icmpeq dL_law_2773 (tgt := 2778) (by decide) (in32_k hk) (in32_k hk) (fun _ => ?_) (fun c => absurd rfl c)
  refine r_iload dL_law_2778 6 rfl ?_
  refine i_ifne dL_law_2780 (tgt := 2795) (by decide) (in32_k hk) (fun c2780 => ?_) (fun c2780 => ?_)
  · refine r_goto dL_law_2795 (tgt := 3134) (by decide) ?_
    refine rr_room (rr_sub (kk _ _ _ (LW.mk hDJ hD hX2 ⟨mo2, g2, fo2⟩ hF2 hM3 hF3 hI1)) (lsL_t rfl)) ?_ ?_
    · show kc ≤ kc + 3 - 3; omega
    · show ks ≤ ks + 18 - 18; omega
  · refine r_aload_n dL_law_2783 3 rfl ?_
    refine i_const (0) dL_law_2784 ?_
    refine i_lald0 dL_law_2785 mo3 fo3 (hg2 c2780) ?_
    refine r_iload dL_law_2786 7 rfl ?_
    refine r_i2l dL_law_2788 ?_
    refine i_lcmpe dL_law_2789 ?_
    refine i_ifeq dL_law_2790 (tgt := 2795) (by decide) ⟨by decide, by decide⟩ (fun _ => ?_) (fun c => absurd c (by decide))
    refine r_goto dL_law_2795 (tgt := 3134) (by decide) ?_
    refine rr_room (rr_sub (kk _ _ _ (LW.mk hDJ hD hX2 ⟨mo2, g2, fo2⟩ hF2 hM3 hF3 hI1)) (lsL_t rfl)) ?_ ?_
    · show kc ≤ kc + 3 - 3; omega
    · show ks ≤ ks + 18 - 18; omega
set_option maxRecDepth 20000 in
set_option maxHeartbeats 1000000 in
theorem lc_49 {G : xG} {K : xK} {sa : Nat → Nat} (hGC : GC G K sa) (hGT : GT G sa) (hGE : GE G) (hCA : GCA G) {b L : Nat} {zs : Nat → Int} (hXs : x_zz G (fun _ U H => va_X b L (fun j => iI (zs j)) U H)) (hb : b < G.2.2.2) (hL : L ≤ 3072) (hz : ∀ j, in32 (zs j)) {x m o d : Nat} {ad : XA} {a : MA} (hDJ : DJW x ad m a o d) {i : Nat} (hi : i + 6 ≤ L) {h : xH} {S : XS} {c : Int} (hW : LW G K sa x m o d ad a S c h) {kc ks : Nat} {Q : xR → xH → Prop} (kk : ∀ (h9 : xH) (S9 : XS) (c9 : Int), LW G K sa x m o d ad a S9 c9 h9 → RR G ML_law 3134 (lsL b x m o d i) [] h9 kc ks Q) : RR G ML_law 2798 (lsL b x m o d i) [] h (kc + 3) (ks + 18) Q := by
  obtain ⟨hX, hM, hI, hO, hD⟩ := hW
  obtain ⟨S1, k, V, mv, hI1, hk, hr, cl, cm⟩ := s_buyFlour hGC hGT hGE hCA (m := m) (a := a) hX hI hO hDJ.2.2.1.1 (hz (i + 1))
  obtain ⟨w, rfl, rfl⟩ := hr
  show RR G ML_law 2798 [(0, .ref b), (1, .ref x), (2, .ref m), (3, .ref o), (4, .ref d), (5, .int (iI ((i : Int))))] [] h (kc + 3) (ks + 18) Q
  refine r_aload_n dL_law_2798 1 rfl ?_
  refine r_aload_n dL_law_2799 0 rfl ?_
  refine r_iload dL_law_2800 5 rfl ?_
  refine i_const (1) dL_law_2802 ?_
  refine i_add dL_law_2803 ?_
  refine r_sld hXs hb (i + 1) (by omega) (by omega) (by omega) dL_law_2804 ?_
  refine r_aload_n dL_law_2805 3 rfl ?_
  refine k_callSW (As := [.ref x, .int (iI (zs (i + 1))), .ref o]) (rest := []) (w := some (.int (iI k))) (st' := [.int (iI k)]) kw_L_buyFlour dL_law_2806 rfl rfl (Nat.le_of_ble_eq_true rfl) (Nat.le_of_ble_eq_true rfl) (by show 3 ≤ kc + 3; omega) (by show 18 ≤ ks + 18; omega) cl rfl (fun h2 e2 => ?_)
  obtain ⟨hX2, ⟨mo2, g2, fo2, hg2⟩, hF2⟩ := e2
  have hM2 := hM.fr hF2 hDJ.mo hDJ.wo
  refine r_istore (ls' := [(0, .ref b), (1, .ref x), (2, .ref m), (3, .ref o), (4, .ref d), (5, .int (iI ((i : Int)))), (6, .int (iI k))]) dL_law_2809 (by decide) rfl ?_
  refine r_aload_n dL_law_2811 2 rfl ?_
  refine r_aload_n dL_law_2812 0 rfl ?_
  refine r_iload dL_law_2813 5 rfl ?_
  refine i_const (1) dL_law_2815 ?_
  refine i_add dL_law_2816 ?_
  refine r_sld hXs hb (i + 1) (by omega) (by omega) (by omega) dL_law_2817 ?_
  refine p_callV (As := [.int (iI (zs (i + 1)))]) (b := m) (rest := []) (w := (some (.int w))) (st' := [.int w]) kv_L_law_325 dL_law_2818 rfl rfl (Nat.le_of_ble_eq_true rfl) (Nat.le_of_ble_eq_true rfl) (mb_rv hM2) rfl rfl (cm h2 c hM2) rfl (fun h3 e3 => ?_)
  obtain ⟨hM3, hF3⟩ := e3
  have fo3 := (hF3.2 o hDJ.2.2.1.2.1).trans fo2
  have mo3 : o ∈ h3.1 := by rw [hF3.1]; exact mo2
  refine r_istore (ls' := [(0, .ref b), (1, .ref x), (2, .ref m), (3, .ref o), (4, .ref d), (5, .int (iI ((i : Int)))), (6, .int (iI k)), (7, .int w)]) dL_law_2821 (by decide) rfl ?_
  refine r_aload_n dL_law_2823 2 rfl ?_
  refine p_callV (As := []) (b := m) (rest := []) (w := (some (.int (iI k)))) (st' := [.int (iI k)]) kv_L_law_166 dL_law_2824 rfl rfl (Nat.le_of_ble_eq_true rfl) (Nat.le_of_ble_eq_true rfl) (mb_rv hM3) rfl rfl (b_X12_thrown hM3) rfl (fun h9 e9 => ?_)
  rw [show h9 = h3 from e9]
  refine r_iload dL_law_2827 6 rfl ?_
  refine i_icmpeq dL_law_2829 (tgt := 2834) (by decide) (in32_k hk) (in32_k hk) (fun _ => ?_) (fun c => absurd rfl c)
  refine r_iload dL_law_2834 6 rfl ?_
  refine i_ifne dL_law_2836 (tgt := 2851) (by decide) (in32_k hk) (fun c2836 => ?_) (fun c2836 => ?_)
  · refine r_goto dL_law_2851 (tgt := 3134) (by decide) ?_
    refine rr_room (rr_sub (kk _ _ _ (LW.mk hDJ hD hX2 ⟨mo2, g2, fo2⟩ hF2 hM3 hF3 hI1)) (lsL_t rfl)) ?_ ?_
    · show kc ≤ kc + 3 - 3; omega
    · show ks ≤ ks + 18 - 18; omega
  · refine r_aload_n dL_law_2839 3 rfl ?_
    refine i_const (0) dL_law_2840 ?_
    refine i_lald0 dL_law_2841 mo3 fo3 (hg2 c2836) ?_
    refine r_iload dL_law_2842 7 rfl ?_
    refine r_i2l dL_law_2844 ?_
    refine i_lcmpe dL_law_2845 ?_
    refine i_ifeq dL_law_2846 (tgt := 2851) (by decide) ⟨by decide, by decide⟩ (fun _ => ?_) (fun c => absurd c (by decide))
    refine r_goto dL_law_2851 (tgt := 3134) (by decide) ?_
    refine rr_room (rr_sub (kk _ _ _ (LW.mk hDJ hD hX2 ⟨mo2, g2, fo2⟩ hF2 hM3 hF3 hI1)) (lsL_t rfl)) ?_ ?_
    · show kc ≤ kc + 3 - 3; omega
    · show ks ≤ ks + 18 - 18; omega
set_option maxRecDepth 20000 in
set_option maxHeartbeats 1000000 in
theorem lc_50 {G : xG} {K : xK} {sa : Nat → Nat} (hGC : GC G K sa) (hGT : GT G sa) (hGE : GE G) (hCA : GCA G) {b L : Nat} {zs : Nat → Int} (hXs : x_zz G (fun _ U H => va_X b L (fun j => iI (zs j)) U H)) (hb : b < G.2.2.2) (hL : L ≤ 3072) (hz : ∀ j, in32 (zs j)) {x m o d : Nat} {ad : XA} {a : MA} (hDJ : DJW x ad m a o d) {i : Nat} (hi : i + 6 ≤ L) {h : xH} {S : XS} {c : Int} (hW : LW G K sa x m o d ad a S c h) {kc ks : Nat} {Q : xR → xH → Prop} (kk : ∀ (h9 : xH) (S9 : XS) (c9 : Int), LW G K sa x m o d ad a S9 c9 h9 → RR G ML_law 3134 (lsL b x m o d i) [] h9 kc ks Q) : RR G ML_law 2854 (lsL b x m o d i) [] h (kc + 3) (ks + 18) Q := by
  obtain ⟨hX, hM, hI, hO, hD⟩ := hW
  obtain ⟨S1, k, V, mv, hI1, hk, hr, cl, cm⟩ := s_runScript hGC hGT hGE hCA (m := m) (a := a) hX hI hO hDJ.2.2.1.1 (hz (i + 1))
  obtain ⟨w, rfl, rfl⟩ := hr
  show RR G ML_law 2854 [(0, .ref b), (1, .ref x), (2, .ref m), (3, .ref o), (4, .ref d), (5, .int (iI ((i : Int))))] [] h (kc + 3) (ks + 18) Q
  refine r_aload_n dL_law_2854 1 rfl ?_
  refine r_aload_n dL_law_2855 0 rfl ?_
  refine r_iload dL_law_2856 5 rfl ?_
  refine i_const (1) dL_law_2858 ?_
  refine i_add dL_law_2859 ?_
  refine r_sld hXs hb (i + 1) (by omega) (by omega) (by omega) dL_law_2860 ?_
  refine r_aload_n dL_law_2861 3 rfl ?_
  refine k_callSW (As := [.ref x, .int (iI (zs (i + 1))), .ref o]) (rest := []) (w := some (.int (iI k))) (st' := [.int (iI k)]) kw_L_runScript dL_law_2862 rfl rfl (Nat.le_of_ble_eq_true rfl) (Nat.le_of_ble_eq_true rfl) (by show 1 ≤ kc + 3; omega) (by show 6 ≤ ks + 18; omega) cl rfl (fun h2 e2 => ?_)
  obtain ⟨hX2, ⟨mo2, g2, fo2, hg2⟩, hF2⟩ := e2
  have hM2 := hM.fr hF2 hDJ.mo hDJ.wo
  refine r_istore (ls' := [(0, .ref b), (1, .ref x), (2, .ref m), (3, .ref o), (4, .ref d), (5, .int (iI ((i : Int)))), (6, .int (iI k))]) dL_law_2865 (by decide) rfl ?_
  refine r_aload_n dL_law_2867 2 rfl ?_
  refine r_aload_n dL_law_2868 0 rfl ?_
  refine r_iload dL_law_2869 5 rfl ?_
  refine i_const (1) dL_law_2871 ?_
  refine i_add dL_law_2872 ?_
  refine r_sld hXs hb (i + 1) (by omega) (by omega) (by omega) dL_law_2873 ?_
  refine p_callV (As := [.int (iI (zs (i + 1)))]) (b := m) (rest := []) (w := (some (.int w))) (st' := [.int w]) kv_L_law_328 dL_law_2874 rfl rfl (Nat.le_of_ble_eq_true rfl) (Nat.le_of_ble_eq_true rfl) (mb_rv hM2) rfl rfl (cm h2 c hM2) rfl (fun h3 e3 => ?_)
  obtain ⟨hM3, hF3⟩ := e3
  have fo3 := (hF3.2 o hDJ.2.2.1.2.1).trans fo2
  have mo3 : o ∈ h3.1 := by rw [hF3.1]; exact mo2
  refine r_istore (ls' := [(0, .ref b), (1, .ref x), (2, .ref m), (3, .ref o), (4, .ref d), (5, .int (iI ((i : Int)))), (6, .int (iI k)), (7, .int w)]) dL_law_2877 (by decide) rfl ?_
  refine r_aload_n dL_law_2879 2 rfl ?_
  refine p_callV (As := []) (b := m) (rest := []) (w := (some (.int (iI k)))) (st' := [.int (iI k)]) kv_L_law_166 dL_law_2880 rfl rfl (Nat.le_of_ble_eq_true rfl) (Nat.le_of_ble_eq_true rfl) (mb_rv hM3) rfl rfl (b_X12_thrown hM3) rfl (fun h9 e9 => ?_)
  rw [show h9 = h3 from e9]
  refine r_iload dL_law_2883 6 rfl ?_
  refine i_icmpeq dL_law_2885 (tgt := 2890) (by decide) (in32_k hk) (in32_k hk) (fun _ => ?_) (fun c => absurd rfl c)
  refine r_iload dL_law_2890 6 rfl ?_
  refine i_ifne dL_law_2892 (tgt := 2907) (by decide) (in32_k hk) (fun c2892 => ?_) (fun c2892 => ?_)
  · refine r_goto dL_law_2907 (tgt := 3134) (by decide) ?_
    refine rr_room (rr_sub (kk _ _ _ (LW.mk hDJ hD hX2 ⟨mo2, g2, fo2⟩ hF2 hM3 hF3 hI1)) (lsL_t rfl)) ?_ ?_
    · show kc ≤ kc + 3 - 1; omega
    · show ks ≤ ks + 18 - 6; omega
  · refine r_aload_n dL_law_2895 3 rfl ?_
    refine i_const (0) dL_law_2896 ?_
    refine i_lald0 dL_law_2897 mo3 fo3 (hg2 c2892) ?_
    refine r_iload dL_law_2898 7 rfl ?_
    refine r_i2l dL_law_2900 ?_
    refine i_lcmpe dL_law_2901 ?_
    refine i_ifeq dL_law_2902 (tgt := 2907) (by decide) ⟨by decide, by decide⟩ (fun _ => ?_) (fun c => absurd c (by decide))
    refine r_goto dL_law_2907 (tgt := 3134) (by decide) ?_
    refine rr_room (rr_sub (kk _ _ _ (LW.mk hDJ hD hX2 ⟨mo2, g2, fo2⟩ hF2 hM3 hF3 hI1)) (lsL_t rfl)) ?_ ?_
    · show kc ≤ kc + 3 - 1; omega
    · show ks ≤ ks + 18 - 6; omega
set_option maxRecDepth 20000 in
set_option maxHeartbeats 1000000 in
theorem lc_51 {G : xG} {K : xK} {sa : Nat → Nat} (hGC : GC G K sa) (hGT : GT G sa) (hGE : GE G) (hCA : GCA G) {b L : Nat} {zs : Nat → Int} (hXs : x_zz G (fun _ U H => va_X b L (fun j => iI (zs j)) U H)) (hb : b < G.2.2.2) (hL : L ≤ 3072) (hz : ∀ j, in32 (zs j)) {x m o d : Nat} {ad : XA} {a : MA} (hDJ : DJW x ad m a o d) {i : Nat} (hi : i + 6 ≤ L) {h : xH} {S : XS} {c : Int} (hW : LW G K sa x m o d ad a S c h) {kc ks : Nat} {Q : xR → xH → Prop} (kk : ∀ (h9 : xH) (S9 : XS) (c9 : Int), LW G K sa x m o d ad a S9 c9 h9 → RR G ML_law 3134 (lsL b x m o d i) [] h9 kc ks Q) : RR G ML_law 2910 (lsL b x m o d i) [] h (kc + 3) (ks + 18) Q := by
  obtain ⟨hX, hM, hI, hO, hD⟩ := hW
  obtain ⟨S1, k, V, mv, hI1, hk, hr, cl, cm⟩ := s_writeSheet hGC hGT hGE hCA (m := m) (a := a) hX hI hO hDJ.2.2.1.1 (hz (i + 1))
  obtain ⟨w, rfl, rfl⟩ := hr
  show RR G ML_law 2910 [(0, .ref b), (1, .ref x), (2, .ref m), (3, .ref o), (4, .ref d), (5, .int (iI ((i : Int))))] [] h (kc + 3) (ks + 18) Q
  refine r_aload_n dL_law_2910 1 rfl ?_
  refine r_aload_n dL_law_2911 0 rfl ?_
  refine r_iload dL_law_2912 5 rfl ?_
  refine i_const (1) dL_law_2914 ?_
  refine i_add dL_law_2915 ?_
  refine r_sld hXs hb (i + 1) (by omega) (by omega) (by omega) dL_law_2916 ?_
  refine r_aload_n dL_law_2917 3 rfl ?_
  refine k_callSW (As := [.ref x, .int (iI (zs (i + 1))), .ref o]) (rest := []) (w := some (.int (iI k))) (st' := [.int (iI k)]) kw_L_writeSheet dL_law_2918 rfl rfl (Nat.le_of_ble_eq_true rfl) (Nat.le_of_ble_eq_true rfl) (by show 1 ≤ kc + 3; omega) (by show 6 ≤ ks + 18; omega) cl rfl (fun h2 e2 => ?_)
  obtain ⟨hX2, ⟨mo2, g2, fo2, hg2⟩, hF2⟩ := e2
  have hM2 := hM.fr hF2 hDJ.mo hDJ.wo
  refine r_istore (ls' := [(0, .ref b), (1, .ref x), (2, .ref m), (3, .ref o), (4, .ref d), (5, .int (iI ((i : Int)))), (6, .int (iI k))]) dL_law_2921 (by decide) rfl ?_
  refine r_aload_n dL_law_2923 2 rfl ?_
  refine r_aload_n dL_law_2924 0 rfl ?_
  refine r_iload dL_law_2925 5 rfl ?_
  refine i_const (1) dL_law_2927 ?_
  refine i_add dL_law_2928 ?_
  refine r_sld hXs hb (i + 1) (by omega) (by omega) (by omega) dL_law_2929 ?_
  refine p_callV (As := [.int (iI (zs (i + 1)))]) (b := m) (rest := []) (w := (some (.int w))) (st' := [.int w]) kv_L_law_331 dL_law_2930 rfl rfl (Nat.le_of_ble_eq_true rfl) (Nat.le_of_ble_eq_true rfl) (mb_rv hM2) rfl rfl (cm h2 c hM2) rfl (fun h3 e3 => ?_)
  obtain ⟨hM3, hF3⟩ := e3
  have fo3 := (hF3.2 o hDJ.2.2.1.2.1).trans fo2
  have mo3 : o ∈ h3.1 := by rw [hF3.1]; exact mo2
  refine r_istore (ls' := [(0, .ref b), (1, .ref x), (2, .ref m), (3, .ref o), (4, .ref d), (5, .int (iI ((i : Int)))), (6, .int (iI k)), (7, .int w)]) dL_law_2933 (by decide) rfl ?_
  refine r_aload_n dL_law_2935 2 rfl ?_
  refine p_callV (As := []) (b := m) (rest := []) (w := (some (.int (iI k)))) (st' := [.int (iI k)]) kv_L_law_166 dL_law_2936 rfl rfl (Nat.le_of_ble_eq_true rfl) (Nat.le_of_ble_eq_true rfl) (mb_rv hM3) rfl rfl (b_X12_thrown hM3) rfl (fun h9 e9 => ?_)
  rw [show h9 = h3 from e9]
  refine r_iload dL_law_2939 6 rfl ?_
  refine i_icmpeq dL_law_2941 (tgt := 2946) (by decide) (in32_k hk) (in32_k hk) (fun _ => ?_) (fun c => absurd rfl c)
  refine r_iload dL_law_2946 6 rfl ?_
  refine i_ifne dL_law_2948 (tgt := 2963) (by decide) (in32_k hk) (fun c2948 => ?_) (fun c2948 => ?_)
  · refine r_goto dL_law_2963 (tgt := 3134) (by decide) ?_
    refine rr_room (rr_sub (kk _ _ _ (LW.mk hDJ hD hX2 ⟨mo2, g2, fo2⟩ hF2 hM3 hF3 hI1)) (lsL_t rfl)) ?_ ?_
    · show kc ≤ kc + 3 - 1; omega
    · show ks ≤ ks + 18 - 6; omega
  · refine r_aload_n dL_law_2951 3 rfl ?_
    refine i_const (0) dL_law_2952 ?_
    refine i_lald0 dL_law_2953 mo3 fo3 (hg2 c2948) ?_
    refine r_iload dL_law_2954 7 rfl ?_
    refine r_i2l dL_law_2956 ?_
    refine i_lcmpe dL_law_2957 ?_
    refine i_ifeq dL_law_2958 (tgt := 2963) (by decide) ⟨by decide, by decide⟩ (fun _ => ?_) (fun c => absurd c (by decide))
    refine r_goto dL_law_2963 (tgt := 3134) (by decide) ?_
    refine rr_room (rr_sub (kk _ _ _ (LW.mk hDJ hD hX2 ⟨mo2, g2, fo2⟩ hF2 hM3 hF3 hI1)) (lsL_t rfl)) ?_ ?_
    · show kc ≤ kc + 3 - 1; omega
    · show ks ≤ ks + 18 - 6; omega
set_option maxRecDepth 20000 in
set_option maxHeartbeats 1000000 in
theorem lc_52 {G : xG} {K : xK} {sa : Nat → Nat} (hGC : GC G K sa) (hGT : GT G sa) (hGE : GE G) (hCA : GCA G) {b L : Nat} {zs : Nat → Int} (hXs : x_zz G (fun _ U H => va_X b L (fun j => iI (zs j)) U H)) (hb : b < G.2.2.2) (hL : L ≤ 3072) (hz : ∀ j, in32 (zs j)) {x m o d : Nat} {ad : XA} {a : MA} (hDJ : DJW x ad m a o d) {i : Nat} (hi : i + 6 ≤ L) {h : xH} {S : XS} {c : Int} (hW : LW G K sa x m o d ad a S c h) {kc ks : Nat} {Q : xR → xH → Prop} (kk : ∀ (h9 : xH) (S9 : XS) (c9 : Int), LW G K sa x m o d ad a S9 c9 h9 → RR G ML_law 3134 (lsL b x m o d i) [] h9 kc ks Q) : RR G ML_law 2966 (lsL b x m o d i) [] h (kc + 3) (ks + 18) Q := by
  obtain ⟨hX, hM, hI, hO, hD⟩ := hW
  obtain ⟨S1, k, V, mv, hI1, hk, hr, cl, cm⟩ := s_outputByte hGC hGT hGE hCA (m := m) (a := a) hX hI hO hDJ.2.2.1.1 (hz (i + 1))
  obtain ⟨w, rfl, rfl⟩ := hr
  show RR G ML_law 2966 [(0, .ref b), (1, .ref x), (2, .ref m), (3, .ref o), (4, .ref d), (5, .int (iI ((i : Int))))] [] h (kc + 3) (ks + 18) Q
  refine r_aload_n dL_law_2966 1 rfl ?_
  refine r_aload_n dL_law_2967 0 rfl ?_
  refine r_iload dL_law_2968 5 rfl ?_
  refine i_const (1) dL_law_2970 ?_
  refine i_add dL_law_2971 ?_
  refine r_sld hXs hb (i + 1) (by omega) (by omega) (by omega) dL_law_2972 ?_
  refine r_aload_n dL_law_2973 3 rfl ?_
  refine k_callSW (As := [.ref x, .int (iI (zs (i + 1))), .ref o]) (rest := []) (w := some (.int (iI k))) (st' := [.int (iI k)]) kw_L_outputByte dL_law_2974 rfl rfl (Nat.le_of_ble_eq_true rfl) (Nat.le_of_ble_eq_true rfl) (by show 1 ≤ kc + 3; omega) (by show 6 ≤ ks + 18; omega) cl rfl (fun h2 e2 => ?_)
  obtain ⟨hX2, ⟨mo2, g2, fo2, hg2⟩, hF2⟩ := e2
  have hM2 := hM.fr hF2 hDJ.mo hDJ.wo
  refine r_istore (ls' := [(0, .ref b), (1, .ref x), (2, .ref m), (3, .ref o), (4, .ref d), (5, .int (iI ((i : Int)))), (6, .int (iI k))]) dL_law_2977 (by decide) rfl ?_
  refine r_aload_n dL_law_2979 2 rfl ?_
  refine r_aload_n dL_law_2980 0 rfl ?_
  refine r_iload dL_law_2981 5 rfl ?_
  refine i_const (1) dL_law_2983 ?_
  refine i_add dL_law_2984 ?_
  refine r_sld hXs hb (i + 1) (by omega) (by omega) (by omega) dL_law_2985 ?_
  refine p_callV (As := [.int (iI (zs (i + 1)))]) (b := m) (rest := []) (w := (some (.int w))) (st' := [.int w]) kv_L_law_334 dL_law_2986 rfl rfl (Nat.le_of_ble_eq_true rfl) (Nat.le_of_ble_eq_true rfl) (mb_rv hM2) rfl rfl (cm h2 c hM2) rfl (fun h3 e3 => ?_)
  obtain ⟨hM3, hF3⟩ := e3
  have fo3 := (hF3.2 o hDJ.2.2.1.2.1).trans fo2
  have mo3 : o ∈ h3.1 := by rw [hF3.1]; exact mo2
  refine r_istore (ls' := [(0, .ref b), (1, .ref x), (2, .ref m), (3, .ref o), (4, .ref d), (5, .int (iI ((i : Int)))), (6, .int (iI k)), (7, .int w)]) dL_law_2989 (by decide) rfl ?_
  refine r_aload_n dL_law_2991 2 rfl ?_
  refine p_callV (As := []) (b := m) (rest := []) (w := (some (.int (iI k)))) (st' := [.int (iI k)]) kv_L_law_166 dL_law_2992 rfl rfl (Nat.le_of_ble_eq_true rfl) (Nat.le_of_ble_eq_true rfl) (mb_rv hM3) rfl rfl (b_X12_thrown hM3) rfl (fun h9 e9 => ?_)
  rw [show h9 = h3 from e9]
  refine r_iload dL_law_2995 6 rfl ?_
  refine i_icmpeq dL_law_2997 (tgt := 3002) (by decide) (in32_k hk) (in32_k hk) (fun _ => ?_) (fun c => absurd rfl c)
  refine r_iload dL_law_3002 6 rfl ?_
  refine i_ifne dL_law_3004 (tgt := 3019) (by decide) (in32_k hk) (fun c3004 => ?_) (fun c3004 => ?_)
  · refine r_goto dL_law_3019 (tgt := 3134) (by decide) ?_
    refine rr_room (rr_sub (kk _ _ _ (LW.mk hDJ hD hX2 ⟨mo2, g2, fo2⟩ hF2 hM3 hF3 hI1)) (lsL_t rfl)) ?_ ?_
    · show kc ≤ kc + 3 - 1; omega
    · show ks ≤ ks + 18 - 6; omega
  · refine r_aload_n dL_law_3007 3 rfl ?_
    refine i_const (0) dL_law_3008 ?_
    refine i_lald0 dL_law_3009 mo3 fo3 (hg2 c3004) ?_
    refine r_iload dL_law_3010 7 rfl ?_
    refine r_i2l dL_law_3012 ?_
    refine i_lcmpe dL_law_3013 ?_
    refine i_ifeq dL_law_3014 (tgt := 3019) (by decide) ⟨by decide, by decide⟩ (fun _ => ?_) (fun c => absurd c (by decide))
    refine r_goto dL_law_3019 (tgt := 3134) (by decide) ?_
    refine rr_room (rr_sub (kk _ _ _ (LW.mk hDJ hD hX2 ⟨mo2, g2, fo2⟩ hF2 hM3 hF3 hI1)) (lsL_t rfl)) ?_ ?_
    · show kc ≤ kc + 3 - 1; omega
    · show ks ≤ ks + 18 - 6; omega
set_option maxRecDepth 20000 in
set_option maxHeartbeats 1000000 in
theorem lc_53 {G : xG} {K : xK} {sa : Nat → Nat} (hGC : GC G K sa) (hGT : GT G sa) (hGE : GE G) (hCA : GCA G) {b L : Nat} {zs : Nat → Int} (hXs : x_zz G (fun _ U H => va_X b L (fun j => iI (zs j)) U H)) (hb : b < G.2.2.2) (hL : L ≤ 3072) (hz : ∀ j, in32 (zs j)) {x m o d : Nat} {ad : XA} {a : MA} (hDJ : DJW x ad m a o d) {i : Nat} (hi : i + 6 ≤ L) {h : xH} {S : XS} {c : Int} (hW : LW G K sa x m o d ad a S c h) {kc ks : Nat} {Q : xR → xH → Prop} (kk : ∀ (h9 : xH) (S9 : XS) (c9 : Int), LW G K sa x m o d ad a S9 c9 h9 → RR G ML_law 3134 (lsL b x m o d i) [] h9 kc ks Q) : RR G ML_law 3022 (lsL b x m o d i) [] h (kc + 3) (ks + 18) Q := by
  obtain ⟨hX, hM, hI, hO, hD⟩ := hW
  obtain ⟨S1, w, hI1, cl, cm⟩ := s_undoableCount hGC hGT hGE (m := m) (a := a) hX hI
  show RR G ML_law 3022 [(0, .ref b), (1, .ref x), (2, .ref m), (3, .ref o), (4, .ref d), (5, .int (iI ((i : Int))))] [] h (kc + 3) (ks + 18) Q
  refine r_aload_n dL_law_3022 1 rfl ?_
  refine p_callV (As := []) (b := x) (rest := []) (w := (some (.int w))) (st' := [.int w]) kv_L_law_335 dL_law_3023 rfl rfl (Nat.le_of_ble_eq_true rfl) (Nat.le_of_ble_eq_true rfl) (xb_rv hX) rfl rfl cl rfl (fun h2 e2 => ?_)
  obtain ⟨hX2, hF2x⟩ := e2
  have hF2 : FRp (o :: fpX x ad) h h2 := hF2x.mono (fun q hq => List.mem_cons_of_mem _ hq)
  have hM2 := hM.fr hF2 hDJ.mo hDJ.wo
  have hO2 : AOj G h2 o := hO.fr hF2x hDJ.2.2.1.1
  refine r_aload_n dL_law_3026 2 rfl ?_
  refine p_callV (As := []) (b := m) (rest := [.int w]) (w := (some (.int w))) (st' := [.int w, .int w]) kv_L_law_338 dL_law_3027 rfl rfl (Nat.le_of_ble_eq_true rfl) (Nat.le_of_ble_eq_true rfl) (mb_rv hM2) rfl rfl (cm h2 c hM2) rfl (fun h3 e3 => ?_)
  obtain ⟨hM3, hF3⟩ := e3
  refine r_icmpeq dL_law_3030 (tgt := 3134) (by decide) (fun _ => ?_) (fun c => absurd rfl c)
  refine rr_room (rr_sub (kk _ _ _ (LW.mk hDJ hD hX2 hO2 hF2 hM3 hF3 hI1)) (lsL_t rfl)) ?_ ?_
  · exact Nat.le_add_right _ _
  · exact Nat.le_add_right _ _
set_option maxRecDepth 20000 in
set_option maxHeartbeats 1000000 in
theorem lc_54 {G : xG} {K : xK} {sa : Nat → Nat} (hGC : GC G K sa) (hGT : GT G sa) (hGE : GE G) (hCA : GCA G) {b L : Nat} {zs : Nat → Int} (hXs : x_zz G (fun _ U H => va_X b L (fun j => iI (zs j)) U H)) (hb : b < G.2.2.2) (hL : L ≤ 3072) (hz : ∀ j, in32 (zs j)) {x m o d : Nat} {ad : XA} {a : MA} (hDJ : DJW x ad m a o d) {i : Nat} (hi : i + 6 ≤ L) {h : xH} {S : XS} {c : Int} (hW : LW G K sa x m o d ad a S c h) {kc ks : Nat} {Q : xR → xH → Prop} (kk : ∀ (h9 : xH) (S9 : XS) (c9 : Int), LW G K sa x m o d ad a S9 c9 h9 → RR G ML_law 3134 (lsL b x m o d i) [] h9 kc ks Q) : RR G ML_law 3035 (lsL b x m o d i) [] h (kc + 3) (ks + 18) Q := by
  obtain ⟨hX, hM, hI, hO, hD⟩ := hW
  obtain ⟨S1, k, V, mv, hI1, hk, hr, cl, cm⟩ := s_undo hGC hGT hGE hCA (m := m) (a := a) hX hI hO hDJ.2.2.1.1 
  obtain ⟨w, rfl, rfl⟩ := hr
  show RR G ML_law 3035 [(0, .ref b), (1, .ref x), (2, .ref m), (3, .ref o), (4, .ref d), (5, .int (iI ((i : Int))))] [] h (kc + 3) (ks + 18) Q
  refine r_aload_n dL_law_3035 1 rfl ?_
  refine r_aload_n dL_law_3036 3 rfl ?_
  refine k_callSW (As := [.ref x, .ref o]) (rest := []) (w := some (.int (iI k))) (st' := [.int (iI k)]) kw_L_undo dL_law_3037 rfl rfl (Nat.le_of_ble_eq_true rfl) (Nat.le_of_ble_eq_true rfl) (by show 1 ≤ kc + 3; omega) (by show 6 ≤ ks + 18; omega) cl rfl (fun h2 e2 => ?_)
  obtain ⟨hX2, ⟨mo2, g2, fo2, hg2⟩, hF2⟩ := e2
  have hM2 := hM.fr hF2 hDJ.mo hDJ.wo
  refine r_istore (ls' := [(0, .ref b), (1, .ref x), (2, .ref m), (3, .ref o), (4, .ref d), (5, .int (iI ((i : Int)))), (6, .int (iI k))]) dL_law_3040 (by decide) rfl ?_
  refine r_aload_n dL_law_3042 2 rfl ?_
  refine p_callV (As := []) (b := m) (rest := []) (w := (some (.int w))) (st' := [.int w]) kv_L_law_342 dL_law_3043 rfl rfl (Nat.le_of_ble_eq_true rfl) (Nat.le_of_ble_eq_true rfl) (mb_rv hM2) rfl rfl (cm h2 c hM2) rfl (fun h3 e3 => ?_)
  obtain ⟨hM3, hF3⟩ := e3
  have fo3 := (hF3.2 o hDJ.2.2.1.2.1).trans fo2
  have mo3 : o ∈ h3.1 := by rw [hF3.1]; exact mo2
  refine r_istore (ls' := [(0, .ref b), (1, .ref x), (2, .ref m), (3, .ref o), (4, .ref d), (5, .int (iI ((i : Int)))), (6, .int (iI k)), (7, .int w)]) dL_law_3046 (by decide) rfl ?_
  refine r_aload_n dL_law_3048 2 rfl ?_
  refine p_callV (As := []) (b := m) (rest := []) (w := (some (.int (iI k)))) (st' := [.int (iI k)]) kv_L_law_166 dL_law_3049 rfl rfl (Nat.le_of_ble_eq_true rfl) (Nat.le_of_ble_eq_true rfl) (mb_rv hM3) rfl rfl (b_X12_thrown hM3) rfl (fun h9 e9 => ?_)
  rw [show h9 = h3 from e9]
  refine r_iload dL_law_3052 6 rfl ?_
  refine i_icmpeq dL_law_3054 (tgt := 3059) (by decide) (in32_k hk) (in32_k hk) (fun _ => ?_) (fun c => absurd rfl c)
  refine r_iload dL_law_3059 6 rfl ?_
  refine i_ifne dL_law_3061 (tgt := 3076) (by decide) (in32_k hk) (fun c3061 => ?_) (fun c3061 => ?_)
  · refine r_goto dL_law_3076 (tgt := 3134) (by decide) ?_
    refine rr_room (rr_sub (kk _ _ _ (LW.mk hDJ hD hX2 ⟨mo2, g2, fo2⟩ hF2 hM3 hF3 hI1)) (lsL_t rfl)) ?_ ?_
    · show kc ≤ kc + 3 - 1; omega
    · show ks ≤ ks + 18 - 6; omega
  · refine r_aload_n dL_law_3064 3 rfl ?_
    refine i_const (0) dL_law_3065 ?_
    refine i_lald0 dL_law_3066 mo3 fo3 (hg2 c3061) ?_
    refine r_iload dL_law_3067 7 rfl ?_
    refine r_i2l dL_law_3069 ?_
    refine i_lcmpe dL_law_3070 ?_
    refine i_ifeq dL_law_3071 (tgt := 3076) (by decide) ⟨by decide, by decide⟩ (fun _ => ?_) (fun c => absurd c (by decide))
    refine r_goto dL_law_3076 (tgt := 3134) (by decide) ?_
    refine rr_room (rr_sub (kk _ _ _ (LW.mk hDJ hD hX2 ⟨mo2, g2, fo2⟩ hF2 hM3 hF3 hI1)) (lsL_t rfl)) ?_ ?_
    · show kc ≤ kc + 3 - 1; omega
    · show ks ≤ ks + 18 - 6; omega
set_option maxRecDepth 20000 in
set_option maxHeartbeats 1000000 in
theorem lc_55 {G : xG} {K : xK} {sa : Nat → Nat} (hGC : GC G K sa) (hGT : GT G sa) (hGE : GE G) (hCA : GCA G) {b L : Nat} {zs : Nat → Int} (hXs : x_zz G (fun _ U H => va_X b L (fun j => iI (zs j)) U H)) (hb : b < G.2.2.2) (hL : L ≤ 3072) (hz : ∀ j, in32 (zs j)) {x m o d : Nat} {ad : XA} {a : MA} (hDJ : DJW x ad m a o d) {i : Nat} (hi : i + 6 ≤ L) {h : xH} {S : XS} {c : Int} (hW : LW G K sa x m o d ad a S c h) {kc ks : Nat} {Q : xR → xH → Prop} (kk : ∀ (h9 : xH) (S9 : XS) (c9 : Int), LW G K sa x m o d ad a S9 c9 h9 → RR G ML_law 3134 (lsL b x m o d i) [] h9 kc ks Q) : RR G ML_law 3079 (lsL b x m o d i) [] h (kc + 3) (ks + 18) Q := by
  obtain ⟨hX, hM, hI, hO, hD⟩ := hW
  obtain ⟨S1, hI1, cl, cm⟩ := s_saveSnapshot hGC hGT hGE (m := m) (a := a) hX hI
  show RR G ML_law 3079 [(0, .ref b), (1, .ref x), (2, .ref m), (3, .ref o), (4, .ref d), (5, .int (iI ((i : Int))))] [] h (kc + 3) (ks + 18) Q
  refine r_aload_n dL_law_3079 1 rfl ?_
  refine p_callV (As := []) (b := x) (rest := []) (w := none) (st' := []) kv_L_law_343 dL_law_3080 rfl rfl (Nat.le_of_ble_eq_true rfl) (Nat.le_of_ble_eq_true rfl) (xb_rv hX) rfl rfl cl rfl (fun h2 e2 => ?_)
  obtain ⟨hX2, hF2x⟩ := e2
  have hF2 : FRp (o :: fpX x ad) h h2 := hF2x.mono (fun q hq => List.mem_cons_of_mem _ hq)
  have hM2 := hM.fr hF2 hDJ.mo hDJ.wo
  have hO2 : AOj G h2 o := hO.fr hF2x hDJ.2.2.1.1
  refine r_aload_n dL_law_3083 2 rfl ?_
  refine p_callV (As := []) (b := m) (rest := []) (w := none) (st' := []) kv_L_law_346 dL_law_3084 rfl rfl (Nat.le_of_ble_eq_true rfl) (Nat.le_of_ble_eq_true rfl) (mb_rv hM2) rfl rfl (cm h2 c hM2) rfl (fun h3 e3 => ?_)
  obtain ⟨hM3, hF3⟩ := e3
  refine r_goto dL_law_3087 (tgt := 3134) (by decide) ?_
  refine rr_room (rr_sub (kk _ _ _ (LW.mk hDJ hD hX2 hO2 hF2 hM3 hF3 hI1)) (lsL_t rfl)) ?_ ?_
  · exact Nat.le_add_right _ _
  · exact Nat.le_add_right _ _
set_option maxRecDepth 20000 in
set_option maxHeartbeats 1000000 in
theorem lc_56 {G : xG} {K : xK} {sa : Nat → Nat} (hGC : GC G K sa) (hGT : GT G sa) (hGE : GE G) (hCA : GCA G) {b L : Nat} {zs : Nat → Int} (hXs : x_zz G (fun _ U H => va_X b L (fun j => iI (zs j)) U H)) (hb : b < G.2.2.2) (hL : L ≤ 3072) (hz : ∀ j, in32 (zs j)) {x m o d : Nat} {ad : XA} {a : MA} (hDJ : DJW x ad m a o d) {i : Nat} (hi : i + 6 ≤ L) {h : xH} {S : XS} {c : Int} (hW : LW G K sa x m o d ad a S c h) {kc ks : Nat} {Q : xR → xH → Prop} (kk : ∀ (h9 : xH) (S9 : XS) (c9 : Int), LW G K sa x m o d ad a S9 c9 h9 → RR G ML_law 3134 (lsL b x m o d i) [] h9 kc ks Q) : RR G ML_law 3090 (lsL b x m o d i) [] h (kc + 3) (ks + 18) Q := by
  obtain ⟨hX, hM, hI, hO, hD⟩ := hW
  obtain ⟨S1, k, V, mv, hI1, hk, hr, cl, cm⟩ := s_restoreSnapshot hGC hGT hGE hCA (m := m) (a := a) hX hI hO hDJ.2.2.1.1 
  obtain ⟨w, rfl, rfl⟩ := hr
  show RR G ML_law 3090 [(0, .ref b), (1, .ref x), (2, .ref m), (3, .ref o), (4, .ref d), (5, .int (iI ((i : Int))))] [] h (kc + 3) (ks + 18) Q
  refine r_aload_n dL_law_3090 1 rfl ?_
  refine r_aload_n dL_law_3091 3 rfl ?_
  refine k_callSW (As := [.ref x, .ref o]) (rest := []) (w := some (.int (iI k))) (st' := [.int (iI k)]) kw_L_restoreSnapshot dL_law_3092 rfl rfl (Nat.le_of_ble_eq_true rfl) (Nat.le_of_ble_eq_true rfl) (by show 1 ≤ kc + 3; omega) (by show 6 ≤ ks + 18; omega) cl rfl (fun h2 e2 => ?_)
  obtain ⟨hX2, ⟨mo2, g2, fo2, hg2⟩, hF2⟩ := e2
  have hM2 := hM.fr hF2 hDJ.mo hDJ.wo
  refine r_istore (ls' := [(0, .ref b), (1, .ref x), (2, .ref m), (3, .ref o), (4, .ref d), (5, .int (iI ((i : Int)))), (6, .int (iI k))]) dL_law_3095 (by decide) rfl ?_
  refine r_aload_n dL_law_3097 2 rfl ?_
  refine p_callV (As := []) (b := m) (rest := []) (w := (some (.int w))) (st' := [.int w]) kv_L_law_349 dL_law_3098 rfl rfl (Nat.le_of_ble_eq_true rfl) (Nat.le_of_ble_eq_true rfl) (mb_rv hM2) rfl rfl (cm h2 c hM2) rfl (fun h3 e3 => ?_)
  obtain ⟨hM3, hF3⟩ := e3
  have fo3 := (hF3.2 o hDJ.2.2.1.2.1).trans fo2
  have mo3 : o ∈ h3.1 := by rw [hF3.1]; exact mo2
  refine r_istore (ls' := [(0, .ref b), (1, .ref x), (2, .ref m), (3, .ref o), (4, .ref d), (5, .int (iI ((i : Int)))), (6, .int (iI k)), (7, .int w)]) dL_law_3101 (by decide) rfl ?_
  refine r_aload_n dL_law_3103 2 rfl ?_
  refine p_callV (As := []) (b := m) (rest := []) (w := (some (.int (iI k)))) (st' := [.int (iI k)]) kv_L_law_166 dL_law_3104 rfl rfl (Nat.le_of_ble_eq_true rfl) (Nat.le_of_ble_eq_true rfl) (mb_rv hM3) rfl rfl (b_X12_thrown hM3) rfl (fun h9 e9 => ?_)
  rw [show h9 = h3 from e9]
  refine r_iload dL_law_3107 6 rfl ?_
  refine i_icmpeq dL_law_3109 (tgt := 3114) (by decide) (in32_k hk) (in32_k hk) (fun _ => ?_) (fun c => absurd rfl c)
  refine r_iload dL_law_3114 6 rfl ?_
  refine i_ifne dL_law_3116 (tgt := 3131) (by decide) (in32_k hk) (fun c3116 => ?_) (fun c3116 => ?_)
  · refine r_goto dL_law_3131 (tgt := 3134) (by decide) ?_
    refine rr_room (rr_sub (kk _ _ _ (LW.mk hDJ hD hX2 ⟨mo2, g2, fo2⟩ hF2 hM3 hF3 hI1)) (lsL_t rfl)) ?_ ?_
    · show kc ≤ kc + 3 - 1; omega
    · show ks ≤ ks + 18 - 6; omega
  · refine r_aload_n dL_law_3119 3 rfl ?_
    refine i_const (0) dL_law_3120 ?_
    refine i_lald0 dL_law_3121 mo3 fo3 (hg2 c3116) ?_
    refine r_iload dL_law_3122 7 rfl ?_
    refine r_i2l dL_law_3124 ?_
    refine i_lcmpe dL_law_3125 ?_
    refine i_ifeq dL_law_3126 (tgt := 3131) (by decide) ⟨by decide, by decide⟩ (fun _ => ?_) (fun c => absurd c (by decide))
    refine r_goto dL_law_3131 (tgt := 3134) (by decide) ?_
    refine rr_room (rr_sub (kk _ _ _ (LW.mk hDJ hD hX2 ⟨mo2, g2, fo2⟩ hF2 hM3 hF3 hI1)) (lsL_t rfl)) ?_ ?_
    · show kc ≤ kc + 3 - 1; omega
    · show ks ≤ ks + 18 - 6; omega
