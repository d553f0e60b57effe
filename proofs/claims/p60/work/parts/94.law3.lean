/-! ===== all that the law looks at of a bench ===== -/
def SL7 (s : AS) : List Int := [(s.1.length : Int), s.2.1, s.2.2.1, s.2.2.2.1.toInt, b2 s.2.2.2.2.1, b2 s.2.2.2.2.2.1, b2 s.2.2.2.2.2.2]
def SLl (s : AS) : List Int := SL7 s ++ s.1
def PK (B : AB) (k : Nat) : List Int := [(B.2.length : Int), B.1.2.2.1, B.1.2.2.2.1, B.1.2.2.2.2.1, B.1.2.2.2.2.2] ++ (B.2.take k).flatMap SLl
def AL (B : AB) : List Int := PK B B.2.length
def sL (L : List AS) : Nat := (L.map (fun s => s.1.length)).sum
theorem sL_s {L : List AS} {i : Nat} (h : i < L.length) : sL (L.take (i + 1)) = sL (L.take i) + (L.getD i dS).1.length := by
  rw [take_sS h]; simp [sL]
theorem sL_le {L : List AS} (h : ∀ s ∈ L, s.1.length ≤ 200) : sL L ≤ 200 * L.length := by
  induction L with
  | nil => simp [sL]
  | cons s t ih =>
    have h1 := h s List.mem_cons_self
    have h2 := ih (fun x hx => h x (List.mem_cons_of_mem _ hx))
    have e : sL (s :: t) = s.1.length + sL t := by simp [sL]
    rw [e, List.length_cons]; omega
theorem SL_len (L : List AS) : (L.flatMap SLl).length = 7 * L.length + sL L := by
  induction L with
  | nil => simp [sL]
  | cons s t ih =>
    have e : sL (s :: t) = s.1.length + sL t := by simp [sL]
    have e2 : (SLl s).length = 7 + s.1.length := by unfold SLl SL7; rw [List.length_append]; rfl
    rw [List.flatMap_cons, List.length_append, ih, e, e2, List.length_cons]; omega
theorem AL_len (B : AB) : (AL B).length = 5 + 7 * B.2.length + sL B.2 := by
  unfold AL PK
  rw [List.length_append, List.take_length, SL_len]
  show 5 + _ = _
  omega
theorem PK_s {B : AB} {k : Nat} (h : k < B.2.length) : PK B (k + 1) = PK B k ++ SL7 (B.2.getD k dS) ++ (B.2.getD k dS).1 := by
  unfold PK
  rw [take_sS h, List.flatMap_append]
  show _ ++ (_ ++ ([B.2.getD k dS].flatMap SLl)) = _
  rw [List.flatMap_singleton]
  unfold SLl
  simp only [List.append_assoc]
theorem PK_le {B : AB} {k : Nat} (h : k ≤ B.2.length) : (PK B k).length ≤ (AL B).length := by
  have e := List.take_append_drop k B.2
  have e2 : PK B B.2.length = PK B k ++ (B.2.drop k).flatMap SLl := by
    unfold PK
    rw [List.append_assoc, ← List.flatMap_append, e, List.take_length]
  show _ ≤ (PK B B.2.length).length
  rw [e2, List.length_append]; omega
def FILL (g : Nat → Int32) (P : List Int) (a : Nat) : Prop := a = P.length ∧ ∀ k, k < P.length → g k = iI (P.getD k 0)
theorem FILL.s {g : Nat → Int32} {P : List Int} {a : Nat} (h : FILL g P a) {V : Int32} {v : Int} (hv : V = iI v) : FILL (upd g a V) (P ++ [v]) (a + 1) := by
  obtain ⟨h1, h2⟩ := h
  subst h1; subst hv
  exact ⟨by rw [List.length_append]; rfl, cat_upd h2⟩
theorem FILL.cast {g : Nat → Int32} {P P' : List Int} {a : Nat} (e : P = P') (h : FILL g P a) : FILL g P' a := by rw [← e]; exact h
theorem FILL.nil {g : Nat → Int32} : FILL g [] 0 := ⟨rfl, fun k hk => absurd hk (Nat.not_lt_zero k)⟩
theorem sgn_t {x : Int} (h : isB x = true) : -(sz x) = x := by
  have : x < 0 := of_decide_eq_true h
  unfold sz; rw [if_pos this]; omega
theorem sgn_f {x : Int} (h : isB x = false) : sz x = x := by
  have : ¬ x < 0 := of_decide_eq_false h
  unfold sz; rw [if_neg this]
set_option maxRecDepth 20000 in
set_option maxHeartbeats 1000000 in
theorem c_L_all {G : xG} {h : xH} {K : xK} {sa : Nat → Nat} (hGC : GC G K sa) (hGT : GT G sa) (hGE : GE G) {x : Nat} {ad : XA} {S : XS} (hX : XB G h K x ad S) (hW : WX S) (hXm : ∀ q ∈ fpX x ad, q ∈ h.1) : CC G ML_all [.ref x] h (qN (fun q h' => ∃ g : Nat → Int32, NEW1 h h' q (.inl (G.2.1 0, (AL S.2.2.1).length, .inl g)) ∧ ∀ k, k < (AL S.2.2.1).length → g k = iI ((AL S.2.2.1).getD k 0))) := by
  have hlen := hX.len
  have hl6 := hlen.1
  have hAL := AL_len S.2.2.1
  have hsl := sL_le hlen.2
  have L1 : ∀ k, k ≤ S.2.2.1.2.length → RR G ML_all 9 [(0, .ref x), (1, .int (iI ((S.2.2.1.2.length : Int)))), (2, .int (iI ((sL (S.2.2.1.2.take k) : Int)))), (3, .int (iI ((k : Int))))] [] h (xm_R ML_all).cells (xm_R ML_all).slots (qN (fun q h' => ∃ g : Nat → Int32, NEW1 h h' q (.inl (G.2.1 0, (AL S.2.2.1).length, .inl g)) ∧ ∀ k, k < (AL S.2.2.1).length → g k = iI ((AL S.2.2.1).getD k 0))) := by
    refine down (fun k hk ih => ?_)
    by_cases hkn : k < S.2.2.1.2.length
    · have hzk : in32 (k : Int) := by unfold in32; omega
      have hsk : hasS S.2.2.1 (k : Int) = true := by unfold hasS; simp; omega
      have hlk : (sAt S.2.2.1 (k : Int)).1.length ≤ 200 := hlen.2 _ (getD_memS (i := k) (by omega))
      have hst : sL (S.2.2.1.2.take k) ≤ 200 * 6 := Nat.le_trans (sL_le (fun s hs => hlen.2 s (List.mem_of_mem_take hs))) (by rw [List.length_take]; omega)
      refine r_iload_n dL_all_9 3 rfl ?_
      refine r_iload_n dL_all_10 1 rfl ?_
      refine i_icmpge dL_all_11 (tgt := 28) (by decide) (by unfold in32; omega) (by unfold in32; omega) (fun c => (by exfalso; omega)) (fun _ => ?_)
      refine r_iload_n dL_all_14 2 rfl ?_
      refine r_aload_n dL_all_15 0 rfl ?_
      refine r_iload_n dL_all_16 3 rfl ?_
      refine p_callV (As := [.int (iI ((k : Int)))]) (b := x) (rest := [.int (iI ((sL (S.2.2.1.2.take k) : Int)))]) (w := (some (.int (iI (((sAt S.2.2.1 (k : Int)).1.length : Int)))))) (st' := [.int (iI (((sAt S.2.2.1 (k : Int)).1.length : Int))), .int (iI ((sL (S.2.2.1.2.take k) : Int)))]) kv_L_all_33 dL_all_17 rfl rfl (Nat.le_of_ble_eq_true rfl) (Nat.le_of_ble_eq_true rfl) (xb_rv hX) rfl rfl (c_X11_layerCount_ok hGC hGT hGE hX hW hzk hsk) rfl (fun hk1 e9k1 => ?_)
      rw [show hk1 = h from e9k1]
      refine i_add dL_all_20 ?_
      refine r_istore_n (ls' := [(0, .ref x), (1, .int (iI ((S.2.2.1.2.length : Int)))), (2, .int (iI ((sL (S.2.2.1.2.take k) : Int) + ((sAt S.2.2.1 (k : Int)).1.length : Int)))), (3, .int (iI ((k : Int))))]) dL_all_21 (by decide) rfl ?_
      refine i_iinc (ls' := [(0, .ref x), (1, .int (iI ((S.2.2.1.2.length : Int)))), (2, .int (iI ((sL (S.2.2.1.2.take k) : Int) + ((sAt S.2.2.1 (k : Int)).1.length : Int)))), (3, .int (iI ((k : Int) + 1)))]) (1) (v := (k : Int) + 1) dL_all_22 3 rfl (by omega) (by decide) rfl ?_
      refine r_goto dL_all_25 (tgt := 9) (by decide) ?_
      have es := sL_s (L := S.2.2.1.2) (i := k) (by omega)
      rw [show (sL (S.2.2.1.2.take k) : Int) + ((sAt S.2.2.1 (k : Int)).1.length : Int) = (sL (S.2.2.1.2.take (k + 1)) : Int) by rw [es]; push_cast; rfl]
      exact ih (k + 1) (by omega) (by omega)
    · refine r_iload_n dL_all_9 3 rfl ?_
      refine r_iload_n dL_all_10 1 rfl ?_
      refine i_icmpge dL_all_11 (tgt := 28) (by decide) (by unfold in32; omega) (by unfold in32; omega) (fun _ => ?_) (fun c => (by exfalso; omega))
      have ek : k = S.2.2.1.2.length := by omega
      subst ek
      rw [List.take_length]
      refine rr_take 3 rfl ?_
      refine i_const (5) dL_all_28 ?_
      refine i_bipush (7) (by decide) dL_all_29 ?_
      refine r_iload_n dL_all_31 1 rfl ?_
      refine i_mul dL_all_32 ?_
      refine i_add dL_all_33 ?_
      refine r_iload_n dL_all_34 2 rfl ?_
      refine i_add dL_all_35 ?_
      refine i_newI ((AL S.2.2.1).length) (by omega) (by omega) dL_all_36 (Nat.le_of_ble_eq_true rfl) (Nat.le_trans (show (AL S.2.2.1).length ≤ 1300 by omega) (Nat.le_of_ble_eq_true rfl)) (fun q h1 hq e0_n e1_n e2_n => ?_)
      have mq : q ∈ h1.1 := by rw [e0_n]; exact List.mem_append_right _ (List.mem_singleton.mpr rfl)
      refine r_astore_n (ls' := [(0, .ref x), (1, .int (iI ((S.2.2.1.2.length : Int)))), (2, .int (iI ((sL S.2.2.1.2 : Int)))), (3, .ref q)]) dL_all_38 (by decide) rfl ?_
      have hX1 : XB G h1 K x ad S := hX.gr ((GRp.new hq e0_n e2_n).mono (fun _ z => absurd z List.not_mem_nil) : GRp [] h h1) (fun _ _ z => absurd z List.not_mem_nil)
      have hqn := hq
      have hqx : q ∉ fpX x ad := fun z => hq (hXm q z)
      have L2 : ∀ k, k ≤ S.2.2.1.2.length → ∀ (a : Nat) (g : Nat → Int32) (h2 : xH), FRp [q] h1 h2 → h2.2 q = .inl (G.2.1 0, (AL S.2.2.1).length, .inl g) → FILL g (PK S.2.2.1 k) a → RR G ML_all 97 [(0, .ref x), (1, .int (iI ((S.2.2.1.2.length : Int)))), (2, .int (iI ((sL S.2.2.1.2 : Int)))), (3, .ref q), (4, .int (iI ((a : Int)))), (5, .int (iI ((k : Int))))] [] h2 ((xm_R ML_all).cells - 1) ((xm_R ML_all).slots - (AL S.2.2.1).length) (qN (fun q h' => ∃ g : Nat → Int32, NEW1 h h' q (.inl (G.2.1 0, (AL S.2.2.1).length, .inl g)) ∧ ∀ k, k < (AL S.2.2.1).length → g k = iI ((AL S.2.2.1).getD k 0))) := by
        refine down (fun k hk ihk => ?_)
        intro a g h2 hF2 fq2 hFi
        by_cases hkn : k < S.2.2.1.2.length
        rotate_left
        · have hpk := PK_le (B := S.2.2.1) hk
          have mq2 : q ∈ h2.1 := by rw [hF2.1]; exact mq
          have hX2 := hX1.fr hF2 (fun y hy z => hqx (by rw [← List.mem_singleton.mp z]; exact hy))
          refine r_iload dL_all_97 5 rfl ?_
          refine r_iload_n dL_all_99 1 rfl ?_
          refine i_icmpge dL_all_100 (tgt := 282) (by decide) (by unfold in32; omega) (by unfold in32; omega) (fun _ => ?_) (fun c => (by exfalso; omega))
          refine r_aload_n dL_all_282 3 rfl ?_
          refine r_areturnA rfl dL_all_283 ?_
          have ek : k = S.2.2.1.2.length := by omega
          subst ek
          exact ⟨q, rfl, g, ⟨hqn, by rw [hF2.1]; exact e0_n, fq2, fun y hy => (hF2.2 y (fun z => hy (List.mem_singleton.mp z))).trans (e2_n y hy)⟩, hFi.2⟩
        · have hzk : in32 (k : Int) := by unfold in32; omega
          have hsk : hasS S.2.2.1 (k : Int) = true := by unfold hasS; simp; omega
          have hlk : (sAt S.2.2.1 (k : Int)).1.length ≤ 200 := hlen.2 _ (getD_memS (i := k) (by omega))
          have L3 : ∀ i, i ≤ (sAt S.2.2.1 (k : Int)).1.length → ∀ (c : Nat) (g : Nat → Int32) (h2 : xH), FRp [q] h1 h2 → h2.2 q = .inl (G.2.1 0, (AL S.2.2.1).length, .inl g) → FILL g (PK S.2.2.1 k ++ SL7 (sAt S.2.2.1 (k : Int)) ++ (sAt S.2.2.1 (k : Int)).1.take i) c → RR G ML_all 221 [(0, .ref x), (1, .int (iI ((S.2.2.1.2.length : Int)))), (2, .int (iI ((sL S.2.2.1.2 : Int)))), (3, .ref q), (4, .int (iI ((c : Int)))), (5, .int (iI ((k : Int)))), (6, .int (iI ((i : Int))))] [] h2 ((xm_R ML_all).cells - 1) ((xm_R ML_all).slots - (AL S.2.2.1).length) (qN (fun q h' => ∃ g : Nat → Int32, NEW1 h h' q (.inl (G.2.1 0, (AL S.2.2.1).length, .inl g)) ∧ ∀ k, k < (AL S.2.2.1).length → g k = iI ((AL S.2.2.1).getD k 0))) := by
            refine down (fun i hi ih => ?_)
            intro c g h2 hF2 fq2 hFi
            have mq2 : q ∈ h2.1 := by rw [hF2.1]; exact mq
            have hX2 := hX1.fr hF2 (fun y hy z => hqx (by rw [← List.mem_singleton.mp z]; exact hy))
            have hci := hFi.1
            rw [List.length_append, List.length_append, List.length_take] at hci
            have h7 : (SL7 (sAt S.2.2.1 (k : Int))).length = 7 := rfl
            have hpk := PK_le (B := S.2.2.1) (k := k + 1) (by omega)
            rw [PK_s (by omega), List.length_append, List.length_append] at hpk
            have hpk2 : (PK S.2.2.1 k).length + (SL7 (sAt S.2.2.1 (k : Int))).length + (sAt S.2.2.1 (k : Int)).1.length ≤ (AL S.2.2.1).length := hpk
            refine r_iload dL_all_221 6 rfl ?_
            refine r_aload_n dL_all_223 0 rfl ?_
            refine r_iload dL_all_224 5 rfl ?_
            refine p_callV (As := [.int (iI ((k : Int)))]) (b := x) (rest := [.int (iI ((i : Int)))]) (w := (some (.int (iI (((sAt S.2.2.1 (k : Int)).1.length : Int)))))) (st' := [.int (iI (((sAt S.2.2.1 (k : Int)).1.length : Int))), .int (iI ((i : Int)))]) kv_L_all_33 dL_all_226 rfl rfl (Nat.le_of_ble_eq_true rfl) (Nat.le_of_ble_eq_true rfl) (xb_rv hX2) rfl rfl (c_X11_layerCount_ok hGC hGT hGE hX2 hW hzk hsk) rfl (fun hk1 e9k1 => ?_)
            rw [show hk1 = h2 from e9k1]
            refine i_icmpge dL_all_229 (tgt := 276) (by decide) (by unfold in32; omega) (by unfold in32; omega) (fun c229 => ?_) (fun c229 => ?_)
            · refine i_iinc (ls' := [(0, .ref x), (1, .int (iI ((S.2.2.1.2.length : Int)))), (2, .int (iI ((sL S.2.2.1.2 : Int)))), (3, .ref q), (4, .int (iI ((c : Int)))), (5, .int (iI ((k : Int) + 1))), (6, .int (iI ((i : Int))))]) (1) (v := (k : Int) + 1) dL_all_276 5 rfl (by omega) (by decide) rfl ?_
              refine r_goto dL_all_279 (tgt := 97) (by decide) ?_
              have ei : i = (sAt S.2.2.1 (k : Int)).1.length := by omega
              subst ei
              refine rr_take 6 rfl ?_
              refine ihk (k + 1) (by omega) (by omega) c g h2 hF2 fq2 (hFi.cast ?_)
              rw [List.take_length, PK_s (by omega)]; rfl
            · refine r_aload_n dL_all_232 3 rfl ?_
              refine r_iload dL_all_233 4 rfl ?_
              refine i_iinc (ls' := [(0, .ref x), (1, .int (iI ((S.2.2.1.2.length : Int)))), (2, .int (iI ((sL S.2.2.1.2 : Int)))), (3, .ref q), (4, .int (iI ((c : Int) + 1))), (5, .int (iI ((k : Int)))), (6, .int (iI ((i : Int))))]) (1) (v := (c : Int) + 1) dL_all_235 4 rfl (by omega) (by decide) rfl ?_
              refine r_aload_n dL_all_238 0 rfl ?_
              refine r_iload dL_all_239 5 rfl ?_
              refine r_iload dL_all_241 6 rfl ?_
              refine p_callV (As := [.int (iI ((k : Int))), .int (iI ((i : Int)))]) (b := x) (rest := [.int (iI ((c : Int))), .ref q]) (w := (some (.int (iI (b2 (isB ((sAt S.2.2.1 (k : Int)).1.getD i 0))))))) (st' := [.int (iI (b2 (isB ((sAt S.2.2.1 (k : Int)).1.getD i 0)))), .int (iI ((c : Int))), .ref q]) kv_L_all_68 dL_all_243 rfl rfl (Nat.le_of_ble_eq_true rfl) (Nat.le_of_ble_eq_true rfl) (xb_rv hX2) rfl rfl (c_X11_isButter_ok hGC hGT hGE hX2 hW hzk hsk (q := (i : Int)) (by unfold in32; omega) (by omega)) rfl (fun hk2 e9k2 => ?_)
              rw [show hk2 = h2 from e9k2]
              refine i_ifeqb dL_all_246 (tgt := 261) (by decide) (fun c246 => ?_) (fun c246 => ?_)
              · refine r_aload_n dL_all_261 0 rfl ?_
                refine r_iload dL_all_262 5 rfl ?_
                refine r_iload dL_all_264 6 rfl ?_
                refine p_callV (As := [.int (iI ((k : Int))), .int (iI ((i : Int)))]) (b := x) (rest := [.int (iI ((c : Int))), .ref q]) (w := (some (.int (iI (sz ((sAt S.2.2.1 (k : Int)).1.getD i 0)))))) (st' := [.int (iI (sz ((sAt S.2.2.1 (k : Int)).1.getD i 0))), .int (iI ((c : Int))), .ref q]) kv_L_all_72 dL_all_266 rfl rfl (Nat.le_of_ble_eq_true rfl) (Nat.le_of_ble_eq_true rfl) (xb_rv hX2) rfl rfl (c_X11_thickness_ok hGC hGT hGE hX2 hW hzk hsk (q := (i : Int)) (by unfold in32; omega) (by omega)) rfl (fun hk3 e9k3 => ?_)
                rw [show hk3 = h2 from e9k3]
                refine i_iast c rfl dL_all_269 mq2 fq2 (by omega) (by omega) (fun h4 e0_4 e1_4 e2_4 => ?_)
                have mq_4 : q ∈ h4.1 := by rw [e0_4]; exact mq2
                refine i_iinc (ls' := [(0, .ref x), (1, .int (iI ((S.2.2.1.2.length : Int)))), (2, .int (iI ((sL S.2.2.1.2 : Int)))), (3, .ref q), (4, .int (iI ((c : Int) + 1))), (5, .int (iI ((k : Int)))), (6, .int (iI ((i : Int) + 1)))]) (1) (v := (i : Int) + 1) dL_all_270 6 rfl (by omega) (by decide) rfl ?_
                refine r_goto dL_all_273 (tgt := 221) (by decide) ?_
                have hFL := hFi.s (V := _) (v := (sAt S.2.2.1 (k : Int)).1.getD i 0) (show iI (sz ((sAt S.2.2.1 (k : Int)).1.getD i 0)) = iI ((sAt S.2.2.1 (k : Int)).1.getD i 0) by rw [sgn_f c246])
                refine ih (i + 1) (by omega) (by omega) (c + 1) _ h4 (hF2.tr (FRp.w (List.mem_singleton.mpr rfl) e0_4 e2_4)) e1_4 (hFL.cast ?_)
                rw [take_s (by omega), ← List.append_assoc]
              · refine r_aload_n dL_all_249 0 rfl ?_
                refine r_iload dL_all_250 5 rfl ?_
                refine r_iload dL_all_252 6 rfl ?_
                refine p_callV (As := [.int (iI ((k : Int))), .int (iI ((i : Int)))]) (b := x) (rest := [.int (iI ((c : Int))), .ref q]) (w := (some (.int (iI (sz ((sAt S.2.2.1 (k : Int)).1.getD i 0)))))) (st' := [.int (iI (sz ((sAt S.2.2.1 (k : Int)).1.getD i 0))), .int (iI ((c : Int))), .ref q]) kv_L_all_72 dL_all_254 rfl rfl (Nat.le_of_ble_eq_true rfl) (Nat.le_of_ble_eq_true rfl) (xb_rv hX2) rfl rfl (c_X11_thickness_ok hGC hGT hGE hX2 hW hzk hsk (q := (i : Int)) (by unfold in32; omega) (by omega)) rfl (fun hk5 e9k5 => ?_)
                rw [show hk5 = h2 from e9k5]
                refine i_neg dL_all_257 ?_
                refine r_goto dL_all_258 (tgt := 269) (by decide) ?_
                refine i_iast c rfl dL_all_269 mq2 fq2 (by omega) (by omega) (fun h6 e0_6 e1_6 e2_6 => ?_)
                have mq_6 : q ∈ h6.1 := by rw [e0_6]; exact mq2
                refine i_iinc (ls' := [(0, .ref x), (1, .int (iI ((S.2.2.1.2.length : Int)))), (2, .int (iI ((sL S.2.2.1.2 : Int)))), (3, .ref q), (4, .int (iI ((c : Int) + 1))), (5, .int (iI ((k : Int)))), (6, .int (iI ((i : Int) + 1)))]) (1) (v := (i : Int) + 1) dL_all_270 6 rfl (by omega) (by decide) rfl ?_
                refine r_goto dL_all_273 (tgt := 221) (by decide) ?_
                have hFL := hFi.s (V := _) (v := (sAt S.2.2.1 (k : Int)).1.getD i 0) (show iI (-sz ((sAt S.2.2.1 (k : Int)).1.getD i 0)) = iI ((sAt S.2.2.1 (k : Int)).1.getD i 0) by rw [sgn_t c246])
                refine ih (i + 1) (by omega) (by omega) (c + 1) _ h6 (hF2.tr (FRp.w (List.mem_singleton.mpr rfl) e0_6 e2_6)) e1_6 (hFL.cast ?_)
                rw [take_s (by omega), ← List.append_assoc]
          have mq2 : q ∈ h2.1 := by rw [hF2.1]; exact mq
          have hX2 := hX1.fr hF2 (fun y hy z => hqx (by rw [← List.mem_singleton.mp z]; exact hy))
          have hai := hFi.1
          have hpk := PK_le (B := S.2.2.1) (k := k + 1) (by omega)
          rw [PK_s (by omega), List.length_append, List.length_append] at hpk
          have h7 : (SL7 (S.2.2.1.2.getD k dS)).length = 7 := rfl
          refine r_iload dL_all_97 5 rfl ?_
          refine r_iload_n dL_all_99 1 rfl ?_
          refine i_icmpge dL_all_100 (tgt := 282) (by decide) (by unfold in32; omega) (by unfold in32; omega) (fun c => (by exfalso; omega)) (fun _ => ?_)
          refine r_aload_n dL_all_103 3 rfl ?_
          refine r_iload dL_all_104 4 rfl ?_
          refine i_iinc (ls' := [(0, .ref x), (1, .int (iI ((S.2.2.1.2.length : Int)))), (2, .int (iI ((sL S.2.2.1.2 : Int)))), (3, .ref q), (4, .int (iI ((a : Int) + 1))), (5, .int (iI ((k : Int))))]) (1) (v := (a : Int) + 1) dL_all_106 4 rfl (by omega) (by decide) rfl ?_
          refine r_aload_n dL_all_109 0 rfl ?_
          refine r_iload dL_all_110 5 rfl ?_
          refine p_callV (As := [.int (iI ((k : Int)))]) (b := x) (rest := [.int (iI ((a : Int))), .ref q]) (w := (some (.int (iI (((sAt S.2.2.1 (k : Int)).1.length : Int)))))) (st' := [.int (iI (((sAt S.2.2.1 (k : Int)).1.length : Int))), .int (iI ((a : Int))), .ref q]) kv_L_all_33 dL_all_112 rfl rfl (Nat.le_of_ble_eq_true rfl) (Nat.le_of_ble_eq_true rfl) (xb_rv hX2) rfl rfl (c_X11_layerCount_ok hGC hGT hGE hX2 hW hzk hsk) rfl (fun hk1 e9k1 => ?_)
          rw [show hk1 = h2 from e9k1]
          refine i_iast a rfl dL_all_115 mq2 fq2 (by omega) (by omega) (fun h2 e0_2 e1_2 e2_2 => ?_)
          have mq_2 : q ∈ h2.1 := by rw [e0_2]; exact mq2
          refine r_aload_n dL_all_116 3 rfl ?_
          refine r_iload dL_all_117 4 rfl ?_
          refine i_iinc (ls' := [(0, .ref x), (1, .int (iI ((S.2.2.1.2.length : Int)))), (2, .int (iI ((sL S.2.2.1.2 : Int)))), (3, .ref q), (4, .int (iI ((a : Int) + 2))), (5, .int (iI ((k : Int))))]) (1) (v := (a : Int) + 2) dL_all_119 4 rfl (by omega) (by decide) rfl ?_
          refine r_aload_n dL_all_122 0 rfl ?_
          refine r_iload dL_all_123 5 rfl ?_
          refine p_callV (As := [.int (iI ((k : Int)))]) (b := x) (rest := [.int (iI ((a : Int) + 1)), .ref q]) (w := (some (.int (iI ((sAt S.2.2.1 (k : Int)).2.1))))) (st' := [.int (iI ((sAt S.2.2.1 (k : Int)).2.1)), .int (iI ((a : Int) + 1)), .ref q]) kv_L_all_49 dL_all_125 rfl rfl (Nat.le_of_ble_eq_true rfl) (Nat.le_of_ble_eq_true rfl) (xb_rv (hX2.fr (fp := [q]) (FRp.w (fp := [q]) (by simp) e0_2 e2_2) (fun y hy z => hqx (by rw [← List.mem_singleton.mp z]; exact hy)))) rfl rfl (c_X11_expectedLayers_ok hGC hGT hGE (hX2.fr (fp := [q]) (FRp.w (fp := [q]) (by simp) e0_2 e2_2) (fun y hy z => hqx (by rw [← List.mem_singleton.mp z]; exact hy))) hW hzk hsk) rfl (fun hk3 e9k3 => ?_)
          rw [show hk3 = h2 from e9k3]
          refine i_iast (a + 1) (by omega) dL_all_128 mq_2 e1_2 (by omega) (by omega) (fun h4 e0_4 e1_4 e2_4 => ?_)
          have mq_4 : q ∈ h4.1 := by rw [e0_4]; exact mq_2
          refine r_aload_n dL_all_129 3 rfl ?_
          refine r_iload dL_all_130 4 rfl ?_
          refine i_iinc (ls' := [(0, .ref x), (1, .int (iI ((S.2.2.1.2.length : Int)))), (2, .int (iI ((sL S.2.2.1.2 : Int)))), (3, .ref q), (4, .int (iI ((a : Int) + 3))), (5, .int (iI ((k : Int))))]) (1) (v := (a : Int) + 3) dL_all_132 4 rfl (by omega) (by decide) rfl ?_
          refine r_aload_n dL_all_135 0 rfl ?_
          refine r_iload dL_all_136 5 rfl ?_
          refine p_callV (As := [.int (iI ((k : Int)))]) (b := x) (rest := [.int (iI ((a : Int) + 2)), .ref q]) (w := (some (.int (iI ((sAt S.2.2.1 (k : Int)).2.2.1))))) (st' := [.int (iI ((sAt S.2.2.1 (k : Int)).2.2.1)), .int (iI ((a : Int) + 2)), .ref q]) kv_L_all_52 dL_all_138 rfl rfl (Nat.le_of_ble_eq_true rfl) (Nat.le_of_ble_eq_true rfl) (xb_rv (hX2.fr (fp := [q]) ((FRp.w (fp := [q]) (by simp) e0_2 e2_2).tr (FRp.w (fp := [q]) (by simp) e0_4 e2_4)) (fun y hy z => hqx (by rw [← List.mem_singleton.mp z]; exact hy)))) rfl rfl (c_X11_temperature_ok hGC hGT hGE (hX2.fr (fp := [q]) ((FRp.w (fp := [q]) (by simp) e0_2 e2_2).tr (FRp.w (fp := [q]) (by simp) e0_4 e2_4)) (fun y hy z => hqx (by rw [← List.mem_singleton.mp z]; exact hy))) hW hzk hsk) rfl (fun hk5 e9k5 => ?_)
          rw [show hk5 = h4 from e9k5]
          refine i_iast (a + 2) (by omega) dL_all_141 mq_4 e1_4 (by omega) (by omega) (fun h6 e0_6 e1_6 e2_6 => ?_)
          have mq_6 : q ∈ h6.1 := by rw [e0_6]; exact mq_4
          refine r_aload_n dL_all_142 3 rfl ?_
          refine r_iload dL_all_143 4 rfl ?_
          refine i_iinc (ls' := [(0, .ref x), (1, .int (iI ((S.2.2.1.2.length : Int)))), (2, .int (iI ((sL S.2.2.1.2 : Int)))), (3, .ref q), (4, .int (iI ((a : Int) + 4))), (5, .int (iI ((k : Int))))]) (1) (v := (a : Int) + 4) dL_all_145 4 rfl (by omega) (by decide) rfl ?_
          refine r_aload_n dL_all_148 0 rfl ?_
          refine r_iload dL_all_149 5 rfl ?_
          refine p_callV (As := [.int (iI ((k : Int)))]) (b := x) (rest := [.int (iI ((a : Int) + 3)), .ref q]) (w := (some (.int ((sAt S.2.2.1 (k : Int)).2.2.2.1)))) (st' := [.int ((sAt S.2.2.1 (k : Int)).2.2.2.1), .int (iI ((a : Int) + 3)), .ref q]) kv_L_all_55 dL_all_151 rfl rfl (Nat.le_of_ble_eq_true rfl) (Nat.le_of_ble_eq_true rfl) (xb_rv (hX2.fr (fp := [q]) (((FRp.w (fp := [q]) (by simp) e0_2 e2_2).tr (FRp.w (fp := [q]) (by simp) e0_4 e2_4)).tr (FRp.w (fp := [q]) (by simp) e0_6 e2_6)) (fun y hy z => hqx (by rw [← List.mem_singleton.mp z]; exact hy)))) rfl rfl (c_X11_foldCount_ok hGC hGT hGE (hX2.fr (fp := [q]) (((FRp.w (fp := [q]) (by simp) e0_2 e2_2).tr (FRp.w (fp := [q]) (by simp) e0_4 e2_4)).tr (FRp.w (fp := [q]) (by simp) e0_6 e2_6)) (fun y hy z => hqx (by rw [← List.mem_singleton.mp z]; exact hy))) hW hzk hsk) rfl (fun hk7 e9k7 => ?_)
          rw [show hk7 = h6 from e9k7]
          refine i_iast (a + 3) (by omega) dL_all_154 mq_6 e1_6 (by omega) (by omega) (fun h8 e0_8 e1_8 e2_8 => ?_)
          have mq_8 : q ∈ h8.1 := by rw [e0_8]; exact mq_6
          refine r_aload_n dL_all_155 3 rfl ?_
          refine r_iload dL_all_156 4 rfl ?_
          refine i_iinc (ls' := [(0, .ref x), (1, .int (iI ((S.2.2.1.2.length : Int)))), (2, .int (iI ((sL S.2.2.1.2 : Int)))), (3, .ref q), (4, .int (iI ((a : Int) + 5))), (5, .int (iI ((k : Int))))]) (1) (v := (a : Int) + 5) dL_all_158 4 rfl (by omega) (by decide) rfl ?_
          refine r_aload_n dL_all_161 0 rfl ?_
          refine r_iload dL_all_162 5 rfl ?_
          refine p_callV (As := [.int (iI ((k : Int)))]) (b := x) (rest := [.int (iI ((a : Int) + 4)), .ref q]) (w := (some (.int (iI (b2 (sAt S.2.2.1 (k : Int)).2.2.2.2.1))))) (st' := [.int (iI (b2 (sAt S.2.2.1 (k : Int)).2.2.2.2.1)), .int (iI ((a : Int) + 4)), .ref q]) kv_L_all_58 dL_all_164 rfl rfl (Nat.le_of_ble_eq_true rfl) (Nat.le_of_ble_eq_true rfl) (xb_rv (hX2.fr (fp := [q]) ((((FRp.w (fp := [q]) (by simp) e0_2 e2_2).tr (FRp.w (fp := [q]) (by simp) e0_4 e2_4)).tr (FRp.w (fp := [q]) (by simp) e0_6 e2_6)).tr (FRp.w (fp := [q]) (by simp) e0_8 e2_8)) (fun y hy z => hqx (by rw [← List.mem_singleton.mp z]; exact hy)))) rfl rfl (c_X11_isDusted_ok hGC hGT hGE (hX2.fr (fp := [q]) ((((FRp.w (fp := [q]) (by simp) e0_2 e2_2).tr (FRp.w (fp := [q]) (by simp) e0_4 e2_4)).tr (FRp.w (fp := [q]) (by simp) e0_6 e2_6)).tr (FRp.w (fp := [q]) (by simp) e0_8 e2_8)) (fun y hy z => hqx (by rw [← List.mem_singleton.mp z]; exact hy))) hW hzk hsk) rfl (fun hk9 e9k9 => ?_)
          rw [show hk9 = h8 from e9k9]
          refine i_ifeqb dL_all_167 (tgt := 174) (by decide) (fun c167 => ?_) (fun c167 => ?_)
          · refine i_const (0) dL_all_174 ?_
            refine i_iast (a + 4) (by omega) dL_all_175 mq_8 e1_8 (by omega) (by omega) (fun h10 e0_10 e1_10 e2_10 => ?_)
            have mq_10 : q ∈ h10.1 := by rw [e0_10]; exact mq_8
            refine r_aload_n dL_all_176 3 rfl ?_
            refine r_iload dL_all_177 4 rfl ?_
            refine i_iinc (ls' := [(0, .ref x), (1, .int (iI ((S.2.2.1.2.length : Int)))), (2, .int (iI ((sL S.2.2.1.2 : Int)))), (3, .ref q), (4, .int (iI ((a : Int) + 6))), (5, .int (iI ((k : Int))))]) (1) (v := (a : Int) + 6) dL_all_179 4 rfl (by omega) (by decide) rfl ?_
            refine r_aload_n dL_all_182 0 rfl ?_
            refine r_iload dL_all_183 5 rfl ?_
            refine p_callV (As := [.int (iI ((k : Int)))]) (b := x) (rest := [.int (iI ((a : Int) + 5)), .ref q]) (w := (some (.int (iI (b2 (sAt S.2.2.1 (k : Int)).2.2.2.2.2.1))))) (st' := [.int (iI (b2 (sAt S.2.2.1 (k : Int)).2.2.2.2.2.1)), .int (iI ((a : Int) + 5)), .ref q]) kv_L_all_62 dL_all_185 rfl rfl (Nat.le_of_ble_eq_true rfl) (Nat.le_of_ble_eq_true rfl) (xb_rv (hX2.fr (fp := [q]) (((((FRp.w (fp := [q]) (by simp) e0_2 e2_2).tr (FRp.w (fp := [q]) (by simp) e0_4 e2_4)).tr (FRp.w (fp := [q]) (by simp) e0_6 e2_6)).tr (FRp.w (fp := [q]) (by simp) e0_8 e2_8)).tr (FRp.w (fp := [q]) (by simp) e0_10 e2_10)) (fun y hy z => hqx (by rw [← List.mem_singleton.mp z]; exact hy)))) rfl rfl (c_X11_isSealed_ok hGC hGT hGE (hX2.fr (fp := [q]) (((((FRp.w (fp := [q]) (by simp) e0_2 e2_2).tr (FRp.w (fp := [q]) (by simp) e0_4 e2_4)).tr (FRp.w (fp := [q]) (by simp) e0_6 e2_6)).tr (FRp.w (fp := [q]) (by simp) e0_8 e2_8)).tr (FRp.w (fp := [q]) (by simp) e0_10 e2_10)) (fun y hy z => hqx (by rw [← List.mem_singleton.mp z]; exact hy))) hW hzk hsk) rfl (fun hk11 e9k11 => ?_)
            rw [show hk11 = h10 from e9k11]
            refine i_ifeqb dL_all_188 (tgt := 195) (by decide) (fun c188 => ?_) (fun c188 => ?_)
            · refine i_const (0) dL_all_195 ?_
              refine i_iast (a + 5) (by omega) dL_all_196 mq_10 e1_10 (by omega) (by omega) (fun h12 e0_12 e1_12 e2_12 => ?_)
              have mq_12 : q ∈ h12.1 := by rw [e0_12]; exact mq_10
              refine r_aload_n dL_all_197 3 rfl ?_
              refine r_iload dL_all_198 4 rfl ?_
              refine i_iinc (ls' := [(0, .ref x), (1, .int (iI ((S.2.2.1.2.length : Int)))), (2, .int (iI ((sL S.2.2.1.2 : Int)))), (3, .ref q), (4, .int (iI ((a : Int) + 7))), (5, .int (iI ((k : Int))))]) (1) (v := (a : Int) + 7) dL_all_200 4 rfl (by omega) (by decide) rfl ?_
              refine r_aload_n dL_all_203 0 rfl ?_
              refine r_iload dL_all_204 5 rfl ?_
              refine p_callV (As := [.int (iI ((k : Int)))]) (b := x) (rest := [.int (iI ((a : Int) + 6)), .ref q]) (w := (some (.int (iI (b2 (sAt S.2.2.1 (k : Int)).2.2.2.2.2.2))))) (st' := [.int (iI (b2 (sAt S.2.2.1 (k : Int)).2.2.2.2.2.2)), .int (iI ((a : Int) + 6)), .ref q]) kv_L_all_65 dL_all_206 rfl rfl (Nat.le_of_ble_eq_true rfl) (Nat.le_of_ble_eq_true rfl) (xb_rv (hX2.fr (fp := [q]) ((((((FRp.w (fp := [q]) (by simp) e0_2 e2_2).tr (FRp.w (fp := [q]) (by simp) e0_4 e2_4)).tr (FRp.w (fp := [q]) (by simp) e0_6 e2_6)).tr (FRp.w (fp := [q]) (by simp) e0_8 e2_8)).tr (FRp.w (fp := [q]) (by simp) e0_10 e2_10)).tr (FRp.w (fp := [q]) (by simp) e0_12 e2_12)) (fun y hy z => hqx (by rw [← List.mem_singleton.mp z]; exact hy)))) rfl rfl (c_X11_isCooling_ok hGC hGT hGE (hX2.fr (fp := [q]) ((((((FRp.w (fp := [q]) (by simp) e0_2 e2_2).tr (FRp.w (fp := [q]) (by simp) e0_4 e2_4)).tr (FRp.w (fp := [q]) (by simp) e0_6 e2_6)).tr (FRp.w (fp := [q]) (by simp) e0_8 e2_8)).tr (FRp.w (fp := [q]) (by simp) e0_10 e2_10)).tr (FRp.w (fp := [q]) (by simp) e0_12 e2_12)) (fun y hy z => hqx (by rw [← List.mem_singleton.mp z]; exact hy))) hW hzk hsk) rfl (fun hk13 e9k13 => ?_)
              rw [show hk13 = h12 from e9k13]
              refine i_ifeqb dL_all_209 (tgt := 216) (by decide) (fun c209 => ?_) (fun c209 => ?_)
              · refine i_const (0) dL_all_216 ?_
                refine i_iast (a + 6) (by omega) dL_all_217 mq_12 e1_12 (by omega) (by omega) (fun h14 e0_14 e1_14 e2_14 => ?_)
                have mq_14 : q ∈ h14.1 := by rw [e0_14]; exact mq_12
                refine i_const (0) dL_all_218 ?_
                refine r_istore (ls' := [(0, .ref x), (1, .int (iI ((S.2.2.1.2.length : Int)))), (2, .int (iI ((sL S.2.2.1.2 : Int)))), (3, .ref q), (4, .int (iI ((a : Int) + 7))), (5, .int (iI ((k : Int)))), (6, .int (iI 0))]) dL_all_219 (by decide) rfl ?_
                have F7 := ((((((hFi.s (v := ((sAt S.2.2.1 (k : Int)).1.length : Int)) rfl).s (v := (sAt S.2.2.1 (k : Int)).2.1) rfl).s (v := (sAt S.2.2.1 (k : Int)).2.2.1) rfl).s (v := (sAt S.2.2.1 (k : Int)).2.2.2.1.toInt) (iI_of _).symm).s (v := b2 (sAt S.2.2.1 (k : Int)).2.2.2.2.1) (show _ = iI (b2 (sAt S.2.2.1 (k : Int)).2.2.2.2.1) by rw [c167])).s (v := b2 (sAt S.2.2.1 (k : Int)).2.2.2.2.2.1) (show _ = iI (b2 (sAt S.2.2.1 (k : Int)).2.2.2.2.2.1) by rw [c188])).s (v := b2 (sAt S.2.2.1 (k : Int)).2.2.2.2.2.2) (show _ = iI (b2 (sAt S.2.2.1 (k : Int)).2.2.2.2.2.2) by rw [c209])
                rw [show (a : Int) + 7 = ((a + 7 : Nat) : Int) by omega]
                refine L3 0 (Nat.zero_le _) (a + 7) _ h14 (hF2.tr (((((((FRp.w (fp := [q]) (by simp) e0_2 e2_2).tr (FRp.w (fp := [q]) (by simp) e0_4 e2_4)).tr (FRp.w (fp := [q]) (by simp) e0_6 e2_6)).tr (FRp.w (fp := [q]) (by simp) e0_8 e2_8)).tr (FRp.w (fp := [q]) (by simp) e0_10 e2_10)).tr (FRp.w (fp := [q]) (by simp) e0_12 e2_12)).tr (FRp.w (fp := [q]) (by simp) e0_14 e2_14))) e1_14 (FILL.cast ?_ F7)
                rw [List.take_zero, List.append_nil]; simp only [SL7, List.append_assoc, List.cons_append, List.nil_append]
              · refine i_const (1) dL_all_212 ?_
                refine r_goto dL_all_213 (tgt := 217) (by decide) ?_
                refine i_iast (a + 6) (by omega) dL_all_217 mq_12 e1_12 (by omega) (by omega) (fun h15 e0_15 e1_15 e2_15 => ?_)
                have mq_15 : q ∈ h15.1 := by rw [e0_15]; exact mq_12
                refine i_const (0) dL_all_218 ?_
                refine r_istore (ls' := [(0, .ref x), (1, .int (iI ((S.2.2.1.2.length : Int)))), (2, .int (iI ((sL S.2.2.1.2 : Int)))), (3, .ref q), (4, .int (iI ((a : Int) + 7))), (5, .int (iI ((k : Int)))), (6, .int (iI 0))]) dL_all_219 (by decide) rfl ?_
                have F7 := ((((((hFi.s (v := ((sAt S.2.2.1 (k : Int)).1.length : Int)) rfl).s (v := (sAt S.2.2.1 (k : Int)).2.1) rfl).s (v := (sAt S.2.2.1 (k : Int)).2.2.1) rfl).s (v := (sAt S.2.2.1 (k : Int)).2.2.2.1.toInt) (iI_of _).symm).s (v := b2 (sAt S.2.2.1 (k : Int)).2.2.2.2.1) (show _ = iI (b2 (sAt S.2.2.1 (k : Int)).2.2.2.2.1) by rw [c167])).s (v := b2 (sAt S.2.2.1 (k : Int)).2.2.2.2.2.1) (show _ = iI (b2 (sAt S.2.2.1 (k : Int)).2.2.2.2.2.1) by rw [c188])).s (v := b2 (sAt S.2.2.1 (k : Int)).2.2.2.2.2.2) (show _ = iI (b2 (sAt S.2.2.1 (k : Int)).2.2.2.2.2.2) by rw [c209])
                rw [show (a : Int) + 7 = ((a + 7 : Nat) : Int) by omega]
                refine L3 0 (Nat.zero_le _) (a + 7) _ h15 (hF2.tr (((((((FRp.w (fp := [q]) (by simp) e0_2 e2_2).tr (FRp.w (fp := [q]) (by simp) e0_4 e2_4)).tr (FRp.w (fp := [q]) (by simp) e0_6 e2_6)).tr (FRp.w (fp := [q]) (by simp) e0_8 e2_8)).tr (FRp.w (fp := [q]) (by simp) e0_10 e2_10)).tr (FRp.w (fp := [q]) (by simp) e0_12 e2_12)).tr (FRp.w (fp := [q]) (by simp) e0_15 e2_15))) e1_15 (FILL.cast ?_ F7)
                rw [List.take_zero, List.append_nil]; simp only [SL7, List.append_assoc, List.cons_append, List.nil_append]
            · refine i_const (1) dL_all_191 ?_
              refine r_goto dL_all_192 (tgt := 196) (by decide) ?_
              refine i_iast (a + 5) (by omega) dL_all_196 mq_10 e1_10 (by omega) (by omega) (fun h16 e0_16 e1_16 e2_16 => ?_)
              have mq_16 : q ∈ h16.1 := by rw [e0_16]; exact mq_10
              refine r_aload_n dL_all_197 3 rfl ?_
              refine r_iload dL_all_198 4 rfl ?_
              refine i_iinc (ls' := [(0, .ref x), (1, .int (iI ((S.2.2.1.2.length : Int)))), (2, .int (iI ((sL S.2.2.1.2 : Int)))), (3, .ref q), (4, .int (iI ((a : Int) + 7))), (5, .int (iI ((k : Int))))]) (1) (v := (a : Int) + 7) dL_all_200 4 rfl (by omega) (by decide) rfl ?_
              refine r_aload_n dL_all_203 0 rfl ?_
              refine r_iload dL_all_204 5 rfl ?_
              refine p_callV (As := [.int (iI ((k : Int)))]) (b := x) (rest := [.int (iI ((a : Int) + 6)), .ref q]) (w := (some (.int (iI (b2 (sAt S.2.2.1 (k : Int)).2.2.2.2.2.2))))) (st' := [.int (iI (b2 (sAt S.2.2.1 (k : Int)).2.2.2.2.2.2)), .int (iI ((a : Int) + 6)), .ref q]) kv_L_all_65 dL_all_206 rfl rfl (Nat.le_of_ble_eq_true rfl) (Nat.le_of_ble_eq_true rfl) (xb_rv (hX2.fr (fp := [q]) ((((((FRp.w (fp := [q]) (by simp) e0_2 e2_2).tr (FRp.w (fp := [q]) (by simp) e0_4 e2_4)).tr (FRp.w (fp := [q]) (by simp) e0_6 e2_6)).tr (FRp.w (fp := [q]) (by simp) e0_8 e2_8)).tr (FRp.w (fp := [q]) (by simp) e0_10 e2_10)).tr (FRp.w (fp := [q]) (by simp) e0_16 e2_16)) (fun y hy z => hqx (by rw [← List.mem_singleton.mp z]; exact hy)))) rfl rfl (c_X11_isCooling_ok hGC hGT hGE (hX2.fr (fp := [q]) ((((((FRp.w (fp := [q]) (by simp) e0_2 e2_2).tr (FRp.w (fp := [q]) (by simp) e0_4 e2_4)).tr (FRp.w (fp := [q]) (by simp) e0_6 e2_6)).tr (FRp.w (fp := [q]) (by simp) e0_8 e2_8)).tr (FRp.w (fp := [q]) (by simp) e0_10 e2_10)).tr (FRp.w (fp := [q]) (by simp) e0_16 e2_16)) (fun y hy z => hqx (by rw [← List.mem_singleton.mp z]; exact hy))) hW hzk hsk) rfl (fun hk17 e9k17 => ?_)
              rw [show hk17 = h16 from e9k17]
              refine i_ifeqb dL_all_209 (tgt := 216) (by decide) (fun c209 => ?_) (fun c209 => ?_)
              · refine i_const (0) dL_all_216 ?_
                refine i_iast (a + 6) (by omega) dL_all_217 mq_16 e1_16 (by omega) (by omega) (fun h18 e0_18 e1_18 e2_18 => ?_)
                have mq_18 : q ∈ h18.1 := by rw [e0_18]; exact mq_16
                refine i_const (0) dL_all_218 ?_
                refine r_istore (ls' := [(0, .ref x), (1, .int (iI ((S.2.2.1.2.length : Int)))), (2, .int (iI ((sL S.2.2.1.2 : Int)))), (3, .ref q), (4, .int (iI ((a : Int) + 7))), (5, .int (iI ((k : Int)))), (6, .int (iI 0))]) dL_all_219 (by decide) rfl ?_
                have F7 := ((((((hFi.s (v := ((sAt S.2.2.1 (k : Int)).1.length : Int)) rfl).s (v := (sAt S.2.2.1 (k : Int)).2.1) rfl).s (v := (sAt S.2.2.1 (k : Int)).2.2.1) rfl).s (v := (sAt S.2.2.1 (k : Int)).2.2.2.1.toInt) (iI_of _).symm).s (v := b2 (sAt S.2.2.1 (k : Int)).2.2.2.2.1) (show _ = iI (b2 (sAt S.2.2.1 (k : Int)).2.2.2.2.1) by rw [c167])).s (v := b2 (sAt S.2.2.1 (k : Int)).2.2.2.2.2.1) (show _ = iI (b2 (sAt S.2.2.1 (k : Int)).2.2.2.2.2.1) by rw [c188])).s (v := b2 (sAt S.2.2.1 (k : Int)).2.2.2.2.2.2) (show _ = iI (b2 (sAt S.2.2.1 (k : Int)).2.2.2.2.2.2) by rw [c209])
                rw [show (a : Int) + 7 = ((a + 7 : Nat) : Int) by omega]
                refine L3 0 (Nat.zero_le _) (a + 7) _ h18 (hF2.tr (((((((FRp.w (fp := [q]) (by simp) e0_2 e2_2).tr (FRp.w (fp := [q]) (by simp) e0_4 e2_4)).tr (FRp.w (fp := [q]) (by simp) e0_6 e2_6)).tr (FRp.w (fp := [q]) (by simp) e0_8 e2_8)).tr (FRp.w (fp := [q]) (by simp) e0_10 e2_10)).tr (FRp.w (fp := [q]) (by simp) e0_16 e2_16)).tr (FRp.w (fp := [q]) (by simp) e0_18 e2_18))) e1_18 (FILL.cast ?_ F7)
                rw [List.take_zero, List.append_nil]; simp only [SL7, List.append_assoc, List.cons_append, List.nil_append]
              · refine i_const (1) dL_all_212 ?_
                refine r_goto dL_all_213 (tgt := 217) (by decide) ?_
                refine i_iast (a + 6) (by omega) dL_all_217 mq_16 e1_16 (by omega) (by omega) (fun h19 e0_19 e1_19 e2_19 => ?_)
                have mq_19 : q ∈ h19.1 := by rw [e0_19]; exact mq_16
                refine i_const (0) dL_all_218 ?_
                refine r_istore (ls' := [(0, .ref x), (1, .int (iI ((S.2.2.1.2.length : Int)))), (2, .int (iI ((sL S.2.2.1.2 : Int)))), (3, .ref q), (4, .int (iI ((a : Int) + 7))), (5, .int (iI ((k : Int)))), (6, .int (iI 0))]) dL_all_219 (by decide) rfl ?_
                have F7 := ((((((hFi.s (v := ((sAt S.2.2.1 (k : Int)).1.length : Int)) rfl).s (v := (sAt S.2.2.1 (k : Int)).2.1) rfl).s (v := (sAt S.2.2.1 (k : Int)).2.2.1) rfl).s (v := (sAt S.2.2.1 (k : Int)).2.2.2.1.toInt) (iI_of _).symm).s (v := b2 (sAt S.2.2.1 (k : Int)).2.2.2.2.1) (show _ = iI (b2 (sAt S.2.2.1 (k : Int)).2.2.2.2.1) by rw [c167])).s (v := b2 (sAt S.2.2.1 (k : Int)).2.2.2.2.2.1) (show _ = iI (b2 (sAt S.2.2.1 (k : Int)).2.2.2.2.2.1) by rw [c188])).s (v := b2 (sAt S.2.2.1 (k : Int)).2.2.2.2.2.2) (show _ = iI (b2 (sAt S.2.2.1 (k : Int)).2.2.2.2.2.2) by rw [c209])
                rw [show (a : Int) + 7 = ((a + 7 : Nat) : Int) by omega]
                refine L3 0 (Nat.zero_le _) (a + 7) _ h19 (hF2.tr (((((((FRp.w (fp := [q]) (by simp) e0_2 e2_2).tr (FRp.w (fp := [q]) (by simp) e0_4 e2_4)).tr (FRp.w (fp := [q]) (by simp) e0_6 e2_6)).tr (FRp.w (fp := [q]) (by simp) e0_8 e2_8)).tr (FRp.w (fp := [q]) (by simp) e0_10 e2_10)).tr (FRp.w (fp := [q]) (by simp) e0_16 e2_16)).tr (FRp.w (fp := [q]) (by simp) e0_19 e2_19))) e1_19 (FILL.cast ?_ F7)
                rw [List.take_zero, List.append_nil]; simp only [SL7, List.append_assoc, List.cons_append, List.nil_append]
          · refine i_const (1) dL_all_170 ?_
            refine r_goto dL_all_171 (tgt := 175) (by decide) ?_
            refine i_iast (a + 4) (by omega) dL_all_175 mq_8 e1_8 (by omega) (by omega) (fun h20 e0_20 e1_20 e2_20 => ?_)
            have mq_20 : q ∈ h20.1 := by rw [e0_20]; exact mq_8
            refine r_aload_n dL_all_176 3 rfl ?_
            refine r_iload dL_all_177 4 rfl ?_
            refine i_iinc (ls' := [(0, .ref x), (1, .int (iI ((S.2.2.1.2.length : Int)))), (2, .int (iI ((sL S.2.2.1.2 : Int)))), (3, .ref q), (4, .int (iI ((a : Int) + 6))), (5, .int (iI ((k : Int))))]) (1) (v := (a : Int) + 6) dL_all_179 4 rfl (by omega) (by decide) rfl ?_
            refine r_aload_n dL_all_182 0 rfl ?_
            refine r_iload dL_all_183 5 rfl ?_
            refine p_callV (As := [.int (iI ((k : Int)))]) (b := x) (rest := [.int (iI ((a : Int) + 5)), .ref q]) (w := (some (.int (iI (b2 (sAt S.2.2.1 (k : Int)).2.2.2.2.2.1))))) (st' := [.int (iI (b2 (sAt S.2.2.1 (k : Int)).2.2.2.2.2.1)), .int (iI ((a : Int) + 5)), .ref q]) kv_L_all_62 dL_all_185 rfl rfl (Nat.le_of_ble_eq_true rfl) (Nat.le_of_ble_eq_true rfl) (xb_rv (hX2.fr (fp := [q]) (((((FRp.w (fp := [q]) (by simp) e0_2 e2_2).tr (FRp.w (fp := [q]) (by simp) e0_4 e2_4)).tr (FRp.w (fp := [q]) (by simp) e0_6 e2_6)).tr (FRp.w (fp := [q]) (by simp) e0_8 e2_8)).tr (FRp.w (fp := [q]) (by simp) e0_20 e2_20)) (fun y hy z => hqx (by rw [← List.mem_singleton.mp z]; exact hy)))) rfl rfl (c_X11_isSealed_ok hGC hGT hGE (hX2.fr (fp := [q]) (((((FRp.w (fp := [q]) (by simp) e0_2 e2_2).tr (FRp.w (fp := [q]) (by simp) e0_4 e2_4)).tr (FRp.w (fp := [q]) (by simp) e0_6 e2_6)).tr (FRp.w (fp := [q]) (by simp) e0_8 e2_8)).tr (FRp.w (fp := [q]) (by simp) e0_20 e2_20)) (fun y hy z => hqx (by rw [← List.mem_singleton.mp z]; exact hy))) hW hzk hsk) rfl (fun hk21 e9k21 => ?_)
            rw [show hk21 = h20 from e9k21]
            refine i_ifeqb dL_all_188 (tgt := 195) (by decide) (fun c188 => ?_) (fun c188 => ?_)
            · refine i_const (0) dL_all_195 ?_
              refine i_iast (a + 5) (by omega) dL_all_196 mq_20 e1_20 (by omega) (by omega) (fun h22 e0_22 e1_22 e2_22 => ?_)
              have mq_22 : q ∈ h22.1 := by rw [e0_22]; exact mq_20
              refine r_aload_n dL_all_197 3 rfl ?_
              refine r_iload dL_all_198 4 rfl ?_
              refine i_iinc (ls' := [(0, .ref x), (1, .int (iI ((S.2.2.1.2.length : Int)))), (2, .int (iI ((sL S.2.2.1.2 : Int)))), (3, .ref q), (4, .int (iI ((a : Int) + 7))), (5, .int (iI ((k : Int))))]) (1) (v := (a : Int) + 7) dL_all_200 4 rfl (by omega) (by decide) rfl ?_
              refine r_aload_n dL_all_203 0 rfl ?_
              refine r_iload dL_all_204 5 rfl ?_
              refine p_callV (As := [.int (iI ((k : Int)))]) (b := x) (rest := [.int (iI ((a : Int) + 6)), .ref q]) (w := (some (.int (iI (b2 (sAt S.2.2.1 (k : Int)).2.2.2.2.2.2))))) (st' := [.int (iI (b2 (sAt S.2.2.1 (k : Int)).2.2.2.2.2.2)), .int (iI ((a : Int) + 6)), .ref q]) kv_L_all_65 dL_all_206 rfl rfl (Nat.le_of_ble_eq_true rfl) (Nat.le_of_ble_eq_true rfl) (xb_rv (hX2.fr (fp := [q]) ((((((FRp.w (fp := [q]) (by simp) e0_2 e2_2).tr (FRp.w (fp := [q]) (by simp) e0_4 e2_4)).tr (FRp.w (fp := [q]) (by simp) e0_6 e2_6)).tr (FRp.w (fp := [q]) (by simp) e0_8 e2_8)).tr (FRp.w (fp := [q]) (by simp) e0_20 e2_20)).tr (FRp.w (fp := [q]) (by simp) e0_22 e2_22)) (fun y hy z => hqx (by rw [← List.mem_singleton.mp z]; exact hy)))) rfl rfl (c_X11_isCooling_ok hGC hGT hGE (hX2.fr (fp := [q]) ((((((FRp.w (fp := [q]) (by simp) e0_2 e2_2).tr (FRp.w (fp := [q]) (by simp) e0_4 e2_4)).tr (FRp.w (fp := [q]) (by simp) e0_6 e2_6)).tr (FRp.w (fp := [q]) (by simp) e0_8 e2_8)).tr (FRp.w (fp := [q]) (by simp) e0_20 e2_20)).tr (FRp.w (fp := [q]) (by simp) e0_22 e2_22)) (fun y hy z => hqx (by rw [← List.mem_singleton.mp z]; exact hy))) hW hzk hsk) rfl (fun hk23 e9k23 => ?_)
              rw [show hk23 = h22 from e9k23]
              refine i_ifeqb dL_all_209 (tgt := 216) (by decide) (fun c209 => ?_) (fun c209 => ?_)
              · refine i_const (0) dL_all_216 ?_
                refine i_iast (a + 6) (by omega) dL_all_217 mq_22 e1_22 (by omega) (by omega) (fun h24 e0_24 e1_24 e2_24 => ?_)
                have mq_24 : q ∈ h24.1 := by rw [e0_24]; exact mq_22
                refine i_const (0) dL_all_218 ?_
                refine r_istore (ls' := [(0, .ref x), (1, .int (iI ((S.2.2.1.2.length : Int)))), (2, .int (iI ((sL S.2.2.1.2 : Int)))), (3, .ref q), (4, .int (iI ((a : Int) + 7))), (5, .int (iI ((k : Int)))), (6, .int (iI 0))]) dL_all_219 (by decide) rfl ?_
                have F7 := ((((((hFi.s (v := ((sAt S.2.2.1 (k : Int)).1.length : Int)) rfl).s (v := (sAt S.2.2.1 (k : Int)).2.1) rfl).s (v := (sAt S.2.2.1 (k : Int)).2.2.1) rfl).s (v := (sAt S.2.2.1 (k : Int)).2.2.2.1.toInt) (iI_of _).symm).s (v := b2 (sAt S.2.2.1 (k : Int)).2.2.2.2.1) (show _ = iI (b2 (sAt S.2.2.1 (k : Int)).2.2.2.2.1) by rw [c167])).s (v := b2 (sAt S.2.2.1 (k : Int)).2.2.2.2.2.1) (show _ = iI (b2 (sAt S.2.2.1 (k : Int)).2.2.2.2.2.1) by rw [c188])).s (v := b2 (sAt S.2.2.1 (k : Int)).2.2.2.2.2.2) (show _ = iI (b2 (sAt S.2.2.1 (k : Int)).2.2.2.2.2.2) by rw [c209])
                rw [show (a : Int) + 7 = ((a + 7 : Nat) : Int) by omega]
                refine L3 0 (Nat.zero_le _) (a + 7) _ h24 (hF2.tr (((((((FRp.w (fp := [q]) (by simp) e0_2 e2_2).tr (FRp.w (fp := [q]) (by simp) e0_4 e2_4)).tr (FRp.w (fp := [q]) (by simp) e0_6 e2_6)).tr (FRp.w (fp := [q]) (by simp) e0_8 e2_8)).tr (FRp.w (fp := [q]) (by simp) e0_20 e2_20)).tr (FRp.w (fp := [q]) (by simp) e0_22 e2_22)).tr (FRp.w (fp := [q]) (by simp) e0_24 e2_24))) e1_24 (FILL.cast ?_ F7)
                rw [List.take_zero, List.append_nil]; simp only [SL7, List.append_assoc, List.cons_append, List.nil_append]
              · refine i_const (1) dL_all_212 ?_
                refine r_goto dL_all_213 (tgt := 217) (by decide) ?_
                refine i_iast (a + 6) (by omega) dL_all_217 mq_22 e1_22 (by omega) (by omega) (fun h25 e0_25 e1_25 e2_25 => ?_)
                have mq_25 : q ∈ h25.1 := by rw [e0_25]; exact mq_22
                refine i_const (0) dL_all_218 ?_
                refine r_istore (ls' := [(0, .ref x), (1, .int (iI ((S.2.2.1.2.length : Int)))), (2, .int (iI ((sL S.2.2.1.2 : Int)))), (3, .ref q), (4, .int (iI ((a : Int) + 7))), (5, .int (iI ((k : Int)))), (6, .int (iI 0))]) dL_all_219 (by decide) rfl ?_
                have F7 := ((((((hFi.s (v := ((sAt S.2.2.1 (k : Int)).1.length : Int)) rfl).s (v := (sAt S.2.2.1 (k : Int)).2.1) rfl).s (v := (sAt S.2.2.1 (k : Int)).2.2.1) rfl).s (v := (sAt S.2.2.1 (k : Int)).2.2.2.1.toInt) (iI_of _).symm).s (v := b2 (sAt S.2.2.1 (k : Int)).2.2.2.2.1) (show _ = iI (b2 (sAt S.2.2.1 (k : Int)).2.2.2.2.1) by rw [c167])).s (v := b2 (sAt S.2.2.1 (k : Int)).2.2.2.2.2.1) (show _ = iI (b2 (sAt S.2.2.1 (k : Int)).2.2.2.2.2.1) by rw [c188])).s (v := b2 (sAt S.2.2.1 (k : Int)).2.2.2.2.2.2) (show _ = iI (b2 (sAt S.2.2.1 (k : Int)).2.2.2.2.2.2) by rw [c209])
                rw [show (a : Int) + 7 = ((a + 7 : Nat) : Int) by omega]
                refine L3 0 (Nat.zero_le _) (a + 7) _ h25 (hF2.tr (((((((FRp.w (fp := [q]) (by simp) e0_2 e2_2).tr (FRp.w (fp := [q]) (by simp) e0_4 e2_4)).tr (FRp.w (fp := [q]) (by simp) e0_6 e2_6)).tr (FRp.w (fp := [q]) (by simp) e0_8 e2_8)).tr (FRp.w (fp := [q]) (by simp) e0_20 e2_20)).tr (FRp.w (fp := [q]) (by simp) e0_22 e2_22)).tr (FRp.w (fp := [q]) (by simp) e0_25 e2_25))) e1_25 (FILL.cast ?_ F7)
                rw [List.take_zero, List.append_nil]; simp only [SL7, List.append_assoc, List.cons_append, List.nil_append]
            · refine i_const (1) dL_all_191 ?_
              refine r_goto dL_all_192 (tgt := 196) (by decide) ?_
              refine i_iast (a + 5) (by omega) dL_all_196 mq_20 e1_20 (by omega) (by omega) (fun h26 e0_26 e1_26 e2_26 => ?_)
              have mq_26 : q ∈ h26.1 := by rw [e0_26]; exact mq_20
              refine r_aload_n dL_all_197 3 rfl ?_
              refine r_iload dL_all_198 4 rfl ?_
              refine i_iinc (ls' := [(0, .ref x), (1, .int (iI ((S.2.2.1.2.length : Int)))), (2, .int (iI ((sL S.2.2.1.2 : Int)))), (3, .ref q), (4, .int (iI ((a : Int) + 7))), (5, .int (iI ((k : Int))))]) (1) (v := (a : Int) + 7) dL_all_200 4 rfl (by omega) (by decide) rfl ?_
              refine r_aload_n dL_all_203 0 rfl ?_
              refine r_iload dL_all_204 5 rfl ?_
              refine p_callV (As := [.int (iI ((k : Int)))]) (b := x) (rest := [.int (iI ((a : Int) + 6)), .ref q]) (w := (some (.int (iI (b2 (sAt S.2.2.1 (k : Int)).2.2.2.2.2.2))))) (st' := [.int (iI (b2 (sAt S.2.2.1 (k : Int)).2.2.2.2.2.2)), .int (iI ((a : Int) + 6)), .ref q]) kv_L_all_65 dL_all_206 rfl rfl (Nat.le_of_ble_eq_true rfl) (Nat.le_of_ble_eq_true rfl) (xb_rv (hX2.fr (fp := [q]) ((((((FRp.w (fp := [q]) (by simp) e0_2 e2_2).tr (FRp.w (fp := [q]) (by simp) e0_4 e2_4)).tr (FRp.w (fp := [q]) (by simp) e0_6 e2_6)).tr (FRp.w (fp := [q]) (by simp) e0_8 e2_8)).tr (FRp.w (fp := [q]) (by simp) e0_20 e2_20)).tr (FRp.w (fp := [q]) (by simp) e0_26 e2_26)) (fun y hy z => hqx (by rw [← List.mem_singleton.mp z]; exact hy)))) rfl rfl (c_X11_isCooling_ok hGC hGT hGE (hX2.fr (fp := [q]) ((((((FRp.w (fp := [q]) (by simp) e0_2 e2_2).tr (FRp.w (fp := [q]) (by simp) e0_4 e2_4)).tr (FRp.w (fp := [q]) (by simp) e0_6 e2_6)).tr (FRp.w (fp := [q]) (by simp) e0_8 e2_8)).tr (FRp.w (fp := [q]) (by simp) e0_20 e2_20)).tr (FRp.w (fp := [q]) (by simp) e0_26 e2_26)) (fun y hy z => hqx (by rw [← List.mem_singleton.mp z]; exact hy))) hW hzk hsk) rfl (fun hk27 e9k27 => ?_)
              rw [show hk27 = h26 from e9k27]
              refine i_ifeqb dL_all_209 (tgt := 216) (by decide) (fun c209 => ?_) (fun c209 => ?_)
              · refine i_const (0) dL_all_216 ?_
                refine i_iast (a + 6) (by omega) dL_all_217 mq_26 e1_26 (by omega) (by omega) (fun h28 e0_28 e1_28 e2_28 => ?_)
                have mq_28 : q ∈ h28.1 := by rw [e0_28]; exact mq_26
                refine i_const (0) dL_all_218 ?_
                refine r_istore (ls' := [(0, .ref x), (1, .int (iI ((S.2.2.1.2.length : Int)))), (2, .int (iI ((sL S.2.2.1.2 : Int)))), (3, .ref q), (4, .int (iI ((a : Int) + 7))), (5, .int (iI ((k : Int)))), (6, .int (iI 0))]) dL_all_219 (by decide) rfl ?_
                have F7 := ((((((hFi.s (v := ((sAt S.2.2.1 (k : Int)).1.length : Int)) rfl).s (v := (sAt S.2.2.1 (k : Int)).2.1) rfl).s (v := (sAt S.2.2.1 (k : Int)).2.2.1) rfl).s (v := (sAt S.2.2.1 (k : Int)).2.2.2.1.toInt) (iI_of _).symm).s (v := b2 (sAt S.2.2.1 (k : Int)).2.2.2.2.1) (show _ = iI (b2 (sAt S.2.2.1 (k : Int)).2.2.2.2.1) by rw [c167])).s (v := b2 (sAt S.2.2.1 (k : Int)).2.2.2.2.2.1) (show _ = iI (b2 (sAt S.2.2.1 (k : Int)).2.2.2.2.2.1) by rw [c188])).s (v := b2 (sAt S.2.2.1 (k : Int)).2.2.2.2.2.2) (show _ = iI (b2 (sAt S.2.2.1 (k : Int)).2.2.2.2.2.2) by rw [c209])
                rw [show (a : Int) + 7 = ((a + 7 : Nat) : Int) by omega]
                refine L3 0 (Nat.zero_le _) (a + 7) _ h28 (hF2.tr (((((((FRp.w (fp := [q]) (by simp) e0_2 e2_2).tr (FRp.w (fp := [q]) (by simp) e0_4 e2_4)).tr (FRp.w (fp := [q]) (by simp) e0_6 e2_6)).tr (FRp.w (fp := [q]) (by simp) e0_8 e2_8)).tr (FRp.w (fp := [q]) (by simp) e0_20 e2_20)).tr (FRp.w (fp := [q]) (by simp) e0_26 e2_26)).tr (FRp.w (fp := [q]) (by simp) e0_28 e2_28))) e1_28 (FILL.cast ?_ F7)
                rw [List.take_zero, List.append_nil]; simp only [SL7, List.append_assoc, List.cons_append, List.nil_append]
              · refine i_const (1) dL_all_212 ?_
                refine r_goto dL_all_213 (tgt := 217) (by decide) ?_
                refine i_iast (a + 6) (by omega) dL_all_217 mq_26 e1_26 (by omega) (by omega) (fun h29 e0_29 e1_29 e2_29 => ?_)
                have mq_29 : q ∈ h29.1 := by rw [e0_29]; exact mq_26
                refine i_const (0) dL_all_218 ?_
                refine r_istore (ls' := [(0, .ref x), (1, .int (iI ((S.2.2.1.2.length : Int)))), (2, .int (iI ((sL S.2.2.1.2 : Int)))), (3, .ref q), (4, .int (iI ((a : Int) + 7))), (5, .int (iI ((k : Int)))), (6, .int (iI 0))]) dL_all_219 (by decide) rfl ?_
                have F7 := ((((((hFi.s (v := ((sAt S.2.2.1 (k : Int)).1.length : Int)) rfl).s (v := (sAt S.2.2.1 (k : Int)).2.1) rfl).s (v := (sAt S.2.2.1 (k : Int)).2.2.1) rfl).s (v := (sAt S.2.2.1 (k : Int)).2.2.2.1.toInt) (iI_of _).symm).s (v := b2 (sAt S.2.2.1 (k : Int)).2.2.2.2.1) (show _ = iI (b2 (sAt S.2.2.1 (k : Int)).2.2.2.2.1) by rw [c167])).s (v := b2 (sAt S.2.2.1 (k : Int)).2.2.2.2.2.1) (show _ = iI (b2 (sAt S.2.2.1 (k : Int)).2.2.2.2.2.1) by rw [c188])).s (v := b2 (sAt S.2.2.1 (k : Int)).2.2.2.2.2.2) (show _ = iI (b2 (sAt S.2.2.1 (k : Int)).2.2.2.2.2.2) by rw [c209])
                rw [show (a : Int) + 7 = ((a + 7 : Nat) : Int) by omega]
                refine L3 0 (Nat.zero_le _) (a + 7) _ h29 (hF2.tr (((((((FRp.w (fp := [q]) (by simp) e0_2 e2_2).tr (FRp.w (fp := [q]) (by simp) e0_4 e2_4)).tr (FRp.w (fp := [q]) (by simp) e0_6 e2_6)).tr (FRp.w (fp := [q]) (by simp) e0_8 e2_8)).tr (FRp.w (fp := [q]) (by simp) e0_20 e2_20)).tr (FRp.w (fp := [q]) (by simp) e0_26 e2_26)).tr (FRp.w (fp := [q]) (by simp) e0_29 e2_29))) e1_29 (FILL.cast ?_ F7)
                rw [List.take_zero, List.append_nil]; simp only [SL7, List.append_assoc, List.cons_append, List.nil_append]
      refine i_const (0) dL_all_39 ?_
      refine r_istore (ls' := [(0, .ref x), (1, .int (iI ((S.2.2.1.2.length : Int)))), (2, .int (iI ((sL S.2.2.1.2 : Int)))), (3, .ref q), (4, .int (iI 0))]) dL_all_40 (by decide) rfl ?_
      refine r_aload_n dL_all_42 3 rfl ?_
      refine r_iload dL_all_43 4 rfl ?_
      refine i_iinc (ls' := [(0, .ref x), (1, .int (iI ((S.2.2.1.2.length : Int)))), (2, .int (iI ((sL S.2.2.1.2 : Int)))), (3, .ref q), (4, .int (iI 1))]) (1) (v := 1) dL_all_45 4 rfl (by decide) (by decide) rfl ?_
      refine r_iload_n dL_all_48 1 rfl ?_
      refine i_iast 0 rfl dL_all_49 mq e1_n (by omega) (by omega) (fun h2 e0_2 e1_2 e2_2 => ?_)
      have mq_2 : q ∈ h2.1 := by rw [e0_2]; exact mq
      refine r_aload_n dL_all_50 3 rfl ?_
      refine r_iload dL_all_51 4 rfl ?_
      refine i_iinc (ls' := [(0, .ref x), (1, .int (iI ((S.2.2.1.2.length : Int)))), (2, .int (iI ((sL S.2.2.1.2 : Int)))), (3, .ref q), (4, .int (iI 2))]) (1) (v := 2) dL_all_53 4 rfl (by decide) (by decide) rfl ?_
      refine r_aload_n dL_all_56 0 rfl ?_
      refine p_callV (As := []) (b := x) (rest := [.int (iI 1), .ref q]) (w := (some (.int (iI S.2.2.1.1.2.2.1)))) (st' := [.int (iI S.2.2.1.1.2.2.1), .int (iI 1), .ref q]) kv_L_all_37 dL_all_57 rfl rfl (Nat.le_of_ble_eq_true rfl) (Nat.le_of_ble_eq_true rfl) (xb_rv (hX1.fr (fp := [q]) (FRp.w (fp := [q]) (by simp) e0_2 e2_2) (fun y hy z => hqx (by rw [← List.mem_singleton.mp z]; exact hy)))) rfl rfl (c_X11_flour hGC hGT hGE (hX1.fr (fp := [q]) (FRp.w (fp := [q]) (by simp) e0_2 e2_2) (fun y hy z => hqx (by rw [← List.mem_singleton.mp z]; exact hy))) hW) rfl (fun hk3 e9k3 => ?_)
      rw [show hk3 = h2 from e9k3]
      refine i_iast 1 rfl dL_all_60 mq_2 e1_2 (by omega) (by omega) (fun h4 e0_4 e1_4 e2_4 => ?_)
      have mq_4 : q ∈ h4.1 := by rw [e0_4]; exact mq_2
      refine r_aload_n dL_all_61 3 rfl ?_
      refine r_iload dL_all_62 4 rfl ?_
      refine i_iinc (ls' := [(0, .ref x), (1, .int (iI ((S.2.2.1.2.length : Int)))), (2, .int (iI ((sL S.2.2.1.2 : Int)))), (3, .ref q), (4, .int (iI 3))]) (1) (v := 3) dL_all_64 4 rfl (by decide) (by decide) rfl ?_
      refine r_aload_n dL_all_67 0 rfl ?_
      refine p_callV (As := []) (b := x) (rest := [.int (iI 2), .ref q]) (w := (some (.int (iI S.2.2.1.1.2.2.2.1)))) (st' := [.int (iI S.2.2.1.1.2.2.2.1), .int (iI 2), .ref q]) kv_L_all_40 dL_all_68 rfl rfl (Nat.le_of_ble_eq_true rfl) (Nat.le_of_ble_eq_true rfl) (xb_rv (hX1.fr (fp := [q]) ((FRp.w (fp := [q]) (by simp) e0_2 e2_2).tr (FRp.w (fp := [q]) (by simp) e0_4 e2_4)) (fun y hy z => hqx (by rw [← List.mem_singleton.mp z]; exact hy)))) rfl rfl (c_X11_hoursPassed hGC hGT hGE (hX1.fr (fp := [q]) ((FRp.w (fp := [q]) (by simp) e0_2 e2_2).tr (FRp.w (fp := [q]) (by simp) e0_4 e2_4)) (fun y hy z => hqx (by rw [← List.mem_singleton.mp z]; exact hy))) hW) rfl (fun hk5 e9k5 => ?_)
      rw [show hk5 = h4 from e9k5]
      refine i_iast 2 rfl dL_all_71 mq_4 e1_4 (by omega) (by omega) (fun h6 e0_6 e1_6 e2_6 => ?_)
      have mq_6 : q ∈ h6.1 := by rw [e0_6]; exact mq_4
      refine r_aload_n dL_all_72 3 rfl ?_
      refine r_iload dL_all_73 4 rfl ?_
      refine i_iinc (ls' := [(0, .ref x), (1, .int (iI ((S.2.2.1.2.length : Int)))), (2, .int (iI ((sL S.2.2.1.2 : Int)))), (3, .ref q), (4, .int (iI 4))]) (1) (v := 4) dL_all_75 4 rfl (by decide) (by decide) rfl ?_
      refine r_aload_n dL_all_78 0 rfl ?_
      refine p_callV (As := []) (b := x) (rest := [.int (iI 3), .ref q]) (w := (some (.int (iI S.2.2.1.1.2.2.2.2.1)))) (st' := [.int (iI S.2.2.1.1.2.2.2.2.1), .int (iI 3), .ref q]) kv_L_all_43 dL_all_79 rfl rfl (Nat.le_of_ble_eq_true rfl) (Nat.le_of_ble_eq_true rfl) (xb_rv (hX1.fr (fp := [q]) (((FRp.w (fp := [q]) (by simp) e0_2 e2_2).tr (FRp.w (fp := [q]) (by simp) e0_4 e2_4)).tr (FRp.w (fp := [q]) (by simp) e0_6 e2_6)) (fun y hy z => hqx (by rw [← List.mem_singleton.mp z]; exact hy)))) rfl rfl (c_X11_escapedButter hGC hGT hGE (hX1.fr (fp := [q]) (((FRp.w (fp := [q]) (by simp) e0_2 e2_2).tr (FRp.w (fp := [q]) (by simp) e0_4 e2_4)).tr (FRp.w (fp := [q]) (by simp) e0_6 e2_6)) (fun y hy z => hqx (by rw [← List.mem_singleton.mp z]; exact hy))) hW) rfl (fun hk7 e9k7 => ?_)
      rw [show hk7 = h6 from e9k7]
      refine i_iast 3 rfl dL_all_82 mq_6 e1_6 (by omega) (by omega) (fun h8 e0_8 e1_8 e2_8 => ?_)
      have mq_8 : q ∈ h8.1 := by rw [e0_8]; exact mq_6
      refine r_aload_n dL_all_83 3 rfl ?_
      refine r_iload dL_all_84 4 rfl ?_
      refine i_iinc (ls' := [(0, .ref x), (1, .int (iI ((S.2.2.1.2.length : Int)))), (2, .int (iI ((sL S.2.2.1.2 : Int)))), (3, .ref q), (4, .int (iI 5))]) (1) (v := 5) dL_all_86 4 rfl (by decide) (by decide) rfl ?_
      refine r_aload_n dL_all_89 0 rfl ?_
      refine p_callV (As := []) (b := x) (rest := [.int (iI 4), .ref q]) (w := (some (.int (iI S.2.2.1.1.2.2.2.2.2)))) (st' := [.int (iI S.2.2.1.1.2.2.2.2.2), .int (iI 4), .ref q]) kv_L_all_46 dL_all_90 rfl rfl (Nat.le_of_ble_eq_true rfl) (Nat.le_of_ble_eq_true rfl) (xb_rv (hX1.fr (fp := [q]) ((((FRp.w (fp := [q]) (by simp) e0_2 e2_2).tr (FRp.w (fp := [q]) (by simp) e0_4 e2_4)).tr (FRp.w (fp := [q]) (by simp) e0_6 e2_6)).tr (FRp.w (fp := [q]) (by simp) e0_8 e2_8)) (fun y hy z => hqx (by rw [← List.mem_singleton.mp z]; exact hy)))) rfl rfl (c_X11_brokenLayers hGC hGT hGE (hX1.fr (fp := [q]) ((((FRp.w (fp := [q]) (by simp) e0_2 e2_2).tr (FRp.w (fp := [q]) (by simp) e0_4 e2_4)).tr (FRp.w (fp := [q]) (by simp) e0_6 e2_6)).tr (FRp.w (fp := [q]) (by simp) e0_8 e2_8)) (fun y hy z => hqx (by rw [← List.mem_singleton.mp z]; exact hy))) hW) rfl (fun hk9 e9k9 => ?_)
      rw [show hk9 = h8 from e9k9]
      refine i_iast 4 rfl dL_all_93 mq_8 e1_8 (by omega) (by omega) (fun h10 e0_10 e1_10 e2_10 => ?_)
      have mq_10 : q ∈ h10.1 := by rw [e0_10]; exact mq_8
      refine i_const (0) dL_all_94 ?_
      refine r_istore (ls' := [(0, .ref x), (1, .int (iI ((S.2.2.1.2.length : Int)))), (2, .int (iI ((sL S.2.2.1.2 : Int)))), (3, .ref q), (4, .int (iI 5)), (5, .int (iI 0))]) dL_all_95 (by decide) rfl ?_
      refine L2 0 (Nat.zero_le _) 5 _ h10 (((((FRp.w (fp := [q]) (by simp) e0_2 e2_2).tr (FRp.w (fp := [q]) (by simp) e0_4 e2_4)).tr (FRp.w (fp := [q]) (by simp) e0_6 e2_6)).tr (FRp.w (fp := [q]) (by simp) e0_8 e2_8)).tr (FRp.w (fp := [q]) (by simp) e0_10 e2_10)) e1_10 (FILL.cast ?_ (((((FILL.nil.s (v := (S.2.2.1.2.length : Int)) rfl).s (v := S.2.2.1.1.2.2.1) rfl).s (v := S.2.2.1.1.2.2.2.1) rfl).s (v := S.2.2.1.1.2.2.2.2.1) rfl).s (v := S.2.2.1.1.2.2.2.2.2) rfl))
      unfold PK; rw [List.take_zero]; rfl
  show RR G ML_all 0 [(0, .ref x)] [] h (xm_R ML_all).cells (xm_R ML_all).slots (qN (fun q h' => ∃ g : Nat → Int32, NEW1 h h' q (.inl (G.2.1 0, (AL S.2.2.1).length, .inl g)) ∧ ∀ k, k < (AL S.2.2.1).length → g k = iI ((AL S.2.2.1).getD k 0)))
  refine r_aload_n dL_all_0 0 rfl ?_
  refine p_callV (As := []) (b := x) (rest := []) (w := (some (.int (iI ((S.2.2.1.2.length : Int)))))) (st' := [.int (iI ((S.2.2.1.2.length : Int)))]) kv_L_all_30 dL_all_1 rfl rfl (Nat.le_of_ble_eq_true rfl) (Nat.le_of_ble_eq_true rfl) (xb_rv hX) rfl rfl (c_X11_sheetCount hGC hGT hGE hX hW) rfl (fun hk1 e9k1 => ?_)
  rw [show hk1 = h from e9k1]
  refine r_istore_n (ls' := [(0, .ref x), (1, .int (iI ((S.2.2.1.2.length : Int))))]) dL_all_4 (by decide) rfl ?_
  refine i_const (0) dL_all_5 ?_
  refine r_istore_n (ls' := [(0, .ref x), (1, .int (iI ((S.2.2.1.2.length : Int)))), (2, .int (iI 0))]) dL_all_6 (by decide) rfl ?_
  refine i_const (0) dL_all_7 ?_
  refine r_istore_n (ls' := [(0, .ref x), (1, .int (iI ((S.2.2.1.2.length : Int)))), (2, .int (iI 0)), (3, .int (iI 0))]) dL_all_8 (by decide) rfl ?_
  exact L1 0 (Nat.zero_le _)
