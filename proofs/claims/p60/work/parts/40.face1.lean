/-! ===== the class: its state, its helpers, its questions ===== -/
/-- input; error; bench, snapshot, history, output -/
abbrev XS : Type := List Int × (Int × Int) × AB × Option AB × List AB × List Int
abbrev XA : Type := Nat × (Nat × Nat) × (Nat × Nat × Nat × Nat) × BP × BP × BP × BP × (Nat × Nat)
def grp (x : Nat) (a : XA) : List (List Nat) := [[x], [a.1], [a.2.1.1, a.2.1.2], [a.2.2.1.1, a.2.2.1.2.1, a.2.2.1.2.2.1, a.2.2.1.2.2.2], a.2.2.2.1.2.2, a.2.2.2.2.1.2.2, a.2.2.2.2.2.1.2.2, a.2.2.2.2.2.2.1.2.2, [a.2.2.2.2.2.2.2.1, a.2.2.2.2.2.2.2.2]]
def DJL (L : List (List Nat)) : Prop := ∀ i j, i < 9 → j < 9 → i ≠ j → ∀ q ∈ L.getD i [], q ∉ L.getD j []
abbrev xfl (a : XA) (S : XS) : List Value := [.ref a.1, .int (iI (S.1.length : Int)), .ref a.2.1.1, .ref a.2.2.1.1, .ref a.2.2.2.1.1, .ref a.2.2.2.2.1.1, .ref a.2.2.2.2.2.1.1, .int (iI (b2 S.2.2.2.1.isSome)), .ref a.2.2.2.2.2.2.1.1, .ref a.2.2.2.2.2.2.2.1]
def XB (G : xG) (h : xH) (K : xK) (x : Nat) (a : XA) (S : XS) : Prop := x ∈ h.1 ∧ h.2 x = .inr (7, xfl a S) ∧ INP G h a.1 S.1 ∧ (∃ (I0 : Nat) (T0 : List Int) (t : Nat × Nat × Nat) (num : Int), PAR G h K a.2.1.1 a.2.1.2 I0 T0 t S.2.1.1 S.2.1.2 num)
  ∧ (∃ cs, SCR G h K a.2.2.1.1 a.2.2.1.2.1 a.2.2.1.2.2.1 a.2.2.1.2.2.2 cs) ∧ BN G h a.2.2.2.1.1 a.2.2.2.1.2.1 a.2.2.2.1.2.2 S.2.2.1 ∧ (∃ B, BN G h a.2.2.2.2.1.1 a.2.2.2.2.1.2.1 a.2.2.2.2.1.2.2 B)
  ∧ (∃ B, BN G h a.2.2.2.2.2.1.1 a.2.2.2.2.2.1.2.1 a.2.2.2.2.2.1.2.2 B ∧ ∀ B', S.2.2.2.1 = some B' → B = B') ∧ HI G h a.2.2.2.2.2.2.1.1 a.2.2.2.2.2.2.1.2.1 a.2.2.2.2.2.2.1.2.2 S.2.2.2.2.1 ∧ OU G h a.2.2.2.2.2.2.2.1 a.2.2.2.2.2.2.2.2 S.2.2.2.2.2 ∧ DJL (grp x a)
def WX (S : XS) : Prop := WB S.2.2.1 ∧ (∀ B ∈ S.2.2.2.2.1, WB B) ∧ (∀ B, S.2.2.2.1 = some B → WB B) ∧ in32 S.2.1.1
set_option maxRecDepth 20000 in
set_option maxHeartbeats 1000000 in
theorem c_X11_requireFactor_ok {G : xG} {h : xH} {K : xK} {sa : Nat → Nat} (hGC : GC G K sa) (hGE : GE G) {q : Int} (hq : in32 q) (hf : isFac q = true) : CC G MX11_requireFactor [.int (iI q)] h (fun o' h' => o' = .inl none ∧ h' = h) := by
  have hG := gk_D hGC.1
  show RR G MX11_requireFactor 0 [(0, .int (iI q))] [] h (xm_R MX11_requireFactor).cells (xm_R MX11_requireFactor).slots (fun o' h' => o' = .inl none ∧ h' = h)
  refine r_iload_n dX11_requireFactor_0 0 rfl ?_
  refine p_callS (As := [.int (iI q)]) (rest := []) (w := (some (.int (iI (b2 (isFac q)))))) (st' := [.int (iI (b2 (isFac q)))]) kv_X11_requireFactor_338 dX11_requireFactor_1 rfl rfl (Nat.le_of_ble_eq_true rfl) (Nat.le_of_ble_eq_true rfl) rfl rfl (c_X11_isFactor hq) rfl (fun h9 e9 => ?_)
  rw [show h9 = h from e9]
  refine i_ifneb dX11_requireFactor_4 (tgt := 18) (by decide) (fun c4 => ?_) (fun c4 => ?_)
  · refine r_return rfl dX11_requireFactor_18 ?_
    exact ⟨rfl, rfl⟩
  · rw [hf] at c4
    cases c4
set_option maxRecDepth 20000 in
set_option maxHeartbeats 1000000 in
theorem c_X11_requireLayer_ok {G : xG} {h : xH} {K : xK} {sa : Nat → Nat} (hGC : GC G K sa) (hGE : GE G){a t b : Nat} {s : AS} (hS : SH G h a t b s) {q : Int} (hq : in32 q) (hf : 0 ≤ q ∧ q < (s.1.length : Int)) : CC G MX11_requireLayer [.ref a, .int (iI q)] h (fun o' h' => o' = .inl none ∧ h' = h) := by
  obtain ⟨l, ex, wa, fo, du, se, co⟩ := s
  have hS0 := hS
  obtain ⟨gt, gb, ⟨ma, mt, mb⟩, ⟨nta, nba, ntb⟩, fa, ft, fb, hl, hr⟩ := hS
  have hl : l.length ≤ 200 := hl
  have hr : sr gt gb l := hr
  have fa : h.2 a = .inr (5, [.ref t, .ref b, .int (iI (l.length : Int)), .int (iI ex), .int fo, .int (iI wa), .int (iI (b2 du)), .int (iI (b2 se)), .int (iI (b2 co))]) := fa
  have hf : 0 ≤ q ∧ q < (l.length : Int) := hf
  show RR G MX11_requireLayer 0 [(0, .ref a), (1, .int (iI q))] [] h (xm_R MX11_requireLayer).cells (xm_R MX11_requireLayer).slots (fun o' h' => o' = .inl none ∧ h' = h)
  refine r_iload_n dX11_requireLayer_0 1 rfl ?_
  refine i_iflt dX11_requireLayer_1 (tgt := 12) (by decide) (by first | assumption | (unfold in32; omega)) (fun c1 => ?_) (fun c1 => ?_)
  · exfalso
    omega
  · refine r_iload_n dX11_requireLayer_4 1 rfl ?_
    refine r_aload_n dX11_requireLayer_5 0 rfl ?_
    refine r_get cl_X8 2 (by decide) kf_X11_122 dX11_requireLayer_6 ma fa rfl ?_
    refine i_icmplt dX11_requireLayer_9 (tgt := 23) (by decide) (by first | assumption | (unfold in32; omega)) (by first | assumption | (unfold in32; omega)) (fun c9 => ?_) (fun c9 => ?_)
    · refine r_return rfl dX11_requireLayer_23 ?_
      exact ⟨rfl, rfl⟩
    · exfalso
      omega
set_option maxRecDepth 20000 in
set_option maxHeartbeats 1000000 in
theorem c_X11_throwIfRefused_0 {G : xG} {h : xH} {K : xK} {sa : Nat → Nat} (hGC : GC G K sa) (hGE : GE G) : CC G MX11_throwIfRefused [.ref (K.1 0)] h (fun o' h' => o' = .inl none ∧ h' = h) := by
  have hGK := hGC.1
  show RR G MX11_throwIfRefused 0 [(0, .ref (K.1 0))] [] h (xm_R MX11_throwIfRefused).cells (xm_R MX11_throwIfRefused).slots (fun o' h' => o' = .inl none ∧ h' = h)
  refine r_aload_n dX11_throwIfRefused_0 0 rfl ?_
  refine r_gets (gk_R hGK 1 (by decide)) kg_X11_343 dX11_throwIfRefused_1 ?_
  refine r_acmpne dX11_throwIfRefused_4 (tgt := 18) (by decide) (fun _ => ?_) (fun c => absurd (hGC.1.2.1.2 _ _ (by decide) (by decide) c) (by decide))
  refine r_aload_n dX11_throwIfRefused_18 0 rfl ?_
  refine r_gets (gk_R hGK 2 (by decide)) kg_X11_349 dX11_throwIfRefused_19 ?_
  refine r_acmpne dX11_throwIfRefused_22 (tgt := 36) (by decide) (fun _ => ?_) (fun c => absurd (hGC.1.2.1.2 _ _ (by decide) (by decide) c) (by decide))
  refine r_aload_n dX11_throwIfRefused_36 0 rfl ?_
  refine r_gets (gk_R hGK 3 (by decide)) kg_X11_354 dX11_throwIfRefused_37 ?_
  refine r_acmpne dX11_throwIfRefused_40 (tgt := 54) (by decide) (fun _ => ?_) (fun c => absurd (hGC.1.2.1.2 _ _ (by decide) (by decide) c) (by decide))
  refine r_return rfl dX11_throwIfRefused_54 ?_
  exact ⟨rfl, rfl⟩
def exN (n : Nat) : String := match n with | 1 => eI | 2 => eA | _ => eS
set_option maxRecDepth 20000 in
set_option maxHeartbeats 1000000 in
theorem c_X11_sheetAt_ok {G : xG} {h : xH} {K : xK} {sa : Nat → Nat} (hGC : GC G K sa) (hGE : GE G) {x : Nat} {f0 f2 f3 f5 f6 f8 f9 : Nat} {f1 f7 : Int32} {o A : Nat} {fp : List Nat} {B : AB} (mx : x ∈ h.1) (fx : h.2 x = .inr (7, [.ref f0, .int f1, .ref f2, .ref f3, .ref o, .ref f5, .ref f6, .int f7, .ref f8, .ref f9])) {g : Nat → Option Nat} {bs : Nat → TR} {F : Nat → AS} (hBo : BNo G h o A fp B g bs F) {i : Nat} (hi : i < B.2.length) : CC G MX11_sheetAt [.ref x, .int (iI ((i : Int)))] h (fun o' h' => o' = .inl (some (.ref (bs i).1)) ∧ h' = h) := by
  have hB : BN G h o A fp B := ⟨g, bs, F, hBo⟩
  obtain ⟨⟨ro, me, fl, ho, ec, bk⟩, Ls⟩ := B
  have hB0 := hB
  have hBo0 := hBo
  obtain ⟨⟨mO, mA⟩, fO, fA, hL6, hLF, hK, hD, hfp⟩ := hBo
  have hL6 : Ls.length ≤ 6 := hL6
  have hLF : ∀ i, i < Ls.length → F i = Ls.getD i dS := hLF
  have fO : h.2 o = .inr (0, [.ref A, .int (iI (Ls.length : Int)), .int (iI ro), .int (iI me), .int (iI fl), .int (iI ho), .int (iI ec), .int (iI bk)]) := fO
  have nOA : o ≠ A := ne_oi fO fA
  have hi : i < Ls.length := hi
  have hi6 : i < 6 := by omega
  obtain ⟨a, t, b, hbs⟩ : ∃ a t b, bs i = (a, t, b) := ⟨_, _, _, rfl⟩
  have hgi : g i = some a := by rw [(hK i hi6).1, hbs]
  have hhs : hasS ((ro, me, fl, ho, ec, bk), Ls) (i : Int) = true := by simp [hasS]; omega
  show RR G MX11_sheetAt 0 [(0, .ref x), (1, .int (iI ((i : Int))))] [] h (xm_R MX11_sheetAt).cells (xm_R MX11_sheetAt).slots (fun o' h' => o' = .inl (some (.ref (bs i).1)) ∧ h' = h)
  refine r_aload_n dX11_sheetAt_0 0 rfl ?_
  refine r_get cl_X11 4 (by decide) kf_X11_33 dX11_sheetAt_1 mx fx rfl ?_
  refine r_iload_n dX11_sheetAt_4 1 rfl ?_
  refine p_callV (As := [.int (iI ((i : Int)))]) (b := o) (rest := []) (w := (some (.int (iI (b2 (hasS ((ro, me, fl, ho, ec, bk), Ls) (i : Int))))))) (st' := [.int (iI (b2 (hasS ((ro, me, fl, ho, ec, bk), Ls) (i : Int))))]) kv_X11_sheetAt_326 dX11_sheetAt_5 rfl rfl (Nat.le_of_ble_eq_true rfl) (Nat.le_of_ble_eq_true rfl) (x_rv mO fO rfl) rfl rfl (c_X1_hasSheet hB0 (z := (i : Int)) (by unfold in32; omega)) rfl (fun h9 e9 => ?_)
  rw [show h9 = h from e9]
  refine i_ifneb dX11_sheetAt_8 (tgt := 22) (by decide) (fun c8 => ?_) (fun c8 => ?_)
  · refine r_aload_n dX11_sheetAt_22 0 rfl ?_
    refine r_get cl_X11 4 (by decide) kf_X11_33 dX11_sheetAt_23 mx fx rfl ?_
    refine r_get cl_X1 0 (by decide) kf_X11_332 dX11_sheetAt_26 mO fO rfl ?_
    refine r_iload_n dX11_sheetAt_29 1 rfl ?_
    refine i_aald rfl i rfl dX11_sheetAt_30 mA fA (by omega) (by decide) hgi ?_
    refine r_areturn rfl dX11_sheetAt_31 ?_
    rw [hbs]
    exact ⟨rfl, rfl⟩
  · rw [hhs] at c8
    cases c8
