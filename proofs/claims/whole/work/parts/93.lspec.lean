/-! ===== each call of the law: what the class answers, and the reference ===== -/
def AOj (G : xG) (h : xH) (o : Nat) : Prop := o ∈ h.1 ∧ ∃ g, h.2 o = .inl (G.2.1 2, 1, .inr (.inl g))
def ADj (G : xG) (h : xH) (d : Nat) : Prop := d ∈ h.1 ∧ ∃ g, h.2 d = .inl (G.2.1 3, 1, .inr (.inr (.inr (.inl g))))
def RES (G : xG) (K : xK) (sa : Nat → Nat) (x m o : Nat) (ad : XA) (a : MA) (S : XS) (h : xH) (rel : Int64 → Value → Prop) (Ml Mm : xM) (la ma : List Value) : Prop := ∃ (S' : XS) (k : Int) (V : Int64) (mv : Value), IV S' ∧ (0 ≤ k ∧ k ≤ 3) ∧ rel V mv ∧ CC G Ml la h (fun o9 h2 => o9 = .inl (some (.int (iI k))) ∧ XB G h2 K x ad S' ∧ (o ∈ h2.1 ∧ ∃ g, h2.2 o = .inl (G.2.1 2, 1, .inr (.inl g)) ∧ (k = 0 → g 0 = V)) ∧ FRp (o :: fpX x ad) h h2) ∧ ∀ (h2 : xH) (c : Int), MB G h2 sa m a S c → CC G Mm ma h2 (fun o9 h3 => o9 = .inl (some mv) ∧ MB G h3 sa m a S' k ∧ FRp (fpM m a) h2 h3)
def RESD (G : xG) (K : xK) (sa : Nat → Nat) (x m d : Nat) (ad : XA) (a : MA) (S : XS) (h : xH) (rel : UInt64 → Value → Prop) (Ml Mm : xM) (la ma : List Value) : Prop := ∃ (S' : XS) (k : Int) (V : UInt64) (mv : Value), IV S' ∧ (0 ≤ k ∧ k ≤ 3) ∧ rel V mv ∧ CC G Ml la h (fun o9 h2 => o9 = .inl (some (.int (iI k))) ∧ XB G h2 K x ad S' ∧ (d ∈ h2.1 ∧ ∃ g, h2.2 d = .inl (G.2.1 3, 1, .inr (.inr (.inr (.inl g)))) ∧ (k = 0 → g 0 = V)) ∧ FRp (d :: fpX x ad) h h2) ∧ ∀ (h2 : xH) (c : Int), MB G h2 sa m a S c → CC G Mm ma h2 (fun o9 h3 => o9 = .inl (some mv) ∧ MB G h3 sa m a S' k ∧ FRp (fpM m a) h2 h3)
def RESP (G : xG) (K : xK) (sa : Nat → Nat) (x m : Nat) (ad : XA) (a : MA) (S : XS) (h : xH) (Mx Mm : xM) (la ma : List Value) : Prop := ∃ (S' : XS) (w : Int32), IV S' ∧ CC G Mx la h (fun o9 h2 => o9 = .inl (some (.int w)) ∧ XB G h2 K x ad S' ∧ FRp (fpX x ad) h h2) ∧ ∀ (h2 : xH) (c : Int), MB G h2 sa m a S c → CC G Mm ma h2 (fun o9 h3 => o9 = .inl (some (.int w)) ∧ MB G h3 sa m a S' 0 ∧ FRp (fpM m a) h2 h3)
def RESV (G : xG) (K : xK) (sa : Nat → Nat) (x m : Nat) (ad : XA) (a : MA) (S : XS) (h : xH) (Mx Mm : xM) (la ma : List Value) : Prop := ∃ (S' : XS), IV S' ∧ CC G Mx la h (fun o9 h2 => o9 = .inl none ∧ XB G h2 K x ad S' ∧ FRp (fpX x ad) h h2) ∧ ∀ (h2 : xH) (c : Int), MB G h2 sa m a S c → CC G Mm ma h2 (fun o9 h3 => o9 = .inl none ∧ MB G h3 sa m a S' 0 ∧ FRp (fpM m a) h2 h3)
theorem hBut_b9 (l : List Int) : 0 ≤ hBut l ∧ hBut l ≤ hgt l := by
  induction l with
  | nil => simp [hBut, hgt]
  | cons x t ih =>
    have e1 : hBut (x :: t) = (if isB x then sz x else 0) + hBut t := by simp [hBut]
    have e2 : hgt (x :: t) = sz x + hgt t := by simp [hgt]
    have e3 := sz_nn x
    rw [e1, e2]
    split <;> omega
def relI (V : Int64) (mv : Value) : Prop := ∃ w : Int32, mv = .int w ∧ V = w.toInt64
def relB (V : Int64) (mv : Value) : Prop := ∃ b : Bool, mv = .int (iI (b2 b)) ∧ V = lB b
def relF (V : UInt64) (mv : Value) : Prop := vf_n64 V ∧ ∃ q : UInt32, mv = .float q ∧ V = FP.f2d q
def relD (V : UInt64) (mv : Value) : Prop := vf_n64 V ∧ mv = .double V
theorem xb_rv {G : xG} {h : xH} {K : xK} {x : Nat} {ad : XA} {S : XS} (hX : XB G h K x ad S) : x_RV G h RX11 x := x_rv hX.1 hX.2.1 rfl
theorem qst {G : xG} {h : xH} {K : xK} {x : Nat} {ad : XA} {S : XS} (hX : XB G h K x ad S) {M : xM} {av : List Value} {v : xR} (c : CC G M av h (fun o' h' => o' = v ∧ h' = h)) : CC G M av h (fun o9 h9 => o9 = v ∧ (XB G h9 K x ad S ∧ FRp (fpX x ad) h h9)) := cc_mono c (fun o h' q => ⟨q.1, by rw [q.2]; exact ⟨hX, FRp.rf⟩⟩)
theorem keepO {G : xG} {h : xH} {K : xK} {x o : Nat} {ad : XA} {S' : XS} (ho : AOj G h o) (no : o ∉ fpX x ad) : ∀ h9, (XB G h9 K x ad S' ∧ FRp (fpX x ad) h h9) → o ∈ h9.1 ∧ ∃ g, h9.2 o = .inl (G.2.1 2, 1, .inr (.inl g)) := fun h9 q => ⟨by rw [q.2.1]; exact ho.1, by obtain ⟨g, f⟩ := ho.2; exact ⟨g, (q.2.2 o no).trans f⟩⟩
theorem keepD {G : xG} {h : xH} {K : xK} {x d : Nat} {ad : XA} {S' : XS} (ho : ADj G h d) (no : d ∉ fpX x ad) : ∀ h9, (XB G h9 K x ad S' ∧ FRp (fpX x ad) h h9) → d ∈ h9.1 ∧ ∃ g, h9.2 d = .inl (G.2.1 3, 1, .inr (.inr (.inr (.inl g)))) := fun h9 q => ⟨by rw [q.2.1]; exact ho.1, by obtain ⟨g, f⟩ := ho.2; exact ⟨g, (q.2.2 d no).trans f⟩⟩
theorem res_ok {G : xG} {K : xK} {sa : Nat → Nat} {x m o : Nat} {ad : XA} {a : MA} {S S' : XS} {h : xH} {rel : Int64 → Value → Prop} {Ml Mm : xM} {la ma : List Value} {V : Int64} {mv : Value} (cl : CC G Ml la h (fun o9 h2 => o9 = .inl (some (.int (iI 0))) ∧ ∃ h9, (XB G h9 K x ad S' ∧ FRp (fpX x ad) h h9) ∧ h2.1 = h9.1 ∧ (∃ g, h2.2 o = .inl (G.2.1 2, 1, .inr (.inl g)) ∧ g 0 = V) ∧ ∀ q9, q9 ≠ o → h2.2 q9 = h9.2 q9)) (ho : AOj G h o) (no : o ∉ fpX x ad) (hI : IV S') (hr : rel V mv) (ms : ∀ (h2 : xH) (c : Int), MB G h2 sa m a S c → CC G Mm ma h2 (fun o9 h3 => o9 = .inl (some mv) ∧ MB G h3 sa m a S' 0 ∧ FRp (fpM m a) h2 h3)) : RES G K sa x m o ad a S h rel Ml Mm la ma := by
  refine ⟨S', 0, V, mv, hI, by omega, hr, cc_mono cl (fun o9 h2 q => ?_), ms⟩
  obtain ⟨q1, h9, ⟨q2, q3⟩, q4, ⟨g, q5, q6⟩, q7⟩ := q
  have F : FRp [o] h9 h2 := ⟨q4, fun q n => q7 q (fun z => n (by rw [z]; exact List.mem_singleton.mpr rfl))⟩
  exact ⟨q1, q2.fr F (fun q hq z => no (by rw [← mem1 z]; exact hq)), ⟨by rw [q4, q3.1]; exact ho.1, g, q5, fun _ => q6⟩, (q3.mono (fun q hq => List.mem_cons_of_mem _ hq)).tr (F.mono (fun q hq => by rw [mem1 hq]; exact List.mem_cons_self))⟩
theorem res_no {G : xG} {K : xK} {sa : Nat → Nat} {x m o : Nat} {ad : XA} {a : MA} {S : XS} {h : xH} {rel : Int64 → Value → Prop} {Ml Mm : xM} {la ma : List Value} {V : Int64} {mv : Value} {k : Int} (cl : CC G Ml la h (fun o9 h2 => o9 = .inl (some (.int (iI k))) ∧ h2 = h)) (hk : 1 ≤ k ∧ k ≤ 3) (hX : XB G h K x ad S) (ho : AOj G h o) (hI : IV S) (hr : rel V mv) (ms : ∀ (h2 : xH) (c : Int), MB G h2 sa m a S c → CC G Mm ma h2 (fun o9 h3 => o9 = .inl (some mv) ∧ MB G h3 sa m a S k ∧ FRp (fpM m a) h2 h3)) : RES G K sa x m o ad a S h rel Ml Mm la ma := by
  refine ⟨S, k, V, mv, hI, by omega, hr, cc_mono cl (fun o9 h2 q => ?_), ms⟩
  obtain ⟨q1, rfl⟩ := q
  obtain ⟨g, f⟩ := ho.2
  exact ⟨q1, hX, ⟨ho.1, g, f, fun z => by omega⟩, FRp.rf⟩
theorem resD_ok {G : xG} {K : xK} {sa : Nat → Nat} {x m o : Nat} {ad : XA} {a : MA} {S S' : XS} {h : xH} {rel : UInt64 → Value → Prop} {Ml Mm : xM} {la ma : List Value} {V : UInt64} {mv : Value} (cl : CC G Ml la h (fun o9 h2 => o9 = .inl (some (.int (iI 0))) ∧ ∃ h9, (XB G h9 K x ad S' ∧ FRp (fpX x ad) h h9) ∧ h2.1 = h9.1 ∧ (∃ g, h2.2 o = .inl (G.2.1 3, 1, .inr (.inr (.inr (.inl g)))) ∧ g 0 = V) ∧ ∀ q9, q9 ≠ o → h2.2 q9 = h9.2 q9)) (ho : ADj G h o) (no : o ∉ fpX x ad) (hI : IV S') (hr : rel V mv) (ms : ∀ (h2 : xH) (c : Int), MB G h2 sa m a S c → CC G Mm ma h2 (fun o9 h3 => o9 = .inl (some mv) ∧ MB G h3 sa m a S' 0 ∧ FRp (fpM m a) h2 h3)) : RESD G K sa x m o ad a S h rel Ml Mm la ma := by
  refine ⟨S', 0, V, mv, hI, by omega, hr, cc_mono cl (fun o9 h2 q => ?_), ms⟩
  obtain ⟨q1, h9, ⟨q2, q3⟩, q4, ⟨g, q5, q6⟩, q7⟩ := q
  have F : FRp [o] h9 h2 := ⟨q4, fun q n => q7 q (fun z => n (by rw [z]; exact List.mem_singleton.mpr rfl))⟩
  exact ⟨q1, q2.fr F (fun q hq z => no (by rw [← mem1 z]; exact hq)), ⟨by rw [q4, q3.1]; exact ho.1, g, q5, fun _ => q6⟩, (q3.mono (fun q hq => List.mem_cons_of_mem _ hq)).tr (F.mono (fun q hq => by rw [mem1 hq]; exact List.mem_cons_self))⟩
theorem resD_no {G : xG} {K : xK} {sa : Nat → Nat} {x m o : Nat} {ad : XA} {a : MA} {S : XS} {h : xH} {rel : UInt64 → Value → Prop} {Ml Mm : xM} {la ma : List Value} {V : UInt64} {mv : Value} {k : Int} (cl : CC G Ml la h (fun o9 h2 => o9 = .inl (some (.int (iI k))) ∧ h2 = h)) (hk : 1 ≤ k ∧ k ≤ 3) (hX : XB G h K x ad S) (ho : ADj G h o) (hI : IV S) (hr : rel V mv) (ms : ∀ (h2 : xH) (c : Int), MB G h2 sa m a S c → CC G Mm ma h2 (fun o9 h3 => o9 = .inl (some mv) ∧ MB G h3 sa m a S k ∧ FRp (fpM m a) h2 h3)) : RESD G K sa x m o ad a S h rel Ml Mm la ma := by
  refine ⟨S, k, V, mv, hI, by omega, hr, cc_mono cl (fun o9 h2 q => ?_), ms⟩
  obtain ⟨q1, rfl⟩ := q
  obtain ⟨g, f⟩ := ho.2
  exact ⟨q1, hX, ⟨ho.1, g, f, fun z => by omega⟩, FRp.rf⟩
theorem hasS_n9 {B : AB} {z : Int} (h : hasS B z = false) : ¬ (0 ≤ z ∧ z < (B.2.length : Int)) := fun w => by simp [hasS] at h; omega
theorem hasS_y9 {B : AB} {z : Int} (h : hasS B z = true) : ((z.toNat : Nat) : Int) = z ∧ z.toNat < B.2.length := by
  have h : 0 ≤ z ∧ z < (B.2.length : Int) := by simpa [hasS] using h
  omega
theorem rDust_2 {B : AB} {z : Int} : rDust B z ≠ 2 := by unfold rDust rDustS; split <;> (try split) <;> (try split) <;> (try split) <;> decide
theorem rSeal_2 {B : AB} {z : Int} : rSeal B z ≠ 2 := by unfold rSeal rSealS; split <;> (try split) <;> (try split) <;> decide
theorem rCool_2 {B : AB} {z : Int} : rCool B z ≠ 2 := by unfold rCool rCoolS; split <;> (try split) <;> (try split) <;> decide
theorem rTake_2 {B : AB} {z : Int} : rTake B z ≠ 2 := by unfold rTake rTakeS; split <;> (try split) <;> decide
theorem rCut_2 {B : AB} {z : Int} : rCut B z ≠ 2 := by unfold rCut rCutS; split <;> (try split) <;> (try split) <;> decide
theorem rHours_1 {B : AB} {z : Int} : rHours B z ≠ 1 := by unfold rHours; split <;> (try split) <;> (try split) <;> decide
theorem rFlour_1 {B : AB} {z : Int} : rFlour B z ≠ 1 := by unfold rFlour; split <;> (try split) <;> (try split) <;> decide
set_option maxRecDepth 20000 in
set_option maxHeartbeats 1000000 in
theorem s_layerCount {G : xG} {K : xK} {sa : Nat → Nat} (hGC : GC G K sa) (hGT : GT G sa) (hGE : GE G) (hCA : GCA G) {h : xH} {x m o : Nat} {ad : XA} {a : MA} {S : XS} (hX : XB G h K x ad S) (hI : IV S) (ho : AOj G h o) (no : o ∉ fpX x ad) {z : Int} (hz : in32 z) : RES G K sa x m o ad a S h relI ML_layerCount MX12_layerCount [.ref x, .int (iI z), .ref o] [.ref m, .int (iI z)] := by
  have hrv := xb_rv hX
  cases hs : hasS S.2.2.1 z with
  | true =>
    obtain ⟨hz2, hi⟩ := hasS_y9 hs
    refine res_ok (S' := S) (l_layerCount_ok hrv (P := fun h9 => XB G h9 K x ad S ∧ FRp (fpX x ad) h h9) (qst hX (c_X11_layerCount_ok hGC hGT hGE hX hI.1 hz hs)) (keepO ho no)) ho no hI ⟨_, rfl, rfl⟩ (fun h2 c hB => ?_)
    have q9 := hB.ask (c := 0) (fun r g hM hR hRW hBr => c_X12_layerCount_ok hM hR hRW.1.2.1 hRW.1.1.2.2.2.1 hi (hRW.1.s hi))
    rw [hz2] at q9
    exact q9
  | false => exact res_no (k := 1) (l_layerCount_I hrv hCA (c_X11_layerCount_no hGC hGT hGE hX hI.1 hz hs)) (by omega) hX ho hI ⟨iI 0, rfl, rfl⟩ (fun h2 c hB => hB.ask (fun r g hM hR hRW hBr => c_X12_layerCount_no hM hR hRW.1.2.1 hRW.1.1.2.2.2.1 hz (hasS_n9 hs)))
set_option maxRecDepth 20000 in
set_option maxHeartbeats 1000000 in
theorem s_temperature {G : xG} {K : xK} {sa : Nat → Nat} (hGC : GC G K sa) (hGT : GT G sa) (hGE : GE G) (hCA : GCA G) {h : xH} {x m o : Nat} {ad : XA} {a : MA} {S : XS} (hX : XB G h K x ad S) (hI : IV S) (ho : AOj G h o) (no : o ∉ fpX x ad) {z : Int} (hz : in32 z) : RES G K sa x m o ad a S h relI ML_temperature MX12_temperature [.ref x, .int (iI z), .ref o] [.ref m, .int (iI z)] := by
  have hrv := xb_rv hX
  cases hs : hasS S.2.2.1 z with
  | true =>
    obtain ⟨hz2, hi⟩ := hasS_y9 hs
    refine res_ok (S' := S) (l_temperature_ok hrv (P := fun h9 => XB G h9 K x ad S ∧ FRp (fpX x ad) h h9) (qst hX (c_X11_temperature_ok hGC hGT hGE hX hI.1 hz hs)) (keepO ho no)) ho no hI ⟨_, rfl, rfl⟩ (fun h2 c hB => ?_)
    have q9 := hB.ask (c := 0) (fun r g hM hR hRW hBr => c_X12_temperature_ok hM hR hRW.1.2.1 hRW.1.1.2.2.2.1 hi (hRW.1.s hi))
    rw [hz2] at q9
    exact q9
  | false => exact res_no (k := 1) (l_temperature_I hrv hCA (c_X11_temperature_no hGC hGT hGE hX hI.1 hz hs)) (by omega) hX ho hI ⟨iI 0, rfl, rfl⟩ (fun h2 c hB => hB.ask (fun r g hM hR hRW hBr => c_X12_temperature_no hM hR hRW.1.2.1 hRW.1.1.2.2.2.1 hz (hasS_n9 hs)))
set_option maxRecDepth 20000 in
set_option maxHeartbeats 1000000 in
theorem s_foldCount {G : xG} {K : xK} {sa : Nat → Nat} (hGC : GC G K sa) (hGT : GT G sa) (hGE : GE G) (hCA : GCA G) {h : xH} {x m o : Nat} {ad : XA} {a : MA} {S : XS} (hX : XB G h K x ad S) (hI : IV S) (ho : AOj G h o) (no : o ∉ fpX x ad) {z : Int} (hz : in32 z) : RES G K sa x m o ad a S h relI ML_foldCount MX12_foldCount [.ref x, .int (iI z), .ref o] [.ref m, .int (iI z)] := by
  have hrv := xb_rv hX
  cases hs : hasS S.2.2.1 z with
  | true =>
    obtain ⟨hz2, hi⟩ := hasS_y9 hs
    refine res_ok (S' := S) (l_foldCount_ok hrv (P := fun h9 => XB G h9 K x ad S ∧ FRp (fpX x ad) h h9) (qst hX (c_X11_foldCount_ok hGC hGT hGE hX hI.1 hz hs)) (keepO ho no)) ho no hI ⟨_, rfl, rfl⟩ (fun h2 c hB => ?_)
    have q9 := hB.ask (c := 0) (fun r g hM hR hRW hBr => c_X12_foldCount_ok hM hR hRW.1.2.1 hRW.1.1.2.2.2.1 hi (hRW.1.s hi))
    rw [hz2] at q9
    exact q9
  | false => exact res_no (k := 1) (l_foldCount_I hrv hCA (c_X11_foldCount_no hGC hGT hGE hX hI.1 hz hs)) (by omega) hX ho hI ⟨iI 0, rfl, rfl⟩ (fun h2 c hB => hB.ask (fun r g hM hR hRW hBr => c_X12_foldCount_no hM hR hRW.1.2.1 hRW.1.1.2.2.2.1 hz (hasS_n9 hs)))
set_option maxRecDepth 20000 in
set_option maxHeartbeats 1000000 in
theorem s_expectedLayers {G : xG} {K : xK} {sa : Nat → Nat} (hGC : GC G K sa) (hGT : GT G sa) (hGE : GE G) (hCA : GCA G) {h : xH} {x m o : Nat} {ad : XA} {a : MA} {S : XS} (hX : XB G h K x ad S) (hI : IV S) (ho : AOj G h o) (no : o ∉ fpX x ad) {z : Int} (hz : in32 z) : RES G K sa x m o ad a S h relI ML_expectedLayers MX12_expectedLayers [.ref x, .int (iI z), .ref o] [.ref m, .int (iI z)] := by
  have hrv := xb_rv hX
  cases hs : hasS S.2.2.1 z with
  | true =>
    obtain ⟨hz2, hi⟩ := hasS_y9 hs
    refine res_ok (S' := S) (l_expectedLayers_ok hrv (P := fun h9 => XB G h9 K x ad S ∧ FRp (fpX x ad) h h9) (qst hX (c_X11_expectedLayers_ok hGC hGT hGE hX hI.1 hz hs)) (keepO ho no)) ho no hI ⟨_, rfl, rfl⟩ (fun h2 c hB => ?_)
    have q9 := hB.ask (c := 0) (fun r g hM hR hRW hBr => c_X12_expectedLayers_ok hM hR hRW.1.2.1 hRW.1.1.2.2.2.1 hi (hRW.1.s hi))
    rw [hz2] at q9
    exact q9
  | false => exact res_no (k := 1) (l_expectedLayers_I hrv hCA (c_X11_expectedLayers_no hGC hGT hGE hX hI.1 hz hs)) (by omega) hX ho hI ⟨iI 0, rfl, rfl⟩ (fun h2 c hB => hB.ask (fun r g hM hR hRW hBr => c_X12_expectedLayers_no hM hR hRW.1.2.1 hRW.1.1.2.2.2.1 hz (hasS_n9 hs)))
set_option maxRecDepth 20000 in
set_option maxHeartbeats 1000000 in
theorem s_isDusted {G : xG} {K : xK} {sa : Nat → Nat} (hGC : GC G K sa) (hGT : GT G sa) (hGE : GE G) (hCA : GCA G) {h : xH} {x m o : Nat} {ad : XA} {a : MA} {S : XS} (hX : XB G h K x ad S) (hI : IV S) (ho : AOj G h o) (no : o ∉ fpX x ad) {z : Int} (hz : in32 z) : RES G K sa x m o ad a S h relB ML_isDusted MX12_isDusted [.ref x, .int (iI z), .ref o] [.ref m, .int (iI z)] := by
  have hrv := xb_rv hX
  cases hs : hasS S.2.2.1 z with
  | true =>
    obtain ⟨hz2, hi⟩ := hasS_y9 hs
    refine res_ok (S' := S) (l_isDusted_ok hrv (P := fun h9 => XB G h9 K x ad S ∧ FRp (fpX x ad) h h9) (qst hX (c_X11_isDusted_ok hGC hGT hGE hX hI.1 hz hs)) (keepO ho no)) ho no hI ⟨_, rfl, rfl⟩ (fun h2 c hB => ?_)
    have q9 := hB.ask (c := 0) (fun r g hM hR hRW hBr => c_X12_isDusted_ok hM hR hRW.1.2.1 hRW.1.1.2.2.2.1 hi (hRW.1.s hi))
    rw [hz2] at q9
    exact q9
  | false => exact res_no (k := 1) (l_isDusted_I hrv hCA (c_X11_isDusted_no hGC hGT hGE hX hI.1 hz hs)) (by omega) hX ho hI ⟨false, rfl, rfl⟩ (fun h2 c hB => hB.ask (fun r g hM hR hRW hBr => c_X12_isDusted_no hM hR hRW.1.2.1 hRW.1.1.2.2.2.1 hz (hasS_n9 hs)))
set_option maxRecDepth 20000 in
set_option maxHeartbeats 1000000 in
theorem s_isSealed {G : xG} {K : xK} {sa : Nat → Nat} (hGC : GC G K sa) (hGT : GT G sa) (hGE : GE G) (hCA : GCA G) {h : xH} {x m o : Nat} {ad : XA} {a : MA} {S : XS} (hX : XB G h K x ad S) (hI : IV S) (ho : AOj G h o) (no : o ∉ fpX x ad) {z : Int} (hz : in32 z) : RES G K sa x m o ad a S h relB ML_isSealed MX12_isSealed [.ref x, .int (iI z), .ref o] [.ref m, .int (iI z)] := by
  have hrv := xb_rv hX
  cases hs : hasS S.2.2.1 z with
  | true =>
    obtain ⟨hz2, hi⟩ := hasS_y9 hs
    refine res_ok (S' := S) (l_isSealed_ok hrv (P := fun h9 => XB G h9 K x ad S ∧ FRp (fpX x ad) h h9) (qst hX (c_X11_isSealed_ok hGC hGT hGE hX hI.1 hz hs)) (keepO ho no)) ho no hI ⟨_, rfl, rfl⟩ (fun h2 c hB => ?_)
    have q9 := hB.ask (c := 0) (fun r g hM hR hRW hBr => c_X12_isSealed_ok hM hR hRW.1.2.1 hRW.1.1.2.2.2.1 hi (hRW.1.s hi))
    rw [hz2] at q9
    exact q9
  | false => exact res_no (k := 1) (l_isSealed_I hrv hCA (c_X11_isSealed_no hGC hGT hGE hX hI.1 hz hs)) (by omega) hX ho hI ⟨false, rfl, rfl⟩ (fun h2 c hB => hB.ask (fun r g hM hR hRW hBr => c_X12_isSealed_no hM hR hRW.1.2.1 hRW.1.1.2.2.2.1 hz (hasS_n9 hs)))
set_option maxRecDepth 20000 in
set_option maxHeartbeats 1000000 in
theorem s_isCooling {G : xG} {K : xK} {sa : Nat → Nat} (hGC : GC G K sa) (hGT : GT G sa) (hGE : GE G) (hCA : GCA G) {h : xH} {x m o : Nat} {ad : XA} {a : MA} {S : XS} (hX : XB G h K x ad S) (hI : IV S) (ho : AOj G h o) (no : o ∉ fpX x ad) {z : Int} (hz : in32 z) : RES G K sa x m o ad a S h relB ML_isCooling MX12_isCooling [.ref x, .int (iI z), .ref o] [.ref m, .int (iI z)] := by
  have hrv := xb_rv hX
  cases hs : hasS S.2.2.1 z with
  | true =>
    obtain ⟨hz2, hi⟩ := hasS_y9 hs
    refine res_ok (S' := S) (l_isCooling_ok hrv (P := fun h9 => XB G h9 K x ad S ∧ FRp (fpX x ad) h h9) (qst hX (c_X11_isCooling_ok hGC hGT hGE hX hI.1 hz hs)) (keepO ho no)) ho no hI ⟨_, rfl, rfl⟩ (fun h2 c hB => ?_)
    have q9 := hB.ask (c := 0) (fun r g hM hR hRW hBr => c_X12_isCooling_ok hM hR hRW.1.2.1 hRW.1.1.2.2.2.1 hi (hRW.1.s hi))
    rw [hz2] at q9
    exact q9
  | false => exact res_no (k := 1) (l_isCooling_I hrv hCA (c_X11_isCooling_no hGC hGT hGE hX hI.1 hz hs)) (by omega) hX ho hI ⟨false, rfl, rfl⟩ (fun h2 c hB => hB.ask (fun r g hM hR hRW hBr => c_X12_isCooling_no hM hR hRW.1.2.1 hRW.1.1.2.2.2.1 hz (hasS_n9 hs)))
set_option maxRecDepth 20000 in
set_option maxHeartbeats 1000000 in
theorem s_butterLayerCount {G : xG} {K : xK} {sa : Nat → Nat} (hGC : GC G K sa) (hGT : GT G sa) (hGE : GE G) (hCA : GCA G) {h : xH} {x m o : Nat} {ad : XA} {a : MA} {S : XS} (hX : XB G h K x ad S) (hI : IV S) (ho : AOj G h o) (no : o ∉ fpX x ad) {z : Int} (hz : in32 z) : RES G K sa x m o ad a S h relI ML_butterLayerCount MX12_butterLayerCount [.ref x, .int (iI z), .ref o] [.ref m, .int (iI z)] := by
  have hrv := xb_rv hX
  cases hs : hasS S.2.2.1 z with
  | true =>
    obtain ⟨hz2, hi⟩ := hasS_y9 hs
    refine res_ok (S' := S) (l_butterLayerCount_ok hrv (P := fun h9 => XB G h9 K x ad S ∧ FRp (fpX x ad) h h9) (qst hX (c_X11_butterLayerCount_ok hGC hGT hGE hX hI.1 hz hs)) (keepO ho no)) ho no hI ⟨_, rfl, rfl⟩ (fun h2 c hB => ?_)
    have q9 := hB.ask (c := 0) (fun r g hM hR hRW hBr => c_X12_butterLayerCount_ok hM hR hRW.1.2.1 hRW.1.1.2.2.2.1 hi (hRW.1.s hi) (hI.1.1.1 _ (getD_memS hi)))
    rw [hz2] at q9
    exact q9
  | false => exact res_no (k := 1) (l_butterLayerCount_I hrv hCA (c_X11_butterLayerCount_no hGC hGT hGE hX hI.1 hz hs)) (by omega) hX ho hI ⟨iI 0, rfl, rfl⟩ (fun h2 c hB => hB.ask (fun r g hM hR hRW hBr => c_X12_butterLayerCount_no hM hR hRW.1.2.1 hRW.1.1.2.2.2.1 hz (hasS_n9 hs)))
set_option maxRecDepth 20000 in
set_option maxHeartbeats 1000000 in
theorem s_height {G : xG} {K : xK} {sa : Nat → Nat} (hGC : GC G K sa) (hGT : GT G sa) (hGE : GE G) (hCA : GCA G) {h : xH} {x m o : Nat} {ad : XA} {a : MA} {S : XS} (hX : XB G h K x ad S) (hI : IV S) (ho : AOj G h o) (no : o ∉ fpX x ad) {z : Int} (hz : in32 z) : RES G K sa x m o ad a S h relI ML_height MX12_height [.ref x, .int (iI z), .ref o] [.ref m, .int (iI z)] := by
  have hrv := xb_rv hX
  cases hs : hasS S.2.2.1 z with
  | true =>
    obtain ⟨hz2, hi⟩ := hasS_y9 hs
    refine res_ok (S' := S) (l_height_ok hrv (P := fun h9 => XB G h9 K x ad S ∧ FRp (fpX x ad) h h9) (qst hX (c_X11_height_ok hGC hGT hGE hX hI.1 hz hs)) (keepO ho no)) ho no hI ⟨_, rfl, rfl⟩ (fun h2 c hB => ?_)
    have q9 := hB.ask (c := 0) (fun r g hM hR hRW hBr => c_X12_height_ok hM hR hRW.1.2.1 hRW.1.1.2.2.2.1 hi (hRW.1.s hi) (hI.1.1.1 _ (getD_memS hi)))
    rw [hz2] at q9
    exact q9
  | false => exact res_no (k := 1) (l_height_I hrv hCA (c_X11_height_no hGC hGT hGE hX hI.1 hz hs)) (by omega) hX ho hI ⟨iI 0, rfl, rfl⟩ (fun h2 c hB => hB.ask (fun r g hM hR hRW hBr => c_X12_height_no hM hR hRW.1.2.1 hRW.1.1.2.2.2.1 hz (hasS_n9 hs)))
set_option maxRecDepth 20000 in
set_option maxHeartbeats 1000000 in
theorem s_butterHeight {G : xG} {K : xK} {sa : Nat → Nat} (hGC : GC G K sa) (hGT : GT G sa) (hGE : GE G) (hCA : GCA G) {h : xH} {x m o : Nat} {ad : XA} {a : MA} {S : XS} (hX : XB G h K x ad S) (hI : IV S) (ho : AOj G h o) (no : o ∉ fpX x ad) {z : Int} (hz : in32 z) : RES G K sa x m o ad a S h relI ML_butterHeight MX12_butterHeight [.ref x, .int (iI z), .ref o] [.ref m, .int (iI z)] := by
  have hrv := xb_rv hX
  cases hs : hasS S.2.2.1 z with
  | true =>
    obtain ⟨hz2, hi⟩ := hasS_y9 hs
    refine res_ok (S' := S) (l_butterHeight_ok hrv (P := fun h9 => XB G h9 K x ad S ∧ FRp (fpX x ad) h h9) (qst hX (c_X11_butterHeight_ok hGC hGT hGE hX hI.1 hz hs)) (keepO ho no)) ho no hI ⟨_, rfl, rfl⟩ (fun h2 c hB => ?_)
    have q9 := hB.ask (c := 0) (fun r g hM hR hRW hBr => c_X12_butterHeight_ok hM hR hRW.1.2.1 hRW.1.1.2.2.2.1 hi (hRW.1.s hi) (hI.1.1.1 _ (getD_memS hi)))
    rw [hz2] at q9
    exact q9
  | false => exact res_no (k := 1) (l_butterHeight_I hrv hCA (c_X11_butterHeight_no hGC hGT hGE hX hI.1 hz hs)) (by omega) hX ho hI ⟨iI 0, rfl, rfl⟩ (fun h2 c hB => hB.ask (fun r g hM hR hRW hBr => c_X12_butterHeight_no hM hR hRW.1.2.1 hRW.1.1.2.2.2.1 hz (hasS_n9 hs)))
set_option maxRecDepth 20000 in
set_option maxHeartbeats 1000000 in
theorem s_thinnestLayer {G : xG} {K : xK} {sa : Nat → Nat} (hGC : GC G K sa) (hGT : GT G sa) (hGE : GE G) (hCA : GCA G) {h : xH} {x m o : Nat} {ad : XA} {a : MA} {S : XS} (hX : XB G h K x ad S) (hI : IV S) (ho : AOj G h o) (no : o ∉ fpX x ad) {z : Int} (hz : in32 z) : RES G K sa x m o ad a S h relI ML_thinnestLayer MX12_thinnestLayer [.ref x, .int (iI z), .ref o] [.ref m, .int (iI z)] := by
  have hrv := xb_rv hX
  cases hs : hasS S.2.2.1 z with
  | true =>
    obtain ⟨hz2, hi⟩ := hasS_y9 hs
    refine res_ok (S' := S) (l_thinnestLayer_ok hrv (P := fun h9 => XB G h9 K x ad S ∧ FRp (fpX x ad) h h9) (qst hX (c_X11_thinnestLayer_ok hGC hGT hGE hX hI.1 hz hs)) (keepO ho no)) ho no hI ⟨_, rfl, rfl⟩ (fun h2 c hB => ?_)
    have q9 := hB.ask (c := 0) (fun r g hM hR hRW hBr => c_X12_thinnestLayer_ok hM hR hRW.1.2.1 hRW.1.1.2.2.2.1 hi (hRW.1.s hi) (hI.1.1.1 _ (getD_memS hi)))
    rw [hz2] at q9
    exact q9
  | false => exact res_no (k := 1) (l_thinnestLayer_I hrv hCA (c_X11_thinnestLayer_no hGC hGT hGE hX hI.1 hz hs)) (by omega) hX ho hI ⟨iI 0, rfl, rfl⟩ (fun h2 c hB => hB.ask (fun r g hM hR hRW hBr => c_X12_thinnestLayer_no hM hR hRW.1.2.1 hRW.1.1.2.2.2.1 hz (hasS_n9 hs)))
set_option maxRecDepth 20000 in
set_option maxHeartbeats 1000000 in
theorem s_thickestLayer {G : xG} {K : xK} {sa : Nat → Nat} (hGC : GC G K sa) (hGT : GT G sa) (hGE : GE G) (hCA : GCA G) {h : xH} {x m o : Nat} {ad : XA} {a : MA} {S : XS} (hX : XB G h K x ad S) (hI : IV S) (ho : AOj G h o) (no : o ∉ fpX x ad) {z : Int} (hz : in32 z) : RES G K sa x m o ad a S h relI ML_thickestLayer MX12_thickestLayer [.ref x, .int (iI z), .ref o] [.ref m, .int (iI z)] := by
  have hrv := xb_rv hX
  cases hs : hasS S.2.2.1 z with
  | true =>
    obtain ⟨hz2, hi⟩ := hasS_y9 hs
    refine res_ok (S' := S) (l_thickestLayer_ok hrv (P := fun h9 => XB G h9 K x ad S ∧ FRp (fpX x ad) h h9) (qst hX (c_X11_thickestLayer_ok hGC hGT hGE hX hI.1 hz hs)) (keepO ho no)) ho no hI ⟨_, rfl, rfl⟩ (fun h2 c hB => ?_)
    have q9 := hB.ask (c := 0) (fun r g hM hR hRW hBr => c_X12_thickestLayer_ok hM hR hRW.1.2.1 hRW.1.1.2.2.2.1 hi (hRW.1.s hi) (hI.1.1.1 _ (getD_memS hi)))
    rw [hz2] at q9
    exact q9
  | false => exact res_no (k := 1) (l_thickestLayer_I hrv hCA (c_X11_thickestLayer_no hGC hGT hGE hX hI.1 hz hs)) (by omega) hX ho hI ⟨iI 0, rfl, rfl⟩ (fun h2 c hB => hB.ask (fun r g hM hR hRW hBr => c_X12_thickestLayer_no hM hR hRW.1.2.1 hRW.1.1.2.2.2.1 hz (hasS_n9 hs)))
set_option maxRecDepth 20000 in
set_option maxHeartbeats 1000000 in
theorem s_seamCount {G : xG} {K : xK} {sa : Nat → Nat} (hGC : GC G K sa) (hGT : GT G sa) (hGE : GE G) (hCA : GCA G) {h : xH} {x m o : Nat} {ad : XA} {a : MA} {S : XS} (hX : XB G h K x ad S) (hI : IV S) (ho : AOj G h o) (no : o ∉ fpX x ad) {z : Int} (hz : in32 z) : RES G K sa x m o ad a S h relI ML_seamCount MX12_seamCount [.ref x, .int (iI z), .ref o] [.ref m, .int (iI z)] := by
  have hrv := xb_rv hX
  cases hs : hasS S.2.2.1 z with
  | true =>
    obtain ⟨hz2, hi⟩ := hasS_y9 hs
    refine res_ok (S' := S) (l_seamCount_ok hrv (P := fun h9 => XB G h9 K x ad S ∧ FRp (fpX x ad) h h9) (qst hX (c_X11_seamCount_ok hGC hGT hGE hX hI.1 hz hs)) (keepO ho no)) ho no hI ⟨_, rfl, rfl⟩ (fun h2 c hB => ?_)
    have q9 := hB.ask (c := 0) (fun r g hM hR hRW hBr => c_X12_seamCount_ok hM hR hRW.1.2.1 hRW.1.1.2.2.2.1 hi (hRW.1.s hi) (hI.1.1.1 _ (getD_memS hi)))
    rw [hz2] at q9
    exact q9
  | false => exact res_no (k := 1) (l_seamCount_I hrv hCA (c_X11_seamCount_no hGC hGT hGE hX hI.1 hz hs)) (by omega) hX ho hI ⟨iI 0, rfl, rfl⟩ (fun h2 c hB => hB.ask (fun r g hM hR hRW hBr => c_X12_seamCount_no hM hR hRW.1.2.1 hRW.1.1.2.2.2.1 hz (hasS_n9 hs)))
set_option maxRecDepth 20000 in
set_option maxHeartbeats 1000000 in
theorem s_isSymmetric {G : xG} {K : xK} {sa : Nat → Nat} (hGC : GC G K sa) (hGT : GT G sa) (hGE : GE G) (hCA : GCA G) {h : xH} {x m o : Nat} {ad : XA} {a : MA} {S : XS} (hX : XB G h K x ad S) (hI : IV S) (ho : AOj G h o) (no : o ∉ fpX x ad) {z : Int} (hz : in32 z) : RES G K sa x m o ad a S h relB ML_isSymmetric MX12_isSymmetric [.ref x, .int (iI z), .ref o] [.ref m, .int (iI z)] := by
  have hrv := xb_rv hX
  cases hs : hasS S.2.2.1 z with
  | true =>
    obtain ⟨hz2, hi⟩ := hasS_y9 hs
    refine res_ok (S' := S) (l_isSymmetric_ok hrv (P := fun h9 => XB G h9 K x ad S ∧ FRp (fpX x ad) h h9) (qst hX (c_X11_isSymmetric_ok hGC hGT hGE hX hI.1 hz hs)) (keepO ho no)) ho no hI ⟨_, rfl, rfl⟩ (fun h2 c hB => ?_)
    have q9 := hB.ask (c := 0) (fun r g hM hR hRW hBr => c_X12_isSymmetric_ok hM hR hRW.1.2.1 hRW.1.1.2.2.2.1 hi (hRW.1.s hi) (hI.1.1.1 _ (getD_memS hi)))
    rw [hz2] at q9
    exact q9
  | false => exact res_no (k := 1) (l_isSymmetric_I hrv hCA (c_X11_isSymmetric_no hGC hGT hGE hX hI.1 hz hs)) (by omega) hX ho hI ⟨false, rfl, rfl⟩ (fun h2 c hB => hB.ask (fun r g hM hR hRW hBr => c_X12_isSymmetric_no hM hR hRW.1.2.1 hRW.1.1.2.2.2.1 hz (hasS_n9 hs)))
set_option maxRecDepth 20000 in
set_option maxHeartbeats 1000000 in
theorem s_butterAtRisk {G : xG} {K : xK} {sa : Nat → Nat} (hGC : GC G K sa) (hGT : GT G sa) (hGE : GE G) (hCA : GCA G) {h : xH} {x m o : Nat} {ad : XA} {a : MA} {S : XS} (hX : XB G h K x ad S) (hI : IV S) (ho : AOj G h o) (no : o ∉ fpX x ad) {z : Int} (hz : in32 z) : RES G K sa x m o ad a S h relI ML_butterAtRisk MX12_butterAtRisk [.ref x, .int (iI z), .ref o] [.ref m, .int (iI z)] := by
  have hrv := xb_rv hX
  cases hs : hasS S.2.2.1 z with
  | true =>
    obtain ⟨hz2, hi⟩ := hasS_y9 hs
    refine res_ok (S' := S) (l_butterAtRisk_ok hrv (P := fun h9 => XB G h9 K x ad S ∧ FRp (fpX x ad) h h9) (qst hX (c_X11_butterAtRisk_ok hGC hGT hGE hX hI.1 hz hs)) (keepO ho no)) ho no hI ⟨_, rfl, rfl⟩ (fun h2 c hB => ?_)
    have q9 := hB.asks (c := 0) (fun r g hM hR hRW => (by obtain ⟨s6, h6⟩ := hRW.2; exact c_X12_butterAtRisk_ok hM hR hRW.1.2.1 hRW.1.1.2.2.2.1 hi (hRW.1.s hi) (hI.1.1.1 _ (getD_memS hi)) h6 hRW.1.1.2.1 (by have := hI.1.1.2.2.1; omega)))
    rw [hz2] at q9
    exact q9
  | false => exact res_no (k := 1) (l_butterAtRisk_I hrv hCA (c_X11_butterAtRisk_no hGC hGT hGE hX hI.1 hz hs)) (by omega) hX ho hI ⟨iI 0, rfl, rfl⟩ (fun h2 c hB => hB.ask (fun r g hM hR hRW hBr => c_X12_butterAtRisk_no hM hR hRW.1.2.1 hRW.1.1.2.2.2.1 hz (hasS_n9 hs)))
set_option maxRecDepth 20000 in
set_option maxHeartbeats 1000000 in
theorem s_hoursToSafety {G : xG} {K : xK} {sa : Nat → Nat} (hGC : GC G K sa) (hGT : GT G sa) (hGE : GE G) (hCA : GCA G) {h : xH} {x m o : Nat} {ad : XA} {a : MA} {S : XS} (hX : XB G h K x ad S) (hI : IV S) (ho : AOj G h o) (no : o ∉ fpX x ad) {z : Int} (hz : in32 z) : RES G K sa x m o ad a S h relI ML_hoursToSafety MX12_hoursToSafety [.ref x, .int (iI z), .ref o] [.ref m, .int (iI z)] := by
  have hrv := xb_rv hX
  cases hs : hasS S.2.2.1 z with
  | true =>
    obtain ⟨hz2, hi⟩ := hasS_y9 hs
    refine res_ok (S' := S) (l_hoursToSafety_ok hrv (P := fun h9 => XB G h9 K x ad S ∧ FRp (fpX x ad) h h9) (qst hX (c_X11_hoursToSafety_ok hGC hGT hGE hX hI.1 hz hs)) (keepO ho no)) ho no hI ⟨_, rfl, rfl⟩ (fun h2 c hB => ?_)
    have q9 := hB.ask (c := 0) (fun r g hM hR hRW hBr => c_X12_hoursToSafety_ok hM hR hRW.1.2.1 hRW.1.1.2.2.2.1 hi (hRW.1.s hi) (hI.1.1.1 _ (getD_memS hi)) hRW.1.1.2.1 hI.1.1.2.2.1)
    rw [hz2] at q9
    exact q9
  | false => exact res_no (k := 1) (l_hoursToSafety_I hrv hCA (c_X11_hoursToSafety_no hGC hGT hGE hX hI.1 hz hs)) (by omega) hX ho hI ⟨iI 0, rfl, rfl⟩ (fun h2 c hB => hB.ask (fun r g hM hR hRW hBr => c_X12_hoursToSafety_no hM hR hRW.1.2.1 hRW.1.1.2.2.2.1 hz (hasS_n9 hs)))
set_option maxRecDepth 20000 in
set_option maxHeartbeats 1000000 in
theorem s_butterShare {G : xG} {K : xK} {sa : Nat → Nat} (hGC : GC G K sa) (hGT : GT G sa) (hGE : GE G) (hCA : GCA G) {h : xH} {x m d : Nat} {ad : XA} {a : MA} {S : XS} (hX : XB G h K x ad S) (hI : IV S) (ho : ADj G h d) (no : d ∉ fpX x ad) {z : Int} (hz : in32 z) : RESD G K sa x m d ad a S h relF ML_butterShare MX12_butterShare [.ref x, .int (iI z), .ref d] [.ref m, .int (iI z)] := by
  have hrv := xb_rv hX
  cases hs : hasS S.2.2.1 z with
  | true =>
    obtain ⟨hz2, hi⟩ := hasS_y9 hs
    have hWS : WS (sAt S.2.2.1 z) := (hI.1.1.1 _ (getD_memS hi))
    have hb0 := hBut_b9 (sAt S.2.2.1 z).1
    have hb2 := hgt_zero_lt hWS.1 hWS.2.1
    have hnn : vf_n32 (FP.fdiv (FP.i2f (iI (hBut (sAt S.2.2.1 z).1))) (FP.i2f (iI (hgt (sAt S.2.2.1 z).1)))) := nan_32 (by have := hWS.2.2.1; omega) (by have := hWS.2.2.1; omega)
    refine resD_ok (S' := S) (l_butterShare_ok hrv hnn (P := fun h9 => XB G h9 K x ad S ∧ FRp (fpX x ad) h h9) (qst hX (c_X11_butterShare_ok hGC hGT hGE hX hI.1 hz hs)) (keepD ho no)) ho no hI ⟨f2d_nn hnn, _, rfl, rfl⟩ (fun h2 c hB => ?_)
    have q9 := hB.ask (c := 0) (fun r g hM hR hRW hBr => c_X12_butterShare_ok hM hR hRW.1.2.1 hRW.1.1.2.2.2.1 hi (hRW.1.s hi) (hI.1.1.1 _ (getD_memS hi)))
    rw [hz2] at q9
    exact q9
  | false => exact resD_no (k := 1) (l_butterShare_I hrv hCA (c_X11_butterShare_no hGC hGT hGE hX hI.1 hz hs)) (by omega) hX ho hI ⟨f2d_nn (by unfold vf_n32; decide), FP.fconst0, rfl, rfl⟩ (fun h2 c hB => hB.ask (fun r g hM hR hRW hBr => c_X12_butterShare_no hM hR hRW.1.2.1 hRW.1.1.2.2.2.1 hz (hasS_n9 hs)))
set_option maxRecDepth 20000 in
set_option maxHeartbeats 1000000 in
theorem s_meanThickness {G : xG} {K : xK} {sa : Nat → Nat} (hGC : GC G K sa) (hGT : GT G sa) (hGE : GE G) (hCA : GCA G) {h : xH} {x m d : Nat} {ad : XA} {a : MA} {S : XS} (hX : XB G h K x ad S) (hI : IV S) (ho : ADj G h d) (no : d ∉ fpX x ad) {z : Int} (hz : in32 z) : RESD G K sa x m d ad a S h relD ML_meanThickness MX12_meanThickness [.ref x, .int (iI z), .ref d] [.ref m, .int (iI z)] := by
  have hrv := xb_rv hX
  cases hs : hasS S.2.2.1 z with
  | true =>
    obtain ⟨hz2, hi⟩ := hasS_y9 hs
    have hWS : WS (sAt S.2.2.1 z) := (hI.1.1.1 _ (getD_memS hi))
    have hb1 := hgt_zero_lt hWS.1 hWS.2.1
    have hb2 := hgt_zero_lt hWS.1 hWS.2.1
    have hnn : vf_n64 (FP.ddiv (FP.i2d (iI (hgt (sAt S.2.2.1 z).1))) (FP.i2d (iI ((sAt S.2.2.1 z).1.length : Int)))) := nan_64 (by have := hWS.2.2.1; omega) (by have h8 := hWS.1; have h9 := hgt_ge (sAt S.2.2.1 z).1 hWS.2.1; have := hWS.2.2.1; omega)
    refine resD_ok (S' := S) (l_meanThickness_ok hrv (P := fun h9 => XB G h9 K x ad S ∧ FRp (fpX x ad) h h9) (qst hX (c_X11_meanThickness_ok hGC hGT hGE hX hI.1 hz hs)) (keepD ho no)) ho no hI ⟨hnn, rfl⟩ (fun h2 c hB => ?_)
    have q9 := hB.ask (c := 0) (fun r g hM hR hRW hBr => c_X12_meanThickness_ok hM hR hRW.1.2.1 hRW.1.1.2.2.2.1 hi (hRW.1.s hi) (hI.1.1.1 _ (getD_memS hi)))
    rw [hz2] at q9
    exact q9
  | false => exact resD_no (k := 1) (l_meanThickness_I hrv hCA (c_X11_meanThickness_no hGC hGT hGE hX hI.1 hz hs)) (by omega) hX ho hI ⟨by unfold vf_n64; decide, rfl⟩ (fun h2 c hB => hB.ask (fun r g hM hR hRW hBr => c_X12_meanThickness_no hM hR hRW.1.2.1 hRW.1.1.2.2.2.1 hz (hasS_n9 hs)))
set_option maxRecDepth 20000 in
set_option maxHeartbeats 1000000 in
theorem s_foldObstacle {G : xG} {K : xK} {sa : Nat → Nat} (hGC : GC G K sa) (hGT : GT G sa) (hGE : GE G) (hCA : GCA G) {h : xH} {x m o : Nat} {ad : XA} {a : MA} {S : XS} (hX : XB G h K x ad S) (hI : IV S) (ho : AOj G h o) (no : o ∉ fpX x ad) {z : Int} (hz : in32 z) {q : Int} (hq : in32 q) : RES G K sa x m o ad a S h relI ML_foldObstacle MX12_foldObstacle [.ref x, .int (iI z), .int (iI q), .ref o] [.ref m, .int (iI z), .int (iI q)] := by
  have hrv := xb_rv hX
  cases hs : hasS S.2.2.1 z with
  | true =>
    obtain ⟨hz2, hi⟩ := hasS_y9 hs
    cases hf : isFac q with
    | true =>
      refine res_ok (S' := S) (l_foldObstacle_ok hrv (P := fun h9 => XB G h9 K x ad S ∧ FRp (fpX x ad) h h9) (qst hX (c_X11_foldObstacle_ok hGC hGT hGE hX hI.1 hz hs hq hf)) (keepO ho no)) ho no hI ⟨_, rfl, rfl⟩ (fun h2 c hB => ?_)
      have q9 := hB.ask (c := 0) (fun r g hM hR hRW hBr => c_X12_foldObstacle_ok hM hR hRW.1.2.1 hRW.1.1.2.2.2.1 hi (hRW.1.s hi) (hI.1.1.1 _ (getD_memS hi)) hq hf)
      rw [hz2] at q9
      exact q9
    | false =>
      refine res_no (k := 2) (l_foldObstacle_A hrv hCA (c_X11_foldObstacle_bad hGC hGT hGE hX hI.1 hz hs hq hf)) (by omega) hX ho hI ⟨iI 0, rfl, rfl⟩ (fun h2 c hB => ?_)
      have q9 := hB.ask (c := 2) (fun r g hM hR hRW hBr => c_X12_foldObstacle_bad hM hR hRW.1.2.1 hRW.1.1.2.2.2.1 hi (hRW.1.s hi) hq hf)
      rw [hz2] at q9
      exact q9
  | false => exact res_no (k := 1) (l_foldObstacle_I hrv hCA (c_X11_foldObstacle_no hGC hGT hGE hX hI.1 hz hs)) (by omega) hX ho hI ⟨iI 0, rfl, rfl⟩ (fun h2 c hB => hB.ask (fun r g hM hR hRW hBr => c_X12_foldObstacle_no hM hR hRW.1.2.1 hRW.1.1.2.2.2.1 hz (hasS_n9 hs) hq))
set_option maxRecDepth 20000 in
set_option maxHeartbeats 1000000 in
theorem s_layersAfterFold {G : xG} {K : xK} {sa : Nat → Nat} (hGC : GC G K sa) (hGT : GT G sa) (hGE : GE G) (hCA : GCA G) {h : xH} {x m o : Nat} {ad : XA} {a : MA} {S : XS} (hX : XB G h K x ad S) (hI : IV S) (ho : AOj G h o) (no : o ∉ fpX x ad) {z : Int} (hz : in32 z) {q : Int} (hq : in32 q) : RES G K sa x m o ad a S h relI ML_layersAfterFold MX12_layersAfterFold [.ref x, .int (iI z), .int (iI q), .ref o] [.ref m, .int (iI z), .int (iI q)] := by
  have hrv := xb_rv hX
  cases hs : hasS S.2.2.1 z with
  | true =>
    obtain ⟨hz2, hi⟩ := hasS_y9 hs
    cases hf : isFac q with
    | true =>
      refine res_ok (S' := S) (l_layersAfterFold_ok hrv (P := fun h9 => XB G h9 K x ad S ∧ FRp (fpX x ad) h h9) (qst hX (c_X11_layersAfterFold_ok hGC hGT hGE hX hI.1 hz hs hq hf)) (keepO ho no)) ho no hI ⟨_, rfl, rfl⟩ (fun h2 c hB => ?_)
      have q9 := hB.ask (c := 0) (fun r g hM hR hRW hBr => c_X12_layersAfterFold_ok hM hR hRW.1.2.1 hRW.1.1.2.2.2.1 hi (hRW.1.s hi) (hI.1.1.1 _ (getD_memS hi)) hq hf)
      rw [hz2] at q9
      exact q9
    | false =>
      refine res_no (k := 2) (l_layersAfterFold_A hrv hCA (c_X11_layersAfterFold_bad hGC hGT hGE hX hI.1 hz hs hq hf)) (by omega) hX ho hI ⟨iI 0, rfl, rfl⟩ (fun h2 c hB => ?_)
      have q9 := hB.ask (c := 2) (fun r g hM hR hRW hBr => c_X12_layersAfterFold_bad hM hR hRW.1.2.1 hRW.1.1.2.2.2.1 hi (hRW.1.s hi) hq hf)
      rw [hz2] at q9
      exact q9
  | false => exact res_no (k := 1) (l_layersAfterFold_I hrv hCA (c_X11_layersAfterFold_no hGC hGT hGE hX hI.1 hz hs)) (by omega) hX ho hI ⟨iI 0, rfl, rfl⟩ (fun h2 c hB => hB.ask (fun r g hM hR hRW hBr => c_X12_layersAfterFold_no hM hR hRW.1.2.1 hRW.1.1.2.2.2.1 hz (hasS_n9 hs) hq))
set_option maxRecDepth 20000 in
set_option maxHeartbeats 1000000 in
theorem s_foldsPossible {G : xG} {K : xK} {sa : Nat → Nat} (hGC : GC G K sa) (hGT : GT G sa) (hGE : GE G) (hCA : GCA G) {h : xH} {x m o : Nat} {ad : XA} {a : MA} {S : XS} (hX : XB G h K x ad S) (hI : IV S) (ho : AOj G h o) (no : o ∉ fpX x ad) {z : Int} (hz : in32 z) {q : Int} (hq : in32 q) : RES G K sa x m o ad a S h relI ML_foldsPossible MX12_foldsPossible [.ref x, .int (iI z), .int (iI q), .ref o] [.ref m, .int (iI z), .int (iI q)] := by
  have hrv := xb_rv hX
  cases hs : hasS S.2.2.1 z with
  | true =>
    obtain ⟨hz2, hi⟩ := hasS_y9 hs
    cases hf : isFac q with
    | true =>
      refine res_ok (S' := S) (l_foldsPossible_ok hrv (P := fun h9 => XB G h9 K x ad S ∧ FRp (fpX x ad) h h9) (qst hX (c_X11_foldsPossible_ok hGC hGT hGE hX hI.1 hz hs hq hf)) (keepO ho no)) ho no hI ⟨_, rfl, rfl⟩ (fun h2 c hB => ?_)
      have q9 := hB.ask (c := 0) (fun r g hM hR hRW hBr => c_X12_foldsPossible_ok hM hR hRW.1.2.1 hRW.1.1.2.2.2.1 hi (hRW.1.s hi) (hI.1.1.1 _ (getD_memS hi)) hq hf)
      rw [hz2] at q9
      exact q9
    | false =>
      refine res_no (k := 2) (l_foldsPossible_A hrv hCA (c_X11_foldsPossible_bad hGC hGT hGE hX hI.1 hz hs hq hf)) (by omega) hX ho hI ⟨iI 0, rfl, rfl⟩ (fun h2 c hB => ?_)
      have q9 := hB.ask (c := 2) (fun r g hM hR hRW hBr => c_X12_foldsPossible_bad hM hR hRW.1.2.1 hRW.1.1.2.2.2.1 hi (hRW.1.s hi) hq hf)
      rw [hz2] at q9
      exact q9
  | false => exact res_no (k := 1) (l_foldsPossible_I hrv hCA (c_X11_foldsPossible_no hGC hGT hGE hX hI.1 hz hs)) (by omega) hX ho hI ⟨iI 0, rfl, rfl⟩ (fun h2 c hB => hB.ask (fun r g hM hR hRW hBr => c_X12_foldsPossible_no hM hR hRW.1.2.1 hRW.1.1.2.2.2.1 hz (hasS_n9 hs) hq))
set_option maxRecDepth 20000 in
set_option maxHeartbeats 1000000 in
theorem s_layersAtRisk {G : xG} {K : xK} {sa : Nat → Nat} (hGC : GC G K sa) (hGT : GT G sa) (hGE : GE G) (hCA : GCA G) {h : xH} {x m o : Nat} {ad : XA} {a : MA} {S : XS} (hX : XB G h K x ad S) (hI : IV S) (ho : AOj G h o) (no : o ∉ fpX x ad) {z : Int} (hz : in32 z) {q : Int} (hq : in32 q) : RES G K sa x m o ad a S h relI ML_layersAtRisk MX12_layersAtRisk [.ref x, .int (iI z), .int (iI q), .ref o] [.ref m, .int (iI z), .int (iI q)] := by
  have hrv := xb_rv hX
  cases hs : hasS S.2.2.1 z with
  | true =>
    obtain ⟨hz2, hi⟩ := hasS_y9 hs
    cases hf : isFac q with
    | true =>
      refine res_ok (S' := S) (l_layersAtRisk_ok hrv (P := fun h9 => XB G h9 K x ad S ∧ FRp (fpX x ad) h h9) (qst hX (c_X11_layersAtRisk_ok hGC hGT hGE hX hI.1 hz hs hq hf)) (keepO ho no)) ho no hI ⟨_, rfl, rfl⟩ (fun h2 c hB => ?_)
      have q9 := hB.asks (c := 0) (fun r g hM hR hRW => (by obtain ⟨s6, h6⟩ := hRW.2; exact c_X12_layersAtRisk_ok hM hR hRW.1.2.1 hRW.1.1.2.2.2.1 hi (hRW.1.s hi) (hI.1.1.1 _ (getD_memS hi)) h6 hRW.1.1.2.1 (by have := hI.1.1.2.2.1; omega) hq hf))
      rw [hz2] at q9
      exact q9
    | false =>
      refine res_no (k := 2) (l_layersAtRisk_A hrv hCA (c_X11_layersAtRisk_bad hGC hGT hGE hX hI.1 hz hs hq hf)) (by omega) hX ho hI ⟨iI 0, rfl, rfl⟩ (fun h2 c hB => ?_)
      have q9 := hB.ask (c := 2) (fun r g hM hR hRW hBr => c_X12_layersAtRisk_bad hM hR hRW.1.2.1 hRW.1.1.2.2.2.1 hi (hRW.1.s hi) hq hf)
      rw [hz2] at q9
      exact q9
  | false => exact res_no (k := 1) (l_layersAtRisk_I hrv hCA (c_X11_layersAtRisk_no hGC hGT hGE hX hI.1 hz hs)) (by omega) hX ho hI ⟨iI 0, rfl, rfl⟩ (fun h2 c hB => hB.ask (fun r g hM hR hRW hBr => c_X12_layersAtRisk_no hM hR hRW.1.2.1 hRW.1.1.2.2.2.1 hz (hasS_n9 hs) hq))
set_option maxRecDepth 20000 in
set_option maxHeartbeats 1000000 in
theorem s_heightAfterRoll {G : xG} {K : xK} {sa : Nat → Nat} (hGC : GC G K sa) (hGT : GT G sa) (hGE : GE G) (hCA : GCA G) {h : xH} {x m o : Nat} {ad : XA} {a : MA} {S : XS} (hX : XB G h K x ad S) (hI : IV S) (ho : AOj G h o) (no : o ∉ fpX x ad) {z : Int} (hz : in32 z) {q : Int} (hq : in32 q) : RES G K sa x m o ad a S h relI ML_heightAfterRoll MX12_heightAfterRoll [.ref x, .int (iI z), .int (iI q), .ref o] [.ref m, .int (iI z), .int (iI q)] := by
  have hrv := xb_rv hX
  cases hs : hasS S.2.2.1 z with
  | true =>
    obtain ⟨hz2, hi⟩ := hasS_y9 hs
    cases hf : isFac q with
    | true =>
      refine res_ok (S' := S) (l_heightAfterRoll_ok hrv (P := fun h9 => XB G h9 K x ad S ∧ FRp (fpX x ad) h h9) (qst hX (c_X11_heightAfterRoll_ok hGC hGT hGE hX hI.1 hz hs hq hf)) (keepO ho no)) ho no hI ⟨_, rfl, rfl⟩ (fun h2 c hB => ?_)
      have q9 := hB.asks (c := 0) (fun r g hM hR hRW => (by obtain ⟨s6, h6⟩ := hRW.2; exact c_X12_heightAfterRoll_ok hM hR hRW.1.2.1 hRW.1.1.2.2.2.1 hi (hRW.1.s hi) (hI.1.1.1 _ (getD_memS hi)) h6 hRW.1.1.2.1 (by have := hI.1.1.2.2.1; omega) hq hf))
      rw [hz2] at q9
      exact q9
    | false =>
      refine res_no (k := 2) (l_heightAfterRoll_A hrv hCA (c_X11_heightAfterRoll_bad hGC hGT hGE hX hI.1 hz hs hq hf)) (by omega) hX ho hI ⟨iI 0, rfl, rfl⟩ (fun h2 c hB => ?_)
      have q9 := hB.ask (c := 2) (fun r g hM hR hRW hBr => c_X12_heightAfterRoll_bad hM hR hRW.1.2.1 hRW.1.1.2.2.2.1 hi (hRW.1.s hi) hq hf)
      rw [hz2] at q9
      exact q9
  | false => exact res_no (k := 1) (l_heightAfterRoll_I hrv hCA (c_X11_heightAfterRoll_no hGC hGT hGE hX hI.1 hz hs)) (by omega) hX ho hI ⟨iI 0, rfl, rfl⟩ (fun h2 c hB => hB.ask (fun r g hM hR hRW hBr => c_X12_heightAfterRoll_no hM hR hRW.1.2.1 hRW.1.1.2.2.2.1 hz (hasS_n9 hs) hq))
set_option maxRecDepth 20000 in
set_option maxHeartbeats 1000000 in
theorem s_isButter {G : xG} {K : xK} {sa : Nat → Nat} (hGC : GC G K sa) (hGT : GT G sa) (hGE : GE G) (hCA : GCA G) {h : xH} {x m o : Nat} {ad : XA} {a : MA} {S : XS} (hX : XB G h K x ad S) (hI : IV S) (ho : AOj G h o) (no : o ∉ fpX x ad) {z : Int} (hz : in32 z) {q : Int} (hq : in32 q) : RES G K sa x m o ad a S h relB ML_isButter MX12_isButter [.ref x, .int (iI z), .int (iI q), .ref o] [.ref m, .int (iI z), .int (iI q)] := by
  have hrv := xb_rv hX
  cases hs : hasS S.2.2.1 z with
  | true =>
    obtain ⟨hz2, hi⟩ := hasS_y9 hs
    by_cases hf : 0 ≤ q ∧ q < ((sAt S.2.2.1 z).1.length : Int)
    · refine res_ok (S' := S) (l_isButter_ok hrv (P := fun h9 => XB G h9 K x ad S ∧ FRp (fpX x ad) h h9) (qst hX (c_X11_isButter_ok hGC hGT hGE hX hI.1 hz hs hq hf)) (keepO ho no)) ho no hI ⟨_, rfl, rfl⟩ (fun h2 c hB => ?_)
      have q9 := hB.ask (c := 0) (fun r g hM hR hRW hBr => c_X12_isButter_ok hM hR hRW.1.2.1 hRW.1.1.2.2.2.1 hi (hRW.1.s hi) (hI.1.1.1 _ (getD_memS hi)) hq hf)
      rw [hz2] at q9
      exact q9
    · refine res_no (k := 1) (l_isButter_I hrv hCA (c_X11_isButter_bad hGC hGT hGE hX hI.1 hz hs hq hf)) (by omega) hX ho hI ⟨false, rfl, rfl⟩ (fun h2 c hB => ?_)
      have q9 := hB.ask (c := 1) (fun r g hM hR hRW hBr => c_X12_isButter_bad hM hR hRW.1.2.1 hRW.1.1.2.2.2.1 hi (hRW.1.s hi) hq hf)
      rw [hz2] at q9
      exact q9
  | false => exact res_no (k := 1) (l_isButter_I hrv hCA (c_X11_isButter_no hGC hGT hGE hX hI.1 hz hs)) (by omega) hX ho hI ⟨false, rfl, rfl⟩ (fun h2 c hB => hB.ask (fun r g hM hR hRW hBr => c_X12_isButter_no hM hR hRW.1.2.1 hRW.1.1.2.2.2.1 hz (hasS_n9 hs)))
set_option maxRecDepth 20000 in
set_option maxHeartbeats 1000000 in
theorem s_thickness {G : xG} {K : xK} {sa : Nat → Nat} (hGC : GC G K sa) (hGT : GT G sa) (hGE : GE G) (hCA : GCA G) {h : xH} {x m o : Nat} {ad : XA} {a : MA} {S : XS} (hX : XB G h K x ad S) (hI : IV S) (ho : AOj G h o) (no : o ∉ fpX x ad) {z : Int} (hz : in32 z) {q : Int} (hq : in32 q) : RES G K sa x m o ad a S h relI ML_thickness MX12_thickness [.ref x, .int (iI z), .int (iI q), .ref o] [.ref m, .int (iI z), .int (iI q)] := by
  have hrv := xb_rv hX
  cases hs : hasS S.2.2.1 z with
  | true =>
    obtain ⟨hz2, hi⟩ := hasS_y9 hs
    by_cases hf : 0 ≤ q ∧ q < ((sAt S.2.2.1 z).1.length : Int)
    · refine res_ok (S' := S) (l_thickness_ok hrv (P := fun h9 => XB G h9 K x ad S ∧ FRp (fpX x ad) h h9) (qst hX (c_X11_thickness_ok hGC hGT hGE hX hI.1 hz hs hq hf)) (keepO ho no)) ho no hI ⟨_, rfl, rfl⟩ (fun h2 c hB => ?_)
      have q9 := hB.ask (c := 0) (fun r g hM hR hRW hBr => c_X12_thickness_ok hM hR hRW.1.2.1 hRW.1.1.2.2.2.1 hi (hRW.1.s hi) (hI.1.1.1 _ (getD_memS hi)) hq hf)
      rw [hz2] at q9
      exact q9
    · refine res_no (k := 1) (l_thickness_I hrv hCA (c_X11_thickness_bad hGC hGT hGE hX hI.1 hz hs hq hf)) (by omega) hX ho hI ⟨iI 0, rfl, rfl⟩ (fun h2 c hB => ?_)
      have q9 := hB.ask (c := 1) (fun r g hM hR hRW hBr => c_X12_thickness_bad hM hR hRW.1.2.1 hRW.1.1.2.2.2.1 hi (hRW.1.s hi) hq hf)
      rw [hz2] at q9
      exact q9
  | false => exact res_no (k := 1) (l_thickness_I hrv hCA (c_X11_thickness_no hGC hGT hGE hX hI.1 hz hs)) (by omega) hX ho hI ⟨iI 0, rfl, rfl⟩ (fun h2 c hB => hB.ask (fun r g hM hR hRW hBr => c_X12_thickness_no hM hR hRW.1.2.1 hRW.1.1.2.2.2.1 hz (hasS_n9 hs)))
set_option maxRecDepth 20000 in
set_option maxHeartbeats 1000000 in
theorem s_temperatureAfter {G : xG} {K : xK} {sa : Nat → Nat} (hGC : GC G K sa) (hGT : GT G sa) (hGE : GE G) (hCA : GCA G) {h : xH} {x m o : Nat} {ad : XA} {a : MA} {S : XS} (hX : XB G h K x ad S) (hI : IV S) (ho : AOj G h o) (no : o ∉ fpX x ad) {z : Int} (hz : in32 z) {q : Int} (hq : in32 q) : RES G K sa x m o ad a S h relI ML_temperatureAfter MX12_temperatureAfter [.ref x, .int (iI z), .int (iI q), .ref o] [.ref m, .int (iI z), .int (iI q)] := by
  have hrv := xb_rv hX
  cases hs : hasS S.2.2.1 z with
  | true =>
    obtain ⟨hz2, hi⟩ := hasS_y9 hs
    by_cases hf : 0 ≤ q ∧ q ≤ 24
    · refine res_ok (S' := S) (l_temperatureAfter_ok hrv (P := fun h9 => XB G h9 K x ad S ∧ FRp (fpX x ad) h h9) (qst hX (c_X11_temperatureAfter_ok hGC hGT hGE hX hI.1 hz hs hf)) (keepO ho no)) ho no hI ⟨_, rfl, rfl⟩ (fun h2 c hB => ?_)
      have q9 := hB.ask (c := 0) (fun r g hM hR hRW hBr => c_X12_temperatureAfter_ok hM hR hRW.1.2.1 hRW.1.1.2.2.2.1 hi (hRW.1.s hi) (hI.1.1.1 _ (getD_memS hi)) hRW.1.1.1 hI.1.1.2.1 (n9 := q.toNat) (by omega))
      rw [hz2, show ((q.toNat : Nat) : Int) = q by omega] at q9
      exact q9
    · refine res_no (k := 2) (l_temperatureAfter_A hrv hCA (c_X11_temperatureAfter_bad hGC hGT hGE hX hI.1 hz hs hq hf)) (by omega) hX ho hI ⟨iI 0, rfl, rfl⟩ (fun h2 c hB => ?_)
      have q9 := hB.ask (c := 2) (fun r g hM hR hRW hBr => c_X12_temperatureAfter_bad hM hR hRW.1.2.1 hRW.1.1.2.2.2.1 hi (hRW.1.s hi) hq (by simp [inR]; omega))
      rw [hz2] at q9
      exact q9
  | false => exact res_no (k := 1) (l_temperatureAfter_I hrv hCA (c_X11_temperatureAfter_no hGC hGT hGE hX hI.1 hz hs)) (by omega) hX ho hI ⟨iI 0, rfl, rfl⟩ (fun h2 c hB => hB.ask (fun r g hM hR hRW hBr => c_X12_temperatureAfter_no hM hR hRW.1.2.1 hRW.1.1.2.2.2.1 hz (hasS_n9 hs) hq))
set_option maxRecDepth 20000 in
set_option maxHeartbeats 1000000 in
theorem s_fold {G : xG} {K : xK} {sa : Nat → Nat} (hGC : GC G K sa) (hGT : GT G sa) (hGE : GE G) (hCA : GCA G) {h : xH} {x m o : Nat} {ad : XA} {a : MA} {S : XS} (hX : XB G h K x ad S) (hI : IV S) (ho : AOj G h o) (no : o ∉ fpX x ad) {z : Int} (hz : in32 z) {q : Int} (hq : in32 q) : RES G K sa x m o ad a S h relI ML_fold MX12_fold [.ref x, .int (iI z), .int (iI q), .ref o] [.ref m, .int (iI z), .int (iI q)] := by
  have hrv := xb_rv hX
  by_cases h0 : rCmd 0 S.2.2.1 z q = 0
  · have hI2 : IV (S.1, S.2.1, aCmd 0 S.2.2.1 z q, S.2.2.2.1, remH S.2.2.2.2.1 S.2.2.1, S.2.2.2.2.2) := hI.chg hI.1.2.2.2 (hI.1.1.cmd h0) (CB_cmd h0 hI.2.1)
    refine res_ok (S' := (S.1, S.2.1, aCmd 0 S.2.2.1 z q, S.2.2.2.1, remH S.2.2.2.2.1 S.2.2.1, S.2.2.2.2.2)) (l_fold_ok hrv (P := fun h9 => XB G h9 K x ad (S.1, S.2.1, aCmd 0 S.2.2.1 z q, S.2.2.2.1, remH S.2.2.2.2.1 S.2.2.1, S.2.2.2.2.2) ∧ FRp (fpX x ad) h h9) (c_X11_fold_ok hGC hGT hGE hX hI.1 hz hq h0) (keepO ho no)) ho no hI2 ⟨_, rfl, rfl⟩ (fun h2 c hB => ?_)
    exact b_X12_fold_ok hB hI.1 hI.2.1 hz hq h0
  · have hl := rCmd_lt (k := 0) (B := S.2.2.1) (a := z) (b := q)
    have hc := c_X11_fold_no hGC hGT hGE hX hI.1 hz hq h0
    have hm : ∀ (h2 : xH) (c : Int), MB G h2 sa m a S c → _ := fun h2 c (hB : MB G h2 sa m a S c) => b_X12_fold_no hB hI.1 hI.2.1 hz hq h0
    rcases (show rCmd 0 S.2.2.1 z q = 1 ∨ rCmd 0 S.2.2.1 z q = 2 ∨ rCmd 0 S.2.2.1 z q = 3 by omega) with e | e | e
    · rw [e] at hc
      exact res_no (k := 1) (l_fold_I hrv hCA hc) (by omega) hX ho hI ⟨iI 0, rfl, rfl⟩ (fun h2 c hB => by have q9 := hm h2 c hB; rw [e] at q9; exact q9)
    · rw [e] at hc
      exact res_no (k := 2) (l_fold_A hrv hCA hc) (by omega) hX ho hI ⟨iI 0, rfl, rfl⟩ (fun h2 c hB => by have q9 := hm h2 c hB; rw [e] at q9; exact q9)
    · rw [e] at hc
      exact res_no (k := 3) (l_fold_S hrv hCA hc) (by omega) hX ho hI ⟨iI 0, rfl, rfl⟩ (fun h2 c hB => by have q9 := hm h2 c hB; rw [e] at q9; exact q9)
set_option maxRecDepth 20000 in
set_option maxHeartbeats 1000000 in
theorem s_roll {G : xG} {K : xK} {sa : Nat → Nat} (hGC : GC G K sa) (hGT : GT G sa) (hGE : GE G) (hCA : GCA G) {h : xH} {x m o : Nat} {ad : XA} {a : MA} {S : XS} (hX : XB G h K x ad S) (hI : IV S) (ho : AOj G h o) (no : o ∉ fpX x ad) {z : Int} (hz : in32 z) {q : Int} (hq : in32 q) : RES G K sa x m o ad a S h relI ML_roll MX12_roll [.ref x, .int (iI z), .int (iI q), .ref o] [.ref m, .int (iI z), .int (iI q)] := by
  have hrv := xb_rv hX
  by_cases h0 : rCmd 1 S.2.2.1 z q = 0
  · have hI2 : IV (S.1, S.2.1, aCmd 1 S.2.2.1 z q, S.2.2.2.1, remH S.2.2.2.2.1 S.2.2.1, S.2.2.2.2.2) := hI.chg hI.1.2.2.2 (hI.1.1.cmd h0) (CB_cmd h0 hI.2.1)
    refine res_ok (S' := (S.1, S.2.1, aCmd 1 S.2.2.1 z q, S.2.2.2.1, remH S.2.2.2.2.1 S.2.2.1, S.2.2.2.2.2)) (l_roll_ok hrv (P := fun h9 => XB G h9 K x ad (S.1, S.2.1, aCmd 1 S.2.2.1 z q, S.2.2.2.1, remH S.2.2.2.2.1 S.2.2.1, S.2.2.2.2.2) ∧ FRp (fpX x ad) h h9) (c_X11_roll_ok hGC hGT hGE hX hI.1 hz hq h0) (keepO ho no)) ho no hI2 ⟨_, rfl, rfl⟩ (fun h2 c hB => ?_)
    exact b_X12_roll_ok hB hI.1 hI.2.1 hz hq h0
  · have hl := rCmd_lt (k := 1) (B := S.2.2.1) (a := z) (b := q)
    have hc := c_X11_roll_no hGC hGT hGE hX hI.1 hz hq h0
    have hm : ∀ (h2 : xH) (c : Int), MB G h2 sa m a S c → _ := fun h2 c (hB : MB G h2 sa m a S c) => b_X12_roll_no hB hI.1 hI.2.1 hz hq h0
    rcases (show rCmd 1 S.2.2.1 z q = 1 ∨ rCmd 1 S.2.2.1 z q = 2 ∨ rCmd 1 S.2.2.1 z q = 3 by omega) with e | e | e
    · rw [e] at hc
      exact res_no (k := 1) (l_roll_I hrv hCA hc) (by omega) hX ho hI ⟨iI 0, rfl, rfl⟩ (fun h2 c hB => by have q9 := hm h2 c hB; rw [e] at q9; exact q9)
    · rw [e] at hc
      exact res_no (k := 2) (l_roll_A hrv hCA hc) (by omega) hX ho hI ⟨iI 0, rfl, rfl⟩ (fun h2 c hB => by have q9 := hm h2 c hB; rw [e] at q9; exact q9)
    · rw [e] at hc
      exact res_no (k := 3) (l_roll_S hrv hCA hc) (by omega) hX ho hI ⟨iI 0, rfl, rfl⟩ (fun h2 c hB => by have q9 := hm h2 c hB; rw [e] at q9; exact q9)
set_option maxRecDepth 20000 in
set_option maxHeartbeats 1000000 in
theorem s_dust {G : xG} {K : xK} {sa : Nat → Nat} (hGC : GC G K sa) (hGT : GT G sa) (hGE : GE G) (hCA : GCA G) {h : xH} {x m o : Nat} {ad : XA} {a : MA} {S : XS} (hX : XB G h K x ad S) (hI : IV S) (ho : AOj G h o) (no : o ∉ fpX x ad) {z : Int} (hz : in32 z) : RES G K sa x m o ad a S h relI ML_dust MX12_dust [.ref x, .int (iI z), .ref o] [.ref m, .int (iI z)] := by
  have hrv := xb_rv hX
  by_cases h0 : rCmd 2 S.2.2.1 z 0 = 0
  · have hI2 : IV (S.1, S.2.1, aCmd 2 S.2.2.1 z 0, S.2.2.2.1, remH S.2.2.2.2.1 S.2.2.1, S.2.2.2.2.2) := hI.chg hI.1.2.2.2 (hI.1.1.cmd h0) (CB_cmd h0 hI.2.1)
    refine res_ok (S' := (S.1, S.2.1, aCmd 2 S.2.2.1 z 0, S.2.2.2.1, remH S.2.2.2.2.1 S.2.2.1, S.2.2.2.2.2)) (l_dust_ok hrv (P := fun h9 => XB G h9 K x ad (S.1, S.2.1, aCmd 2 S.2.2.1 z 0, S.2.2.2.1, remH S.2.2.2.2.1 S.2.2.1, S.2.2.2.2.2) ∧ FRp (fpX x ad) h h9) (c_X11_dust_ok hGC hGT hGE hX hI.1 hz h0) (keepO ho no)) ho no hI2 ⟨_, rfl, rfl⟩ (fun h2 c hB => ?_)
    exact b_X12_dust_ok hB hI.1 hI.2.1 hz (q := 0) ⟨by decide, by decide⟩ h0
  · have hl := rCmd_lt (k := 2) (B := S.2.2.1) (a := z) (b := 0)
    have hn9 : rCmd 2 S.2.2.1 z 0 ≠ 2 := rDust_2
    have hc := c_X11_dust_no hGC hGT hGE hX hI.1 hz h0
    have hm : ∀ (h2 : xH) (c : Int), MB G h2 sa m a S c → _ := fun h2 c (hB : MB G h2 sa m a S c) => b_X12_dust_no hB hI.1 hI.2.1 hz (q := 0) ⟨by decide, by decide⟩ h0
    rcases (show rCmd 2 S.2.2.1 z 0 = 1 ∨ rCmd 2 S.2.2.1 z 0 = 3 by omega) with e | e
    · rw [e] at hc
      exact res_no (k := 1) (l_dust_I hrv hCA hc) (by omega) hX ho hI ⟨iI 0, rfl, rfl⟩ (fun h2 c hB => by have q9 := hm h2 c hB; rw [e] at q9; exact q9)
    · rw [e] at hc
      exact res_no (k := 2) (l_dust_S hrv hCA hc) (by omega) hX ho hI ⟨iI 0, rfl, rfl⟩ (fun h2 c hB => by have q9 := hm h2 c hB; rw [e] at q9; exact q9)
set_option maxRecDepth 20000 in
set_option maxHeartbeats 1000000 in
theorem s_seal {G : xG} {K : xK} {sa : Nat → Nat} (hGC : GC G K sa) (hGT : GT G sa) (hGE : GE G) (hCA : GCA G) {h : xH} {x m o : Nat} {ad : XA} {a : MA} {S : XS} (hX : XB G h K x ad S) (hI : IV S) (ho : AOj G h o) (no : o ∉ fpX x ad) {z : Int} (hz : in32 z) : RES G K sa x m o ad a S h relI ML_seal MX12_seal [.ref x, .int (iI z), .ref o] [.ref m, .int (iI z)] := by
  have hrv := xb_rv hX
  by_cases h0 : rCmd 3 S.2.2.1 z 0 = 0
  · have hI2 : IV (S.1, S.2.1, aCmd 3 S.2.2.1 z 0, S.2.2.2.1, remH S.2.2.2.2.1 S.2.2.1, S.2.2.2.2.2) := hI.chg hI.1.2.2.2 (hI.1.1.cmd h0) (CB_cmd h0 hI.2.1)
    refine res_ok (S' := (S.1, S.2.1, aCmd 3 S.2.2.1 z 0, S.2.2.2.1, remH S.2.2.2.2.1 S.2.2.1, S.2.2.2.2.2)) (l_seal_ok hrv (P := fun h9 => XB G h9 K x ad (S.1, S.2.1, aCmd 3 S.2.2.1 z 0, S.2.2.2.1, remH S.2.2.2.2.1 S.2.2.1, S.2.2.2.2.2) ∧ FRp (fpX x ad) h h9) (c_X11_seal_ok hGC hGT hGE hX hI.1 hz h0) (keepO ho no)) ho no hI2 ⟨_, rfl, rfl⟩ (fun h2 c hB => ?_)
    exact b_X12_seal_ok hB hI.1 hI.2.1 hz (q := 0) ⟨by decide, by decide⟩ h0
  · have hl := rCmd_lt (k := 3) (B := S.2.2.1) (a := z) (b := 0)
    have hn9 : rCmd 3 S.2.2.1 z 0 ≠ 2 := rSeal_2
    have hc := c_X11_seal_no hGC hGT hGE hX hI.1 hz h0
    have hm : ∀ (h2 : xH) (c : Int), MB G h2 sa m a S c → _ := fun h2 c (hB : MB G h2 sa m a S c) => b_X12_seal_no hB hI.1 hI.2.1 hz (q := 0) ⟨by decide, by decide⟩ h0
    rcases (show rCmd 3 S.2.2.1 z 0 = 1 ∨ rCmd 3 S.2.2.1 z 0 = 3 by omega) with e | e
    · rw [e] at hc
      exact res_no (k := 1) (l_seal_I hrv hCA hc) (by omega) hX ho hI ⟨iI 0, rfl, rfl⟩ (fun h2 c hB => by have q9 := hm h2 c hB; rw [e] at q9; exact q9)
    · rw [e] at hc
      exact res_no (k := 2) (l_seal_S hrv hCA hc) (by omega) hX ho hI ⟨iI 0, rfl, rfl⟩ (fun h2 c hB => by have q9 := hm h2 c hB; rw [e] at q9; exact q9)
set_option maxRecDepth 20000 in
set_option maxHeartbeats 1000000 in
theorem s_cool {G : xG} {K : xK} {sa : Nat → Nat} (hGC : GC G K sa) (hGT : GT G sa) (hGE : GE G) (hCA : GCA G) {h : xH} {x m o : Nat} {ad : XA} {a : MA} {S : XS} (hX : XB G h K x ad S) (hI : IV S) (ho : AOj G h o) (no : o ∉ fpX x ad) {z : Int} (hz : in32 z) : RES G K sa x m o ad a S h relI ML_cool MX12_cool [.ref x, .int (iI z), .ref o] [.ref m, .int (iI z)] := by
  have hrv := xb_rv hX
  by_cases h0 : rCmd 4 S.2.2.1 z 0 = 0
  · have hI2 : IV (S.1, S.2.1, aCmd 4 S.2.2.1 z 0, S.2.2.2.1, remH S.2.2.2.2.1 S.2.2.1, S.2.2.2.2.2) := hI.chg hI.1.2.2.2 (hI.1.1.cmd h0) (CB_cmd h0 hI.2.1)
    refine res_ok (S' := (S.1, S.2.1, aCmd 4 S.2.2.1 z 0, S.2.2.2.1, remH S.2.2.2.2.1 S.2.2.1, S.2.2.2.2.2)) (l_cool_ok hrv (P := fun h9 => XB G h9 K x ad (S.1, S.2.1, aCmd 4 S.2.2.1 z 0, S.2.2.2.1, remH S.2.2.2.2.1 S.2.2.1, S.2.2.2.2.2) ∧ FRp (fpX x ad) h h9) (c_X11_cool_ok hGC hGT hGE hX hI.1 hz h0) (keepO ho no)) ho no hI2 ⟨_, rfl, rfl⟩ (fun h2 c hB => ?_)
    exact b_X12_cool_ok hB hI.1 hI.2.1 hz (q := 0) ⟨by decide, by decide⟩ h0
  · have hl := rCmd_lt (k := 4) (B := S.2.2.1) (a := z) (b := 0)
    have hn9 : rCmd 4 S.2.2.1 z 0 ≠ 2 := rCool_2
    have hc := c_X11_cool_no hGC hGT hGE hX hI.1 hz h0
    have hm : ∀ (h2 : xH) (c : Int), MB G h2 sa m a S c → _ := fun h2 c (hB : MB G h2 sa m a S c) => b_X12_cool_no hB hI.1 hI.2.1 hz (q := 0) ⟨by decide, by decide⟩ h0
    rcases (show rCmd 4 S.2.2.1 z 0 = 1 ∨ rCmd 4 S.2.2.1 z 0 = 3 by omega) with e | e
    · rw [e] at hc
      exact res_no (k := 1) (l_cool_I hrv hCA hc) (by omega) hX ho hI ⟨iI 0, rfl, rfl⟩ (fun h2 c hB => by have q9 := hm h2 c hB; rw [e] at q9; exact q9)
    · rw [e] at hc
      exact res_no (k := 2) (l_cool_S hrv hCA hc) (by omega) hX ho hI ⟨iI 0, rfl, rfl⟩ (fun h2 c hB => by have q9 := hm h2 c hB; rw [e] at q9; exact q9)
set_option maxRecDepth 20000 in
set_option maxHeartbeats 1000000 in
theorem s_takeOut {G : xG} {K : xK} {sa : Nat → Nat} (hGC : GC G K sa) (hGT : GT G sa) (hGE : GE G) (hCA : GCA G) {h : xH} {x m o : Nat} {ad : XA} {a : MA} {S : XS} (hX : XB G h K x ad S) (hI : IV S) (ho : AOj G h o) (no : o ∉ fpX x ad) {z : Int} (hz : in32 z) : RES G K sa x m o ad a S h relI ML_takeOut MX12_takeOut [.ref x, .int (iI z), .ref o] [.ref m, .int (iI z)] := by
  have hrv := xb_rv hX
  by_cases h0 : rCmd 5 S.2.2.1 z 0 = 0
  · have hI2 : IV (S.1, S.2.1, aCmd 5 S.2.2.1 z 0, S.2.2.2.1, remH S.2.2.2.2.1 S.2.2.1, S.2.2.2.2.2) := hI.chg hI.1.2.2.2 (hI.1.1.cmd h0) (CB_cmd h0 hI.2.1)
    refine res_ok (S' := (S.1, S.2.1, aCmd 5 S.2.2.1 z 0, S.2.2.2.1, remH S.2.2.2.2.1 S.2.2.1, S.2.2.2.2.2)) (l_takeOut_ok hrv (P := fun h9 => XB G h9 K x ad (S.1, S.2.1, aCmd 5 S.2.2.1 z 0, S.2.2.2.1, remH S.2.2.2.2.1 S.2.2.1, S.2.2.2.2.2) ∧ FRp (fpX x ad) h h9) (c_X11_takeOut_ok hGC hGT hGE hX hI.1 hz h0) (keepO ho no)) ho no hI2 ⟨_, rfl, rfl⟩ (fun h2 c hB => ?_)
    exact b_X12_takeOut_ok hB hI.1 hI.2.1 hz (q := 0) ⟨by decide, by decide⟩ h0
  · have hl := rCmd_lt (k := 5) (B := S.2.2.1) (a := z) (b := 0)
    have hn9 : rCmd 5 S.2.2.1 z 0 ≠ 2 := rTake_2
    have hc := c_X11_takeOut_no hGC hGT hGE hX hI.1 hz h0
    have hm : ∀ (h2 : xH) (c : Int), MB G h2 sa m a S c → _ := fun h2 c (hB : MB G h2 sa m a S c) => b_X12_takeOut_no hB hI.1 hI.2.1 hz (q := 0) ⟨by decide, by decide⟩ h0
    rcases (show rCmd 5 S.2.2.1 z 0 = 1 ∨ rCmd 5 S.2.2.1 z 0 = 3 by omega) with e | e
    · rw [e] at hc
      exact res_no (k := 1) (l_takeOut_I hrv hCA hc) (by omega) hX ho hI ⟨iI 0, rfl, rfl⟩ (fun h2 c hB => by have q9 := hm h2 c hB; rw [e] at q9; exact q9)
    · rw [e] at hc
      exact res_no (k := 2) (l_takeOut_S hrv hCA hc) (by omega) hX ho hI ⟨iI 0, rfl, rfl⟩ (fun h2 c hB => by have q9 := hm h2 c hB; rw [e] at q9; exact q9)
set_option maxRecDepth 20000 in
set_option maxHeartbeats 1000000 in
theorem s_passHours {G : xG} {K : xK} {sa : Nat → Nat} (hGC : GC G K sa) (hGT : GT G sa) (hGE : GE G) (hCA : GCA G) {h : xH} {x m o : Nat} {ad : XA} {a : MA} {S : XS} (hX : XB G h K x ad S) (hI : IV S) (ho : AOj G h o) (no : o ∉ fpX x ad) {z : Int} (hz : in32 z) : RES G K sa x m o ad a S h relI ML_passHours MX12_passHours [.ref x, .int (iI z), .ref o] [.ref m, .int (iI z)] := by
  have hrv := xb_rv hX
  by_cases h0 : rCmd 6 S.2.2.1 z 0 = 0
  · have hI2 : IV (S.1, S.2.1, aCmd 6 S.2.2.1 z 0, S.2.2.2.1, remH S.2.2.2.2.1 S.2.2.1, S.2.2.2.2.2) := hI.chg hI.1.2.2.2 (hI.1.1.cmd h0) (CB_cmd h0 hI.2.1)
    refine res_ok (S' := (S.1, S.2.1, aCmd 6 S.2.2.1 z 0, S.2.2.2.1, remH S.2.2.2.2.1 S.2.2.1, S.2.2.2.2.2)) (l_passHours_ok hrv (P := fun h9 => XB G h9 K x ad (S.1, S.2.1, aCmd 6 S.2.2.1 z 0, S.2.2.2.1, remH S.2.2.2.2.1 S.2.2.1, S.2.2.2.2.2) ∧ FRp (fpX x ad) h h9) (c_X11_passHours_ok hGC hGT hGE hX hI.1 hz h0) (keepO ho no)) ho no hI2 ⟨_, rfl, rfl⟩ (fun h2 c hB => ?_)
    exact b_X12_passHours_ok hB hI.1 hI.2.1 hz (q := 0) ⟨by decide, by decide⟩ h0
  · have hl := rCmd_lt (k := 6) (B := S.2.2.1) (a := z) (b := 0)
    have hn9 : rCmd 6 S.2.2.1 z 0 ≠ 1 := rHours_1
    have hc := c_X11_passHours_no hGC hGT hGE hX hI.1 hz h0
    have hm : ∀ (h2 : xH) (c : Int), MB G h2 sa m a S c → _ := fun h2 c (hB : MB G h2 sa m a S c) => b_X12_passHours_no hB hI.1 hI.2.1 hz (q := 0) ⟨by decide, by decide⟩ h0
    rcases (show rCmd 6 S.2.2.1 z 0 = 2 ∨ rCmd 6 S.2.2.1 z 0 = 3 by omega) with e | e
    · rw [e] at hc
      exact res_no (k := 1) (l_passHours_A hrv hCA hc) (by omega) hX ho hI ⟨iI 0, rfl, rfl⟩ (fun h2 c hB => by have q9 := hm h2 c hB; rw [e] at q9; exact q9)
    · rw [e] at hc
      exact res_no (k := 2) (l_passHours_S hrv hCA hc) (by omega) hX ho hI ⟨iI 0, rfl, rfl⟩ (fun h2 c hB => by have q9 := hm h2 c hB; rw [e] at q9; exact q9)
set_option maxRecDepth 20000 in
set_option maxHeartbeats 1000000 in
theorem s_cut {G : xG} {K : xK} {sa : Nat → Nat} (hGC : GC G K sa) (hGT : GT G sa) (hGE : GE G) (hCA : GCA G) {h : xH} {x m o : Nat} {ad : XA} {a : MA} {S : XS} (hX : XB G h K x ad S) (hI : IV S) (ho : AOj G h o) (no : o ∉ fpX x ad) {z : Int} (hz : in32 z) : RES G K sa x m o ad a S h relI ML_cut MX12_cut [.ref x, .int (iI z), .ref o] [.ref m, .int (iI z)] := by
  have hrv := xb_rv hX
  by_cases h0 : rCmd 7 S.2.2.1 z 0 = 0
  · have hI2 : IV (S.1, S.2.1, aCmd 7 S.2.2.1 z 0, S.2.2.2.1, remH S.2.2.2.2.1 S.2.2.1, S.2.2.2.2.2) := hI.chg hI.1.2.2.2 (hI.1.1.cmd h0) (CB_cmd h0 hI.2.1)
    refine res_ok (S' := (S.1, S.2.1, aCmd 7 S.2.2.1 z 0, S.2.2.2.1, remH S.2.2.2.2.1 S.2.2.1, S.2.2.2.2.2)) (l_cut_ok hrv (P := fun h9 => XB G h9 K x ad (S.1, S.2.1, aCmd 7 S.2.2.1 z 0, S.2.2.2.1, remH S.2.2.2.2.1 S.2.2.1, S.2.2.2.2.2) ∧ FRp (fpX x ad) h h9) (c_X11_cut_ok hGC hGT hGE hX hI.1 hz h0) (keepO ho no)) ho no hI2 ⟨_, rfl, rfl⟩ (fun h2 c hB => ?_)
    exact b_X12_cut_ok hB hI.1 hI.2.1 hz (q := 0) ⟨by decide, by decide⟩ h0
  · have hl := rCmd_lt (k := 7) (B := S.2.2.1) (a := z) (b := 0)
    have hn9 : rCmd 7 S.2.2.1 z 0 ≠ 2 := rCut_2
    have hc := c_X11_cut_no hGC hGT hGE hX hI.1 hz h0
    have hm : ∀ (h2 : xH) (c : Int), MB G h2 sa m a S c → _ := fun h2 c (hB : MB G h2 sa m a S c) => b_X12_cut_no hB hI.1 hI.2.1 hz (q := 0) ⟨by decide, by decide⟩ h0
    rcases (show rCmd 7 S.2.2.1 z 0 = 1 ∨ rCmd 7 S.2.2.1 z 0 = 3 by omega) with e | e
    · rw [e] at hc
      exact res_no (k := 1) (l_cut_I hrv hCA hc) (by omega) hX ho hI ⟨iI 0, rfl, rfl⟩ (fun h2 c hB => by have q9 := hm h2 c hB; rw [e] at q9; exact q9)
    · rw [e] at hc
      exact res_no (k := 2) (l_cut_S hrv hCA hc) (by omega) hX ho hI ⟨iI 0, rfl, rfl⟩ (fun h2 c hB => by have q9 := hm h2 c hB; rw [e] at q9; exact q9)
set_option maxRecDepth 20000 in
set_option maxHeartbeats 1000000 in
theorem s_stack {G : xG} {K : xK} {sa : Nat → Nat} (hGC : GC G K sa) (hGT : GT G sa) (hGE : GE G) (hCA : GCA G) {h : xH} {x m o : Nat} {ad : XA} {a : MA} {S : XS} (hX : XB G h K x ad S) (hI : IV S) (ho : AOj G h o) (no : o ∉ fpX x ad) {z : Int} (hz : in32 z) {q : Int} (hq : in32 q) : RES G K sa x m o ad a S h relI ML_stack MX12_stack [.ref x, .int (iI z), .int (iI q), .ref o] [.ref m, .int (iI z), .int (iI q)] := by
  have hrv := xb_rv hX
  by_cases h0 : rCmd 8 S.2.2.1 z q = 0
  · have hI2 : IV (S.1, S.2.1, aCmd 8 S.2.2.1 z q, S.2.2.2.1, remH S.2.2.2.2.1 S.2.2.1, S.2.2.2.2.2) := hI.chg hI.1.2.2.2 (hI.1.1.cmd h0) (CB_cmd h0 hI.2.1)
    refine res_ok (S' := (S.1, S.2.1, aCmd 8 S.2.2.1 z q, S.2.2.2.1, remH S.2.2.2.2.1 S.2.2.1, S.2.2.2.2.2)) (l_stack_ok hrv (P := fun h9 => XB G h9 K x ad (S.1, S.2.1, aCmd 8 S.2.2.1 z q, S.2.2.2.1, remH S.2.2.2.2.1 S.2.2.1, S.2.2.2.2.2) ∧ FRp (fpX x ad) h h9) (c_X11_stack_ok hGC hGT hGE hX hI.1 hz hq h0) (keepO ho no)) ho no hI2 ⟨_, rfl, rfl⟩ (fun h2 c hB => ?_)
    exact b_X12_stack_ok hB hI.1 hI.2.1 hz hq h0
  · have hl := rCmd_lt (k := 8) (B := S.2.2.1) (a := z) (b := q)
    have hc := c_X11_stack_no hGC hGT hGE hX hI.1 hz hq h0
    have hm : ∀ (h2 : xH) (c : Int), MB G h2 sa m a S c → _ := fun h2 c (hB : MB G h2 sa m a S c) => b_X12_stack_no hB hI.1 hI.2.1 hz hq h0
    rcases (show rCmd 8 S.2.2.1 z q = 1 ∨ rCmd 8 S.2.2.1 z q = 2 ∨ rCmd 8 S.2.2.1 z q = 3 by omega) with e | e | e
    · rw [e] at hc
      exact res_no (k := 1) (l_stack_I hrv hCA hc) (by omega) hX ho hI ⟨iI 0, rfl, rfl⟩ (fun h2 c hB => by have q9 := hm h2 c hB; rw [e] at q9; exact q9)
    · rw [e] at hc
      exact res_no (k := 2) (l_stack_A hrv hCA hc) (by omega) hX ho hI ⟨iI 0, rfl, rfl⟩ (fun h2 c hB => by have q9 := hm h2 c hB; rw [e] at q9; exact q9)
    · rw [e] at hc
      exact res_no (k := 3) (l_stack_S hrv hCA hc) (by omega) hX ho hI ⟨iI 0, rfl, rfl⟩ (fun h2 c hB => by have q9 := hm h2 c hB; rw [e] at q9; exact q9)
set_option maxRecDepth 20000 in
set_option maxHeartbeats 1000000 in
theorem s_addButter {G : xG} {K : xK} {sa : Nat → Nat} (hGC : GC G K sa) (hGT : GT G sa) (hGE : GE G) (hCA : GCA G) {h : xH} {x m o : Nat} {ad : XA} {a : MA} {S : XS} (hX : XB G h K x ad S) (hI : IV S) (ho : AOj G h o) (no : o ∉ fpX x ad) {z : Int} (hz : in32 z) {q : Int} (hq : in32 q) : RES G K sa x m o ad a S h relI ML_addButter MX12_addButter [.ref x, .int (iI z), .int (iI q), .ref o] [.ref m, .int (iI z), .int (iI q)] := by
  have hrv := xb_rv hX
  by_cases h0 : rBut S.2.2.1 z q = 0
  · have hI2 : IV (S.1, S.2.1, aBut S.2.2.1 z.toNat q, S.2.2.2.1, remH S.2.2.2.2.1 S.2.2.1, S.2.2.2.2.2) := hI.chg hI.1.2.2.2 (hI.1.1.but h0) (CB_but h0 hI.2.1)
    refine res_ok (S' := (S.1, S.2.1, aBut S.2.2.1 z.toNat q, S.2.2.2.1, remH S.2.2.2.2.1 S.2.2.1, S.2.2.2.2.2)) (l_addButter_ok hrv (P := fun h9 => XB G h9 K x ad (S.1, S.2.1, aBut S.2.2.1 z.toNat q, S.2.2.2.1, remH S.2.2.2.2.1 S.2.2.1, S.2.2.2.2.2) ∧ FRp (fpX x ad) h h9) (c_X11_addButter_ok hGC hGT hGE hX hI.1 hz hq h0) (keepO ho no)) ho no hI2 ⟨_, rfl, rfl⟩ (fun h2 c hB => ?_)
    exact b_X12_addButter_ok hB hI.1 hI.2.1 hz hq h0
  · have hl := rBut_lt (B := S.2.2.1) (z := z) (q := q)
    have hc := c_X11_addButter_no hGC hGT hGE hX hI.1 hz hq h0
    have hm : ∀ (h2 : xH) (c : Int), MB G h2 sa m a S c → _ := fun h2 c (hB : MB G h2 sa m a S c) => b_X12_addButter_no hB hI.1 hI.2.1 hz hq h0
    rcases (show rBut S.2.2.1 z q = 1 ∨ rBut S.2.2.1 z q = 2 ∨ rBut S.2.2.1 z q = 3 by omega) with e | e | e
    · rw [e] at hc
      exact res_no (k := 1) (l_addButter_I hrv hCA hc) (by omega) hX ho hI ⟨iI 0, rfl, rfl⟩ (fun h2 c hB => by have q9 := hm h2 c hB; rw [e] at q9; exact q9)
    · rw [e] at hc
      exact res_no (k := 2) (l_addButter_A hrv hCA hc) (by omega) hX ho hI ⟨iI 0, rfl, rfl⟩ (fun h2 c hB => by have q9 := hm h2 c hB; rw [e] at q9; exact q9)
    · rw [e] at hc
      exact res_no (k := 3) (l_addButter_S hrv hCA hc) (by omega) hX ho hI ⟨iI 0, rfl, rfl⟩ (fun h2 c hB => by have q9 := hm h2 c hB; rw [e] at q9; exact q9)
set_option maxRecDepth 20000 in
set_option maxHeartbeats 1000000 in
theorem s_buyFlour {G : xG} {K : xK} {sa : Nat → Nat} (hGC : GC G K sa) (hGT : GT G sa) (hGE : GE G) (hCA : GCA G) {h : xH} {x m o : Nat} {ad : XA} {a : MA} {S : XS} (hX : XB G h K x ad S) (hI : IV S) (ho : AOj G h o) (no : o ∉ fpX x ad) {z : Int} (hz : in32 z) : RES G K sa x m o ad a S h relI ML_buyFlour MX12_buyFlour [.ref x, .int (iI z), .ref o] [.ref m, .int (iI z)] := by
  have hrv := xb_rv hX
  by_cases h0 : rFlour S.2.2.1 z = 0
  · have hI2 : IV (S.1, S.2.1, aFlour S.2.2.1 z, S.2.2.2.1, remH S.2.2.2.2.1 S.2.2.1, S.2.2.2.2.2) := hI.chg hI.1.2.2.2 (hI.1.1.flo h0) hI.2.1
    refine res_ok (S' := (S.1, S.2.1, aFlour S.2.2.1 z, S.2.2.2.1, remH S.2.2.2.2.1 S.2.2.1, S.2.2.2.2.2)) (l_buyFlour_ok hrv (P := fun h9 => XB G h9 K x ad (S.1, S.2.1, aFlour S.2.2.1 z, S.2.2.2.1, remH S.2.2.2.2.1 S.2.2.1, S.2.2.2.2.2) ∧ FRp (fpX x ad) h h9) (c_X11_buyFlour_ok hGC hGT hGE hX hI.1 hz h0) (keepO ho no)) ho no hI2 ⟨_, rfl, rfl⟩ (fun h2 c hB => ?_)
    exact b_X12_buyFlour_ok hB hI.1 hI.2.1 hz h0
  · have hl := rFlour_lt (B := S.2.2.1) (z := z)
    have hn9 : rFlour S.2.2.1 z ≠ 1 := rFlour_1
    have hc := c_X11_buyFlour_no hGC hGT hGE hX hI.1 hz h0
    have hm : ∀ (h2 : xH) (c : Int), MB G h2 sa m a S c → _ := fun h2 c (hB : MB G h2 sa m a S c) => b_X12_buyFlour_no hB hI.1 hI.2.1 hz h0
    rcases (show rFlour S.2.2.1 z = 2 ∨ rFlour S.2.2.1 z = 3 by omega) with e | e
    · rw [e] at hc
      exact res_no (k := 1) (l_buyFlour_A hrv hCA hc) (by omega) hX ho hI ⟨iI 0, rfl, rfl⟩ (fun h2 c hB => by have q9 := hm h2 c hB; rw [e] at q9; exact q9)
    · rw [e] at hc
      exact res_no (k := 2) (l_buyFlour_S hrv hCA hc) (by omega) hX ho hI ⟨iI 0, rfl, rfl⟩ (fun h2 c hB => by have q9 := hm h2 c hB; rw [e] at q9; exact q9)
set_option maxRecDepth 20000 in
set_option maxHeartbeats 1000000 in
theorem s_writeSheet {G : xG} {K : xK} {sa : Nat → Nat} (hGC : GC G K sa) (hGT : GT G sa) (hGE : GE G) (hCA : GCA G) {h : xH} {x m o : Nat} {ad : XA} {a : MA} {S : XS} (hX : XB G h K x ad S) (hI : IV S) (ho : AOj G h o) (no : o ∉ fpX x ad) {z : Int} (hz : in32 z) : RES G K sa x m o ad a S h relI ML_writeSheet MX12_writeSheet [.ref x, .int (iI z), .ref o] [.ref m, .int (iI z)] := by
  have hrv := xb_rv hX
  cases hs : hasS S.2.2.1 z with
  | true =>
    have hI2 : IV (S.1, S.2.1, S.2.2.1, S.2.2.2.1, S.2.2.2.2.1, wrL (sAt S.2.2.1 z).1 (sAt S.2.2.1 z).1.length) := hI.out
    refine res_ok (S' := (S.1, S.2.1, S.2.2.1, S.2.2.2.1, S.2.2.2.2.1, wrL (sAt S.2.2.1 z).1 (sAt S.2.2.1 z).1.length)) (l_writeSheet_ok hrv (P := fun h9 => XB G h9 K x ad (S.1, S.2.1, S.2.2.1, S.2.2.2.1, S.2.2.2.2.1, wrL (sAt S.2.2.1 z).1 (sAt S.2.2.1 z).1.length) ∧ FRp (fpX x ad) h h9) (c_X11_writeSheet_ok hGC hGT hGE hX hI.1 hz hs) (keepO ho no)) ho no hI2 ⟨_, rfl, rfl⟩ (fun h2 c hB => ?_)
    exact b_X12_writeSheet_ok hB hI.1 hs
  | false => exact res_no (k := 1) (l_writeSheet_I hrv hCA (c_X11_writeSheet_no hGC hGT hGE hX hI.1 hz hs)) (by omega) hX ho hI ⟨iI 0, rfl, rfl⟩ (fun h2 c hB => hB.ask (fun r g hM hR hRW hBr => c_X12_writeSheet_no hM hR hRW.1.2.1 hRW.1.1.2.2.2.1 hz (hasS_n9 hs)))
set_option maxRecDepth 20000 in
set_option maxHeartbeats 1000000 in
theorem s_outputByte {G : xG} {K : xK} {sa : Nat → Nat} (hGC : GC G K sa) (hGT : GT G sa) (hGE : GE G) (hCA : GCA G) {h : xH} {x m o : Nat} {ad : XA} {a : MA} {S : XS} (hX : XB G h K x ad S) (hI : IV S) (ho : AOj G h o) (no : o ∉ fpX x ad) {z : Int} (hz : in32 z) : RES G K sa x m o ad a S h relI ML_outputByte MX12_outputByte [.ref x, .int (iI z), .ref o] [.ref m, .int (iI z)] := by
  have hrv := xb_rv hX
  by_cases hf : 0 ≤ z ∧ z < (S.2.2.2.2.2.length : Int)
  · refine res_ok (S' := S) (l_outputByte_ok hrv (P := fun h9 => XB G h9 K x ad S ∧ FRp (fpX x ad) h h9) (qst hX (c_X11_outputByte_ok hGC hGT hGE hX hI.1 hz hf)) (keepO ho no)) ho no hI ⟨_, rfl, rfl⟩ (fun h2 c hB => ?_)
    exact b_X12_outputByte_ok hB hz hf
  · exact res_no (k := 1) (l_outputByte_I hrv hCA (c_X11_outputByte_no hGC hGT hGE hX hI.1 hz hf)) (by omega) hX ho hI ⟨iI 0, rfl, rfl⟩ (fun h2 c hB => b_X12_outputByte_no hB hz hf)
set_option maxRecDepth 20000 in
set_option maxHeartbeats 1000000 in
theorem s_undo {G : xG} {K : xK} {sa : Nat → Nat} (hGC : GC G K sa) (hGT : GT G sa) (hGE : GE G) (hCA : GCA G) {h : xH} {x m o : Nat} {ad : XA} {a : MA} {S : XS} (hX : XB G h K x ad S) (hI : IV S) (ho : AOj G h o) (no : o ∉ fpX x ad) : RES G K sa x m o ad a S h relI ML_undo MX12_undo [.ref x, .ref o] [.ref m] := by
  have hrv := xb_rv hX
  by_cases hf : 1 ≤ S.2.2.2.2.1.length
  · have hI2 : IV (S.1, S.2.1, S.2.2.2.2.1.getD (S.2.2.2.2.1.length - 1) dB, S.2.2.2.1, S.2.2.2.2.1.dropLast, S.2.2.2.2.2) := hI.undo hf
    refine res_ok (S' := (S.1, S.2.1, S.2.2.2.2.1.getD (S.2.2.2.2.1.length - 1) dB, S.2.2.2.1, S.2.2.2.2.1.dropLast, S.2.2.2.2.2)) (l_undo_ok hrv (P := fun h9 => XB G h9 K x ad (S.1, S.2.1, S.2.2.2.2.1.getD (S.2.2.2.2.1.length - 1) dB, S.2.2.2.1, S.2.2.2.2.1.dropLast, S.2.2.2.2.2) ∧ FRp (fpX x ad) h h9) (c_X11_undo_ok hGC hGT hGE hX hI.1 hf) (keepO ho no)) ho no hI2 ⟨_, rfl, rfl⟩ (fun h2 c hB => ?_)
    exact b_X12_undo_ok hB hf
  · exact res_no (k := 1) (l_undo_S hrv hCA (c_X11_undo_no hGC hGT hGE hX hI.1 (by omega))) (by omega) hX ho hI ⟨iI 0, rfl, rfl⟩ (fun h2 c hB => b_X12_undo_no hB (by omega))
set_option maxRecDepth 20000 in
set_option maxHeartbeats 1000000 in
theorem s_restoreSnapshot {G : xG} {K : xK} {sa : Nat → Nat} (hGC : GC G K sa) (hGT : GT G sa) (hGE : GE G) (hCA : GCA G) {h : xH} {x m o : Nat} {ad : XA} {a : MA} {S : XS} (hX : XB G h K x ad S) (hI : IV S) (ho : AOj G h o) (no : o ∉ fpX x ad) : RES G K sa x m o ad a S h relI ML_restoreSnapshot MX12_restoreSnapshot [.ref x, .ref o] [.ref m] := by
  have hrv := xb_rv hX
  cases hs0 : S.2.2.2.1 with
  | some B0 =>
    have hI2 : IV (S.1, S.2.1, B0, some B0, [], S.2.2.2.2.2) := hI.rest hs0
    refine res_ok (S' := (S.1, S.2.1, B0, some B0, [], S.2.2.2.2.2)) (l_restoreSnapshot_ok hrv (P := fun h9 => XB G h9 K x ad (S.1, S.2.1, B0, some B0, [], S.2.2.2.2.2) ∧ FRp (fpX x ad) h h9) (c_X11_restoreSnapshot_ok hGC hGT hGE hX hI.1 hs0) (keepO ho no)) ho no hI2 ⟨_, rfl, rfl⟩ (fun h2 c hB => ?_)
    exact b_X12_restoreSnapshot_ok hB hs0
  | none => exact res_no (k := 1) (l_restoreSnapshot_S hrv hCA (c_X11_restoreSnapshot_no hGC hGT hGE hX hI.1 hs0)) (by omega) hX ho hI ⟨iI 0, rfl, rfl⟩ (fun h2 c hB => b_X12_restoreSnapshot_no hB hs0)
set_option maxRecDepth 20000 in
set_option maxHeartbeats 1000000 in
theorem s_loadBench {G : xG} {K : xK} {sa : Nat → Nat} (hGC : GC G K sa) (hGT : GT G sa) (hGE : GE G) (hCA : GCA G) {h : xH} {x m o : Nat} {ad : XA} {a : MA} {S : XS} (hX : XB G h K x ad S) (hI : IV S) (ho : AOj G h o) (no : o ∉ fpX x ad) {z : Int} (hz : in32 z) : RES G K sa x m o ad a S h relI ML_loadBench MX12_loadBench [.ref x, .int (iI z), .ref o] [.ref m, .int (iI z)] := by
  have hrv := xb_rv hX
  by_cases hf : 0 ≤ z ∧ z ≤ (S.1.length : Int)
  · obtain ⟨n, rfl⟩ : ∃ n : Nat, z = (n : Int) := ⟨z.toNat, by omega⟩
    have hn : n ≤ S.1.length := by omega
    cases he : ldB (S.1.take n) with
    | inl e =>
      have hI2 : IV ([], e, S.2.2) := hI.err (ldB_e he)
      refine res_ok (S' := ([], e, S.2.2)) (l_loadBench_ok hrv (P := fun h9 => XB G h9 K x ad ([], e, S.2.2) ∧ FRp (fpX x ad) h h9) (c_X11_loadBench_bad hGC hGT hGE hX hI.1 hn he) (keepO ho no)) ho no hI2 ⟨_, rfl, rfl⟩ (fun h2 c hB => ?_)
      exact b_X12_loadBench_bad hB hn hGT he
    | inr B1 =>
      have hI2 : IV ([], (0, -1), B1, none, [], S.2.2.2.2.2) := hI.load (ldB_k he)
      refine res_ok (S' := ([], (0, -1), B1, none, [], S.2.2.2.2.2)) (l_loadBench_ok hrv (P := fun h9 => XB G h9 K x ad ([], (0, -1), B1, none, [], S.2.2.2.2.2) ∧ FRp (fpX x ad) h h9) (c_X11_loadBench_ok hGC hGT hGE hX hI.1 hn he) (keepO ho no)) ho no hI2 ⟨_, rfl, rfl⟩ (fun h2 c hB => ?_)
      exact b_X12_loadBench_ok hB hn hGT he
  · exact res_no (k := 1) (l_loadBench_A hrv hCA (c_X11_loadBench_no hGC hGT hGE hX hI.1 hz hf)) (by omega) hX ho hI ⟨iI 0, rfl, rfl⟩ (fun h2 c hB => b_X12_loadBench_no hB hz hf)
set_option maxRecDepth 20000 in
set_option maxHeartbeats 1000000 in
theorem s_runScript {G : xG} {K : xK} {sa : Nat → Nat} (hGC : GC G K sa) (hGT : GT G sa) (hGE : GE G) (hCA : GCA G) {h : xH} {x m o : Nat} {ad : XA} {a : MA} {S : XS} (hX : XB G h K x ad S) (hI : IV S) (ho : AOj G h o) (no : o ∉ fpX x ad) {z : Int} (hz : in32 z) : RES G K sa x m o ad a S h relI ML_runScript MX12_runScript [.ref x, .int (iI z), .ref o] [.ref m, .int (iI z)] := by
  have hrv := xb_rv hX
  by_cases hf : 0 ≤ z ∧ z ≤ (S.1.length : Int)
  · obtain ⟨n, rfl⟩ : ∃ n : Nat, z = (n : Int) := ⟨z.toNat, by omega⟩
    have hn : n ≤ S.1.length := by omega
    cases he : ldC (S.1.take n) with
    | inl e =>
      have hI2 : IV ([], e, S.2.2) := hI.err (ldC_e he)
      refine res_ok (S' := ([], e, S.2.2)) (l_runScript_ok hrv (P := fun h9 => XB G h9 K x ad ([], e, S.2.2) ∧ FRp (fpX x ad) h h9) (c_X11_runScript_bad hGC hGT hGE hX hI.1 hn he) (keepO ho no)) ho no hI2 ⟨_, rfl, rfl⟩ (fun h2 c hB => ?_)
      exact b_X12_runScript_bad hB hn hGT he
    | inr B1 =>
      have hI2 : IV ([], (0, -1), (exeL B1 S.2.2.1).2, S.2.2.2.1, remH S.2.2.2.2.1 S.2.2.1, S.2.2.2.2.2) := hI.chg ⟨by decide, by decide⟩ (hI.1.1.exe B1) (CB_exe B1 hI.2.1)
      refine res_ok (S' := ([], (0, -1), (exeL B1 S.2.2.1).2, S.2.2.2.1, remH S.2.2.2.2.1 S.2.2.1, S.2.2.2.2.2)) (l_runScript_ok hrv (P := fun h9 => XB G h9 K x ad ([], (0, -1), (exeL B1 S.2.2.1).2, S.2.2.2.1, remH S.2.2.2.2.1 S.2.2.1, S.2.2.2.2.2) ∧ FRp (fpX x ad) h h9) (c_X11_runScript_ok hGC hGT hGE hX hI.1 hn he) (keepO ho no)) ho no hI2 ⟨_, rfl, rfl⟩ (fun h2 c hB => ?_)
      exact b_X12_runScript_ok hB hI.1 hI.2.1 hn hGT he
  · exact res_no (k := 1) (l_runScript_A hrv hCA (c_X11_runScript_no hGC hGT hGE hX hI.1 hz hf)) (by omega) hX ho hI ⟨iI 0, rfl, rfl⟩ (fun h2 c hB => b_X12_runScript_no hB hz hf)
set_option maxRecDepth 20000 in
set_option maxHeartbeats 1000000 in
theorem s_sheetCount {G : xG} {K : xK} {sa : Nat → Nat} (hGC : GC G K sa) (hGT : GT G sa) (hGE : GE G) {h : xH} {x m : Nat} {ad : XA} {a : MA} {S : XS} (hX : XB G h K x ad S) (hI : IV S) : RESP G K sa x m ad a S h MX11_sheetCount MX12_sheetCount [.ref x] [.ref m] := by
  exact ⟨S, _, hI, qst hX (c_X11_sheetCount hGC hGT hGE hX hI.1), fun h2 c hB => hB.ask (fun r g hM hR hRW hBr => c_X12_sheetCount hM hR hRW.1.1.2.2.2.1)⟩
set_option maxRecDepth 20000 in
set_option maxHeartbeats 1000000 in
theorem s_roomTemperature {G : xG} {K : xK} {sa : Nat → Nat} (hGC : GC G K sa) (hGT : GT G sa) (hGE : GE G) {h : xH} {x m : Nat} {ad : XA} {a : MA} {S : XS} (hX : XB G h K x ad S) (hI : IV S) : RESP G K sa x m ad a S h MX11_roomTemperature MX12_roomTemperature [.ref x] [.ref m] := by
  exact ⟨S, _, hI, qst hX (c_X11_roomTemperature hGC hGT hGE hX hI.1), fun h2 c hB => hB.ask (fun r g hM hR hRW hBr => c_X12_roomTemperature hM hR hRW.1.1.1)⟩
set_option maxRecDepth 20000 in
set_option maxHeartbeats 1000000 in
theorem s_meltingPoint {G : xG} {K : xK} {sa : Nat → Nat} (hGC : GC G K sa) (hGT : GT G sa) (hGE : GE G) {h : xH} {x m : Nat} {ad : XA} {a : MA} {S : XS} (hX : XB G h K x ad S) (hI : IV S) : RESP G K sa x m ad a S h MX11_meltingPoint MX12_meltingPoint [.ref x] [.ref m] := by
  exact ⟨S, _, hI, qst hX (c_X11_meltingPoint hGC hGT hGE hX hI.1), fun h2 c hB => hB.ask (fun r g hM hR hRW hBr => c_X12_meltingPoint hM hR hRW.1.1.2.1)⟩
set_option maxRecDepth 20000 in
set_option maxHeartbeats 1000000 in
theorem s_flour {G : xG} {K : xK} {sa : Nat → Nat} (hGC : GC G K sa) (hGT : GT G sa) (hGE : GE G) {h : xH} {x m : Nat} {ad : XA} {a : MA} {S : XS} (hX : XB G h K x ad S) (hI : IV S) : RESP G K sa x m ad a S h MX11_flour MX12_flour [.ref x] [.ref m] := by
  exact ⟨S, _, hI, qst hX (c_X11_flour hGC hGT hGE hX hI.1), fun h2 c hB => hB.ask (fun r g hM hR hRW hBr => c_X12_flour hM hR hRW.1.1.2.2.1)⟩
set_option maxRecDepth 20000 in
set_option maxHeartbeats 1000000 in
theorem s_hoursPassed {G : xG} {K : xK} {sa : Nat → Nat} (hGC : GC G K sa) (hGT : GT G sa) (hGE : GE G) {h : xH} {x m : Nat} {ad : XA} {a : MA} {S : XS} (hX : XB G h K x ad S) (hI : IV S) : RESP G K sa x m ad a S h MX11_hoursPassed MX12_hoursPassed [.ref x] [.ref m] := by
  exact ⟨S, _, hI, qst hX (c_X11_hoursPassed hGC hGT hGE hX hI.1), fun h2 c hB => hB.ask (fun r g hM hR hRW hBr => c_X12_hoursPassed hM hR hRW.1.1.2.2.2.2.1)⟩
set_option maxRecDepth 20000 in
set_option maxHeartbeats 1000000 in
theorem s_escapedButter {G : xG} {K : xK} {sa : Nat → Nat} (hGC : GC G K sa) (hGT : GT G sa) (hGE : GE G) {h : xH} {x m : Nat} {ad : XA} {a : MA} {S : XS} (hX : XB G h K x ad S) (hI : IV S) : RESP G K sa x m ad a S h MX11_escapedButter MX12_escapedButter [.ref x] [.ref m] := by
  exact ⟨S, _, hI, qst hX (c_X11_escapedButter hGC hGT hGE hX hI.1), fun h2 c hB => hB.ask (fun r g hM hR hRW hBr => c_X12_escapedButter hM hR hRW.1.1.2.2.2.2.2.1)⟩
set_option maxRecDepth 20000 in
set_option maxHeartbeats 1000000 in
theorem s_brokenLayers {G : xG} {K : xK} {sa : Nat → Nat} (hGC : GC G K sa) (hGT : GT G sa) (hGE : GE G) {h : xH} {x m : Nat} {ad : XA} {a : MA} {S : XS} (hX : XB G h K x ad S) (hI : IV S) : RESP G K sa x m ad a S h MX11_brokenLayers MX12_brokenLayers [.ref x] [.ref m] := by
  exact ⟨S, _, hI, qst hX (c_X11_brokenLayers hGC hGT hGE hX hI.1), fun h2 c hB => hB.ask (fun r g hM hR hRW hBr => c_X12_brokenLayers hM hR hRW.1.1.2.2.2.2.2.2)⟩
set_option maxRecDepth 20000 in
set_option maxHeartbeats 1000000 in
theorem s_warmestSheet {G : xG} {K : xK} {sa : Nat → Nat} (hGC : GC G K sa) (hGT : GT G sa) (hGE : GE G) {h : xH} {x m : Nat} {ad : XA} {a : MA} {S : XS} (hX : XB G h K x ad S) (hI : IV S) : RESP G K sa x m ad a S h MX11_warmestSheet MX12_warmestSheet [.ref x] [.ref m] := by
  exact ⟨S, _, hI, qst hX (c_X11_warmestSheet hGC hGT hGE hX hI.1), fun h2 c hB => hB.ask (fun r g hM hR hRW hBr => c_X12_warmestSheet hM hR hRW.1 hI.1.1.1)⟩
set_option maxRecDepth 20000 in
set_option maxHeartbeats 1000000 in
theorem s_finestSheet {G : xG} {K : xK} {sa : Nat → Nat} (hGC : GC G K sa) (hGT : GT G sa) (hGE : GE G) {h : xH} {x m : Nat} {ad : XA} {a : MA} {S : XS} (hX : XB G h K x ad S) (hI : IV S) : RESP G K sa x m ad a S h MX11_finestSheet MX12_finestSheet [.ref x] [.ref m] := by
  exact ⟨S, _, hI, qst hX (c_X11_finestSheet hGC hGT hGE hX hI.1), fun h2 c hB => hB.ask (fun r g hM hR hRW hBr => c_X12_finestSheet hM hR hRW.1 hI.1.1.1)⟩
set_option maxRecDepth 20000 in
set_option maxHeartbeats 1000000 in
theorem s_errorCode {G : xG} {K : xK} {sa : Nat → Nat} (hGC : GC G K sa) (hGT : GT G sa) (hGE : GE G) {h : xH} {x m : Nat} {ad : XA} {a : MA} {S : XS} (hX : XB G h K x ad S) (hI : IV S) : RESP G K sa x m ad a S h MX11_errorCode MX12_errorCode [.ref x] [.ref m] := by
  exact ⟨S, _, hI, qst hX (c_X11_errorCode hGC hGT hGE hX hI.1), fun h2 c hB => hB.ask (fun r g hM hR hRW hBr => by have q9 := c_X12_errorCode hM; rw [hBr.2.1.2.2.1] at q9; exact q9)⟩
set_option maxRecDepth 20000 in
set_option maxHeartbeats 1000000 in
theorem s_errorOffset {G : xG} {K : xK} {sa : Nat → Nat} (hGC : GC G K sa) (hGT : GT G sa) (hGE : GE G) {h : xH} {x m : Nat} {ad : XA} {a : MA} {S : XS} (hX : XB G h K x ad S) (hI : IV S) : RESP G K sa x m ad a S h MX11_errorOffset MX12_errorOffset [.ref x] [.ref m] := by
  exact ⟨S, _, hI, qst hX (c_X11_errorOffset hGC hGT hGE hX hI.1), fun h2 c hB => hB.ask (fun r g hM hR hRW hBr => by have q9 := c_X12_errorOffset hM; rw [hBr.2.1.2.2.2.2.2.2] at q9; exact q9)⟩
set_option maxRecDepth 20000 in
set_option maxHeartbeats 1000000 in
theorem s_undoableCount {G : xG} {K : xK} {sa : Nat → Nat} (hGC : GC G K sa) (hGT : GT G sa) (hGE : GE G) {h : xH} {x m : Nat} {ad : XA} {a : MA} {S : XS} (hX : XB G h K x ad S) (hI : IV S) : RESP G K sa x m ad a S h MX11_undoableCount MX12_undoableCount [.ref x] [.ref m] := by
  exact ⟨S, _, hI, qst hX (c_X11_undoableCount hGC hGT hGE hX hI.1), fun h2 c hB => hB.ask (fun r g hM hR hRW hBr => by have q9 := c_X12_undoableCount hM; rw [hBr.2.1.2.1] at q9; exact q9)⟩
set_option maxRecDepth 20000 in
set_option maxHeartbeats 1000000 in
theorem s_saveSnapshot {G : xG} {K : xK} {sa : Nat → Nat} (hGC : GC G K sa) (hGT : GT G sa) (hGE : GE G) {h : xH} {x m : Nat} {ad : XA} {a : MA} {S : XS} (hX : XB G h K x ad S) (hI : IV S) : RESV G K sa x m ad a S h MX11_saveSnapshot MX12_saveSnapshot [.ref x] [.ref m] := by
  exact ⟨(S.1, S.2.1, S.2.2.1, some S.2.2.1, S.2.2.2.2.1, S.2.2.2.2.2), hI.save, c_X11_saveSnapshot hGC hGT hGE hX hI.1, fun h2 c hB => b_X12_saveSnapshot hB⟩
set_option maxRecDepth 20000 in
set_option maxHeartbeats 1000000 in
theorem s_appendText {G : xG} {K : xK} {sa : Nat → Nat} (hGC : GC G K sa) (hGT : GT G sa) (hGE : GE G) {h : xH} {x m : Nat} {ad : XA} {a : MA} {S : XS} (hX : XB G h K x ad S) (hI : IV S) {v1 v2 v3 v4 v5 : Int32} : RESP G K sa x m ad a S h MX11_appendText MX12_appendText [.ref x, .int v1, .int v2, .int v3, .int v4, .int v5] [.ref m, .int v1, .int v2, .int v3, .int v4, .int v5] := by
  by_cases hr : S.1.length ≤ 480
  · exact ⟨(S.1 ++ words4 v1 ++ words4 v2 ++ words4 v3 ++ words4 v4 ++ words4 v5, S.2), _, hI.inp, c_X11_appendText_ok hGC hGT hGE hX hI.1 hr, fun h2 c hB => b_X12_appendText_ok hB hr⟩
  · exact ⟨S, _, hI, c_X11_appendText_full hGC hGT hGE hX hI.1 (by omega), fun h2 c hB => b_X12_appendText_full hB (by omega)⟩
theorem b_X12_thrown {G : xG} {h : xH} {sa : Nat → Nat} {m : Nat} {a : MA} {S : XS} {c : Int} (hB : MB G h sa m a S c) : CC G MX12_thrown [.ref m] h (fun o9 h9 => o9 = .inl (some (.int (iI c))) ∧ h9 = h) := by
  obtain ⟨r, hc, hr⟩ := hB
  have q9 := c_X12_thrown hr.1
  rw [hc] at q9
  exact q9
