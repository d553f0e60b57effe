/-! ===== the law: what holds at the head of its loop; rows of its cases ===== -/
def DJW (x : Nat) (ad : XA) (m : Nat) (a : MA) (o d : Nat) : Prop := (∀ q ∈ fpX x ad, q ∉ fpM m a) ∧ a.2.2.2.2.2.2.2.2 ∉ fpX x ad ∧ (o ∉ fpX x ad ∧ o ∉ fpM m a ∧ a.2.2.2.2.2.2.2.2 ≠ o) ∧ (d ∉ fpX x ad ∧ d ∉ fpM m a ∧ a.2.2.2.2.2.2.2.2 ≠ d) ∧ o ≠ d
def LW (G : xG) (K : xK) (sa : Nat → Nat) (x m o d : Nat) (ad : XA) (a : MA) (S : XS) (c : Int) (h : xH) : Prop := XB G h K x ad S ∧ MB G h sa m a S c ∧ IV S ∧ AOj G h o ∧ ADj G h d
theorem mb_rv {G : xG} {h : xH} {sa : Nat → Nat} {m : Nat} {a : MA} {S : XS} {c : Int} (hB : MB G h sa m a S c) : x_RV G h RX12 m := by
  obtain ⟨r, -, hr⟩ := hB
  exact x_rv hr.1.1 hr.1.2 rfl
theorem DJW.mo {x m o d : Nat} {ad : XA} {a : MA} (h : DJW x ad m a o d) : ∀ q ∈ fpM m a, q ∉ o :: fpX x ad := fun q hq z => by
  rcases List.mem_cons.mp z with e | e
  · exact h.2.2.1.2.1 (by rw [← e]; exact hq)
  · exact h.1 q e hq
theorem DJW.wo {x m o d : Nat} {ad : XA} {a : MA} (h : DJW x ad m a o d) : a.2.2.2.2.2.2.2.2 ∉ o :: fpX x ad := fun z => by
  rcases List.mem_cons.mp z with e | e
  · exact h.2.2.1.2.2 e
  · exact h.2.1 e
theorem DJW.md {x m o d : Nat} {ad : XA} {a : MA} (h : DJW x ad m a o d) : ∀ q ∈ fpM m a, q ∉ d :: fpX x ad := fun q hq z => by
  rcases List.mem_cons.mp z with e | e
  · exact h.2.2.2.1.2.1 (by rw [← e]; exact hq)
  · exact h.1 q e hq
theorem DJW.wd {x m o d : Nat} {ad : XA} {a : MA} (h : DJW x ad m a o d) : a.2.2.2.2.2.2.2.2 ∉ d :: fpX x ad := fun z => by
  rcases List.mem_cons.mp z with e | e
  · exact h.2.2.2.1.2.2 e
  · exact h.2.1 e
theorem AOj.fr {G : xG} {h h' : xH} {o : Nat} {fp : List Nat} (hO : AOj G h o) (hF : FRp fp h h') (n : o ∉ fp) : AOj G h' o := ⟨by rw [hF.1]; exact hO.1, by obtain ⟨g, f⟩ := hO.2; exact ⟨g, (hF.2 o n).trans f⟩⟩
theorem ADj.fr {G : xG} {h h' : xH} {o : Nat} {fp : List Nat} (hO : ADj G h o) (hF : FRp fp h h') (n : o ∉ fp) : ADj G h' o := ⟨by rw [hF.1]; exact hO.1, by obtain ⟨g, f⟩ := hO.2; exact ⟨g, (hF.2 o n).trans f⟩⟩
theorem LW.mk {G : xG} {K : xK} {sa : Nat → Nat} {x m o d : Nat} {ad : XA} {a : MA} {S' : XS} {k : Int} {h h2 h3 : xH} (hDJ : DJW x ad m a o d) (hD : ADj G h d) (hX2 : XB G h2 K x ad S') (hO2 : AOj G h2 o) (hF2 : FRp (o :: fpX x ad) h h2) (hM3 : MB G h3 sa m a S' k) (hF3 : FRp (fpM m a) h2 h3) (hI : IV S') : LW G K sa x m o d ad a S' k h3 :=
  ⟨hX2.fr hF3 hDJ.1, hM3, hI, hO2.fr hF3 hDJ.2.2.1.2.1, (hD.fr hF2 (fun z => by rcases List.mem_cons.mp z with e | e; exact hDJ.2.2.2.2 e.symm; exact hDJ.2.2.2.1.1 e)).fr hF3 hDJ.2.2.2.1.2.1⟩
theorem LW.mkD {G : xG} {K : xK} {sa : Nat → Nat} {x m o d : Nat} {ad : XA} {a : MA} {S' : XS} {k : Int} {h h2 h3 : xH} (hDJ : DJW x ad m a o d) (hO : AOj G h o) (hX2 : XB G h2 K x ad S') (hD2 : ADj G h2 d) (hF2 : FRp (d :: fpX x ad) h h2) (hM3 : MB G h3 sa m a S' k) (hF3 : FRp (fpM m a) h2 h3) (hI : IV S') : LW G K sa x m o d ad a S' k h3 :=
  ⟨hX2.fr hF3 hDJ.1, hM3, hI, (hO.fr hF2 (fun z => by rcases List.mem_cons.mp z with e | e; exact hDJ.2.2.2.2 e; exact hDJ.2.2.1.1 e)).fr hF3 hDJ.2.2.1.2.1, hD2.fr hF3 hDJ.2.2.2.1.2.1⟩
abbrev lsL (b x m o d i : Nat) : List (Nat × Value) := [(0, .ref b), (1, .ref x), (2, .ref m), (3, .ref o), (4, .ref d), (5, .int (iI (i : Int)))]
theorem in32_k {k : Int} (h : 0 ≤ k ∧ k ≤ 3) : in32 k := by unfold in32; omega
section LROWS
variable {G : xG} {M : xM} {h : xH} {pc : Nat} {ls : List (Nat × Value)} {st : List Value} {kc ks : Nat} {Q : xR → xH → Prop}
theorem i_lald0 {ar : Nat} {g : Nat → Int64} {V : Int64} (hd : decode M.2.1 pc = .ok (.laload, 1)) (ha : ar ∈ h.1) (hf : h.2 ar = .inl (G.2.1 2, 1, .inr (.inl g))) (hv : g 0 = V) (k : RR G M (pc + 1) ls (.long V :: st) h kc ks Q) : RR G M pc ls (.int (iI 0) :: .ref ar :: st) h kc ks Q := r_lald 0 rfl hd ha hf (by decide) (by decide) (by rw [hv]; exact k)
theorem i_dald0 {ar : Nat} {g : Nat → UInt64} {V : UInt64} (hd : decode M.2.1 pc = .ok (.daload, 1)) (ha : ar ∈ h.1) (hf : h.2 ar = .inl (G.2.1 3, 1, .inr (.inr (.inr (.inl g))))) (hv : g 0 = V) (k : RR G M (pc + 1) ls (.double V :: st) h kc ks Q) : RR G M pc ls (.int (iI 0) :: .ref ar :: st) h kc ks Q := r_dald 0 rfl hd ha hf (by decide) (by decide) (by rw [hv]; exact k)
theorem i_lcmpe {a : Int64} (hd : decode M.2.1 pc = .ok (.lcmp, 1)) (k : RR G M (pc + 1) ls (.int (iI 0) :: st) h kc ks Q) : RR G M pc ls (.long a :: .long a :: st) h kc ks Q := r_lcmp hd (by rw [show lg_cmp a a = iI 0 by unfold lg_cmp; simp; rfl]; exact k)
theorem i_dcmpe {a : UInt64} (ha : vf_n64 a) (hd : decode M.2.1 pc = .ok (.dcmp .l, 1)) (k : RR G M (pc + 1) ls (.int (iI 0) :: st) h kc ks Q) : RR G M pc ls (.double a :: .double a :: st) h kc ks Q := r_dcmp hd (by rw [dcmp_self ha]; exact k)
end LROWS
theorem kw_L_loadBench : x_LSW ML_law 160 ML_loadBench 3 := ⟨⟨kc_L_loadBench.1, ⟨Nat.le_of_ble_eq_true rfl, Nat.le_of_ble_eq_true rfl⟩, kc_L_loadBench.2.1, kc_L_loadBench.2.2.1, kc_L_loadBench.2.2.2⟩, km_L_160, kt_L_loadBench⟩
theorem kw_L_layerCount : x_LSW ML_law 213 ML_layerCount 3 := ⟨⟨kc_L_layerCount.1, ⟨Nat.le_of_ble_eq_true rfl, Nat.le_of_ble_eq_true rfl⟩, kc_L_layerCount.2.1, kc_L_layerCount.2.2.1, kc_L_layerCount.2.2.2⟩, km_L_213, kt_L_layerCount⟩
theorem kw_L_butterLayerCount : x_LSW ML_law 216 ML_butterLayerCount 3 := ⟨⟨kc_L_butterLayerCount.1, ⟨Nat.le_of_ble_eq_true rfl, Nat.le_of_ble_eq_true rfl⟩, kc_L_butterLayerCount.2.1, kc_L_butterLayerCount.2.2.1, kc_L_butterLayerCount.2.2.2⟩, km_L_216, kt_L_butterLayerCount⟩
theorem kw_L_isButter : x_LSW ML_law 219 ML_isButter 4 := ⟨⟨kc_L_isButter.1, ⟨Nat.le_of_ble_eq_true rfl, Nat.le_of_ble_eq_true rfl⟩, kc_L_isButter.2.1, kc_L_isButter.2.2.1, kc_L_isButter.2.2.2⟩, km_L_219, kt_L_isButter⟩
theorem kw_L_thickness : x_LSW ML_law 223 ML_thickness 4 := ⟨⟨kc_L_thickness.1, ⟨Nat.le_of_ble_eq_true rfl, Nat.le_of_ble_eq_true rfl⟩, kc_L_thickness.2.1, kc_L_thickness.2.2.1, kc_L_thickness.2.2.2⟩, km_L_223, kt_L_thickness⟩
theorem kw_L_height : x_LSW ML_law 226 ML_height 3 := ⟨⟨kc_L_height.1, ⟨Nat.le_of_ble_eq_true rfl, Nat.le_of_ble_eq_true rfl⟩, kc_L_height.2.1, kc_L_height.2.2.1, kc_L_height.2.2.2⟩, km_L_226, kt_L_height⟩
theorem kw_L_butterHeight : x_LSW ML_law 229 ML_butterHeight 3 := ⟨⟨kc_L_butterHeight.1, ⟨Nat.le_of_ble_eq_true rfl, Nat.le_of_ble_eq_true rfl⟩, kc_L_butterHeight.2.1, kc_L_butterHeight.2.2.1, kc_L_butterHeight.2.2.2⟩, km_L_229, kt_L_butterHeight⟩
theorem kw_L_thinnestLayer : x_LSW ML_law 232 ML_thinnestLayer 3 := ⟨⟨kc_L_thinnestLayer.1, ⟨Nat.le_of_ble_eq_true rfl, Nat.le_of_ble_eq_true rfl⟩, kc_L_thinnestLayer.2.1, kc_L_thinnestLayer.2.2.1, kc_L_thinnestLayer.2.2.2⟩, km_L_232, kt_L_thinnestLayer⟩
theorem kw_L_thickestLayer : x_LSW ML_law 235 ML_thickestLayer 3 := ⟨⟨kc_L_thickestLayer.1, ⟨Nat.le_of_ble_eq_true rfl, Nat.le_of_ble_eq_true rfl⟩, kc_L_thickestLayer.2.1, kc_L_thickestLayer.2.2.1, kc_L_thickestLayer.2.2.2⟩, km_L_235, kt_L_thickestLayer⟩
theorem kw_L_seamCount : x_LSW ML_law 238 ML_seamCount 3 := ⟨⟨kc_L_seamCount.1, ⟨Nat.le_of_ble_eq_true rfl, Nat.le_of_ble_eq_true rfl⟩, kc_L_seamCount.2.1, kc_L_seamCount.2.2.1, kc_L_seamCount.2.2.2⟩, km_L_238, kt_L_seamCount⟩
theorem kw_L_isSymmetric : x_LSW ML_law 241 ML_isSymmetric 3 := ⟨⟨kc_L_isSymmetric.1, ⟨Nat.le_of_ble_eq_true rfl, Nat.le_of_ble_eq_true rfl⟩, kc_L_isSymmetric.2.1, kc_L_isSymmetric.2.2.1, kc_L_isSymmetric.2.2.2⟩, km_L_241, kt_L_isSymmetric⟩
theorem kw_L_temperature : x_LSW ML_law 244 ML_temperature 3 := ⟨⟨kc_L_temperature.1, ⟨Nat.le_of_ble_eq_true rfl, Nat.le_of_ble_eq_true rfl⟩, kc_L_temperature.2.1, kc_L_temperature.2.2.1, kc_L_temperature.2.2.2⟩, km_L_244, kt_L_temperature⟩
theorem kw_L_isDusted : x_LSW ML_law 247 ML_isDusted 3 := ⟨⟨kc_L_isDusted.1, ⟨Nat.le_of_ble_eq_true rfl, Nat.le_of_ble_eq_true rfl⟩, kc_L_isDusted.2.1, kc_L_isDusted.2.2.1, kc_L_isDusted.2.2.2⟩, km_L_247, kt_L_isDusted⟩
theorem kw_L_isSealed : x_LSW ML_law 250 ML_isSealed 3 := ⟨⟨kc_L_isSealed.1, ⟨Nat.le_of_ble_eq_true rfl, Nat.le_of_ble_eq_true rfl⟩, kc_L_isSealed.2.1, kc_L_isSealed.2.2.1, kc_L_isSealed.2.2.2⟩, km_L_250, kt_L_isSealed⟩
theorem kw_L_isCooling : x_LSW ML_law 253 ML_isCooling 3 := ⟨⟨kc_L_isCooling.1, ⟨Nat.le_of_ble_eq_true rfl, Nat.le_of_ble_eq_true rfl⟩, kc_L_isCooling.2.1, kc_L_isCooling.2.2.1, kc_L_isCooling.2.2.2⟩, km_L_253, kt_L_isCooling⟩
theorem kw_L_foldCount : x_LSW ML_law 256 ML_foldCount 3 := ⟨⟨kc_L_foldCount.1, ⟨Nat.le_of_ble_eq_true rfl, Nat.le_of_ble_eq_true rfl⟩, kc_L_foldCount.2.1, kc_L_foldCount.2.2.1, kc_L_foldCount.2.2.2⟩, km_L_256, kt_L_foldCount⟩
theorem kw_L_expectedLayers : x_LSW ML_law 259 ML_expectedLayers 3 := ⟨⟨kc_L_expectedLayers.1, ⟨Nat.le_of_ble_eq_true rfl, Nat.le_of_ble_eq_true rfl⟩, kc_L_expectedLayers.2.1, kc_L_expectedLayers.2.2.1, kc_L_expectedLayers.2.2.2⟩, km_L_259, kt_L_expectedLayers⟩
theorem kw_L_butterShare : x_LSW ML_law 262 ML_butterShare 3 := ⟨⟨kc_L_butterShare.1, ⟨Nat.le_of_ble_eq_true rfl, Nat.le_of_ble_eq_true rfl⟩, kc_L_butterShare.2.1, kc_L_butterShare.2.2.1, kc_L_butterShare.2.2.2⟩, km_L_262, kt_L_butterShare⟩
theorem kw_L_meanThickness : x_LSW ML_law 266 ML_meanThickness 3 := ⟨⟨kc_L_meanThickness.1, ⟨Nat.le_of_ble_eq_true rfl, Nat.le_of_ble_eq_true rfl⟩, kc_L_meanThickness.2.1, kc_L_meanThickness.2.2.1, kc_L_meanThickness.2.2.2⟩, km_L_266, kt_L_meanThickness⟩
theorem kw_L_foldObstacle : x_LSW ML_law 269 ML_foldObstacle 4 := ⟨⟨kc_L_foldObstacle.1, ⟨Nat.le_of_ble_eq_true rfl, Nat.le_of_ble_eq_true rfl⟩, kc_L_foldObstacle.2.1, kc_L_foldObstacle.2.2.1, kc_L_foldObstacle.2.2.2⟩, km_L_269, kt_L_foldObstacle⟩
theorem kw_L_layersAfterFold : x_LSW ML_law 272 ML_layersAfterFold 4 := ⟨⟨kc_L_layersAfterFold.1, ⟨Nat.le_of_ble_eq_true rfl, Nat.le_of_ble_eq_true rfl⟩, kc_L_layersAfterFold.2.1, kc_L_layersAfterFold.2.2.1, kc_L_layersAfterFold.2.2.2⟩, km_L_272, kt_L_layersAfterFold⟩
theorem kw_L_foldsPossible : x_LSW ML_law 275 ML_foldsPossible 4 := ⟨⟨kc_L_foldsPossible.1, ⟨Nat.le_of_ble_eq_true rfl, Nat.le_of_ble_eq_true rfl⟩, kc_L_foldsPossible.2.1, kc_L_foldsPossible.2.2.1, kc_L_foldsPossible.2.2.2⟩, km_L_275, kt_L_foldsPossible⟩
theorem kw_L_butterAtRisk : x_LSW ML_law 278 ML_butterAtRisk 3 := ⟨⟨kc_L_butterAtRisk.1, ⟨Nat.le_of_ble_eq_true rfl, Nat.le_of_ble_eq_true rfl⟩, kc_L_butterAtRisk.2.1, kc_L_butterAtRisk.2.2.1, kc_L_butterAtRisk.2.2.2⟩, km_L_278, kt_L_butterAtRisk⟩
theorem kw_L_layersAtRisk : x_LSW ML_law 281 ML_layersAtRisk 4 := ⟨⟨kc_L_layersAtRisk.1, ⟨Nat.le_of_ble_eq_true rfl, Nat.le_of_ble_eq_true rfl⟩, kc_L_layersAtRisk.2.1, kc_L_layersAtRisk.2.2.1, kc_L_layersAtRisk.2.2.2⟩, km_L_281, kt_L_layersAtRisk⟩
theorem kw_L_heightAfterRoll : x_LSW ML_law 284 ML_heightAfterRoll 4 := ⟨⟨kc_L_heightAfterRoll.1, ⟨Nat.le_of_ble_eq_true rfl, Nat.le_of_ble_eq_true rfl⟩, kc_L_heightAfterRoll.2.1, kc_L_heightAfterRoll.2.2.1, kc_L_heightAfterRoll.2.2.2⟩, km_L_284, kt_L_heightAfterRoll⟩
theorem kw_L_temperatureAfter : x_LSW ML_law 287 ML_temperatureAfter 4 := ⟨⟨kc_L_temperatureAfter.1, ⟨Nat.le_of_ble_eq_true rfl, Nat.le_of_ble_eq_true rfl⟩, kc_L_temperatureAfter.2.1, kc_L_temperatureAfter.2.2.1, kc_L_temperatureAfter.2.2.2⟩, km_L_287, kt_L_temperatureAfter⟩
theorem kw_L_hoursToSafety : x_LSW ML_law 290 ML_hoursToSafety 3 := ⟨⟨kc_L_hoursToSafety.1, ⟨Nat.le_of_ble_eq_true rfl, Nat.le_of_ble_eq_true rfl⟩, kc_L_hoursToSafety.2.1, kc_L_hoursToSafety.2.2.1, kc_L_hoursToSafety.2.2.2⟩, km_L_290, kt_L_hoursToSafety⟩
theorem kw_L_fold : x_LSW ML_law 293 ML_fold 4 := ⟨⟨kc_L_fold.1, ⟨Nat.le_of_ble_eq_true rfl, Nat.le_of_ble_eq_true rfl⟩, kc_L_fold.2.1, kc_L_fold.2.2.1, kc_L_fold.2.2.2⟩, km_L_293, kt_L_fold⟩
theorem kw_L_roll : x_LSW ML_law 296 ML_roll 4 := ⟨⟨kc_L_roll.1, ⟨Nat.le_of_ble_eq_true rfl, Nat.le_of_ble_eq_true rfl⟩, kc_L_roll.2.1, kc_L_roll.2.2.1, kc_L_roll.2.2.2⟩, km_L_296, kt_L_roll⟩
theorem kw_L_dust : x_LSW ML_law 299 ML_dust 3 := ⟨⟨kc_L_dust.1, ⟨Nat.le_of_ble_eq_true rfl, Nat.le_of_ble_eq_true rfl⟩, kc_L_dust.2.1, kc_L_dust.2.2.1, kc_L_dust.2.2.2⟩, km_L_299, kt_L_dust⟩
theorem kw_L_seal : x_LSW ML_law 302 ML_seal 3 := ⟨⟨kc_L_seal.1, ⟨Nat.le_of_ble_eq_true rfl, Nat.le_of_ble_eq_true rfl⟩, kc_L_seal.2.1, kc_L_seal.2.2.1, kc_L_seal.2.2.2⟩, km_L_302, kt_L_seal⟩
theorem kw_L_cool : x_LSW ML_law 305 ML_cool 3 := ⟨⟨kc_L_cool.1, ⟨Nat.le_of_ble_eq_true rfl, Nat.le_of_ble_eq_true rfl⟩, kc_L_cool.2.1, kc_L_cool.2.2.1, kc_L_cool.2.2.2⟩, km_L_305, kt_L_cool⟩
theorem kw_L_takeOut : x_LSW ML_law 308 ML_takeOut 3 := ⟨⟨kc_L_takeOut.1, ⟨Nat.le_of_ble_eq_true rfl, Nat.le_of_ble_eq_true rfl⟩, kc_L_takeOut.2.1, kc_L_takeOut.2.2.1, kc_L_takeOut.2.2.2⟩, km_L_308, kt_L_takeOut⟩
theorem kw_L_passHours : x_LSW ML_law 311 ML_passHours 3 := ⟨⟨kc_L_passHours.1, ⟨Nat.le_of_ble_eq_true rfl, Nat.le_of_ble_eq_true rfl⟩, kc_L_passHours.2.1, kc_L_passHours.2.2.1, kc_L_passHours.2.2.2⟩, km_L_311, kt_L_passHours⟩
theorem kw_L_cut : x_LSW ML_law 314 ML_cut 3 := ⟨⟨kc_L_cut.1, ⟨Nat.le_of_ble_eq_true rfl, Nat.le_of_ble_eq_true rfl⟩, kc_L_cut.2.1, kc_L_cut.2.2.1, kc_L_cut.2.2.2⟩, km_L_314, kt_L_cut⟩
theorem kw_L_stack : x_LSW ML_law 317 ML_stack 4 := ⟨⟨kc_L_stack.1, ⟨Nat.le_of_ble_eq_true rfl, Nat.le_of_ble_eq_true rfl⟩, kc_L_stack.2.1, kc_L_stack.2.2.1, kc_L_stack.2.2.2⟩, km_L_317, kt_L_stack⟩
theorem kw_L_addButter : x_LSW ML_law 320 ML_addButter 4 := ⟨⟨kc_L_addButter.1, ⟨Nat.le_of_ble_eq_true rfl, Nat.le_of_ble_eq_true rfl⟩, kc_L_addButter.2.1, kc_L_addButter.2.2.1, kc_L_addButter.2.2.2⟩, km_L_320, kt_L_addButter⟩
theorem kw_L_buyFlour : x_LSW ML_law 323 ML_buyFlour 3 := ⟨⟨kc_L_buyFlour.1, ⟨Nat.le_of_ble_eq_true rfl, Nat.le_of_ble_eq_true rfl⟩, kc_L_buyFlour.2.1, kc_L_buyFlour.2.2.1, kc_L_buyFlour.2.2.2⟩, km_L_323, kt_L_buyFlour⟩
theorem kw_L_runScript : x_LSW ML_law 326 ML_runScript 3 := ⟨⟨kc_L_runScript.1, ⟨Nat.le_of_ble_eq_true rfl, Nat.le_of_ble_eq_true rfl⟩, kc_L_runScript.2.1, kc_L_runScript.2.2.1, kc_L_runScript.2.2.2⟩, km_L_326, kt_L_runScript⟩
theorem kw_L_writeSheet : x_LSW ML_law 329 ML_writeSheet 3 := ⟨⟨kc_L_writeSheet.1, ⟨Nat.le_of_ble_eq_true rfl, Nat.le_of_ble_eq_true rfl⟩, kc_L_writeSheet.2.1, kc_L_writeSheet.2.2.1, kc_L_writeSheet.2.2.2⟩, km_L_329, kt_L_writeSheet⟩
theorem kw_L_outputByte : x_LSW ML_law 332 ML_outputByte 3 := ⟨⟨kc_L_outputByte.1, ⟨Nat.le_of_ble_eq_true rfl, Nat.le_of_ble_eq_true rfl⟩, kc_L_outputByte.2.1, kc_L_outputByte.2.2.1, kc_L_outputByte.2.2.2⟩, km_L_332, kt_L_outputByte⟩
theorem kw_L_undo : x_LSW ML_law 339 ML_undo 2 := ⟨⟨kc_L_undo.1, ⟨Nat.le_of_ble_eq_true rfl, Nat.le_of_ble_eq_true rfl⟩, kc_L_undo.2.1, kc_L_undo.2.2.1, kc_L_undo.2.2.2⟩, km_L_339, kt_L_undo⟩
theorem kw_L_restoreSnapshot : x_LSW ML_law 347 ML_restoreSnapshot 2 := ⟨⟨kc_L_restoreSnapshot.1, ⟨Nat.le_of_ble_eq_true rfl, Nat.le_of_ble_eq_true rfl⟩, kc_L_restoreSnapshot.2.1, kc_L_restoreSnapshot.2.2.1, kc_L_restoreSnapshot.2.2.2⟩, km_L_347, kt_L_restoreSnapshot⟩
