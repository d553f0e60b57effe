/-! ===== constructors: heaps that grow; what stays through it ===== -/
def GRp (fp : List Nat) (h h' : xH) : Prop := (∀ q ∈ h.1, q ∈ h'.1) ∧ ∀ q ∈ h.1, q ∉ fp → h'.2 q = h.2 q
theorem GRp.rf {fp : List Nat} {h : xH} : GRp fp h h := ⟨fun _ z => z, fun _ _ _ => rfl⟩
theorem GRp.tr {fp : List Nat} {h h1 h2 : xH} (x : GRp fp h h1) (y : GRp fp h1 h2) : GRp fp h h2 := ⟨fun q z => y.1 q (x.1 q z), fun q z n => (y.2 q (x.1 q z) n).trans (x.2 q z n)⟩
theorem GRp.of {fp : List Nat} {h h' : xH} (x : FRp fp h h') : GRp fp h h' := ⟨fun q z => by rw [x.1]; exact z, fun q _ n => x.2 q n⟩
theorem GRp.mono {fp fp' : List Nat} {h h' : xH} (x : GRp fp h h') (hs : ∀ q ∈ fp, q ∈ fp') : GRp fp' h h' := ⟨x.1, fun q z n => x.2 q z (fun y => n (hs q y))⟩
theorem GRp.new {h h' : xH} {q : Nat} (hq : q ∉ h.1) (e0 : h'.1 = h.1 ++ [q]) (e2 : ∀ x, x ≠ q → h'.2 x = h.2 x) : GRp [] h h' := ⟨fun x z => by rw [e0]; exact List.mem_append_left _ z, fun x z _ => e2 x (fun e => hq (by rw [← e]; exact z))⟩
theorem GRp.w {fp : List Nat} {h h' : xH} {o : Nat} (ho : o ∈ fp) (e0 : h'.1 = h.1) (e2 : ∀ q, q ≠ o → h'.2 q = h.2 q) : GRp fp h h' := GRp.of (FRp.w ho e0 e2)
theorem GRp.off {fp fp' : List Nat} {h h1 h2 : xH} (x : GRp fp h h1) (y : GRp fp' h1 h2) (hn : ∀ q ∈ fp', q ∉ h.1) : GRp fp h h2 := ⟨fun q z => y.1 q (x.1 q z), fun q z n => (y.2 q (x.1 q z) (fun w => hn q w z)).trans (x.2 q z n)⟩
theorem SH.gr {G : xG} {h h' : xH} {a t b : Nat} {fp : List Nat} {s : AS} (hS : SH G h a t b s) (hF : GRp fp h h') (na : a ∉ fp) (nt : t ∉ fp) (nb : b ∉ fp) : SH G h' a t b s := by
  obtain ⟨gt, gb, ⟨m1, m2, m3⟩, n, fa, ft, fb, r⟩ := hS
  exact ⟨gt, gb, ⟨hF.1 _ m1, hF.1 _ m2, hF.1 _ m3⟩, n, (hF.2 _ m1 na).trans fa, (hF.2 _ m2 nt).trans ft, (hF.2 _ m3 nb).trans fb, r⟩
theorem BN.gr {G : xG} {h h' : xH} {o A : Nat} {fp fp' : List Nat} {B : AB} (hB : BN G h o A fp B) (hF : GRp fp' h h') (hd : ∀ q ∈ fp, q ∉ fp') : BN G h' o A fp B := by
  obtain ⟨g, bs, F, ⟨mO, mA⟩, fO, fA, hL, hX, hK, hD, hfp⟩ := hB
  exact ⟨g, bs, F, ⟨hF.1 _ mO, hF.1 _ mA⟩, (hF.2 _ mO (hd _ hfp.1)).trans fO, (hF.2 _ mA (hd _ hfp.2.1)).trans fA, hL, hX, fun i hi => ⟨(hK i hi).1, SH.gr (hK i hi).2 hF (hd _ (hfp.2.2 i hi).1) (hd _ (hfp.2.2 i hi).2.1) (hd _ (hfp.2.2 i hi).2.2)⟩, hD, hfp⟩
theorem HI.gr {G : xG} {h h' : xH} {o A : Nat} {fp fp' : List Nat} {Hs : List AB} (hB : HI G h o A fp Hs) (hF : GRp fp' h h') (hd : ∀ q ∈ fp, q ∉ fp') : HI G h' o A fp Hs := by
  obtain ⟨g, bo, X, ⟨mO, mA⟩, fO, fA, hL, hX, hK, hD, hfp⟩ := hB
  exact ⟨g, bo, X, ⟨hF.1 _ mO, hF.1 _ mA⟩, (hF.2 _ mO (hd o hfp.1)).trans fO, (hF.2 _ mA (hd A hfp.2.1)).trans fA, hL, hX, fun i hi => ⟨(hK i hi).1, (hK i hi).2.gr hF (fun q hq => hd q (hfp.2.2 i hi q hq).1)⟩, hD, hfp⟩
theorem OU.gr {G : xG} {h h' : xH} {o A : Nat} {fp : List Nat} {bs : List Int} (hU : OU G h o A bs) (hF : GRp fp h h') (h1 : o ∉ fp) (h2 : A ∉ fp) : OU G h' o A bs := by
  obtain ⟨g, ⟨mO, mA⟩, fO, fA, r⟩ := hU
  exact ⟨g, ⟨hF.1 _ mO, hF.1 _ mA⟩, (hF.2 o mO h1).trans fO, (hF.2 A mA h2).trans fA, r⟩
theorem INP.gr {G : xG} {h h' : xH} {I : Nat} {fp : List Nat} {T : List Int} (hI : INP G h I T) (hF : GRp fp h h') (h1 : I ∉ fp) : INP G h' I T := by
  obtain ⟨g, m, f, r⟩ := hI
  exact ⟨g, hF.1 _ m, (hF.2 I m h1).trans f, r⟩
theorem TKO.gr {G : xG} {h h' : xH} {K : xK} {o I : Nat} {fp : List Nat} {T : List Int} {t : Nat × Nat × Nat} (hI : TKO G h K o I T t) (hF : GRp fp h h') (h1 : o ∉ fp) : TKO G h' K o I T t := by
  obtain ⟨v, m, f, r⟩ := hI
  exact ⟨v, hF.1 _ m, (hF.2 o m h1).trans f, r⟩
theorem PAR.gr {G : xG} {h h' : xH} {K : xK} {o to I : Nat} {fp : List Nat} {T : List Int} {t : Nat × Nat × Nat} {c off num : Int} (hI : PAR G h K o to I T t c off num) (hF : GRp fp h h') (h1 : o ∉ fp) (h2 : to ∉ fp) : PAR G h' K o to I T t c off num := ⟨hF.1 _ hI.1, (hF.2 _ hI.1 h1).trans hI.2.1, hI.2.2.gr hF h2⟩
theorem SCR.gr {G : xG} {h h' : xH} {K : xK} {o a b c : Nat} {fp : List Nat} {cs : List CM} (hS : SCR G h K o a b c cs) (hF : GRp fp h h') (h1 : o ∉ fp) (h2 : a ∉ fp) (h3 : b ∉ fp) (h4 : c ∉ fp) : SCR G h' K o a b c cs := by
  obtain ⟨g, f, s, ⟨m1, m2, m3, m4⟩, n, f1, f2, f3, f4, r⟩ := hS
  exact ⟨g, f, s, ⟨hF.1 _ m1, hF.1 _ m2, hF.1 _ m3, hF.1 _ m4⟩, n, (hF.2 _ m1 h1).trans f1, (hF.2 _ m2 h2).trans f2, (hF.2 _ m3 h3).trans f3, (hF.2 _ m4 h4).trans f4, r⟩
/-- the arrays of references: their classes are told -/
def GAO (G : xG) : Prop := x_zz G (fun _ U _ => va_AO "PastryBench$Sheet" U) ∧ x_zz G (fun _ U _ => va_AO "PastryBench$Bench" U) ∧ x_zz G (fun _ U _ => va_AO "PastryBench$Command" U) ∧ True
theorem kaZ : Cond.arrayClass (newarray.typeOf .boolean) ∈ bg_L := bg_in 173 (by decide +kernel) rfl
section NEWC
variable {G : xG} {M : xM} {pc : Nat} {ls : List (Nat × Value)} {st : List Value} {h : xH} {kc ks : Nat} {Q : xR → xH → Prop}
theorem rr_room {kc' ks' : Nat} (k : RR G M pc ls st h kc ks Q) (h1 : kc ≤ kc') (h2 : ks ≤ ks') : RR G M pc ls st h kc' ks' Q := by
  intro p l e R s m args below meth c E H locs cells slots lsA S
  exact k p l e R s m args below meth c E H locs cells slots lsA ⟨S.1, S.2.1, S.2.2.1, Nat.le_trans (Nat.add_le_add_left h1 _) S.2.2.2.1, Nat.le_trans (Nat.add_le_add_left h2 _) S.2.2.2.2⟩
theorem i_newZ (N : Nat) {e : Int} (he : e = (N : Int)) (hN : N < 100000) (hd : decode M.2.1 pc = .ok (.newarray .boolean, 2)) (h1 : 1 ≤ kc) (h2 : N ≤ ks)
    (kk : ∀ (q : Nat) (h1 : xH), q ∉ h.1 → h1.1 = h.1 ++ [q] → h1.2 q = .inl (G.2.1 1, N, .inl (fun _ => iI 0)) → (∀ x, x ≠ q → h1.2 x = h.2 x) → RR G M (pc + 2) ls (.ref q :: st) h1 (kc - 1) (ks - N) Q) : RR G M pc ls (.int (iI e) :: st) h kc ks Q := by
  subst he
  have hb : (iI (N : Int)).toInt = (N : Int) := iI_toInt (by unfold in32; omega)
  refine r_newa (t := 1) (N' := N) (ty := .boolean) (a0 := (N, .inl (fun _ => iI 0))) rfl rfl kaZ (fun cA => rfl) hd ?_ ?_ ?_ h1 h2 (fun q hq => ?_)
  · rw [Int32.lt_iff_toInt_lt, hb]; show ¬ ((N : Int) < 0); omega
  · show (iI (N : Int)).toInt.toNat = N; rw [hb]; rfl
  · show N * 1 ≤ 536870912; omega
  · exact w_new (P := fun h1 => RR G M (pc + 2) ls (.ref q :: st) h1 (kc - 1) (ks - N) Q) hq (fun h1 e1 e2 e3 => kk q h1 hq e1 e2 e3)
theorem i_newQ {t : Nat} {C : String} (N : Nat) {idx : Nat} {e : Int} (he : e = (N : Int)) (hN : N < 100000) (hZ : x_zz G (fun _ U _ => va_AO C U)) (ht : (x_tys G.2.1)[t]? = some (G.2.1 t, .object C)) (hl : Cond.classLink M.1.cls idx C ∈ bg_L) (hd : decode M.2.1 pc = .ok (.anewarray idx, 3)) (h1 : 1 ≤ kc) (h2 : N ≤ ks)
    (kk : ∀ (q : Nat) (h1 : xH), q ∉ h.1 → h1.1 = h.1 ++ [q] → h1.2 q = .inl (G.2.1 t, N, .inr (.inr (.inr (.inr (fun _ => none))))) → (∀ x, x ≠ q → h1.2 x = h.2 x) → RR G M (pc + 3) ls (.ref q :: st) h1 (kc - 1) (ks - N) Q) : RR G M pc ls (.int (iI e) :: st) h kc ks Q := by
  subst he
  have hb : (iI (N : Int)).toInt = (N : Int) := iI_toInt (by unfold in32; omega)
  refine r_newqZ (t := t) (N' := N) ht hl hZ hd ?_ ?_ ?_ h1 h2 (fun q hq => ?_)
  · rw [Int32.lt_iff_toInt_lt, hb]; show ¬ ((N : Int) < 0); omega
  · show (iI (N : Int)).toInt.toNat = N; rw [hb]; rfl
  · omega
  · exact w_new (P := fun h1 => RR G M (pc + 3) ls (.ref q :: st) h1 (kc - 1) (ks - N) Q) hq (fun h1 e1 e2 e3 => kk q h1 hq e1 e2 e3)
theorem i_newO {ci idx N : Nat} {C : String} {T : u_T} {ty : Nat → FieldType} {fs : List Value} (hC : x_CL ci C T N ty) (hl : Cond.classLink M.1.cls idx C ∈ bg_L) (hi : Cond.instantiable C N ∈ bg_L) (hini : Cond.initialized C ∈ bg_L) (hd : decode M.2.1 pc = .ok (.new idx, 3)) (hfs : ∀ j, j < N → defaultValue (ty j) = vp_V fs j) (h1 : 1 ≤ kc) (h2 : N ≤ ks)
    (kk : ∀ (q : Nat) (h1 : xH), q ∉ h.1 → h1.1 = h.1 ++ [q] → h1.2 q = .inr (ci, fs) → (∀ x, x ≠ q → h1.2 x = h.2 x) → RR G M (pc + 3) ls (.ref q :: st) h1 (kc - 1) (ks - N) Q) : RR G M pc ls st h kc ks Q :=
  r_new hC hl hi hini hd hfs h1 h2 (fun q hq => w_new (P := fun h1 => RR G M (pc + 3) ls (.ref q :: st) h1 (kc - 1) (ks - N) Q) hq (fun h1 e1 e2 e3 => kk q h1 hq e1 e2 e3))
end NEWC
set_option maxRecDepth 20000 in
set_option maxHeartbeats 1000000 in
theorem c_X8_init {G : xG} {h : xH} {o : Nat} (mo : o ∈ h.1) (fo : h.2 o = .inr (5, [.null, .null, .int (iI 0), .int (iI 0), .int (iI 0), .int (iI 0), .int (iI 0), .int (iI 0), .int (iI 0)])) : CC G MX8_init [.ref o] h (fun o9 h9 => o9 = .inl none ∧ ∃ t b, SH G h9 o t b dS ∧ t ∉ h.1 ∧ b ∉ h.1 ∧ GRp [o] h h9) := by
  have gr0 : GRp [o] h h := GRp.rf
  show RR G MX8_init 0 [(0, .ref o)] [] h (xm_R MX8_init).cells (xm_R MX8_init).slots (fun o9 h9 => o9 = .inl none ∧ ∃ t b, SH G h9 o t b dS ∧ t ∉ h.1 ∧ b ∉ h.1 ∧ GRp [o] h h9)
  refine r_aload_n dX8_init_0 0 rfl ?_
  refine r_objinit km_X8_3 ks_obj.1 ks_obj.2 dX8_init_1 (by decide) (by decide) ?_
  refine r_aload_n dX8_init_4 0 rfl ?_
  refine i_sipush (200) (by decide) dX8_init_5 ?_
  refine i_newI 200 rfl (by decide) dX8_init_8 (Nat.le_of_ble_eq_true rfl) (Nat.le_of_ble_eq_true rfl) (fun t hn1 hqn1 e0_n1 e1_n1 e2_n1 => ?_)
  have no_n1 : o ≠ t := fun z => hqn1 (by rw [← z]; exact mo)
  have fo_n1 := (e2_n1 o no_n1).trans fo
  have mo_n1 : o ∈ hn1.1 := by rw [e0_n1]; exact List.mem_append_left _ mo
  have mt : t ∈ hn1.1 := by rw [e0_n1]; exact List.mem_append_right _ (List.mem_singleton.mpr rfl)
  have grn1 := gr0.tr ((GRp.new hqn1 e0_n1 e2_n1).mono (fun _ z => absurd z List.not_mem_nil))
  have nwt : t ∉ h.1 := fun z => hqn1 (gr0.1 _ z)
  refine i_putF [.ref t, .null, .int (iI 0), .int (iI 0), .int (iI 0), .int (iI 0), .int (iI 0), .int (iI 0), .int (iI 0)] cl_X8 0 (by decide) kf_X8_9 rfl rfl rfl dX8_init_10 mo_n1 fo_n1 rfl rfl (by simp) rfl (fun h2 e0_2 e1_2 e2_2 => ?_)
  have mo_2 : o ∈ h2.1 := by rw [e0_2]; exact mo_n1
  have mt_2 : t ∈ h2.1 := by rw [e0_2]; exact mt
  have ft_2 := (e2_2 _ (Ne.symm no_n1)).trans e1_n1
  have gw2 := grn1.tr (GRp.w (List.mem_singleton.mpr rfl) e0_2 e2_2)
  refine r_aload_n dX8_init_13 0 rfl ?_
  refine i_sipush (200) (by decide) dX8_init_14 ?_
  refine i_newZ 200 rfl (by decide) dX8_init_17 (Nat.le_of_ble_eq_true rfl) (Nat.le_of_ble_eq_true rfl) (fun b hn3 hqn3 e0_n3 e1_n3 e2_n3 => ?_)
  have no_n3 : o ≠ b := fun z => hqn3 (by rw [← z]; exact mo_2)
  have fo_n3 := (e2_n3 o no_n3).trans e1_2
  have mo_n3 : o ∈ hn3.1 := by rw [e0_n3]; exact List.mem_append_left _ mo_2
  have nt_n3 : t ≠ b := fun z => hqn3 (by rw [← z]; exact mt_2)
  have ft_n3 := (e2_n3 t nt_n3).trans ft_2
  have mt_n3 : t ∈ hn3.1 := by rw [e0_n3]; exact List.mem_append_left _ mt_2
  have mb : b ∈ hn3.1 := by rw [e0_n3]; exact List.mem_append_right _ (List.mem_singleton.mpr rfl)
  have grn3 := gw2.tr ((GRp.new hqn3 e0_n3 e2_n3).mono (fun _ z => absurd z List.not_mem_nil))
  have nwb : b ∉ h.1 := fun z => hqn3 (gw2.1 _ z)
  refine i_putF [.ref t, .ref b, .int (iI 0), .int (iI 0), .int (iI 0), .int (iI 0), .int (iI 0), .int (iI 0), .int (iI 0)] cl_X8 1 (by decide) kf_X8_15 rfl rfl rfl dX8_init_19 mo_n3 fo_n3 rfl rfl (by simp) rfl (fun h4 e0_4 e1_4 e2_4 => ?_)
  have mo_4 : o ∈ h4.1 := by rw [e0_4]; exact mo_n3
  have mt_4 : t ∈ h4.1 := by rw [e0_4]; exact mt_n3
  have ft_4 := (e2_4 _ (Ne.symm no_n1)).trans ft_n3
  have mb_4 : b ∈ h4.1 := by rw [e0_4]; exact mb
  have fb_4 := (e2_4 _ (Ne.symm no_n3)).trans e1_n3
  have gw4 := grn3.tr (GRp.w (List.mem_singleton.mpr rfl) e0_4 e2_4)
  refine r_return rfl dX8_init_22 ?_
  exact ⟨rfl, t, b, ⟨_, _, ⟨mo_4, mt_4, mb_4⟩, ⟨no_n1.symm, no_n3.symm, nt_n3⟩, e1_4, ft_4, fb_4, by decide, fun k hk => absurd hk (Nat.not_lt_zero k)⟩, nwt, nwb, gw4⟩
set_option maxRecDepth 20000 in
set_option maxHeartbeats 1000000 in
theorem c_X4_init {G : xG} {h : xH} {o : Nat} (mo : o ∈ h.1) (fo : h.2 o = .inr (2, [.null, .int (iI 0)])) : CC G MX4_init [.ref o] h (fun o9 h9 => o9 = .inl none ∧ ∃ A, OU G h9 o A [] ∧ A ∉ h.1 ∧ GRp [o] h h9) := by
  have gr0 : GRp [o] h h := GRp.rf
  show RR G MX4_init 0 [(0, .ref o)] [] h (xm_R MX4_init).cells (xm_R MX4_init).slots (fun o9 h9 => o9 = .inl none ∧ ∃ A, OU G h9 o A [] ∧ A ∉ h.1 ∧ GRp [o] h h9)
  refine r_aload_n dX4_init_0 0 rfl ?_
  refine r_objinit km_X4_3 ks_obj.1 ks_obj.2 dX4_init_1 (by decide) (by decide) ?_
  refine r_aload_n dX4_init_4 0 rfl ?_
  refine i_sipush (1200) (by decide) dX4_init_5 ?_
  refine i_newI 1200 rfl (by decide) dX4_init_8 (Nat.le_of_ble_eq_true rfl) (Nat.le_of_ble_eq_true rfl) (fun A hn1 hqn1 e0_n1 e1_n1 e2_n1 => ?_)
  have no_n1 : o ≠ A := fun z => hqn1 (by rw [← z]; exact mo)
  have fo_n1 := (e2_n1 o no_n1).trans fo
  have mo_n1 : o ∈ hn1.1 := by rw [e0_n1]; exact List.mem_append_left _ mo
  have mA : A ∈ hn1.1 := by rw [e0_n1]; exact List.mem_append_right _ (List.mem_singleton.mpr rfl)
  have grn1 := gr0.tr ((GRp.new hqn1 e0_n1 e2_n1).mono (fun _ z => absurd z List.not_mem_nil))
  have nwA : A ∉ h.1 := fun z => hqn1 (gr0.1 _ z)
  refine i_putF [.ref A, .int (iI 0)] cl_X4 0 (by decide) kf_X4_9 rfl rfl rfl dX4_init_10 mo_n1 fo_n1 rfl rfl (by simp) rfl (fun h2 e0_2 e1_2 e2_2 => ?_)
  have mo_2 : o ∈ h2.1 := by rw [e0_2]; exact mo_n1
  have mA_2 : A ∈ h2.1 := by rw [e0_2]; exact mA
  have fA_2 := (e2_2 _ (Ne.symm no_n1)).trans e1_n1
  have gw2 := grn1.tr (GRp.w (List.mem_singleton.mpr rfl) e0_2 e2_2)
  refine r_return rfl dX4_init_13 ?_
  exact ⟨rfl, A, ⟨_, ⟨mo_2, mA_2⟩, e1_2, fA_2, by decide, fun k hk => absurd hk (Nat.not_lt_zero k)⟩, nwA, gw2⟩
set_option maxRecDepth 20000 in
set_option maxHeartbeats 1000000 in
theorem c_X7_init {G : xG} {h : xH} {K : xK} (hAO : GAO G) {o : Nat} (mo : o ∈ h.1) (fo : h.2 o = .inr (4, [.null, .null, .null, .int (iI 0)])) : CC G MX7_init [.ref o] h (fun o9 h9 => o9 = .inl none ∧ ∃ a b c, SCR G h9 K o a b c [] ∧ a ∉ h.1 ∧ b ∉ h.1 ∧ c ∉ h.1 ∧ GRp [o] h h9) := by
  have gr0 : GRp [o] h h := GRp.rf
  show RR G MX7_init 0 [(0, .ref o)] [] h (xm_R MX7_init).cells (xm_R MX7_init).slots (fun o9 h9 => o9 = .inl none ∧ ∃ a b c, SCR G h9 K o a b c [] ∧ a ∉ h.1 ∧ b ∉ h.1 ∧ c ∉ h.1 ∧ GRp [o] h h9)
  refine r_aload_n dX7_init_0 0 rfl ?_
  refine r_objinit km_X7_3 ks_obj.1 ks_obj.2 dX7_init_1 (by decide) (by decide) ?_
  refine r_aload_n dX7_init_4 0 rfl ?_
  refine i_bipush (20) (by decide) dX7_init_5 ?_
  refine i_newQ (t := 6) (C := "PastryBench$Command") 20 rfl (by decide) (hAO.2.2.1) rfl kl_X7_9 dX7_init_7 (Nat.le_of_ble_eq_true rfl) (Nat.le_of_ble_eq_true rfl) (fun a hn1 hqn1 e0_n1 e1_n1 e2_n1 => ?_)
  have no_n1 : o ≠ a := fun z => hqn1 (by rw [← z]; exact mo)
  have fo_n1 := (e2_n1 o no_n1).trans fo
  have mo_n1 : o ∈ hn1.1 := by rw [e0_n1]; exact List.mem_append_left _ mo
  have ma : a ∈ hn1.1 := by rw [e0_n1]; exact List.mem_append_right _ (List.mem_singleton.mpr rfl)
  have grn1 := gr0.tr ((GRp.new hqn1 e0_n1 e2_n1).mono (fun _ z => absurd z List.not_mem_nil))
  have nwa : a ∉ h.1 := fun z => hqn1 (gr0.1 _ z)
  refine i_putF [.ref a, .null, .null, .int (iI 0)] cl_X7 0 (by decide) kf_X7_11 rfl rfl rfl dX7_init_10 mo_n1 fo_n1 rfl rfl (by simp) rfl (fun h2 e0_2 e1_2 e2_2 => ?_)
  have mo_2 : o ∈ h2.1 := by rw [e0_2]; exact mo_n1
  have ma_2 : a ∈ h2.1 := by rw [e0_2]; exact ma
  have fa_2 := (e2_2 _ (Ne.symm no_n1)).trans e1_n1
  have gw2 := grn1.tr (GRp.w (List.mem_singleton.mpr rfl) e0_2 e2_2)
  refine r_aload_n dX7_init_13 0 rfl ?_
  refine i_bipush (20) (by decide) dX7_init_14 ?_
  refine i_newI 20 rfl (by decide) dX7_init_16 (Nat.le_of_ble_eq_true rfl) (Nat.le_of_ble_eq_true rfl) (fun b hn3 hqn3 e0_n3 e1_n3 e2_n3 => ?_)
  have no_n3 : o ≠ b := fun z => hqn3 (by rw [← z]; exact mo_2)
  have fo_n3 := (e2_n3 o no_n3).trans e1_2
  have mo_n3 : o ∈ hn3.1 := by rw [e0_n3]; exact List.mem_append_left _ mo_2
  have na_n3 : a ≠ b := fun z => hqn3 (by rw [← z]; exact ma_2)
  have fa_n3 := (e2_n3 a na_n3).trans fa_2
  have ma_n3 : a ∈ hn3.1 := by rw [e0_n3]; exact List.mem_append_left _ ma_2
  have mb : b ∈ hn3.1 := by rw [e0_n3]; exact List.mem_append_right _ (List.mem_singleton.mpr rfl)
  have grn3 := gw2.tr ((GRp.new hqn3 e0_n3 e2_n3).mono (fun _ z => absurd z List.not_mem_nil))
  have nwb : b ∉ h.1 := fun z => hqn3 (gw2.1 _ z)
  refine i_putF [.ref a, .ref b, .null, .int (iI 0)] cl_X7 1 (by decide) kf_X7_17 rfl rfl rfl dX7_init_18 mo_n3 fo_n3 rfl rfl (by simp) rfl (fun h4 e0_4 e1_4 e2_4 => ?_)
  have mo_4 : o ∈ h4.1 := by rw [e0_4]; exact mo_n3
  have ma_4 : a ∈ h4.1 := by rw [e0_4]; exact ma_n3
  have fa_4 := (e2_4 _ (Ne.symm no_n1)).trans fa_n3
  have mb_4 : b ∈ h4.1 := by rw [e0_4]; exact mb
  have fb_4 := (e2_4 _ (Ne.symm no_n3)).trans e1_n3
  have gw4 := grn3.tr (GRp.w (List.mem_singleton.mpr rfl) e0_4 e2_4)
  refine r_aload_n dX7_init_21 0 rfl ?_
  refine i_bipush (20) (by decide) dX7_init_22 ?_
  refine i_newI 20 rfl (by decide) dX7_init_24 (Nat.le_of_ble_eq_true rfl) (Nat.le_of_ble_eq_true rfl) (fun c hn5 hqn5 e0_n5 e1_n5 e2_n5 => ?_)
  have no_n5 : o ≠ c := fun z => hqn5 (by rw [← z]; exact mo_4)
  have fo_n5 := (e2_n5 o no_n5).trans e1_4
  have mo_n5 : o ∈ hn5.1 := by rw [e0_n5]; exact List.mem_append_left _ mo_4
  have na_n5 : a ≠ c := fun z => hqn5 (by rw [← z]; exact ma_4)
  have fa_n5 := (e2_n5 a na_n5).trans fa_4
  have ma_n5 : a ∈ hn5.1 := by rw [e0_n5]; exact List.mem_append_left _ ma_4
  have nb_n5 : b ≠ c := fun z => hqn5 (by rw [← z]; exact mb_4)
  have fb_n5 := (e2_n5 b nb_n5).trans fb_4
  have mb_n5 : b ∈ hn5.1 := by rw [e0_n5]; exact List.mem_append_left _ mb_4
  have mc : c ∈ hn5.1 := by rw [e0_n5]; exact List.mem_append_right _ (List.mem_singleton.mpr rfl)
  have grn5 := gw4.tr ((GRp.new hqn5 e0_n5 e2_n5).mono (fun _ z => absurd z List.not_mem_nil))
  have nwc : c ∉ h.1 := fun z => hqn5 (gw4.1 _ z)
  refine i_putF [.ref a, .ref b, .ref c, .int (iI 0)] cl_X7 2 (by decide) kf_X7_21 rfl rfl rfl dX7_init_26 mo_n5 fo_n5 rfl rfl (by simp) rfl (fun h6 e0_6 e1_6 e2_6 => ?_)
  have mo_6 : o ∈ h6.1 := by rw [e0_6]; exact mo_n5
  have ma_6 : a ∈ h6.1 := by rw [e0_6]; exact ma_n5
  have fa_6 := (e2_6 _ (Ne.symm no_n1)).trans fa_n5
  have mb_6 : b ∈ h6.1 := by rw [e0_6]; exact mb_n5
  have fb_6 := (e2_6 _ (Ne.symm no_n3)).trans fb_n5
  have mc_6 : c ∈ h6.1 := by rw [e0_6]; exact mc
  have fc_6 := (e2_6 _ (Ne.symm no_n5)).trans e1_n5
  have gw6 := grn5.tr (GRp.w (List.mem_singleton.mpr rfl) e0_6 e2_6)
  refine r_return rfl dX7_init_29 ?_
  exact ⟨rfl, a, b, c, ⟨_, _, _, ⟨mo_6, ma_6, mb_6, mc_6⟩, nb_n5, e1_6, fa_6, fb_6, fc_6, by decide, fun k hk => absurd hk (Nat.not_lt_zero k)⟩, nwa, nwb, nwc, gw6⟩
set_option maxRecDepth 20000 in
set_option maxHeartbeats 1000000 in
theorem c_X10_init {G : xG} {h : xH} {K : xK} (hGK : GK G K) {o : Nat} (mo : o ∈ h.1) (fo : h.2 o = .inr (6, [.null, .int (iI 0), .int (iI 0), .null, .int (iI 0), .int (iI 0)])) : CC G MX10_init [.ref o] h (fun o9 h9 => o9 = .inl none ∧ ∃ I, TKO G h9 K o I [] (4, 0, 0) ∧ GRp [o] h h9) := by
  have gr0 : GRp [o] h h := GRp.rf
  show RR G MX10_init 0 [(0, .ref o)] [] h (xm_R MX10_init).cells (xm_R MX10_init).slots (fun o9 h9 => o9 = .inl none ∧ ∃ I, TKO G h9 K o I [] (4, 0, 0) ∧ GRp [o] h h9)
  refine r_aload_n dX10_init_0 0 rfl ?_
  refine r_objinit km_X10_3 ks_obj.1 ks_obj.2 dX10_init_1 (by decide) (by decide) ?_
  refine r_aload_n dX10_init_4 0 rfl ?_
  refine i_const (0) dX10_init_5 ?_
  refine i_newI 0 rfl (by decide) dX10_init_6 (Nat.le_of_ble_eq_true rfl) (Nat.le_of_ble_eq_true rfl) (fun qn1 hn1 hqn1 e0_n1 e1_n1 e2_n1 => ?_)
  have no_n1 : o ≠ qn1 := fun z => hqn1 (by rw [← z]; exact mo)
  have fo_n1 := (e2_n1 o no_n1).trans fo
  have mo_n1 : o ∈ hn1.1 := by rw [e0_n1]; exact List.mem_append_left _ mo
  have mqn1 : qn1 ∈ hn1.1 := by rw [e0_n1]; exact List.mem_append_right _ (List.mem_singleton.mpr rfl)
  have grn1 := gr0.tr ((GRp.new hqn1 e0_n1 e2_n1).mono (fun _ z => absurd z List.not_mem_nil))
  have nwqn1 : qn1 ∉ h.1 := fun z => hqn1 (gr0.1 _ z)
  refine i_put [.ref qn1, .int (iI 0), .int (iI 0), .null, .int (iI 0), .int (iI 0)] cl_X10 0 (by decide) kf_X10_9 rfl dX10_init_8 mo_n1 fo_n1 rfl rfl (by simp) rfl (fun h2 e0_2 e1_2 e2_2 => ?_)
  have mo_2 : o ∈ h2.1 := by rw [e0_2]; exact mo_n1
  have mqn1_2 : qn1 ∈ h2.1 := by rw [e0_2]; exact mqn1
  have fqn1_2 := (e2_2 _ (Ne.symm no_n1)).trans e1_n1
  have gw2 := grn1.tr (GRp.w (List.mem_singleton.mpr rfl) e0_2 e2_2)
  refine r_aload_n dX10_init_11 0 rfl ?_
  refine r_gets (gk_T hGK 4 (by decide)) kg_X10_15 dX10_init_12 ?_
  refine i_put [.ref qn1, .int (iI 0), .int (iI 0), .ref (K.2.1 4), .int (iI 0), .int (iI 0)] cl_X10 3 (by decide) kf_X10_21 rfl dX10_init_15 mo_2 e1_2 rfl rfl (by simp) rfl (fun h3 e0_3 e1_3 e2_3 => ?_)
  have mo_3 : o ∈ h3.1 := by rw [e0_3]; exact mo_2
  have mqn1_3 : qn1 ∈ h3.1 := by rw [e0_3]; exact mqn1_2
  have fqn1_3 := (e2_3 _ (Ne.symm no_n1)).trans fqn1_2
  have gw3 := gw2.tr (GRp.w (List.mem_singleton.mpr rfl) e0_3 e2_3)
  refine r_return rfl dX10_init_18 ?_
  exact ⟨rfl, _, ⟨0, mo_3, e1_3, fun z => absurd z (by decide)⟩, gw3⟩
set_option maxRecDepth 20000 in
set_option maxHeartbeats 1000000 in
theorem c_X5_init {G : xG} {h : xH} {K : xK} (hGK : GK G K) {o : Nat} (mo : o ∈ h.1) (fo : h.2 o = .inr (3, [.null, .int (iI 0), .int (iI 0), .int (iI 0)])) : CC G MX5_init [.ref o] h (fun o9 h9 => o9 = .inl none ∧ ∃ to, (∃ I T t num, PAR G h9 K o to I T t 0 (-1) num) ∧ to ∉ h.1 ∧ GRp [o] h h9) := by
  have hG := gk_D hGK
  have gr0 : GRp [o] h h := GRp.rf
  show RR G MX5_init 0 [(0, .ref o)] [] h (xm_R MX5_init).cells (xm_R MX5_init).slots (fun o9 h9 => o9 = .inl none ∧ ∃ to, (∃ I T t num, PAR G h9 K o to I T t 0 (-1) num) ∧ to ∉ h.1 ∧ GRp [o] h h9)
  refine r_aload_n dX5_init_0 0 rfl ?_
  refine r_objinit km_X5_3 ks_obj.1 ks_obj.2 dX5_init_1 (by decide) (by decide) ?_
  refine r_aload_n dX5_init_4 0 rfl ?_
  refine i_newO cl_X10 (fs := [.null, .int (iI 0), .int (iI 0), .null, .int (iI 0), .int (iI 0)]) kl_X5_9 kn_X10 ki_X10 dX5_init_5 (fun j hj => by rcases (show j = 0 ∨ j = 1 ∨ j = 2 ∨ j = 3 ∨ j = 4 ∨ j = 5 by omega) with rfl | rfl | rfl | rfl | rfl | rfl <;> rfl) (Nat.le_of_ble_eq_true rfl) (Nat.le_of_ble_eq_true rfl) (fun to hn1 hqn1 e0_n1 e1_n1 e2_n1 => ?_)
  have no_n1 : o ≠ to := fun z => hqn1 (by rw [← z]; exact mo)
  have fo_n1 := (e2_n1 o no_n1).trans fo
  have mo_n1 : o ∈ hn1.1 := by rw [e0_n1]; exact List.mem_append_left _ mo
  have mto : to ∈ hn1.1 := by rw [e0_n1]; exact List.mem_append_right _ (List.mem_singleton.mpr rfl)
  have grn1 := gr0.tr ((GRp.new hqn1 e0_n1 e2_n1).mono (fun _ z => absurd z List.not_mem_nil))
  have nwto : to ∉ h.1 := fun z => hqn1 (gr0.1 _ z)
  refine r_dup dX5_init_8 rfl ?_
  refine k_callIN (As := []) (b := to) (rest := [.ref to, .ref o]) (w := none) (st' := [.ref to, .ref o]) (kv_X5_init_11 (gn_X5_11 hG)) dX5_init_9 rfl rfl (Nat.le_of_ble_eq_true rfl) (Nat.le_of_ble_eq_true rfl) (Nat.le_of_ble_eq_true rfl) (Nat.le_of_ble_eq_true rfl) (c_X10_init hGK mto e1_n1) rfl (fun hk2 e9k2 => ?_)
  obtain ⟨Ik2, hTk2, gck2⟩ := e9k2
  have fo_k2 := (gck2.2 o mo_n1 (fun z => no_n1 (List.mem_singleton.mp z))).trans fo_n1
  have mo_k2 : o ∈ hk2.1 := gck2.1 _ mo_n1
  have grk2 := grn1.off gck2 (fun q z => by rw [List.mem_singleton.mp z]; exact nwto)
  refine i_putF [.ref to, .int (iI 0), .int (iI 0), .int (iI 0)] cl_X5 0 (by decide) kf_X5_12 rfl rfl rfl dX5_init_12 mo_k2 fo_k2 rfl rfl (by simp) rfl (fun h3 e0_3 e1_3 e2_3 => ?_)
  have mo_3 : o ∈ h3.1 := by rw [e0_3]; exact mo_k2
  have gw3 := grk2.tr (GRp.w (List.mem_singleton.mpr rfl) e0_3 e2_3)
  have hTw3 := hTk2.fr (FRp.w (fp := [o]) (List.mem_singleton.mpr rfl) e0_3 e2_3) (fun z => (Ne.symm no_n1) (List.mem_singleton.mp z))
  refine r_aload_n dX5_init_15 0 rfl ?_
  refine i_const (-1) dX5_init_16 ?_
  refine i_put [.ref to, .int (iI 0), .int (iI ((-1))), .int (iI 0)] cl_X5 2 (by decide) kf_X5_18 rfl dX5_init_17 mo_3 e1_3 rfl rfl (by simp) rfl (fun h4 e0_4 e1_4 e2_4 => ?_)
  have mo_4 : o ∈ h4.1 := by rw [e0_4]; exact mo_3
  have gw4 := gw3.tr (GRp.w (List.mem_singleton.mpr rfl) e0_4 e2_4)
  have hTw4 := hTw3.fr (FRp.w (fp := [o]) (List.mem_singleton.mpr rfl) e0_4 e2_4) (fun z => (Ne.symm no_n1) (List.mem_singleton.mp z))
  refine r_return rfl dX5_init_20 ?_
  exact ⟨rfl, to, ⟨_, _, _, _, mo_4, e1_4, hTw4⟩, nwto, gw4⟩
