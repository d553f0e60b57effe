/-! ===== constructors: a bench, a history ===== -/
theorem dj_new {L : List Nat} {x y : TR} (h1 : x.1 ∈ L ∧ x.2.1 ∈ L ∧ x.2.2 ∈ L) (h2 : y.1 ∉ L ∧ y.2.1 ∉ L ∧ y.2.2 ∉ L) : DJ3 x y ∧ DJ3 y x := by
  have ne : ∀ a b, a ∈ L → b ∉ L → a ≠ b := fun a b p q e => q (by rw [← e]; exact p)
  have en : ∀ a b, a ∉ L → b ∈ L → a ≠ b := fun a b p q e => p (by rw [e]; exact q)
  exact ⟨⟨⟨ne _ _ h1.1 h2.1, ne _ _ h1.1 h2.2.1, ne _ _ h1.1 h2.2.2⟩, ⟨ne _ _ h1.2.1 h2.1, ne _ _ h1.2.1 h2.2.1, ne _ _ h1.2.1 h2.2.2⟩, ⟨ne _ _ h1.2.2 h2.1, ne _ _ h1.2.2 h2.2.1, ne _ _ h1.2.2 h2.2.2⟩⟩,
    ⟨⟨en _ _ h2.1 h1.1, en _ _ h2.1 h1.2.1, en _ _ h2.1 h1.2.2⟩, ⟨en _ _ h2.2.1 h1.1, en _ _ h2.2.1 h1.2.1, en _ _ h2.2.1 h1.2.2⟩, ⟨en _ _ h2.2.2 h1.1, en _ _ h2.2.2 h1.2.1, en _ _ h2.2.2 h1.2.2⟩⟩⟩
theorem SH.mem3 {G : xG} {h : xH} {x : TR} {s : AS} (hS : SHt G h x s) : x.1 ∈ h.1 ∧ x.2.1 ∈ h.1 ∧ x.2.2 ∈ h.1 := by
  obtain ⟨gt, gb, m, -⟩ := hS
  exact m
def SHS (G : xG) (h0 hh : xH) (A k : Nat) (g : Nat → Option Nat) (bs : Nat → TR) : Prop := (∀ i, i < k → g i = some (bs i).1 ∧ SHt G hh (bs i) dS ∧ ((bs i).1 ∉ h0.1 ∧ (bs i).2.1 ∉ h0.1 ∧ (bs i).2.2 ∉ h0.1) ∧ ((bs i).1 ≠ A ∧ (bs i).2.1 ≠ A ∧ (bs i).2.2 ≠ A)) ∧ ∀ i j, i < k → j < k → i ≠ j → DJ3 (bs i) (bs j)
theorem SHS.step {G : xG} {h0 hh h5 : xH} {A k : Nat} {g : Nat → Option Nat} {bs : Nat → TR} (hS : SHS G h0 hh A k g bs) (hF : GRp [A] hh h5) (h0h : ∀ q ∈ h0.1, q ∈ hh.1) (mA : A ∈ hh.1) {x : TR} (hx : SHt G h5 x dS) (nx : x.1 ∉ hh.1 ∧ x.2.1 ∉ hh.1 ∧ x.2.2 ∉ hh.1) : SHS G h0 h5 A (k + 1) (va_up g k (some x.1)) (fun i => if i = k then x else bs i) := by
  have nA : x.1 ≠ A ∧ x.2.1 ≠ A ∧ x.2.2 ≠ A := ⟨fun z => nx.1 (by rw [z]; exact mA), fun z => nx.2.1 (by rw [z]; exact mA), fun z => nx.2.2 (by rw [z]; exact mA)⟩
  refine ⟨fun i hi => ?_, fun i j hi hj e => ?_⟩
  · show va_up g k (some x.1) i = some (if i = k then x else bs i).1 ∧ SHt G h5 (if i = k then x else bs i) dS ∧ ((if i = k then x else bs i).1 ∉ h0.1 ∧ (if i = k then x else bs i).2.1 ∉ h0.1 ∧ (if i = k then x else bs i).2.2 ∉ h0.1) ∧ ((if i = k then x else bs i).1 ≠ A ∧ (if i = k then x else bs i).2.1 ≠ A ∧ (if i = k then x else bs i).2.2 ≠ A)
    by_cases c : i = k
    · rw [if_pos c, c, va_up_self]
      exact ⟨rfl, hx, ⟨fun z => nx.1 (h0h _ z), fun z => nx.2.1 (h0h _ z), fun z => nx.2.2 (h0h _ z)⟩, nA⟩
    · rw [if_neg c, va_up_ne _ _ c]
      obtain ⟨k1, k2, k3, k4⟩ := hS.1 i (by omega)
      exact ⟨k1, SH.gr k2 hF (fun z => k4.1 (List.mem_singleton.mp z)) (fun z => k4.2.1 (List.mem_singleton.mp z)) (fun z => k4.2.2 (List.mem_singleton.mp z)), k3, k4⟩
  · show DJ3 (if i = k then x else bs i) (if j = k then x else bs j)
    by_cases c : i = k
    · rw [if_pos c, if_neg (by omega)]
      exact (dj_new (SH.mem3 (hS.1 j (by omega)).2.1) nx).2
    · rw [if_neg c]
      by_cases d : j = k
      · rw [if_pos d]
        exact (dj_new (SH.mem3 (hS.1 i (by omega)).2.1) nx).1
      · rw [if_neg d]
        exact hS.2 i j (by omega) (by omega) e
def fpS (o A : Nat) (bs : Nat → TR) : List Nat := o :: A :: (List.range 6).flatMap (fun i => [(bs i).1, (bs i).2.1, (bs i).2.2])
theorem SHS.bn {G : xG} {h0 hh : xH} {o A : Nat} {g : Nat → Option Nat} {bs : Nat → TR} (hS : SHS G h0 hh A 6 g bs) (mo : o ∈ hh.1) (fo : hh.2 o = .inr (0, [.ref A, .int (iI 0), .int (iI 0), .int (iI 0), .int (iI 0), .int (iI 0), .int (iI 0), .int (iI 0)])) (mA : A ∈ hh.1) (fA : hh.2 A = .inl (G.2.1 4, 6, .inr (.inr (.inr (.inr g))))) (nA : A ∉ h0.1) :
    BN G hh o A (fpS o A bs) dB ∧ (∀ q ∈ fpS o A bs, q = o ∨ q ∉ h0.1) ∧ ∀ q ∈ fpS o A bs, q ∈ hh.1 := by
  have key : ∀ q ∈ fpS o A bs, q = o ∨ q = A ∨ ∃ i, i < 6 ∧ (q = (bs i).1 ∨ q = (bs i).2.1 ∨ q = (bs i).2.2) := by
    intro q hq
    rcases List.mem_cons.mp hq with e | hq
    · exact Or.inl e
    · rcases List.mem_cons.mp hq with e | hq
      · exact Or.inr (Or.inl e)
      · obtain ⟨i, hi, hm⟩ := List.mem_flatMap.mp hq
        refine Or.inr (Or.inr ⟨i, List.mem_range.mp hi, ?_⟩)
        simpa using hm
  refine ⟨⟨g, bs, fun _ => dS, ⟨mo, mA⟩, fo, fA, by decide, fun i hi => absurd hi (Nat.not_lt_zero i), fun i hi => ⟨(hS.1 i hi).1, (hS.1 i hi).2.1⟩, hS.2, ?_⟩, fun q hq => ?_, fun q hq => ?_⟩
  · refine ⟨List.mem_cons_self, List.mem_cons_of_mem _ List.mem_cons_self, fun i hi => ?_⟩
    have m : ∀ q, q ∈ [(bs i).1, (bs i).2.1, (bs i).2.2] → q ∈ fpS o A bs := fun q hq => List.mem_cons_of_mem _ (List.mem_cons_of_mem _ (List.mem_flatMap.mpr ⟨i, List.mem_range.mpr hi, hq⟩))
    exact ⟨m _ (by simp), m _ (by simp), m _ (by simp)⟩
  · rcases key q hq with e | e | ⟨i, hi, e⟩
    · exact Or.inl e
    · exact Or.inr (by rw [e]; exact nA)
    · obtain ⟨-, -, k3, -⟩ := hS.1 i hi
      rcases e with e | e | e <;> rw [e]
      · exact Or.inr k3.1
      · exact Or.inr k3.2.1
      · exact Or.inr k3.2.2
  · rcases key q hq with e | e | ⟨i, hi, e⟩
    · rw [e]; exact mo
    · rw [e]; exact mA
    · have k := SH.mem3 (hS.1 i hi).2.1
      rcases e with e | e | e <;> rw [e]
      · exact k.1
      · exact k.2.1
      · exact k.2.2
set_option maxRecDepth 20000 in
set_option maxHeartbeats 1000000 in
theorem c_X1_init {G : xG} {h : xH} {K : xK} (hGK : GK G K) (hAO : GAO G) {o : Nat} (mo : o ∈ h.1) (fo : h.2 o = .inr (0, [.null, .int (iI 0), .int (iI 0), .int (iI 0), .int (iI 0), .int (iI 0), .int (iI 0), .int (iI 0)])) : CC G MX1_init [.ref o] h (fun o9 h9 => o9 = .inl none ∧ ∃ A fp, BN G h9 o A fp dB ∧ (∀ q ∈ fp, q = o ∨ q ∉ h.1) ∧ (∀ q ∈ fp, q ∈ h9.1) ∧ GRp [o] h h9) := by
  have gr0 : GRp [o] h h := GRp.rf
  have hG := gk_D hGK
  show RR G MX1_init 0 [(0, .ref o)] [] h (xm_R MX1_init).cells (xm_R MX1_init).slots (fun o9 h9 => o9 = .inl none ∧ ∃ A fp, BN G h9 o A fp dB ∧ (∀ q ∈ fp, q = o ∨ q ∉ h.1) ∧ (∀ q ∈ fp, q ∈ h9.1) ∧ GRp [o] h h9)
  refine r_aload_n dX1_init_0 0 rfl ?_
  refine r_objinit km_X1_3 ks_obj.1 ks_obj.2 dX1_init_1 (by decide) (by decide) ?_
  refine r_aload_n dX1_init_4 0 rfl ?_
  refine i_bipush (6) (by decide) dX1_init_5 ?_
  refine i_newQ (t := 4) (C := "PastryBench$Sheet") 6 rfl (by decide) (hAO.1) rfl kl_X1_9 dX1_init_7 (Nat.le_of_ble_eq_true rfl) (Nat.le_of_ble_eq_true rfl) (fun A hn1 hqn1 e0_n1 e1_n1 e2_n1 => ?_)
  have no_n1 : o ≠ A := fun z => hqn1 (by rw [← z]; exact mo)
  have fo_n1 := (e2_n1 o no_n1).trans fo
  have mo_n1 : o ∈ hn1.1 := by rw [e0_n1]; exact List.mem_append_left _ mo
  have mA : A ∈ hn1.1 := by rw [e0_n1]; exact List.mem_append_right _ (List.mem_singleton.mpr rfl)
  have grn1 := gr0.tr ((GRp.new hqn1 e0_n1 e2_n1).mono (fun _ z => absurd z List.not_mem_nil))
  have nwA : A ∉ h.1 := fun z => hqn1 (gr0.1 _ z)
  refine i_putF [.ref A, .int (iI 0), .int (iI 0), .int (iI 0), .int (iI 0), .int (iI 0), .int (iI 0), .int (iI 0)] cl_X1 0 (by decide) kf_X1_11 rfl rfl rfl dX1_init_10 mo_n1 fo_n1 rfl rfl (by simp) rfl (fun h2 e0_2 e1_2 e2_2 => ?_)
  have mo_2 : o ∈ h2.1 := by rw [e0_2]; exact mo_n1
  have mA_2 : A ∈ h2.1 := by rw [e0_2]; exact mA
  have fA_2 := (e2_2 _ (Ne.symm no_n1)).trans e1_n1
  have gw2 := grn1.tr (GRp.w (List.mem_singleton.mpr rfl) e0_2 e2_2)
  refine i_const (0) dX1_init_13 ?_
  refine r_istore_n (ls' := [(0, .ref o), (1, .int (iI 0))]) dX1_init_14 (by decide) rfl ?_
  have nOA : o ≠ A := no_n1
  have L : ∀ k, k ≤ 6 → ∀ (hh : xH) (g : Nat → Option Nat) (bs : Nat → TR), o ∈ hh.1 → hh.2 o = .inr (0, [.ref A, .int (iI 0), .int (iI 0), .int (iI 0), .int (iI 0), .int (iI 0), .int (iI 0), .int (iI 0)]) → A ∈ hh.1 → hh.2 A = .inl (G.2.1 4, 6, .inr (.inr (.inr (.inr g)))) → SHS G h hh A k g bs → GRp [o] h hh → RR G MX1_init 15 [(0, .ref o), (1, .int (iI ((k : Int))))] [] hh (18 - 3 * k) (2454 - 409 * k) (fun o9 h9 => o9 = .inl none ∧ ∃ A fp, BN G h9 o A fp dB ∧ (∀ q ∈ fp, q = o ∨ q ∉ h.1) ∧ (∀ q ∈ fp, q ∈ h9.1) ∧ GRp [o] h h9) := by
    refine down (fun k hk ih => ?_)
    intro hh g bs mO fO mA fA hS gr
    refine r_iload_n dX1_init_15 1 rfl ?_
    refine i_bipush (6) (by decide) dX1_init_16 ?_
    refine i_icmpge dX1_init_18 (tgt := 40) (by decide) (by unfold in32; omega) ⟨by decide, by decide⟩ (fun c18 => ?_) (fun c18 => ?_)
    · refine r_return rfl dX1_init_40 ?_
      have k6 : k = 6 := by omega
      subst k6
      obtain ⟨b1, b2, b3⟩ := hS.bn mO fO mA fA nwA
      exact ⟨rfl, A, _, b1, b2, b3, gr⟩
    · refine r_aload_n dX1_init_21 0 rfl ?_
      refine r_get cl_X1 0 (by decide) kf_X1_11 dX1_init_22 mO fO rfl ?_
      refine r_iload_n dX1_init_25 1 rfl ?_
      refine i_newO cl_X8 (fs := [.null, .null, .int (iI 0), .int (iI 0), .int (iI 0), .int (iI 0), .int (iI 0), .int (iI 0), .int (iI 0)]) kl_X1_9 kn_X8 ki_X8 dX1_init_26 (fun j hj => by rcases (show j = 0 ∨ j = 1 ∨ j = 2 ∨ j = 3 ∨ j = 4 ∨ j = 5 ∨ j = 6 ∨ j = 7 ∨ j = 8 by omega) with rfl | rfl | rfl | rfl | rfl | rfl | rfl | rfl | rfl <;> rfl) (by omega) (by omega) (fun q hn1 hqn1 e0_n1 e1_n1 e2_n1 => ?_)
      have no_n1 : o ≠ q := fun z => hqn1 (by rw [← z]; exact mO)
      have fo_n1 := (e2_n1 o no_n1).trans fO
      have mo_n1 : o ∈ hn1.1 := by rw [e0_n1]; exact List.mem_append_left _ mO
      have nA_n1 : A ≠ q := fun z => hqn1 (by rw [← z]; exact mA)
      have fA_n1 := (e2_n1 A nA_n1).trans fA
      have mA_n1 : A ∈ hn1.1 := by rw [e0_n1]; exact List.mem_append_left _ mA
      have mq : q ∈ hn1.1 := by rw [e0_n1]; exact List.mem_append_right _ (List.mem_singleton.mpr rfl)
      have grn1 := gr.tr ((GRp.new hqn1 e0_n1 e2_n1).mono (fun _ z => absurd z List.not_mem_nil))
      have nwq : q ∉ h.1 := fun z => hqn1 (gr.1 _ z)
      refine r_dup dX1_init_29 rfl ?_
      refine k_callIN (As := []) (b := q) (rest := [.ref q, .int (iI ((k : Int))), .ref A]) (w := none) (st' := [.ref q, .int (iI ((k : Int))), .ref A]) (kv_X1_init_17 (gn_X1_17 hG)) dX1_init_30 rfl rfl (Nat.le_of_ble_eq_true rfl) (Nat.le_of_ble_eq_true rfl) (by show 2 ≤ _; omega) (by show 400 ≤ _; omega) (c_X8_init mq e1_n1) rfl (fun hk2 e9k2 => ?_)
      obtain ⟨tSk2, bSk2, hSk2, ntk2, nbk2, gck2⟩ := e9k2
      have fo_k2 := (gck2.2 o mo_n1 (fun z => no_n1 (List.mem_singleton.mp z))).trans fo_n1
      have mo_k2 : o ∈ hk2.1 := gck2.1 _ mo_n1
      have fA_k2 := (gck2.2 A mA_n1 (fun z => nA_n1 (List.mem_singleton.mp z))).trans fA_n1
      have mA_k2 : A ∈ hk2.1 := gck2.1 _ mA_n1
      have grk2 := grn1.off gck2 (fun q z => by rw [List.mem_singleton.mp z]; exact nwq)
      obtain ⟨gtSk2, gbSk2, ⟨mSk2, mtSk2, mbSk2⟩, nnSk2, fSk2, rSk2⟩ := id hSk2
      refine i_aast rfl k rfl dX1_init_33 mA_k2 fA_k2 (by omega) (by decide) mSk2 fSk2 rfl (fun h3 e0_3 e1_3 e2_3 => ?_)
      have mo_3 : o ∈ h3.1 := by rw [e0_3]; exact mo_k2
      have fo_3 := (e2_3 _ nOA).trans fo_k2
      have mA_3 : A ∈ h3.1 := by rw [e0_3]; exact mA_k2
      have mq_3 : q ∈ h3.1 := by rw [e0_3]; exact mSk2
      have fq_3 := (e2_3 _ (Ne.symm nA_n1)).trans fSk2
      have gw3 := grk2.off (GRp.w (fp := [A]) (List.mem_singleton.mpr rfl) e0_3 e2_3) (fun q z => by rw [List.mem_singleton.mp z]; exact nwA)
      refine i_iinc (ls' := [(0, .ref o), (1, .int (iI ((k : Int) + 1)))]) (1) (v := (k : Int) + 1) dX1_init_34 1 rfl (by omega) (by decide) rfl ?_
      refine r_goto dX1_init_37 (tgt := 15) (by decide) ?_
      have gA : GRp [A] hh h3 := (((GRp.new hqn1 e0_n1 e2_n1).mono (fun _ z => absurd z List.not_mem_nil)).off gck2 (fun x z => by rw [List.mem_singleton.mp z]; exact hqn1)).tr (GRp.w (List.mem_singleton.mpr rfl) e0_3 e2_3)
      have sub1 : ∀ x ∈ hh.1, x ∈ hn1.1 := fun x z => by rw [e0_n1]; exact List.mem_append_left _ z
      have nt9 : tSk2 ≠ A := fun z => ntk2 (by rw [z]; exact sub1 _ mA)
      have nb9 : bSk2 ≠ A := fun z => nbk2 (by rw [z]; exact sub1 _ mA)
      have nq9 : q ≠ A := fun z => hqn1 (by rw [z]; exact mA)
      have hx : SHt G h3 (q, tSk2, bSk2) dS := SH.gr hSk2 (GRp.w (fp := [A]) (List.mem_singleton.mpr rfl) e0_3 e2_3) (fun z => nq9 (List.mem_singleton.mp z)) (fun z => nt9 (List.mem_singleton.mp z)) (fun z => nb9 (List.mem_singleton.mp z))
      have hS2 := hS.step gA (fun x z => gr.1 x z) mA hx ⟨hqn1, fun z => ntk2 (sub1 _ z), fun z => nbk2 (sub1 _ z)⟩
      refine rr_room (kc := 18 - 3 * (k + 1)) (ks := 2454 - 409 * (k + 1)) (ih (k + 1) (by omega) (by omega) h3 _ _ mo_3 fo_3 mA_3 e1_3 hS2 gw3) ?_ ?_
      · show 18 - 3 * (k + 1) ≤ 18 - 3 * k - 1 - 2; omega
      · show 2454 - 409 * (k + 1) ≤ 2454 - 409 * k - 9 - 400; omega
  exact L 0 (by omega) h2 _ (fun _ => (0, 0, 0)) mo_2 e1_2 mA_2 fA_2 ⟨fun i hi => absurd hi (Nat.not_lt_zero i), fun i j hi => absurd hi (Nat.not_lt_zero i)⟩ gw2
def BNS (G : xG) (h0 hh : xH) (A k : Nat) (g : Nat → Option Nat) (bs : Nat → BP) : Prop := (∀ i, i < k → g i = some (bs i).1 ∧ BN G hh (bs i).1 (bs i).2.1 (bs i).2.2 dB ∧ ∀ q ∈ (bs i).2.2, q ∉ h0.1 ∧ q ≠ A ∧ q ∈ hh.1) ∧ ∀ i j, i < k → j < k → i ≠ j → ∀ q ∈ (bs i).2.2, q ∉ (bs j).2.2
theorem BNS.step {G : xG} {h0 hh h5 : xH} {A k : Nat} {g : Nat → Option Nat} {bs : Nat → BP} (hS : BNS G h0 hh A k g bs) (hF : GRp [A] hh h5) (h0h : ∀ q ∈ h0.1, q ∈ hh.1) (mA : A ∈ hh.1) {x : BP} (hx : BN G h5 x.1 x.2.1 x.2.2 dB) (nx : ∀ q ∈ x.2.2, q ∉ hh.1 ∧ q ∈ h5.1) : BNS G h0 h5 A (k + 1) (va_up g k (some x.1)) (fun i => if i = k then x else bs i) := by
  refine ⟨fun i hi => ?_, fun i j hi hj e => ?_⟩
  · show va_up g k (some x.1) i = some (if i = k then x else bs i).1 ∧ BN G h5 (if i = k then x else bs i).1 (if i = k then x else bs i).2.1 (if i = k then x else bs i).2.2 dB ∧ ∀ q ∈ (if i = k then x else bs i).2.2, q ∉ h0.1 ∧ q ≠ A ∧ q ∈ h5.1
    by_cases c : i = k
    · rw [if_pos c, c, va_up_self]
      exact ⟨rfl, hx, fun q hq => ⟨fun z => (nx q hq).1 (h0h _ z), fun z => (nx q hq).1 (by rw [z]; exact mA), (nx q hq).2⟩⟩
    · rw [if_neg c, va_up_ne _ _ c]
      obtain ⟨k1, k2, k3⟩ := hS.1 i (by omega)
      exact ⟨k1, k2.gr hF (fun q hq z => (k3 q hq).2.1 (List.mem_singleton.mp z)), fun q hq => ⟨(k3 q hq).1, (k3 q hq).2.1, hF.1 _ (k3 q hq).2.2⟩⟩
  · show ∀ q ∈ (if i = k then x else bs i).2.2, q ∉ (if j = k then x else bs j).2.2
    by_cases c : i = k
    · rw [if_pos c, if_neg (by omega)]
      exact fun q hq z => (nx q hq).1 ((hS.1 j (by omega)).2.2 q z).2.2
    · rw [if_neg c]
      by_cases d : j = k
      · rw [if_pos d]
        exact fun q hq z => (nx q z).1 ((hS.1 i (by omega)).2.2 q hq).2.2
      · rw [if_neg d]
        exact hS.2 i j (by omega) (by omega) e
def fpHs (o A : Nat) (bs : Nat → BP) : List Nat := o :: A :: (List.range 8).flatMap (fun i => (bs i).2.2)
theorem BNS.hi {G : xG} {h0 hh : xH} {o A : Nat} {g : Nat → Option Nat} {bs : Nat → BP} (hS : BNS G h0 hh A 8 g bs) (mo : o ∈ hh.1) (mo0 : o ∈ h0.1) (fo : hh.2 o = .inr (1, [.ref A, .int (iI 0)])) (mA : A ∈ hh.1) (fA : hh.2 A = .inl (G.2.1 5, 8, .inr (.inr (.inr (.inr g))))) (nA : A ∉ h0.1) :
    HI G hh o A (fpHs o A bs) [] ∧ (∀ q ∈ fpHs o A bs, q = o ∨ q ∉ h0.1) ∧ ∀ q ∈ fpHs o A bs, q ∈ hh.1 := by
  have key : ∀ q ∈ fpHs o A bs, q = o ∨ q = A ∨ ∃ i, i < 8 ∧ q ∈ (bs i).2.2 := by
    intro q hq
    rcases List.mem_cons.mp hq with e | hq
    · exact Or.inl e
    · rcases List.mem_cons.mp hq with e | hq
      · exact Or.inr (Or.inl e)
      · obtain ⟨i, hi, hm⟩ := List.mem_flatMap.mp hq
        exact Or.inr (Or.inr ⟨i, List.mem_range.mp hi, hm⟩)
  refine ⟨⟨g, bs, fun _ => dB, ⟨mo, mA⟩, fo, fA, by decide, fun i hi => absurd hi (Nat.not_lt_zero i), fun i hi => ⟨(hS.1 i hi).1, (hS.1 i hi).2.1⟩, hS.2, ?_⟩, fun q hq => ?_, fun q hq => ?_⟩
  · refine ⟨List.mem_cons_self, List.mem_cons_of_mem _ List.mem_cons_self, fun i hi q hq => ⟨List.mem_cons_of_mem _ (List.mem_cons_of_mem _ (List.mem_flatMap.mpr ⟨i, List.mem_range.mpr hi, hq⟩)), fun z => ?_, ((hS.1 i hi).2.2 q hq).2.1⟩⟩
    exact ((hS.1 i hi).2.2 q hq).1 (by rw [z]; exact mo0)
  · rcases key q hq with e | e | ⟨i, hi, e⟩
    · exact Or.inl e
    · exact Or.inr (by rw [e]; exact nA)
    · exact Or.inr ((hS.1 i hi).2.2 q e).1
  · rcases key q hq with e | e | ⟨i, hi, e⟩
    · rw [e]; exact mo
    · rw [e]; exact mA
    · exact ((hS.1 i hi).2.2 q e).2.2
set_option maxRecDepth 20000 in
set_option maxHeartbeats 1000000 in
theorem c_X3_init {G : xG} {h : xH} {K : xK} (hGK : GK G K) (hAO : GAO G) {o : Nat} (mo : o ∈ h.1) (fo : h.2 o = .inr (1, [.null, .int (iI 0)])) : CC G MX3_init [.ref o] h (fun o9 h9 => o9 = .inl none ∧ ∃ A fp, HI G h9 o A fp [] ∧ (∀ q ∈ fp, q = o ∨ q ∉ h.1) ∧ (∀ q ∈ fp, q ∈ h9.1) ∧ GRp [o] h h9) := by
  have gr0 : GRp [o] h h := GRp.rf
  have hG := gk_D hGK
  show RR G MX3_init 0 [(0, .ref o)] [] h (xm_R MX3_init).cells (xm_R MX3_init).slots (fun o9 h9 => o9 = .inl none ∧ ∃ A fp, HI G h9 o A fp [] ∧ (∀ q ∈ fp, q = o ∨ q ∉ h.1) ∧ (∀ q ∈ fp, q ∈ h9.1) ∧ GRp [o] h h9)
  refine r_aload_n dX3_init_0 0 rfl ?_
  refine r_objinit km_X3_3 ks_obj.1 ks_obj.2 dX3_init_1 (by decide) (by decide) ?_
  refine r_aload_n dX3_init_4 0 rfl ?_
  refine i_bipush (8) (by decide) dX3_init_5 ?_
  refine i_newQ (t := 5) (C := "PastryBench$Bench") 8 rfl (by decide) (hAO.2.1) rfl kl_X3_9 dX3_init_7 (Nat.le_of_ble_eq_true rfl) (Nat.le_of_ble_eq_true rfl) (fun A hn1 hqn1 e0_n1 e1_n1 e2_n1 => ?_)
  have no_n1 : o ≠ A := fun z => hqn1 (by rw [← z]; exact mo)
  have fo_n1 := (e2_n1 o no_n1).trans fo
  have mo_n1 : o ∈ hn1.1 := by rw [e0_n1]; exact List.mem_append_left _ mo
  have mA : A ∈ hn1.1 := by rw [e0_n1]; exact List.mem_append_right _ (List.mem_singleton.mpr rfl)
  have grn1 := gr0.tr ((GRp.new hqn1 e0_n1 e2_n1).mono (fun _ z => absurd z List.not_mem_nil))
  have nwA : A ∉ h.1 := fun z => hqn1 (gr0.1 _ z)
  refine i_putF [.ref A, .int (iI 0)] cl_X3 0 (by decide) kf_X3_11 rfl rfl rfl dX3_init_10 mo_n1 fo_n1 rfl rfl (by simp) rfl (fun h2 e0_2 e1_2 e2_2 => ?_)
  have mo_2 : o ∈ h2.1 := by rw [e0_2]; exact mo_n1
  have mA_2 : A ∈ h2.1 := by rw [e0_2]; exact mA
  have fA_2 := (e2_2 _ (Ne.symm no_n1)).trans e1_n1
  have gw2 := grn1.tr (GRp.w (List.mem_singleton.mpr rfl) e0_2 e2_2)
  refine i_const (0) dX3_init_13 ?_
  refine r_istore_n (ls' := [(0, .ref o), (1, .int (iI 0))]) dX3_init_14 (by decide) rfl ?_
  have nOA : o ≠ A := no_n1
  have L : ∀ k, k ≤ 8 → ∀ (hh : xH) (g : Nat → Option Nat) (bs : Nat → BP), o ∈ hh.1 → hh.2 o = .inr (1, [.ref A, .int (iI 0)]) → A ∈ hh.1 → hh.2 A = .inl (G.2.1 5, 8, .inr (.inr (.inr (.inr g)))) → BNS G h hh A k g bs → GRp [o] h hh → RR G MX3_init 15 [(0, .ref o), (1, .int (iI ((k : Int))))] [] hh (160 - 20 * k) (19744 - 2468 * k) (fun o9 h9 => o9 = .inl none ∧ ∃ A fp, HI G h9 o A fp [] ∧ (∀ q ∈ fp, q = o ∨ q ∉ h.1) ∧ (∀ q ∈ fp, q ∈ h9.1) ∧ GRp [o] h h9) := by
    refine down (fun k hk ih => ?_)
    intro hh g bs mO fO mA fA hS gr
    refine r_iload_n dX3_init_15 1 rfl ?_
    refine i_bipush (8) (by decide) dX3_init_16 ?_
    refine i_icmpge dX3_init_18 (tgt := 40) (by decide) (by unfold in32; omega) ⟨by decide, by decide⟩ (fun c18 => ?_) (fun c18 => ?_)
    · refine r_return rfl dX3_init_40 ?_
      have k6 : k = 8 := by omega
      subst k6
      obtain ⟨b1, b2, b3⟩ := hS.hi mO mo fO mA fA nwA
      exact ⟨rfl, A, _, b1, b2, b3, gr⟩
    · refine r_aload_n dX3_init_21 0 rfl ?_
      refine r_get cl_X3 0 (by decide) kf_X3_11 dX3_init_22 mO fO rfl ?_
      refine r_iload_n dX3_init_25 1 rfl ?_
      refine i_newO cl_X1 (fs := [.null, .int (iI 0), .int (iI 0), .int (iI 0), .int (iI 0), .int (iI 0), .int (iI 0), .int (iI 0)]) kl_X3_9 kn_X1 ki_X1 dX3_init_26 (fun j hj => by rcases (show j = 0 ∨ j = 1 ∨ j = 2 ∨ j = 3 ∨ j = 4 ∨ j = 5 ∨ j = 6 ∨ j = 7 by omega) with rfl | rfl | rfl | rfl | rfl | rfl | rfl | rfl <;> rfl) (by omega) (by omega) (fun q hn1 hqn1 e0_n1 e1_n1 e2_n1 => ?_)
      have no_n1 : o ≠ q := fun z => hqn1 (by rw [← z]; exact mO)
      have fo_n1 := (e2_n1 o no_n1).trans fO
      have mo_n1 : o ∈ hn1.1 := by rw [e0_n1]; exact List.mem_append_left _ mO
      have nA_n1 : A ≠ q := fun z => hqn1 (by rw [← z]; exact mA)
      have fA_n1 := (e2_n1 A nA_n1).trans fA
      have mA_n1 : A ∈ hn1.1 := by rw [e0_n1]; exact List.mem_append_left _ mA
      have mq : q ∈ hn1.1 := by rw [e0_n1]; exact List.mem_append_right _ (List.mem_singleton.mpr rfl)
      have grn1 := gr.tr ((GRp.new hqn1 e0_n1 e2_n1).mono (fun _ z => absurd z List.not_mem_nil))
      have nwq : q ∉ h.1 := fun z => hqn1 (gr.1 _ z)
      refine r_dup dX3_init_29 rfl ?_
      refine k_callI (As := []) (b := q) (rest := [.ref q, .int (iI ((k : Int))), .ref A]) (w := none) (st' := [.ref q, .int (iI ((k : Int))), .ref A]) kv_X3_init_17 dX3_init_30 rfl rfl (Nat.le_of_ble_eq_true rfl) (Nat.le_of_ble_eq_true rfl) (by show 19 ≤ _; omega) (by show 2460 ≤ _; omega) (c_X1_init hGK hAO mq e1_n1) rfl (fun hk2 e9k2 => ?_)
      obtain ⟨Ak2, fpk2, hBk2, nfk2, mfk2, gck2⟩ := e9k2
      have fo_k2 := (gck2.2 o mo_n1 (fun z => no_n1 (List.mem_singleton.mp z))).trans fo_n1
      have mo_k2 : o ∈ hk2.1 := gck2.1 _ mo_n1
      have fA_k2 := (gck2.2 A mA_n1 (fun z => nA_n1 (List.mem_singleton.mp z))).trans fA_n1
      have mA_k2 : A ∈ hk2.1 := gck2.1 _ mA_n1
      have grk2 := grn1.off gck2 (fun q z => by rw [List.mem_singleton.mp z]; exact nwq)
      obtain ⟨mSk2, ⟨vSk2, fSk2⟩, -⟩ := hBk2.mem
      refine i_aast rfl k rfl dX3_init_33 mA_k2 fA_k2 (by omega) (by decide) mSk2 fSk2 rfl (fun h3 e0_3 e1_3 e2_3 => ?_)
      have mo_3 : o ∈ h3.1 := by rw [e0_3]; exact mo_k2
      have fo_3 := (e2_3 _ nOA).trans fo_k2
      have mA_3 : A ∈ h3.1 := by rw [e0_3]; exact mA_k2
      have mq_3 : q ∈ h3.1 := by rw [e0_3]; exact mSk2
      have fq_3 := (e2_3 _ (Ne.symm nA_n1)).trans fSk2
      have gw3 := grk2.off (GRp.w (fp := [A]) (List.mem_singleton.mpr rfl) e0_3 e2_3) (fun q z => by rw [List.mem_singleton.mp z]; exact nwA)
      refine i_iinc (ls' := [(0, .ref o), (1, .int (iI ((k : Int) + 1)))]) (1) (v := (k : Int) + 1) dX3_init_34 1 rfl (by omega) (by decide) rfl ?_
      refine r_goto dX3_init_37 (tgt := 15) (by decide) ?_
      have gA : GRp [A] hh h3 := (((GRp.new hqn1 e0_n1 e2_n1).mono (fun _ z => absurd z List.not_mem_nil)).off gck2 (fun x z => by rw [List.mem_singleton.mp z]; exact hqn1)).tr (GRp.w (List.mem_singleton.mpr rfl) e0_3 e2_3)
      have sub1 : ∀ x ∈ hh.1, x ∈ hn1.1 := fun x z => by rw [e0_n1]; exact List.mem_append_left _ z
      have nx : ∀ x ∈ fpk2, x ∉ hh.1 := fun x hx z => by rcases nfk2 x hx with e | e; exact hqn1 (by rw [← e]; exact z); exact e (sub1 _ z)
      have gw9 : GRp [A] hk2 h3 := GRp.w (List.mem_singleton.mpr rfl) e0_3 e2_3
      have hx : BN G h3 q Ak2 fpk2 dB := hBk2.gr gw9 (fun x hx z => nx x hx (by rw [List.mem_singleton.mp z]; exact mA))
      have hS2 := hS.step (x := (q, Ak2, fpk2)) gA (fun x z => gr.1 x z) mA hx (fun x z => ⟨nx x z, gw9.1 _ (mfk2 x z)⟩)
      refine rr_room (kc := 160 - 20 * (k + 1)) (ks := 19744 - 2468 * (k + 1)) (ih (k + 1) (by omega) (by omega) h3 _ _ mo_3 fo_3 mA_3 e1_3 hS2 gw3) ?_ ?_
      · show 160 - 20 * (k + 1) ≤ 160 - 20 * k - 1 - 19; omega
      · show 19744 - 2468 * (k + 1) ≤ 19744 - 2468 * k - 8 - 2460; omega
  exact L 0 (by omega) h2 _ (fun _ => (0, 0, [])) mo_2 e1_2 mA_2 fA_2 ⟨fun i hi => absurd hi (Nat.not_lt_zero i), fun i j hi => absurd hi (Nat.not_lt_zero i)⟩ gw2
def B00 : AB := ((22, 18, 5, 0, 0, 0), [([60, -40, 60], 3, 10, iI 0, false, false, false), ([30, -9, 25, -3, 30], 5, 20, iI 0, false, false, false)])
theorem c_X1_addLayer' {G : xG} {h : xH} {o A : Nat} {fp : List Nat} {B B' : AB} (hB : BN G h o A fp B) (x : Int) {u v : Int} (eu : b2 (isB x) = u) (ev : sz x = v) (eB : addL B x = B') (hc : 1 ≤ B.2.length) (hroom : (B.2.getD (B.2.length - 1) dS).1.length < 200) : CC G MX1_addLayer [.ref o, .int (iI u), .int (iI v)] h (fun o' h' => o' = .inl none ∧ BN G h' o A fp B' ∧ FRp fp h h') := by
  subst eu; subst ev; subst eB
  exact c_X1_addLayer hB hc hroom
theorem c_X1_addSheet' {G : xG} {h : xH} {o A : Nat} {fp : List Nat} {B B' : AB} (hB : BN G h o A fp B) {T : Int} (eB : (B.1, B.2 ++ [(([] : List Int), (0 : Int), T, iI 0, false, false, false)]) = B') (hc : B.2.length < 6) : CC G MX1_addSheet [.ref o, .int (iI T)] h (fun o' h' => o' = .inl none ∧ BN G h' o A fp B' ∧ FRp fp h h') := by
  subst eB
  exact c_X1_addSheet hB hc
theorem bn_rv {G : xG} {h : xH} {o A : Nat} {fp : List Nat} {B : AB} (hB : BN G h o A fp B) : x_RV G h RX1 o := by
  obtain ⟨m, ⟨v, f⟩, -⟩ := hB.mem
  exact x_rv m f rfl
set_option maxRecDepth 20000 in
set_option maxHeartbeats 1000000 in
theorem c_X1_first {G : xG} {h : xH} {K : xK} (hGK : GK G K) (hAO : GAO G) : CC G MX1_first [] h (fun o9 h9 => ∃ o A fp, o9 = .inl (some (.ref o)) ∧ BN G h9 o A fp B00 ∧ (∀ q ∈ fp, q ∉ h.1) ∧ (∀ q ∈ fp, q ∈ h9.1) ∧ GRp [] h h9) := by
  have gr0 : GRp [] h h := GRp.rf
  show RR G MX1_first 0 [] [] h (xm_R MX1_first).cells (xm_R MX1_first).slots (fun o9 h9 => ∃ o A fp, o9 = .inl (some (.ref o)) ∧ BN G h9 o A fp B00 ∧ (∀ q ∈ fp, q ∉ h.1) ∧ (∀ q ∈ fp, q ∈ h9.1) ∧ GRp [] h h9)
  refine i_newO cl_X1 (fs := [.null, .int (iI 0), .int (iI 0), .int (iI 0), .int (iI 0), .int (iI 0), .int (iI 0), .int (iI 0)]) kl_X1_12 kn_X1 ki_X1 dX1_first_0 (fun j hj => by rcases (show j = 0 ∨ j = 1 ∨ j = 2 ∨ j = 3 ∨ j = 4 ∨ j = 5 ∨ j = 6 ∨ j = 7 by omega) with rfl | rfl | rfl | rfl | rfl | rfl | rfl | rfl <;> rfl) (Nat.le_of_ble_eq_true rfl) (Nat.le_of_ble_eq_true rfl) (fun q hn1 hqn1 e0_n1 e1_n1 e2_n1 => ?_)
  have mq : q ∈ hn1.1 := by rw [e0_n1]; exact List.mem_append_right _ (List.mem_singleton.mpr rfl)
  have grn1 := gr0.tr ((GRp.new hqn1 e0_n1 e2_n1).mono (fun _ z => absurd z List.not_mem_nil))
  have nwq : q ∉ h.1 := fun z => hqn1 (gr0.1 _ z)
  refine r_dup dX1_first_3 rfl ?_
  refine k_callI (As := []) (b := q) (rest := [.ref q]) (w := none) (st' := [.ref q]) kv_X1_first_18 dX1_first_4 rfl rfl (Nat.le_of_ble_eq_true rfl) (Nat.le_of_ble_eq_true rfl) (Nat.le_of_ble_eq_true rfl) (Nat.le_of_ble_eq_true rfl) (c_X1_init hGK hAO mq e1_n1) rfl (fun hk2 e9k2 => ?_)
  obtain ⟨Ak2, fpk2, hBk2, nfk2, mfk2, gck2⟩ := e9k2
  have grk2 := grn1.off gck2 (fun q z => by rw [List.mem_singleton.mp z]; exact nwq)
  refine r_astore_n (ls' := [(0, .ref q)]) dX1_first_7 (by decide) rfl ?_
  refine r_aload_n dX1_first_8 0 rfl ?_
  refine i_bipush (22) (by decide) dX1_first_9 ?_
  refine i_bipush (18) (by decide) dX1_first_11 ?_
  refine i_const (5) dX1_first_13 ?_
  refine p_callV (As := [.int (iI 22), .int (iI 18), .int (iI 5)]) (b := q) (rest := []) (w := none) (st' := []) kv_X1_first_19 dX1_first_14 rfl rfl (Nat.le_of_ble_eq_true rfl) (Nat.le_of_ble_eq_true rfl) (bn_rv hBk2) rfl rfl (c_X1_begin hBk2) rfl (fun hk3 e9k3 => ?_)
  obtain ⟨hBk3, hFk3⟩ := e9k3
  have hBk3 : BN G hk3 q Ak2 fpk2 ((22, 18, 5, 0, 0, 0), []) := hBk3
  have gFk3 := hFk3
  refine r_aload_n dX1_first_17 0 rfl ?_
  refine i_bipush (10) (by decide) dX1_first_18 ?_
  refine p_callV (As := [.int (iI 10)]) (b := q) (rest := []) (w := none) (st' := []) kv_X1_first_23 dX1_first_20 rfl rfl (Nat.le_of_ble_eq_true rfl) (Nat.le_of_ble_eq_true rfl) (bn_rv hBk3) rfl rfl (c_X1_addSheet' hBk3 (B' := ((22, 18, 5, 0, 0, 0), [([], 0, 10, iI 0, false, false, false)])) rfl (by decide)) rfl (fun hk4 e9k4 => ?_)
  obtain ⟨hBk4, hFk4⟩ := e9k4
  have gFk4 := gFk3.tr hFk4
  refine r_aload_n dX1_first_23 0 rfl ?_
  refine i_const (0) dX1_first_24 ?_
  refine i_bipush (60) (by decide) dX1_first_25 ?_
  refine p_callV (As := [.int (iI 0), .int (iI 60)]) (b := q) (rest := []) (w := none) (st' := []) kv_X1_first_27 dX1_first_27 rfl rfl (Nat.le_of_ble_eq_true rfl) (Nat.le_of_ble_eq_true rfl) (bn_rv hBk4) rfl rfl (c_X1_addLayer' hBk4 (B' := ((22, 18, 5, 0, 0, 0), [([60], 1, 10, iI 0, false, false, false)])) (60) (by decide) (by decide) (by rfl) (by decide) (by decide)) rfl (fun hk5 e9k5 => ?_)
  obtain ⟨hBk5, hFk5⟩ := e9k5
  have gFk5 := gFk4.tr hFk5
  refine r_aload_n dX1_first_30 0 rfl ?_
  refine i_const (1) dX1_first_31 ?_
  refine i_bipush (40) (by decide) dX1_first_32 ?_
  refine p_callV (As := [.int (iI 1), .int (iI 40)]) (b := q) (rest := []) (w := none) (st' := []) kv_X1_first_27 dX1_first_34 rfl rfl (Nat.le_of_ble_eq_true rfl) (Nat.le_of_ble_eq_true rfl) (bn_rv hBk5) rfl rfl (c_X1_addLayer' hBk5 (B' := ((22, 18, 5, 0, 0, 0), [([60, -40], 2, 10, iI 0, false, false, false)])) (-40) (by decide) (by decide) (by rfl) (by decide) (by decide)) rfl (fun hk6 e9k6 => ?_)
  obtain ⟨hBk6, hFk6⟩ := e9k6
  have gFk6 := gFk5.tr hFk6
  refine r_aload_n dX1_first_37 0 rfl ?_
  refine i_const (0) dX1_first_38 ?_
  refine i_bipush (60) (by decide) dX1_first_39 ?_
  refine p_callV (As := [.int (iI 0), .int (iI 60)]) (b := q) (rest := []) (w := none) (st' := []) kv_X1_first_27 dX1_first_41 rfl rfl (Nat.le_of_ble_eq_true rfl) (Nat.le_of_ble_eq_true rfl) (bn_rv hBk6) rfl rfl (c_X1_addLayer' hBk6 (B' := ((22, 18, 5, 0, 0, 0), [([60, -40, 60], 3, 10, iI 0, false, false, false)])) (60) (by decide) (by decide) (by rfl) (by decide) (by decide)) rfl (fun hk7 e9k7 => ?_)
  obtain ⟨hBk7, hFk7⟩ := e9k7
  have gFk7 := gFk6.tr hFk7
  refine r_aload_n dX1_first_44 0 rfl ?_
  refine i_bipush (20) (by decide) dX1_first_45 ?_
  refine p_callV (As := [.int (iI 20)]) (b := q) (rest := []) (w := none) (st' := []) kv_X1_first_23 dX1_first_47 rfl rfl (Nat.le_of_ble_eq_true rfl) (Nat.le_of_ble_eq_true rfl) (bn_rv hBk7) rfl rfl (c_X1_addSheet' hBk7 (B' := ((22, 18, 5, 0, 0, 0), [([60, -40, 60], 3, 10, iI 0, false, false, false), ([], 0, 20, iI 0, false, false, false)])) rfl (by decide)) rfl (fun hk8 e9k8 => ?_)
  obtain ⟨hBk8, hFk8⟩ := e9k8
  have gFk8 := gFk7.tr hFk8
  refine r_aload_n dX1_first_50 0 rfl ?_
  refine i_const (0) dX1_first_51 ?_
  refine i_bipush (30) (by decide) dX1_first_52 ?_
  refine p_callV (As := [.int (iI 0), .int (iI 30)]) (b := q) (rest := []) (w := none) (st' := []) kv_X1_first_27 dX1_first_54 rfl rfl (Nat.le_of_ble_eq_true rfl) (Nat.le_of_ble_eq_true rfl) (bn_rv hBk8) rfl rfl (c_X1_addLayer' hBk8 (B' := ((22, 18, 5, 0, 0, 0), [([60, -40, 60], 3, 10, iI 0, false, false, false), ([30], 1, 20, iI 0, false, false, false)])) (30) (by decide) (by decide) (by rfl) (by decide) (by decide)) rfl (fun hk9 e9k9 => ?_)
  obtain ⟨hBk9, hFk9⟩ := e9k9
  have gFk9 := gFk8.tr hFk9
  refine r_aload_n dX1_first_57 0 rfl ?_
  refine i_const (1) dX1_first_58 ?_
  refine i_bipush (9) (by decide) dX1_first_59 ?_
  refine p_callV (As := [.int (iI 1), .int (iI 9)]) (b := q) (rest := []) (w := none) (st' := []) kv_X1_first_27 dX1_first_61 rfl rfl (Nat.le_of_ble_eq_true rfl) (Nat.le_of_ble_eq_true rfl) (bn_rv hBk9) rfl rfl (c_X1_addLayer' hBk9 (B' := ((22, 18, 5, 0, 0, 0), [([60, -40, 60], 3, 10, iI 0, false, false, false), ([30, -9], 2, 20, iI 0, false, false, false)])) (-9) (by decide) (by decide) (by rfl) (by decide) (by decide)) rfl (fun hk10 e9k10 => ?_)
  obtain ⟨hBk10, hFk10⟩ := e9k10
  have gFk10 := gFk9.tr hFk10
  refine r_aload_n dX1_first_64 0 rfl ?_
  refine i_const (0) dX1_first_65 ?_
  refine i_bipush (25) (by decide) dX1_first_66 ?_
  refine p_callV (As := [.int (iI 0), .int (iI 25)]) (b := q) (rest := []) (w := none) (st' := []) kv_X1_first_27 dX1_first_68 rfl rfl (Nat.le_of_ble_eq_true rfl) (Nat.le_of_ble_eq_true rfl) (bn_rv hBk10) rfl rfl (c_X1_addLayer' hBk10 (B' := ((22, 18, 5, 0, 0, 0), [([60, -40, 60], 3, 10, iI 0, false, false, false), ([30, -9, 25], 3, 20, iI 0, false, false, false)])) (25) (by decide) (by decide) (by rfl) (by decide) (by decide)) rfl (fun hk11 e9k11 => ?_)
  obtain ⟨hBk11, hFk11⟩ := e9k11
  have gFk11 := gFk10.tr hFk11
  refine r_aload_n dX1_first_71 0 rfl ?_
  refine i_const (1) dX1_first_72 ?_
  refine i_const (3) dX1_first_73 ?_
  refine p_callV (As := [.int (iI 1), .int (iI 3)]) (b := q) (rest := []) (w := none) (st' := []) kv_X1_first_27 dX1_first_74 rfl rfl (Nat.le_of_ble_eq_true rfl) (Nat.le_of_ble_eq_true rfl) (bn_rv hBk11) rfl rfl (c_X1_addLayer' hBk11 (B' := ((22, 18, 5, 0, 0, 0), [([60, -40, 60], 3, 10, iI 0, false, false, false), ([30, -9, 25, -3], 4, 20, iI 0, false, false, false)])) (-3) (by decide) (by decide) (by rfl) (by decide) (by decide)) rfl (fun hk12 e9k12 => ?_)
  obtain ⟨hBk12, hFk12⟩ := e9k12
  have gFk12 := gFk11.tr hFk12
  refine r_aload_n dX1_first_77 0 rfl ?_
  refine i_const (0) dX1_first_78 ?_
  refine i_bipush (30) (by decide) dX1_first_79 ?_
  refine p_callV (As := [.int (iI 0), .int (iI 30)]) (b := q) (rest := []) (w := none) (st' := []) kv_X1_first_27 dX1_first_81 rfl rfl (Nat.le_of_ble_eq_true rfl) (Nat.le_of_ble_eq_true rfl) (bn_rv hBk12) rfl rfl (c_X1_addLayer' hBk12 (B' := ((22, 18, 5, 0, 0, 0), [([60, -40, 60], 3, 10, iI 0, false, false, false), ([30, -9, 25, -3, 30], 5, 20, iI 0, false, false, false)])) (30) (by decide) (by decide) (by rfl) (by decide) (by decide)) rfl (fun hk13 e9k13 => ?_)
  obtain ⟨hBk13, hFk13⟩ := e9k13
  have gFk13 := gFk12.tr hFk13
  refine r_aload_n dX1_first_84 0 rfl ?_
  refine r_areturn rfl dX1_first_85 ?_
  refine ⟨q, Ak2, fpk2, rfl, hBk13, fun x hx => ?_, fun x hx => by rw [gFk13.1]; exact mfk2 x hx, ?_⟩
  · rcases nfk2 x hx with e | e
    · rw [e]; exact hqn1
    · exact fun z => e (by rw [e0_n1]; exact List.mem_append_left _ z)
  · exact (((GRp.new hqn1 e0_n1 e2_n1).off gck2 (fun x z => by rw [List.mem_singleton.mp z]; exact hqn1)).off (GRp.of gFk13) (fun x hx z => by rcases nfk2 x hx with e | e; exact hqn1 (by rw [← e]; exact z); exact e (by rw [e0_n1]; exact List.mem_append_left _ z)))
