/-! ===== the law: its loop, its beginning ===== -/
theorem i63 (y : Int32) : ∃ v : Nat, v < 64 ∧ (y &&& iI 63) = iI (v : Int) := by
  have e : (y &&& iI 63).toBitVec = y.toBitVec &&& 63#32 := rfl
  have h : (y &&& iI 63).toBitVec.toNat < 64 := by
    rw [e, BitVec.toNat_and]
    exact Nat.lt_of_le_of_lt Nat.and_le_right (by decide)
  refine ⟨(y &&& iI 63).toBitVec.toNat, h, ?_⟩
  have h2 : (y &&& iI 63).toInt = (((y &&& iI 63).toBitVec.toNat : Nat) : Int) := by
    show (y &&& iI 63).toBitVec.toInt = _
    rw [BitVec.toInt_eq_toNat_of_lt (by omega)]
  rw [← h2, iI_of]
theorem XB.gr {G : xG} {h h' : xH} {K : xK} {x : Nat} {a : XA} {S : XS} {fp : List Nat} (hX : XB G h K x a S) (hF : GRp fp h h') (hd : ∀ q ∈ fpX x a, q ∉ fp) : XB G h' K x a S := by
  obtain ⟨mx, fx, hI, ⟨I0, T0, t, num, hP⟩, ⟨cs, hS⟩, hB, ⟨B1, hB1⟩, ⟨B2, hB2, e2⟩, hH, hU, hD⟩ := hX
  have n : ∀ c, c < 9 → ∀ q ∈ (grp x a).getD c [], q ∉ fp := fun c hc q hq => hd q (jn_m (by simp; omega) hq)
  exact ⟨hF.1 _ mx, (hF.2 x mx (n 0 (by decide) x (by simp [grp]))).trans fx, hI.gr hF (n 1 (by decide) _ (by simp [grp])), ⟨I0, T0, t, num, hP.gr hF (n 2 (by decide) _ (by simp [grp])) (n 2 (by decide) _ (by simp [grp]))⟩, ⟨cs, hS.gr hF (n 3 (by decide) _ (by simp [grp])) (n 3 (by decide) _ (by simp [grp])) (n 3 (by decide) _ (by simp [grp])) (n 3 (by decide) _ (by simp [grp]))⟩, hB.gr hF (n 4 (by decide)), ⟨B1, hB1.gr hF (n 5 (by decide))⟩, ⟨B2, hB2.gr hF (n 6 (by decide)), e2⟩, hH.gr hF (n 7 (by decide)), hU.gr hF (n 8 (by decide) _ (by simp [grp])) (n 8 (by decide) _ (by simp [grp])), hD⟩
theorem MB.gr {G : xG} {h h' : xH} {sa : Nat → Nat} {m : Nat} {a : MA} {S : XS} {c : Int} (hB : MB G h sa m a S c) (hF : GRp [] h h') : MB G h' sa m a S c := by
  obtain ⟨r, hc, hM, hf, ⟨⟨gn, hn, hnW⟩, ⟨gd, hd9⟩, ⟨gk, hk, hkW⟩, ⟨gs, hs, hsW⟩, ⟨gh, hh, hhl, hhW⟩, ⟨go, ho9, hol, hoW⟩, hI, ⟨gq, hod⟩, ⟨ow1, gw, ow2, ow3⟩⟩, hND⟩ := hB
  have z : ∀ q : Nat, q ∉ ([] : List Nat) := fun q => List.not_mem_nil
  exact ⟨r, hc, ⟨hF.1 _ hM.1, (hF.2 _ hM.1 (z _)).trans hM.2⟩, hf, ⟨⟨gn, hn.gr hF (z _), hnW⟩, ⟨gd, hd9.gr hF (z _)⟩, ⟨gk, hk.gr hF (z _), hkW⟩, ⟨gs, hs.gr hF (z _), hsW⟩, ⟨gh, hh.gr hF (z _), hhl, hhW⟩, ⟨go, ho9.gr hF (z _), hol, hoW⟩, hI.gr hF (z _), ⟨gq, hod.gr hF (z _)⟩, ⟨hF.1 _ ow1, gw, (hF.2 _ ow1 (z _)).trans ow2, ow3⟩⟩, hND⟩
theorem MB.mem {G : xG} {h : xH} {sa : Nat → Nat} {m : Nat} {a : MA} {S : XS} {c : Int} (hB : MB G h sa m a S c) : (∀ q ∈ fpM m a, q ∈ h.1) ∧ a.2.2.2.2.2.2.2.2 ∈ h.1 := by
  obtain ⟨r, hc, hM, hf, ⟨⟨gn, hn, hnW⟩, ⟨gd, hd9⟩, ⟨gk, hk, hkW⟩, ⟨gs, hs, hsW⟩, ⟨gh, hh, hhl, hhW⟩, ⟨go, ho9, hol, hoW⟩, ⟨gi, hi, -⟩, ⟨gq, hod⟩, ⟨ow1, gw, ow2, ow3⟩⟩, hND⟩ := hB
  refine ⟨fun q hq => ?_, ow1⟩
  have hq9 : q = m ∨ q = a.1 ∨ q = a.2.1 ∨ q = a.2.2.1 ∨ q = a.2.2.2.1 ∨ q = a.2.2.2.2.1 ∨ q = a.2.2.2.2.2.1 ∨ q = a.2.2.2.2.2.2.1 ∨ q = a.2.2.2.2.2.2.2.1 := by simpa [fpM] using hq
  rcases hq9 with e | e | e | e | e | e | e | e | e <;> rw [e]
  · exact hM.1
  · exact hn.1
  · exact hd9.1
  · exact hk.1
  · exact hs.1
  · exact hh.1
  · exact ho9.1
  · exact hi
  · exact hod.1
set_option maxRecDepth 20000 in
set_option maxHeartbeats 1000000 in
theorem law_loop {G : xG} {K : xK} {sa : Nat → Nat} (hGC : GC G K sa) (hGT : GT G sa) (hGE : GE G) (hCA : GCA G) {b L : Nat} {zs : Nat → Int} (hXs : x_zz G (fun _ U H => va_X b L (fun j => iI (zs j)) U H)) (hb : b < G.2.2.2) (hL : L ≤ 3072) (hz : ∀ j, in32 (zs j)) {x m o d : Nat} {ad : XA} {a : MA} (hDJ : DJW x ad m a o d) : ∀ n, n ≤ L / 6 → ∀ (h : xH) (S : XS) (c : Int), LW G K sa x m o d ad a S c h → RR G ML_law 28 (lsL b x m o d (6 * n)) [] h (3 * (512 - n)) (18 * (512 - n)) (fun o9 h9 => o9 = .inl (some (.int (iI 1)))) := by
  have and63 : ∀ y : Int32, ∃ v : Nat, v < 64 ∧ (y &&& iI 63) = iI (v : Int) := i63
  refine down (fun n hn ih => ?_)
  intro h S c hW
  refine r_iload dL_law_28 5 rfl ?_
  refine r_aload_n dL_law_30 0 rfl ?_
  refine r_slen hXs hb dL_law_31 ?_
  refine i_bipush (6) (by decide) dL_law_32 ?_
  refine i_sub dL_law_34 ?_
  refine i_icmpgt dL_law_35 (tgt := 3140) (by decide) (by unfold in32; omega) (by unfold in32; omega) (fun c1 => ?_) (fun c1 => ?_)
  · refine i_const (1) dL_law_3140 ?_
    exact r_ireturn rfl (b2_nar true) dL_law_3141 rfl
  · have hi : 6 * n + 6 ≤ L := by omega
    refine r_aload_n dL_law_38 0 rfl ?_
    refine r_iload dL_law_39 5 rfl ?_
    refine r_sld hXs hb (6 * n) rfl (by omega) (by omega) dL_law_41 ?_
    refine i_bipush (63) (by decide) dL_law_42 ?_
    refine r_iand dL_law_44 ?_
    obtain ⟨v, hv, ev⟩ := and63 (iI (zs (6 * n)))
    rw [ev]
    have kk : ∀ (h9 : xH) (S9 : XS) (c9 : Int), LW G K sa x m o d ad a S9 c9 h9 → RR G ML_law 3134 (lsL b x m o d (6 * n)) [] h9 (3 * (512 - (n + 1))) (18 * (512 - (n + 1))) (fun o9 h9 => o9 = .inl (some (.int (iI 1)))) := by
      intro h9 S9 c9 hW9
      refine i_iinc (ls' := lsL b x m o d (6 * (n + 1))) (6) (v := ((6 * (n + 1) : Nat) : Int)) dL_law_3134 5 rfl (by omega) (by decide) rfl ?_
      refine r_goto dL_law_3137 (tgt := 28) (by decide) ?_
      exact ih (n + 1) (by omega) (by omega) h9 S9 c9 hW9
    refine rr_room (kc := 3 * (512 - (n + 1)) + 3) (ks := 18 * (512 - (n + 1)) + 18) ?_ (by omega) (by omega)
    by_cases hv7 : v ≤ 56
    · rcases (show v = 0 ∨ v = 1 ∨ v = 2 ∨ v = 3 ∨ v = 4 ∨ v = 5 ∨ v = 6 ∨ v = 7 ∨ v = 8 ∨ v = 9 ∨ v = 10 ∨ v = 11 ∨ v = 12 ∨ v = 13 ∨ v = 14 ∨ v = 15 ∨ v = 16 ∨ v = 17 ∨ v = 18 ∨ v = 19 ∨ v = 20 ∨ v = 21 ∨ v = 22 ∨ v = 23 ∨ v = 24 ∨ v = 25 ∨ v = 26 ∨ v = 27 ∨ v = 28 ∨ v = 29 ∨ v = 30 ∨ v = 31 ∨ v = 32 ∨ v = 33 ∨ v = 34 ∨ v = 35 ∨ v = 36 ∨ v = 37 ∨ v = 38 ∨ v = 39 ∨ v = 40 ∨ v = 41 ∨ v = 42 ∨ v = 43 ∨ v = 44 ∨ v = 45 ∨ v = 46 ∨ v = 47 ∨ v = 48 ∨ v = 49 ∨ v = 50 ∨ v = 51 ∨ v = 52 ∨ v = 53 ∨ v = 54 ∨ v = 55 ∨ v = 56 by omega) with e | e | e | e | e | e | e | e | e | e | e | e | e | e | e | e | e | e | e | e | e | e | e | e | e | e | e | e | e | e | e | e | e | e | e | e | e | e | e | e | e | e | e | e | e | e | e | e | e | e | e | e | e | e | e | e | e
      · subst e; exact r_tableIn (tgt := 288) dL_law_45 (by decide) (by decide) (off := 243) (by decide) (by decide) (lc_0 hGC hGT hGE hCA hXs hb hL hz hDJ hi hW kk)
      · subst e; exact r_tableIn (tgt := 361) dL_law_45 (by decide) (by decide) (off := 316) (by decide) (by decide) (lc_1 hGC hGT hGE hCA hXs hb hL hz hDJ hi hW kk)
      · subst e; exact r_tableIn (tgt := 417) dL_law_45 (by decide) (by decide) (off := 372) (by decide) (by decide) (lc_2 hGC hGT hGE hCA hXs hb hL hz hDJ hi hW kk)
      · subst e; exact r_tableIn (tgt := 430) dL_law_45 (by decide) (by decide) (off := 385) (by decide) (by decide) (lc_3 hGC hGT hGE hCA hXs hb hL hz hDJ hi hW kk)
      · subst e; exact r_tableIn (tgt := 443) dL_law_45 (by decide) (by decide) (off := 398) (by decide) (by decide) (lc_4 hGC hGT hGE hCA hXs hb hL hz hDJ hi hW kk)
      · subst e; exact r_tableIn (tgt := 456) dL_law_45 (by decide) (by decide) (off := 411) (by decide) (by decide) (lc_5 hGC hGT hGE hCA hXs hb hL hz hDJ hi hW kk)
      · subst e; exact r_tableIn (tgt := 469) dL_law_45 (by decide) (by decide) (off := 424) (by decide) (by decide) (lc_6 hGC hGT hGE hCA hXs hb hL hz hDJ hi hW kk)
      · subst e; exact r_tableIn (tgt := 482) dL_law_45 (by decide) (by decide) (off := 437) (by decide) (by decide) (lc_7 hGC hGT hGE hCA hXs hb hL hz hDJ hi hW kk)
      · subst e; exact r_tableIn (tgt := 495) dL_law_45 (by decide) (by decide) (off := 450) (by decide) (by decide) (lc_8 hGC hGT hGE hCA hXs hb hL hz hDJ hi hW kk)
      · subst e; exact r_tableIn (tgt := 508) dL_law_45 (by decide) (by decide) (off := 463) (by decide) (by decide) (lc_9 hGC hGT hGE hCA hXs hb hL hz hDJ hi hW kk)
      · subst e; exact r_tableIn (tgt := 521) dL_law_45 (by decide) (by decide) (off := 476) (by decide) (by decide) (lc_10 hGC hGT hGE hCA hXs hb hL hz hDJ hi hW kk)
      · subst e; exact r_tableIn (tgt := 534) dL_law_45 (by decide) (by decide) (off := 489) (by decide) (by decide) (lc_11 hGC hGT hGE hCA hXs hb hL hz hDJ hi hW kk)
      · subst e; exact r_tableIn (tgt := 547) dL_law_45 (by decide) (by decide) (off := 502) (by decide) (by decide) (lc_12 hGC hGT hGE hCA hXs hb hL hz hDJ hi hW kk)
      · subst e; exact r_tableIn (tgt := 560) dL_law_45 (by decide) (by decide) (off := 515) (by decide) (by decide) (lc_13 hGC hGT hGE hCA hXs hb hL hz hDJ hi hW kk)
      · subst e; exact r_tableIn (tgt := 616) dL_law_45 (by decide) (by decide) (off := 571) (by decide) (by decide) (lc_14 hGC hGT hGE hCA hXs hb hL hz hDJ hi hW kk)
      · subst e; exact r_tableIn (tgt := 672) dL_law_45 (by decide) (by decide) (off := 627) (by decide) (by decide) (lc_15 hGC hGT hGE hCA hXs hb hL hz hDJ hi hW kk)
      · subst e; exact r_tableIn (tgt := 747) dL_law_45 (by decide) (by decide) (off := 702) (by decide) (by decide) (lc_16 hGC hGT hGE hCA hXs hb hL hz hDJ hi hW kk)
      · subst e; exact r_tableIn (tgt := 815) dL_law_45 (by decide) (by decide) (off := 770) (by decide) (by decide) (lc_17 hGC hGT hGE hCA hXs hb hL hz hDJ hi hW kk)
      · subst e; exact r_tableIn (tgt := 871) dL_law_45 (by decide) (by decide) (off := 826) (by decide) (by decide) (lc_18 hGC hGT hGE hCA hXs hb hL hz hDJ hi hW kk)
      · subst e; exact r_tableIn (tgt := 927) dL_law_45 (by decide) (by decide) (off := 882) (by decide) (by decide) (lc_19 hGC hGT hGE hCA hXs hb hL hz hDJ hi hW kk)
      · subst e; exact r_tableIn (tgt := 983) dL_law_45 (by decide) (by decide) (off := 938) (by decide) (by decide) (lc_20 hGC hGT hGE hCA hXs hb hL hz hDJ hi hW kk)
      · subst e; exact r_tableIn (tgt := 1039) dL_law_45 (by decide) (by decide) (off := 994) (by decide) (by decide) (lc_21 hGC hGT hGE hCA hXs hb hL hz hDJ hi hW kk)
      · subst e; exact r_tableIn (tgt := 1095) dL_law_45 (by decide) (by decide) (off := 1050) (by decide) (by decide) (lc_22 hGC hGT hGE hCA hXs hb hL hz hDJ hi hW kk)
      · subst e; exact r_tableIn (tgt := 1158) dL_law_45 (by decide) (by decide) (off := 1113) (by decide) (by decide) (lc_23 hGC hGT hGE hCA hXs hb hL hz hDJ hi hW kk)
      · subst e; exact r_tableIn (tgt := 1214) dL_law_45 (by decide) (by decide) (off := 1169) (by decide) (by decide) (lc_24 hGC hGT hGE hCA hXs hb hL hz hDJ hi hW kk)
      · subst e; exact r_tableIn (tgt := 1277) dL_law_45 (by decide) (by decide) (off := 1232) (by decide) (by decide) (lc_25 hGC hGT hGE hCA hXs hb hL hz hDJ hi hW kk)
      · subst e; exact r_tableIn (tgt := 1340) dL_law_45 (by decide) (by decide) (off := 1295) (by decide) (by decide) (lc_26 hGC hGT hGE hCA hXs hb hL hz hDJ hi hW kk)
      · subst e; exact r_tableIn (tgt := 1403) dL_law_45 (by decide) (by decide) (off := 1358) (by decide) (by decide) (lc_27 hGC hGT hGE hCA hXs hb hL hz hDJ hi hW kk)
      · subst e; exact r_tableIn (tgt := 1459) dL_law_45 (by decide) (by decide) (off := 1414) (by decide) (by decide) (lc_28 hGC hGT hGE hCA hXs hb hL hz hDJ hi hW kk)
      · subst e; exact r_tableIn (tgt := 1515) dL_law_45 (by decide) (by decide) (off := 1470) (by decide) (by decide) (lc_29 hGC hGT hGE hCA hXs hb hL hz hDJ hi hW kk)
      · subst e; exact r_tableIn (tgt := 1593) dL_law_45 (by decide) (by decide) (off := 1548) (by decide) (by decide) (lc_30 hGC hGT hGE hCA hXs hb hL hz hDJ hi hW kk)
      · subst e; exact r_tableIn (tgt := 1670) dL_law_45 (by decide) (by decide) (off := 1625) (by decide) (by decide) (lc_31 hGC hGT hGE hCA hXs hb hL hz hDJ hi hW kk)
      · subst e; exact r_tableIn (tgt := 1738) dL_law_45 (by decide) (by decide) (off := 1693) (by decide) (by decide) (lc_32 hGC hGT hGE hCA hXs hb hL hz hDJ hi hW kk)
      · subst e; exact r_tableIn (tgt := 1806) dL_law_45 (by decide) (by decide) (off := 1761) (by decide) (by decide) (lc_33 hGC hGT hGE hCA hXs hb hL hz hDJ hi hW kk)
      · subst e; exact r_tableIn (tgt := 1874) dL_law_45 (by decide) (by decide) (off := 1829) (by decide) (by decide) (lc_34 hGC hGT hGE hCA hXs hb hL hz hDJ hi hW kk)
      · subst e; exact r_tableIn (tgt := 1930) dL_law_45 (by decide) (by decide) (off := 1885) (by decide) (by decide) (lc_35 hGC hGT hGE hCA hXs hb hL hz hDJ hi hW kk)
      · subst e; exact r_tableIn (tgt := 1998) dL_law_45 (by decide) (by decide) (off := 1953) (by decide) (by decide) (lc_36 hGC hGT hGE hCA hXs hb hL hz hDJ hi hW kk)
      · subst e; exact r_tableIn (tgt := 2066) dL_law_45 (by decide) (by decide) (off := 2021) (by decide) (by decide) (lc_37 hGC hGT hGE hCA hXs hb hL hz hDJ hi hW kk)
      · subst e; exact r_tableIn (tgt := 2134) dL_law_45 (by decide) (by decide) (off := 2089) (by decide) (by decide) (lc_38 hGC hGT hGE hCA hXs hb hL hz hDJ hi hW kk)
      · subst e; exact r_tableIn (tgt := 2190) dL_law_45 (by decide) (by decide) (off := 2145) (by decide) (by decide) (lc_39 hGC hGT hGE hCA hXs hb hL hz hDJ hi hW kk)
      · subst e; exact r_tableIn (tgt := 2258) dL_law_45 (by decide) (by decide) (off := 2213) (by decide) (by decide) (lc_40 hGC hGT hGE hCA hXs hb hL hz hDJ hi hW kk)
      · subst e; exact r_tableIn (tgt := 2326) dL_law_45 (by decide) (by decide) (off := 2281) (by decide) (by decide) (lc_41 hGC hGT hGE hCA hXs hb hL hz hDJ hi hW kk)
      · subst e; exact r_tableIn (tgt := 2382) dL_law_45 (by decide) (by decide) (off := 2337) (by decide) (by decide) (lc_42 hGC hGT hGE hCA hXs hb hL hz hDJ hi hW kk)
      · subst e; exact r_tableIn (tgt := 2438) dL_law_45 (by decide) (by decide) (off := 2393) (by decide) (by decide) (lc_43 hGC hGT hGE hCA hXs hb hL hz hDJ hi hW kk)
      · subst e; exact r_tableIn (tgt := 2494) dL_law_45 (by decide) (by decide) (off := 2449) (by decide) (by decide) (lc_44 hGC hGT hGE hCA hXs hb hL hz hDJ hi hW kk)
      · subst e; exact r_tableIn (tgt := 2550) dL_law_45 (by decide) (by decide) (off := 2505) (by decide) (by decide) (lc_45 hGC hGT hGE hCA hXs hb hL hz hDJ hi hW kk)
      · subst e; exact r_tableIn (tgt := 2606) dL_law_45 (by decide) (by decide) (off := 2561) (by decide) (by decide) (lc_46 hGC hGT hGE hCA hXs hb hL hz hDJ hi hW kk)
      · subst e; exact r_tableIn (tgt := 2662) dL_law_45 (by decide) (by decide) (off := 2617) (by decide) (by decide) (lc_47 hGC hGT hGE hCA hXs hb hL hz hDJ hi hW kk)
      · subst e; exact r_tableIn (tgt := 2730) dL_law_45 (by decide) (by decide) (off := 2685) (by decide) (by decide) (lc_48 hGC hGT hGE hCA hXs hb hL hz hDJ hi hW kk)
      · subst e; exact r_tableIn (tgt := 2798) dL_law_45 (by decide) (by decide) (off := 2753) (by decide) (by decide) (lc_49 hGC hGT hGE hCA hXs hb hL hz hDJ hi hW kk)
      · subst e; exact r_tableIn (tgt := 2854) dL_law_45 (by decide) (by decide) (off := 2809) (by decide) (by decide) (lc_50 hGC hGT hGE hCA hXs hb hL hz hDJ hi hW kk)
      · subst e; exact r_tableIn (tgt := 2910) dL_law_45 (by decide) (by decide) (off := 2865) (by decide) (by decide) (lc_51 hGC hGT hGE hCA hXs hb hL hz hDJ hi hW kk)
      · subst e; exact r_tableIn (tgt := 2966) dL_law_45 (by decide) (by decide) (off := 2921) (by decide) (by decide) (lc_52 hGC hGT hGE hCA hXs hb hL hz hDJ hi hW kk)
      · subst e; exact r_tableIn (tgt := 3022) dL_law_45 (by decide) (by decide) (off := 2977) (by decide) (by decide) (lc_53 hGC hGT hGE hCA hXs hb hL hz hDJ hi hW kk)
      · subst e; exact r_tableIn (tgt := 3035) dL_law_45 (by decide) (by decide) (off := 2990) (by decide) (by decide) (lc_54 hGC hGT hGE hCA hXs hb hL hz hDJ hi hW kk)
      · subst e; exact r_tableIn (tgt := 3079) dL_law_45 (by decide) (by decide) (off := 3034) (by decide) (by decide) (lc_55 hGC hGT hGE hCA hXs hb hL hz hDJ hi hW kk)
      · subst e; exact r_tableIn (tgt := 3090) dL_law_45 (by decide) (by decide) (off := 3045) (by decide) (by decide) (lc_56 hGC hGT hGE hCA hXs hb hL hz hDJ hi hW kk)
    · refine r_tableOut (tgt := 3134) dL_law_45 (Or.inr (by rw [iI_toInt (by unfold in32; omega)]; omega)) (by decide) ?_
      exact rr_room (kk h S c hW) (Nat.le_add_right _ _) (Nat.le_add_right _ _)
set_option maxRecDepth 20000 in
set_option maxHeartbeats 1000000 in
theorem law_start {G : xG} {K : xK} {sa : Nat → Nat} (hGC : GC G K sa) (hGT : GT G sa) (hGE : GE G) (hCA : GCA G) {b L : Nat} {zs : Nat → Int} (hXs : x_zz G (fun _ U H => va_X b L (fun j => iI (zs j)) U H)) (hb : b < G.2.2.2) (hL : L ≤ 3072) (hz : ∀ j, in32 (zs j)) (hAO : GAO G) {h : xH} : RR G ML_law 0 [(0, .ref b)] [] h 601024 7293034 (fun o9 h9 => o9 = .inl (some (.int (iI 1)))) := by
  have gr0 : GRp [] h h := GRp.rf
  refine i_newO cl_X11 (fs := [.null, .int (iI 0), .null, .null, .null, .null, .null, .int (iI 0), .null, .null]) kl_L_8 kn_X11 ki_X11 dL_law_0 (fun j hj => by rcases (show j = 0 ∨ j = 1 ∨ j = 2 ∨ j = 3 ∨ j = 4 ∨ j = 5 ∨ j = 6 ∨ j = 7 ∨ j = 8 ∨ j = 9 by omega) with rfl | rfl | rfl | rfl | rfl | rfl | rfl | rfl | rfl | rfl <;> rfl) (Nat.le_of_ble_eq_true rfl) (Nat.le_of_ble_eq_true rfl) (fun x hn1 hqn1 e0_n1 e1_n1 e2_n1 => ?_)
  have mx : x ∈ hn1.1 := by rw [e0_n1]; exact List.mem_append_right _ (List.mem_singleton.mpr rfl)
  have grn1 := gr0.tr ((GRp.new hqn1 e0_n1 e2_n1).mono (fun _ z => absurd z List.not_mem_nil))
  have nwx : x ∉ h.1 := fun z => hqn1 (gr0.1 _ z)
  refine r_dup dL_law_3 rfl ?_
  refine k_callI (As := []) (b := x) (rest := [.ref x]) (w := none) (st' := [.ref x]) kv_L_law_151 dL_law_4 rfl rfl (Nat.le_of_ble_eq_true rfl) (Nat.le_of_ble_eq_true rfl) (Nat.le_of_ble_eq_true rfl) (Nat.le_of_ble_eq_true rfl) (c_X11_init hGC.1 hAO mx e1_n1) rfl (fun hk2 e9k2 => ?_)
  obtain ⟨ad, hX, nX, mX, gck2⟩ := e9k2
  have grk2 := grn1.off gck2 (fun q z => by rw [List.mem_singleton.mp z]; exact nwx)
  refine r_astore_n (ls' := [(0, .ref b), (1, .ref x)]) dL_law_7 (by decide) rfl ?_
  refine i_newO cl_X12 (fs := [.null, .null, .null, .null, .null, .null, .int (iI 0), .int (iI 0), .int (iI 0), .int (iI 0), .int (iI 0), .int (iI 0), .int (iI 0), .int (iI 0), .null, .int (iI 0), .null, .int (iI 0), .int (iI 0), .int (iI 0), .int (iI 0), .int (iI 0), .int (iI 0), .int (iI 0), .int (iI 0), .int (iI 0), .null, .null, .int (iI 0)]) kl_L_152 kn_X12 ki_X12 dL_law_8 (fun j hj => by rcases (show j = 0 ∨ j = 1 ∨ j = 2 ∨ j = 3 ∨ j = 4 ∨ j = 5 ∨ j = 6 ∨ j = 7 ∨ j = 8 ∨ j = 9 ∨ j = 10 ∨ j = 11 ∨ j = 12 ∨ j = 13 ∨ j = 14 ∨ j = 15 ∨ j = 16 ∨ j = 17 ∨ j = 18 ∨ j = 19 ∨ j = 20 ∨ j = 21 ∨ j = 22 ∨ j = 23 ∨ j = 24 ∨ j = 25 ∨ j = 26 ∨ j = 27 ∨ j = 28 by omega) with rfl | rfl | rfl | rfl | rfl | rfl | rfl | rfl | rfl | rfl | rfl | rfl | rfl | rfl | rfl | rfl | rfl | rfl | rfl | rfl | rfl | rfl | rfl | rfl | rfl | rfl | rfl | rfl | rfl <;> rfl) (Nat.le_of_ble_eq_true rfl) (Nat.le_of_ble_eq_true rfl) (fun m hn3 hqn3 e0_n3 e1_n3 e2_n3 => ?_)
  have mm : m ∈ hn3.1 := by rw [e0_n3]; exact List.mem_append_right _ (List.mem_singleton.mpr rfl)
  have grn3 := grk2.tr ((GRp.new hqn3 e0_n3 e2_n3).mono (fun _ z => absurd z List.not_mem_nil))
  have nwm : m ∉ h.1 := fun z => hqn3 (grk2.1 _ z)
  refine r_dup dL_law_11 rfl ?_
  refine k_callI (As := []) (b := m) (rest := [.ref m]) (w := none) (st' := [.ref m]) kv_L_law_154 dL_law_12 rfl rfl (Nat.le_of_ble_eq_true rfl) (Nat.le_of_ble_eq_true rfl) (Nat.le_of_ble_eq_true rfl) (Nat.le_of_ble_eq_true rfl) (c_X12_init hGT hAO mm e1_n3) rfl (fun hk4 e9k4 => ?_)
  obtain ⟨am, hM, nM, nO, gck4⟩ := e9k4
  have grk4 := grn3.off gck4 (fun q z => by rw [List.mem_singleton.mp z]; exact nwm)
  refine r_astore_n (ls' := [(0, .ref b), (1, .ref x), (2, .ref m)]) dL_law_15 (by decide) rfl ?_
  refine i_const (1) dL_law_16 ?_
  refine i_newL 1 rfl (by decide) dL_law_17 (Nat.le_of_ble_eq_true rfl) (Nat.le_of_ble_eq_true rfl) (fun o hn5 hqn5 e0_n5 e1_n5 e2_n5 => ?_)
  have mo : o ∈ hn5.1 := by rw [e0_n5]; exact List.mem_append_right _ (List.mem_singleton.mpr rfl)
  have grn5 := grk4.tr ((GRp.new hqn5 e0_n5 e2_n5).mono (fun _ z => absurd z List.not_mem_nil))
  have nwo : o ∉ h.1 := fun z => hqn5 (grk4.1 _ z)
  refine r_astore_n (ls' := [(0, .ref b), (1, .ref x), (2, .ref m), (3, .ref o)]) dL_law_19 (by decide) rfl ?_
  refine i_const (1) dL_law_20 ?_
  refine i_newD 1 rfl (by decide) dL_law_21 (Nat.le_of_ble_eq_true rfl) (Nat.le_of_ble_eq_true rfl) (fun d hn6 hqn6 e0_n6 e1_n6 e2_n6 => ?_)
  have no_n6 : o ≠ d := fun z => hqn6 (by rw [← z]; exact mo)
  have fo_n6 := (e2_n6 o no_n6).trans e1_n5
  have mo_n6 : o ∈ hn6.1 := by rw [e0_n6]; exact List.mem_append_left _ mo
  have md : d ∈ hn6.1 := by rw [e0_n6]; exact List.mem_append_right _ (List.mem_singleton.mpr rfl)
  have grn6 := grn5.tr ((GRp.new hqn6 e0_n6 e2_n6).mono (fun _ z => absurd z List.not_mem_nil))
  have nwd : d ∉ h.1 := fun z => hqn6 (grn5.1 _ z)
  refine r_astore (ls' := [(0, .ref b), (1, .ref x), (2, .ref m), (3, .ref o), (4, .ref d)]) dL_law_23 (by decide) rfl ?_
  refine i_const (0) dL_law_25 ?_
  refine r_istore (ls' := [(0, .ref b), (1, .ref x), (2, .ref m), (3, .ref o), (4, .ref d), (5, .int (iI 0))]) dL_law_26 (by decide) rfl ?_
  -- heaps: after the class hk2, after the reference hk4
  have g3 : GRp [] hk2 hn3 := GRp.new hqn3 e0_n3 e2_n3
  have g4 : GRp [m] hn3 hk4 := gck4
  have g5 : GRp [] hk4 hn5 := GRp.new hqn5 e0_n5 e2_n5
  have g6 : GRp [] hn5 hn6 := GRp.new hqn6 e0_n6 e2_n6
  have g24 : GRp [] hk2 hk4 := g3.off g4 (fun q z => by rw [mem1 z]; exact hqn3)
  have g26 : GRp [] hk2 hn6 := (g24.tr g5).tr g6
  have hX6 : XB G hn6 K x ad S00 := hX.gr g26 (fun q _ => List.not_mem_nil)
  have hM6 : MB G hn6 sa m am S00 0 := hM.gr (g5.tr g6)
  obtain ⟨mM4, mO4⟩ := hM.mem
  have hDJ : DJW x ad m am o d := by
    refine ⟨fun q hq z => ?_, fun z => nO (g3.1 _ (mX _ z)), ⟨fun z => hqn5 (g24.1 _ (mX _ z)), fun z => hqn5 (mM4 _ z), fun z => hqn5 (by rw [← z]; exact mO4)⟩, ⟨fun z => hqn6 (g5.1 _ (g24.1 _ (mX _ z))), fun z => hqn6 (g5.1 _ (mM4 _ z)), fun z => hqn6 (by rw [← z]; exact g5.1 _ mO4)⟩, ?_⟩
    · rcases nM q z with e | e
      · exact hqn3 (by rw [← e]; exact mX q hq)
      · exact e (g3.1 _ (mX q hq))
    · intro z; exact hqn6 (by rw [← z]; exact mo)
  refine rr_room (law_loop hGC hGT hGE hCA hXs hb hL hz hDJ 0 (Nat.zero_le _) hn6 S00 0 ⟨hX6, hM6, IV.s00, ⟨mo_n6, _, fo_n6⟩, ⟨md, _, e1_n6⟩⟩) (Nat.le_of_ble_eq_true rfl) (Nat.le_of_ble_eq_true rfl)
