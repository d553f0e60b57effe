/-! ===== the world at the law's entry ===== -/
section WORLD
variable {s : State} {b : Nat} {D : va_G} {c : Nat → ClassId}
theorem zz_of {P : (Nat → Prop) → State → Heap → Prop} (hP : x_zok P) (h0 : P (x_A (Gs s D c)) s s.heap) : x_zz (Gs s D c) P := fun _ hu => hu P hP h0
theorem Gs_A : ∀ a : Nat, a < s.heap.size → ¬ x_A (Gs s D c) a := fun _ ha h => Nat.not_le_of_lt ha h
theorem w_bg (hN : HN s b) : ∀ w ∈ bg_L, w.before #[Value.ref b] s = true := fun w hw => hN.1 w (List.mem_filter.mp hw).1
theorem w_En {E d : String} {nm : List String} {F : List (String × String × String × List Int32)} (hN : HN s b) (hl : ∀ i, i < nm.length → Cond.laysStatic E (nm.getD i "") d ∈ lw_tb2) (hi : Cond.initialized E ∈ lw_tb2) (he : ∀ i, i < nm.length → Cond.exactly (.static E (nm.getD i "") d) E ∈ fl)
    (hf : ∀ q ∈ F, ∀ i, i < nm.length → Cond.eq (.field (.static E (nm.getD i "") d) q.1 q.2.1 q.2.2.1) (.int (q.2.2.2.getD i 0)) ∈ fl) (hd : ∀ i j, i < nm.length → j < nm.length → i ≠ j → Cond.not (.eq (.static E (nm.getD i "") d) (.static E (nm.getD j "") d)) ∈ fl ∨ Cond.not (.eq (.static E (nm.getD j "") d) (.static E (nm.getD i "") d)) ∈ fl) :
    ∃ ad : Nat → Nat, x_zz (Gs s D c) (va_En E d nm F ad) ∧ (∀ i j, i < nm.length → j < nm.length → ad i = ad j → i = j) ∧ ∀ i, i < nm.length → (Term.static E (nm.getD i "") d).eval #[Value.ref b] s none [] s = some (.ref (ad i)) := by
  obtain ⟨ad, h1, h2⟩ := va_Enof2 (args := #[Value.ref b]) (s := s) (E := E) (d := d) (nm := nm) (F := F) (A := x_A (Gs s D c)) (fun i h => hN.1 _ (hl i h)) (hN.1 _ hi) (fun i h => hN.2 _ (he i h)) (fun q hq i h => hN.2 _ (hf q hq i h)) (fun i j h9 h8 h7 => (hd i j h9 h8 h7).imp (hN.2 _) (hN.2 _)) Gs_A
  exact ⟨ad, zz_of zok_En h1, h1.2, h2⟩
theorem str_of (hN : HN s b) {tm : Term} {tx : List Int} (hw : ∀ w ∈ strW tm tx, w ∈ fl) (hl : tx.length < 100) : ∃ a w : Nat, tm.eval #[Value.ref b] s none [] s = some (.ref a) ∧ x_zz (Gs s D c) (va_O "java/lang/String" a) ∧ x_zz (Gs s D c) (va_OF "java/lang/String" "coder" "B" (.int (iI 0)) a) ∧ x_zz (Gs s D c) (va_OF "java/lang/String" "value" "[B" (.ref w) a) ∧ x_zz (Gs s D c) (va_T .byte w tx.length (fun j => .int (iI (tx.getD j 0)))) := by
  have m : ∀ w ∈ strW tm tx, w.before #[Value.ref b] s = true := fun w h => hN.2 w (hw w h)
  have hex : (Cond.exactly tm "java/lang/String").before #[Value.ref b] s = true := m _ (List.mem_append_left _ (List.mem_of_getElem? (i := 0) rfl))
  have hco : (Cond.eq (.field tm "java/lang/String" "coder" "B") (.int (iI 0))).before #[Value.ref b] s = true := m _ (List.mem_append_left _ (List.mem_of_getElem? (i := 1) rfl))
  have har : (Cond.arrayOf (.field tm "java/lang/String" "value" "[B") .byte).before #[Value.ref b] s = true := m _ (List.mem_append_left _ (List.mem_of_getElem? (i := 2) rfl))
  have hle : (Cond.eq (.length (.field tm "java/lang/String" "value" "[B")) (.int (Int32.ofNat tx.length))).before #[Value.ref b] s = true := m _ (List.mem_append_left _ (List.mem_of_getElem? (i := 3) rfl))
  have hel : ∀ j : Nat, j < tx.length → (Cond.eq (.elem (.field tm "java/lang/String" "value" "[B") (.int (Int32.ofNat j))) (.int (iI (tx.getD j 0)))).before #[Value.ref b] s = true := fun j hj => m _ (List.mem_append_right _ (List.mem_map.mpr ⟨j, List.mem_range.mpr hj, rfl⟩))
  obtain ⟨a, cx, cA, kA, q1, q2, q3, q4, q5, q6, -⟩ := Cond.exactly_spec (args := #[Value.ref b]) (first := s) (o := none) (s := s) (idx := []) (t := tm) (cls := "java/lang/String") hex
  obtain ⟨t, ht, hT⟩ := va_Tof (f := fun j => .int (iI (tx.getD j 0))) (A := x_A (Gs s D c)) (N := tx.length) (by omega) har (va_eqt hle) (fun j hj => va_eqt (hel j hj)) Gs_A
  exact ⟨a, t, q1, zz_of zok_O ⟨cA, q3, q5, by rw [q6]; exact q2, Gs_A a (Array.getElem?_eq_some_iff.mp q3).1⟩, zz_of zok_OF (vk_OFof q1 (va_eqt hco) Gs_A), zz_of zok_OF (vk_OFof q1 ht Gs_A), zz_of zok_T hT⟩
theorem w_R (hN : HN s b) {own tx : String} {k a : Nat} (h1 : Cond.stringRef own k tx ∈ lw_tb2) (h2 : (Term.string own k).eval #[Value.ref b] s none [] s = some (.ref a)) : x_zz (Gs s D c) (fun _ U _ => vk_R own k tx a U) := zz_of zok_R (vk_R.of (hN.1 _ h1) h2)
theorem w_GAO (hN : HN s b) : GAO (Gs s D c) := ⟨zz_of zok_AO (va_AO.of (hN.1 _ (tb_in 125 (by decide +kernel)))), zz_of zok_AO (va_AO.of (hN.1 _ (tb_in 244 (by decide +kernel)))), zz_of zok_AO (va_AO.of (hN.1 _ (tb_in 102 (by decide +kernel)))), trivial⟩
theorem w_GD (hN : HN s b) : GD (Gs s D c) := by
  unfold GD nestW
  exact List.forall_mem_cons.mpr ⟨zz_of zok_M (va_Nw.of rfl (hN.1 _ (tb_in 47 (by decide +kernel)))), List.forall_mem_cons.mpr ⟨zz_of zok_M (va_Nw.of rfl (hN.1 _ (tb_in 53 (by decide +kernel)))), List.forall_mem_cons.mpr ⟨zz_of zok_M (va_Nw.of rfl (hN.1 _ (tb_in 97 (by decide +kernel)))), List.forall_mem_cons.mpr ⟨zz_of zok_M (va_Nw.of rfl (hN.1 _ (tb_in 127 (by decide +kernel)))), List.forall_mem_cons.mpr ⟨zz_of zok_M (va_Nw.of rfl (hN.1 _ (tb_in 256 (by decide +kernel)))), List.forall_mem_cons.mpr ⟨zz_of zok_M (va_Nw.of rfl (hN.1 _ (tb_in 742 (by decide +kernel)))), List.forall_mem_cons.mpr ⟨zz_of zok_M (va_Nw.of rfl (hN.1 _ (tb_in 755 (by decide +kernel)))), List.forall_mem_cons.mpr ⟨zz_of zok_M (va_Nw.of rfl (hN.1 _ (tb_in 801 (by decide +kernel)))), List.forall_mem_cons.mpr ⟨zz_of zok_M (va_Nw.of rfl (hN.1 _ (tb_in 889 (by decide +kernel)))), List.forall_mem_cons.mpr ⟨zz_of zok_M (va_Nw.of rfl (hN.1 _ (tb_in 899 (by decide +kernel)))), fun _ h => absurd h List.not_mem_nil⟩⟩⟩⟩⟩⟩⟩⟩⟩⟩
theorem w_GS (hN : HN s b) : GS (Gs s D c) := by
  refine ⟨zz_of zok_Z (va_Zof (args := #[Value.ref b]) (hN.1 _ (tb_in 432 (by decide +kernel))) (hN.1 _ (tb_in 21 (by decide +kernel))) (va_eqi (hN.2 _ (fl_in 26 (by decide +kernel)))) Gs_A), ?_⟩
  have h := va_Zqof (A := x_A (Gs s D c)) (args := #[Value.ref b]) (s := s) (C := "jdk/internal/util/Preconditions") (n := "SIOOBE_FORMATTER") (d := "Ljava/util/function/BiFunction;") (hN.1 _ (tb_in 448 (by decide +kernel))) (hN.1 _ (tb_in 27 (by decide +kernel))) (hN.2 _ (fl_in 27 (by decide +kernel))) Gs_A
  rcases h with h | ⟨t, h⟩
  · exact Or.inr (zz_of zok_Z h)
  · exact Or.inl ⟨t, zz_of zok_Z h⟩
set_option maxHeartbeats 2000000 in
theorem w_GCT (hN : HN s b) : ∃ (K : xK) (sa : Nat → Nat), GC (Gs s D c) K sa ∧ GT (Gs s D c) sa := by
  obtain ⟨kR, hkR, ijR, evR⟩ := w_En (D := D) (c := c) (E := "PastryBench$Refusal") (d := "LPastryBench$Refusal;") (nm := nmR) (F := []) hN wl_R (tb_in 35 (by decide +kernel)) we_R (fun _ h => absurd h List.not_mem_nil) wd_R
  obtain ⟨kT, hkT, ijT, evT⟩ := w_En (D := D) (c := c) (E := "PastryBench$TokenKind") (d := "LPastryBench$TokenKind;") (nm := nmT) (F := []) hN wl_T (tb_in 13 (by decide +kernel)) we_T (fun _ h => absurd h List.not_mem_nil) wd_T
  obtain ⟨a0, w0, es0, o0, c0, v0, t0⟩ := str_of (D := D) (c := c) hN wt_0 (by decide +kernel)
  obtain ⟨a1, w1, es1, o1, c1, v1, t1⟩ := str_of (D := D) (c := c) hN wt_1 (by decide +kernel)
  obtain ⟨a2, w2, es2, o2, c2, v2, t2⟩ := str_of (D := D) (c := c) hN wt_2 (by decide +kernel)
  obtain ⟨a3, w3, es3, o3, c3, v3, t3⟩ := str_of (D := D) (c := c) hN wt_3 (by decide +kernel)
  refine ⟨(kR, kT, fun _ => 0, 0, 0), fun k => ([a0, a1, a2, a3] : List Nat).getD k 0, ⟨⟨w_GD hN, ⟨hkR, ijR⟩, ⟨hkT, ijT⟩, trivial⟩, trivial⟩, w_GS hN, fun i hi => ?_, ?_⟩
  · rcases (show i = 0 ∨ i = 1 ∨ i = 2 ∨ i = 3 by omega) with rfl | rfl | rfl | rfl
    · exact ⟨⟨w0, o0, c0, v0, t0⟩, by decide +kernel, by decide +kernel⟩
    · exact ⟨⟨w1, o1, c1, v1, t1⟩, by decide +kernel, by decide +kernel⟩
    · exact ⟨⟨w2, o2, c2, v2, t2⟩, by decide +kernel, by decide +kernel⟩
    · exact ⟨⟨w3, o3, c3, v3, t3⟩, by decide +kernel, by decide +kernel⟩
  · unfold ldcW
    exact List.forall_mem_cons.mpr ⟨w_R hN (tb_in 492 (by decide +kernel)) es0, List.forall_mem_cons.mpr ⟨w_R hN (tb_in 414 (by decide +kernel)) es1, List.forall_mem_cons.mpr ⟨w_R hN (tb_in 502 (by decide +kernel)) es2, List.forall_mem_cons.mpr ⟨w_R hN (tb_in 503 (by decide +kernel)) es3, fun _ h => absurd h List.not_mem_nil⟩⟩⟩⟩
set_option maxHeartbeats 2000000 in
theorem w_GTL (hN : HN s b) : ∃ ta : Nat → Nat, GTL (Gs s D c) ta := by
  obtain ⟨a0, w0, es0, o0, c0, v0, t0⟩ := str_of (D := D) (c := c) hN wt_4 (by decide +kernel)
  obtain ⟨a1, w1, es1, o1, c1, v1, t1⟩ := str_of (D := D) (c := c) hN wt_5 (by decide +kernel)
  obtain ⟨a2, w2, es2, o2, c2, v2, t2⟩ := str_of (D := D) (c := c) hN wt_6 (by decide +kernel)
  obtain ⟨a3, w3, es3, o3, c3, v3, t3⟩ := str_of (D := D) (c := c) hN wt_7 (by decide +kernel)
  refine ⟨fun k => ([a0, a1, a2, a3] : List Nat).getD k 0, fun i hi => ?_, ?_⟩
  · rcases (show i = 0 ∨ i = 1 ∨ i = 2 ∨ i = 3 by omega) with rfl | rfl | rfl | rfl
    · exact ⟨⟨w0, o0, c0, v0, t0⟩, by decide +kernel, by decide +kernel⟩
    · exact ⟨⟨w1, o1, c1, v1, t1⟩, by decide +kernel, by decide +kernel⟩
    · exact ⟨⟨w2, o2, c2, v2, t2⟩, by decide +kernel, by decide +kernel⟩
    · exact ⟨⟨w3, o3, c3, v3, t3⟩, by decide +kernel, by decide +kernel⟩
  · unfold ldcL
    exact List.forall_mem_cons.mpr ⟨w_R hN (tb_in 1288 (by decide +kernel)) es0, List.forall_mem_cons.mpr ⟨w_R hN (tb_in 1289 (by decide +kernel)) es1, List.forall_mem_cons.mpr ⟨w_R hN (tb_in 1290 (by decide +kernel)) es2, List.forall_mem_cons.mpr ⟨w_R hN (tb_in 1291 (by decide +kernel)) es3, fun _ h => absurd h List.not_mem_nil⟩⟩⟩⟩
theorem w_GN (hN : HN s b) : GN (Gs s D c) := by
  obtain ⟨d_o, e_o, t_o⟩ := va_Tof (args := #[Value.ref b]) (s := s) (tm := (.static "java/lang/Integer" "DigitOnes" "[B")) (ty := .byte) (N := 100) (f := fun j => .int (iI (48 + (j : Int) % 10))) (A := x_A (Gs s D c)) (by decide) (hN.2 _ (fl_in 66 (by decide +kernel))) (va_eqt (hN.2 _ (fl_in 67 (by decide +kernel)))) (fun j hj => va_eqt (hN.2 _ (wg_o j hj))) Gs_A
  obtain ⟨d_t, e_t, t_t⟩ := va_Tof (args := #[Value.ref b]) (s := s) (tm := (.static "java/lang/Integer" "DigitTens" "[B")) (ty := .byte) (N := 100) (f := fun j => .int (iI (48 + (j : Int) / 10))) (A := x_A (Gs s D c)) (by decide) (hN.2 _ (fl_in 169 (by decide +kernel))) (va_eqt (hN.2 _ (fl_in 170 (by decide +kernel)))) (fun j hj => va_eqt (hN.2 _ (wg_t j hj))) Gs_A
  exact ⟨⟨d_o, zz_of zok_Z (va_Zref (args := #[Value.ref b]) (hN.1 _ (tb_in 1220 (by decide +kernel))) (hN.1 _ (tb_in 29 (by decide +kernel))) e_o Gs_A), zz_of zok_T t_o⟩, ⟨d_t, zz_of zok_Z (va_Zref (args := #[Value.ref b]) (hN.1 _ (tb_in 1222 (by decide +kernel))) (hN.1 _ (tb_in 29 (by decide +kernel))) e_t Gs_A), zz_of zok_T t_t⟩⟩
theorem arr_of {cA comp : ClassId} {k : Class} {ty : FieldType} (hk : s.vm.classes[cA]? = some k) (hkind : k.kind = .array comp ty) : ArrOfT s cA ty := fun _ _ => ⟨(fun _ h => by cases h), k, hk, comp, hkind⟩
theorem w_ao {C : String} (h : (Cond.arrayOver (.object C)).before #[Value.ref b] s = true) : ∃ cA : ClassId, ArrOfT s cA (.object C) ∧ va_RA s cA (.object C) := by
  obtain ⟨comp, cA, k, h1, h2, h3, h4, h5⟩ := Cond.arrayOver_spec h
  exact ⟨cA, arr_of h3 h4, k, comp, h3, h4, h1, h5⟩
theorem w_ac {ty : FieldType} (h : (Cond.arrayClass ty).before #[Value.ref b] s = true) : ∃ cA : ClassId, ArrOfT s cA ty ∧ s.vm.findClass ("[" ++ ty.toString) = some cA := by
  obtain ⟨cA, k, comp, h1, h2, h3⟩ := Cond.arrayClass_spec h
  exact ⟨cA, arr_of h2 h3, h1⟩
set_option maxHeartbeats 1000000 in
theorem w_K (hN : HN s b) : ∃ (D : va_G) (c : Nat → ClassId), va_K D vwCl (x_tys c) s ∧ s.vm.findClass "[B" = some (c 2) := by
  obtain ⟨d0, i0, hK0⟩ := u_known (w_bg hN) cl_X1.2.1 (w_bg hN _ kn_X1)
  obtain ⟨d1, i1, hK1⟩ := u_known (w_bg hN) cl_X3.2.1 (w_bg hN _ kn_X3)
  obtain ⟨d2, i2, hK2⟩ := u_known (w_bg hN) cl_X4.2.1 (w_bg hN _ kn_X4)
  obtain ⟨d3, i3, hK3⟩ := u_known (w_bg hN) cl_X5.2.1 (w_bg hN _ kn_X5)
  obtain ⟨d4, i4, hK4⟩ := u_known (w_bg hN) cl_X7.2.1 (w_bg hN _ kn_X7)
  obtain ⟨d5, i5, hK5⟩ := u_known (w_bg hN) cl_X8.2.1 (w_bg hN _ kn_X8)
  obtain ⟨d6, i6, hK6⟩ := u_known (w_bg hN) cl_X10.2.1 (w_bg hN _ kn_X10)
  obtain ⟨d7, i7, hK7⟩ := u_known (w_bg hN) cl_X11.2.1 (w_bg hN _ kn_X11)
  obtain ⟨d8, i8, hK8⟩ := u_known (w_bg hN) cl_J0.2.1 (w_bg hN _ kn_J0)
  obtain ⟨d9, i9, hK9⟩ := u_known (w_bg hN) cl_J4.2.1 (w_bg hN _ kn_J4)
  obtain ⟨c0, ha0, hr0⟩ := w_ac (ty := .int) (hN.1 _ (tb_in 81 (by decide +kernel)))
  obtain ⟨c1, ha1, hr1⟩ := w_ac (ty := .boolean) (hN.1 _ (tb_in 173 (by decide +kernel)))
  obtain ⟨c2, ha2, hr2⟩ := w_ac (ty := .byte) (hN.1 _ (tb_in 372 (by decide +kernel)))
  obtain ⟨c4, ha4, hr4⟩ := w_ao (C := "PastryBench$Sheet") (hN.1 _ (tb_in 125 (by decide +kernel)))
  obtain ⟨c5, ha5, hr5⟩ := w_ao (C := "PastryBench$Bench") (hN.1 _ (tb_in 244 (by decide +kernel)))
  obtain ⟨c6, ha6, hr6⟩ := w_ao (C := "PastryBench$Command") (hN.1 _ (tb_in 102 (by decide +kernel)))
  refine ⟨(fun k => ([d0, d1, d2, d3, d4, d5, d6, d7, d8, d9] : List ClassId).getD k 0, fun k => ([i0, i1, i2, i3, i4, i5, i6, i7, i8, i9] : List (Nat → Nat)).getD k (fun _ => 0)), fun k => ([c0, c1, c2, c2, c4, c5, c6] : List ClassId).getD k 0, ⟨fun k q hq => ?_, fun k q hq => ?_⟩, ?_⟩
  · by_cases hk : k < 10
    · rcases (show k = 0 ∨ k = 1 ∨ k = 2 ∨ k = 3 ∨ k = 4 ∨ k = 5 ∨ k = 6 ∨ k = 7 ∨ k = 8 ∨ k = 9 by omega) with rfl | rfl | rfl | rfl | rfl | rfl | rfl | rfl | rfl | rfl
      · obtain rfl : (RX1, TX1, 8) = q := Option.some.inj hq
        exact hK0
      · obtain rfl : (RX3, TX3, 2) = q := Option.some.inj hq
        exact hK1
      · obtain rfl : (RX4, TX4, 2) = q := Option.some.inj hq
        exact hK2
      · obtain rfl : (RX5, TX5, 4) = q := Option.some.inj hq
        exact hK3
      · obtain rfl : (RX7, TX7, 4) = q := Option.some.inj hq
        exact hK4
      · obtain rfl : (RX8, TX8, 9) = q := Option.some.inj hq
        exact hK5
      · obtain rfl : (RX10, TX10, 6) = q := Option.some.inj hq
        exact hK6
      · obtain rfl : (RX11, TX11, 10) = q := Option.some.inj hq
        exact hK7
      · obtain rfl : (RJ0, TJ0, 4) = q := Option.some.inj hq
        exact hK8
      · obtain rfl : (RJ4, TJ4, 4) = q := Option.some.inj hq
        exact hK9
    · rw [List.getElem?_eq_none (Nat.le_of_not_lt hk)] at hq
      cases hq
  · by_cases hk : k < 7
    · rcases (show k = 0 ∨ k = 1 ∨ k = 2 ∨ k = 3 ∨ k = 4 ∨ k = 5 ∨ k = 6 by omega) with rfl | rfl | rfl | rfl | rfl | rfl | rfl
      · obtain rfl : ((c0, .int) : ClassId × FieldType) = q := Option.some.inj hq
        exact ⟨ha0, hr0⟩
      · obtain rfl : ((c1, .boolean) : ClassId × FieldType) = q := Option.some.inj hq
        exact ⟨ha1, hr1⟩
      · obtain rfl : ((c2, .byte) : ClassId × FieldType) = q := Option.some.inj hq
        exact ⟨ha2, hr2⟩
      · obtain rfl : ((c2, .byte) : ClassId × FieldType) = q := Option.some.inj hq
        exact ⟨ha2, hr2⟩
      · obtain rfl : ((c4, .object "PastryBench$Sheet") : ClassId × FieldType) = q := Option.some.inj hq
        exact ⟨ha4, hr4⟩
      · obtain rfl : ((c5, .object "PastryBench$Bench") : ClassId × FieldType) = q := Option.some.inj hq
        exact ⟨ha5, hr5⟩
      · obtain rfl : ((c6, .object "PastryBench$Command") : ClassId × FieldType) = q := Option.some.inj hq
        exact ⟨ha6, hr6⟩
    · rw [List.getElem?_eq_none (Nat.le_of_not_lt hk)] at hq
      cases hq
  · have e : "[" ++ FieldType.byte.toString = "[B" := by decide +kernel
    rw [e] at hr2
    exact hr2
theorem w_GB (hN : HN s b) (hB : s.vm.findClass "[B" = some (c 2)) : GB (Gs s D c) := ⟨zz_of zok_fc hB, zz_of zok_C (va_Nw.of rfl (hN.1 _ (tb_in 1120 (by decide +kernel))))⟩
theorem w_X {L : Nat} {xs : Nat → Int32} (hX : va_X b L xs s s.heap) (hb : b < s.heap.size) : x_zz (Gs s D c) (fun _ U H => va_X b L xs U H) := fun u hu => (zz_of (P := fun A U H => va_X b L xs U H ∧ ¬ A b) zok_X ⟨hX, Gs_A b hb⟩ u hu).1
end WORLD
