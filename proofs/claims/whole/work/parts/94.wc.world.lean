/-! ===== the world at the law's entry ===== -/
section WORLD
variable {s : State} {b : Nat} {D : va_G} {c : Nat → ClassId}
theorem zz_of {P : (Nat → Prop) → State → Heap → Prop} (hP : x_zok P) (h0 : P (x_A (Gs s D c)) s s.heap) : x_zz (Gs s D c) P := fun _ hu => hu P hP h0
theorem Gs_A : ∀ a : Nat, a < s.heap.size → ¬ x_A (Gs s D c) a := fun _ ha h => Nat.not_le_of_lt ha h
theorem w_bg (hN : HN s b) : ∀ w ∈ bg_L, w.before #[Value.ref b] s = true := fun w hw => hN.1 w (List.mem_filter.mp hw).1
theorem w_En {E d : String} {nm : List String} {F : List (String × String × String × List Int32)} (hN : HN s b) (hl : ∀ i, i < nm.length → Cond.laysStatic E (nm.getD i "") d ∈ lw_tbl) (hi : Cond.initialized E ∈ lw_tbl) (he : ∀ i, i < nm.length → Cond.exactly (.static E (nm.getD i "") d) E ∈ fl)
    (hf : ∀ q ∈ F, ∀ i, i < nm.length → Cond.eq (.field (.static E (nm.getD i "") d) q.1 q.2.1 q.2.2.1) (.int (q.2.2.2.getD i 0)) ∈ fl) (hd : ∀ i j, i < nm.length → j < nm.length → i ≠ j → Cond.not (.eq (.static E (nm.getD i "") d) (.static E (nm.getD j "") d)) ∈ fl ∨ Cond.not (.eq (.static E (nm.getD j "") d) (.static E (nm.getD i "") d)) ∈ fl) :
    ∃ ad : Nat → Nat, x_zz (Gs s D c) (va_En E d nm F ad) ∧ (∀ i j, i < nm.length → j < nm.length → ad i = ad j → i = j) ∧ ∀ i, i < nm.length → (Term.static E (nm.getD i "") d).eval #[Value.ref b] s none [] s = some (.ref (ad i)) := by
  obtain ⟨ad, h1, h2⟩ := va_Enof2 (args := #[Value.ref b]) (s := s) (E := E) (d := d) (nm := nm) (F := F) (A := x_A (Gs s D c)) (fun i h => hN.1 _ (hl i h)) (hN.1 _ hi) (fun i h => hN.2 _ (he i h)) (fun q hq i h => hN.2 _ (hf q hq i h)) (fun i j h9 h8 h7 => (hd i j h9 h8 h7).imp (hN.2 _) (hN.2 _)) Gs_A
  exact ⟨ad, zz_of zok_En h1, h1.2, h2⟩
theorem w_Cm (hN : HN s b) : ∃ ad : Nat → Nat, (∀ i, i < 9 → x_zz (Gs s D c) (va_O "PastryBench$Command" (ad i)) ∧ ∀ q ∈ enC, x_zz (Gs s D c) (va_OF q.1 q.2.1 q.2.2.1 (.int (q.2.2.2.getD i 0)) (ad i))) ∧ ∀ i, i < 9 → (Term.static "PastryBench$Command" (nmC.getD i "") "LPastryBench$Command;").eval #[Value.ref b] s none [] s = some (.ref (ad i)) := by
  have hf : ∀ q ∈ enC, ∀ i, i < 9 → Cond.eq (.field (.static "PastryBench$Command" (nmC.getD i "") "LPastryBench$Command;") q.1 q.2.1 q.2.2.1) (.int (q.2.2.2.getD i 0)) ∈ fl := List.forall_mem_cons.mpr ⟨wf_0, List.forall_mem_cons.mpr ⟨wf_1, List.forall_mem_cons.mpr ⟨wf_2, List.forall_mem_cons.mpr ⟨wf_3, List.forall_mem_cons.mpr ⟨wf_4, List.forall_mem_cons.mpr ⟨wf_5, fun _ h => absurd h List.not_mem_nil⟩⟩⟩⟩⟩⟩
  have h0 : ∀ i : Nat, ∃ t : Nat, i < 9 → (Term.static "PastryBench$Command" (nmC.getD i "") "LPastryBench$Command;").eval #[Value.ref b] s none [] s = some (.ref t) ∧ x_zz (Gs s D c) (va_O "PastryBench$Command" t) := by
    intro i
    by_cases hi : i < 9
    · obtain ⟨a, cx, cell, k, q1, q2, q3, q4, q5, q6, -⟩ := Cond.exactly_spec (args := #[Value.ref b]) (first := s) (o := none) (s := s) (idx := []) (hN.2 _ (we_C i hi))
      exact ⟨a, fun _ => ⟨q1, zz_of zok_O ⟨cell, q3, q5, by rw [q6]; exact q2, Gs_A a (Array.getElem?_eq_some_iff.mp q3).1⟩⟩⟩
    · exact ⟨0, fun h => absurd h hi⟩
  obtain ⟨ad, had⟩ := Classical.axiomOfChoice h0
  exact ⟨ad, fun i hi => ⟨(had i hi).2, fun q hq => zz_of zok_OF (vk_OFof (had i hi).1 (va_eqt (hN.2 _ (hf q hq i hi))) Gs_A)⟩, fun i hi => (had i hi).1⟩
theorem str_of (hN : HN s b) {tm : Term} {tx : List Int} (hw : ∀ w ∈ strW tm tx, w ∈ fl) (hl : tx.length < 100) : ∃ a w : Nat, tm.eval #[Value.ref b] s none [] s = some (.ref a) ∧ x_zz (Gs s D c) (va_O "java/lang/String" a) ∧ x_zz (Gs s D c) (va_OF "java/lang/String" "coder" "B" (.int (iI 0)) a) ∧ x_zz (Gs s D c) (va_OF "java/lang/String" "value" "[B" (.ref w) a) ∧ x_zz (Gs s D c) (va_T .byte w tx.length (fun j => .int (iI (tx.getD j 0)))) := by
  have m : ∀ w ∈ strW tm tx, w.before #[Value.ref b] s = true := fun w h => hN.2 w (hw w h)
  have hex : (Cond.exactly tm "java/lang/String").before #[Value.ref b] s = true := m _ (List.mem_append_left _ (List.mem_of_getElem? (i := 0) rfl))
  have hco : (Cond.eq (.field tm "java/lang/String" "coder" "B") (.int (iI 0))).before #[Value.ref b] s = true := m _ (List.mem_append_left _ (List.mem_of_getElem? (i := 1) rfl))
  have har : (Cond.arrayOf (.field tm "java/lang/String" "value" "[B") .byte).before #[Value.ref b] s = true := m _ (List.mem_append_left _ (List.mem_of_getElem? (i := 2) rfl))
  have hle : (Cond.eq (.length (.field tm "java/lang/String" "value" "[B")) (.int (Int32.ofNat tx.length))).before #[Value.ref b] s = true := m _ (List.mem_append_left _ (List.mem_of_getElem? (i := 3) rfl))
  have hel : ∀ j : Nat, j < tx.length → (Cond.eq (.elem (.field tm "java/lang/String" "value" "[B") (.int (Int32.ofNat j))) (.int (iI (tx.getD j 0)))).before #[Value.ref b] s = true := fun j hj => m _ (List.mem_append_right _ (List.mem_map.mpr ⟨j, List.mem_range.mpr hj, rfl⟩))
  obtain ⟨a, cx, cA, kA, q1, q2, q3, q4, q5, q6, -⟩ := Cond.exactly_spec (args := #[Value.ref b]) (first := s) (o := none) (s := s) (idx := []) (t := tm) (cls := "java/lang/String") hex
  obtain ⟨t, ht, hT⟩ := va_Tof (f := fun j => .int (iI (tx.getD j 0))) (A := x_A (Gs s D c)) (N := tx.length) (by omega) har (va_eqt hle) (fun j hj => va_eqt (hel j hj)) Gs_A
  exact ⟨a, t, q1, zz_of zok_O ⟨cA, q3, q5, by rw [q6]; exact q2, Gs_A a (Array.getElem?_eq_some_iff.mp q3).1⟩, zz_of zok_OF (vk_OFof q1 (va_eqt hco) Gs_A), zz_of zok_OF (vk_OFof q1 ht Gs_A), zz_of zok_T hT⟩
theorem w_R (hN : HN s b) {own tx : String} {k a : Nat} (h1 : Cond.stringRef own k tx ∈ lw_tbl) (h2 : (Term.string own k).eval #[Value.ref b] s none [] s = some (.ref a)) : x_zz (Gs s D c) (fun _ U _ => vk_R own k tx a U) := zz_of zok_R (vk_R.of (hN.1 _ h1) h2)
theorem w_msg (hN : HN s b) {own tx : String} {k : Nat} (h1 : Cond.stringRef own k tx ∈ lw_tbl) (h2 : Cond.exactly (.string own k) "java/lang/String" ∈ fl) : ∃ q : Nat, x_zz (Gs s D c) (fun _ U _ => vk_R own k tx q U) := by
  obtain ⟨a, cx, cA, kA, q1, -⟩ := Cond.exactly_spec (args := #[Value.ref b]) (first := s) (o := none) (s := s) (idx := []) (t := .string own k) (cls := "java/lang/String") (hN.2 _ h2)
  exact ⟨a, w_R hN h1 q1⟩
theorem w_ex (hN : HN s b) {i : Nat} {E : String} (h1 : ∀ w ∈ vx_atS RX11 i E nmX, (goodWord w || (w.onTables && w.faceAtom)) = true) (h2 : ∀ w ∈ vx_atS RX11 i E nmX, w ∈ lw_tbl) (h3 : ∀ w ∈ vx_atS RX11 i E nmX, vx_ot w = true) : x_zz (Gs s D c) (fun _ U _ => ∀ w ∈ vx_atS RX11 i E nmX, w.before #[] U = true) :=
  zz_of (zok_ex h1) (fun w hw => vx_ot_at (State.WarmedH.refl s) rfl (h3 w hw) (hN.1 w (h2 w hw)))
theorem w_GE (hN : HN s b) : GE (Gs s D c) := by
  refine ⟨?_, ?_, ?_, ?_⟩
  · exact List.forall_mem_cons.mpr ⟨w_ex hN exw_I exl_I exg_I, List.forall_mem_cons.mpr ⟨w_ex hN exw_A exl_A exg_A, List.forall_mem_cons.mpr ⟨w_ex hN exw_S exl_S exg_S, fun _ h => absurd h List.not_mem_nil⟩⟩⟩
  · exact zz_of zok_Zq (vx_Zqof (args := #[Value.ref b]) (hN.1 _ (tb_in 485 (by decide +kernel))) (hN.1 _ (tb_in 86 (by decide +kernel))) (hN.2 _ (fl_in 6 (by decide +kernel))) Gs_A)
  · exact zz_of zok_Zq (vx_Zqof (args := #[Value.ref b]) (hN.1 _ (tb_in 487 (by decide +kernel))) (hN.1 _ (tb_in 86 (by decide +kernel))) (hN.2 _ (fl_in 7 (by decide +kernel))) Gs_A)
  · unfold msgW
    exact List.forall_mem_cons.mpr ⟨w_msg hN (tb_in 938 (by decide +kernel)) (fl_in 517 (by decide +kernel)), List.forall_mem_cons.mpr ⟨w_msg hN (tb_in 1310 (by decide +kernel)) (fl_in 584 (by decide +kernel)), List.forall_mem_cons.mpr ⟨w_msg hN (tb_in 1318 (by decide +kernel)) (fl_in 600 (by decide +kernel)), List.forall_mem_cons.mpr ⟨w_msg hN (tb_in 1330 (by decide +kernel)) (fl_in 619 (by decide +kernel)), List.forall_mem_cons.mpr ⟨w_msg hN (tb_in 499 (by decide +kernel)) (fl_in 370 (by decide +kernel)), List.forall_mem_cons.mpr ⟨w_msg hN (tb_in 687 (by decide +kernel)) (fl_in 448 (by decide +kernel)), List.forall_mem_cons.mpr ⟨w_msg hN (tb_in 715 (by decide +kernel)) (fl_in 465 (by decide +kernel)), List.forall_mem_cons.mpr ⟨w_msg hN (tb_in 858 (by decide +kernel)) (fl_in 482 (by decide +kernel)), List.forall_mem_cons.mpr ⟨w_msg hN (tb_in 992 (by decide +kernel)) (fl_in 539 (by decide +kernel)), List.forall_mem_cons.mpr ⟨w_msg hN (tb_in 1003 (by decide +kernel)) (fl_in 564 (by decide +kernel)), fun _ h => absurd h List.not_mem_nil⟩⟩⟩⟩⟩⟩⟩⟩⟩⟩
theorem w_GCA (hN : HN s b) : GCA (Gs s D c) := ⟨List.forall_mem_cons.mpr ⟨zz_of zok_C (va_Nw.of rfl (hN.1 _ (tb_in 680 (by decide +kernel)))), List.forall_mem_cons.mpr ⟨zz_of zok_C (va_Nw.of rfl (hN.1 _ (tb_in 460 (by decide +kernel)))), List.forall_mem_cons.mpr ⟨zz_of zok_C (va_Nw.of rfl (hN.1 _ (tb_in 996 (by decide +kernel)))), fun _ h => absurd h List.not_mem_nil⟩⟩⟩, List.forall_mem_cons.mpr ⟨zz_of zok_Nc (va_Nc.of (hN.2 _ (fl_in 290 (by decide +kernel)))), List.forall_mem_cons.mpr ⟨zz_of zok_Nc (va_Nc.of (hN.2 _ (fl_in 319 (by decide +kernel)))), List.forall_mem_cons.mpr ⟨zz_of zok_Nc (va_Nc.of (hN.2 _ (fl_in 304 (by decide +kernel)))), List.forall_mem_cons.mpr ⟨zz_of zok_Nc (va_Nc.of (hN.2 _ (fl_in 318 (by decide +kernel)))), List.forall_mem_cons.mpr ⟨zz_of zok_Nc (va_Nc.of (hN.2 _ (fl_in 306 (by decide +kernel)))), List.forall_mem_cons.mpr ⟨zz_of zok_Nc (va_Nc.of (hN.2 _ (fl_in 292 (by decide +kernel)))), fun _ h => absurd h List.not_mem_nil⟩⟩⟩⟩⟩⟩⟩
theorem w_GAO (hN : HN s b) : GAO (Gs s D c) := ⟨zz_of zok_AO (va_AO.of (hN.1 _ (tb_in 192 (by decide +kernel)))), zz_of zok_AO (va_AO.of (hN.1 _ (tb_in 314 (by decide +kernel)))), zz_of zok_AO (va_AO.of (hN.1 _ (tb_in 167 (by decide +kernel)))), zz_of zok_AO (va_AO.of (hN.1 _ (tb_in 1338 (by decide +kernel))))⟩
theorem w_GD (hN : HN s b) : GD (Gs s D c) := by
  unfold GD nestW
  exact List.forall_mem_cons.mpr ⟨zz_of zok_M (va_Nw.of rfl (hN.1 _ (tb_in 110 (by decide +kernel)))), List.forall_mem_cons.mpr ⟨zz_of zok_M (va_Nw.of rfl (hN.1 _ (tb_in 116 (by decide +kernel)))), List.forall_mem_cons.mpr ⟨zz_of zok_M (va_Nw.of rfl (hN.1 _ (tb_in 162 (by decide +kernel)))), List.forall_mem_cons.mpr ⟨zz_of zok_M (va_Nw.of rfl (hN.1 _ (tb_in 194 (by decide +kernel)))), List.forall_mem_cons.mpr ⟨zz_of zok_M (va_Nw.of rfl (hN.1 _ (tb_in 326 (by decide +kernel)))), List.forall_mem_cons.mpr ⟨zz_of zok_M (va_Nw.of rfl (hN.1 _ (tb_in 863 (by decide +kernel)))), List.forall_mem_cons.mpr ⟨zz_of zok_M (va_Nw.of rfl (hN.1 _ (tb_in 943 (by decide +kernel)))), List.forall_mem_cons.mpr ⟨zz_of zok_M (va_Nw.of rfl (hN.1 _ (tb_in 947 (by decide +kernel)))), List.forall_mem_cons.mpr ⟨zz_of zok_M (va_Nw.of rfl (hN.1 _ (tb_in 976 (by decide +kernel)))), List.forall_mem_cons.mpr ⟨zz_of zok_M (va_Nw.of rfl (hN.1 _ (tb_in 1027 (by decide +kernel)))), fun _ h => absurd h List.not_mem_nil⟩⟩⟩⟩⟩⟩⟩⟩⟩⟩
theorem w_GS (hN : HN s b) : GS (Gs s D c) := by
  refine ⟨zz_of zok_Z (va_Zof (args := #[Value.ref b]) (hN.1 _ (tb_in 585 (by decide +kernel))) (hN.1 _ (tb_in 91 (by decide +kernel))) (va_eqi (hN.2 _ (fl_in 26 (by decide +kernel)))) Gs_A), ?_⟩
  have h := va_Zqof (A := x_A (Gs s D c)) (args := #[Value.ref b]) (s := s) (C := "jdk/internal/util/Preconditions") (n := "SIOOBE_FORMATTER") (d := "Ljava/util/function/BiFunction;") (hN.1 _ (tb_in 601 (by decide +kernel))) (hN.1 _ (tb_in 93 (by decide +kernel))) (hN.2 _ (fl_in 27 (by decide +kernel))) Gs_A
  rcases h with h | ⟨t, h⟩
  · exact Or.inr (zz_of zok_Z h)
  · exact Or.inl ⟨t, zz_of zok_Z h⟩
set_option maxHeartbeats 2000000 in
theorem w_GCT (hN : HN s b) : ∃ (K : xK) (sa : Nat → Nat), GC (Gs s D c) K sa ∧ GT (Gs s D c) sa := by
  obtain ⟨kR, hkR, ijR, evR⟩ := w_En (D := D) (c := c) (E := "PastryBench$Refusal") (d := "LPastryBench$Refusal;") (nm := nmR) (F := []) hN wl_R (tb_in 97 (by decide +kernel)) we_R (fun _ h => absurd h List.not_mem_nil) wd_R
  obtain ⟨kT, hkT, ijT, evT⟩ := w_En (D := D) (c := c) (E := "PastryBench$TokenKind") (d := "LPastryBench$TokenKind;") (nm := nmT) (F := []) hN wl_T (tb_in 79 (by decide +kernel)) we_T (fun _ h => absurd h List.not_mem_nil) wd_T
  obtain ⟨kC, hkC, evC⟩ := w_Cm (D := D) (c := c) hN
  obtain ⟨a0, w0, es0, o0, c0, v0, t0⟩ := str_of (D := D) (c := c) hN wt_0 (by decide +kernel)
  obtain ⟨a1, w1, es1, o1, c1, v1, t1⟩ := str_of (D := D) (c := c) hN wt_1 (by decide +kernel)
  obtain ⟨a2, w2, es2, o2, c2, v2, t2⟩ := str_of (D := D) (c := c) hN wt_2 (by decide +kernel)
  obtain ⟨a3, w3, es3, o3, c3, v3, t3⟩ := str_of (D := D) (c := c) hN wt_3 (by decide +kernel)
  obtain ⟨a4, w4, es4, o4, c4, v4, t4⟩ := str_of (D := D) (c := c) hN wt_4 (by decide +kernel)
  obtain ⟨a5, w5, es5, o5, c5, v5, t5⟩ := str_of (D := D) (c := c) hN wt_5 (by decide +kernel)
  obtain ⟨a6, w6, es6, o6, c6, v6, t6⟩ := str_of (D := D) (c := c) hN wt_6 (by decide +kernel)
  obtain ⟨a7, w7, es7, o7, c7, v7, t7⟩ := str_of (D := D) (c := c) hN wt_7 (by decide +kernel)
  obtain ⟨a8, w8, es8, o8, c8, v8, t8⟩ := str_of (D := D) (c := c) hN wt_8 (by decide +kernel)
  obtain ⟨a9, w9, es9, o9, c9, v9, t9⟩ := str_of (D := D) (c := c) hN wt_9 (by decide +kernel)
  obtain ⟨a10, w10, es10, o10, c10, v10, t10⟩ := str_of (D := D) (c := c) hN wt_10 (by decide +kernel)
  obtain ⟨a11, w11, es11, o11, c11, v11, t11⟩ := str_of (D := D) (c := c) hN wt_11 (by decide +kernel)
  obtain ⟨a12, w12, es12, o12, c12, v12, t12⟩ := str_of (D := D) (c := c) hN wt_12 (by decide +kernel)
  obtain ⟨kM, eM, tM⟩ := va_Tof (args := #[Value.ref b]) (s := s) (tm := (.static "PastryBench" "COMMANDS" "[LPastryBench$Command;")) (ty := .object "PastryBench$Command") (N := 9) (f := fun j => .ref (kC j)) (A := x_A (Gs s D c)) (by decide) (hN.2 _ (fl_in 67 (by decide +kernel))) (va_eqt (hN.2 _ (fl_in 68 (by decide +kernel)))) (fun j hj => va_eqv (hN.2 _ (wc_el j hj)) (evC j hj)) Gs_A
  obtain ⟨kS, eS9, tS⟩ := va_Tof (args := #[Value.ref b]) (s := s) (tm := (.static "PastryBench$1" "$SwitchMap$PastryBench$Command" "[I")) (ty := .int) (N := 9) (f := fun j => .int (iI (swV j))) (A := x_A (Gs s D c)) (by decide) (hN.2 _ (fl_in 80 (by decide +kernel))) (va_eqt (hN.2 _ (fl_in 81 (by decide +kernel)))) (fun j hj => va_eqt (hN.2 _ (ws_el j hj))) Gs_A
  have esM : ∀ i, i < 9 → (Term.string "PastryBenchModel" (mwK i)).eval #[Value.ref b] s none [] s = some (.ref (([a0, a1, a2, a3, a4, a5, a6, a7, a8, a9, a10, a11, a12] : List Nat).getD (4 + i) 0)) := by
    intro i hi
    rcases (show i = 0 ∨ i = 1 ∨ i = 2 ∨ i = 3 ∨ i = 4 ∨ i = 5 ∨ i = 6 ∨ i = 7 ∨ i = 8 by omega) with rfl | rfl | rfl | rfl | rfl | rfl | rfl | rfl | rfl
    · exact es4
    · exact es5
    · exact es6
    · exact es7
    · exact es8
    · exact es9
    · exact es10
    · exact es11
    · exact es12
  refine ⟨(kR, kT, kC, kM, kS), fun k => ([a0, a1, a2, a3, a4, a5, a6, a7, a8, a9, a10, a11, a12] : List Nat).getD k 0, ⟨⟨w_GD hN, ⟨hkR, ijR⟩, ⟨hkT, ijT⟩, hkC⟩, fun k hk => ?_, ?_, ?_, ?_, ?_, ?_⟩, w_GS hN, fun i hi => ?_, ?_⟩
  · exact zz_of zok_OF (vk_OFof (evC k hk) (va_eqv (hN.2 _ (wf_w k hk)) (va_eqR (hN.2 _ (wf_m k hk)) (esM k hk))) Gs_A)
  · exact zz_of zok_Z (va_Zref (args := #[Value.ref b]) (hN.1 _ (tb_in 1241 (by decide +kernel))) (hN.1 _ (tb_in 75 (by decide +kernel))) eM Gs_A)
  · exact zz_of zok_T tM
  · exact zz_of zok_Z (va_Zref (args := #[Value.ref b]) (hN.1 _ (tb_in 1255 (by decide +kernel))) (hN.1 _ (tb_in 99 (by decide +kernel))) eS9 Gs_A)
  · exact zz_of zok_T tS
  · exact zz_of zok_F (va_Nw.of rfl (hN.1 _ (tb_in 1240 (by decide +kernel))))
  · rcases (show i = 0 ∨ i = 1 ∨ i = 2 ∨ i = 3 ∨ i = 4 ∨ i = 5 ∨ i = 6 ∨ i = 7 ∨ i = 8 ∨ i = 9 ∨ i = 10 ∨ i = 11 ∨ i = 12 by omega) with rfl | rfl | rfl | rfl | rfl | rfl | rfl | rfl | rfl | rfl | rfl | rfl | rfl
    · exact ⟨⟨w0, o0, c0, v0, t0⟩, by decide +kernel, by decide +kernel⟩
    · exact ⟨⟨w1, o1, c1, v1, t1⟩, by decide +kernel, by decide +kernel⟩
    · exact ⟨⟨w2, o2, c2, v2, t2⟩, by decide +kernel, by decide +kernel⟩
    · exact ⟨⟨w3, o3, c3, v3, t3⟩, by decide +kernel, by decide +kernel⟩
    · exact ⟨⟨w4, o4, c4, v4, t4⟩, by decide +kernel, by decide +kernel⟩
    · exact ⟨⟨w5, o5, c5, v5, t5⟩, by decide +kernel, by decide +kernel⟩
    · exact ⟨⟨w6, o6, c6, v6, t6⟩, by decide +kernel, by decide +kernel⟩
    · exact ⟨⟨w7, o7, c7, v7, t7⟩, by decide +kernel, by decide +kernel⟩
    · exact ⟨⟨w8, o8, c8, v8, t8⟩, by decide +kernel, by decide +kernel⟩
    · exact ⟨⟨w9, o9, c9, v9, t9⟩, by decide +kernel, by decide +kernel⟩
    · exact ⟨⟨w10, o10, c10, v10, t10⟩, by decide +kernel, by decide +kernel⟩
    · exact ⟨⟨w11, o11, c11, v11, t11⟩, by decide +kernel, by decide +kernel⟩
    · exact ⟨⟨w12, o12, c12, v12, t12⟩, by decide +kernel, by decide +kernel⟩
  · unfold ldcW
    exact List.forall_mem_cons.mpr ⟨w_R hN (tb_in 645 (by decide +kernel)) (es0), List.forall_mem_cons.mpr ⟨w_R hN (tb_in 567 (by decide +kernel)) (es1), List.forall_mem_cons.mpr ⟨w_R hN (tb_in 655 (by decide +kernel)) (es2), List.forall_mem_cons.mpr ⟨w_R hN (tb_in 656 (by decide +kernel)) (es3), List.forall_mem_cons.mpr ⟨w_R hN (tb_in 1339 (by decide +kernel)) (es4), List.forall_mem_cons.mpr ⟨w_R hN (tb_in 1340 (by decide +kernel)) (es5), List.forall_mem_cons.mpr ⟨w_R hN (tb_in 1341 (by decide +kernel)) (es6), List.forall_mem_cons.mpr ⟨w_R hN (tb_in 1342 (by decide +kernel)) (es7), List.forall_mem_cons.mpr ⟨w_R hN (tb_in 1343 (by decide +kernel)) (es8), List.forall_mem_cons.mpr ⟨w_R hN (tb_in 1344 (by decide +kernel)) (es9), List.forall_mem_cons.mpr ⟨w_R hN (tb_in 1345 (by decide +kernel)) (es10), List.forall_mem_cons.mpr ⟨w_R hN (tb_in 1346 (by decide +kernel)) (es11), List.forall_mem_cons.mpr ⟨w_R hN (tb_in 1347 (by decide +kernel)) (es12), List.forall_mem_cons.mpr ⟨w_R hN (tb_in 1958 (by decide +kernel)) (va_eqR (hN.2 _ (fl_in 738 (by decide +kernel))) es2), List.forall_mem_cons.mpr ⟨w_R hN (tb_in 1959 (by decide +kernel)) (va_eqR (hN.2 _ (fl_in 749 (by decide +kernel))) es3), List.forall_mem_cons.mpr ⟨w_R hN (tb_in 1949 (by decide +kernel)) (va_eqR (hN.2 _ (fl_in 728 (by decide +kernel))) es0), List.forall_mem_cons.mpr ⟨w_R hN (tb_in 1909 (by decide +kernel)) (va_eqR (hN.2 _ (fl_in 718 (by decide +kernel))) es1), fun _ h => absurd h List.not_mem_nil⟩⟩⟩⟩⟩⟩⟩⟩⟩⟩⟩⟩⟩⟩⟩⟩⟩
theorem arr_of {cA comp : ClassId} {k : Class} {ty : FieldType} (hk : s.vm.classes[cA]? = some k) (hkind : k.kind = .array comp ty) : ArrOfT s cA ty := fun _ _ => ⟨(fun _ h => by cases h), k, hk, comp, hkind⟩
theorem w_ao {C : String} (h : (Cond.arrayOver (.object C)).before #[Value.ref b] s = true) : ∃ cA : ClassId, ArrOfT s cA (.object C) ∧ va_RA s cA (.object C) := by
  obtain ⟨comp, cA, k, h1, h2, h3, h4, h5⟩ := Cond.arrayOver_spec h
  exact ⟨cA, arr_of h3 h4, k, comp, h3, h4, h1, h5⟩
theorem w_ac {ty : FieldType} (h : (Cond.arrayClass ty).before #[Value.ref b] s = true) : ∃ cA : ClassId, ArrOfT s cA ty ∧ s.vm.findClass ("[" ++ ty.toString) = some cA := by
  obtain ⟨cA, k, comp, h1, h2, h3⟩ := Cond.arrayClass_spec h
  exact ⟨cA, arr_of h2 h3, h1⟩
set_option maxHeartbeats 1000000 in
theorem w_K (hN : HN s b) : ∃ (D : va_G) (c : Nat → ClassId), va_K D vwCl (x_tys c) s := by
  obtain ⟨d0, i0, hK0⟩ := u_known (w_bg hN) cl_X1.2.1 (w_bg hN _ kn_X1)
  obtain ⟨d1, i1, hK1⟩ := u_known (w_bg hN) cl_X3.2.1 (w_bg hN _ kn_X3)
  obtain ⟨d2, i2, hK2⟩ := u_known (w_bg hN) cl_X4.2.1 (w_bg hN _ kn_X4)
  obtain ⟨d3, i3, hK3⟩ := u_known (w_bg hN) cl_X5.2.1 (w_bg hN _ kn_X5)
  obtain ⟨d4, i4, hK4⟩ := u_known (w_bg hN) cl_X7.2.1 (w_bg hN _ kn_X7)
  obtain ⟨d5, i5, hK5⟩ := u_known (w_bg hN) cl_X8.2.1 (w_bg hN _ kn_X8)
  obtain ⟨d6, i6, hK6⟩ := u_known (w_bg hN) cl_X10.2.1 (w_bg hN _ kn_X10)
  obtain ⟨d7, i7, hK7⟩ := u_known (w_bg hN) cl_X11.2.1 (w_bg hN _ kn_X11)
  obtain ⟨d8, i8, hK8⟩ := u_known (w_bg hN) cl_X12.2.1 (w_bg hN _ kn_X12)
  obtain ⟨c0, ha0, hr0⟩ := w_ac (ty := .int) (hN.1 _ (tb_in 144 (by decide +kernel)))
  obtain ⟨c1, ha1, hr1⟩ := w_ac (ty := .boolean) (hN.1 _ (tb_in 243 (by decide +kernel)))
  obtain ⟨c2, ha2, hr2⟩ := w_ac (ty := .long) (hN.1 _ (tb_in 1988 (by decide +kernel)))
  obtain ⟨c3, ha3, hr3⟩ := w_ac (ty := .double) (hN.1 _ (tb_in 1989 (by decide +kernel)))
  obtain ⟨c4, ha4, hr4⟩ := w_ao (C := "PastryBench$Sheet") (hN.1 _ (tb_in 192 (by decide +kernel)))
  obtain ⟨c5, ha5, hr5⟩ := w_ao (C := "PastryBench$Bench") (hN.1 _ (tb_in 314 (by decide +kernel)))
  obtain ⟨c6, ha6, hr6⟩ := w_ao (C := "PastryBench$Command") (hN.1 _ (tb_in 167 (by decide +kernel)))
  obtain ⟨c7, ha7, hr7⟩ := w_ao (C := "java/lang/String") (hN.1 _ (tb_in 1338 (by decide +kernel)))
  refine ⟨(fun k => ([d0, d1, d2, d3, d4, d5, d6, d7, d8] : List ClassId).getD k 0, fun k => ([i0, i1, i2, i3, i4, i5, i6, i7, i8] : List (Nat → Nat)).getD k (fun _ => 0)), fun k => ([c0, c1, c2, c3, c4, c5, c6, c7] : List ClassId).getD k 0, fun k q hq => ?_, fun k q hq => ?_⟩
  · by_cases hk : k < 9
    · rcases (show k = 0 ∨ k = 1 ∨ k = 2 ∨ k = 3 ∨ k = 4 ∨ k = 5 ∨ k = 6 ∨ k = 7 ∨ k = 8 by omega) with rfl | rfl | rfl | rfl | rfl | rfl | rfl | rfl | rfl
      · obtain rfl : (RX1, TX1, 8) = q := Option.some.inj hq
        exact hK0
      · obtain rfl : (RX3, TX3, 2) = q := Option.some.inj hq
        exact hK1
      · obtain rfl : (RX4, TX4, 2) = q := Option.some.inj hq
        exact hK2
      · obtain rfl : (RX5, TX5, 4) = q := Option.some.inj hq
        exact hK3
      · obtain rfl : (RX7, TX7, 4) = q := Option.some.inj hq
        exact hK4
      · obtain rfl : (RX8, TX8, 9) = q := Option.some.inj hq
        exact hK5
      · obtain rfl : (RX10, TX10, 6) = q := Option.some.inj hq
        exact hK6
      · obtain rfl : (RX11, TX11, 10) = q := Option.some.inj hq
        exact hK7
      · obtain rfl : (RX12, TX12, 29) = q := Option.some.inj hq
        exact hK8
    · rw [List.getElem?_eq_none (Nat.le_of_not_lt hk)] at hq
      cases hq
  · by_cases hk : k < 8
    · rcases (show k = 0 ∨ k = 1 ∨ k = 2 ∨ k = 3 ∨ k = 4 ∨ k = 5 ∨ k = 6 ∨ k = 7 by omega) with rfl | rfl | rfl | rfl | rfl | rfl | rfl | rfl
      · obtain rfl : ((c0, .int) : ClassId × FieldType) = q := Option.some.inj hq
        exact ⟨ha0, hr0⟩
      · obtain rfl : ((c1, .boolean) : ClassId × FieldType) = q := Option.some.inj hq
        exact ⟨ha1, hr1⟩
      · obtain rfl : ((c2, .long) : ClassId × FieldType) = q := Option.some.inj hq
        exact ⟨ha2, hr2⟩
      · obtain rfl : ((c3, .double) : ClassId × FieldType) = q := Option.some.inj hq
        exact ⟨ha3, hr3⟩
      · obtain rfl : ((c4, .object "PastryBench$Sheet") : ClassId × FieldType) = q := Option.some.inj hq
        exact ⟨ha4, hr4⟩
      · obtain rfl : ((c5, .object "PastryBench$Bench") : ClassId × FieldType) = q := Option.some.inj hq
        exact ⟨ha5, hr5⟩
      · obtain rfl : ((c6, .object "PastryBench$Command") : ClassId × FieldType) = q := Option.some.inj hq
        exact ⟨ha6, hr6⟩
      · obtain rfl : ((c7, .object "java/lang/String") : ClassId × FieldType) = q := Option.some.inj hq
        exact ⟨ha7, hr7⟩
    · rw [List.getElem?_eq_none (Nat.le_of_not_lt hk)] at hq
      cases hq
theorem w_X {L : Nat} {xs : Nat → Int32} (hX : va_X b L xs s s.heap) (hb : b < s.heap.size) : x_zz (Gs s D c) (fun _ U H => va_X b L xs U H) := fun u hu => (zz_of (P := fun A U H => va_X b L xs U H ∧ ¬ A b) zok_X ⟨hX, Gs_A b hb⟩ u hu).1
end WORLD
