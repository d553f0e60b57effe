/-! ===== the world at the law's entry: all that is stable and that holds there ===== -/
def Zs (s : State) (A : Nat → Prop) (U : State) (H : Heap) : Prop := ∀ P : (Nat → Prop) → State → Heap → Prop, x_zok P → P A s s.heap → P A U H
theorem zok_Zs (s : State) : x_zok (Zs s) := ⟨fun A u U H hw h P hP h0 => hP.1 A u U H hw (h P hP h0), fun A U H H1 h hq P hP h0 => hP.2 A U H H1 (h P hP h0) hq⟩
def Gs (s : State) (D : va_G) (c : Nat → ClassId) : xG := (D, c, Zs s, s.heap.size)
def fl : List Cond := flatC (Jvm.Cond.and given_1 narrow_1)
theorem fl_in {w : Cond} (i : Nat) (h : fl[i]? = some w) : w ∈ fl := List.mem_of_getElem? h
theorem tb_in {w : Cond} (i : Nat) (h : lw_tbl[i]? = some w) : w ∈ lw_tbl := List.mem_of_getElem? h
def HN (s : State) (b : Nat) : Prop := (∀ w ∈ lw_tbl, w.before #[Value.ref b] s = true) ∧ ∀ w ∈ fl, w.before #[Value.ref b] s = true
theorem zok_Z {C n d : String} {v : Value} : x_zok (va_Z C n d v) := ⟨fun _ _ _ _ hw h => va_Z.moved hw.alike h, fun _ _ _ _ h hq => h.kept hq⟩
theorem zok_Zq {C n d : String} : x_zok (vx_Zq C n d) := ⟨fun _ _ _ _ hw h => vx_Zq.moved hw.alike h, fun _ _ _ _ h hq => h.kept hq⟩
theorem zok_O {E : String} {t : Nat} : x_zok (va_O E t) := ⟨fun _ _ _ _ hw h => va_O.moved hw.alike h, fun _ _ _ _ h hq => h.kept hq⟩
theorem zok_OF {C n d : String} {v : Value} {t : Nat} : x_zok (va_OF C n d v t) := ⟨fun _ _ _ _ hw h => va_OF.moved hw.alike h, fun _ _ _ _ h hq => h.kept hq⟩
theorem zok_T {ty : FieldType} {t N : Nat} {f : Nat → Value} : x_zok (va_T ty t N f) := ⟨fun _ _ _ _ hw h => va_T.moved hw.alike h, fun _ _ _ _ h hq => h.kept hq⟩
theorem zok_En {E d : String} {nm : List String} {F : List (String × String × String × List Int32)} {ad : Nat → Nat} : x_zok (va_En E d nm F ad) := ⟨fun _ _ _ _ hw h => va_En.moved hw.alike h, fun _ _ _ _ h hq => h.kept hq⟩
theorem zok_R {own tx : String} {k a : Nat} : x_zok (fun _ U _ => vk_R own k tx a U) := ⟨fun _ _ _ _ hw h => vk_R.warm hw h, fun _ _ _ _ h _ => h⟩
theorem zok_M {a h9 : String} {i : Nat} {x : MethodName} : x_zok (fun _ U _ => va_Nw (.methodLinkNest a i x h9) U) := ⟨fun _ _ _ _ hw h => va_Nw.warmM hw h, fun _ _ _ _ h _ => h⟩
theorem zok_F {a b n d h9 : String} {i : Nat} : x_zok (fun _ U _ => va_Nw (.fieldLinkNest a i b n d h9) U) := ⟨fun _ _ _ _ hw h => va_Nw.warmF hw h, fun _ _ _ _ h _ => h⟩
theorem zok_C {C T : String} : x_zok (fun _ U _ => va_Nw (.castable C T) U) := ⟨fun _ _ _ _ hw h => va_Nw.warmC hw h, fun _ _ _ _ h _ => h⟩
theorem zok_Nc {C T : String} : x_zok (fun _ U _ => va_Nc C T U) := ⟨fun _ _ _ _ hw h => va_Nc.moved hw.alike h, fun _ _ _ _ h _ => h⟩
theorem zok_AO {C : String} : x_zok (fun _ U _ => va_AO C U) := ⟨fun _ _ _ _ hw h => va_AO.moved hw.alike h, fun _ _ _ _ h _ => h⟩
theorem zok_X {b L : Nat} {xs : Nat → Int32} : x_zok (fun A U H => va_X b L xs U H ∧ ¬ A b) := ⟨fun _ _ _ _ hw h => ⟨va_X.moved hw.alike h.1, h.2⟩, fun A U H H1 h hq => by
  obtain ⟨scr, h1, -⟩ := h.1
  exact ⟨h.1.kept (hq b (Array.getElem?_eq_some_iff.mp h1).1 h.2), h.2⟩⟩
theorem zok_ex {i : Nat} {E : String} (hg : ∀ w ∈ vx_atS RX11 i E nmX, (goodWord w || (w.onTables && w.faceAtom)) = true) : x_zok (fun _ U _ => ∀ w ∈ vx_atS RX11 i E nmX, w.before #[] U = true) := by
  refine ⟨fun _ u U _ hw h w hm => ?_, fun _ _ _ _ h _ => h⟩
  rcases Bool.or_eq_true_iff.mp (hg w hm) with g | g
  · exact word_at hw (good_of_word g) (h w hm)
  · have g2 := Bool.and_eq_true_iff.mp g
    exact va_tabs g2.1 (rfl : (u.setVm U.vm).vm = U.vm) (Cond.faceAtom_setVm hw.alike w g2.2 (h w hm))
theorem exw_I : ∀ w ∈ vx_atS RX11 309 eI nmX, (goodWord w || (w.onTables && w.faceAtom)) = true := by decide +kernel
theorem exl_I : ∀ w ∈ vx_atS RX11 309 eI nmX, w ∈ lw_tbl := by decide +kernel
theorem exw_A : ∀ w ∈ vx_atS RX11 206 eA nmX, (goodWord w || (w.onTables && w.faceAtom)) = true := by decide +kernel
theorem exl_A : ∀ w ∈ vx_atS RX11 206 eA nmX, w ∈ lw_tbl := by decide +kernel
theorem exw_S : ∀ w ∈ vx_atS RX11 318 eS nmX, (goodWord w || (w.onTables && w.faceAtom)) = true := by decide +kernel
theorem exl_S : ∀ w ∈ vx_atS RX11 318 eS nmX, w ∈ lw_tbl := by decide +kernel
