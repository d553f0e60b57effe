/-! ===== the world at the law's entry: all that is stable and that holds there ===== -/
def Zs (s : State) (A : Nat → Prop) (U : State) (H : Heap) : Prop := ∀ P : (Nat → Prop) → State → Heap → Prop, x_zok P → P A s s.heap → P A U H
theorem zok_Zs (s : State) : x_zok (Zs s) := ⟨fun A u U H hw h P hP h0 => hP.1 A u U H hw (h P hP h0), fun A U H H1 h hq P hP h0 => hP.2 A U H H1 (h P hP h0) hq⟩
def Gs (s : State) (D : va_G) (c : Nat → ClassId) : xG := (D, c, Zs s, s.heap.size)
def fl : List Cond := flatC (Jvm.Cond.and given_1 narrow_1)
theorem fl_in {w : Cond} (i : Nat) (h : fl[i]? = some w) : w ∈ fl := List.mem_of_getElem? h
theorem tb_in {w : Cond} (i : Nat) (h : lw_tb2[i]? = some w) : w ∈ lw_tb2 := List.mem_of_getElem? h
def HN (s : State) (b : Nat) : Prop := (∀ w ∈ lw_tb2, w.before #[Value.ref b] s = true) ∧ ∀ w ∈ fl, w.before #[Value.ref b] s = true
/-- a private method selects itself on an object of another class, too -/
theorem asb_sel {y x0 y0 : MethodName} {C : String} {s : State} {args : Array Value} (hy : y.cls ≠ "java/lang/invoke/MethodHandle" ∧ y.cls ≠ "java/lang/invoke/VarHandle") (hc : y.cls = y0.cls)
    (hpriv : (Cond.privateMethod y).before args s = true) (hinst : (Cond.instanceMethod y).before args s = true) (h0 : (Cond.selects C x0 y0).before args s = true) : (Cond.selects C y y).before args s = true := by
  obtain ⟨c, r, m0, q1, q2, q3, q4, mk, q5, q6⟩ := Cond.selects_spec h0
  obtain ⟨m2, methM, hnamed, hmethM, -, -⟩ := Cond.instanceMethod_spec hinst
  have hfound : s.methodFound? y.cls y.name y.desc = some m2 := State.methodFound?_of_named hnamed hy
  have hcls : m2.cls = m0.cls := Option.some.inj ((findClass_of_methodNamed hnamed).symm.trans (by rw [hc]; exact findClass_of_methodNamed q3))
  have hsel : selectMethod {} s.vm c m2 = .method m2 := selectMethod_private hmethM (Cond.privateMethod_at hpriv m2 methM hnamed hmethM)
  simp only [Cond.before, Cond.holds, Cond.value, q1, hfound, hnamed, hsel, hcls, q5]
  simp; exact q6
theorem asb_in (s : State) {args : Array Value} (h : ∀ w ∈ lw_tbl, w.before args s = true) : ∀ w ∈ lw_tb2, w.before args s = true := by
  have m : ∀ {w : Cond} (i : Nat), lw_tbl[i]? = some w → w.before args s = true := fun i e => h _ (List.mem_of_getElem? e)
  have h0 : (Cond.selects RJ4 yJ5_isLatin1_aae02 yJ5_isLatin1_aae02).before args s = true := m 1125 (by decide +kernel)
  intro w hw
  rcases List.mem_append.mp hw with hw | hw
  · refine (List.forall_mem_cons.mpr ⟨?_, List.forall_mem_cons.mpr ⟨?_, List.forall_mem_cons.mpr ⟨?_, List.forall_mem_cons.mpr ⟨?_, fun _ z => absurd z List.not_mem_nil⟩⟩⟩⟩ : ∀ w ∈ asbW, w.before args s = true) w hw
    · exact asb_sel (x0 := yJ5_isLatin1_aae02) (y0 := yJ5_isLatin1_aae02) ⟨by decide +kernel, by decide +kernel⟩ rfl (m 1093 (by decide +kernel)) (m 1094 (by decide +kernel)) h0
    · exact asb_sel (x0 := yJ5_isLatin1_aae02) (y0 := yJ5_isLatin1_aae02) ⟨by decide +kernel, by decide +kernel⟩ rfl (m 1097 (by decide +kernel)) (m 1098 (by decide +kernel)) h0
    · exact asb_sel (x0 := yJ5_isLatin1_aae02) (y0 := yJ5_isLatin1_aae02) ⟨by decide +kernel, by decide +kernel⟩ rfl (m 1144 (by decide +kernel)) (m 1145 (by decide +kernel)) h0
    · exact asb_sel (x0 := yJ5_isLatin1_aae02) (y0 := yJ5_isLatin1_aae02) ⟨by decide +kernel, by decide +kernel⟩ rfl (m 1148 (by decide +kernel)) (m 1149 (by decide +kernel)) h0
  · exact h w hw
theorem zok_Z {C n d : String} {v : Value} : x_zok (va_Z C n d v) := ⟨fun _ _ _ _ hw h => va_Z.moved hw.alike h, fun _ _ _ _ h hq => h.kept hq⟩
theorem zok_O {E : String} {t : Nat} : x_zok (va_O E t) := ⟨fun _ _ _ _ hw h => va_O.moved hw.alike h, fun _ _ _ _ h hq => h.kept hq⟩
theorem zok_OF {C n d : String} {v : Value} {t : Nat} : x_zok (va_OF C n d v t) := ⟨fun _ _ _ _ hw h => va_OF.moved hw.alike h, fun _ _ _ _ h hq => h.kept hq⟩
theorem zok_T {ty : FieldType} {t N : Nat} {f : Nat → Value} : x_zok (va_T ty t N f) := ⟨fun _ _ _ _ hw h => va_T.moved hw.alike h, fun _ _ _ _ h hq => h.kept hq⟩
theorem zok_En {E d : String} {nm : List String} {F : List (String × String × String × List Int32)} {ad : Nat → Nat} : x_zok (va_En E d nm F ad) := ⟨fun _ _ _ _ hw h => va_En.moved hw.alike h, fun _ _ _ _ h hq => h.kept hq⟩
theorem zok_R {own tx : String} {k a : Nat} : x_zok (fun _ U _ => vk_R own k tx a U) := ⟨fun _ _ _ _ hw h => vk_R.warm hw h, fun _ _ _ _ h _ => h⟩
theorem zok_M {a h9 : String} {i : Nat} {x : MethodName} : x_zok (fun _ U _ => va_Nw (.methodLinkNest a i x h9) U) := ⟨fun _ _ _ _ hw h => va_Nw.warmM hw h, fun _ _ _ _ h _ => h⟩
theorem zok_C {C T : String} : x_zok (fun _ U _ => va_Nw (.castable C T) U) := ⟨fun _ _ _ _ hw h => va_Nw.warmC hw h, fun _ _ _ _ h _ => h⟩
theorem zok_fc {n : String} {X : ClassId} : x_zok (fun _ U _ => U.vm.findClass n = some X) := ⟨fun _ u U _ hw h => by show U.vm.findClass n = some X; rw [hw.alike.findClass]; exact h, fun _ _ _ _ h _ => h⟩
theorem zok_AO {C : String} : x_zok (fun _ U _ => va_AO C U) := ⟨fun _ _ _ _ hw h => va_AO.moved hw.alike h, fun _ _ _ _ h _ => h⟩
theorem zok_X {b L : Nat} {xs : Nat → Int32} : x_zok (fun A U H => va_X b L xs U H ∧ ¬ A b) := ⟨fun _ _ _ _ hw h => ⟨va_X.moved hw.alike h.1, h.2⟩, fun A U H H1 h hq => by
  obtain ⟨scr, h1, -⟩ := h.1
  exact ⟨h.1.kept (hq b (Array.getElem?_eq_some_iff.mp h1).1 h.2), h.2⟩⟩
