/-! ===== the law's own text, and what the class reads in it ===== -/
def AT (T : List Int) (p : Nat) (R : List Int) : Prop := p ≤ T.length ∧ T.drop p = R
theorem AT.len {T : List Int} {p : Nat} {R : List Int} (h : AT T p R) : T.length = p + R.length := by
  have e := congrArg List.length h.2
  rw [List.length_drop] at e
  have := h.1
  omega
theorem AT.get {T : List Int} {p : Nat} {R : List Int} (h : AT T p R) (k : Nat) : T.getD (p + k) 0 = R.getD k 0 := by
  rw [← h.2, List.getD_eq_getElem?_getD, List.getD_eq_getElem?_getD, List.getElem?_drop]
theorem AT.app {T : List Int} {p : Nat} {X R : List Int} (h : AT T p (X ++ R)) : AT T (p + X.length) R := by
  have hl := h.len
  rw [List.length_append] at hl
  refine ⟨by omega, ?_⟩
  rw [← List.drop_drop, h.2, List.drop_left]
theorem AT.nil (T : List Int) : AT T 0 T := ⟨Nat.zero_le _, rfl⟩
theorem run_at {f : Int → Bool} {T R : List Int} (hr : f (R.getD 0 0) = false) : ∀ (X : List Int) (p : Nat), AT T p (X ++ R) → (∀ x ∈ X, f x = true) → endR f T p = p + X.length := by
  intro X
  induction X with
  | nil =>
    intro p h _
    have g := h.get 0
    exact endR_f (by rw [show p = p + 0 from rfl, g]; exact hr)
  | cons x X ih =>
    intro p h hx
    have g := h.get 0
    have hl := h.len
    rw [List.length_append, List.length_cons] at hl
    have h1 : AT T (p + 1) (X ++ R) := AT.app (X := [x]) h
    rw [endR_t (by omega) (by rw [show p = p + 0 from rfl, g]; exact hx x List.mem_cons_self), ih (p + 1) h1 (fun y hy => hx y (List.mem_cons_of_mem _ hy)), List.length_cons]
    omega
theorem tok_at {T sp X : List Int} {p : Nat} (h : AT T p (sp ++ X)) (hs : ∀ x ∈ sp, isSepB x = true) (h0 : isSepB (X.getD 0 0) = false) : tokAt T p = tokS T (p + sp.length) := by
  unfold tokAt
  rw [run_at h0 sp p h hs]
theorem let_sep {x : Int} (h : isLetB x = true) : isSepB x = false := by
  unfold isLetB isSepB at *
  simp at h ⊢; omega
theorem dig_sep {x : Int} (h : isDigB x = true) : isSepB x = false ∧ isLetB x = false := by
  unfold isDigB isSepB isLetB at *
  simp at h ⊢; omega
theorem tok_w {T sp w R : List Int} {p : Nat} (h : AT T p (sp ++ (w ++ R))) (hs : ∀ x ∈ sp, isSepB x = true) (hw : w ≠ []) (hl : ∀ x ∈ w, isLetB x = true) (hr : isLetB (R.getD 0 0) = false) : tokAt T p = (0, p + sp.length, p + sp.length + w.length) := by
  obtain ⟨y, w', rfl⟩ : ∃ y w', w = y :: w' := by cases w with | nil => exact absurd rfl hw | cons y w' => exact ⟨y, w', rfl⟩
  have h1 := h.app
  have g := h1.get 0
  have hle := h1.len
  rw [List.length_append, List.length_cons] at hle
  have hy := hl y List.mem_cons_self
  have g0 : T.getD (p + sp.length) 0 = y := g
  rw [tok_at h hs (let_sep hy)]
  unfold tokS
  rw [if_neg (by omega), g0, if_pos hy, run_at hr w' _ (show AT T (p + sp.length + 1) (w' ++ R) from AT.app (X := [y]) h1) (fun z hz => hl z (List.mem_cons_of_mem _ hz)), List.length_cons]
  simp only [Prod.mk.injEq, true_and]
  show p + sp.length + 1 + w'.length = _
  omega
theorem tok_d {T sp w R : List Int} {p : Nat} (h : AT T p (sp ++ (w ++ R))) (hs : ∀ x ∈ sp, isSepB x = true) (hw : w ≠ []) (hl : ∀ x ∈ w, isDigB x = true) (hr : isDigB (R.getD 0 0) = false) : tokAt T p = (1, p + sp.length, p + sp.length + w.length) := by
  obtain ⟨y, w', rfl⟩ : ∃ y w', w = y :: w' := by cases w with | nil => exact absurd rfl hw | cons y w' => exact ⟨y, w', rfl⟩
  have h1 := h.app
  have g := h1.get 0
  have hle := h1.len
  rw [List.length_append, List.length_cons] at hle
  have hy := hl y List.mem_cons_self
  have g0 : T.getD (p + sp.length) 0 = y := g
  rw [tok_at h hs (dig_sep hy).1]
  unfold tokS
  rw [if_neg (by omega), g0, if_neg (by rw [(dig_sep hy).2]; simp), if_pos hy, run_at hr w' _ (show AT T (p + sp.length + 1) (w' ++ R) from AT.app (X := [y]) h1) (fun z hz => hl z (List.mem_cons_of_mem _ hz)), List.length_cons]
  simp only [Prod.mk.injEq, true_and]
  show p + sp.length + 1 + w'.length = _
  omega
theorem tok_s {T R : List Int} {p : Nat} (h : AT T p (59 :: R)) : tokAt T p = (2, p, p + 1) := by
  have g : T.getD (p + 0) 0 = 59 := h.get 0
  have hle := h.len
  rw [List.length_cons] at hle
  rw [tok_at (sp := []) h (fun _ z => absurd z List.not_mem_nil) (show isSepB 59 = false by decide)]
  unfold tokS
  rw [if_neg (by show ¬ T.length ≤ p; omega), show p + ([] : List Int).length = p + 0 from rfl, g, if_neg (by decide), if_neg (by decide), if_pos rfl]
  rfl
theorem tok_e {T : List Int} {p : Nat} (h : AT T p []) : tokAt T p = (4, p, p) := by
  have hle := h.len
  rw [tok_at (sp := []) h (fun _ z => absurd z List.not_mem_nil) (show isSepB 0 = false by decide)]
  unfold tokS
  rw [if_pos (by show T.length ≤ p; rw [hle]; exact Nat.le_refl _)]
  rfl
theorem isW_at {T w R : List Int} {p : Nat} (h : AT T p (w ++ R)) : isW T (0, p, p + w.length) w = true := by
  unfold isW
  rw [decide_eq_true (show (0, p, p + w.length).1 = 0 from rfl), decide_eq_true (show (0, p, p + w.length).2.2 - (0, p, p + w.length).2.1 = w.length by show p + w.length - p = _; omega), Bool.true_and, Bool.true_and]
  refine decide_eq_true (fun k hk => ?_)
  show T.getD (p + k) 0 = _
  rw [h.get, List.getD_eq_getElem?_getD, List.getD_eq_getElem?_getD, List.getElem?_append_left hk]
theorem P_word {T sp w R : List Int} {p : Nat} (h : AT T p (sp ++ (w ++ R))) (hs : ∀ x ∈ sp, isSepB x = true) (hw : w ≠ []) (hl : ∀ x ∈ w, isLetB x = true) (hr : isLetB (R.getD 0 0) = false) : ∃ q, sWord T p w = .inr ((), q) ∧ AT T q R := by
  refine ⟨p + sp.length + w.length, ?_, h.app.app⟩
  unfold sWord
  rw [tok_w h hs hw hl hr, if_pos (isW_at h.app)]
theorem P_semi {T R : List Int} {p : Nat} (h : AT T p (59 :: R)) : ∃ q, sSemi T p = .inr ((), q) ∧ AT T q R := by
  refine ⟨p + 1, ?_, AT.app (X := [59]) h⟩
  unfold sSemi
  rw [tok_s h, if_pos rfl]
theorem dg_ne (i : Int) : dg i ≠ [] := by unfold dg; split <;> simp
theorem dg_dig {i : Int} (hi : 0 ≤ i ∧ i ≤ 99) : ∀ x ∈ dg i, isDigB x = true := by
  intro x hx
  unfold isDigB
  by_cases h : i < 10
  · rw [dg_1 h] at hx
    have e := List.mem_singleton.mp hx
    simp; omega
  · rw [dg_2 h] at hx
    rcases List.mem_cons.mp hx with e | e
    · simp; omega
    · have e := List.mem_singleton.mp e
      simp; omega
theorem valU_dg {T R : List Int} {p : Nat} {i : Int} (hi : 0 ≤ i ∧ i ≤ 99) (h : AT T p (dg i ++ R)) : valU T p (dg i).length = i := by
  by_cases hc : i < 10
  · rw [dg_1 hc] at h ⊢
    have g : T.getD (p + 0) 0 = 48 + i := h.get 0
    show 0 * 10 + (T.getD (p + 0) 0 - 48) = i
    rw [g]; omega
  · rw [dg_2 hc] at h ⊢
    have g : T.getD (p + 0) 0 = 48 + i / 10 := h.get 0
    have g1 : T.getD (p + 1) 0 = 48 + i % 10 := h.get 1
    show (0 * 10 + (T.getD (p + 0) 0 - 48)) * 10 + (T.getD (p + 1) 0 - 48) = i
    rw [g, g1]; omega
theorem sp1 : ∀ x ∈ ([32] : List Int), isSepB x = true := fun x hx => by rw [List.mem_singleton.mp hx]; decide
theorem P_num {T R : List Int} {p : Nat} {i lo hi : Int} (h : AT T p ([32] ++ (dg i ++ R))) (hi99 : 0 ≤ i ∧ i ≤ 99) (hb : lo ≤ i ∧ i ≤ hi) (hr : isDigB (R.getD 0 0) = false) : ∃ q, sNum T p lo hi = .inr (i, q) ∧ AT T q R := by
  refine ⟨p + [(32 : Int)].length + (dg i).length, ?_, h.app.app⟩
  have e : nVal T p = i := by
    unfold nVal
    rw [tok_d h sp1 (dg_ne i) (dg_dig hi99) hr]
    show valU T (p + [(32 : Int)].length) (p + [(32 : Int)].length + (dg i).length - (p + [(32 : Int)].length)) = i
    rw [Nat.add_sub_cancel_left]
    exact valU_dg hi99 h.app
  unfold sNum
  rw [e, tok_d h sp1 (dg_ne i) (dg_dig hi99) hr, if_pos rfl, if_neg (by omega), if_neg (by omega)]
/-- a layer of the text, and the sheets, and the bench -/
def wBut : List Int := [32, 98, 117, 116, 116, 101, 114, 32]
def wDou : List Int := [32, 100, 111, 117, 103, 104, 32]
def wShe : List Int := [115, 104, 101, 101, 116, 32]
def wBen : List Int := [98, 101, 110, 99, 104, 32]
def lyT (x : Int) : List Int := (if isB x = true then wBut else wDou) ++ dg (sz x)
def shT (s : Int × List Int) : List Int := wShe ++ dg s.1 ++ s.2.flatMap lyT ++ [59]
def beT (a : Int × Int × Int) : List Int := wBen ++ dg a.1 ++ [32] ++ dg a.2.1 ++ [32] ++ dg a.2.2 ++ [59]
theorem let_w {w : List Int} (h : w.all isLetB = true) : ∀ x ∈ w, isLetB x = true := fun x hx => List.all_eq_true.mp h x hx
theorem P_layer {T R : List Int} {p : Nat} {x : Int} (h : AT T p (lyT x ++ R)) (hx : 1 ≤ sz x ∧ sz x ≤ 99) (hr : isDigB (R.getD 0 0) = false) : (tokAt T p).1 = 0 ∧ ∃ q, sLayer T p = .inr (x, q) ∧ AT T q R := by
  unfold lyT at h
  cases hb : isB x
  · rw [hb, if_neg (by simp)] at h
    have h1 : AT T p ([32] ++ (txS 2 ++ ([32] ++ (dg (sz x) ++ R)))) := by
      have e : wDou ++ dg (sz x) ++ R = [32] ++ (txS 2 ++ ([32] ++ (dg (sz x) ++ R))) := by simp [wDou, txS, txL]
      rw [← e]; exact h
    have t := tok_w h1 sp1 (by decide) (let_w (by decide)) (by simp; decide)
    have w := isW_at h1.app
    obtain ⟨q, e1, e2⟩ := P_num (lo := 1) (hi := 400) h1.app.app (by omega) (by omega) hr
    refine ⟨by rw [t], q, ?_, e2⟩
    have hw3 : isW T (0, p + [(32 : Int)].length, p + [(32 : Int)].length + (txS 2).length) (txS 3) = false := by
      unfold isW
      rw [decide_eq_false (show ¬ (p + [(32 : Int)].length + (txS 2).length - (p + [(32 : Int)].length) = (txS 3).length) by rw [Nat.add_sub_cancel_left]; decide)]
      simp
    unfold sLayer isLW
    rw [t, w, Bool.true_or, if_pos rfl]
    have z : sNum T (0, p + [(32 : Int)].length, p + [(32 : Int)].length + (txS 2).length).2.2 1 400 = .inr (sz x, q) := e1
    rw [z]
    show (Sum.inr ((if isW T (0, p + [(32 : Int)].length, p + [(32 : Int)].length + (txS 2).length) (txS 3) = true then -(sz x) else sz x), q) : PR Int) = _
    rw [hw3, if_neg (by simp), sgn_f hb]
  · rw [hb, if_pos rfl] at h
    have h1 : AT T p ([32] ++ (txS 3 ++ ([32] ++ (dg (sz x) ++ R)))) := by
      have e : wBut ++ dg (sz x) ++ R = [32] ++ (txS 3 ++ ([32] ++ (dg (sz x) ++ R))) := by simp [wBut, txS, txL]
      rw [← e]; exact h
    have t := tok_w h1 sp1 (by decide) (let_w (by decide)) (by simp; decide)
    have w := isW_at h1.app
    obtain ⟨q, e1, e2⟩ := P_num (lo := 1) (hi := 400) h1.app.app (by omega) (by omega) hr
    refine ⟨by rw [t], q, ?_, e2⟩
    unfold sLayer isLW
    rw [t, w, Bool.or_true, if_pos rfl]
    have z : sNum T (0, p + [(32 : Int)].length, p + [(32 : Int)].length + (txS 3).length).2.2 1 400 = .inr (sz x, q) := e1
    rw [z]
    show (Sum.inr (-(sz x), q) : PR Int) = _
    rw [sgn_t hb]
theorem P_end {T R : List Int} {p : Nat} (h : AT T p (59 :: R)) : ∃ q, sEnd T p = .inr ([], q) ∧ AT T q R := by
  obtain ⟨q, e1, e2⟩ := P_semi h
  refine ⟨q, ?_, e2⟩
  have hw : isLW T p = false := by unfold isLW isW; rw [tok_s h]; rfl
  unfold sEnd
  rw [hw, if_neg (by simp), e1]
theorem ly_dig (l : List Int) (R : List Int) : isDigB ((l.flatMap lyT ++ 59 :: R).getD 0 0) = false := by
  cases l with
  | nil => exact (by decide : isDigB 59 = false)
  | cons x l =>
    rw [List.flatMap_cons]
    unfold lyT
    split
    · exact (by decide : isDigB 32 = false)
    · exact (by decide : isDigB 32 = false)
theorem P_rest {T : List Int} : ∀ (l : List Int) (f : Nat) (p : Nat) (R : List Int), l.length ≤ f → (∀ x ∈ l, 1 ≤ sz x ∧ sz x ≤ 99) → AT T p (l.flatMap lyT ++ 59 :: R) → ∃ q, sRest T f p = .inr (l, q) ∧ AT T q R := by
  intro l
  induction l with
  | nil =>
    intro f p R _ _ h
    have h' : AT T p (59 :: R) := h
    obtain ⟨q, e1, e2⟩ := P_end h'
    refine ⟨q, ?_, e2⟩
    cases f with
    | zero => exact e1
    | succ f =>
      unfold sRest
      rw [tok_s h', if_pos rfl]; exact e1
  | cons x l ih =>
    intro f p R hf hx h
    obtain ⟨f, rfl⟩ : ∃ f', f = f' + 1 := ⟨f - 1, by rw [List.length_cons] at hf; omega⟩
    rw [List.flatMap_cons, List.append_assoc] at h
    obtain ⟨t, q, e1, e2⟩ := P_layer h (hx x List.mem_cons_self) (ly_dig l R)
    obtain ⟨q2, e3, e4⟩ := ih f q R (by rw [List.length_cons] at hf; omega) (fun y hy => hx y (List.mem_cons_of_mem _ hy)) e2
    refine ⟨q2, ?_, e4⟩
    unfold sRest
    rw [t, if_neg (by decide)]
    simp only [e1, e3]
def SHO (s : Int × List Int) : Prop := (0 ≤ s.1 ∧ s.1 ≤ 40) ∧ (1 ≤ s.2.length ∧ s.2.length ≤ 9) ∧ ∀ x ∈ s.2, 1 ≤ sz x ∧ sz x ≤ 99
theorem P_sheet {T R : List Int} {p : Nat} {s : Int × List Int} (hs : SHO s) (h : AT T p (shT s ++ R)) : (tokAt T p).1 = 0 ∧ ∃ q, sSheet T p = .inr (s, q) ∧ AT T q R := by
  obtain ⟨t, l⟩ := s
  obtain ⟨h1, h2, h3⟩ := hs
  obtain ⟨x, l, rfl⟩ : ∃ x l', l = x :: l' := by cases l with | nil => exact absurd h2.1 (by simp) | cons x l' => exact ⟨x, l', rfl⟩
  have h9 : AT T p ([] ++ (txS 0 ++ ([32] ++ (dg t ++ (lyT x ++ (l.flatMap lyT ++ 59 :: R)))))) := by
    have e : shT (t, x :: l) ++ R = [] ++ (txS 0 ++ ([32] ++ (dg t ++ (lyT x ++ (l.flatMap lyT ++ 59 :: R))))) := by
      unfold shT; simp [wShe, txS, txL, List.append_assoc]
    rw [← e]; exact h
  have hdx : isDigB ((lyT x ++ (l.flatMap lyT ++ 59 :: R)).getD 0 0) = false := by
    have := ly_dig (x :: l) R
    rw [List.flatMap_cons, List.append_assoc] at this
    exact this
  have tk := tok_w h9 (fun _ z => absurd z List.not_mem_nil) (by decide) (let_w (by decide)) (by simp; decide)
  obtain ⟨q1, e1, a1⟩ := P_word h9 (fun _ z => absurd z List.not_mem_nil) (by decide) (let_w (by decide)) (by simp; decide)
  obtain ⟨q2, e2, a2⟩ := P_num (lo := 0) (hi := 40) a1 (by have := h1; simp only at this; omega) h1 hdx
  obtain ⟨-, q3, e3, a3⟩ := P_layer a2 (h3 x List.mem_cons_self) (ly_dig l R)
  obtain ⟨q4, e4, a4⟩ := P_rest l 8 q3 R (by have := h2.2; simp at this; omega) (fun y hy => h3 y (List.mem_cons_of_mem _ hy)) a3
  refine ⟨by rw [tk], q4, ?_, a4⟩
  unfold sSheet
  simp only [e1, e2, e3, e4]
theorem P_fin {T : List Int} {p : Nat} (h : AT T p []) : sFin T p = .inr ([], p) := by
  unfold sFin
  rw [tok_e h, if_pos rfl]
theorem P_sheets {T : List Int} : ∀ (l : List (Int × List Int)) (f p : Nat), l.length ≤ f → (∀ s ∈ l, SHO s) → AT T p (l.flatMap shT) → ∃ q, sSheets T f p = .inr (l, q) := by
  intro l
  induction l with
  | nil =>
    intro f p _ _ h
    have h' : AT T p [] := h
    refine ⟨p, ?_⟩
    cases f with
    | zero => exact P_fin h'
    | succ f => unfold sSheets; rw [tok_e h', if_pos rfl]; exact P_fin h'
  | cons s l ih =>
    intro f p hf hs h
    obtain ⟨f, rfl⟩ : ∃ f', f = f' + 1 := ⟨f - 1, by rw [List.length_cons] at hf; omega⟩
    rw [List.flatMap_cons] at h
    obtain ⟨t, q, e1, e2⟩ := P_sheet (hs s List.mem_cons_self) h
    obtain ⟨q2, e3⟩ := ih f q (by rw [List.length_cons] at hf; omega) (fun y hy => hs y (List.mem_cons_of_mem _ hy)) e2
    refine ⟨q2, ?_⟩
    unfold sSheets
    rw [t, if_neg (by decide)]
    simp only [e1, e3]
theorem P_head {T R : List Int} {a : Int × Int × Int} (h1 : 0 ≤ a.1 ∧ a.1 ≤ 40) (h2 : 5 ≤ a.2.1 ∧ a.2.1 ≤ 35) (h3 : 0 ≤ a.2.2 ∧ a.2.2 ≤ 50) (h : AT T 0 (beT a ++ R)) : ∃ q, sHead T 0 = .inr (a, q) ∧ AT T q R := by
  obtain ⟨r, m, f⟩ := a
  simp only at h1 h2 h3
  have h9 : AT T 0 ([] ++ (txS 1 ++ ([32] ++ (dg r ++ ([32] ++ (dg m ++ ([32] ++ (dg f ++ (59 :: R))))))))) := by
    have e : beT (r, m, f) ++ R = [] ++ (txS 1 ++ ([32] ++ (dg r ++ ([32] ++ (dg m ++ ([32] ++ (dg f ++ (59 :: R)))))))) := by
      unfold beT; simp [wBen, txS, txL, List.append_assoc]
    rw [← e]; exact h
  obtain ⟨q1, e1, a1⟩ := P_word h9 (fun _ z => absurd z List.not_mem_nil) (by decide) (let_w (by decide)) (by simp; decide)
  obtain ⟨q2, e2, a2⟩ := P_num (lo := 0) (hi := 40) a1 (by omega) h1 (by simp; decide)
  obtain ⟨q3, e3, a3⟩ := P_num (lo := 5) (hi := 35) a2 (by omega) h2 (by simp; decide)
  obtain ⟨q4, e4, a4⟩ := P_num (lo := 0) (hi := 50) a3 (by omega) h3 (by simp; decide)
  obtain ⟨q5, e5, a5⟩ := P_semi a4
  refine ⟨q5, ?_, a5⟩
  unfold sHead
  simp only [e1, e2, e3, e4, e5]
theorem P_all {a : Int × Int × Int} {l : List (Int × List Int)} (h1 : 0 ≤ a.1 ∧ a.1 ≤ 40) (h2 : 5 ≤ a.2.1 ∧ a.2.1 ≤ 35) (h3 : 0 ≤ a.2.2 ∧ a.2.2 ≤ 50) (hl : l.length ≤ 6) (hs : ∀ s ∈ l, SHO s) : ldB (beT a ++ l.flatMap shT) = .inr (hd6 a, (l.map mdS).map exS) := by
  obtain ⟨q, e1, a1⟩ := P_head (T := beT a ++ l.flatMap shT) (R := l.flatMap shT) h1 h2 h3 (AT.nil _)
  obtain ⟨q2, e2⟩ := P_sheets l 6 q hl hs a1
  unfold ldB sBench
  simp only [e1, e2]
  exact congrArg Sum.inr (ld_eq a l).symm
