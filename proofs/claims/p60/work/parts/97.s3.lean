/-! ===== the law's text: what is put together ===== -/
def lxL : List (List Int) := [wBen, wShe, wDou, wBut]
def lxS (i : Nat) : List Int := lxL.getD i []
def ldcL : List (String × Nat × String × Nat) := [("PastryBenchLaw", 177, "bench ", 0), ("PastryBenchLaw", 189, "sheet ", 1), ("PastryBenchLaw", 194, " dough ", 2), ("PastryBenchLaw", 196, " butter ", 3)]
def GTL (G : xG) (ta : Nat → Nat) : Prop := (∀ i, i < 4 → STR G (ta i) (lxS i)) ∧ ∀ w ∈ ldcL, x_zz G (fun _ U _ => vk_R w.1 w.2.1 w.2.2.1 (ta w.2.2.2) U)
def lyV (zs : Nat → Int) (L k i : Nat) : Int := if mst (iI (cel zs L (6 + i + 3 * k))) 2 = 0 then 1 + mst ((iI (cel zs L (6 + i + 3 * k))) >>> ((iI 2) &&& 31)) 60 else -(1 + mst ((iI (cel zs L (6 + i + 3 * k))) >>> ((iI 2) &&& 31)) 60)
def lyN (zs : Nat → Int) (L k : Nat) : Nat := (1 + mst ((iI (cel zs L (1 + k))) >>> ((iI 2) &&& 31)) 6).toNat
def nSh (zs : Nat → Int) (L : Nat) : Nat := (1 + mst ((iI (cel zs L 0)) >>> ((iI 3) &&& 31)) 4).toNat
def hdT (zs : Nat → Int) (L : Nat) : Int × Int × Int := (mst (iI (cel zs L 0)) 41, 5 + mst ((iI (cel zs L 0)) >>> ((iI 1) &&& 31)) 31, mst ((iI (cel zs L 0)) >>> ((iI 2) &&& 31)) 6)
def shV (zs : Nat → Int) (L k : Nat) : Int × List Int := (mst (iI (cel zs L (1 + k))) 41, (List.range (lyN zs L k)).map (lyV zs L k))
def txK (zs : Nat → Int) (L k : Nat) : List Int := beT (hdT zs L) ++ ((List.range k).map (shV zs L)).flatMap shT
def txI (zs : Nat → Int) (L k i : Nat) : List Int := txK zs L k ++ wShe ++ dg (mst (iI (cel zs L (1 + k))) 41) ++ ((List.range i).map (lyV zs L k)).flatMap lyT
theorem lyN_b (zs : Nat → Int) (L k : Nat) : (lyN zs L k : Int) = 1 + mst ((iI (cel zs L (1 + k))) >>> ((iI 2) &&& 31)) 6 ∧ 1 ≤ lyN zs L k ∧ lyN zs L k ≤ 6 := by
  have := mst_b ((iI (cel zs L (1 + k))) >>> ((iI 2) &&& 31)) (m := 6) (by decide)
  unfold lyN; omega
theorem nSh_b (zs : Nat → Int) (L : Nat) : (nSh zs L : Int) = 1 + mst ((iI (cel zs L 0)) >>> ((iI 3) &&& 31)) 4 ∧ 1 ≤ nSh zs L ∧ nSh zs L ≤ 4 := by
  have := mst_b ((iI (cel zs L 0)) >>> ((iI 3) &&& 31)) (m := 4) (by decide)
  unfold nSh; omega
theorem txI_0 (zs : Nat → Int) (L k : Nat) : txI zs L k 0 = txK zs L k ++ wShe ++ dg (mst (iI (cel zs L (1 + k))) 41) := by unfold txI; simp
theorem txI_s (zs : Nat → Int) (L k i : Nat) : txI zs L k (i + 1) = txI zs L k i ++ lyT (lyV zs L k i) := by
  unfold txI
  rw [List.range_succ, List.map_append, List.flatMap_append, ← List.append_assoc]
  simp
theorem txK_s (zs : Nat → Int) (L k : Nat) : txK zs L (k + 1) = txI zs L k (lyN zs L k) ++ [59] := by
  unfold txI
  conv => lhs; unfold txK
  rw [List.range_succ, List.map_append, List.flatMap_append]
  unfold txK shT shV
  simp [List.append_assoc]
theorem lyT_f {zs : Nat → Int} {L k i : Nat} (c : mst (iI (cel zs L (6 + i + 3 * k))) 2 = 0) : txI zs L k i ++ wDou ++ dg (1 + mst ((iI (cel zs L (6 + i + 3 * k))) >>> ((iI 2) &&& 31)) 60) = txI zs L k (i + 1) := by
  have hb := mst_b ((iI (cel zs L (6 + i + 3 * k))) >>> ((iI 2) &&& 31)) (m := 60) (by decide)
  rw [txI_s]
  unfold lyT lyV
  rw [if_pos c, show isB (1 + mst ((iI (cel zs L (6 + i + 3 * k))) >>> ((iI 2) &&& 31)) 60) = false from decide_eq_false (by omega), if_neg (by simp), show sz (1 + mst ((iI (cel zs L (6 + i + 3 * k))) >>> ((iI 2) &&& 31)) 60) = 1 + mst ((iI (cel zs L (6 + i + 3 * k))) >>> ((iI 2) &&& 31)) 60 from if_neg (by omega), List.append_assoc]
theorem lyT_t {zs : Nat → Int} {L k i : Nat} (c : ¬ mst (iI (cel zs L (6 + i + 3 * k))) 2 = 0) : txI zs L k i ++ wBut ++ dg (1 + mst ((iI (cel zs L (6 + i + 3 * k))) >>> ((iI 2) &&& 31)) 60) = txI zs L k (i + 1) := by
  have hb := mst_b ((iI (cel zs L (6 + i + 3 * k))) >>> ((iI 2) &&& 31)) (m := 60) (by decide)
  rw [txI_s]
  unfold lyT lyV
  rw [if_neg c, show isB (-(1 + mst ((iI (cel zs L (6 + i + 3 * k))) >>> ((iI 2) &&& 31)) 60)) = true from decide_eq_true (by omega), if_pos rfl, show sz (-(1 + mst ((iI (cel zs L (6 + i + 3 * k))) >>> ((iI 2) &&& 31)) 60)) = 1 + mst ((iI (cel zs L (6 + i + 3 * k))) >>> ((iI 2) &&& 31)) 60 by unfold sz; rw [if_pos (by omega)]; omega, List.append_assoc]
theorem lyV_sz (zs : Nat → Int) (L k i : Nat) : 1 ≤ sz (lyV zs L k i) ∧ sz (lyV zs L k i) ≤ 99 := by
  have hb := mst_b ((iI (cel zs L (6 + i + 3 * k))) >>> ((iI 2) &&& 31)) (m := 60) (by decide)
  unfold lyV sz
  split <;> split <;> omega
theorem shV_o (zs : Nat → Int) (L k : Nat) : SHO (shV zs L k) := by
  have h1 := mst_b (iI (cel zs L (1 + k))) (m := 41) (by decide)
  have h2 := lyN_b zs L k
  refine ⟨⟨h1.1, by show mst (iI (cel zs L (1 + k))) 41 ≤ 40; omega⟩, ?_, ?_⟩
  · show 1 ≤ ((List.range (lyN zs L k)).map (lyV zs L k)).length ∧ ((List.range (lyN zs L k)).map (lyV zs L k)).length ≤ 9
    rw [List.length_map, List.length_range]; omega
  · intro x hx
    obtain ⟨i, -, rfl⟩ := List.mem_map.mp hx
    exact lyV_sz zs L k i
def A7 (l : List Int) : Prop := ∀ x ∈ l, 0 ≤ x ∧ x < 128
theorem A7.app {l m : List Int} (h : A7 l) (h' : A7 m) : A7 (l ++ m) := fun x hx => by
  rcases List.mem_append.mp hx with z | z
  · exact h x z
  · exact h' x z
theorem A7.con {l : List Int} (h : l.all (fun x => decide (0 ≤ x) && decide (x < 128)) = true) : A7 l := fun x hx => by
  have := List.all_eq_true.mp h x hx
  simp at this; exact this
theorem A7.dg {i : Int} (hi : 0 ≤ i ∧ i ≤ 99) : A7 (dg i) := fun x hx => by
  have := dg_dig hi x hx
  unfold isDigB at this
  simp at this; omega
theorem A7.ly {x : Int} (hx : 1 ≤ sz x ∧ sz x ≤ 99) : A7 (lyT x) := by
  unfold lyT
  split
  · exact A7.app (A7.con (by decide)) (A7.dg (by omega))
  · exact A7.app (A7.con (by decide)) (A7.dg (by omega))
theorem A7.fm {α : Type} {f : α → List Int} {l : List α} (h : ∀ a ∈ l, A7 (f a)) : A7 (l.flatMap f) := fun x hx => by
  obtain ⟨a, ha, hx⟩ := List.mem_flatMap.mp hx
  exact h a ha x hx
theorem A7.sh {s : Int × List Int} (hs : SHO s) : A7 (shT s) := by
  unfold shT
  exact A7.app (A7.app (A7.app (A7.con (by decide)) (A7.dg (by have := hs.1; omega))) (A7.fm (fun a ha => A7.ly (hs.2.2 a ha)))) (A7.con (by decide))
theorem hdT_b (zs : Nat → Int) (L : Nat) : (0 ≤ (hdT zs L).1 ∧ (hdT zs L).1 ≤ 40) ∧ (5 ≤ (hdT zs L).2.1 ∧ (hdT zs L).2.1 ≤ 35) ∧ 0 ≤ (hdT zs L).2.2 ∧ (hdT zs L).2.2 ≤ 50 := by
  have h1 := mst_b (iI (cel zs L 0)) (m := 41) (by decide)
  have h2 := mst_b ((iI (cel zs L 0)) >>> ((iI 1) &&& 31)) (m := 31) (by decide)
  have h3 := mst_b ((iI (cel zs L 0)) >>> ((iI 2) &&& 31)) (m := 6) (by decide)
  unfold hdT
  simp only
  omega
theorem A7.tx (zs : Nat → Int) (L k : Nat) : A7 (txK zs L k) := by
  have hb := hdT_b zs L
  unfold txK
  refine A7.app ?_ (A7.fm (fun s hs => ?_))
  · unfold beT
    exact A7.app (A7.app (A7.app (A7.app (A7.app (A7.app (A7.con (by decide)) (A7.dg (by omega))) (A7.con (by decide))) (A7.dg (by omega))) (A7.con (by decide))) (A7.dg (by omega))) (A7.con (by decide))
  · obtain ⟨i, -, rfl⟩ := List.mem_map.mp hs
    exact A7.sh (shV_o zs L i)
theorem A7.getD {l : List Int} (h : A7 l) : ∀ k, k < l.length → 0 ≤ l.getD k 0 ∧ l.getD k 0 < 128 := fun k hk => by
  rw [List.getD_eq_getElem?_getD, List.getElem?_eq_getElem hk]
  exact h _ (List.getElem_mem hk)
theorem dg_l (i : Int) : 1 ≤ (dg i).length ∧ (dg i).length ≤ 2 := by unfold dg; split <;> simp
theorem lyT_l (x : Int) : (lyT x).length ≤ 10 := by
  have := dg_l (sz x)
  unfold lyT
  rw [List.length_append]
  split
  · rw [show wBut.length = 8 from rfl]; omega
  · rw [show wDou.length = 7 from rfl]; omega
theorem txI_l (zs : Nat → Int) (L k i : Nat) : (txI zs L k i).length ≤ (txK zs L k).length + 8 + 10 * i := by
  induction i with
  | zero =>
    have := dg_l (mst (iI (cel zs L (1 + k))) 41)
    rw [txI_0, List.length_append, List.length_append, show wShe.length = 6 from rfl]; omega
  | succ i ih =>
    have := lyT_l (lyV zs L k i)
    rw [txI_s, List.length_append]; omega
theorem txK_l (zs : Nat → Int) (L k : Nat) : (txK zs L k).length ≤ 15 + 69 * k := by
  induction k with
  | zero =>
    have h1 := dg_l (hdT zs L).1
    have h2 := dg_l (hdT zs L).2.1
    have h3 := dg_l (hdT zs L).2.2
    unfold txK beT
    simp only [List.length_append, List.range_zero, List.map_nil, List.flatMap_nil, List.length_nil, List.length_cons, show wBen.length = 6 from rfl]
    omega
  | succ k ih =>
    have h1 := txI_l zs L k (lyN zs L k)
    have h2 := lyN_b zs L k
    rw [txK_s, List.length_append, List.length_cons, List.length_nil]; omega
/-- what the law's text says is loaded -/
def B1L (zs : Nat → Int) (L : Nat) : AB := (hd6 (hdT zs L), (((List.range (nSh zs L)).map (shV zs L)).map mdS).map exS)
theorem tx_load (zs : Nat → Int) (L : Nat) : ldB (txK zs L (nSh zs L)) = .inr (B1L zs L) := by
  have hb := hdT_b zs L
  have hn := nSh_b zs L
  exact P_all hb.1 hb.2.1 hb.2.2 (by rw [List.length_map, List.length_range]; omega) (fun s hs => by
    obtain ⟨i, -, rfl⟩ := List.mem_map.mp hs
    exact shV_o zs L i)
theorem B1_len (zs : Nat → Int) (L : Nat) : (B1L zs L).2.length = nSh zs L := by unfold B1L; simp
theorem B1_E (zs : Nat → Int) (L : Nat) : EB (B1L zs L) := by
  refine ⟨fun s hs => ?_, by rw [B1_len]; exact (nSh_b zs L).2.1⟩
  obtain ⟨y, -, rfl⟩ := List.mem_map.mp hs
  rfl
/-! the builder among the law's things -/
theorem WAR.gr {G : xG} {h h' : xH} {w : Nat} {U : List Int} {fp : List Nat} (hw : WAR G h w U) (hF : GRp fp h h') (n : w ∉ fp) : WAR G h' w U := by
  obtain ⟨g, m, f, r⟩ := hw
  exact ⟨g, hF.1 _ m, (hF.2 w m n).trans f, r⟩
def BSW (G : xG) (h : xH) (K : xK) (x : Nat) (ad : XA) (w : Nat) : Prop := (XB G h K x ad S00 ∧ ∀ q ∈ fpX x ad, q ∈ h.1) ∧ WAR G h w [] ∧ w ∉ fpX x ad
theorem BSW.gr {G : xG} {h h' : xH} {K : xK} {x : Nat} {ad : XA} {w : Nat} {fp : List Nat} (hB : BSW G h K x ad w) (hF : GRp fp h h') (n1 : ∀ q ∈ fpX x ad, q ∉ fp) (n2 : w ∉ fp) : BSW G h' K x ad w :=
  ⟨⟨hB.1.1.gr hF n1, fun q hq => hF.1 q (hB.1.2 q hq)⟩, hB.2.1.gr hF n2, hB.2.2⟩
def BST (G : xG) (h : xH) (K : xK) (x : Nat) (ad : XA) (w o : Nat) (T : List Int) : Prop := ∃ (v cap : Nat) (g : Nat → Int32) (ml : Int32), SBB G h o v cap T g ml ∧ BSW G h K x ad w ∧ (o ∉ fpX x ad ∧ v ∉ fpX x ad) ∧ w ≠ o ∧ w ≠ v
theorem BST.rv {G : xG} {h : xH} {K : xK} {x : Nat} {ad : XA} {w o : Nat} {T : List Int} (hB : BST G h K x ad w o T) : x_RV G h RJ4 o := by
  obtain ⟨v, cap, g, ml, hS, -⟩ := hB
  exact x_rv hS.1.1 hS.2.1 rfl
theorem BST.step {G : xG} {h h' : xH} {K : xK} {x : Nat} {ad : XA} {w o v : Nat} {T' : List Int} {ml : Int32} (hB : BSW G h K x ad w) (hn : o ∉ fpX x ad ∧ v ∉ fpX x ad) (hw : w ≠ o ∧ w ≠ v) (hP : SBP G h h' o v T' ml) : BST G h' K x ad w o T' := by
  obtain ⟨v', cap', g', hS', hv, hF⟩ := hP
  obtain ⟨gw, mw, -⟩ := hB.2.1
  refine ⟨v', cap', g', ml, hS', hB.gr hF (fun q hq z => ?_) (fun z => ?_), ⟨hn.1, ?_⟩, hw.1, ?_⟩
  · rcases mem2 z with e | e
    · exact hn.1 (e ▸ hq)
    · exact hn.2 (e ▸ hq)
  · rcases mem2 z with e | e
    · exact hw.1 e
    · exact hw.2 e
  · rcases hv with e | e
    · rw [e]; exact hn.2
    · exact fun z => e (hB.1.2 _ z)
  · rcases hv with e | e
    · rw [e]; exact hw.2
    · intro z; exact e (z ▸ mw)
theorem k_str {G : xG} {h : xH} {K : xK} {x : Nat} {ad : XA} {w o : Nat} {T : List Int} (hB : BST G h K x ad w o T) (hGS : GS G) {s : Nat} {tx : List Int} (hT : STR G s tx) (hn : T.length + tx.length ≤ 320) : CC G MJ4_append_15ec4 [.ref o, .ref s] h (fun o' h' => o' = .inl (some (.ref o)) ∧ BST G h' K x ad w o (T ++ tx)) := by
  obtain ⟨v, cap, g, ml, hS, hW, h1, h2⟩ := hB
  exact rr_mono (c_J4_append_15ec4 hS hGS hT hn) (fun _ _ z => ⟨z.1, BST.step hW h1 h2 z.2⟩)
theorem k_int {G : xG} {h : xH} {K : xK} {x : Nat} {ad : XA} {w o : Nat} {T : List Int} (hB : BST G h K x ad w o T) (hGS : GS G) (hGN : GN G) {i : Int} (hi : 0 ≤ i ∧ i ≤ 99) (hn : T.length ≤ 318) : CC G MJ4_append_bf812 [.ref o, .int (iI i)] h (fun o' h' => o' = .inl (some (.ref o)) ∧ BST G h' K x ad w o (T ++ dg i)) := by
  obtain ⟨v, cap, g, ml, hS, hW, h1, h2⟩ := hB
  exact rr_mono (c_J4_append_bf812 hS hGS hGN hi (by have := dg_l i; omega)) (fun _ _ z => ⟨z.1, BST.step hW h1 h2 z.2⟩)
theorem k_chr {G : xG} {h : xH} {K : xK} {x : Nat} {ad : XA} {w o : Nat} {T : List Int} (hB : BST G h K x ad w o T) (hGS : GS G) {c : Int} (hc : 0 ≤ c ∧ c < 128) (hn : T.length ≤ 319) : CC G MJ4_append_cf468 [.ref o, .int (iI c)] h (fun o' h' => o' = .inl (some (.ref o)) ∧ BST G h' K x ad w o (T ++ [c])) := by
  obtain ⟨v, cap, g, ml, hS, hW, h1, h2⟩ := hB
  exact rr_mono (c_J4_append_cf468 hS hGS hc (by omega)) (fun _ _ z => ⟨z.1, BST.step hW h1 h2 z.2⟩)
theorem k_tos {G : xG} {h : xH} {K : xK} {x : Nat} {ad : XA} {w o : Nat} {T : List Int} (hB : BST G h K x ad w o T) (hGS : GS G) (hGB : GB G) (hl : T.length ≤ 320) (h7 : A7 T) : CC G MJ4_toString_0e30d [.ref o] h (qN (fun s h' => BSW G h' K x ad w ∧ ∃ (q : Nat) (g : Nat → Int32), STO G h' s q T g ∧ (s ≠ w ∧ q ≠ w ∧ s ∉ fpX x ad ∧ q ∉ fpX x ad))) := by
  obtain ⟨v, cap, g, ml, hS, hW, h1, h2⟩ := hB
  refine rr_mono (c_J4_toString_0e30d hS hGS hGB) (fun o' h' z => ?_)
  obtain ⟨s, e, q, g', f1, f2, f3, ⟨n1, n2, m1, m2⟩, hF⟩ := z
  obtain ⟨gw, mw, -⟩ := hW.2.1
  exact ⟨s, e, hW.gr hF (fun _ _ => List.not_mem_nil) List.not_mem_nil, q, g', ⟨⟨m1, m2⟩, f1, f2, hl, f3, h7.getD⟩, fun z => n1 (z ▸ mw), fun z => n2 (z ▸ mw), fun z => n1 (hW.1.2 _ z), fun z => n2 (hW.1.2 _ z)⟩
theorem k_callV9 {G : xG} {M M' : xM} {pc : Nat} {ls : List (Nat × Value)} {st rest st' : List Value} {h : xH} {kc ks : Nat} {Q : xR → xH → Prop} {P : xH → Prop} {w : Option Value} {idx n b : Nat} {As : List Value} {c1 c2 kc' ks' : Nat} (hL : x_LV M idx M' n) (hd : decode M.2.1 pc = .ok (.invokevirtual idx, 3)) (hst : st = As.reverse ++ .ref b :: rest) (hn : As.length = n) (hrest : (rest.map fun v => v.category).sum ≤ 8) (hlen : (lg_sl (.ref b :: As)).length ≤ M'.2.2.1) (hrv : x_RV G h M'.1.cls b) (e1 : (xm_R M').cells = c1) (e2 : (xm_R M').slots = c2) (h1 : kc' + c1 ≤ kc) (h2 : ks' + c2 ≤ ks) (spec : CC G M' (.ref b :: As) h (fun o h' => o = .inl w ∧ P h')) (hw : w.toList ++ rest = st') (kk : ∀ h', P h' → RR G M (pc + 3) ls st' h' kc' ks' Q) : RR G M pc ls st h kc ks Q :=
  k_callV hL hd hst hn hrest hlen hrv (by omega) (by omega) spec hw (fun h' p => rr_room (kk h' p) (by omega) (by omega))
theorem q_callV9 {G : xG} {M M' : xM} {pc : Nat} {ls : List (Nat × Value)} {st rest : List Value} {h : xH} {kc ks : Nat} {Q : xR → xH → Prop} {P : Nat → xH → Prop} {idx n b : Nat} {As : List Value} {c1 c2 kc' ks' : Nat} (hL : x_LV M idx M' n) (hd : decode M.2.1 pc = .ok (.invokevirtual idx, 3)) (hst : st = As.reverse ++ .ref b :: rest) (hn : As.length = n) (hrest : (rest.map fun v => v.category).sum ≤ 8) (hlen : (lg_sl (.ref b :: As)).length ≤ M'.2.2.1) (hrv : x_RV G h M'.1.cls b) (e1 : (xm_R M').cells = c1) (e2 : (xm_R M').slots = c2) (h1 : kc' + c1 ≤ kc) (h2 : ks' + c2 ≤ ks) (spec : CC G M' (.ref b :: As) h (qN P)) (kk : ∀ q h', P q h' → RR G M (pc + 3) ls (.ref q :: rest) h' kc' ks' Q) : RR G M pc ls st h kc ks Q :=
  q_callV hL hd hst hn hrest hlen hrv (by omega) (by omega) spec (fun q h' p => rr_room (kk q h' p) (by omega) (by omega))
