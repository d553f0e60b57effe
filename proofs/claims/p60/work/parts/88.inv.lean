/-! ===== what stays true of the state between two calls ===== -/
def PRP {α : Type} (P : α → Prop) (r : PR α) : Prop := match r with | .inl e => 1 ≤ e.1 ∧ e.1 ≤ 3 | .inr a => P a.1
theorem PRP.er {α : Type} {P : α → Prop} {T : List Int} {p : Nat} {c : Int} (h : 1 ≤ c ∧ c ≤ 3) : PRP P (sErr T p c : PR α) := h
theorem sWord_p (T : List Int) (p : Nat) (w : List Int) : PRP (fun _ => True) (sWord T p w) := by
  unfold sWord
  split
  · exact True.intro
  · exact PRP.er (by omega)
theorem sSemi_p (T : List Int) (p : Nat) : PRP (fun _ => True) (sSemi T p) := by
  unfold sSemi
  split
  · exact True.intro
  · exact PRP.er (by omega)
theorem sNum_p (T : List Int) (p : Nat) (lo hi : Int) : PRP (fun a => lo ≤ a ∧ a ≤ hi) (sNum T p lo hi) := by
  unfold sNum
  split
  · split
    · exact PRP.er (by omega)
    · split
      · exact PRP.er (by omega)
      · show lo ≤ nVal T p ∧ nVal T p ≤ hi; omega
  · exact PRP.er (by omega)
theorem sLayer_p (T : List Int) (p : Nat) : PRP (fun a => a ≠ 0 ∧ -400 ≤ a ∧ a ≤ 400) (sLayer T p) := by
  unfold sLayer
  split
  · have h1 := sNum_p T (tokAt T p).2.2 1 400
    revert h1
    cases sNum T (tokAt T p).2.2 1 400 with
    | inl e => exact fun h => h
    | inr a =>
      intro h1
      have h1 : 1 ≤ a.1 ∧ a.1 ≤ 400 := h1
      show (if isW T (tokAt T p) (txS 3) = true then -a.1 else a.1) ≠ 0 ∧ -400 ≤ (if isW T (tokAt T p) (txS 3) = true then -a.1 else a.1) ∧ (if isW T (tokAt T p) (txS 3) = true then -a.1 else a.1) ≤ 400
      split <;> omega
  · exact PRP.er (by omega)
theorem sEnd_p (T : List Int) (p : Nat) : PRP (fun l => l = []) (sEnd T p) := by
  unfold sEnd
  split
  · exact PRP.er (by omega)
  · have h1 := sSemi_p T p
    revert h1
    cases sSemi T p with
    | inl e => exact fun h => h
    | inr a => exact fun _ => rfl
def LYS (n : Nat) (l : List Int) : Prop := l.length ≤ n ∧ ∀ x ∈ l, x ≠ 0 ∧ -400 ≤ x ∧ x ≤ 400
theorem LYS.cons {n : Nat} {l : List Int} {x : Int} (hx : x ≠ 0 ∧ -400 ≤ x ∧ x ≤ 400) (h : LYS n l) : LYS (n + 1) (x :: l) := ⟨by simp; exact h.1, fun y hy => by
  rcases List.mem_cons.mp hy with e | e
  · rw [e]; exact hx
  · exact h.2 y e⟩
theorem LYS.nil {n : Nat} : LYS n [] := ⟨Nat.zero_le _, fun _ h => absurd h List.not_mem_nil⟩
theorem sRest_p (T : List Int) : ∀ (f p : Nat), PRP (LYS f) (sRest T f p) := by
  have fin : ∀ (f p : Nat), PRP (LYS f) (sEnd T p) := by
    intro f p
    have h1 := sEnd_p T p
    revert h1
    cases sEnd T p with
    | inl e => exact fun h => h
    | inr a =>
      intro h1
      have h1 : a.1 = [] := h1
      show LYS f a.1
      rw [h1]; exact LYS.nil
  intro f
  induction f with
  | zero => intro p; exact fin 0 p
  | succ f ih =>
    intro p
    unfold sRest
    split
    · exact fin _ p
    · have h1 := sLayer_p T p
      revert h1
      cases sLayer T p with
      | inl e => exact fun h => h
      | inr a =>
        intro h1
        dsimp only
        have h2 := ih a.2
        revert h2
        cases sRest T f a.2 with
        | inl e => exact fun h => h
        | inr b => exact fun h2 => LYS.cons h1 h2
def SHP (x : Int × List Int) : Prop := (0 ≤ x.1 ∧ x.1 ≤ 40) ∧ 1 ≤ x.2.length ∧ LYS 9 x.2
theorem sSheet_p (T : List Int) (p : Nat) : PRP SHP (sSheet T p) := by
  unfold sSheet
  have h1 := sWord_p T p (txS 0)
  revert h1
  cases sWord T p (txS 0) with
  | inl e => exact fun h => h
  | inr a =>
    intro h1
    dsimp only
    have h2 := sNum_p T a.2 0 40
    revert h2
    cases sNum T a.2 0 40 with
    | inl e => exact fun h => h
    | inr b =>
      intro h2
      dsimp only
      have h3 := sLayer_p T b.2
      revert h3
      cases sLayer T b.2 with
      | inl e => exact fun h => h
      | inr c =>
        intro h3
        dsimp only
        have h4 := sRest_p T 8 c.2
        revert h4
        cases sRest T 8 c.2 with
        | inl e => exact fun h => h
        | inr d => exact fun h4 => ⟨h2, by simp, LYS.cons h3 h4⟩
theorem sFin_p (T : List Int) (p : Nat) : PRP (fun l => l = []) (sFin T p) := by
  unfold sFin
  split
  · rfl
  · exact PRP.er (by split <;> omega)
def SHSP (l : List (Int × List Int)) : Prop := ∀ x ∈ l, SHP x
theorem sSheets_p (T : List Int) : ∀ (f p : Nat), PRP SHSP (sSheets T f p) := by
  have fin : ∀ (p : Nat), PRP SHSP (sFin T p) := by
    intro p
    have h1 := sFin_p T p
    revert h1
    cases sFin T p with
    | inl e => exact fun h => h
    | inr a =>
      intro h1
      have h1 : a.1 = [] := h1
      show SHSP a.1
      rw [h1]; exact fun _ h => absurd h List.not_mem_nil
  intro f
  induction f with
  | zero => intro p; exact fin p
  | succ f ih =>
    intro p
    unfold sSheets
    split
    · exact fin p
    · have h1 := sSheet_p T p
      revert h1
      cases sSheet T p with
      | inl e => exact fun h => h
      | inr a =>
        intro h1
        dsimp only
        have h2 := ih a.2
        revert h2
        cases sSheets T f a.2 with
        | inl e => exact fun h => h
        | inr b =>
          intro h2
          have h1 : SHP a.1 := h1
          have h2 : SHSP b.1 := h2
          show SHSP (a.1 :: b.1)
          intro x hx
          rcases List.mem_cons.mp hx with e | e
          · rw [e]; exact h1
          · exact h2 x e
def HDP (x : Int × Int × Int) : Prop := (0 ≤ x.1 ∧ x.1 ≤ 40) ∧ (5 ≤ x.2.1 ∧ x.2.1 ≤ 35) ∧ 0 ≤ x.2.2 ∧ x.2.2 ≤ 50
theorem sHead_p (T : List Int) (p : Nat) : PRP HDP (sHead T p) := by
  unfold sHead
  have h1 := sWord_p T p (txS 1)
  revert h1
  cases sWord T p (txS 1) with
  | inl e => exact fun h => h
  | inr a =>
    intro h1
    dsimp only
    have h2 := sNum_p T a.2 0 40
    revert h2
    cases sNum T a.2 0 40 with
    | inl e => exact fun h => h
    | inr b =>
      intro h2
      dsimp only
      have h3 := sNum_p T b.2 5 35
      revert h3
      cases sNum T b.2 5 35 with
      | inl e => exact fun h => h
      | inr c =>
        intro h3
        dsimp only
        have h4 := sNum_p T c.2 0 50
        revert h4
        cases sNum T c.2 0 50 with
        | inl e => exact fun h => h
        | inr d =>
          intro h4
          dsimp only
          have h5 := sSemi_p T d.2
          revert h5
          cases sSemi T d.2 with
          | inl e => exact fun h => h
          | inr x =>
            intro h5
            dsimp only
            exact ⟨h2, h3, h4⟩
theorem sBench_p (T : List Int) : PRP (fun x => HDP x.1 ∧ SHSP x.2) (sBench T) := by
  unfold sBench
  have h1 := sHead_p T 0
  revert h1
  cases sHead T 0 with
  | inl e => exact fun h => h
  | inr a =>
    intro h1
    dsimp only
    have h2 := sSheets_p T 6 a.2
    revert h2
    cases sSheets T 6 a.2 with
    | inl e => exact fun h => h
    | inr b =>
      intro h2
      dsimp only
      exact ⟨h1, h2⟩
theorem sSec_p (T : List Int) (k p : Nat) : PRP (fun _ => True) (sSec T k p) := by
  unfold sSec
  split
  · have h1 := sNum_p T p (cLo2 k) (cHi2 k)
    revert h1
    cases sNum T p (cLo2 k) (cHi2 k) with
    | inl e => exact fun h => h
    | inr a => exact fun _ => True.intro
  · exact True.intro
theorem sCmd_p (T : List Int) (p : Nat) : PRP (fun _ => True) (sCmd T p) := by
  unfold sCmd
  split
  · exact PRP.er (by omega)
  · skip
    have h1 := sNum_p T (tokAt T p).2.2 (cLo (fndC T p).toNat) (cHi (fndC T p).toNat)
    revert h1
    cases sNum T (tokAt T p).2.2 (cLo (fndC T p).toNat) (cHi (fndC T p).toNat) with
    | inl e => exact fun h => h
    | inr a =>
      intro h1
      dsimp only
      have h2 := sSec_p T (fndC T p).toNat a.2
      revert h2
      cases sSec T (fndC T p).toNat a.2 with
      | inl e => exact fun h => h
      | inr b =>
        intro h2
        dsimp only
        have h3 := sSemi_p T b.2
        revert h3
        cases sSemi T b.2 with
        | inl e => exact fun h => h
        | inr c =>
          intro h3
          dsimp only
          exact True.intro
theorem sCmds_p (T : List Int) : ∀ (f p : Nat), PRP (fun _ => True) (sCmds T f p) := by
  have fin : ∀ (p : Nat), PRP (fun _ => True) (sFinC T p) := by
    intro p
    unfold sFinC
    split
    · exact True.intro
    · exact PRP.er (by split <;> omega)
  intro f
  induction f with
  | zero => intro p; exact fin p
  | succ f ih =>
    intro p
    unfold sCmds
    split
    · exact fin p
    · have h1 := sCmd_p T p
      revert h1
      cases sCmd T p with
      | inl e => exact fun h => h
      | inr a =>
        intro h1
        dsimp only
        have h2 := ih a.2
        revert h2
        cases sCmds T f a.2 with
        | inl e => exact fun h => h
        | inr b => exact fun _ => True.intro
theorem ldB_e {T : List Int} {e : Int × Int} (h : ldB T = .inl e) : 1 ≤ e.1 ∧ e.1 ≤ 3 := by
  unfold ldB at h
  have h1 := sBench_p T
  revert h h1
  cases sBench T with
  | inl e' => intro h h1; cases h; exact h1
  | inr a => intro h; cases h
theorem ldC_e {T : List Int} {e : Int × Int} (h : ldC T = .inl e) : 1 ≤ e.1 ∧ e.1 ≤ 3 := by
  unfold ldC at h
  have h1 : PRP (fun _ => True) (sScript T) := sCmds_p T 20 0
  revert h h1
  cases sScript T with
  | inl e' => intro h h1; cases h; exact h1
  | inr a => intro h; cases h
theorem hgt_lys {n : Nat} {l : List Int} (h : LYS n l) : hgt l ≤ 400 * (l.length : Int) := by
  obtain ⟨-, h⟩ := h
  induction l with
  | nil => simp [hgt]
  | cons x t ih =>
    have h1 := ih (fun y hy => h y (List.mem_cons_of_mem _ hy))
    have h2 := h x List.mem_cons_self
    have e : hgt (x :: t) = sz x + hgt t := by simp [hgt]
    have e2 : sz x ≤ 400 := by unfold sz; split <;> omega
    rw [e, List.length_cons]; push_cast; omega
theorem SHP.ws {x : Int × List Int} (h : SHP x) : WS (exS (mdS x)) := by
  obtain ⟨h1, h2, h3⟩ := h
  have h4 := hgt_lys h3
  have h5 := h3.1
  exact ⟨h2, fun y hy => (h3.2 y hy).1, by show hgt x.2 ≤ 4000; omega, h1.1, h1.2⟩
theorem ldB_k {T : List Int} {B : AB} (h : ldB T = .inr B) : WB B ∧ cnt isC B.2 ≤ 3 := by
  unfold ldB at h
  have h1 := sBench_p T
  revert h h1
  cases sBench T with
  | inl e' => intro h; cases h
  | inr a =>
    intro h h1
    have h1 : HDP a.1.1 ∧ SHSP a.1.2 := h1
    have e : B = (hd6 a.1.1, (a.1.2.map mdS).map exS) := by rw [ld_eq]; cases h; rfl
    rw [e]
    obtain ⟨⟨h2, h3, h4⟩, h5⟩ := h1
    refine ⟨⟨fun s hs => ?_, h2, h3, ⟨h4.1, by show a.1.1.2.2 ≤ 999; omega⟩, by show (0 : Int) ≤ 0 ∧ (0 : Int) ≤ 9999; omega⟩, ?_⟩
    · obtain ⟨s1, hs1, rfl⟩ := List.mem_map.mp hs
      obtain ⟨x, hx, rfl⟩ := List.mem_map.mp hs1
      exact (h5 x hx).ws
    · have z : ((a.1.2.map mdS).map exS).filter isC = [] := List.filter_eq_nil_iff.mpr (fun s hs => by
        obtain ⟨s1, hs1, rfl⟩ := List.mem_map.mp hs
        obtain ⟨x, hx, rfl⟩ := List.mem_map.mp hs1
        show ¬ (false = true)
        decide)
      show ((((a.1.2.map mdS).map exS).filter isC).length : Int) ≤ 3
      rw [z]; decide
theorem WB.but {B : AB} {z q : Int} (hW : WB B) (h : rBut B z q = 0) : WB (aBut B z.toNat q) := by
  unfold rBut at h
  split at h
  · rename_i hs
    split at h
    · cases h
    · split at h
      · cases h
      · have hz : z.toNat < B.2.length := by simp [hasS] at hs; omega
        exact hW.set (but_ok (hW.1 _ (getD_memS hz)) (by omega) h).2
  · cases h
theorem CB_but {B : AB} {z q : Int} (h : rBut B z q = 0) (hc : cnt isC B.2 ≤ 3) : cnt isC (aBut B z.toNat q).2 ≤ 3 := by
  unfold rBut at h
  split at h
  · rename_i hs
    have hz : z.toNat < B.2.length := by simp [hasS] at hs; omega
    show cnt isC (B.2.set z.toNat (butS (B.2.getD z.toNat dS) q)) ≤ 3
    rw [CB_same (s' := butS (B.2.getD z.toNat dS) q) hz rfl]; exact hc
  · cases h
theorem WB.flo {B : AB} {z : Int} (hW : WB B) (h : rFlour B z = 0) : WB (aFlour B z) := by
  obtain ⟨h1, h2, h3, h4, h5⟩ := hW
  unfold rFlour at h
  split at h
  · cases h
  · split at h
    · cases h
    · split at h
      · cases h
      · exact ⟨h1, h2, h3, by show 0 ≤ B.1.2.2.1 + z ∧ B.1.2.2.1 + z ≤ 999; omega, h5⟩
/-- what stays true of the state -/
def IV (S : XS) : Prop := WX S ∧ cnt isC S.2.2.1.2 ≤ 3 ∧ (∀ B ∈ S.2.2.2.2.1, cnt isC B.2 ≤ 3) ∧ ∀ B, S.2.2.2.1 = some B → cnt isC B.2 ≤ 3
theorem remH_mem {Hs : List AB} {B X : AB} (h : X ∈ remH Hs B) : X ∈ Hs ∨ X = B := by
  unfold remH at h
  rcases List.mem_append.mp h with z | z
  · split at z
    · exact Or.inl z
    · exact Or.inl (List.mem_of_mem_drop z)
  · exact Or.inr (List.mem_singleton.mp z)
theorem IV.chg {S : XS} (h : IV S) {inp : List Int} {e : Int × Int} {B' : AB} (he : in32 e.1) (hw : WB B') (hc : cnt isC B'.2 ≤ 3) : IV (inp, e, B', S.2.2.2.1, remH S.2.2.2.2.1 S.2.2.1, S.2.2.2.2.2) := by
  obtain ⟨⟨w1, w2, w3, w4⟩, h2, h3, h4⟩ := h
  exact ⟨⟨hw, fun X hX => (remH_mem hX).elim (w2 X) (fun e => by rw [e]; exact w1), w3, he⟩, hc, fun X hX => (remH_mem hX).elim (h3 X) (fun e => by rw [e]; exact h2), h4⟩
theorem IV.out {S : XS} (h : IV S) {out : List Int} : IV (S.1, S.2.1, S.2.2.1, S.2.2.2.1, S.2.2.2.2.1, out) := h
theorem IV.inp {S : XS} (h : IV S) {inp : List Int} : IV (inp, S.2) := h
theorem IV.err {S : XS} (h : IV S) {inp : List Int} {e : Int × Int} (he : 1 ≤ e.1 ∧ e.1 ≤ 3) : IV (inp, e, S.2.2) := ⟨⟨h.1.1, h.1.2.1, h.1.2.2.1, by show in32 e.1; unfold in32; omega⟩, h.2⟩
theorem IV.load {S : XS} (h : IV S) {B : AB} (hb : WB B ∧ cnt isC B.2 ≤ 3) : IV ([], (0, -1), B, none, [], S.2.2.2.2.2) := ⟨⟨hb.1, fun _ z => absurd z List.not_mem_nil, (fun _ z => by cases z), by show in32 0; exact ⟨by decide, by decide⟩⟩, hb.2, fun _ z => absurd z List.not_mem_nil, fun _ z => by cases z⟩
theorem IV.save {S : XS} (h : IV S) : IV (S.1, S.2.1, S.2.2.1, some S.2.2.1, S.2.2.2.2.1, S.2.2.2.2.2) := ⟨⟨h.1.1, h.1.2.1, fun _ z => by cases z; exact h.1.1, h.1.2.2.2⟩, h.2.1, h.2.2.1, fun _ z => by cases z; exact h.2.1⟩
theorem IV.rest {S : XS} (h : IV S) {B0 : AB} (hs : S.2.2.2.1 = some B0) : IV (S.1, S.2.1, B0, some B0, [], S.2.2.2.2.2) := ⟨⟨h.1.2.2.1 B0 hs, fun _ z => absurd z List.not_mem_nil, fun _ z => by cases z; exact h.1.2.2.1 B0 hs, h.1.2.2.2⟩, h.2.2.2 B0 hs, fun _ z => absurd z List.not_mem_nil, fun _ z => by cases z; exact h.2.2.2 B0 hs⟩
theorem IV.undo {S : XS} (h : IV S) (h1 : 1 ≤ S.2.2.2.2.1.length) : IV (S.1, S.2.1, S.2.2.2.2.1.getD (S.2.2.2.2.1.length - 1) dB, S.2.2.2.1, S.2.2.2.2.1.dropLast, S.2.2.2.2.2) := by
  have hm : S.2.2.2.2.1.getD (S.2.2.2.2.1.length - 1) dB ∈ S.2.2.2.2.1 := by rw [getD_eqB (by omega)]; exact List.getElem_mem _
  exact ⟨⟨h.1.2.1 _ hm, fun X hX => h.1.2.1 X (((List.dropLast_sublist _).subset hX)), h.1.2.2.1, h.1.2.2.2⟩, h.2.2.1 _ hm, fun X hX => h.2.2.1 X (((List.dropLast_sublist _).subset hX)), h.2.2.2⟩
theorem IV.s00 : IV S00 := by
  refine ⟨⟨⟨fun s hs => ?_, ⟨by decide, by decide⟩, ⟨by decide, by decide⟩, ⟨by decide, by decide⟩, ⟨by decide, by decide⟩⟩, fun _ z => absurd z List.not_mem_nil, (fun _ z => by cases z), ⟨by decide, by decide⟩⟩, by decide, fun _ z => absurd z List.not_mem_nil, fun _ z => by cases z⟩
  have hs : s = ([60, -40, 60], 3, 10, iI 0, false, false, false) ∨ s = ([30, -9, 25, -3, 30], 5, 20, iI 0, false, false, false) := by simpa [S00, B00] using hs
  rcases hs with e | e <;> rw [e]
  · exact ⟨by decide, by decide, by decide, by decide, by decide⟩
  · exact ⟨by decide, by decide, by decide, by decide, by decide⟩
/-! numbers -/
theorem dec32_nn {a : UInt32} (h : vf_n32 a) : Jvm.FP.Core.decode Jvm.FP.Core.b32 a.toNat ≠ .nan := by
  have h1 : a.toNat % 2147483648 ≤ 2139095040 := by
    have e : (a &&& 0x7fffffff).toNat = a.toNat % 2147483648 := by
      rw [UInt32.toNat_and]
      show a.toNat &&& (2 ^ 31 - 1) = _
      rw [Nat.and_two_pow_sub_one_eq_mod]
    have h2 : (a &&& 0x7fffffff) ≤ 0x7f800000 := h
    rw [UInt32.le_iff_toNat_le, e] at h2
    exact h2
  generalize a.toNat = n at h1
  show (if n / 8388608 % 256 = 255 then (if n % 8388608 = 0 then Jvm.FP.Core.Datum.inf (Jvm.FP.Core.fieldS Jvm.FP.Core.b32 n) else .nan) else if n / 8388608 % 256 = 0 then _ else _) ≠ Jvm.FP.Core.Datum.nan
  split
  · split
    · intro z; cases z
    · omega
  · split <;> (intro z; cases z)
theorem dec64_nn {a : UInt64} (h : vf_n64 a) : Jvm.FP.Core.decode Jvm.FP.Core.b64 a.toNat ≠ .nan := by
  have h1 : a.toNat % 9223372036854775808 ≤ 9218868437227405312 := by
    have e : (a &&& 0x7fffffffffffffff).toNat = a.toNat % 9223372036854775808 := by
      rw [UInt64.toNat_and]
      show a.toNat &&& (2 ^ 63 - 1) = _
      rw [Nat.and_two_pow_sub_one_eq_mod]
    have h2 : (a &&& 0x7fffffffffffffff) ≤ 0x7ff0000000000000 := h
    rw [UInt64.le_iff_toNat_le, e] at h2
    exact h2
  generalize a.toNat = n at h1
  show (if n / 4503599627370496 % 2048 = 2047 then (if n % 4503599627370496 = 0 then Jvm.FP.Core.Datum.inf (Jvm.FP.Core.fieldS Jvm.FP.Core.b64 n) else .nan) else if n / 4503599627370496 % 2048 = 0 then _ else _) ≠ Jvm.FP.Core.Datum.nan
  split
  · split
    · intro z; cases z
    · omega
  · split <;> (intro z; cases z)
theorem f2d_nn {a : UInt32} (h : vf_n32 a) : vf_n64 (FP.f2d a) := by
  have hn := dec32_nn h
  have e : FP.f2d a = UInt64.ofNat (Jvm.FP.Core.encode Jvm.FP.Core.b64 (Jvm.FP.Core.round Jvm.FP.Core.b64 (Jvm.FP.Core.decode Jvm.FP.Core.b32 a.toNat))) := by
    unfold Jvm.FP.f2d
    rw [if_neg]
    · rfl
    · intro z
      exact hn (of_decide_eq_true z)
  rw [e]
  refine n64_of (gd_e64 ?_)
  revert hn
  cases Jvm.FP.Core.decode Jvm.FP.Core.b32 a.toNat with
  | nan => exact fun z => absurd rfl z
  | inf s => exact fun _ => True.intro
  | fin s c q => exact fun _ => gd_ratio (by decide) (by decide)
theorem cmp_self (i : Int) : compare i i = .eq := by
  show compareOfLessAndEq i i = .eq
  unfold compareOfLessAndEq
  rw [if_neg (Int.lt_irrefl i), if_pos rfl]
theorem dcmp_self {a : UInt64} (h : vf_n64 a) : FP.dcmp a a = some .eq := by
  have hn := dec64_nn h
  show Jvm.FP.Core.order (Jvm.FP.Core.decode Jvm.FP.Core.b64 a.toNat) (Jvm.FP.Core.decode Jvm.FP.Core.b64 a.toNat) = some .eq
  revert hn
  cases Jvm.FP.Core.decode Jvm.FP.Core.b64 a.toNat with
  | nan => exact fun z => absurd rfl z
  | inf s => exact fun _ => congrArg some (cmp_self _)
  | fin s c q => exact fun _ => congrArg some (cmp_self _)
