/-! ===== the reference: its beginning ===== -/
theorem kaI : Cond.arrayClass (newarray.typeOf .int) ∈ bg_L := bg_in 81 (by decide +kernel) rfl
theorem w_new {h : xH} {q : Nat} {v : va_E} {P : xH → Prop} (hq : q ∉ h.1) (kk : ∀ h1 : xH, h1.1 = h.1 ++ [q] → h1.2 q = v → (∀ x, x ≠ q → h1.2 x = h.2 x) → P h1) : P (h.1 ++ [q], va_up h.2 q v) :=
  kk _ rfl (by simp [va_up]) (fun x hx => by simp [va_up, hx])
section NEWR
variable {G : xG} {M : xM} {pc : Nat} {ls : List (Nat × Value)} {st : List Value} {h : xH} {kc ks : Nat} {Q : xR → xH → Prop}
theorem i_newI (N : Nat) {e : Int} (he : e = (N : Int)) (hN : N < 100000) (hd : decode M.2.1 pc = .ok (.newarray .int, 2)) (h1 : 1 ≤ kc) (h2 : N ≤ ks)
    (kk : ∀ (q : Nat) (h1 : xH), q ∉ h.1 → h1.1 = h.1 ++ [q] → h1.2 q = .inl (G.2.1 0, N, .inl (fun _ => iI 0)) → (∀ x, x ≠ q → h1.2 x = h.2 x) → RR G M (pc + 2) ls (.ref q :: st) h1 (kc - 1) (ks - N) Q) : RR G M pc ls (.int (iI e) :: st) h kc ks Q := by
  subst he
  have hb : (iI (N : Int)).toInt = (N : Int) := iI_toInt (by unfold in32; omega)
  refine r_newa (t := 0) (N' := N) (ty := .int) (a0 := (N, .inl (fun _ => iI 0))) rfl rfl kaI (fun cA => rfl) hd ?_ ?_ ?_ h1 h2 (fun q hq => ?_)
  · rw [Int32.lt_iff_toInt_lt, hb]; show ¬ ((N : Int) < 0); omega
  · show (iI (N : Int)).toInt.toNat = N; rw [hb]; rfl
  · show N * 4 ≤ 536870912; omega
  · exact w_new (P := fun h1 => RR G M (pc + 2) ls (.ref q :: st) h1 (kc - 1) (ks - N) Q) hq (fun h1 e1 e2 e3 => kk q h1 hq e1 e2 e3)
theorem r_newqZ {t N' idx : Nat} {C : String} {n : Int32} (ht : (x_tys G.2.1)[t]? = some (G.2.1 t, .object C)) (hl : Cond.classLink M.1.cls idx C ∈ bg_L) (hZ : x_zz G (fun _ U _ => va_AO C U)) (hd : decode M.2.1 pc = .ok (.anewarray idx, 3)) (hn : ¬ n < 0) (hN : n.toNatClampNeg = N') (hb : N' * 4 ≤ 536870912) (h1 : 1 ≤ kc) (h2 : N' ≤ ks)
    (kk : ∀ q : Nat, q ∉ h.1 → RR G M (pc + 3) ls (.ref q :: st) (h.1 ++ [q], va_up h.2 q (.inl (G.2.1 t, N', .inr (.inr (.inr (.inr (fun _ => none))))))) (kc - 1) (ks - N') Q) : RR G M pc ls (.int n :: st) h kc ks Q := by
  intro p l e R s m args below meth c E H locs cells slots lsA S
  have hc := S.2.2.2.1
  have hs := S.2.2.2.2
  have hR : R = xm_R M := E.2.2.2.2.2.2.1
  subst hR
  refine va_newq E.1.1 E.1.2.1 E.1.2.2.2.1 (E.1.2.2.2.2 _ hl) (hZ s E.2.2.2.2.2.2.2.2.2.1) E.2.2.2.2.2.2.2.2.1 S.2.1.1 S.2.1.2 S.2.2.1 (fun q hq => Nat.le_trans E.2.2.2.2.2.2.2.1 hq) hn hN hb (by omega) (by omega) hd (fun q cA H1 hK hP hD hS => ?_)
  have hcA : cA = G.2.1 t := x_ra_inj (x_last hK) (E.2.2.2.2.2.2.2.2.1.2 t _ ht).2
  subst hcA
  have hq := x_fresh hD
  rw [va_pl_push hq] at hP hD
  exact kk q hq p l e _ s m args below meth c E H1 locs (cells + 1) (slots + N') lsA ⟨S.1, ⟨hP, hD⟩, hS, by show cells + 1 + (kc - 1) ≤ _; omega, by show slots + N' + (ks - N') ≤ _; omega⟩
end NEWR
