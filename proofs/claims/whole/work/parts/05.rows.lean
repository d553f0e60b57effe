/-! ===== rows of the core, second half: compares, fields, arrays, ends, calls, throws ===== -/
section ROWS
variable {G : xG} {M : xM} {h : xH} {pc : Nat} {ls ls' : List (Nat × Value)} {st : List Value} {kc ks : Nat} {Q : xR → xH → Prop} {x y : Int32} {i : Nat}
theorem r_idiv (hd : decode M.2.1 pc = .ok (.idiv, 1)) (hy : ¬ y = 0) (k : RR G M (pc + 1) ls (.int (x / y) :: st) h kc ks Q) : RR G M pc ls (.int y :: .int x :: st) h kc ks Q := rr_of k fun _ _ _ _ _ _ _ _ _ _ _ _ _ _ _ _ E _ kk => lv_idiv E.1.1 E.1.2.1 hd hy kk
theorem r_irem (hd : decode M.2.1 pc = .ok (.irem, 1)) (hy : ¬ y = 0) (k : RR G M (pc + 1) ls (.int (x - x / y * y) :: st) h kc ks Q) : RR G M pc ls (.int y :: .int x :: st) h kc ks Q := rr_of k fun _ _ _ _ _ _ _ _ _ _ _ _ _ _ _ _ E _ kk => lv_irem E.1.1 E.1.2.1 hd hy kk
theorem r_ineg (hd : decode M.2.1 pc = .ok (.ineg, 1)) (k : RR G M (pc + 1) ls (.int (-x) :: st) h kc ks Q) : RR G M pc ls (.int x :: st) h kc ks Q := rr_of k fun _ _ _ _ _ _ _ _ _ _ _ _ _ _ _ _ E _ kk => lv_ineg E.1.1 E.1.2.1 hd kk
theorem r_ishr (hd : decode M.2.1 pc = .ok (.ishr, 1)) (k : RR G M (pc + 1) ls (.int (x >>> (y &&& 31)) :: st) h kc ks Q) : RR G M pc ls (.int y :: .int x :: st) h kc ks Q := rr_of k fun _ _ _ _ _ _ _ _ _ _ _ _ _ _ _ _ E _ kk => lv_ishr E.1.1 E.1.2.1 hd kk
theorem r_iushr (hd : decode M.2.1 pc = .ok (.iushr, 1)) (k : RR G M (pc + 1) ls (.int ((x.toUInt32 >>> (y.toUInt32 &&& Int32.toUInt32 31)).toInt32) :: st) h kc ks Q) : RR G M pc ls (.int y :: .int x :: st) h kc ks Q := rr_of k fun _ _ _ _ _ _ _ _ _ _ _ _ _ _ _ _ E _ kk => lv_iushr E.1.1 E.1.2.1 hd rfl kk
theorem r_dup2 {v w : Value} (hd : decode M.2.1 pc = .ok (.dup2, 1)) (hv : v.category = 1) (hw : w.category = 1) (k : RR G M (pc + 1) ls (v :: w :: v :: w :: st) h kc ks Q) : RR G M pc ls (v :: w :: st) h kc ks Q := rr_of k fun _ _ _ _ _ _ _ _ _ _ _ _ _ _ _ _ E _ kk => lv_dup2_11 E.1.1 E.1.2.1 hd hv hw kk
theorem r_null (hd : decode M.2.1 pc = .ok (.aconst_null, 1)) (k : RR G M (pc + 1) ls (.null :: st) h kc ks Q) : RR G M pc ls st h kc ks Q := rr_of k fun _ _ _ _ _ _ _ _ _ _ _ _ _ _ _ _ E _ kk => lv_null E.1.1 E.1.2.1 hd kk
theorem r_ldc {idx : Nat} {v : Int32} (hw : Cond.constant M.1.cls idx v ∈ bg_L) (hd : decode M.2.1 pc = .ok (.ldc idx, 2)) (k : RR G M (pc + 2) ls (.int v :: st) h kc ks Q) : RR G M pc ls st h kc ks Q := rr_of k fun _ _ _ _ _ _ _ _ _ _ _ _ _ _ _ _ E _ kk => lv_ldc E.1.1 E.1.2.1 E.1.2.2.2.1 (E.1.2.2.2.2 _ hw) hd kk
/-! longs, floats, doubles -/
theorem r_i2l (hd : decode M.2.1 pc = .ok (.i2l, 1)) (k : RR G M (pc + 1) ls (.long x.toInt64 :: st) h kc ks Q) : RR G M pc ls (.int x :: st) h kc ks Q := rr_of k fun _ _ _ _ _ _ _ _ _ _ _ _ _ _ _ _ E _ kk => lv_i2l E.1.1 E.1.2.1 hd rfl kk
theorem r_lconst {n : Fin 2} (hd : decode M.2.1 pc = .ok (.lconst n, 1)) (k : RR G M (pc + 1) ls (.long (Int64.ofNat (n : Nat)) :: st) h kc ks Q) : RR G M pc ls st h kc ks Q := rr_of k fun _ _ _ _ _ _ _ _ _ _ _ _ _ _ _ _ E _ kk => lv_lconst E.1.1 E.1.2.1 hd rfl kk
theorem r_lcmp {a b : Int64} (hd : decode M.2.1 pc = .ok (.lcmp, 1)) (k : RR G M (pc + 1) ls (.int (lg_cmp a b) :: st) h kc ks Q) : RR G M pc ls (.long b :: .long a :: st) h kc ks Q := rr_of k fun _ _ _ _ _ _ _ _ _ _ _ _ _ _ _ _ E _ kk => W.lcmp E.1.1 E.1.2.1 hd kk
theorem r_i2f (hd : decode M.2.1 pc = .ok (.i2f, 1)) (k : RR G M (pc + 1) ls (.float (FP.i2f x) :: st) h kc ks Q) : RR G M pc ls (.int x :: st) h kc ks Q := rr_of k fun _ _ _ _ _ _ _ _ _ _ _ _ _ _ _ _ E _ kk => lv_i2f E.1.1 E.1.2.1 hd kk
theorem r_i2d (hd : decode M.2.1 pc = .ok (.i2d, 1)) (k : RR G M (pc + 1) ls (.double (FP.i2d x) :: st) h kc ks Q) : RR G M pc ls (.int x :: st) h kc ks Q := rr_of k fun _ _ _ _ _ _ _ _ _ _ _ _ _ _ _ _ E _ kk => lv_i2d E.1.1 E.1.2.1 hd kk
theorem r_f2d {a : UInt32} (hd : decode M.2.1 pc = .ok (.f2d, 1)) (hn : vf_n64 (FP.f2d a)) (k : RR G M (pc + 1) ls (.double (FP.f2d a) :: st) h kc ks Q) : RR G M pc ls (.float a :: st) h kc ks Q := rr_of k fun _ _ _ _ _ _ _ _ _ _ _ _ _ _ _ _ E _ kk => lv_f2d E.1.1 E.1.2.1 hd hn kk
theorem r_fdiv {a b : UInt32} (hd : decode M.2.1 pc = .ok (.fdiv, 1)) (hn : vf_n32 (FP.fdiv a b)) (k : RR G M (pc + 1) ls (.float (FP.fdiv a b) :: st) h kc ks Q) : RR G M pc ls (.float b :: .float a :: st) h kc ks Q := rr_of k fun _ _ _ _ _ _ _ _ _ _ _ _ _ _ _ _ E _ kk => lv_fdiv E.1.1 E.1.2.1 hd hn kk
theorem r_ddiv {a b : UInt64} (hd : decode M.2.1 pc = .ok (.ddiv, 1)) (hn : vf_n64 (FP.ddiv a b)) (k : RR G M (pc + 1) ls (.double (FP.ddiv a b) :: st) h kc ks Q) : RR G M pc ls (.double b :: .double a :: st) h kc ks Q := rr_of k fun _ _ _ _ _ _ _ _ _ _ _ _ _ _ _ _ E _ kk => lv_ddiv E.1.1 E.1.2.1 hd hn kk
theorem r_fcmp {a b : UInt32} {op : CmpOp} (hd : decode M.2.1 pc = .ok (.fcmp op, 1)) (k : RR G M (pc + 1) ls (.int (Op.cmpValue (FP.fcmp a b) op) :: st) h kc ks Q) : RR G M pc ls (.float b :: .float a :: st) h kc ks Q := rr_of k fun _ _ _ _ _ _ _ _ _ _ _ _ _ _ _ _ E _ kk => lv_fcmp E.1.1 E.1.2.1 hd kk
theorem r_dcmp {a b : UInt64} {op : CmpOp} (hd : decode M.2.1 pc = .ok (.dcmp op, 1)) (k : RR G M (pc + 1) ls (.int (Op.cmpValue (FP.dcmp a b) op) :: st) h kc ks Q) : RR G M pc ls (.double b :: .double a :: st) h kc ks Q := rr_of k fun _ _ _ _ _ _ _ _ _ _ _ _ _ _ _ _ E _ kk => lv_dcmp E.1.1 E.1.2.1 hd kk
theorem r_fconst0 (hd : decode M.2.1 pc = .ok (.fconst 0, 1)) (k : RR G M (pc + 1) ls (.float FP.fconst0 :: st) h kc ks Q) : RR G M pc ls st h kc ks Q := rr_of k fun _ _ _ _ _ _ _ _ _ _ _ _ _ _ _ _ E _ kk => lv_fconst0 E.1.1 E.1.2.1 hd kk
theorem r_dconst0 (hd : decode M.2.1 pc = .ok (.dconst 0, 1)) (k : RR G M (pc + 1) ls (.double FP.dconst0 :: st) h kc ks Q) : RR G M pc ls st h kc ks Q := rr_of k fun _ _ _ _ _ _ _ _ _ _ _ _ _ _ _ _ E _ kk => lv_dconst0 E.1.1 E.1.2.1 hd kk
theorem r_fload {a : UInt32} (hd : decode M.2.1 pc = .ok (.fload i, 2)) (j : Nat) (hj : ls[j]? = some (i, .float a)) (k : RR G M (pc + 2) ls (.float a :: st) h kc ks Q) : RR G M pc ls st h kc ks Q := rr_of k fun _ _ _ _ _ _ _ _ _ _ _ _ _ _ _ _ E S kk => lv_fload E.1.1 E.1.2.1 hd (lv_at S.1 j hj) kk
theorem r_dload {a : UInt64} (hd : decode M.2.1 pc = .ok (.dload i, 2)) (j : Nat) (hj : ls[j]? = some (i, .double a)) (k : RR G M (pc + 2) ls (.double a :: st) h kc ks Q) : RR G M pc ls st h kc ks Q := rr_of k fun _ _ _ _ _ _ _ _ _ _ _ _ _ _ _ _ E S kk => lv_dload E.1.1 E.1.2.1 hd (lv_at S.1 j hj) kk
theorem r_fstore {a : UInt32} (hd : decode M.2.1 pc = .ok (.fstore i, 2)) (hn : i < M.2.2.1) (hs : x_set i (.float a) ls = ls') (k : RR G M (pc + 2) ls' st h kc ks Q) : RR G M pc ls (.float a :: st) h kc ks Q := r_set hs k fun _ _ _ _ _ _ _ _ _ _ _ _ _ _ _ _ E hl kk => lv_fstore E.1.1 E.1.2.1 hd hl hn rfl kk
theorem r_dstore {a : UInt64} (hd : decode M.2.1 pc = .ok (.dstore i, 2)) (hn : i + 1 < M.2.2.1) (hs : x_set2 i (.double a) ls = ls') (k : RR G M (pc + 2) ls' st h kc ks Q) : RR G M pc ls (.double a :: st) h kc ks Q := r_set2 hs k fun _ _ _ _ _ _ _ _ _ _ _ _ _ _ _ _ E hl kk => lv_dstore E.1.1 E.1.2.1 hd hl hn rfl kk
/-! branches -/
theorem rr_br {c : Prop} [Decidable c] {pt pf : Nat} {st' : List Value} (kt : c → RR G M pt ls st' h kc ks Q) (kf : ¬ c → RR G M pf ls st' h kc ks Q)
    (g : ∀ (p : Program) (l : Launch) (e : Env) (R : Room) (s : State) (m : MethodId) (args : Array Value) (below : List Frame) (meth : Method) (cd : Code) (H : Heap) (locs : List Loc) (cells slots : Nat) (lsA : Array Slot) (Qm : State → Prop), x_EN G M p l R s m args meth cd → (c → W p l e R s m args below meth cd H locs cells slots Qm (F0 m pt lsA st')) → (¬ c → W p l e R s m args below meth cd H locs cells slots Qm (F0 m pf lsA st')) → W p l e R s m args below meth cd H locs cells slots Qm (F0 m pc lsA st)) :
    RR G M pc ls st h kc ks Q := fun p l e R s m args below meth c E H locs cells slots lsA S => g p l e R s m args below meth c H locs cells slots lsA _ E (fun hc => kt hc p l e R s m args below meth c E H locs cells slots lsA S) (fun hc => kf hc p l e R s m args below meth c E H locs cells slots lsA S)
variable {off : Int} {tgt : Nat}
theorem r_ifeq (hd : decode M.2.1 pc = .ok (.ifCond .eq off, 3)) (ht : (pc : Int) + off = (tgt : Int)) (kt : x = 0 → RR G M tgt ls st h kc ks Q) (kf : ¬ x = 0 → RR G M (pc + 3) ls st h kc ks Q) : RR G M pc ls (.int x :: st) h kc ks Q := rr_br kt kf fun _ _ _ _ _ _ _ _ _ _ _ _ _ _ _ _ E a b => lv_if_eq E.1.1 E.1.2.1 hd ht a b
theorem r_ifne (hd : decode M.2.1 pc = .ok (.ifCond .ne off, 3)) (ht : (pc : Int) + off = (tgt : Int)) (kt : ¬ x = 0 → RR G M tgt ls st h kc ks Q) (kf : x = 0 → RR G M (pc + 3) ls st h kc ks Q) : RR G M pc ls (.int x :: st) h kc ks Q := rr_br (c := x = 0) kf kt fun _ _ _ _ _ _ _ _ _ _ _ _ _ _ _ _ E a b => lv_if_ne E.1.1 E.1.2.1 hd ht b a
theorem r_iflt (hd : decode M.2.1 pc = .ok (.ifCond .lt off, 3)) (ht : (pc : Int) + off = (tgt : Int)) (kt : x < 0 → RR G M tgt ls st h kc ks Q) (kf : ¬ x < 0 → RR G M (pc + 3) ls st h kc ks Q) : RR G M pc ls (.int x :: st) h kc ks Q := rr_br kt kf fun _ _ _ _ _ _ _ _ _ _ _ _ _ _ _ _ E a b => lv_if_lt E.1.1 E.1.2.1 hd ht a b
theorem r_ifge (hd : decode M.2.1 pc = .ok (.ifCond .ge off, 3)) (ht : (pc : Int) + off = (tgt : Int)) (kt : 0 ≤ x → RR G M tgt ls st h kc ks Q) (kf : ¬ 0 ≤ x → RR G M (pc + 3) ls st h kc ks Q) : RR G M pc ls (.int x :: st) h kc ks Q := rr_br kt kf fun _ _ _ _ _ _ _ _ _ _ _ _ _ _ _ _ E a b => lv_if_ge E.1.1 E.1.2.1 hd ht a b
theorem r_ifgt (hd : decode M.2.1 pc = .ok (.ifCond .gt off, 3)) (ht : (pc : Int) + off = (tgt : Int)) (kt : 0 < x → RR G M tgt ls st h kc ks Q) (kf : ¬ 0 < x → RR G M (pc + 3) ls st h kc ks Q) : RR G M pc ls (.int x :: st) h kc ks Q := rr_br kt kf fun _ _ _ _ _ _ _ _ _ _ _ _ _ _ _ _ E a b => lv_if_gt E.1.1 E.1.2.1 hd ht a b
theorem r_ifle (hd : decode M.2.1 pc = .ok (.ifCond .le off, 3)) (ht : (pc : Int) + off = (tgt : Int)) (kt : x ≤ 0 → RR G M tgt ls st h kc ks Q) (kf : ¬ x ≤ 0 → RR G M (pc + 3) ls st h kc ks Q) : RR G M pc ls (.int x :: st) h kc ks Q := rr_br kt kf fun _ _ _ _ _ _ _ _ _ _ _ _ _ _ _ _ E a b => lv_if_le E.1.1 E.1.2.1 hd ht a b
theorem r_icmpeq (hd : decode M.2.1 pc = .ok (.if_icmp .eq off, 3)) (ht : (pc : Int) + off = (tgt : Int)) (kt : x = y → RR G M tgt ls st h kc ks Q) (kf : ¬ x = y → RR G M (pc + 3) ls st h kc ks Q) : RR G M pc ls (.int y :: .int x :: st) h kc ks Q := rr_br kt kf fun _ _ _ _ _ _ _ _ _ _ _ _ _ _ _ _ E a b => lv_icmp_eq E.1.1 E.1.2.1 hd ht a b
theorem r_icmpne (hd : decode M.2.1 pc = .ok (.if_icmp .ne off, 3)) (ht : (pc : Int) + off = (tgt : Int)) (kt : ¬ x = y → RR G M tgt ls st h kc ks Q) (kf : x = y → RR G M (pc + 3) ls st h kc ks Q) : RR G M pc ls (.int y :: .int x :: st) h kc ks Q := rr_br (c := x = y) kf kt fun _ _ _ _ _ _ _ _ _ _ _ _ _ _ _ _ E a b => lv_icmp_ne E.1.1 E.1.2.1 hd ht b a
theorem r_icmplt (hd : decode M.2.1 pc = .ok (.if_icmp .lt off, 3)) (ht : (pc : Int) + off = (tgt : Int)) (kt : x < y → RR G M tgt ls st h kc ks Q) (kf : ¬ x < y → RR G M (pc + 3) ls st h kc ks Q) : RR G M pc ls (.int y :: .int x :: st) h kc ks Q := rr_br kt kf fun _ _ _ _ _ _ _ _ _ _ _ _ _ _ _ _ E a b => lv_icmp_lt E.1.1 E.1.2.1 hd ht a b
theorem r_icmpge (hd : decode M.2.1 pc = .ok (.if_icmp .ge off, 3)) (ht : (pc : Int) + off = (tgt : Int)) (kt : y ≤ x → RR G M tgt ls st h kc ks Q) (kf : ¬ y ≤ x → RR G M (pc + 3) ls st h kc ks Q) : RR G M pc ls (.int y :: .int x :: st) h kc ks Q := rr_br kt kf fun _ _ _ _ _ _ _ _ _ _ _ _ _ _ _ _ E a b => lv_icmp_ge E.1.1 E.1.2.1 hd ht a b
theorem r_icmpgt (hd : decode M.2.1 pc = .ok (.if_icmp .gt off, 3)) (ht : (pc : Int) + off = (tgt : Int)) (kt : y < x → RR G M tgt ls st h kc ks Q) (kf : ¬ y < x → RR G M (pc + 3) ls st h kc ks Q) : RR G M pc ls (.int y :: .int x :: st) h kc ks Q := rr_br kt kf fun _ _ _ _ _ _ _ _ _ _ _ _ _ _ _ _ E a b => lv_icmp_gt E.1.1 E.1.2.1 hd ht a b
theorem r_icmple (hd : decode M.2.1 pc = .ok (.if_icmp .le off, 3)) (ht : (pc : Int) + off = (tgt : Int)) (kt : x ≤ y → RR G M tgt ls st h kc ks Q) (kf : ¬ x ≤ y → RR G M (pc + 3) ls st h kc ks Q) : RR G M pc ls (.int y :: .int x :: st) h kc ks Q := rr_br kt kf fun _ _ _ _ _ _ _ _ _ _ _ _ _ _ _ _ E a b => lv_icmp_le E.1.1 E.1.2.1 hd ht a b
theorem r_acmpeq {a b : Nat} (hd : decode M.2.1 pc = .ok (.if_acmp .eq off, 3)) (ht : (pc : Int) + off = (tgt : Int)) (kt : a = b → RR G M tgt ls st h kc ks Q) (kf : ¬ a = b → RR G M (pc + 3) ls st h kc ks Q) : RR G M pc ls (.ref b :: .ref a :: st) h kc ks Q := rr_br kt kf fun _ _ _ _ _ _ _ _ _ _ _ _ _ _ _ _ E k1 k2 => lv_acmp_eq (rx := some a) (ry := some b) E.1.1 E.1.2.1 hd ht (fun z => k1 (Option.some.inj z)) (fun z => k2 (fun w => z (congrArg some w)))
theorem r_acmpne {a b : Nat} (hd : decode M.2.1 pc = .ok (.if_acmp .ne off, 3)) (ht : (pc : Int) + off = (tgt : Int)) (kt : ¬ a = b → RR G M tgt ls st h kc ks Q) (kf : a = b → RR G M (pc + 3) ls st h kc ks Q) : RR G M pc ls (.ref b :: .ref a :: st) h kc ks Q := rr_br (c := a = b) kf kt fun _ _ _ _ _ _ _ _ _ _ _ _ _ _ _ _ E k1 k2 => lv_acmp_ne (rx := some a) (ry := some b) E.1.1 E.1.2.1 hd ht (fun z => k2 (fun w => z (congrArg some w))) (fun z => k1 (Option.some.inj z))
theorem r_ifnonnull {a : Nat} (hd : decode M.2.1 pc = .ok (.ifnonnull off, 3)) (ht : (pc : Int) + off = (tgt : Int)) (k : RR G M tgt ls st h kc ks Q) : RR G M pc ls (.ref a :: st) h kc ks Q := rr_of k fun _ _ _ _ _ _ _ _ _ _ _ _ _ _ _ _ E _ kk => lv_ifnonnull E.1.1 E.1.2.1 hd ht kk
theorem r_tableIn {dflt lo hi : Int} {offs : Array Int} {len : Nat} (hd : decode M.2.1 pc = .ok (.tableswitch dflt lo hi offs, len)) (h1 : ¬ x.toInt < lo) (h2 : ¬ hi < x.toInt) (ho : offs[(x.toInt - lo).toNat]? = some off) (ht : (pc : Int) + off = (tgt : Int)) (k : RR G M tgt ls st h kc ks Q) : RR G M pc ls (.int x :: st) h kc ks Q := rr_of k fun _ _ _ _ _ _ _ _ _ _ _ _ _ _ _ _ E _ kk => lv_tableIn E.1.1 E.1.2.1 hd h1 h2 ho ht kk
theorem r_tableOut {dflt lo hi : Int} {offs : Array Int} {len : Nat} (hd : decode M.2.1 pc = .ok (.tableswitch dflt lo hi offs, len)) (h1 : x.toInt < lo ∨ hi < x.toInt) (ht : (pc : Int) + dflt = (tgt : Int)) (k : RR G M tgt ls st h kc ks Q) : RR G M pc ls (.int x :: st) h kc ks Q := rr_of k fun _ _ _ _ _ _ _ _ _ _ _ _ _ _ _ _ E _ kk => lv_tableOut E.1.1 E.1.2.1 hd h1 ht kk
theorem r_lookup {dflt : Int} {ps : Array (Int × Int)} {len : Nat} (hd : decode M.2.1 pc = .ok (.lookupswitch dflt ps, len)) (hp : (ps.toList.zip (ps.toList.drop 1)).all (fun (a, next) => a.1 < next.1) = true) (ho : Op.lookupswitch.offset ps.toList dflt x.toInt = off) (ht : (pc : Int) + off = (tgt : Int)) (k : RR G M tgt ls st h kc ks Q) : RR G M pc ls (.int x :: st) h kc ks Q := rr_of k fun _ _ _ _ _ _ _ _ _ _ _ _ _ _ _ _ E _ kk => lv_lookup E.1.1 E.1.2.1 hd hp ho ht kk
/-! fields -/
/-- what the tables say of class ci: C, its fields T, N of them, their types -/
def x_CL (ci : Nat) (C : String) (T : u_T) (N : Nat) (ty : Nat → FieldType) : Prop := vwCl[ci]? = some (C, T, N) ∧ (∀ w ∈ u_ws C T N, w ∈ bg_L) ∧ (∀ k, k < N → parseFieldDescriptor (T k).2.2.1 = some (ty k)) ∧ (∀ a, a < N → ∀ b, b < N → a ≠ b → (T a).2.1 ≠ (T b).2.1)
theorem x_at {L : List Nat} {f : Nat → va_E} {a : Nat} {e : va_E} (ha : a ∈ L) (hf : f a = e) : ∃ k : Nat, (va_pl L f)[k]? = some (a, e) := by
  obtain ⟨k, hk⟩ := va_pl_get (X := []) (f := f) ha
  exact ⟨k, by rw [← hf]; exact hk⟩
theorem x_setw {A : Nat → Prop} {L : List Nat} {f : Nat → va_E} {a k : Nat} {e0 e : va_E} (hD : va_D A (va_pl L f)) (ha : a ∈ L) (hf : f a = e0) (hk : (va_pl L f)[k]? = some (a, e0)) : (va_pl L f).set k (a, e) = va_pl L (va_up f a e) := by
  subst hf
  exact va_pl_set (X := []) hD ha hk
theorem r_get {ci idx a : Nat} {C : String} {T : u_T} {N : Nat} {ty : Nat → FieldType} {fs : List Value} {v : Value} (hC : x_CL ci C T N ty) (k : Nat) (hk : k < N) (hl : Cond.fieldLink M.1.cls idx (T k).1 (T k).2.1 (T k).2.2.1 ∈ bg_L) (hd : decode M.2.1 pc = .ok (.getfield idx, 3)) (ha : a ∈ h.1) (hf : h.2 a = .inr (ci, fs)) (hv : fs[k]? = some v)
    (kk : RR G M (pc + 3) ls (v :: st) h kc ks Q) : RR G M pc ls (.ref a :: st) h kc ks Q := rr_of kk fun _ _ _ _ _ _ _ _ _ _ _ _ _ _ _ _ E S w => by
  obtain ⟨q0, hq⟩ := x_at ha hf
  exact va_get E.1.1 E.1.2.1 E.1.2.2.2.2 hC.2.1 E.1.2.2.2.1 E.2.2.2.2.2.2.2.2.1 S.2.1.1 q0 hq hC.1 k hk (E.1.2.2.2.2 _ hl) (fun _ h9 => h9) hv hd w
/-- a write into the heap: the walk goes on over the heap that came -/
theorem rr_wr {pc' : Nat} {st' : List Value} {a : Nat} {e0 e : va_E} (ha : a ∈ h.1) (hf : h.2 a = e0) (k : RR G M pc' ls st' (h.1, va_up h.2 a e) kc ks Q)
    (g : ∀ (p : Program) (l : Launch) (en : Env) (R : Room) (s : State) (m : MethodId) (args : Array Value) (below : List Frame) (meth : Method) (c : Code) (H : Heap) (locs : List Loc) (cells slots : Nat) (lsA : Array Slot) (Qm : State → Prop) (q0 : Nat), x_EN G M p l R s m args meth c → (va_pl h.1 h.2)[q0]? = some (a, e0) → va_P G.1 vwCl (va_pl h.1 h.2) H → va_D (x_A G) (va_pl h.1 h.2) → va_S (x_A G) s.heap H locs →
      (∀ (H1 : Heap) (locs1 : List Loc), va_P G.1 vwCl ((va_pl h.1 h.2).set q0 (a, e)) H1 → va_D (x_A G) ((va_pl h.1 h.2).set q0 (a, e)) → va_S (x_A G) s.heap H1 locs1 → W p l en R s m args below meth c H1 locs1 cells slots Qm (F0 m pc' lsA st')) → W p l en R s m args below meth c H locs cells slots Qm (F0 m pc lsA st)) :
    RR G M pc ls st h kc ks Q := by
  intro p l en R s m args below meth c E H locs cells slots lsA S
  obtain ⟨q0, hq⟩ := x_at ha hf
  refine g p l en R s m args below meth c H locs cells slots lsA _ q0 E hq S.2.1.1 S.2.1.2 S.2.2.1 (fun H1 locs1 hP hD hS => ?_)
  rw [x_setw S.2.1.2 ha hf hq] at hP hD
  exact k p l en R s m args below meth c E H1 locs1 cells slots lsA ⟨S.1, ⟨hP, hD⟩, hS, S.2.2.2⟩
theorem r_put {ci idx a : Nat} {C : String} {T : u_T} {N : Nat} {ty : Nat → FieldType} {fs fs' : List Value} {v : Value} (hC : x_CL ci C T N ty) (k : Nat) (hk : k < N) (hl : Cond.fieldLink M.1.cls idx (T k).1 (T k).2.1 (T k).2.2.1 ∈ bg_L) (hfin : (T k).2.2.2 = false) (hd : decode M.2.1 pc = .ok (.putfield idx, 3)) (ha : a ∈ h.1) (hf : h.2 a = .inr (ci, fs)) (hn : narrow (ty k) v = v) (hfit : fits (ty k) v = true) (hlen : k < fs.length) (hset : fs.set k v = fs')
    (kk : RR G M (pc + 3) ls st (h.1, va_up h.2 a (.inr (ci, fs'))) kc ks Q) : RR G M pc ls (v :: .ref a :: st) h kc ks Q := rr_wr ha hf kk fun _ _ _ _ _ _ _ _ _ _ _ _ _ _ _ _ q0 E hq hP hD hS w => by
  subst hset
  exact va_put E.1.1 E.1.2.1 E.1.2.2.2.2 hC.2.1 ty hC.2.2.1 hC.2.2.2 E.1.2.2.2.1 E.2.2.2.2.2.2.2.2.1 hP hD hS q0 hq hC.1 k hk (E.1.2.2.2.2 _ hl) (fun _ h9 => h9) hfin (hC.2.2.1 k hk) hn hfit hlen hd w
theorem r_putF {ci idx a : Nat} {C : String} {T : u_T} {N : Nat} {ty : Nat → FieldType} {fs fs' : List Value} {v : Value} (hC : x_CL ci C T N ty) (k : Nat) (hk : k < N) (hl : Cond.fieldLink M.1.cls idx (T k).1 (T k).2.1 (T k).2.2.1 ∈ bg_L) (hfin : (T k).2.2.2 = true) (hin : M.1.name = "<init>") (hown : (T k).1 = M.1.cls) (hd : decode M.2.1 pc = .ok (.putfield idx, 3)) (ha : a ∈ h.1) (hf : h.2 a = .inr (ci, fs)) (hn : narrow (ty k) v = v) (hfit : fits (ty k) v = true) (hlen : k < fs.length) (hset : fs.set k v = fs')
    (kk : RR G M (pc + 3) ls st (h.1, va_up h.2 a (.inr (ci, fs'))) kc ks Q) : RR G M pc ls (v :: .ref a :: st) h kc ks Q := rr_wr ha hf kk fun _ _ _ _ _ _ _ _ _ _ _ _ _ _ _ _ q0 E hq hP hD hS w => by
  subst hset
  exact va_putF E.1.1 E.1.2.1 E.1.2.2.2.2 hC.2.1 ty hC.2.2.1 hC.2.2.2 E.1.2.2.2.1 E.2.2.2.2.2.2.2.2.1 hP hD hS q0 hq hC.1 k hk (E.1.2.2.2.2 _ hl) (fun _ h9 => h9) hfin (E.2.2.2.1.trans hin) hown (hC.2.2.1 k hk) hn hfit hlen hd w
/-! arrays; an index is given as a number j -/
theorem x_in {j n : Nat} {i : Int32} (hi : i = nI j) (hj : j < n) (hn : n < 2 ^ 31) : vp_in i n ∧ i.toNatClampNeg = j := by
  subst hi
  exact ⟨vp_in_nI hj hn, nI_clamp (by omega)⟩
theorem r_iald {a n : Nat} {g : Nat → Int32} {i : Int32} (j : Nat) (hi : i = nI j) (hd : decode M.2.1 pc = .ok (.iaload, 1)) (ha : a ∈ h.1) (hf : h.2 a = .inl (G.2.1 0, n, .inl g)) (hj : j < n) (hn : n < 2 ^ 31)
    (kk : RR G M (pc + 1) ls (.int (g j) :: st) h kc ks Q) : RR G M pc ls (.int i :: .ref a :: st) h kc ks Q := rr_of kk fun _ _ _ _ _ _ _ _ _ _ _ _ _ _ _ _ E S w => by
  obtain ⟨q0, hq⟩ := x_at ha hf
  obtain ⟨h1, h2⟩ := x_in hi hj hn
  exact va_iald E.1.1 E.1.2.1 E.2.2.2.2.2.2.2.2.1 S.2.1.1 q0 0 hq rfl h1 hd (by rw [h2]; exact w)
theorem r_zald {a n : Nat} {g : Nat → Int32} {i : Int32} (j : Nat) (hi : i = nI j) (hd : decode M.2.1 pc = .ok (.baload, 1)) (ha : a ∈ h.1) (hf : h.2 a = .inl (G.2.1 1, n, .inl g)) (hj : j < n) (hn : n < 2 ^ 31)
    (kk : RR G M (pc + 1) ls (.int (g j) :: st) h kc ks Q) : RR G M pc ls (.int i :: .ref a :: st) h kc ks Q := rr_of kk fun _ _ _ _ _ _ _ _ _ _ _ _ _ _ _ _ E S w => by
  obtain ⟨q0, hq⟩ := x_at ha hf
  obtain ⟨h1, h2⟩ := x_in hi hj hn
  exact va_zald E.1.1 E.1.2.1 E.2.2.2.2.2.2.2.2.1 S.2.1.1 q0 1 hq rfl h1 hd (by rw [h2]; exact w)
theorem r_lald {a n : Nat} {g : Nat → Int64} {i : Int32} (j : Nat) (hi : i = nI j) (hd : decode M.2.1 pc = .ok (.laload, 1)) (ha : a ∈ h.1) (hf : h.2 a = .inl (G.2.1 2, n, .inr (.inl g))) (hj : j < n) (hn : n < 2 ^ 31)
    (kk : RR G M (pc + 1) ls (.long (g j) :: st) h kc ks Q) : RR G M pc ls (.int i :: .ref a :: st) h kc ks Q := rr_of kk fun _ _ _ _ _ _ _ _ _ _ _ _ _ _ _ _ E S w => by
  obtain ⟨q0, hq⟩ := x_at ha hf
  obtain ⟨h1, h2⟩ := x_in hi hj hn
  exact va_lald E.1.1 E.1.2.1 E.2.2.2.2.2.2.2.2.1 S.2.1.1 q0 2 hq rfl h1 hd (by rw [h2]; exact w)
theorem r_dald {a n : Nat} {g : Nat → UInt64} {i : Int32} (j : Nat) (hi : i = nI j) (hd : decode M.2.1 pc = .ok (.daload, 1)) (ha : a ∈ h.1) (hf : h.2 a = .inl (G.2.1 3, n, .inr (.inr (.inr (.inl g))))) (hj : j < n) (hn : n < 2 ^ 31)
    (kk : RR G M (pc + 1) ls (.double (g j) :: st) h kc ks Q) : RR G M pc ls (.int i :: .ref a :: st) h kc ks Q := rr_of kk fun _ _ _ _ _ _ _ _ _ _ _ _ _ _ _ _ E S w => by
  obtain ⟨q0, hq⟩ := x_at ha hf
  obtain ⟨h1, h2⟩ := x_in hi hj hn
  exact va_dald E.1.1 E.1.2.1 E.2.2.2.2.2.2.2.2.1 S.2.1.1 q0 3 hq rfl h1 hd (by rw [h2]; exact w)
theorem r_aald {a n t : Nat} {C : String} {g : Nat → Option Nat} {i : Int32} (ht : (x_tys G.2.1)[t]? = some (G.2.1 t, .object C)) (j : Nat) (hi : i = nI j) (hd : decode M.2.1 pc = .ok (.aaload, 1)) (ha : a ∈ h.1) (hf : h.2 a = .inl (G.2.1 t, n, .inr (.inr (.inr (.inr g))))) (hj : j < n) (hn : n < 2 ^ 31) {v : Value} (hv : va_rf (g j) = v)
    (kk : RR G M (pc + 1) ls (v :: st) h kc ks Q) : RR G M pc ls (.int i :: .ref a :: st) h kc ks Q := rr_of kk fun _ _ _ _ _ _ _ _ _ _ _ _ _ _ _ _ E S w => by
  obtain ⟨q0, hq⟩ := x_at ha hf
  obtain ⟨h1, h2⟩ := x_in hi hj hn
  exact va_aldq E.1.1 E.1.2.1 E.2.2.2.2.2.2.2.2.1 S.2.1.1 q0 t hq ht h1 hd (by rw [h2, hv]; exact w)
theorem r_alen {a n t : Nat} {g} {tyA : FieldType} {v : Int32} (ht : (x_tys G.2.1)[t]? = some (G.2.1 t, tyA)) (hd : decode M.2.1 pc = .ok (.arraylength, 1)) (ha : a ∈ h.1) (hf : h.2 a = .inl (G.2.1 t, n, g)) (hv : Int32.ofNat n = v)
    (kk : RR G M (pc + 1) ls (.int v :: st) h kc ks Q) : RR G M pc ls (.ref a :: st) h kc ks Q := rr_of kk fun _ _ _ _ _ _ _ _ _ _ _ _ _ _ _ _ E S w => by
  obtain ⟨q0, hq⟩ := x_at ha hf
  exact va_alen E.1.1 E.1.2.1 E.2.2.2.2.2.2.2.2.1 S.2.1.1 q0 t hq ht hv hd w
theorem r_iast {a n : Nat} {g : Nat → Int32} {i x : Int32} (j : Nat) (hi : i = nI j) (hd : decode M.2.1 pc = .ok (.iastore, 1)) (ha : a ∈ h.1) (hf : h.2 a = .inl (G.2.1 0, n, .inl g)) (hj : j < n) (hn : n < 2 ^ 31)
    (kk : RR G M (pc + 1) ls st (h.1, va_up h.2 a (.inl (G.2.1 0, n, .inl (upd g j x)))) kc ks Q) : RR G M pc ls (.int x :: .int i :: .ref a :: st) h kc ks Q := rr_wr ha hf kk fun _ _ _ _ _ _ _ _ _ _ _ _ _ _ _ _ q0 E hq hP hD hS w => by
  obtain ⟨h1, h2⟩ := x_in hi hj hn
  exact va_iast E.1.1 E.1.2.1 E.2.2.2.2.2.2.2.2.1 hP hD hS q0 0 hq rfl h1 hd (by rw [h2]; exact w)
theorem r_zast {a n : Nat} {g : Nat → Int32} {i x : Int32} (j : Nat) (hi : i = nI j) (hd : decode M.2.1 pc = .ok (.bastore, 1)) (ha : a ∈ h.1) (hf : h.2 a = .inl (G.2.1 1, n, .inl g)) (hj : j < n) (hn : n < 2 ^ 31) (hx : vp_nar .boolean x = x)
    (kk : RR G M (pc + 1) ls st (h.1, va_up h.2 a (.inl (G.2.1 1, n, .inl (upd g j x)))) kc ks Q) : RR G M pc ls (.int x :: .int i :: .ref a :: st) h kc ks Q := rr_wr ha hf kk fun _ _ _ _ _ _ _ _ _ _ _ _ _ _ _ _ q0 E hq hP hD hS w => by
  obtain ⟨h1, h2⟩ := x_in hi hj hn
  exact va_zast E.1.1 E.1.2.1 E.2.2.2.2.2.2.2.2.1 hP hD hS q0 1 hq rfl h1 hd (by rw [h2, hx]; exact w)
theorem r_last {a n : Nat} {g : Nat → Int64} {i : Int32} {x : Int64} (j : Nat) (hi : i = nI j) (hd : decode M.2.1 pc = .ok (.lastore, 1)) (ha : a ∈ h.1) (hf : h.2 a = .inl (G.2.1 2, n, .inr (.inl g))) (hj : j < n) (hn : n < 2 ^ 31)
    (kk : RR G M (pc + 1) ls st (h.1, va_up h.2 a (.inl (G.2.1 2, n, .inr (.inl (vp_updL g j x))))) kc ks Q) : RR G M pc ls (.long x :: .int i :: .ref a :: st) h kc ks Q := rr_wr ha hf kk fun _ _ _ _ _ _ _ _ _ _ _ _ _ _ _ _ q0 E hq hP hD hS w => by
  obtain ⟨h1, h2⟩ := x_in hi hj hn
  exact va_last E.1.1 E.1.2.1 E.2.2.2.2.2.2.2.2.1 hP hD hS q0 2 hq rfl h1 hd (by rw [h2]; exact w)
theorem r_dast {a n : Nat} {g : Nat → UInt64} {i : Int32} {x : UInt64} (j : Nat) (hi : i = nI j) (hd : decode M.2.1 pc = .ok (.dastore, 1)) (ha : a ∈ h.1) (hf : h.2 a = .inl (G.2.1 3, n, .inr (.inr (.inr (.inl g))))) (hj : j < n) (hn : n < 2 ^ 31)
    (kk : RR G M (pc + 1) ls st (h.1, va_up h.2 a (.inl (G.2.1 3, n, .inr (.inr (.inr (.inl (vf_upd g j x))))))) kc ks Q) : RR G M pc ls (.double x :: .int i :: .ref a :: st) h kc ks Q := rr_wr ha hf kk fun _ _ _ _ _ _ _ _ _ _ _ _ _ _ _ _ q0 E hq hP hD hS w => by
  obtain ⟨h1, h2⟩ := x_in hi hj hn
  exact va_dast E.1.1 E.1.2.1 E.2.2.2.2.2.2.2.2.1 hP hD hS q0 3 hq rfl h1 hd (by rw [h2]; exact w)
theorem r_aast {a n t ci v : Nat} {r : vw_C} {vs : List Value} {g : Nat → Option Nat} {i : Int32} (ht : (x_tys G.2.1)[t]? = some (G.2.1 t, .object r.1)) (j : Nat) (hi : i = nI j) (hd : decode M.2.1 pc = .ok (.aastore, 1)) (ha : a ∈ h.1) (hf : h.2 a = .inl (G.2.1 t, n, .inr (.inr (.inr (.inr g))))) (hj : j < n) (hn : n < 2 ^ 31) (hb : v ∈ h.1) (hfb : h.2 v = .inr (ci, vs)) (hc : vwCl[ci]? = some r)
    (kk : RR G M (pc + 1) ls st (h.1, va_up h.2 a (.inl (G.2.1 t, n, .inr (.inr (.inr (.inr (va_up g j (some v)))))))) kc ks Q) : RR G M pc ls (.ref v :: .int i :: .ref a :: st) h kc ks Q := rr_wr ha hf kk fun _ _ _ _ _ _ _ _ _ _ _ _ _ _ _ _ q0 E hq hP hD hS w => by
  obtain ⟨h1, h2⟩ := x_in hi hj hn
  obtain ⟨q1, hq1⟩ := x_at hb hfb
  exact va_astq E.1.1 E.1.2.1 E.2.2.2.2.2.2.2.2.1 hP hD hS q0 t q1 ci hq ht hq1 hc h1 hd (by rw [h2]; exact w)
/-! ends -/
theorem rr_end {st' : List Value} {o : Option Value} (hQ : Q (.inl o) h)
    (g : ∀ (p : Program) (l : Launch) (e : Env) (R : Room) (s : State) (m : MethodId) (args : Array Value) (below : List Frame) (meth : Method) (c : Code) (H : Heap) (locs : List Loc) (cells slots : Nat) (lsA : Array Slot), x_EN G M p l R s m args meth c → (∀ t : State, t.heap = H → s.WarmedH t.vm → x_PQ G Q args s (.returned o) t) → (∀ q ∈ locs, x_A G q.base) → W p l e R s m args below meth c H locs cells slots (MQ below (x_PQ G Q) args s cells slots (x_A G)) (F0 m pc lsA st')) : RR G M pc ls st' h kc ks Q := by
  intro p l e R s m args below meth c E H locs cells slots lsA S
  refine W.widen (k := (xm_R M).cells) (n := (xm_R M).slots) (Nat.le_trans (Nat.le_add_right _ _) S.2.2.2.1) (Nat.le_trans (Nat.le_add_right _ _) S.2.2.2.2) ?_
  refine vx_ret ?_
  exact g p l e R s m args below meth c H locs _ _ lsA E (fun t ht _ => ⟨o, h, rfl, hQ, by rw [ht]; exact S.2.1, S.2.2.1.F ht⟩) S.2.2.1.2.2
theorem r_ireturn {rt : FieldType} (hr : M.2.2.2.1 = some rt) (hn : narrow rt (.int x) = .int x) (hd : decode M.2.1 pc = .ok (.ireturn, 1)) (hQ : Q (.inl (some (.int x))) h) : RR G M pc ls [.int x] h kc ks Q := rr_end hQ fun _ _ _ _ _ _ _ _ _ _ _ _ _ _ _ E a b => W.zret E.1.1 E.1.2.1 (E.2.1.trans hr) hn a b hd E.2.2.1
theorem r_return (hr : M.2.2.2.1 = none) (hd : decode M.2.1 pc = .ok (.return_, 1)) (hQ : Q (.inl none) h) : RR G M pc ls [] h kc ks Q := rr_end hQ fun _ _ _ _ _ _ _ _ _ _ _ _ _ _ _ E a b => W.vret E.1.1 E.1.2.1 (E.2.1.trans hr) a b hd E.2.2.1
theorem r_areturn {a : Nat} {C : String} (hr : M.2.2.2.1 = some (.object C)) (hd : decode M.2.1 pc = .ok (.areturn, 1)) (hQ : Q (.inl (some (.ref a))) h) : RR G M pc ls [.ref a] h kc ks Q := rr_end hQ fun _ _ _ _ _ _ _ _ _ _ _ _ _ _ _ E u b => W.aret E.1.1 E.1.2.1 (E.2.1.trans hr) (Or.inl ⟨C, rfl⟩) (Or.inr ⟨a, rfl⟩) u b hd E.2.2.1
theorem r_freturn {a : UInt32} (hr : M.2.2.2.1 = some .float) (hd : decode M.2.1 pc = .ok (.freturn, 1)) (hQ : Q (.inl (some (.float a))) h) : RR G M pc ls [.float a] h kc ks Q := rr_end hQ fun _ _ _ _ _ _ _ _ _ _ _ _ _ _ _ E u b => W.fret E.1.1 E.1.2.1 (E.2.1.trans hr) u b hd E.2.2.1
theorem r_dreturn {a : UInt64} (hr : M.2.2.2.1 = some .double) (hd : decode M.2.1 pc = .ok (.dreturn, 1)) (hQ : Q (.inl (some (.double a))) h) : RR G M pc ls [.double a] h kc ks Q := rr_end hQ fun _ _ _ _ _ _ _ _ _ _ _ _ _ _ _ E u b => W.dret E.1.1 E.1.2.1 (E.2.1.trans hr) u b hd E.2.2.1
end ROWS
