/-! ===== THE CORE: a method's walk over one abstract heap (addresses and contents), rows an instruction; nothing of it knows the classes ===== -/
/-- private methods of AbstractStringBuilder, called on a StringBuilder: they select themselves -/
def asbW : List Cond := [.selects RJ4 yJ5_ensureCapacityInternal_d00df yJ5_ensureCapacityInternal_d00df, .selects RJ4 yJ5_newCapacity_0f7a4 yJ5_newCapacity_0f7a4, .selects RJ4 yJ5_putStringAt_47b60 yJ5_putStringAt_47b60, .selects RJ4 yJ5_inflateIfNeededFor_a7421 yJ5_inflateIfNeededFor_a7421]
def lw_tb2 : List Cond := asbW ++ lw_tbl
def bg_L : List Cond := lw_tb2.filter goodWord
theorem bg_in {w : Cond} (i : Nat) (h : lw_tb2[i]? = some w) (hg : goodWord w = true) : w ∈ bg_L := List.mem_filter.mpr ⟨List.mem_of_getElem? h, hg⟩
theorem bg_self : GoodIn bg_L bg_L := fun w h => ⟨h, good_of_word (List.mem_filter.mp h).2⟩
/-- a method: name, bytes, locals, what it returns, its handlers, its room: frames, locals, cells, slots -/
abbrev xM : Type := MethodName × ByteArray × Nat × Option FieldType × List (Nat × Nat × Nat × Nat) × (Nat × Nat × Nat × Nat)
abbrev xm_R (M : xM) : Room := { frames := M.2.2.2.2.2.1, locals := M.2.2.2.2.2.2.1, cells := M.2.2.2.2.2.2.2.1, slots := M.2.2.2.2.2.2.2.2 }
/-- what stays the same through a run: class numbers and slots, the array classes, the facts of the statics, the address from which on all is ours -/
abbrev xG : Type := va_G × (Nat → ClassId) × ((Nat → Prop) → State → Heap → Prop) × Nat
/-- the arrays' classes -/
def x_tys (c : Nat → ClassId) : List (ClassId × FieldType) := [(c 0, .int), (c 1, .boolean), (c 2, .byte), (c 3, .byte), (c 4, .object "PastryBench$Sheet"), (c 5, .object "PastryBench$Bench"), (c 6, .object "PastryBench$Command")]
/-- an abstract heap: the addresses that are ours, what lies there -/
abbrev xH : Type := List Nat × (Nat → va_E)
abbrev xR : Type := Option Value ⊕ String
def x_A (G : xG) : Nat → Prop := fun q => G.2.2.2 ≤ q
def x_zok (Z : (Nat → Prop) → State → Heap → Prop) : Prop :=
  (∀ (A : Nat → Prop) (u U : State) (H : Heap), u.WarmedH U.vm → Z A u H → Z A U H) ∧
  (∀ (A : Nat → Prop) (U : State) (H H1 : Heap), Z A U H → (∀ a : Nat, a < H.size → ¬ A a → H1[a]? = H[a]?) → Z A U H1)
/-- the heap holds h, and h lies where all is ours -/
def x_hw (G : xG) (h : xH) (H : Heap) : Prop := va_P G.1 vwCl (va_pl h.1 h.2) H ∧ va_D (x_A G) (va_pl h.1 h.2)
/-- what a state is to a method that is called there -/
def x_U (G : xG) (h : xH) (U : State) : Prop := x_hw G h U.heap ∧ va_K G.1 vwCl (x_tys G.2.1) U ∧ G.2.2.1 (x_A G) U U.heap ∧ x_zok G.2.2.1 ∧ G.2.2.2 ≤ U.heap.size
/-- what is known of the machine while the method M runs -/
def x_EN (G : xG) (M : xM) (p : Program) (l : Launch) (R : Room) (s : State) (m : MethodId) (args : Array Value) (meth : Method) (c : Code) : Prop :=
  CallFix p m c M.2.1 M.2.2.1 s args bg_L M.1.cls ∧ meth.sig.returnType = M.2.2.2.1 ∧ meth.locks = false ∧ meth.name = M.1.name ∧ c.exceptionTable.toList = tableOf M.2.2.2.2.1 ∧ l.stackTraces = false ∧ R = xm_R M ∧ G.2.2.2 ≤ s.heap.size ∧ va_K G.1 vwCl (x_tys G.2.1) s ∧ G.2.2.1 (x_A G) s s.heap ∧ x_zok G.2.2.1
def x_PQ (G : xG) (Q : xR → xH → Prop) : Array Value → State → Outcome → State → Prop := fun _ st o t => ∃ (v : Option Value) (h' : xH), o = .returned v ∧ Q (.inl v) h' ∧ x_hw G h' t.heap ∧ va_F (x_A G) st t
def x_PX (G : xG) (Q : xR → xH → Prop) : String → State → State → Prop := fun E st t => ∃ h' : xH, Q (.inr E) h' ∧ x_hw G h' t.heap ∧ va_F (x_A G) st t
def x_E (G : xG) (M : xM) (Q : xR → xH → Prop) (below : List Frame) (args : Array Value) (s : State) : State → Prop := vx_MQ below (x_PQ G Q) (x_PX G Q) args s (xm_R M).cells (xm_R M).slots (x_A G)
/-- where the walk stands: the locals, the heap, what is left of the room -/
def x_ST (G : xG) (M : xM) (s : State) (H : Heap) (locs : List Loc) (cells slots : Nat) (lsA : Array Slot) (ls : List (Nat × Value)) (h : xH) (kc ks : Nat) : Prop :=
  lv_has lsA M.2.2.1 ls ∧ x_hw G h H ∧ va_S (x_A G) s.heap H locs ∧ cells + kc ≤ (xm_R M).cells ∧ slots + ks ≤ (xm_R M).slots
/-- from this place on, the method M comes to an end with Q -/
def RR (G : xG) (M : xM) (pc : Nat) (ls : List (Nat × Value)) (st : List Value) (h : xH) (kc ks : Nat) (Q : xR → xH → Prop) : Prop :=
  ∀ (p : Program) (l : Launch) (e : Env) (R : Room) (s : State) (m : MethodId) (args : Array Value) (below : List Frame) (meth : Method) (c : Code), x_EN G M p l R s m args meth c →
  ∀ (H : Heap) (locs : List Loc) (cells slots : Nat) (lsA : Array Slot), x_ST G M s H locs cells slots lsA ls h kc ks → W p l e R s m args below meth c H locs cells slots (x_E G M Q below args s) (F0 m pc lsA st)
/-- the same where an exception of class E is on its way -/
def RX (G : xG) (M : xM) (pc : Nat) (ls : List (Nat × Value)) (st : List Value) (E : String) (h : xH) (kc ks : Nat) (Q : xR → xH → Prop) : Prop :=
  ∀ (p : Program) (l : Launch) (e : Env) (R : Room) (s : State) (m : MethodId) (args : Array Value) (below : List Frame) (meth : Method) (c : Code), x_EN G M p l R s m args meth c →
  ∀ (H : Heap) (locs : List Loc) (cells slots : Nat) (lsA : Array Slot), x_ST G M s H locs cells slots lsA ls h kc ks →
  ∀ (ce : Cell) (q : Addr), H[q]? = some ce → ce.vm = .none → s.vm.findClass E = some ce.cls → vx_W p l e R s m args below meth c H locs cells slots (x_E G M Q below args s) (F0 m pc lsA st) q
/-- the contract of a method at h -/
def CC (G : xG) (M : xM) (av : List Value) (h : xH) (Q : xR → xH → Prop) : Prop := RR G M 0 (lv_args 0 av) [] h (xm_R M).cells (xm_R M).slots Q
section CORE
variable {G : xG} {M : xM} {h : xH} {pc : Nat} {ls ls' : List (Nat × Value)} {st : List Value} {kc ks : Nat} {Q : xR → xH → Prop}
theorem rr_of {pc' : Nat} {st' : List Value} (k : RR G M pc' ls st' h kc ks Q)
    (g : ∀ (p : Program) (l : Launch) (e : Env) (R : Room) (s : State) (m : MethodId) (args : Array Value) (below : List Frame) (meth : Method) (c : Code) (H : Heap) (locs : List Loc) (cells slots : Nat) (lsA : Array Slot) (Qm : State → Prop), x_EN G M p l R s m args meth c → x_ST G M s H locs cells slots lsA ls h kc ks → W p l e R s m args below meth c H locs cells slots Qm (F0 m pc' lsA st') → W p l e R s m args below meth c H locs cells slots Qm (F0 m pc lsA st)) :
    RR G M pc ls st h kc ks Q := fun p l e R s m args below meth c E H locs cells slots lsA S => g p l e R s m args below meth c H locs cells slots lsA _ E S (k p l e R s m args below meth c E H locs cells slots lsA S)
theorem rr_mono {Q' : xR → xH → Prop} (k : RR G M pc ls st h kc ks Q') (hQ : ∀ o h', Q' o h' → Q o h') : RR G M pc ls st h kc ks Q := by
  intro p l e R s m args below meth c E H locs cells slots lsA S T hT X
  obtain ⟨t, a1, o, b1, b2, b3⟩ := k p l e R s m args below meth c E H locs cells slots lsA S T hT X
  refine ⟨t, a1, o, b1, b2, ?_⟩
  rcases b3 with ⟨⟨v, h', c1, c2, c3⟩, c4⟩ | ⟨q, c1, E', ce, L, ⟨h', c2, c3⟩, c4⟩
  · exact Or.inl ⟨⟨v, h', c1, hQ _ _ c2, c3⟩, c4⟩
  · exact Or.inr ⟨q, c1, E', ce, L, ⟨h', hQ _ _ c2, c3⟩, c4⟩
theorem cc_mono {av : List Value} {Q' : xR → xH → Prop} (k : CC G M av h Q') (hQ : ∀ o h', Q' o h' → Q o h') : CC G M av h Q := rr_mono k hQ
/-! locals -/
def x_ins (i : Nat) (v : Value) : List (Nat × Value) → List (Nat × Value)
  | [] => [(i, v)]
  | q :: t => if i < q.1 then (i, v) :: q :: t else q :: x_ins i v t
def x_set (i : Nat) (v : Value) (l : List (Nat × Value)) : List (Nat × Value) := x_ins i v (l.filter (fun q => !(q.1 == i) && !(q.1 + 1 == i && q.2.category == 2)))
def x_set2 (i : Nat) (v : Value) (l : List (Nat × Value)) : List (Nat × Value) := x_ins i v (l.filter (fun q => !(q.1 == i) && (!(q.1 == i + 1) && !(q.1 + 1 == i && q.2.category == 2))))
theorem x_ins_mem {i : Nat} {v : Value} {l : List (Nat × Value)} {q : Nat × Value} (h : q ∈ x_ins i v l) : q ∈ (i, v) :: l := by
  induction l with
  | nil => exact h
  | cons a t ih =>
    unfold x_ins at h
    split at h
    · exact h
    · rcases List.mem_cons.mp h with h | h
      · exact List.mem_cons_of_mem _ (h ▸ List.mem_cons_self)
      · rcases List.mem_cons.mp (ih h) with h | h
        · exact h ▸ List.mem_cons_self
        · exact List.mem_cons_of_mem _ (List.mem_cons_of_mem _ h)
theorem x_has {a : Array Slot} {n i : Nat} {v : Value} {l : List (Nat × Value)} (h : lv_has a n ((i, v) :: l)) : lv_has a n (x_ins i v l) := ⟨h.1, h.2.1, fun q hq => h.2.2 q (x_ins_mem hq)⟩
theorem r_set {pc' : Nat} {st' : List Value} {i : Nat} {v : Value} (hs : x_set i v ls = ls') (k : RR G M pc' ls' st' h kc ks Q)
    (g : ∀ (p : Program) (l : Launch) (e : Env) (R : Room) (s : State) (m : MethodId) (args : Array Value) (below : List Frame) (meth : Method) (c : Code) (H : Heap) (locs : List Loc) (cells slots : Nat) (lsA : Array Slot) (Qm : State → Prop), x_EN G M p l R s m args meth c → lv_has lsA M.2.2.1 ls →
      (∀ ls2 : Array Slot, lv_has ls2 M.2.2.1 ((i, v) :: ls.filter (fun q => !(q.1 == i) && !(q.1 + 1 == i && q.2.category == 2))) → W p l e R s m args below meth c H locs cells slots Qm (F0 m pc' ls2 st')) → W p l e R s m args below meth c H locs cells slots Qm (F0 m pc lsA st)) :
    RR G M pc ls st h kc ks Q := fun p l e R s m args below meth c E H locs cells slots lsA S =>
  g p l e R s m args below meth c H locs cells slots lsA _ E S.1 (fun ls2 h2 => k p l e R s m args below meth c E H locs cells slots ls2 ⟨hs ▸ x_has h2, S.2⟩)
theorem r_set2 {pc' : Nat} {st' : List Value} {i : Nat} {v : Value} (hs : x_set2 i v ls = ls') (k : RR G M pc' ls' st' h kc ks Q)
    (g : ∀ (p : Program) (l : Launch) (e : Env) (R : Room) (s : State) (m : MethodId) (args : Array Value) (below : List Frame) (meth : Method) (c : Code) (H : Heap) (locs : List Loc) (cells slots : Nat) (lsA : Array Slot) (Qm : State → Prop), x_EN G M p l R s m args meth c → lv_has lsA M.2.2.1 ls →
      (∀ ls2 : Array Slot, lv_has ls2 M.2.2.1 ((i, v) :: ls.filter (fun q => !(q.1 == i) && (!(q.1 == i + 1) && !(q.1 + 1 == i && q.2.category == 2)))) → W p l e R s m args below meth c H locs cells slots Qm (F0 m pc' ls2 st')) → W p l e R s m args below meth c H locs cells slots Qm (F0 m pc lsA st)) :
    RR G M pc ls st h kc ks Q := fun p l e R s m args below meth c E H locs cells slots lsA S =>
  g p l e R s m args below meth c H locs cells slots lsA _ E S.1 (fun ls2 h2 => k p l e R s m args below meth c E H locs cells slots ls2 ⟨hs ▸ x_has h2, S.2⟩)
variable {x y : Int32} {i : Nat}
theorem r_iload (hd : decode M.2.1 pc = .ok (.iload i, 2)) (j : Nat) (hj : ls[j]? = some (i, .int x)) (k : RR G M (pc + 2) ls (.int x :: st) h kc ks Q) : RR G M pc ls st h kc ks Q := rr_of k fun _ _ _ _ _ _ _ _ _ _ _ _ _ _ _ _ E S kk => lv_iload E.1.1 E.1.2.1 hd (lv_at S.1 j hj) kk
theorem r_iload_n {n : Fin 4} (hd : decode M.2.1 pc = .ok (.iload_n n, 1)) (j : Nat) (hj : ls[j]? = some ((n : Nat), .int x)) (k : RR G M (pc + 1) ls (.int x :: st) h kc ks Q) : RR G M pc ls st h kc ks Q := rr_of k fun _ _ _ _ _ _ _ _ _ _ _ _ _ _ _ _ E S kk => lv_iload_n E.1.1 E.1.2.1 hd rfl (lv_at S.1 j hj) kk
theorem r_aload {a : Nat} (hd : decode M.2.1 pc = .ok (.aload i, 2)) (j : Nat) (hj : ls[j]? = some (i, .ref a)) (k : RR G M (pc + 2) ls (.ref a :: st) h kc ks Q) : RR G M pc ls st h kc ks Q := rr_of k fun _ _ _ _ _ _ _ _ _ _ _ _ _ _ _ _ E S kk => lv_aload E.1.1 E.1.2.1 hd (lv_at S.1 j hj) kk
theorem r_aload_n {n : Fin 4} {a : Nat} (hd : decode M.2.1 pc = .ok (.aload_n n, 1)) (j : Nat) (hj : ls[j]? = some ((n : Nat), .ref a)) (k : RR G M (pc + 1) ls (.ref a :: st) h kc ks Q) : RR G M pc ls st h kc ks Q := rr_of k fun _ _ _ _ _ _ _ _ _ _ _ _ _ _ _ _ E S kk => lv_aload_n E.1.1 E.1.2.1 hd rfl (lv_at S.1 j hj) kk
theorem r_istore (hd : decode M.2.1 pc = .ok (.istore i, 2)) (hn : i < M.2.2.1) (hs : x_set i (.int x) ls = ls') (k : RR G M (pc + 2) ls' st h kc ks Q) : RR G M pc ls (.int x :: st) h kc ks Q := r_set hs k fun _ _ _ _ _ _ _ _ _ _ _ _ _ _ _ _ E hl kk => lv_istore E.1.1 E.1.2.1 hd hl hn rfl kk
theorem r_istore_n {n : Fin 4} (hd : decode M.2.1 pc = .ok (.istore_n n, 1)) (hn : (n : Nat) < M.2.2.1) (hs : x_set n (.int x) ls = ls') (k : RR G M (pc + 1) ls' st h kc ks Q) : RR G M pc ls (.int x :: st) h kc ks Q := r_set hs k fun _ _ _ _ _ _ _ _ _ _ _ _ _ _ _ _ E hl kk => lv_istore_n E.1.1 E.1.2.1 hd rfl hl hn rfl kk
theorem r_astore {a : Nat} (hd : decode M.2.1 pc = .ok (.astore i, 2)) (hn : i < M.2.2.1) (hs : x_set i (.ref a) ls = ls') (k : RR G M (pc + 2) ls' st h kc ks Q) : RR G M pc ls (.ref a :: st) h kc ks Q := r_set hs k fun _ _ _ _ _ _ _ _ _ _ _ _ _ _ _ _ E hl kk => lv_astore E.1.1 E.1.2.1 hd hl hn rfl kk
theorem r_astore_n {n : Fin 4} {a : Nat} (hd : decode M.2.1 pc = .ok (.astore_n n, 1)) (hn : (n : Nat) < M.2.2.1) (hs : x_set n (.ref a) ls = ls') (k : RR G M (pc + 1) ls' st h kc ks Q) : RR G M pc ls (.ref a :: st) h kc ks Q := r_set hs k fun _ _ _ _ _ _ _ _ _ _ _ _ _ _ _ _ E hl kk => lv_astore_n E.1.1 E.1.2.1 hd rfl hl hn rfl kk
theorem r_iinc {n : Int} {v : Int32} (hd : decode M.2.1 pc = .ok (.iinc i n, 3)) (j : Nat) (hj : ls[j]? = some (i, .int x)) (hv : x + Int32.ofInt n = v) (hn : i < M.2.2.1) (hs : x_set i (.int v) ls = ls') (k : RR G M (pc + 3) ls' st h kc ks Q) : RR G M pc ls st h kc ks Q := r_set hs k fun _ _ _ _ _ _ _ _ _ _ _ _ _ _ _ _ E hl kk => lv_iinc E.1.1 E.1.2.1 hd hl hj hv hn rfl kk
/-! constants, arithmetic, the stack -/
theorem r_iconst {n : Int} {v : Int32} (hd : decode M.2.1 pc = .ok (.iconst n, 1)) (hv : Int32.ofInt n = v) (k : RR G M (pc + 1) ls (.int v :: st) h kc ks Q) : RR G M pc ls st h kc ks Q := rr_of k fun _ _ _ _ _ _ _ _ _ _ _ _ _ _ _ _ E _ kk => lv_iconst E.1.1 E.1.2.1 hd hv kk
theorem r_bipush {n : Int} {v : Int32} (hd : decode M.2.1 pc = .ok (.bipush n, 2)) (hv : (Int8.ofInt n).toInt32 = v) (k : RR G M (pc + 2) ls (.int v :: st) h kc ks Q) : RR G M pc ls st h kc ks Q := rr_of k fun _ _ _ _ _ _ _ _ _ _ _ _ _ _ _ _ E _ kk => lv_bipush E.1.1 E.1.2.1 hd hv kk
theorem r_sipush {n : Int} {v : Int32} (hd : decode M.2.1 pc = .ok (.sipush n, 3)) (hv : (Int16.ofInt n).toInt32 = v) (k : RR G M (pc + 3) ls (.int v :: st) h kc ks Q) : RR G M pc ls st h kc ks Q := rr_of k fun _ _ _ _ _ _ _ _ _ _ _ _ _ _ _ _ E _ kk => lv_sipush E.1.1 E.1.2.1 hd hv kk
theorem r_iadd (hd : decode M.2.1 pc = .ok (.iadd, 1)) (k : RR G M (pc + 1) ls (.int (x + y) :: st) h kc ks Q) : RR G M pc ls (.int y :: .int x :: st) h kc ks Q := rr_of k fun _ _ _ _ _ _ _ _ _ _ _ _ _ _ _ _ E _ kk => lv_iadd E.1.1 E.1.2.1 hd kk
theorem r_isub (hd : decode M.2.1 pc = .ok (.isub, 1)) (k : RR G M (pc + 1) ls (.int (x - y) :: st) h kc ks Q) : RR G M pc ls (.int y :: .int x :: st) h kc ks Q := rr_of k fun _ _ _ _ _ _ _ _ _ _ _ _ _ _ _ _ E _ kk => lv_isub E.1.1 E.1.2.1 hd kk
theorem r_imul (hd : decode M.2.1 pc = .ok (.imul, 1)) (k : RR G M (pc + 1) ls (.int (x * y) :: st) h kc ks Q) : RR G M pc ls (.int y :: .int x :: st) h kc ks Q := rr_of k fun _ _ _ _ _ _ _ _ _ _ _ _ _ _ _ _ E _ kk => lv_imul E.1.1 E.1.2.1 hd kk
theorem r_iand (hd : decode M.2.1 pc = .ok (.iand, 1)) (k : RR G M (pc + 1) ls (.int (x &&& y) :: st) h kc ks Q) : RR G M pc ls (.int y :: .int x :: st) h kc ks Q := rr_of k fun _ _ _ _ _ _ _ _ _ _ _ _ _ _ _ _ E _ kk => lv_iand E.1.1 E.1.2.1 hd kk
theorem r_dup {v : Value} (hd : decode M.2.1 pc = .ok (.dup, 1)) (hv : v.category = 1) (k : RR G M (pc + 1) ls (v :: v :: st) h kc ks Q) : RR G M pc ls (v :: st) h kc ks Q := rr_of k fun _ _ _ _ _ _ _ _ _ _ _ _ _ _ _ _ E _ kk => lv_dup E.1.1 E.1.2.1 hd hv kk
theorem r_pop {v : Value} (hd : decode M.2.1 pc = .ok (.pop, 1)) (hv : v.category = 1) (k : RR G M (pc + 1) ls st h kc ks Q) : RR G M pc ls (v :: st) h kc ks Q := rr_of k fun _ _ _ _ _ _ _ _ _ _ _ _ _ _ _ _ E _ kk => lv_pop E.1.1 E.1.2.1 hd hv kk
theorem r_goto {off : Int} {tgt : Nat} (hd : decode M.2.1 pc = .ok (.goto off, 3)) (ht : (pc : Int) + off = (tgt : Int)) (k : RR G M tgt ls st h kc ks Q) : RR G M pc ls st h kc ks Q := rr_of k fun _ _ _ _ _ _ _ _ _ _ _ _ _ _ _ _ E _ kk => lv_goto E.1.1 E.1.2.1 hd ht kk
end CORE
