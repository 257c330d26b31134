/-! MY ROWS: the kit's rows over a bundle: the world ws, the locals lv, the operand stack st. -/
def gw : List Cond := lw_tbl.filter goodWord
theorem gw_good : ∀ w ∈ gw, (w.onTables && w.keeps) = true ∨ ∃ ty, w = Cond.arrayClass ty := fun w h => good_of_word (List.mem_filter.mp h).2
theorem gw_in {y : Cond} (hy : y ∈ gw) : GoodIn gw (y :: gw) := fun w hw => by
  rcases List.mem_cons.mp hw with rfl | h
  · exact ⟨hy, gw_good _ hy⟩
  · exact ⟨h, gw_good w h⟩
def isNest : Cond → Bool
  | .fieldLinkNest .. => true
  | .methodLinkNest .. => true
  | _ => false
def nw : List Cond := lw_tbl.filter isNest
def Nw (U : State) : Prop := ∀ w ∈ nw, va_Nw w U
theorem Nw.warm {s U : State} (hW : s.WarmedH U.vm) (h : Nw s) : Nw U := fun w hw => by
  have hk := (List.mem_filter.mp hw).2
  have h1 := h w hw
  cases w <;> first | exact va_Nw.warmF hW h1 | exact va_Nw.warmM hW h1 | (simp [isNest] at hk; done)
theorem Nw.same {s U : State} (e : s.vm = U.vm) (h : Nw s) : Nw U := fun w hw => by
  have hk := (List.mem_filter.mp hw).2
  have h1 := h w hw
  cases w <;> first | exact va_Nw.same rfl e h1 | (simp [isNest] at hk; done)
abbrev Sint : List (ClassId × FieldType) → ClassId → Prop := fun t cA => t = [(cA, FieldType.int)]
/-- what is fixed in a method's walk -/
def Cx (p : Program) (s : State) (m : MethodId) (args : Array Value) (meth : Method) (c : Code) (cc : ByteArray) (nL : Nat) (own : String) (D : va_G) (cA : ClassId) (A : Nat → Prop) : Prop :=
  p.tables.exec = Jvm.exec ∧ c.code = cc ∧ c.maxLocals = nL ∧ s.vm.findClass own = some m.cls ∧ (∀ w ∈ gw, w.before args s = true) ∧ va_K D classes [(cA, .int)] s ∧ Nw s ∧ (∀ q : Nat, s.heap.size ≤ q → A q) ∧ meth.locks = false
def X (p : Program) (l : Launch) (e : Env) (R : Room) (s : State) (m : MethodId) (args : Array Value) (below : List Frame) (meth : Method) (c : Code) (D : va_G) (A : Nat → Prop) (nL cells slots : Nat) (Q : State → Prop) (ws : va_W) (pc : Nat) (lv : List (Nat × Value)) (st : List Value) : Prop :=
  ∀ (H : Heap) (locs : List Loc) (ls : Array Slot), va_P D classes ws H → va_D A ws → va_S A s.heap H locs → lv_has ls nL lv → W p l e R s m args below meth c H locs cells slots Q (F0 m pc ls st)
def Pw (D : va_G) (cA : ClassId) (sz : Nat) (wc : va_W) (U : State) : Prop := U.heap.size = sz ∧ va_P D classes wc U.heap ∧ (va_K D classes [(cA, .int)] U ∧ Nw U) ∧ va_D (fun _ => True) wc
theorem Pw.blind {As : List Value} {D : va_G} {cA : ClassId} {sz : Nat} {wc : va_W} : FrameBlind (va_Pc As (Pw D cA sz wc)) := fun a U g mk q => by
  obtain ⟨q0, q1, qP, ⟨qK, qN⟩, qD⟩ := q
  exact ⟨q0, q1, qP, ⟨va_K.moved (u := U) (U := U.calling g mk a) (Vm.Alike.refl U.vm) qK, Nw.same (s := U) (U := U.calling g mk a) rfl qN⟩, qD⟩
def Bw {S : Type} (D : va_G) (A : Nat → Prop) (w1 : S → va_W) (u : S) (t : State) : Prop := va_P D classes (w1 u) t.heap ∧ va_D A (w1 u)
/-- contracts: an int comes back; nothing comes back -/
def CtI (l : Launch) (D : va_G) (cA : ClassId) (y : MethodName) (bytes : ByteArray) (maxL : Nat) (rt : Option FieldType) (rm : Room) (As : List Value) (wc : va_W) {S : Type} (post : Int32 → S → Prop) (w1 : S → va_W) : Prop :=
  ∀ sz : Nat, Met l y (.code y bytes maxL rt :: gw) rm (va_Pc As (Pw D cA sz wc)) (va_Qi post (Bw D (va_A wc sz) w1) (va_A wc sz)) rm.cells rm.slots (va_A wc sz)
def CtV (l : Launch) (D : va_G) (cA : ClassId) (y : MethodName) (bytes : ByteArray) (maxL : Nat) (rm : Room) (As : List Value) (wc : va_W) {S : Type} (post : S → Prop) (w1 : S → va_W) : Prop :=
  ∀ sz : Nat, Met l y (.code y bytes maxL none :: gw) rm (va_Pc As (Pw D cA sz wc)) (va_Qv post (Bw D (va_A wc sz) w1) (va_A wc sz)) rm.cells rm.slots (va_A wc sz)
section MK
variable {p : Program} {l : Launch} {e : Env} {R : Room} {s : State} {m : MethodId} {args : Array Value} {below : List Frame} {meth : Method} {c : Code} {D : va_G} {A : Nat → Prop} {nL cells slots : Nat} {Q : State → Prop}
variable {cc : ByteArray} {own : String} {cA : ClassId} {ws : va_W} {pc : Nat} {lv : List (Nat × Value)} {rest : List Value}
theorem lk_at {ls : Array Slot} {i : Nat} {v : Value} (h : lv_has ls nL lv) (hk : lv.lookup i = some v) : ls[i]? = some (.val v) := by
  refine h.2.2 (i, v) ?_
  clear h
  induction lv with
  | nil => cases hk
  | cons q lv ih =>
    rw [List.lookup_cons] at hk
    by_cases hq : i = q.1
    · subst hq
      simp at hk
      subst hk
      exact List.mem_cons_self
    · have hb : (i == q.1) = false := by simp [hq]
      rw [hb] at hk
      exact List.mem_cons_of_mem _ (ih hk)
/-- a new value for the top of the stack -/
theorem x_top {x y : Int32} (h : x = y) (k : X p l e R s m args below meth c D A nL cells slots Q ws pc lv (.int y :: rest)) : X p l e R s m args below meth c D A nL cells slots Q ws pc lv (.int x :: rest) := h ▸ k
/-- the world in another order -/
theorem x_perm {ws' : va_W} (is : List Nat) (hn : va_nd is = true) (h : is.map (fun i => ws[i]?) = ws'.map some) (k : X p l e R s m args below meth c D A nL cells slots Q ws' pc lv rest) : X p l e R s m args below meth c D A nL cells slots Q ws pc lv rest := fun H locs ls hP hD hS hl => by
  refine k H locs ls (fun j q hq => ?_) (hD.sub is hn h) hS hl
  have h1 : (is.map (fun i => ws[i]?))[j]? = some (some q) := by rw [h, List.getElem?_map, hq]; rfl
  rw [List.getElem?_map] at h1
  cases hi : is[j]? with
  | none => rw [hi] at h1; cases h1
  | some i => rw [hi] at h1; exact hP i q (Option.some.inj h1)
/-- fewer locals known -/
theorem x_lv {lv' : List (Nat × Value)} (h : lv'.all (fun q => decide (lv.lookup q.1 = some q.2)) = true ∨ ∀ q ∈ lv', lv.lookup q.1 = some q.2) (k : X p l e R s m args below meth c D A nL cells slots Q ws pc lv' rest) : X p l e R s m args below meth c D A nL cells slots Q ws pc lv rest := fun H locs ls hP hD hS hl => by
  refine k H locs ls hP hD hS ⟨hl.1, hl.2.1, fun q hq => lk_at hl ?_⟩
  rcases h with h | h
  · simpa using List.all_eq_true.mp h q hq
  · exact h q hq
theorem x_eq {ws' : va_W} (h : ws = ws') (k : X p l e R s m args below meth c D A nL cells slots Q ws' pc lv rest) : X p l e R s m args below meth c D A nL cells slots Q ws pc lv rest := h ▸ k

theorem x_iconst (C : Cx p s m args meth c cc nL own D cA A) {n : Int} {v : Int32} (hdg : decode cc pc = .ok (.iconst n, 1)) (hv : Int32.ofInt n = v) (k : X p l e R s m args below meth c D A nL cells slots Q ws (pc + 1) lv (.int v :: rest)) : X p l e R s m args below meth c D A nL cells slots Q ws pc lv rest := fun H locs ls hP hD hS hl => lv_iconst C.1 C.2.1 hdg hv (k H locs ls hP hD hS hl)
theorem x_bipush (C : Cx p s m args meth c cc nL own D cA A) {n : Int} {v : Int32} (hdg : decode cc pc = .ok (.bipush n, 2)) (hv : (Int8.ofInt n).toInt32 = v) (k : X p l e R s m args below meth c D A nL cells slots Q ws (pc + 2) lv (.int v :: rest)) : X p l e R s m args below meth c D A nL cells slots Q ws pc lv rest := fun H locs ls hP hD hS hl => lv_bipush C.1 C.2.1 hdg hv (k H locs ls hP hD hS hl)
theorem x_sipush (C : Cx p s m args meth c cc nL own D cA A) {n : Int} {v : Int32} (hdg : decode cc pc = .ok (.sipush n, 3)) (hv : (Int16.ofInt n).toInt32 = v) (k : X p l e R s m args below meth c D A nL cells slots Q ws (pc + 3) lv (.int v :: rest)) : X p l e R s m args below meth c D A nL cells slots Q ws pc lv rest := fun H locs ls hP hD hS hl => lv_sipush C.1 C.2.1 hdg hv (k H locs ls hP hD hS hl)
theorem x_ldc (C : Cx p s m args meth c cc nL own D cA A) {index : Nat} {v : Int32} (hdg : decode cc pc = .ok (.ldc index, 2)) (hv : Cond.constant own index v ∈ gw) (k : X p l e R s m args below meth c D A nL cells slots Q ws (pc + 2) lv (.int v :: rest)) : X p l e R s m args below meth c D A nL cells slots Q ws pc lv rest := fun H locs ls hP hD hS hl => lv_ldc C.1 C.2.1 C.2.2.2.1 (C.2.2.2.2.1 _ hv) hdg (k H locs ls hP hD hS hl)
theorem x_ldcw (C : Cx p s m args meth c cc nL own D cA A) {index : Nat} {v : Int32} (hdg : decode cc pc = .ok (.ldc_w index, 3)) (hv : Cond.constant own index v ∈ gw) (k : X p l e R s m args below meth c D A nL cells slots Q ws (pc + 3) lv (.int v :: rest)) : X p l e R s m args below meth c D A nL cells slots Q ws pc lv rest := fun H locs ls hP hD hS hl => lv_ldcw C.1 C.2.1 C.2.2.2.1 (C.2.2.2.2.1 _ hv) hdg (k H locs ls hP hD hS hl)
theorem x_iload_n (C : Cx p s m args meth c cc nL own D cA A) {k0 : Fin 4} {i : Nat} {x : Int32} (hdg : decode cc pc = .ok (.iload_n k0, 1)) (hi : (k0 : Nat) = i) (hv : lv.lookup i = some (.int x)) (k : X p l e R s m args below meth c D A nL cells slots Q ws (pc + 1) lv (.int x :: rest)) : X p l e R s m args below meth c D A nL cells slots Q ws pc lv rest := fun H locs ls hP hD hS hl => lv_iload_n C.1 C.2.1 hdg hi (lk_at hl hv) (k H locs ls hP hD hS hl)
theorem x_iload (C : Cx p s m args meth c cc nL own D cA A) {i : Nat} {x : Int32} (hdg : decode cc pc = .ok (.iload i, 2)) (hv : lv.lookup i = some (.int x)) (k : X p l e R s m args below meth c D A nL cells slots Q ws (pc + 2) lv (.int x :: rest)) : X p l e R s m args below meth c D A nL cells slots Q ws pc lv rest := fun H locs ls hP hD hS hl => lv_iload C.1 C.2.1 hdg (lk_at hl hv) (k H locs ls hP hD hS hl)
theorem x_aload_n (C : Cx p s m args meth c cc nL own D cA A) {k0 : Fin 4} {i : Nat} {x : Nat} (hdg : decode cc pc = .ok (.aload_n k0, 1)) (hi : (k0 : Nat) = i) (hv : lv.lookup i = some (.ref x)) (k : X p l e R s m args below meth c D A nL cells slots Q ws (pc + 1) lv (.ref x :: rest)) : X p l e R s m args below meth c D A nL cells slots Q ws pc lv rest := fun H locs ls hP hD hS hl => lv_aload_n C.1 C.2.1 hdg hi (lk_at hl hv) (k H locs ls hP hD hS hl)
theorem x_aload (C : Cx p s m args meth c cc nL own D cA A) {i : Nat} {x : Nat} (hdg : decode cc pc = .ok (.aload i, 2)) (hv : lv.lookup i = some (.ref x)) (k : X p l e R s m args below meth c D A nL cells slots Q ws (pc + 2) lv (.ref x :: rest)) : X p l e R s m args below meth c D A nL cells slots Q ws pc lv rest := fun H locs ls hP hD hS hl => lv_aload C.1 C.2.1 hdg (lk_at hl hv) (k H locs ls hP hD hS hl)
theorem x_istore_n (C : Cx p s m args meth c cc nL own D cA A) {k0 : Fin 4} {i : Nat} {x : Int32} {lv' : List (Nat × Value)} (hdg : decode cc pc = .ok (.istore_n k0, 1)) (hi : (k0 : Nat) = i) (hn : i < nL) (hv : (i, Value.int x) :: lv.filter (fun q => !(q.1 == i) && !(q.1 + 1 == i && q.2.category == 2)) = lv') (k : X p l e R s m args below meth c D A nL cells slots Q ws (pc + 1) lv' rest) : X p l e R s m args below meth c D A nL cells slots Q ws pc lv (Value.int x :: rest) := fun H locs ls hP hD hS hl => lv_istore_n C.1 C.2.1 hdg hi hl hn hv (fun ls hl => k H locs ls hP hD hS hl)
theorem x_istore (C : Cx p s m args meth c cc nL own D cA A) {i : Nat} {x : Int32} {lv' : List (Nat × Value)} (hdg : decode cc pc = .ok (.istore i, 2)) (hn : i < nL) (hv : (i, Value.int x) :: lv.filter (fun q => !(q.1 == i) && !(q.1 + 1 == i && q.2.category == 2)) = lv') (k : X p l e R s m args below meth c D A nL cells slots Q ws (pc + 2) lv' rest) : X p l e R s m args below meth c D A nL cells slots Q ws pc lv (Value.int x :: rest) := fun H locs ls hP hD hS hl => lv_istore C.1 C.2.1 hdg hl hn hv (fun ls hl => k H locs ls hP hD hS hl)
theorem x_astore_n (C : Cx p s m args meth c cc nL own D cA A) {k0 : Fin 4} {i : Nat} {x : Nat} {lv' : List (Nat × Value)} (hdg : decode cc pc = .ok (.astore_n k0, 1)) (hi : (k0 : Nat) = i) (hn : i < nL) (hv : (i, Value.ref x) :: lv.filter (fun q => !(q.1 == i) && !(q.1 + 1 == i && q.2.category == 2)) = lv') (k : X p l e R s m args below meth c D A nL cells slots Q ws (pc + 1) lv' rest) : X p l e R s m args below meth c D A nL cells slots Q ws pc lv (Value.ref x :: rest) := fun H locs ls hP hD hS hl => lv_astore_n C.1 C.2.1 hdg hi hl hn hv (fun ls hl => k H locs ls hP hD hS hl)
theorem x_astore (C : Cx p s m args meth c cc nL own D cA A) {i : Nat} {x : Nat} {lv' : List (Nat × Value)} (hdg : decode cc pc = .ok (.astore i, 2)) (hn : i < nL) (hv : (i, Value.ref x) :: lv.filter (fun q => !(q.1 == i) && !(q.1 + 1 == i && q.2.category == 2)) = lv') (k : X p l e R s m args below meth c D A nL cells slots Q ws (pc + 2) lv' rest) : X p l e R s m args below meth c D A nL cells slots Q ws pc lv (Value.ref x :: rest) := fun H locs ls hP hD hS hl => lv_astore C.1 C.2.1 hdg hl hn hv (fun ls hl => k H locs ls hP hD hS hl)
theorem x_iinc (C : Cx p s m args meth c cc nL own D cA A) {i : Nat} {n : Int} {x v : Int32} {lv' : List (Nat × Value)} (hdg : decode cc pc = .ok (.iinc i n, 3)) (hx : lv.lookup i = some (.int x)) (hv : x + Int32.ofInt n = v) (hn : i < nL) (hl' : (i, Value.int v) :: lv.filter (fun q => !(q.1 == i) && !(q.1 + 1 == i && q.2.category == 2)) = lv') (k : X p l e R s m args below meth c D A nL cells slots Q ws (pc + 3) lv' rest) : X p l e R s m args below meth c D A nL cells slots Q ws pc lv rest := fun H locs ls hP hD hS hl => by
  have h2 : lv_has ls nL ((i, Value.int x) :: lv) := ⟨hl.1, hl.2.1, fun q hq => by
    rcases List.mem_cons.mp hq with rfl | h
    · exact lk_at hl hx
    · exact hl.2.2 q h⟩
  refine lv_iinc (k := 0) C.1 C.2.1 hdg h2 rfl hv hn (lv' := lv') ?_ (fun ls hl => k H locs ls hP hD hS hl)
  rw [List.filter_cons_of_neg (by simp)]
  exact hl'
theorem x_iadd (C : Cx p s m args meth c cc nL own D cA A) {x y : Int32} (hdg : decode cc pc = .ok (.iadd, 1)) (k : X p l e R s m args below meth c D A nL cells slots Q ws (pc + 1) lv (.int (x + y) :: rest)) : X p l e R s m args below meth c D A nL cells slots Q ws pc lv (.int y :: .int x :: rest) := fun H locs ls hP hD hS hl => lv_iadd C.1 C.2.1 hdg (k H locs ls hP hD hS hl)
theorem x_isub (C : Cx p s m args meth c cc nL own D cA A) {x y : Int32} (hdg : decode cc pc = .ok (.isub, 1)) (k : X p l e R s m args below meth c D A nL cells slots Q ws (pc + 1) lv (.int (x - y) :: rest)) : X p l e R s m args below meth c D A nL cells slots Q ws pc lv (.int y :: .int x :: rest) := fun H locs ls hP hD hS hl => lv_isub C.1 C.2.1 hdg (k H locs ls hP hD hS hl)
theorem x_imul (C : Cx p s m args meth c cc nL own D cA A) {x y : Int32} (hdg : decode cc pc = .ok (.imul, 1)) (k : X p l e R s m args below meth c D A nL cells slots Q ws (pc + 1) lv (.int (x * y) :: rest)) : X p l e R s m args below meth c D A nL cells slots Q ws pc lv (.int y :: .int x :: rest) := fun H locs ls hP hD hS hl => lv_imul C.1 C.2.1 hdg (k H locs ls hP hD hS hl)
theorem x_iand (C : Cx p s m args meth c cc nL own D cA A) {x y : Int32} (hdg : decode cc pc = .ok (.iand, 1)) (k : X p l e R s m args below meth c D A nL cells slots Q ws (pc + 1) lv (.int (x &&& y) :: rest)) : X p l e R s m args below meth c D A nL cells slots Q ws pc lv (.int y :: .int x :: rest) := fun H locs ls hP hD hS hl => lv_iand C.1 C.2.1 hdg (k H locs ls hP hD hS hl)
theorem x_ior (C : Cx p s m args meth c cc nL own D cA A) {x y : Int32} (hdg : decode cc pc = .ok (.ior, 1)) (k : X p l e R s m args below meth c D A nL cells slots Q ws (pc + 1) lv (.int (x ||| y) :: rest)) : X p l e R s m args below meth c D A nL cells slots Q ws pc lv (.int y :: .int x :: rest) := fun H locs ls hP hD hS hl => lv_ior C.1 C.2.1 hdg (k H locs ls hP hD hS hl)
theorem x_ixor (C : Cx p s m args meth c cc nL own D cA A) {x y : Int32} (hdg : decode cc pc = .ok (.ixor, 1)) (k : X p l e R s m args below meth c D A nL cells slots Q ws (pc + 1) lv (.int (x ^^^ y) :: rest)) : X p l e R s m args below meth c D A nL cells slots Q ws pc lv (.int y :: .int x :: rest) := fun H locs ls hP hD hS hl => lv_ixor C.1 C.2.1 hdg (k H locs ls hP hD hS hl)
theorem x_ishl (C : Cx p s m args meth c cc nL own D cA A) {x y : Int32} (hdg : decode cc pc = .ok (.ishl, 1)) (k : X p l e R s m args below meth c D A nL cells slots Q ws (pc + 1) lv (.int (x <<< (y &&& 31)) :: rest)) : X p l e R s m args below meth c D A nL cells slots Q ws pc lv (.int y :: .int x :: rest) := fun H locs ls hP hD hS hl => lv_ishl C.1 C.2.1 hdg (k H locs ls hP hD hS hl)
theorem x_ishr (C : Cx p s m args meth c cc nL own D cA A) {x y : Int32} (hdg : decode cc pc = .ok (.ishr, 1)) (k : X p l e R s m args below meth c D A nL cells slots Q ws (pc + 1) lv (.int (x >>> (y &&& 31)) :: rest)) : X p l e R s m args below meth c D A nL cells slots Q ws pc lv (.int y :: .int x :: rest) := fun H locs ls hP hD hS hl => lv_ishr C.1 C.2.1 hdg (k H locs ls hP hD hS hl)
theorem x_iushr (C : Cx p s m args meth c cc nL own D cA A) {x y v : Int32} (hdg : decode cc pc = .ok (.iushr, 1)) (hv : (x.toUInt32 >>> (y.toUInt32 &&& Int32.toUInt32 31)).toInt32 = v) (k : X p l e R s m args below meth c D A nL cells slots Q ws (pc + 1) lv (.int v :: rest)) : X p l e R s m args below meth c D A nL cells slots Q ws pc lv (.int y :: .int x :: rest) := fun H locs ls hP hD hS hl => lv_iushr C.1 C.2.1 hdg hv (k H locs ls hP hD hS hl)
theorem x_idiv (C : Cx p s m args meth c cc nL own D cA A) {x y : Int32} (hdg : decode cc pc = .ok (.idiv, 1)) (hv : ¬ y = 0) (k : X p l e R s m args below meth c D A nL cells slots Q ws (pc + 1) lv (.int (x / y) :: rest)) : X p l e R s m args below meth c D A nL cells slots Q ws pc lv (.int y :: .int x :: rest) := fun H locs ls hP hD hS hl => lv_idiv C.1 C.2.1 hdg hv (k H locs ls hP hD hS hl)
theorem x_irem (C : Cx p s m args meth c cc nL own D cA A) {x y : Int32} (hdg : decode cc pc = .ok (.irem, 1)) (hv : ¬ y = 0) (k : X p l e R s m args below meth c D A nL cells slots Q ws (pc + 1) lv (.int (x - x / y * y) :: rest)) : X p l e R s m args below meth c D A nL cells slots Q ws pc lv (.int y :: .int x :: rest) := fun H locs ls hP hD hS hl => lv_irem C.1 C.2.1 hdg hv (k H locs ls hP hD hS hl)
theorem x_ineg (C : Cx p s m args meth c cc nL own D cA A) {x : Int32} (hdg : decode cc pc = .ok (.ineg, 1)) (k : X p l e R s m args below meth c D A nL cells slots Q ws (pc + 1) lv (.int (-x) :: rest)) : X p l e R s m args below meth c D A nL cells slots Q ws pc lv (.int x :: rest) := fun H locs ls hP hD hS hl => lv_ineg C.1 C.2.1 hdg (k H locs ls hP hD hS hl)
theorem x_dup (C : Cx p s m args meth c cc nL own D cA A) {v : Value} (hdg : decode cc pc = .ok (.dup, 1)) (hv : v.category = 1) (k : X p l e R s m args below meth c D A nL cells slots Q ws (pc + 1) lv (v :: v :: rest)) : X p l e R s m args below meth c D A nL cells slots Q ws pc lv (v :: rest) := fun H locs ls hP hD hS hl => lv_dup C.1 C.2.1 hdg hv (k H locs ls hP hD hS hl)
theorem x_dup_x1 (C : Cx p s m args meth c cc nL own D cA A) {v w : Value} (hdg : decode cc pc = .ok (.dup_x1, 1)) (hv : v.category = 1) (hw : w.category = 1) (k : X p l e R s m args below meth c D A nL cells slots Q ws (pc + 1) lv (v :: w :: v :: rest)) : X p l e R s m args below meth c D A nL cells slots Q ws pc lv (v :: w :: rest) := fun H locs ls hP hD hS hl => lv_dup_x1 C.1 C.2.1 hdg hv hw (k H locs ls hP hD hS hl)
theorem x_dup2 (C : Cx p s m args meth c cc nL own D cA A) {v w : Value} (hdg : decode cc pc = .ok (.dup2, 1)) (hv : v.category = 1) (hw : w.category = 1) (k : X p l e R s m args below meth c D A nL cells slots Q ws (pc + 1) lv (v :: w :: v :: w :: rest)) : X p l e R s m args below meth c D A nL cells slots Q ws pc lv (v :: w :: rest) := fun H locs ls hP hD hS hl => lv_dup2_11 C.1 C.2.1 hdg hv hw (k H locs ls hP hD hS hl)
theorem x_pop (C : Cx p s m args meth c cc nL own D cA A) {v : Value} (hdg : decode cc pc = .ok (.pop, 1)) (hv : v.category = 1) (k : X p l e R s m args below meth c D A nL cells slots Q ws (pc + 1) lv rest) : X p l e R s m args below meth c D A nL cells slots Q ws pc lv (v :: rest) := fun H locs ls hP hD hS hl => lv_pop C.1 C.2.1 hdg hv (k H locs ls hP hD hS hl)
theorem x_iaddN (C : Cx p s m args meth c cc nL own D cA A) {a b : Nat} (hdg : decode cc pc = .ok (.iadd, 1)) (k : X p l e R s m args below meth c D A nL cells slots Q ws (pc + 1) lv (.int (nI (a + b)) :: rest)) : X p l e R s m args below meth c D A nL cells slots Q ws pc lv (.int (nI b) :: .int (nI a) :: rest) := x_iadd C hdg (x_top (nI_add a b) k)
theorem x_isubN (C : Cx p s m args meth c cc nL own D cA A) {a b : Nat} (hdg : decode cc pc = .ok (.isub, 1)) (h : b ≤ a) (k : X p l e R s m args below meth c D A nL cells slots Q ws (pc + 1) lv (.int (nI (a - b)) :: rest)) : X p l e R s m args below meth c D A nL cells slots Q ws pc lv (.int (nI b) :: .int (nI a) :: rest) := x_isub C hdg (x_top (pk_sub h) k)
theorem x_imulN (C : Cx p s m args meth c cc nL own D cA A) {a b : Nat} (hdg : decode cc pc = .ok (.imul, 1)) (k : X p l e R s m args below meth c D A nL cells slots Q ws (pc + 1) lv (.int (nI (a * b)) :: rest)) : X p l e R s m args below meth c D A nL cells slots Q ws pc lv (.int (nI b) :: .int (nI a) :: rest) := x_imul C hdg (x_top (pk_mul a b) k)
theorem x_idivN (C : Cx p s m args meth c cc nL own D cA A) {a b : Nat} (hdg : decode cc pc = .ok (.idiv, 1)) (ha : a < 2 ^ 31) (h0 : 0 < b) (hb : b < 2 ^ 31) (k : X p l e R s m args below meth c D A nL cells slots Q ws (pc + 1) lv (.int (nI (a / b)) :: rest)) : X p l e R s m args below meth c D A nL cells slots Q ws pc lv (.int (nI b) :: .int (nI a) :: rest) := x_idiv C hdg (nI_ne0 h0 hb) (x_top (pk_div ha h0 hb) k)
theorem x_iremN (C : Cx p s m args meth c cc nL own D cA A) {a b : Nat} (hdg : decode cc pc = .ok (.irem, 1)) (ha : a < 2 ^ 31) (h0 : 0 < b) (hb : b < 2 ^ 31) (k : X p l e R s m args below meth c D A nL cells slots Q ws (pc + 1) lv (.int (nI (a % b)) :: rest)) : X p l e R s m args below meth c D A nL cells slots Q ws pc lv (.int (nI b) :: .int (nI a) :: rest) := x_irem C hdg (nI_ne0 h0 hb) (x_top (pk_rem ha h0 hb) k)
theorem x_iincN (C : Cx p s m args meth c cc nL own D cA A) {i a : Nat} {lv' : List (Nat × Value)} (hdg : decode cc pc = .ok (.iinc i 1, 3)) (hx : lv.lookup i = some (.int (nI a))) (hn : i < nL) (hl' : (i, Value.int (nI (a + 1))) :: lv.filter (fun q => !(q.1 == i) && !(q.1 + 1 == i && q.2.category == 2)) = lv') (k : X p l e R s m args below meth c D A nL cells slots Q ws (pc + 3) lv' rest) : X p l e R s m args below meth c D A nL cells slots Q ws pc lv rest := x_iinc C hdg hx (nI_1 a) hn hl' k
theorem x_if_eq (C : Cx p s m args meth c cc nL own D cA A) {x : Int32} {off : Int} {tgt : Nat} (hdg : decode cc pc = .ok (.ifCond .eq off, 3)) (ht : (pc : Int) + off = (tgt : Int)) (kt : x = 0 → X p l e R s m args below meth c D A nL cells slots Q ws tgt lv rest) (kf : ¬ x = 0 → X p l e R s m args below meth c D A nL cells slots Q ws (pc + 3) lv rest) : X p l e R s m args below meth c D A nL cells slots Q ws pc lv (.int x :: rest) := fun H locs ls hP hD hS hl => lv_if_eq C.1 C.2.1 hdg ht (fun q => kt q H locs ls hP hD hS hl) (fun q => kf q H locs ls hP hD hS hl)
theorem x_if_ne (C : Cx p s m args meth c cc nL own D cA A) {x : Int32} {off : Int} {tgt : Nat} (hdg : decode cc pc = .ok (.ifCond .ne off, 3)) (ht : (pc : Int) + off = (tgt : Int)) (kt : ¬ x = 0 → X p l e R s m args below meth c D A nL cells slots Q ws tgt lv rest) (kf : x = 0 → X p l e R s m args below meth c D A nL cells slots Q ws (pc + 3) lv rest) : X p l e R s m args below meth c D A nL cells slots Q ws pc lv (.int x :: rest) := fun H locs ls hP hD hS hl => lv_if_ne C.1 C.2.1 hdg ht (fun q => kt q H locs ls hP hD hS hl) (fun q => kf q H locs ls hP hD hS hl)
theorem x_if_lt (C : Cx p s m args meth c cc nL own D cA A) {x : Int32} {off : Int} {tgt : Nat} (hdg : decode cc pc = .ok (.ifCond .lt off, 3)) (ht : (pc : Int) + off = (tgt : Int)) (kt : x < 0 → X p l e R s m args below meth c D A nL cells slots Q ws tgt lv rest) (kf : ¬ x < 0 → X p l e R s m args below meth c D A nL cells slots Q ws (pc + 3) lv rest) : X p l e R s m args below meth c D A nL cells slots Q ws pc lv (.int x :: rest) := fun H locs ls hP hD hS hl => lv_if_lt C.1 C.2.1 hdg ht (fun q => kt q H locs ls hP hD hS hl) (fun q => kf q H locs ls hP hD hS hl)
theorem x_if_ge (C : Cx p s m args meth c cc nL own D cA A) {x : Int32} {off : Int} {tgt : Nat} (hdg : decode cc pc = .ok (.ifCond .ge off, 3)) (ht : (pc : Int) + off = (tgt : Int)) (kt : 0 ≤ x → X p l e R s m args below meth c D A nL cells slots Q ws tgt lv rest) (kf : ¬ 0 ≤ x → X p l e R s m args below meth c D A nL cells slots Q ws (pc + 3) lv rest) : X p l e R s m args below meth c D A nL cells slots Q ws pc lv (.int x :: rest) := fun H locs ls hP hD hS hl => lv_if_ge C.1 C.2.1 hdg ht (fun q => kt q H locs ls hP hD hS hl) (fun q => kf q H locs ls hP hD hS hl)
theorem x_if_gt (C : Cx p s m args meth c cc nL own D cA A) {x : Int32} {off : Int} {tgt : Nat} (hdg : decode cc pc = .ok (.ifCond .gt off, 3)) (ht : (pc : Int) + off = (tgt : Int)) (kt : 0 < x → X p l e R s m args below meth c D A nL cells slots Q ws tgt lv rest) (kf : ¬ 0 < x → X p l e R s m args below meth c D A nL cells slots Q ws (pc + 3) lv rest) : X p l e R s m args below meth c D A nL cells slots Q ws pc lv (.int x :: rest) := fun H locs ls hP hD hS hl => lv_if_gt C.1 C.2.1 hdg ht (fun q => kt q H locs ls hP hD hS hl) (fun q => kf q H locs ls hP hD hS hl)
theorem x_if_le (C : Cx p s m args meth c cc nL own D cA A) {x : Int32} {off : Int} {tgt : Nat} (hdg : decode cc pc = .ok (.ifCond .le off, 3)) (ht : (pc : Int) + off = (tgt : Int)) (kt : x ≤ 0 → X p l e R s m args below meth c D A nL cells slots Q ws tgt lv rest) (kf : ¬ x ≤ 0 → X p l e R s m args below meth c D A nL cells slots Q ws (pc + 3) lv rest) : X p l e R s m args below meth c D A nL cells slots Q ws pc lv (.int x :: rest) := fun H locs ls hP hD hS hl => lv_if_le C.1 C.2.1 hdg ht (fun q => kt q H locs ls hP hD hS hl) (fun q => kf q H locs ls hP hD hS hl)
theorem x_icmp_eq (C : Cx p s m args meth c cc nL own D cA A) {x y : Int32} {off : Int} {tgt : Nat} (hdg : decode cc pc = .ok (.if_icmp .eq off, 3)) (ht : (pc : Int) + off = (tgt : Int)) (kt : x = y → X p l e R s m args below meth c D A nL cells slots Q ws tgt lv rest) (kf : ¬ x = y → X p l e R s m args below meth c D A nL cells slots Q ws (pc + 3) lv rest) : X p l e R s m args below meth c D A nL cells slots Q ws pc lv (.int y :: .int x :: rest) := fun H locs ls hP hD hS hl => lv_icmp_eq C.1 C.2.1 hdg ht (fun q => kt q H locs ls hP hD hS hl) (fun q => kf q H locs ls hP hD hS hl)
theorem x_icmp_ne (C : Cx p s m args meth c cc nL own D cA A) {x y : Int32} {off : Int} {tgt : Nat} (hdg : decode cc pc = .ok (.if_icmp .ne off, 3)) (ht : (pc : Int) + off = (tgt : Int)) (kt : ¬ x = y → X p l e R s m args below meth c D A nL cells slots Q ws tgt lv rest) (kf : x = y → X p l e R s m args below meth c D A nL cells slots Q ws (pc + 3) lv rest) : X p l e R s m args below meth c D A nL cells slots Q ws pc lv (.int y :: .int x :: rest) := fun H locs ls hP hD hS hl => lv_icmp_ne C.1 C.2.1 hdg ht (fun q => kt q H locs ls hP hD hS hl) (fun q => kf q H locs ls hP hD hS hl)
theorem x_icmp_lt (C : Cx p s m args meth c cc nL own D cA A) {x y : Int32} {off : Int} {tgt : Nat} (hdg : decode cc pc = .ok (.if_icmp .lt off, 3)) (ht : (pc : Int) + off = (tgt : Int)) (kt : x < y → X p l e R s m args below meth c D A nL cells slots Q ws tgt lv rest) (kf : ¬ x < y → X p l e R s m args below meth c D A nL cells slots Q ws (pc + 3) lv rest) : X p l e R s m args below meth c D A nL cells slots Q ws pc lv (.int y :: .int x :: rest) := fun H locs ls hP hD hS hl => lv_icmp_lt C.1 C.2.1 hdg ht (fun q => kt q H locs ls hP hD hS hl) (fun q => kf q H locs ls hP hD hS hl)
theorem x_icmp_ge (C : Cx p s m args meth c cc nL own D cA A) {x y : Int32} {off : Int} {tgt : Nat} (hdg : decode cc pc = .ok (.if_icmp .ge off, 3)) (ht : (pc : Int) + off = (tgt : Int)) (kt : y ≤ x → X p l e R s m args below meth c D A nL cells slots Q ws tgt lv rest) (kf : ¬ y ≤ x → X p l e R s m args below meth c D A nL cells slots Q ws (pc + 3) lv rest) : X p l e R s m args below meth c D A nL cells slots Q ws pc lv (.int y :: .int x :: rest) := fun H locs ls hP hD hS hl => lv_icmp_ge C.1 C.2.1 hdg ht (fun q => kt q H locs ls hP hD hS hl) (fun q => kf q H locs ls hP hD hS hl)
theorem x_icmp_gt (C : Cx p s m args meth c cc nL own D cA A) {x y : Int32} {off : Int} {tgt : Nat} (hdg : decode cc pc = .ok (.if_icmp .gt off, 3)) (ht : (pc : Int) + off = (tgt : Int)) (kt : y < x → X p l e R s m args below meth c D A nL cells slots Q ws tgt lv rest) (kf : ¬ y < x → X p l e R s m args below meth c D A nL cells slots Q ws (pc + 3) lv rest) : X p l e R s m args below meth c D A nL cells slots Q ws pc lv (.int y :: .int x :: rest) := fun H locs ls hP hD hS hl => lv_icmp_gt C.1 C.2.1 hdg ht (fun q => kt q H locs ls hP hD hS hl) (fun q => kf q H locs ls hP hD hS hl)
theorem x_icmp_le (C : Cx p s m args meth c cc nL own D cA A) {x y : Int32} {off : Int} {tgt : Nat} (hdg : decode cc pc = .ok (.if_icmp .le off, 3)) (ht : (pc : Int) + off = (tgt : Int)) (kt : x ≤ y → X p l e R s m args below meth c D A nL cells slots Q ws tgt lv rest) (kf : ¬ x ≤ y → X p l e R s m args below meth c D A nL cells slots Q ws (pc + 3) lv rest) : X p l e R s m args below meth c D A nL cells slots Q ws pc lv (.int y :: .int x :: rest) := fun H locs ls hP hD hS hl => lv_icmp_le C.1 C.2.1 hdg ht (fun q => kt q H locs ls hP hD hS hl) (fun q => kf q H locs ls hP hD hS hl)
theorem x_icmp_eqN (C : Cx p s m args meth c cc nL own D cA A) {a b : Nat} {off : Int} {tgt : Nat} (hdg : decode cc pc = .ok (.if_icmp .eq off, 3)) (ht : (pc : Int) + off = (tgt : Int)) (ha : a < 2 ^ 31) (hb : b < 2 ^ 31) (kt : a = b → X p l e R s m args below meth c D A nL cells slots Q ws tgt lv rest) (kf : a ≠ b → X p l e R s m args below meth c D A nL cells slots Q ws (pc + 3) lv rest) : X p l e R s m args below meth c D A nL cells slots Q ws pc lv (.int (nI b) :: .int (nI a) :: rest) := x_icmp_eq C hdg ht (fun q => kt ((nI_eq ha hb).mp q)) (fun q => kf (fun z => q ((nI_eq ha hb).mpr z)))
theorem x_icmp_neN (C : Cx p s m args meth c cc nL own D cA A) {a b : Nat} {off : Int} {tgt : Nat} (hdg : decode cc pc = .ok (.if_icmp .ne off, 3)) (ht : (pc : Int) + off = (tgt : Int)) (ha : a < 2 ^ 31) (hb : b < 2 ^ 31) (kt : a ≠ b → X p l e R s m args below meth c D A nL cells slots Q ws tgt lv rest) (kf : a = b → X p l e R s m args below meth c D A nL cells slots Q ws (pc + 3) lv rest) : X p l e R s m args below meth c D A nL cells slots Q ws pc lv (.int (nI b) :: .int (nI a) :: rest) := x_icmp_ne C hdg ht (fun q => kt (fun z => q ((nI_eq ha hb).mpr z))) (fun q => kf ((nI_eq ha hb).mp q))
theorem x_icmp_ltN (C : Cx p s m args meth c cc nL own D cA A) {a b : Nat} {off : Int} {tgt : Nat} (hdg : decode cc pc = .ok (.if_icmp .lt off, 3)) (ht : (pc : Int) + off = (tgt : Int)) (ha : a < 2 ^ 31) (hb : b < 2 ^ 31) (kt : a < b → X p l e R s m args below meth c D A nL cells slots Q ws tgt lv rest) (kf : b ≤ a → X p l e R s m args below meth c D A nL cells slots Q ws (pc + 3) lv rest) : X p l e R s m args below meth c D A nL cells slots Q ws pc lv (.int (nI b) :: .int (nI a) :: rest) := x_icmp_lt C hdg ht (fun q => kt ((nI_ltI ha hb).mp q)) (fun q => kf (Nat.not_lt.mp fun z => q ((nI_ltI ha hb).mpr z)))
theorem x_icmp_geN (C : Cx p s m args meth c cc nL own D cA A) {a b : Nat} {off : Int} {tgt : Nat} (hdg : decode cc pc = .ok (.if_icmp .ge off, 3)) (ht : (pc : Int) + off = (tgt : Int)) (ha : a < 2 ^ 31) (hb : b < 2 ^ 31) (kt : b ≤ a → X p l e R s m args below meth c D A nL cells slots Q ws tgt lv rest) (kf : a < b → X p l e R s m args below meth c D A nL cells slots Q ws (pc + 3) lv rest) : X p l e R s m args below meth c D A nL cells slots Q ws pc lv (.int (nI b) :: .int (nI a) :: rest) := x_icmp_ge C hdg ht (fun q => kt ((nI_leI hb ha).mp q)) (fun q => kf (Nat.not_le.mp fun z => q ((nI_leI hb ha).mpr z)))
theorem x_icmp_gtN (C : Cx p s m args meth c cc nL own D cA A) {a b : Nat} {off : Int} {tgt : Nat} (hdg : decode cc pc = .ok (.if_icmp .gt off, 3)) (ht : (pc : Int) + off = (tgt : Int)) (ha : a < 2 ^ 31) (hb : b < 2 ^ 31) (kt : b < a → X p l e R s m args below meth c D A nL cells slots Q ws tgt lv rest) (kf : a ≤ b → X p l e R s m args below meth c D A nL cells slots Q ws (pc + 3) lv rest) : X p l e R s m args below meth c D A nL cells slots Q ws pc lv (.int (nI b) :: .int (nI a) :: rest) := x_icmp_gt C hdg ht (fun q => kt ((nI_ltI hb ha).mp q)) (fun q => kf (Nat.not_lt.mp fun z => q ((nI_ltI hb ha).mpr z)))
theorem x_icmp_leN (C : Cx p s m args meth c cc nL own D cA A) {a b : Nat} {off : Int} {tgt : Nat} (hdg : decode cc pc = .ok (.if_icmp .le off, 3)) (ht : (pc : Int) + off = (tgt : Int)) (ha : a < 2 ^ 31) (hb : b < 2 ^ 31) (kt : a ≤ b → X p l e R s m args below meth c D A nL cells slots Q ws tgt lv rest) (kf : b < a → X p l e R s m args below meth c D A nL cells slots Q ws (pc + 3) lv rest) : X p l e R s m args below meth c D A nL cells slots Q ws pc lv (.int (nI b) :: .int (nI a) :: rest) := x_icmp_le C hdg ht (fun q => kt ((nI_leI ha hb).mp q)) (fun q => kf (Nat.not_le.mp fun z => q ((nI_leI ha hb).mpr z)))
theorem x_if_eqN (C : Cx p s m args meth c cc nL own D cA A) {a : Nat} {off : Int} {tgt : Nat} (hdg : decode cc pc = .ok (.ifCond .eq off, 3)) (ht : (pc : Int) + off = (tgt : Int)) (ha : a < 2 ^ 31) (kt : a = 0 → X p l e R s m args below meth c D A nL cells slots Q ws tgt lv rest) (kf : 0 < a → X p l e R s m args below meth c D A nL cells slots Q ws (pc + 3) lv rest) : X p l e R s m args below meth c D A nL cells slots Q ws pc lv (.int (nI a) :: rest) := x_if_eq C hdg ht (fun q => kt (by rcases Nat.eq_zero_or_pos a with z | z; exact z; exact absurd q (nI_ne0 z ha))) (fun q => kf (Nat.pos_of_ne_zero fun z => q (by rw [z]; rfl)))
theorem x_if_neN (C : Cx p s m args meth c cc nL own D cA A) {a : Nat} {off : Int} {tgt : Nat} (hdg : decode cc pc = .ok (.ifCond .ne off, 3)) (ht : (pc : Int) + off = (tgt : Int)) (ha : a < 2 ^ 31) (kt : 0 < a → X p l e R s m args below meth c D A nL cells slots Q ws tgt lv rest) (kf : a = 0 → X p l e R s m args below meth c D A nL cells slots Q ws (pc + 3) lv rest) : X p l e R s m args below meth c D A nL cells slots Q ws pc lv (.int (nI a) :: rest) := x_if_ne C hdg ht (fun q => kt (Nat.pos_of_ne_zero fun z => q (by rw [z]; rfl))) (fun q => kf (by rcases Nat.eq_zero_or_pos a with z | z; exact z; exact absurd q (nI_ne0 z ha)))
theorem x_if_gtN (C : Cx p s m args meth c cc nL own D cA A) {a : Nat} {off : Int} {tgt : Nat} (hdg : decode cc pc = .ok (.ifCond .gt off, 3)) (ht : (pc : Int) + off = (tgt : Int)) (ha : a < 2 ^ 31) (kt : 0 < a → X p l e R s m args below meth c D A nL cells slots Q ws tgt lv rest) (kf : a = 0 → X p l e R s m args below meth c D A nL cells slots Q ws (pc + 3) lv rest) : X p l e R s m args below meth c D A nL cells slots Q ws pc lv (.int (nI a) :: rest) := x_if_gt C hdg ht (fun q => kt (Nat.pos_of_ne_zero fun z => absurd q (by rw [z]; decide))) (fun q => kf (by rcases Nat.eq_zero_or_pos a with z | z; exact z; exact absurd (nI_lt z ha) q))
theorem x_if_leN (C : Cx p s m args meth c cc nL own D cA A) {a : Nat} {off : Int} {tgt : Nat} (hdg : decode cc pc = .ok (.ifCond .le off, 3)) (ht : (pc : Int) + off = (tgt : Int)) (ha : a < 2 ^ 31) (kt : a = 0 → X p l e R s m args below meth c D A nL cells slots Q ws tgt lv rest) (kf : 0 < a → X p l e R s m args below meth c D A nL cells slots Q ws (pc + 3) lv rest) : X p l e R s m args below meth c D A nL cells slots Q ws pc lv (.int (nI a) :: rest) := x_if_le C hdg ht (fun q => kt (by rcases Nat.eq_zero_or_pos a with z | z; exact z; exact absurd q (nI_nle z ha))) (fun q => kf (Nat.pos_of_ne_zero fun z => q (by rw [z]; decide)))
theorem x_if_ltN (C : Cx p s m args meth c cc nL own D cA A) {a : Nat} {off : Int} {tgt : Nat} (hdg : decode cc pc = .ok (.ifCond .lt off, 3)) (ht : (pc : Int) + off = (tgt : Int)) (ha : a < 2 ^ 31) (kf : X p l e R s m args below meth c D A nL cells slots Q ws (pc + 3) lv rest) : X p l e R s m args below meth c D A nL cells slots Q ws pc lv (.int (nI a) :: rest) := x_if_lt C hdg ht (fun q => absurd q (nI_pos ha)) (fun _ => kf)
theorem x_if_geN (C : Cx p s m args meth c cc nL own D cA A) {a : Nat} {off : Int} {tgt : Nat} (hdg : decode cc pc = .ok (.ifCond .ge off, 3)) (ht : (pc : Int) + off = (tgt : Int)) (ha : a < 2 ^ 31) (kt : X p l e R s m args below meth c D A nL cells slots Q ws tgt lv rest) : X p l e R s m args below meth c D A nL cells slots Q ws pc lv (.int (nI a) :: rest) := x_if_ge C hdg ht (fun _ => kt) (fun q => absurd (nI_pos' ha) q)
theorem x_goto (C : Cx p s m args meth c cc nL own D cA A) {off : Int} {tgt : Nat} (hdg : decode cc pc = .ok (.goto off, 3)) (ht : (pc : Int) + off = (tgt : Int)) (k : X p l e R s m args below meth c D A nL cells slots Q ws tgt lv rest) : X p l e R s m args below meth c D A nL cells slots Q ws pc lv rest := fun H locs ls hP hD hS hl => lv_goto C.1 C.2.1 hdg ht (k H locs ls hP hD hS hl)
theorem x_get (C : Cx p s m args meth c cc nL own D cA A) {a : Nat} {ref C0 : String} {T : u_T} {N ci index : Nat} (hdg : decode cc pc = .ok (.getfield index, 3)) (q0 : Nat) {fs : List Value} (he : ws[q0]? = some (a, .inr (ci, fs))) (hc : classes[ci]? = some (C0, T, N)) (hin : ∀ w ∈ u_ws C0 T N, w ∈ gw) (k0 : Nat) (hk : k0 < N) (hlink : Cond.fieldLink own index ref (T k0).2.1 (T k0).2.2.1 ∈ gw) (hsame : (T k0).1 = ref) {v : Value} (hv : fs[k0]? = some v) (k : X p l e R s m args below meth c D A nL cells slots Q ws (pc + 3) lv (v :: rest)) : X p l e R s m args below meth c D A nL cells slots Q ws pc lv (.ref a :: rest) := fun H locs ls hP hD hS hl => by
  obtain ⟨hx, hb, hml, hown, hts, hK, hN, hA, hlk⟩ := C
  exact va_get hx hb hts hin hown hK hP q0 he hc k0 hk (hts _ hlink) (fun x h => by rw [← hsame]; exact h) hv hdg (k H locs ls hP hD hS hl)
theorem x_getN (C : Cx p s m args meth c cc nL own D cA A) {a : Nat} {ref C0 host : String} {T : u_T} {N ci index : Nat} (hdg : decode cc pc = .ok (.getfield index, 3)) (q0 : Nat) {fs : List Value} (he : ws[q0]? = some (a, .inr (ci, fs))) (hc : classes[ci]? = some (C0, T, N)) (hin : ∀ w ∈ u_ws C0 T N, w ∈ gw) (k0 : Nat) (hk : k0 < N) (hlink : Cond.fieldLinkNest own index ref (T k0).2.1 (T k0).2.2.1 host ∈ nw) (hsame : (T k0).1 = ref) {v : Value} (hv : fs[k0]? = some v) (k : X p l e R s m args below meth c D A nL cells slots Q ws (pc + 3) lv (v :: rest)) : X p l e R s m args below meth c D A nL cells slots Q ws pc lv (.ref a :: rest) := fun H locs ls hP hD hS hl => by
  obtain ⟨hx, hb, hml, hown, hts, hK, hN, hA, hlk⟩ := C
  exact va_getN hx hb hts hin hown hK hP q0 he hc k0 hk (va_Nw.use rfl (hN _ hlink)) (fun x h => by rw [← hsame]; exact h) hv hdg (k H locs ls hP hD hS hl)
theorem x_put (C : Cx p s m args meth c cc nL own D cA A) {a : Nat} {ref C0 : String} {T : u_T} {N ci index : Nat} (hdg : decode cc pc = .ok (.putfield index, 3)) (q0 : Nat) {fs : List Value} (he : ws[q0]? = some (a, .inr (ci, fs))) (hc : classes[ci]? = some (C0, T, N)) (hin : ∀ w ∈ u_ws C0 T N, w ∈ gw) (ty0 : Nat → FieldType) (hty : ∀ k, k < N → parseFieldDescriptor (T k).2.2.1 = some (ty0 k)) (hnm : ∀ a, a < N → ∀ b, b < N → a ≠ b → (T a).2.1 ≠ (T b).2.1) (k0 : Nat) (hk : k0 < N) (hlink : Cond.fieldLink own index ref (T k0).2.1 (T k0).2.2.1 ∈ gw) (hsame : (T k0).1 = ref) (hfin : (T k0).2.2.2 = false) {ty : FieldType} {v : Value} (hd : parseFieldDescriptor (T k0).2.2.1 = some ty) (hn : narrow ty v = v) (hfit : fits ty v = true) (hlen : k0 < fs.length) {ws' : va_W} (hw : ws.set q0 (a, .inr (ci, fs.set k0 v)) = ws') (k : X p l e R s m args below meth c D A nL cells slots Q ws' (pc + 3) lv rest) : X p l e R s m args below meth c D A nL cells slots Q ws pc lv (v :: .ref a :: rest) := fun H locs ls hP hD hS hl => by
  obtain ⟨hx, hb, hml, hown, hts, hK, hN, hA, hlk⟩ := C
  subst hw
  exact va_put hx hb hts hin ty0 hty hnm hown hK hP hD hS q0 he hc k0 hk (hts _ hlink) (fun x h => by rw [← hsame]; exact h) hfin hd hn hfit hlen hdg (fun H1 locs1 hP hD hS => k H1 locs1 ls hP hD hS hl)
theorem x_putN (C : Cx p s m args meth c cc nL own D cA A) {a : Nat} {ref C0 host : String} {T : u_T} {N ci index : Nat} (hdg : decode cc pc = .ok (.putfield index, 3)) (q0 : Nat) {fs : List Value} (he : ws[q0]? = some (a, .inr (ci, fs))) (hc : classes[ci]? = some (C0, T, N)) (hin : ∀ w ∈ u_ws C0 T N, w ∈ gw) (ty0 : Nat → FieldType) (hty : ∀ k, k < N → parseFieldDescriptor (T k).2.2.1 = some (ty0 k)) (hnm : ∀ a, a < N → ∀ b, b < N → a ≠ b → (T a).2.1 ≠ (T b).2.1) (k0 : Nat) (hk : k0 < N) (hlink : Cond.fieldLinkNest own index ref (T k0).2.1 (T k0).2.2.1 host ∈ nw) (hsame : (T k0).1 = ref) (hfin : (T k0).2.2.2 = false) {ty : FieldType} {v : Value} (hd : parseFieldDescriptor (T k0).2.2.1 = some ty) (hn : narrow ty v = v) (hfit : fits ty v = true) (hlen : k0 < fs.length) {ws' : va_W} (hw : ws.set q0 (a, .inr (ci, fs.set k0 v)) = ws') (k : X p l e R s m args below meth c D A nL cells slots Q ws' (pc + 3) lv rest) : X p l e R s m args below meth c D A nL cells slots Q ws pc lv (v :: .ref a :: rest) := fun H locs ls hP hD hS hl => by
  obtain ⟨hx, hb, hml, hown, hts, hK, hN, hA, hlk⟩ := C
  subst hw
  exact va_putN hx hb hts hin ty0 hty hnm hown hK hP hD hS q0 he hc k0 hk (va_Nw.use rfl (hN _ hlink)) (fun x h => by rw [← hsame]; exact h) hfin hd hn hfit hlen hdg (fun H1 locs1 hP hD hS => k H1 locs1 ls hP hD hS hl)
theorem x_putF (C : Cx p s m args meth c cc nL own D cA A) (hin2 : meth.name = "<init>") {a : Nat} {ref C0 : String} {T : u_T} {N ci index : Nat} (hdg : decode cc pc = .ok (.putfield index, 3)) (q0 : Nat) {fs : List Value} (he : ws[q0]? = some (a, .inr (ci, fs))) (hc : classes[ci]? = some (C0, T, N)) (hin : ∀ w ∈ u_ws C0 T N, w ∈ gw) (ty0 : Nat → FieldType) (hty : ∀ k, k < N → parseFieldDescriptor (T k).2.2.1 = some (ty0 k)) (hnm : ∀ a, a < N → ∀ b, b < N → a ≠ b → (T a).2.1 ≠ (T b).2.1) (k0 : Nat) (hk : k0 < N) (hlink : Cond.fieldLink own index ref (T k0).2.1 (T k0).2.2.1 ∈ gw) (hsame : (T k0).1 = ref) (hfin : (T k0).2.2.2 = true) (hdecl : (T k0).1 = own) {ty : FieldType} {v : Value} (hd : parseFieldDescriptor (T k0).2.2.1 = some ty) (hn : narrow ty v = v) (hfit : fits ty v = true) (hlen : k0 < fs.length) {ws' : va_W} (hw : ws.set q0 (a, .inr (ci, fs.set k0 v)) = ws') (k : X p l e R s m args below meth c D A nL cells slots Q ws' (pc + 3) lv rest) : X p l e R s m args below meth c D A nL cells slots Q ws pc lv (v :: .ref a :: rest) := fun H locs ls hP hD hS hl => by
  obtain ⟨hx, hb, hml, hown, hts, hK, hN, hA, hlk⟩ := C
  subst hw
  exact va_putF hx hb hts hin ty0 hty hnm hown hK hP hD hS q0 he hc k0 hk (hts _ hlink) (fun x h => by rw [← hsame]; exact h) hfin hin2 hdecl hd hn hfit hlen hdg (fun H1 locs1 hP hD hS => k H1 locs1 ls hP hD hS hl)
theorem x_iald (C : Cx p s m args meth c cc nL own D cA A) {a n j : Nat} {f : Nat → Int32} (hdg : decode cc pc = .ok (.iaload, 1)) (q0 : Nat) (ha : ws[q0]? = some (a, .inl (cA, n, .inl f))) (hj : j < n) (hn : n < 2 ^ 31) (k : X p l e R s m args below meth c D A nL cells slots Q ws (pc + 1) lv (.int (f j) :: rest)) : X p l e R s m args below meth c D A nL cells slots Q ws pc lv (.int (nI j) :: .ref a :: rest) := fun H locs ls hP hD hS hl => by
  obtain ⟨hx, hb, hml, hown, hts, hK, hN, hA, hlk⟩ := C
  refine va_iald hx hb hK hP q0 0 ha rfl (vp_in_nI hj hn) hdg ?_
  rw [nI_clamp (by omega)]
  exact (k H locs ls hP hD hS hl)
theorem x_iast (C : Cx p s m args meth c cc nL own D cA A) {a n j : Nat} {f : Nat → Int32} {x : Int32} (hdg : decode cc pc = .ok (.iastore, 1)) (q0 : Nat) (ha : ws[q0]? = some (a, .inl (cA, n, .inl f))) (hj : j < n) (hn : n < 2 ^ 31) {ws' : va_W} (hw : ws.set q0 (a, .inl (cA, n, .inl (upd f j x))) = ws') (k : X p l e R s m args below meth c D A nL cells slots Q ws' (pc + 1) lv rest) : X p l e R s m args below meth c D A nL cells slots Q ws pc lv (.int x :: .int (nI j) :: .ref a :: rest) := fun H locs ls hP hD hS hl => by
  obtain ⟨hx, hb, hml, hown, hts, hK, hN, hA, hlk⟩ := C
  subst hw
  refine va_iast hx hb hK hP hD hS q0 0 ha rfl (vp_in_nI hj hn) hdg ?_
  rw [nI_clamp (by omega)]
  exact fun H1 locs1 hP hD hS => k H1 locs1 ls hP hD hS hl
theorem x_alen (C : Cx p s m args meth c cc nL own D cA A) {a n : Nat} {f : Nat → Int32} (hdg : decode cc pc = .ok (.arraylength, 1)) (q0 : Nat) (ha : ws[q0]? = some (a, .inl (cA, n, .inl f))) (k : X p l e R s m args below meth c D A nL cells slots Q ws (pc + 1) lv (.int (nI n) :: rest)) : X p l e R s m args below meth c D A nL cells slots Q ws pc lv (.ref a :: rest) := fun H locs ls hP hD hS hl => by
  obtain ⟨hx, hb, hml, hown, hts, hK, hN, hA, hlk⟩ := C
  exact va_alen hx hb hK hP q0 0 ha (ty := .int) rfl rfl hdg (k H locs ls hP hD hS hl)
theorem x_newa (C : Cx p s m args meth c cc nL own D cA A) {N' : Nat} (hdg : decode cc pc = .ok (.newarray .int, 2)) (harr : Cond.arrayClass .int ∈ gw) (hN' : N' < 2 ^ 24) (hcells : cells + 1 ≤ R.cells) (hslots : slots + N' ≤ R.slots) (k : ∀ q : Nat, X p l e R s m args below meth c D A nL (cells + 1) (slots + N') Q (ws ++ [(q, .inl (cA, N', .inl (fun _ => 0)))]) (pc + 2) lv (.ref q :: rest)) : X p l e R s m args below meth c D A nL cells slots Q ws pc lv (.int (nI N') :: rest) := fun H locs ls hP hD hS hl => by
  obtain ⟨hx, hb, hml, hown, hts, hK, hN, hA, hlk⟩ := C
  refine va_newa (atype := .int) (ty := .int) (N' := N') (a0 := (N', .inl (fun _ => 0))) hx hb (hts _ harr) rfl hK hP hD hS hA (fun cA => by rfl) (nI_pos (by omega)) (nI_clamp (by omega)) (by show N' * 4 ≤ _; omega) hcells hslots hdg ?_
  intro q cA' H1 hK1 hP1 hD1 hS1
  have e1 := (hK1.2 0 (cA, .int) rfl).2
  have e2 := (hK1.2 1 (cA', .int) rfl).2
  have e3 : cA' = cA := Option.some.inj ((show s.vm.findClass _ = some cA' from e2).symm.trans (show s.vm.findClass _ = some cA from e1))
  subst e3
  exact k q H1 locs ls hP1 hD1 hS1 hl
theorem x_new (C : Cx p s m args meth c cc nL own D cA A) {C0 : String} {T : u_T} {N ci index : Nat} (hdg : decode cc pc = .ok (.new index, 3)) (hc : classes[ci]? = some (C0, T, N)) (hin : ∀ w ∈ u_ws C0 T N, w ∈ gw) (ty : Nat → FieldType) (hty : ∀ k, k < N → parseFieldDescriptor (T k).2.2.1 = some (ty k)) (hcl : Cond.classLink own index C0 ∈ gw) (hinst : Cond.instantiable C0 N ∈ gw) (hini : Cond.initialized C0 ∈ gw) {fs : List Value} (hfs : ∀ j, j < N → defaultValue (ty j) = vp_V fs j) (hcells : cells + 1 ≤ R.cells) (hslots : slots + N ≤ R.slots) (k : ∀ q : Nat, X p l e R s m args below meth c D A nL (cells + 1) (slots + N) Q (ws ++ [(q, .inr (ci, fs))]) (pc + 3) lv (.ref q :: rest)) : X p l e R s m args below meth c D A nL cells slots Q ws pc lv rest := fun H locs ls hP hD hS hl => by
  obtain ⟨hx, hb, hml, hown, hts, hK, hN, hA, hlk⟩ := C
  exact va_new hx hb hts hin ty hty hown (hts _ hcl) (hts _ hinst) (hts _ hini) hK hP hD hS hA hc hfs hcells hslots hdg (fun q H1 hP hD hS => k q H1 locs ls hP hD hS hl)
theorem x_objInit (C : Cx p s m args meth c cc nL own D cA A) {a idx : Nat} (hdg : decode cc pc = .ok (.invokespecial idx, 3)) (hlink : Cond.methodLink own idx Lib.objectInit ∈ gw) (hinst : Cond.instanceMethod Lib.objectInit ∈ gw) (hcode : Cond.code Lib.objectInit ⟨#[0xb1]⟩ 1 none ∈ gw) (hframes : 1 ≤ R.frames) (hlocals : (rest.map fun v => v.category).sum + 12 ≤ R.locals) (k : X p l e R s m args below meth c D A nL cells slots Q ws (pc + 3) lv rest) : X p l e R s m args below meth c D A nL cells slots Q ws pc lv (.ref a :: rest) := fun H locs ls hP hD hS hl => by
  obtain ⟨hx, hb, hml, hown, hts, hK, hN, hA, hlk⟩ := C
  exact W.objInit hx hb hown (hts _ hlink) (hts _ hinst) (hts _ hcode) rfl (by rw [hml]; exact hl.1) rfl hdg hframes (by show 2 * 0 + _ + 12 ≤ _; omega) (k H locs ls hP hD hS hl)
theorem x_mmax (C : Cx p s m args meth c cc nL own D cA A) {x y : Int32} {index : Nat} (hdg : decode cc pc = .ok (.invokestatic index, 3)) (hlink : Cond.methodLink own index Lib.Math.max.name ∈ gw) (hstat : Cond.static Lib.Math.max.name ∈ gw) (hini : Cond.initialized "java/lang/Math" ∈ gw) (hcode : Cond.code Lib.Math.max.name Lib.Math.max.code 2 (some .int) ∈ gw) (hR : 1 ≤ R.frames ∧ (rest.map fun v => v.category).sum + 13 ≤ R.locals ∧ cells ≤ R.cells ∧ slots ≤ R.slots) (k : X p l e R s m args below meth c D A nL cells slots Q ws (pc + 3) lv (.int (if x < y then y else x) :: rest)) : X p l e R s m args below meth c D A nL cells slots Q ws pc lv (.int y :: .int x :: rest) := fun H locs ls hP hD hS hl => by
  obtain ⟨hx, hb, hml, hown, hts, hK, hN, hA, hlk⟩ := C
  exact va_mmax hx hb (hml.trans hl.1.symm) hown (hts _ hlink) (hts _ hstat) (hts _ hini) (hts _ hcode) hR.1 hR.2.1 hR.2.2.1 hR.2.2.2 hdg (k H locs ls hP hD hS hl)
theorem x_mmin (C : Cx p s m args meth c cc nL own D cA A) {x y : Int32} {index : Nat} (hdg : decode cc pc = .ok (.invokestatic index, 3)) (hlink : Cond.methodLink own index Lib.Math.min.name ∈ gw) (hstat : Cond.static Lib.Math.min.name ∈ gw) (hini : Cond.initialized "java/lang/Math" ∈ gw) (hcode : Cond.code Lib.Math.min.name Lib.Math.min.code 2 (some .int) ∈ gw) (hR : 1 ≤ R.frames ∧ (rest.map fun v => v.category).sum + 13 ≤ R.locals ∧ cells ≤ R.cells ∧ slots ≤ R.slots) (k : X p l e R s m args below meth c D A nL cells slots Q ws (pc + 3) lv (.int (if y < x then y else x) :: rest)) : X p l e R s m args below meth c D A nL cells slots Q ws pc lv (.int y :: .int x :: rest) := fun H locs ls hP hD hS hl => by
  obtain ⟨hx, hb, hml, hown, hts, hK, hN, hA, hlk⟩ := C
  exact va_mmin hx hb (hml.trans hl.1.symm) hown (hts _ hlink) (hts _ hstat) (hts _ hini) (hts _ hcode) hR.1 hR.2.1 hR.2.2.1 hR.2.2.2 hdg (k H locs ls hP hD hS hl)
theorem x_mmaxN (C : Cx p s m args meth c cc nL own D cA A) {a b : Nat} {index : Nat} (hdg : decode cc pc = .ok (.invokestatic index, 3)) (hlink : Cond.methodLink own index Lib.Math.max.name ∈ gw) (hstat : Cond.static Lib.Math.max.name ∈ gw) (hini : Cond.initialized "java/lang/Math" ∈ gw) (hcode : Cond.code Lib.Math.max.name Lib.Math.max.code 2 (some .int) ∈ gw) (hR : 1 ≤ R.frames ∧ (rest.map fun v => v.category).sum + 13 ≤ R.locals ∧ cells ≤ R.cells ∧ slots ≤ R.slots) (ha : a < 2 ^ 31) (hb : b < 2 ^ 31) (k : X p l e R s m args below meth c D A nL cells slots Q ws (pc + 3) lv (.int (nI (max a b)) :: rest)) : X p l e R s m args below meth c D A nL cells slots Q ws pc lv (.int (nI b) :: .int (nI a) :: rest) := x_mmax C hdg hlink hstat hini hcode hR (x_top (by
    by_cases h : a < b
    · rw [if_pos ((nI_ltI ha hb).mpr h), Nat.max_eq_right (by omega)]
    · rw [if_neg (fun z => h ((nI_ltI ha hb).mp z)), Nat.max_eq_left (by omega)]) k)
theorem x_mminN (C : Cx p s m args meth c cc nL own D cA A) {a b : Nat} {index : Nat} (hdg : decode cc pc = .ok (.invokestatic index, 3)) (hlink : Cond.methodLink own index Lib.Math.min.name ∈ gw) (hstat : Cond.static Lib.Math.min.name ∈ gw) (hini : Cond.initialized "java/lang/Math" ∈ gw) (hcode : Cond.code Lib.Math.min.name Lib.Math.min.code 2 (some .int) ∈ gw) (hR : 1 ≤ R.frames ∧ (rest.map fun v => v.category).sum + 13 ≤ R.locals ∧ cells ≤ R.cells ∧ slots ≤ R.slots) (ha : a < 2 ^ 31) (hb : b < 2 ^ 31) (k : X p l e R s m args below meth c D A nL cells slots Q ws (pc + 3) lv (.int (nI (min a b)) :: rest)) : X p l e R s m args below meth c D A nL cells slots Q ws pc lv (.int (nI b) :: .int (nI a) :: rest) := x_mmin C hdg hlink hstat hini hcode hR (x_top (by
    by_cases h : b < a
    · rw [if_pos ((nI_ltI hb ha).mpr h), Nat.min_eq_right (by omega)]
    · rw [if_neg (fun z => h ((nI_ltI hb ha).mp z)), Nat.min_eq_left (by omega)]) k)
theorem x_copyi (C : Cx p s m args meth c cc nL own D cA A) {a a0 n0 n1 sp dp n : Nat} {f g : Nat → Int32} {index : Nat} (hdg : decode cc pc = .ok (.invokestatic index, 3)) (hlink : Cond.methodLink own index arraycopyName ∈ gw) (hnat : Cond.native arraycopyName ∈ gw) (hstat : Cond.static arraycopyName ∈ gw) (hini : Cond.initialized "java/lang/System" ∈ gw) (q0 q1 : Nat) (ha0 : ws[q0]? = some (a0, .inl (cA, n0, .inl f))) (ha1 : ws[q1]? = some (a, .inl (cA, n1, .inl g))) (h4 : sp + n ≤ n0) (h5 : dp + n ≤ n1) (hn0 : n0 < 2 ^ 31) (hn1 : n1 < 2 ^ 31) (hframes : 1 ≤ R.frames) (hlocals : (rest.map fun v => v.category).sum + (nativeFrameWords "java/lang/System" "arraycopy" 5 + 11) ≤ R.locals) {ws' : va_W} (hw : ws.set q1 (a, .inl (cA, n1, .inl (va_cpy f g sp dp n))) = ws') (k : X p l e R s m args below meth c D A nL cells slots Q ws' (pc + 3) lv rest) : X p l e R s m args below meth c D A nL cells slots Q ws pc lv (.int (nI n) :: .int (nI dp) :: .ref a :: .int (nI sp) :: .ref a0 :: rest) := fun H locs ls hP hD hS hl => by
  obtain ⟨hx, hb, hml, hown, hts, hK, hN, hA, hlk⟩ := C
  subst hw
  have c1 : (nI sp).toNatClampNeg = sp := nI_clamp (by omega)
  have c2 : (nI dp).toNatClampNeg = dp := nI_clamp (by omega)
  have c3 : (nI n).toNatClampNeg = n := nI_clamp (by omega)
  refine va_copyi (ty := .int) hx hb (hml.trans hl.1.symm) hown (hts _ hlink) (hts _ hnat) (hts _ hstat) (hts _ hini) hK hP hD hS q0 q1 0 0 ha0 ha1 rfl rfl rfl (nI_pos (by omega)) (nI_pos (by omega)) (nI_pos (by omega)) (by rw [c1, c3]; exact h4) (by rw [c2, c3]; exact h5) (fun _ _ => rfl) hframes hlocals hdg ?_
  rw [c1, c2, c3]
  exact fun H1 locs1 hP hD hS => k H1 locs1 ls hP hD hS hl

theorem x_iret (C : Cx p s m args meth c cc nL own D cA A) {S : Type} {post : Int32 → S → Prop} {w1 : S → va_W} (hr : meth.sig.returnType = some .int) {v : Int32} (hdg : decode cc pc = .ok (.ireturn, 1)) (u : S) (hw : w1 u = ws) (hp : post v u) : X p l e R s m args below meth c D A nL cells slots (MQ below (va_Qi post (Bw D A w1) A) args s cells slots A) ws pc lv [.int v] := fun H locs ls hP hD hS hl => by
  obtain ⟨hx, hb, hml, hown, hts, hK, hN, hA, hlk⟩ := C
  subst hw
  exact W.iret (v := v) hx hb hr (fun t ht hW => ⟨⟨v, u, rfl, hp, by rw [ht]; exact hP, hD⟩, hS.F ht⟩) hS.2.2 hdg
theorem x_zret (C : Cx p s m args meth c cc nL own D cA A) {S : Type} {post : Int32 → S → Prop} {w1 : S → va_W} (hr : meth.sig.returnType = some .boolean) {v : Int32} (hv : v = 0 ∨ v = 1) (hdg : decode cc pc = .ok (.ireturn, 1)) (u : S) (hw : w1 u = ws) (hp : post v u) : X p l e R s m args below meth c D A nL cells slots (MQ below (va_Qi post (Bw D A w1) A) args s cells slots A) ws pc lv [.int v] := fun H locs ls hP hD hS hl => by
  obtain ⟨hx, hb, hml, hown, hts, hK, hN, hA, hlk⟩ := C
  subst hw
  exact W.zret (v := v) (ty := .boolean) hx hb hr (by rcases hv with rfl | rfl <;> rfl) (fun t ht hW => ⟨⟨v, u, rfl, hp, by rw [ht]; exact hP, hD⟩, hS.F ht⟩) hS.2.2 hdg
theorem x_vret (C : Cx p s m args meth c cc nL own D cA A) {S : Type} {post : S → Prop} {w1 : S → va_W} (hr : meth.sig.returnType = none) (hdg : decode cc pc = .ok (.return_, 1)) (u : S) (hw : w1 u = ws) (hp : post u) : X p l e R s m args below meth c D A nL cells slots (MQ below (va_Qv post (Bw D A w1) A) args s cells slots A) ws pc lv [] := fun H locs ls hP hD hS hl => by
  obtain ⟨hx, hb, hml, hown, hts, hK, hN, hA, hlk⟩ := C
  subst hw
  exact W.vret hx hb hr (fun t ht hW => ⟨⟨u, rfl, hp, by rw [ht]; exact hP, hD⟩, hS.F ht⟩) hS.2.2 hdg
theorem x_widen {k n : Nat} (h1 : cells ≤ k) (h2 : slots ≤ n) (kk : X p l e R s m args below meth c D A nL k n Q ws pc lv rest) : X p l e R s m args below meth c D A nL cells slots Q ws pc lv rest := fun H locs ls hP hD hS hl => W.widen h1 h2 (kk H locs ls hP hD hS hl)

theorem x_callVI (C : Cx p s m args meth c cc nL own D cA A) {S : Type} {y : MethodName} {bytes : ByteArray} {maxL : Nat} {rt : Option FieldType} {rm : Room} {As : List Value} {wc wr : va_W} {post : Int32 → S → Prop} {w1 : S → va_W} {index n : Nat} {b : Nat} (hM : CtI l D cA y bytes maxL rt rm (.ref b :: As) wc post w1) (hdg : decode cc pc = .ok (.invokevirtual index, 3)) (hF : Cond.code y bytes maxL rt ∈ gw ∧ Cond.initialized y.cls ∈ gw ∧ Cond.instanceMethod y ∈ gw ∧ Cond.selects y.cls y y ∈ gw) (hlink : Cond.methodLink own index y ∈ gw) (hd : (y.cls ≠ "java/lang/invoke/MethodHandle" ∧ y.cls ≠ "java/lang/invoke/VarHandle") ∧ (parseMethodDescriptor y.desc).map (fun d => d.parameters.length) = some n) (hn : As.length = n) (hR : rm.frames + 1 ≤ R.frames ∧ 8 + (maxL + 11) + rm.locals ≤ R.locals) (hf : cells + rm.cells ≤ R.cells ∧ slots + rm.slots ≤ R.slots) (ci q0 : Nat) {T : u_T} {N : Nat} {fs : List Value} (hci : classes[ci]? = some (y.cls, T, N)) (hq : wc[q0]? = some (b, .inr (ci, fs))) (isC isR : List Nat) (hC : isC.map (fun i => ws[i]?) = wc.map some) (hRr : isR.map (fun i => ws[i]?) = wr.map some) (hndC : va_nd isC = true) (hnd : va_nd isR = true) (hdis : ∀ i ∈ isR, i ∉ isC) {st0 : List Value} (hst : st0 = (As.reverse ++ .ref b :: rest)) (hrest : (rest.map fun v => v.category).sum ≤ 8) (k : ∀ (r : Int32) (u : S), post r u → X p l e R s m args below meth c D A nL (cells + rm.cells) (slots + rm.slots) Q (wr ++ w1 u) (pc + 3) lv (.int r :: rest)) : X p l e R s m args below meth c D A nL cells slots Q ws pc lv st0 := fun H locs ls hP hD hS hl => by
  subst hst
  obtain ⟨hx, hb, hml, hown, hts, hK, hN, hA, hlk⟩ := C
  have at' : ∀ (j : Nat) (q : Nat × va_E), wc[j]? = some q → ∃ i, isC[j]? = some i ∧ ws[i]? = some q := by
    intro j q hq
    have h1 : (isC.map (fun i => ws[i]?))[j]? = some (some q) := by rw [hC, List.getElem?_map, hq]; rfl
    rw [List.getElem?_map] at h1
    cases hi : isC[j]? with
    | none => rw [hi] at h1; cases h1
    | some i => rw [hi] at h1; exact ⟨i, rfl, Option.some.inj h1⟩
  have hPc : va_P D classes wc H := fun j q hq => by
    obtain ⟨i, -, h2⟩ := at' j q hq
    exact hP i q h2
  have hFc := va_free (wc := wc) hD hS hA isC hC
  have hlen : ∀ sig, parseMethodDescriptor y.desc = some sig → n = sig.parameters.length := fun sig h => by
    have h2 := hd.2
    rw [h] at h2
    exact (Option.some.inj h2).symm
  have hDc : va_D (fun _ => True) wc := ⟨fun i j x y hi hj hxy => by
    obtain ⟨i', h1, h2⟩ := at' i x hi
    obtain ⟨j', h3, h4⟩ := at' j y hj
    have h5 := hD.1 i' j' x y h2 h4 hxy
    subst h5
    exact va_nd_inj isC hndC i j i' h1 h3, fun _ _ _ => trivial⟩
  refine va_calli (va_runV (Ts := gw) (As := As) (rest := rest) ⟨hx, hb, hml, hown, hts⟩ (hM H.size) ⟨⟨rfl, rfl, hR.1, hR.2, pay_in hts (gw_in hF.1), List.mem_cons_self, hts _ hF.1, hts _ hF.2.1, hd.1, hlen, hts _ hlink⟩, hts _ hF.2.2.1, hts _ hF.2.2.2⟩ ⟨Pw.blind, va_recv hK hPc hci hq, fun U hU hW => ⟨rfl, by rw [hU], by rw [hU]; exact hPc, ⟨va_K.moved hW.alike hK, hN.warm hW⟩, hDc⟩⟩ rfl hn hl.1 rfl (lv_room hrest) hdg hf) hS (fun q _ h => hFc q h) hFc (fun r u t H1 locs1 ht hvm hw hB hz1 hk1 hS1 => ?_)
  obtain ⟨hP1, hD1⟩ := hB
  rw [ht] at hP1
  obtain ⟨hP2, hD2⟩ := va_join hP hD isC isR hC hRr hnd hdis hk1 hFc hP1 hD1
  exact k r u hw H1 locs1 ls hP2 hD2 hS1 hl
theorem x_callVV (C : Cx p s m args meth c cc nL own D cA A) {S : Type} {y : MethodName} {bytes : ByteArray} {maxL : Nat} {rm : Room} {As : List Value} {wc wr : va_W} {post : S → Prop} {w1 : S → va_W} {index n : Nat} {b : Nat} (hM : CtV l D cA y bytes maxL rm (.ref b :: As) wc post w1) (hdg : decode cc pc = .ok (.invokevirtual index, 3)) (hF : Cond.code y bytes maxL none ∈ gw ∧ Cond.initialized y.cls ∈ gw ∧ Cond.instanceMethod y ∈ gw ∧ Cond.selects y.cls y y ∈ gw) (hlink : Cond.methodLink own index y ∈ gw) (hd : (y.cls ≠ "java/lang/invoke/MethodHandle" ∧ y.cls ≠ "java/lang/invoke/VarHandle") ∧ (parseMethodDescriptor y.desc).map (fun d => d.parameters.length) = some n) (hn : As.length = n) (hR : rm.frames + 1 ≤ R.frames ∧ 8 + (maxL + 11) + rm.locals ≤ R.locals) (hf : cells + rm.cells ≤ R.cells ∧ slots + rm.slots ≤ R.slots) (ci q0 : Nat) {T : u_T} {N : Nat} {fs : List Value} (hci : classes[ci]? = some (y.cls, T, N)) (hq : wc[q0]? = some (b, .inr (ci, fs))) (isC isR : List Nat) (hC : isC.map (fun i => ws[i]?) = wc.map some) (hRr : isR.map (fun i => ws[i]?) = wr.map some) (hndC : va_nd isC = true) (hnd : va_nd isR = true) (hdis : ∀ i ∈ isR, i ∉ isC) {st0 : List Value} (hst : st0 = (As.reverse ++ .ref b :: rest)) (hrest : (rest.map fun v => v.category).sum ≤ 8) (k : ∀ u : S, post u → X p l e R s m args below meth c D A nL (cells + rm.cells) (slots + rm.slots) Q (wr ++ w1 u) (pc + 3) lv rest) : X p l e R s m args below meth c D A nL cells slots Q ws pc lv st0 := fun H locs ls hP hD hS hl => by
  subst hst
  obtain ⟨hx, hb, hml, hown, hts, hK, hN, hA, hlk⟩ := C
  have at' : ∀ (j : Nat) (q : Nat × va_E), wc[j]? = some q → ∃ i, isC[j]? = some i ∧ ws[i]? = some q := by
    intro j q hq
    have h1 : (isC.map (fun i => ws[i]?))[j]? = some (some q) := by rw [hC, List.getElem?_map, hq]; rfl
    rw [List.getElem?_map] at h1
    cases hi : isC[j]? with
    | none => rw [hi] at h1; cases h1
    | some i => rw [hi] at h1; exact ⟨i, rfl, Option.some.inj h1⟩
  have hPc : va_P D classes wc H := fun j q hq => by
    obtain ⟨i, -, h2⟩ := at' j q hq
    exact hP i q h2
  have hFc := va_free (wc := wc) hD hS hA isC hC
  have hlen : ∀ sig, parseMethodDescriptor y.desc = some sig → n = sig.parameters.length := fun sig h => by
    have h2 := hd.2
    rw [h] at h2
    exact (Option.some.inj h2).symm
  have hDc : va_D (fun _ => True) wc := ⟨fun i j x y hi hj hxy => by
    obtain ⟨i', h1, h2⟩ := at' i x hi
    obtain ⟨j', h3, h4⟩ := at' j y hj
    have h5 := hD.1 i' j' x y h2 h4 hxy
    subst h5
    exact va_nd_inj isC hndC i j i' h1 h3, fun _ _ _ => trivial⟩
  refine va_callv (va_runV (Ts := gw) (As := As) (rest := rest) ⟨hx, hb, hml, hown, hts⟩ (hM H.size) ⟨⟨rfl, rfl, hR.1, hR.2, pay_in hts (gw_in hF.1), List.mem_cons_self, hts _ hF.1, hts _ hF.2.1, hd.1, hlen, hts _ hlink⟩, hts _ hF.2.2.1, hts _ hF.2.2.2⟩ ⟨Pw.blind, va_recv hK hPc hci hq, fun U hU hW => ⟨rfl, by rw [hU], by rw [hU]; exact hPc, ⟨va_K.moved hW.alike hK, hN.warm hW⟩, hDc⟩⟩ rfl hn hl.1 rfl (lv_room hrest) hdg hf) hS (fun q _ h => hFc q h) hFc (fun u t H1 locs1 ht hvm hw hB hz1 hk1 hS1 => ?_)
  obtain ⟨hP1, hD1⟩ := hB
  rw [ht] at hP1
  obtain ⟨hP2, hD2⟩ := va_join hP hD isC isR hC hRr hnd hdis hk1 hFc hP1 hD1
  exact k u hw H1 locs1 ls hP2 hD2 hS1 hl
theorem x_callSI (C : Cx p s m args meth c cc nL own D cA A) {S : Type} {y : MethodName} {bytes : ByteArray} {maxL : Nat} {rt : Option FieldType} {rm : Room} {As : List Value} {wc wr : va_W} {post : Int32 → S → Prop} {w1 : S → va_W} {index n : Nat} (hM : CtI l D cA y bytes maxL rt rm As wc post w1) (hdg : decode cc pc = .ok (.invokestatic index, 3)) (hF : Cond.code y bytes maxL rt ∈ gw ∧ Cond.initialized y.cls ∈ gw ∧ Cond.static y ∈ gw) (hlink : Cond.methodLink own index y ∈ gw) (hd : (y.cls ≠ "java/lang/invoke/MethodHandle" ∧ y.cls ≠ "java/lang/invoke/VarHandle") ∧ (parseMethodDescriptor y.desc).map (fun d => d.parameters.length) = some n) (hn : As.length = n) (hR : rm.frames + 1 ≤ R.frames ∧ 8 + (maxL + 11) + rm.locals ≤ R.locals) (hf : cells + rm.cells ≤ R.cells ∧ slots + rm.slots ≤ R.slots) (isC isR : List Nat) (hC : isC.map (fun i => ws[i]?) = wc.map some) (hRr : isR.map (fun i => ws[i]?) = wr.map some) (hndC : va_nd isC = true) (hnd : va_nd isR = true) (hdis : ∀ i ∈ isR, i ∉ isC) {st0 : List Value} (hst : st0 = (As.reverse ++ rest)) (hrest : (rest.map fun v => v.category).sum ≤ 8) (k : ∀ (r : Int32) (u : S), post r u → X p l e R s m args below meth c D A nL (cells + rm.cells) (slots + rm.slots) Q (wr ++ w1 u) (pc + 3) lv (.int r :: rest)) : X p l e R s m args below meth c D A nL cells slots Q ws pc lv st0 := fun H locs ls hP hD hS hl => by
  subst hst
  obtain ⟨hx, hb, hml, hown, hts, hK, hN, hA, hlk⟩ := C
  have at' : ∀ (j : Nat) (q : Nat × va_E), wc[j]? = some q → ∃ i, isC[j]? = some i ∧ ws[i]? = some q := by
    intro j q hq
    have h1 : (isC.map (fun i => ws[i]?))[j]? = some (some q) := by rw [hC, List.getElem?_map, hq]; rfl
    rw [List.getElem?_map] at h1
    cases hi : isC[j]? with
    | none => rw [hi] at h1; cases h1
    | some i => rw [hi] at h1; exact ⟨i, rfl, Option.some.inj h1⟩
  have hPc : va_P D classes wc H := fun j q hq => by
    obtain ⟨i, -, h2⟩ := at' j q hq
    exact hP i q h2
  have hFc := va_free (wc := wc) hD hS hA isC hC
  have hlen : ∀ sig, parseMethodDescriptor y.desc = some sig → n = sig.parameters.length := fun sig h => by
    have h2 := hd.2
    rw [h] at h2
    exact (Option.some.inj h2).symm
  have hDc : va_D (fun _ => True) wc := ⟨fun i j x y hi hj hxy => by
    obtain ⟨i', h1, h2⟩ := at' i x hi
    obtain ⟨j', h3, h4⟩ := at' j y hj
    have h5 := hD.1 i' j' x y h2 h4 hxy
    subst h5
    exact va_nd_inj isC hndC i j i' h1 h3, fun _ _ _ => trivial⟩
  refine va_calli (va_runS (Ts := gw) (As := As) (rest := rest) ⟨hx, hb, hml, hown, hts⟩ (hM H.size) ⟨⟨rfl, rfl, hR.1, hR.2, pay_in hts (gw_in hF.1), List.mem_cons_self, hts _ hF.1, hts _ hF.2.1, hd.1, hlen, hts _ hlink⟩, hts _ hF.2.2⟩ ⟨Pw.blind, fun U hU hW => ⟨rfl, by rw [hU], by rw [hU]; exact hPc, ⟨va_K.moved hW.alike hK, hN.warm hW⟩, hDc⟩⟩ rfl hn hl.1 rfl (lv_room hrest) hdg hf) hS (fun q _ h => hFc q h) hFc (fun r u t H1 locs1 ht hvm hw hB hz1 hk1 hS1 => ?_)
  obtain ⟨hP1, hD1⟩ := hB
  rw [ht] at hP1
  obtain ⟨hP2, hD2⟩ := va_join hP hD isC isR hC hRr hnd hdis hk1 hFc hP1 hD1
  exact k r u hw H1 locs1 ls hP2 hD2 hS1 hl
theorem x_callSV (C : Cx p s m args meth c cc nL own D cA A) {S : Type} {y : MethodName} {bytes : ByteArray} {maxL : Nat} {rm : Room} {As : List Value} {wc wr : va_W} {post : S → Prop} {w1 : S → va_W} {index n : Nat} (hM : CtV l D cA y bytes maxL rm As wc post w1) (hdg : decode cc pc = .ok (.invokestatic index, 3)) (hF : Cond.code y bytes maxL none ∈ gw ∧ Cond.initialized y.cls ∈ gw ∧ Cond.static y ∈ gw) (hlink : Cond.methodLink own index y ∈ gw) (hd : (y.cls ≠ "java/lang/invoke/MethodHandle" ∧ y.cls ≠ "java/lang/invoke/VarHandle") ∧ (parseMethodDescriptor y.desc).map (fun d => d.parameters.length) = some n) (hn : As.length = n) (hR : rm.frames + 1 ≤ R.frames ∧ 8 + (maxL + 11) + rm.locals ≤ R.locals) (hf : cells + rm.cells ≤ R.cells ∧ slots + rm.slots ≤ R.slots) (isC isR : List Nat) (hC : isC.map (fun i => ws[i]?) = wc.map some) (hRr : isR.map (fun i => ws[i]?) = wr.map some) (hndC : va_nd isC = true) (hnd : va_nd isR = true) (hdis : ∀ i ∈ isR, i ∉ isC) {st0 : List Value} (hst : st0 = (As.reverse ++ rest)) (hrest : (rest.map fun v => v.category).sum ≤ 8) (k : ∀ u : S, post u → X p l e R s m args below meth c D A nL (cells + rm.cells) (slots + rm.slots) Q (wr ++ w1 u) (pc + 3) lv rest) : X p l e R s m args below meth c D A nL cells slots Q ws pc lv st0 := fun H locs ls hP hD hS hl => by
  subst hst
  obtain ⟨hx, hb, hml, hown, hts, hK, hN, hA, hlk⟩ := C
  have at' : ∀ (j : Nat) (q : Nat × va_E), wc[j]? = some q → ∃ i, isC[j]? = some i ∧ ws[i]? = some q := by
    intro j q hq
    have h1 : (isC.map (fun i => ws[i]?))[j]? = some (some q) := by rw [hC, List.getElem?_map, hq]; rfl
    rw [List.getElem?_map] at h1
    cases hi : isC[j]? with
    | none => rw [hi] at h1; cases h1
    | some i => rw [hi] at h1; exact ⟨i, rfl, Option.some.inj h1⟩
  have hPc : va_P D classes wc H := fun j q hq => by
    obtain ⟨i, -, h2⟩ := at' j q hq
    exact hP i q h2
  have hFc := va_free (wc := wc) hD hS hA isC hC
  have hlen : ∀ sig, parseMethodDescriptor y.desc = some sig → n = sig.parameters.length := fun sig h => by
    have h2 := hd.2
    rw [h] at h2
    exact (Option.some.inj h2).symm
  have hDc : va_D (fun _ => True) wc := ⟨fun i j x y hi hj hxy => by
    obtain ⟨i', h1, h2⟩ := at' i x hi
    obtain ⟨j', h3, h4⟩ := at' j y hj
    have h5 := hD.1 i' j' x y h2 h4 hxy
    subst h5
    exact va_nd_inj isC hndC i j i' h1 h3, fun _ _ _ => trivial⟩
  refine va_callv (va_runS (Ts := gw) (As := As) (rest := rest) ⟨hx, hb, hml, hown, hts⟩ (hM H.size) ⟨⟨rfl, rfl, hR.1, hR.2, pay_in hts (gw_in hF.1), List.mem_cons_self, hts _ hF.1, hts _ hF.2.1, hd.1, hlen, hts _ hlink⟩, hts _ hF.2.2⟩ ⟨Pw.blind, fun U hU hW => ⟨rfl, by rw [hU], by rw [hU]; exact hPc, ⟨va_K.moved hW.alike hK, hN.warm hW⟩, hDc⟩⟩ rfl hn hl.1 rfl (lv_room hrest) hdg hf) hS (fun q _ h => hFc q h) hFc (fun u t H1 locs1 ht hvm hw hB hz1 hk1 hS1 => ?_)
  obtain ⟨hP1, hD1⟩ := hB
  rw [ht] at hP1
  obtain ⟨hP2, hD2⟩ := va_join hP hD isC isR hC hRr hnd hdis hk1 hFc hP1 hD1
  exact k u hw H1 locs1 ls hP2 hD2 hS1 hl
theorem x_callIV (C : Cx p s m args meth c cc nL own D cA A) {S : Type} {y : MethodName} {bytes : ByteArray} {maxL : Nat} {rm : Room} {As : List Value} {wc wr : va_W} {post : S → Prop} {w1 : S → va_W} {index n : Nat} {b : Nat} (hM : CtV l D cA y bytes maxL rm (.ref b :: As) wc post w1) (hdg : decode cc pc = .ok (.invokespecial index, 3)) (hF : Cond.code y bytes maxL none ∈ gw ∧ Cond.initialized y.cls ∈ gw ∧ Cond.instanceMethod y ∈ gw ∧ y.name = "<init>") (hlink : Cond.methodLink own index y ∈ gw) (hd : (y.cls ≠ "java/lang/invoke/MethodHandle" ∧ y.cls ≠ "java/lang/invoke/VarHandle") ∧ (parseMethodDescriptor y.desc).map (fun d => d.parameters.length) = some n) (hn : As.length = n) (hR : rm.frames + 1 ≤ R.frames ∧ 8 + (maxL + 11) + rm.locals ≤ R.locals) (hf : cells + rm.cells ≤ R.cells ∧ slots + rm.slots ≤ R.slots) (isC isR : List Nat) (hC : isC.map (fun i => ws[i]?) = wc.map some) (hRr : isR.map (fun i => ws[i]?) = wr.map some) (hndC : va_nd isC = true) (hnd : va_nd isR = true) (hdis : ∀ i ∈ isR, i ∉ isC) {st0 : List Value} (hst : st0 = (As.reverse ++ .ref b :: rest)) (hrest : (rest.map fun v => v.category).sum ≤ 8) (k : ∀ u : S, post u → X p l e R s m args below meth c D A nL (cells + rm.cells) (slots + rm.slots) Q (wr ++ w1 u) (pc + 3) lv rest) : X p l e R s m args below meth c D A nL cells slots Q ws pc lv st0 := fun H locs ls hP hD hS hl => by
  subst hst
  obtain ⟨hx, hb, hml, hown, hts, hK, hN, hA, hlk⟩ := C
  have at' : ∀ (j : Nat) (q : Nat × va_E), wc[j]? = some q → ∃ i, isC[j]? = some i ∧ ws[i]? = some q := by
    intro j q hq
    have h1 : (isC.map (fun i => ws[i]?))[j]? = some (some q) := by rw [hC, List.getElem?_map, hq]; rfl
    rw [List.getElem?_map] at h1
    cases hi : isC[j]? with
    | none => rw [hi] at h1; cases h1
    | some i => rw [hi] at h1; exact ⟨i, rfl, Option.some.inj h1⟩
  have hPc : va_P D classes wc H := fun j q hq => by
    obtain ⟨i, -, h2⟩ := at' j q hq
    exact hP i q h2
  have hFc := va_free (wc := wc) hD hS hA isC hC
  have hlen : ∀ sig, parseMethodDescriptor y.desc = some sig → n = sig.parameters.length := fun sig h => by
    have h2 := hd.2
    rw [h] at h2
    exact (Option.some.inj h2).symm
  have hDc : va_D (fun _ => True) wc := ⟨fun i j x y hi hj hxy => by
    obtain ⟨i', h1, h2⟩ := at' i x hi
    obtain ⟨j', h3, h4⟩ := at' j y hj
    have h5 := hD.1 i' j' x y h2 h4 hxy
    subst h5
    exact va_nd_inj isC hndC i j i' h1 h3, fun _ _ _ => trivial⟩
  refine va_callv (va_runI (Ts := gw) (As := As) (rest := rest) ⟨hx, hb, hml, hown, hts⟩ (hM H.size) ⟨⟨rfl, rfl, hR.1, hR.2, pay_in hts (gw_in hF.1), List.mem_cons_self, hts _ hF.1, hts _ hF.2.1, hd.1, hlen, hts _ hlink⟩, hF.2.2.2, hts _ hF.2.2.1⟩ ⟨Pw.blind, fun U hU hW => ⟨rfl, by rw [hU], by rw [hU]; exact hPc, ⟨va_K.moved hW.alike hK, hN.warm hW⟩, hDc⟩⟩ rfl hn hl.1 rfl (lv_room hrest) hdg hf) hS (fun q _ h => hFc q h) hFc (fun u t H1 locs1 ht hvm hw hB hz1 hk1 hS1 => ?_)
  obtain ⟨hP1, hD1⟩ := hB
  rw [ht] at hP1
  obtain ⟨hP2, hD2⟩ := va_join hP hD isC isR hC hRr hnd hdis hk1 hFc hP1 hD1
  exact k u hw H1 locs1 ls hP2 hD2 hS1 hl
theorem x_callVIN (C : Cx p s m args meth c cc nL own D cA A) {S : Type} {y : MethodName} {bytes : ByteArray} {maxL : Nat} {rt : Option FieldType} {rm : Room} {As : List Value} {wc wr : va_W} {post : Int32 → S → Prop} {w1 : S → va_W} {index n : Nat} {host : String} {b : Nat} (hM : CtI l D cA y bytes maxL rt rm (.ref b :: As) wc post w1) (hdg : decode cc pc = .ok (.invokevirtual index, 3)) (hF : Cond.code y bytes maxL rt ∈ gw ∧ Cond.initialized y.cls ∈ gw ∧ Cond.instanceMethod y ∈ gw ∧ Cond.selects y.cls y y ∈ gw) (hlink : Cond.methodLinkNest own index y host ∈ nw) (hd : (y.cls ≠ "java/lang/invoke/MethodHandle" ∧ y.cls ≠ "java/lang/invoke/VarHandle") ∧ (parseMethodDescriptor y.desc).map (fun d => d.parameters.length) = some n) (hn : As.length = n) (hR : rm.frames + 1 ≤ R.frames ∧ 8 + (maxL + 11) + rm.locals ≤ R.locals) (hf : cells + rm.cells ≤ R.cells ∧ slots + rm.slots ≤ R.slots) (ci q0 : Nat) {T : u_T} {N : Nat} {fs : List Value} (hci : classes[ci]? = some (y.cls, T, N)) (hq : wc[q0]? = some (b, .inr (ci, fs))) (isC isR : List Nat) (hC : isC.map (fun i => ws[i]?) = wc.map some) (hRr : isR.map (fun i => ws[i]?) = wr.map some) (hndC : va_nd isC = true) (hnd : va_nd isR = true) (hdis : ∀ i ∈ isR, i ∉ isC) {st0 : List Value} (hst : st0 = (As.reverse ++ .ref b :: rest)) (hrest : (rest.map fun v => v.category).sum ≤ 8) (k : ∀ (r : Int32) (u : S), post r u → X p l e R s m args below meth c D A nL (cells + rm.cells) (slots + rm.slots) Q (wr ++ w1 u) (pc + 3) lv (.int r :: rest)) : X p l e R s m args below meth c D A nL cells slots Q ws pc lv st0 := fun H locs ls hP hD hS hl => by
  subst hst
  obtain ⟨hx, hb, hml, hown, hts, hK, hN, hA, hlk⟩ := C
  have at' : ∀ (j : Nat) (q : Nat × va_E), wc[j]? = some q → ∃ i, isC[j]? = some i ∧ ws[i]? = some q := by
    intro j q hq
    have h1 : (isC.map (fun i => ws[i]?))[j]? = some (some q) := by rw [hC, List.getElem?_map, hq]; rfl
    rw [List.getElem?_map] at h1
    cases hi : isC[j]? with
    | none => rw [hi] at h1; cases h1
    | some i => rw [hi] at h1; exact ⟨i, rfl, Option.some.inj h1⟩
  have hPc : va_P D classes wc H := fun j q hq => by
    obtain ⟨i, -, h2⟩ := at' j q hq
    exact hP i q h2
  have hFc := va_free (wc := wc) hD hS hA isC hC
  have hlen : ∀ sig, parseMethodDescriptor y.desc = some sig → n = sig.parameters.length := fun sig h => by
    have h2 := hd.2
    rw [h] at h2
    exact (Option.some.inj h2).symm
  have hDc : va_D (fun _ => True) wc := ⟨fun i j x y hi hj hxy => by
    obtain ⟨i', h1, h2⟩ := at' i x hi
    obtain ⟨j', h3, h4⟩ := at' j y hj
    have h5 := hD.1 i' j' x y h2 h4 hxy
    subst h5
    exact va_nd_inj isC hndC i j i' h1 h3, fun _ _ _ => trivial⟩
  refine va_calli (va_runVN (Ts := gw) (As := As) (rest := rest) ⟨hx, hb, hml, hown, hts⟩ (hM H.size) ⟨⟨⟨rfl, rfl, hR.1, hR.2, pay_in hts (gw_in hF.1), List.mem_cons_self⟩, hts _ hF.1, hts _ hF.2.1, hd.1, hlen, va_Nw.use rfl (hN _ hlink)⟩, hts _ hF.2.2.1, hts _ hF.2.2.2⟩ ⟨Pw.blind, va_recv hK hPc hci hq, fun U hU hW => ⟨rfl, by rw [hU], by rw [hU]; exact hPc, ⟨va_K.moved hW.alike hK, hN.warm hW⟩, hDc⟩⟩ rfl hn hl.1 rfl (lv_room hrest) hdg hf) hS (fun q _ h => hFc q h) hFc (fun r u t H1 locs1 ht hvm hw hB hz1 hk1 hS1 => ?_)
  obtain ⟨hP1, hD1⟩ := hB
  rw [ht] at hP1
  obtain ⟨hP2, hD2⟩ := va_join hP hD isC isR hC hRr hnd hdis hk1 hFc hP1 hD1
  exact k r u hw H1 locs1 ls hP2 hD2 hS1 hl
theorem x_callVVN (C : Cx p s m args meth c cc nL own D cA A) {S : Type} {y : MethodName} {bytes : ByteArray} {maxL : Nat} {rm : Room} {As : List Value} {wc wr : va_W} {post : S → Prop} {w1 : S → va_W} {index n : Nat} {host : String} {b : Nat} (hM : CtV l D cA y bytes maxL rm (.ref b :: As) wc post w1) (hdg : decode cc pc = .ok (.invokevirtual index, 3)) (hF : Cond.code y bytes maxL none ∈ gw ∧ Cond.initialized y.cls ∈ gw ∧ Cond.instanceMethod y ∈ gw ∧ Cond.selects y.cls y y ∈ gw) (hlink : Cond.methodLinkNest own index y host ∈ nw) (hd : (y.cls ≠ "java/lang/invoke/MethodHandle" ∧ y.cls ≠ "java/lang/invoke/VarHandle") ∧ (parseMethodDescriptor y.desc).map (fun d => d.parameters.length) = some n) (hn : As.length = n) (hR : rm.frames + 1 ≤ R.frames ∧ 8 + (maxL + 11) + rm.locals ≤ R.locals) (hf : cells + rm.cells ≤ R.cells ∧ slots + rm.slots ≤ R.slots) (ci q0 : Nat) {T : u_T} {N : Nat} {fs : List Value} (hci : classes[ci]? = some (y.cls, T, N)) (hq : wc[q0]? = some (b, .inr (ci, fs))) (isC isR : List Nat) (hC : isC.map (fun i => ws[i]?) = wc.map some) (hRr : isR.map (fun i => ws[i]?) = wr.map some) (hndC : va_nd isC = true) (hnd : va_nd isR = true) (hdis : ∀ i ∈ isR, i ∉ isC) {st0 : List Value} (hst : st0 = (As.reverse ++ .ref b :: rest)) (hrest : (rest.map fun v => v.category).sum ≤ 8) (k : ∀ u : S, post u → X p l e R s m args below meth c D A nL (cells + rm.cells) (slots + rm.slots) Q (wr ++ w1 u) (pc + 3) lv rest) : X p l e R s m args below meth c D A nL cells slots Q ws pc lv st0 := fun H locs ls hP hD hS hl => by
  subst hst
  obtain ⟨hx, hb, hml, hown, hts, hK, hN, hA, hlk⟩ := C
  have at' : ∀ (j : Nat) (q : Nat × va_E), wc[j]? = some q → ∃ i, isC[j]? = some i ∧ ws[i]? = some q := by
    intro j q hq
    have h1 : (isC.map (fun i => ws[i]?))[j]? = some (some q) := by rw [hC, List.getElem?_map, hq]; rfl
    rw [List.getElem?_map] at h1
    cases hi : isC[j]? with
    | none => rw [hi] at h1; cases h1
    | some i => rw [hi] at h1; exact ⟨i, rfl, Option.some.inj h1⟩
  have hPc : va_P D classes wc H := fun j q hq => by
    obtain ⟨i, -, h2⟩ := at' j q hq
    exact hP i q h2
  have hFc := va_free (wc := wc) hD hS hA isC hC
  have hlen : ∀ sig, parseMethodDescriptor y.desc = some sig → n = sig.parameters.length := fun sig h => by
    have h2 := hd.2
    rw [h] at h2
    exact (Option.some.inj h2).symm
  have hDc : va_D (fun _ => True) wc := ⟨fun i j x y hi hj hxy => by
    obtain ⟨i', h1, h2⟩ := at' i x hi
    obtain ⟨j', h3, h4⟩ := at' j y hj
    have h5 := hD.1 i' j' x y h2 h4 hxy
    subst h5
    exact va_nd_inj isC hndC i j i' h1 h3, fun _ _ _ => trivial⟩
  refine va_callv (va_runVN (Ts := gw) (As := As) (rest := rest) ⟨hx, hb, hml, hown, hts⟩ (hM H.size) ⟨⟨⟨rfl, rfl, hR.1, hR.2, pay_in hts (gw_in hF.1), List.mem_cons_self⟩, hts _ hF.1, hts _ hF.2.1, hd.1, hlen, va_Nw.use rfl (hN _ hlink)⟩, hts _ hF.2.2.1, hts _ hF.2.2.2⟩ ⟨Pw.blind, va_recv hK hPc hci hq, fun U hU hW => ⟨rfl, by rw [hU], by rw [hU]; exact hPc, ⟨va_K.moved hW.alike hK, hN.warm hW⟩, hDc⟩⟩ rfl hn hl.1 rfl (lv_room hrest) hdg hf) hS (fun q _ h => hFc q h) hFc (fun u t H1 locs1 ht hvm hw hB hz1 hk1 hS1 => ?_)
  obtain ⟨hP1, hD1⟩ := hB
  rw [ht] at hP1
  obtain ⟨hP2, hD2⟩ := va_join hP hD isC isR hC hRr hnd hdis hk1 hFc hP1 hD1
  exact k u hw H1 locs1 ls hP2 hD2 hS1 hl
theorem x_callSIN (C : Cx p s m args meth c cc nL own D cA A) {S : Type} {y : MethodName} {bytes : ByteArray} {maxL : Nat} {rt : Option FieldType} {rm : Room} {As : List Value} {wc wr : va_W} {post : Int32 → S → Prop} {w1 : S → va_W} {index n : Nat} {host : String} (hM : CtI l D cA y bytes maxL rt rm As wc post w1) (hdg : decode cc pc = .ok (.invokestatic index, 3)) (hF : Cond.code y bytes maxL rt ∈ gw ∧ Cond.initialized y.cls ∈ gw ∧ Cond.static y ∈ gw) (hlink : Cond.methodLinkNest own index y host ∈ nw) (hd : (y.cls ≠ "java/lang/invoke/MethodHandle" ∧ y.cls ≠ "java/lang/invoke/VarHandle") ∧ (parseMethodDescriptor y.desc).map (fun d => d.parameters.length) = some n) (hn : As.length = n) (hR : rm.frames + 1 ≤ R.frames ∧ 8 + (maxL + 11) + rm.locals ≤ R.locals) (hf : cells + rm.cells ≤ R.cells ∧ slots + rm.slots ≤ R.slots) (isC isR : List Nat) (hC : isC.map (fun i => ws[i]?) = wc.map some) (hRr : isR.map (fun i => ws[i]?) = wr.map some) (hndC : va_nd isC = true) (hnd : va_nd isR = true) (hdis : ∀ i ∈ isR, i ∉ isC) {st0 : List Value} (hst : st0 = (As.reverse ++ rest)) (hrest : (rest.map fun v => v.category).sum ≤ 8) (k : ∀ (r : Int32) (u : S), post r u → X p l e R s m args below meth c D A nL (cells + rm.cells) (slots + rm.slots) Q (wr ++ w1 u) (pc + 3) lv (.int r :: rest)) : X p l e R s m args below meth c D A nL cells slots Q ws pc lv st0 := fun H locs ls hP hD hS hl => by
  subst hst
  obtain ⟨hx, hb, hml, hown, hts, hK, hN, hA, hlk⟩ := C
  have at' : ∀ (j : Nat) (q : Nat × va_E), wc[j]? = some q → ∃ i, isC[j]? = some i ∧ ws[i]? = some q := by
    intro j q hq
    have h1 : (isC.map (fun i => ws[i]?))[j]? = some (some q) := by rw [hC, List.getElem?_map, hq]; rfl
    rw [List.getElem?_map] at h1
    cases hi : isC[j]? with
    | none => rw [hi] at h1; cases h1
    | some i => rw [hi] at h1; exact ⟨i, rfl, Option.some.inj h1⟩
  have hPc : va_P D classes wc H := fun j q hq => by
    obtain ⟨i, -, h2⟩ := at' j q hq
    exact hP i q h2
  have hFc := va_free (wc := wc) hD hS hA isC hC
  have hlen : ∀ sig, parseMethodDescriptor y.desc = some sig → n = sig.parameters.length := fun sig h => by
    have h2 := hd.2
    rw [h] at h2
    exact (Option.some.inj h2).symm
  have hDc : va_D (fun _ => True) wc := ⟨fun i j x y hi hj hxy => by
    obtain ⟨i', h1, h2⟩ := at' i x hi
    obtain ⟨j', h3, h4⟩ := at' j y hj
    have h5 := hD.1 i' j' x y h2 h4 hxy
    subst h5
    exact va_nd_inj isC hndC i j i' h1 h3, fun _ _ _ => trivial⟩
  refine va_calli (va_runSN (Ts := gw) (As := As) (rest := rest) ⟨hx, hb, hml, hown, hts⟩ (hM H.size) ⟨⟨⟨rfl, rfl, hR.1, hR.2, pay_in hts (gw_in hF.1), List.mem_cons_self⟩, hts _ hF.1, hts _ hF.2.1, hd.1, hlen, va_Nw.use rfl (hN _ hlink)⟩, hts _ hF.2.2, trivial⟩ ⟨Pw.blind, fun U hU hW => ⟨rfl, by rw [hU], by rw [hU]; exact hPc, ⟨va_K.moved hW.alike hK, hN.warm hW⟩, hDc⟩⟩ rfl hn hl.1 rfl (lv_room hrest) hdg hf) hS (fun q _ h => hFc q h) hFc (fun r u t H1 locs1 ht hvm hw hB hz1 hk1 hS1 => ?_)
  obtain ⟨hP1, hD1⟩ := hB
  rw [ht] at hP1
  obtain ⟨hP2, hD2⟩ := va_join hP hD isC isR hC hRr hnd hdis hk1 hFc hP1 hD1
  exact k r u hw H1 locs1 ls hP2 hD2 hS1 hl
theorem x_callSVN (C : Cx p s m args meth c cc nL own D cA A) {S : Type} {y : MethodName} {bytes : ByteArray} {maxL : Nat} {rm : Room} {As : List Value} {wc wr : va_W} {post : S → Prop} {w1 : S → va_W} {index n : Nat} {host : String} (hM : CtV l D cA y bytes maxL rm As wc post w1) (hdg : decode cc pc = .ok (.invokestatic index, 3)) (hF : Cond.code y bytes maxL none ∈ gw ∧ Cond.initialized y.cls ∈ gw ∧ Cond.static y ∈ gw) (hlink : Cond.methodLinkNest own index y host ∈ nw) (hd : (y.cls ≠ "java/lang/invoke/MethodHandle" ∧ y.cls ≠ "java/lang/invoke/VarHandle") ∧ (parseMethodDescriptor y.desc).map (fun d => d.parameters.length) = some n) (hn : As.length = n) (hR : rm.frames + 1 ≤ R.frames ∧ 8 + (maxL + 11) + rm.locals ≤ R.locals) (hf : cells + rm.cells ≤ R.cells ∧ slots + rm.slots ≤ R.slots) (isC isR : List Nat) (hC : isC.map (fun i => ws[i]?) = wc.map some) (hRr : isR.map (fun i => ws[i]?) = wr.map some) (hndC : va_nd isC = true) (hnd : va_nd isR = true) (hdis : ∀ i ∈ isR, i ∉ isC) {st0 : List Value} (hst : st0 = (As.reverse ++ rest)) (hrest : (rest.map fun v => v.category).sum ≤ 8) (k : ∀ u : S, post u → X p l e R s m args below meth c D A nL (cells + rm.cells) (slots + rm.slots) Q (wr ++ w1 u) (pc + 3) lv rest) : X p l e R s m args below meth c D A nL cells slots Q ws pc lv st0 := fun H locs ls hP hD hS hl => by
  subst hst
  obtain ⟨hx, hb, hml, hown, hts, hK, hN, hA, hlk⟩ := C
  have at' : ∀ (j : Nat) (q : Nat × va_E), wc[j]? = some q → ∃ i, isC[j]? = some i ∧ ws[i]? = some q := by
    intro j q hq
    have h1 : (isC.map (fun i => ws[i]?))[j]? = some (some q) := by rw [hC, List.getElem?_map, hq]; rfl
    rw [List.getElem?_map] at h1
    cases hi : isC[j]? with
    | none => rw [hi] at h1; cases h1
    | some i => rw [hi] at h1; exact ⟨i, rfl, Option.some.inj h1⟩
  have hPc : va_P D classes wc H := fun j q hq => by
    obtain ⟨i, -, h2⟩ := at' j q hq
    exact hP i q h2
  have hFc := va_free (wc := wc) hD hS hA isC hC
  have hlen : ∀ sig, parseMethodDescriptor y.desc = some sig → n = sig.parameters.length := fun sig h => by
    have h2 := hd.2
    rw [h] at h2
    exact (Option.some.inj h2).symm
  have hDc : va_D (fun _ => True) wc := ⟨fun i j x y hi hj hxy => by
    obtain ⟨i', h1, h2⟩ := at' i x hi
    obtain ⟨j', h3, h4⟩ := at' j y hj
    have h5 := hD.1 i' j' x y h2 h4 hxy
    subst h5
    exact va_nd_inj isC hndC i j i' h1 h3, fun _ _ _ => trivial⟩
  refine va_callv (va_runSN (Ts := gw) (As := As) (rest := rest) ⟨hx, hb, hml, hown, hts⟩ (hM H.size) ⟨⟨⟨rfl, rfl, hR.1, hR.2, pay_in hts (gw_in hF.1), List.mem_cons_self⟩, hts _ hF.1, hts _ hF.2.1, hd.1, hlen, va_Nw.use rfl (hN _ hlink)⟩, hts _ hF.2.2, trivial⟩ ⟨Pw.blind, fun U hU hW => ⟨rfl, by rw [hU], by rw [hU]; exact hPc, ⟨va_K.moved hW.alike hK, hN.warm hW⟩, hDc⟩⟩ rfl hn hl.1 rfl (lv_room hrest) hdg hf) hS (fun q _ h => hFc q h) hFc (fun u t H1 locs1 ht hvm hw hB hz1 hk1 hS1 => ?_)
  obtain ⟨hP1, hD1⟩ := hB
  rw [ht] at hP1
  obtain ⟨hP2, hD2⟩ := va_join hP hD isC isR hC hRr hnd hdis hk1 hFc hP1 hD1
  exact k u hw H1 locs1 ls hP2 hD2 hS1 hl
theorem x_callIVN (C : Cx p s m args meth c cc nL own D cA A) {S : Type} {y : MethodName} {bytes : ByteArray} {maxL : Nat} {rm : Room} {As : List Value} {wc wr : va_W} {post : S → Prop} {w1 : S → va_W} {index n : Nat} {host : String} {b : Nat} (hM : CtV l D cA y bytes maxL rm (.ref b :: As) wc post w1) (hdg : decode cc pc = .ok (.invokespecial index, 3)) (hF : Cond.code y bytes maxL none ∈ gw ∧ Cond.initialized y.cls ∈ gw ∧ Cond.instanceMethod y ∈ gw ∧ y.name = "<init>") (hlink : Cond.methodLinkNest own index y host ∈ nw) (hd : (y.cls ≠ "java/lang/invoke/MethodHandle" ∧ y.cls ≠ "java/lang/invoke/VarHandle") ∧ (parseMethodDescriptor y.desc).map (fun d => d.parameters.length) = some n) (hn : As.length = n) (hR : rm.frames + 1 ≤ R.frames ∧ 8 + (maxL + 11) + rm.locals ≤ R.locals) (hf : cells + rm.cells ≤ R.cells ∧ slots + rm.slots ≤ R.slots) (isC isR : List Nat) (hC : isC.map (fun i => ws[i]?) = wc.map some) (hRr : isR.map (fun i => ws[i]?) = wr.map some) (hndC : va_nd isC = true) (hnd : va_nd isR = true) (hdis : ∀ i ∈ isR, i ∉ isC) {st0 : List Value} (hst : st0 = (As.reverse ++ .ref b :: rest)) (hrest : (rest.map fun v => v.category).sum ≤ 8) (k : ∀ u : S, post u → X p l e R s m args below meth c D A nL (cells + rm.cells) (slots + rm.slots) Q (wr ++ w1 u) (pc + 3) lv rest) : X p l e R s m args below meth c D A nL cells slots Q ws pc lv st0 := fun H locs ls hP hD hS hl => by
  subst hst
  obtain ⟨hx, hb, hml, hown, hts, hK, hN, hA, hlk⟩ := C
  have at' : ∀ (j : Nat) (q : Nat × va_E), wc[j]? = some q → ∃ i, isC[j]? = some i ∧ ws[i]? = some q := by
    intro j q hq
    have h1 : (isC.map (fun i => ws[i]?))[j]? = some (some q) := by rw [hC, List.getElem?_map, hq]; rfl
    rw [List.getElem?_map] at h1
    cases hi : isC[j]? with
    | none => rw [hi] at h1; cases h1
    | some i => rw [hi] at h1; exact ⟨i, rfl, Option.some.inj h1⟩
  have hPc : va_P D classes wc H := fun j q hq => by
    obtain ⟨i, -, h2⟩ := at' j q hq
    exact hP i q h2
  have hFc := va_free (wc := wc) hD hS hA isC hC
  have hlen : ∀ sig, parseMethodDescriptor y.desc = some sig → n = sig.parameters.length := fun sig h => by
    have h2 := hd.2
    rw [h] at h2
    exact (Option.some.inj h2).symm
  have hDc : va_D (fun _ => True) wc := ⟨fun i j x y hi hj hxy => by
    obtain ⟨i', h1, h2⟩ := at' i x hi
    obtain ⟨j', h3, h4⟩ := at' j y hj
    have h5 := hD.1 i' j' x y h2 h4 hxy
    subst h5
    exact va_nd_inj isC hndC i j i' h1 h3, fun _ _ _ => trivial⟩
  refine va_callv (va_runIN (Ts := gw) (As := As) (rest := rest) ⟨hx, hb, hml, hown, hts⟩ (hM H.size) ⟨⟨⟨rfl, rfl, hR.1, hR.2, pay_in hts (gw_in hF.1), List.mem_cons_self⟩, hts _ hF.1, hts _ hF.2.1, hd.1, hlen, va_Nw.use rfl (hN _ hlink)⟩, hF.2.2.2, hts _ hF.2.2.1⟩ ⟨Pw.blind, fun U hU hW => ⟨rfl, by rw [hU], by rw [hU]; exact hPc, ⟨va_K.moved hW.alike hK, hN.warm hW⟩, hDc⟩⟩ rfl hn hl.1 rfl (lv_room hrest) hdg hf) hS (fun q _ h => hFc q h) hFc (fun u t H1 locs1 ht hvm hw hB hz1 hk1 hS1 => ?_)
  obtain ⟨hP1, hD1⟩ := hB
  rw [ht] at hP1
  obtain ⟨hP2, hD2⟩ := va_join hP hD isC isR hC hRr hnd hdis hk1 hFc hP1 hD1
  exact k u hw H1 locs1 ls hP2 hD2 hS1 hl
theorem CtI.start {y : MethodName} {bytes : ByteArray} {maxL : Nat} {rt : Option FieldType} {rm : Room} {As : List Value} {wc : va_W} {S : Type} {post : Int32 → S → Prop} {w1 : S → va_W} {lv0 : List (Nat × Value)} (hy : plainName y.cls = true) (hlv : lv_args 0 As = lv0) (hsl : (lg_sl As).length ≤ maxL)
    (body : ∀ (p : Program) (e : Env) (s : State) (m : MethodId) (args : Array Value) (below : List Frame) (meth : Method) (c : Code) (A : Nat → Prop), Cx p s m args meth c bytes maxL y.cls D cA A → meth.sig.returnType = rt → meth.name = y.name → X p l e rm s m args below meth c D A maxL 0 0 (MQ below (va_Qi post (Bw D A w1) A) args s rm.cells rm.slots A) wc 0 lv0 []) : CtI l D cA y bytes maxL rt rm As wc post w1 := by
  intro sz
  refine Met.ofW (cc := bytes) (maxL := maxL) (ret := rt) hy rfl ?_
  intro p e s m args below meth c s₁ B hml hv
  obtain ⟨rfl, hsz, hP, ⟨hK, hN⟩, hD0⟩ := hv
  have hts := atoms_spec (ws := .code y bytes maxL rt :: gw) B.pre
  subst hsz
  have hD := hD0.self (sz := s.heap.size)
  generalize hAe : va_A wc s.heap.size = A at hD ⊢
  have hA : ∀ q : Nat, s.heap.size ≤ q → A q := fun q h => by rw [← hAe]; exact Or.inr h
  have hS : va_S A s.heap s.heap [] := va_S.rf
  have hl := lv_entry As (n := maxL) hsl
  rw [lg_entry_eq]
  rw [hlv] at hl
  exact body p e s m _ below meth c A ⟨B.exec, B.bytes, hml, findClass_of_methodNamed B.named, fun w h => hts w (List.mem_cons_of_mem _ h), hK, hN, hA, B.notSynchronized⟩ B.returns (name_of_methodNamed B.named B.method).1 s.heap [] _ hP hD hS hl
theorem CtV.start {y : MethodName} {bytes : ByteArray} {maxL : Nat} {rm : Room} {As : List Value} {wc : va_W} {S : Type} {post : S → Prop} {w1 : S → va_W} {lv0 : List (Nat × Value)} (hy : plainName y.cls = true) (hlv : lv_args 0 As = lv0) (hsl : (lg_sl As).length ≤ maxL)
    (body : ∀ (p : Program) (e : Env) (s : State) (m : MethodId) (args : Array Value) (below : List Frame) (meth : Method) (c : Code) (A : Nat → Prop), Cx p s m args meth c bytes maxL y.cls D cA A → meth.sig.returnType = none → meth.name = y.name → X p l e rm s m args below meth c D A maxL 0 0 (MQ below (va_Qv post (Bw D A w1) A) args s rm.cells rm.slots A) wc 0 lv0 []) : CtV l D cA y bytes maxL rm As wc post w1 := by
  intro sz
  refine Met.ofW (cc := bytes) (maxL := maxL) (ret := none) hy rfl ?_
  intro p e s m args below meth c s₁ B hml hv
  obtain ⟨rfl, hsz, hP, ⟨hK, hN⟩, hD0⟩ := hv
  have hts := atoms_spec (ws := .code y bytes maxL none :: gw) B.pre
  subst hsz
  have hD := hD0.self (sz := s.heap.size)
  generalize hAe : va_A wc s.heap.size = A at hD ⊢
  have hA : ∀ q : Nat, s.heap.size ≤ q → A q := fun q h => by rw [← hAe]; exact Or.inr h
  have hS : va_S A s.heap s.heap [] := va_S.rf
  have hl := lv_entry As (n := maxL) hsl
  rw [lg_entry_eq]
  rw [hlv] at hl
  exact body p e s m _ below meth c A ⟨B.exec, B.bytes, hml, findClass_of_methodNamed B.named, fun w h => hts w (List.mem_cons_of_mem _ h), hK, hN, hA, B.notSynchronized⟩ B.returns (name_of_methodNamed B.named B.method).1 s.heap [] _ hP hD hS hl

end MK
