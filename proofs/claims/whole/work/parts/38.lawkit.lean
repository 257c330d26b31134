/-! THE CLAIM OUT OF ONE WALK OF THE LAW'S BODY. Your part is whole_start (and what it stands on); all else here is the same for every law, but numbers. -/
def R_law : String := "RunBitmapsLaw"
def lw_P (b : Addr) (xs : List Int32) (args : Array Value) (s : State) : Prop := args = #[.ref b] ∧ s.IntsAt b xs ∧ xs.length ≤ 2048 ∧ (Jvm.Cond.and given_1 narrow_1).before args s = true
def lw_Q (_ : Array Value) (s : State) (o : Outcome) (t : State) : Prop := o = .returned (some (.int 1)) ∧ Framed s o t [] 600000 7302250
def lw_Z (below : List Frame) (a : Array Value) (s : State) : State → Prop := fun t => ∃ o, t.status = .running ∧ Ended t below o ∧ lw_Q a s o t
/-- the law's own end, with 1 on the stack, nothing written that was there before, its room as the claim has it -/
theorem lw_ret {p : Program} {l : Launch} {e : Env} {s : State} {m : MethodId} {below : List Frame} {meth : Method} {c : Code} {b : Nat} (hx : p.tables.exec = Jvm.exec) (hb : c.code = code) (hr : meth.sig.returnType = ret) (hlocks : meth.locks = false) {pc : Nat} {H : Heap} {ls : Array Slot} (hdg : decode code pc = .ok (.ireturn, 1)) : W p l e room_1 s m #[Value.ref b] below meth c H [] 600000 7302250 (lw_Z below #[Value.ref b] s) (F0 m pc ls [.int 1]) := by
  intro T hT X
  obtain ⟨fs, hret, hrun, hended, hW, hframe⟩ := X.leave (v := some (.int 1)) (hlocks := hlocks) (fun h => by rw [hr] at h; cases h)
  have hmeth' : T.vm.method? m = some meth := X.method'
  refine ⟨T.setFrames fs, ?_, .returned (some (.int 1)), hrun, hended, rfl, ⟨_, rfl⟩, hW, hframe⟩
  jvm_step X.here [X.here.top, hx, hb, hdg, hmeth', hr, ret, narrow_b1]
  (try refine ⟨rfl, ?_⟩); (try refine ⟨rfl, ?_⟩)
  first | (intro acts; rw [hret _ acts rfl rfl rfl]) | rw [hret _ _ rfl rfl rfl]
  exact Steps.refl _
/-- what holds at the law's entry: the machine, the code, the tables' words (any of lw_tbl by 'hts w (by decide +kernel)'), the script of L ints xs at the cell b, what the Statement gives of the start (any of its parts by flat_of_before) -/
def lw_At (p : Program) (s : State) (m : MethodId) (meth : Method) (c : Code) (b L : Nat) (xs : Nat → Int32) : Prop :=
  p.tables.exec = Jvm.exec ∧ c.code = code ∧ meth.sig.returnType = ret ∧ c.maxLocals = 4 ∧ s.vm.findClass R_law = some m.cls ∧ (∀ w ∈ lw_tbl, w.before #[Value.ref b] s = true) ∧ va_X b L xs s s.heap ∧ b < s.heap.size ∧ meth.locks = false ∧ (Jvm.Cond.and given_1 narrow_1).before #[Value.ref b] s = true
/-! rows for the law's walk -/
section LK
variable {p : Program} {l : Launch} {e : Env} {R : Room} {s : State} {m : MethodId} {args : Array Value} {below : List Frame} {meth : Method} {c : Code} {D : va_G} {A : Nat → Prop} {nL cells slots : Nat} {Q : State → Prop}
variable {cc : ByteArray} {own : String} {cA : ClassId} {ws : va_W} {pc : Nat} {lv : List (Nat × Value)} {rest : List Value}
theorem x_sld (C : Cx p s m args meth c cc nL own D cA A) {b L j : Nat} {xs : Nat → Int32} (hX : va_X b L xs s s.heap) (hbl : b < s.heap.size) (hbA : ¬ A b) (hj : j < L) (hL : L < 2 ^ 31) (hdg : decode cc pc = .ok (.iaload, 1)) (k : X p l e R s m args below meth c D A nL cells slots Q ws (pc + 1) lv (.int (xs j) :: rest)) : X p l e R s m args below meth c D A nL cells slots Q ws pc lv (.int (nI j) :: .ref b :: rest) := fun H locs ls hP hD hS hl => by
  refine va_sld C.1 C.2.1 hX hbl hbA hS (vp_in_nI hj hL) hdg ?_
  rw [nI_clamp (by omega)]
  exact k H locs ls hP hD hS hl
theorem x_slen (C : Cx p s m args meth c cc nL own D cA A) {b L : Nat} {xs : Nat → Int32} (hX : va_X b L xs s s.heap) (hbl : b < s.heap.size) (hbA : ¬ A b) (hdg : decode cc pc = .ok (.arraylength, 1)) (k : X p l e R s m args below meth c D A nL cells slots Q ws (pc + 1) lv (.int (nI L) :: rest)) : X p l e R s m args below meth c D A nL cells slots Q ws pc lv (.ref b :: rest) := fun H locs ls hP hD hS hl => va_slen C.1 C.2.1 hX hbl hbA hS hdg (k H locs ls hP hD hS hl)
end LK
section LW
variable {p : Program} {l : Launch} {e : Env} {s : State} {m : MethodId} {below : List Frame} {meth : Method} {c : Code} {D : va_G}
abbrev XL (p : Program) (l : Launch) (e : Env) (s : State) (m : MethodId) (below : List Frame) (meth : Method) (c : Code) (D : va_G) (b : Nat) (ws : va_W) (pc : Nat) (lv : List (Nat × Value)) (st : List Value) : Prop := X p l e room_1 s m #[Value.ref b] below meth c D (fun q => s.heap.size ≤ q) 4 18 309316 (lw_Z below #[Value.ref b] s) ws pc lv st
theorem x_law {cA : ClassId} {b pc : Nat} {ws : va_W} {lv : List (Nat × Value)} (C : Cx p s m #[Value.ref b] meth c code 4 R_L D cA (fun q => s.heap.size ≤ q)) (hr : meth.sig.returnType = ret) (hdg : decode code pc = .ok (.ireturn, 1)) : XL p l e s m below meth c D b ws pc lv [.int (nI 1)] := fun H locs ls hP hD hS hl => by
  refine va_forget (fun q hq => hS.2.2 q hq) ?_
  refine W.widen (k := 600000) (n := 7302250) (Nat.le_of_ble_eq_true rfl) (Nat.le_of_ble_eq_true rfl) ?_
  exact lw_ret C.1 C.2.1 hr C.2.2.2.2.2.2.2.2 hdg
end LW
theorem fvk_sup {E V : Nat → Int32} {rn : Nat} {en : Nat → Nat} {vl : Nat → Nat → Nat} (h : Rn E V rn en vl) (c v : Nat) : ∀ k, k ≤ rn → sup (bnd en k) (fvk en vl c v k)
  | 0, _ => fun r _ => rfl
  | k + 1, hk => fun r hr => by
    have h1 := fvk_sup h c v k (by omega)
    have h2 := (h.2.1 k (by omega)).2.1
    have h3 : en k ≤ r := hr
    have h4 : ¬ r < en k := by omega
    show (fvk en vl c v k r || _) = false
    rw [h1 r (by omega)]
    simp [h4]
/-- class and reference agree -/
def LInv (n : Nat) (Lc Bc Ld Bd Ls Bs Lr Br : Nat → Int32) (kd kr : Nat) (dd rr : List (List Int32)) (E V L B : Nat → Int32) (rn : Nat) (en : Nat → Nat) (vl : Nat → Nat → Nat) (st : List ((Nat → Bool) × List (Nat × Nat))) (ks q : Nat) : Prop :=
  Hs 2096 33 Lc Bc (cS n (FM en vl rn) 32) ∧ Hs 2096 33 Ld Bd dd ∧ dd.length = kd ∧ Hs 3000 13 Ls Bs (kT n st) ∧ Hs 3001 2 Lr Br rr ∧ rr.length = kr ∧ Rn E V rn en vl ∧ bnd en rn = n ∧ rn ≤ q ∧ Ok en rn st ∧ Hs 200000 15 L B (iS st) ∧ st.length ≤ 12 ∧ tot (cS n (FM en vl rn) 32) ≤ 2000 ∧ n ≤ 1000000 ∧ (∀ v, sup n (FM en vl rn v)) ∧ (∀ z ∈ st, sup n z.1) ∧ q ≤ 512 ∧ st.length = ks
theorem kT_len (n : Nat) (st : List ((Nat → Bool) × List (Nat × Nat))) : (kT n st).length = st.length := by simp [kT]
theorem f3_eq {en : Nat → Nat} {rn n op : Nat} {f1 f2 : Nat → Bool} (hn : bnd en rn = n) (h1 : sup n f1) (h2 : sup n f2) (ho : op ≤ 3) : f3 en op f1 f2 rn = fun r => jbb op (f1 r) (f2 r) := by
  funext r
  unfold f3
  rw [hn]
  by_cases h : r < n
  · simp [h]
  · rw [h1 r (by omega), h2 r (by omega)]
    rcases (show op = 0 ∨ op = 1 ∨ op = 2 ∨ op = 3 by omega) with rfl | rfl | rfl | rfl <;> simp [jbb, h]
theorem in_16 {x : Int32} : nI 16 ≤ x ↔ nI 15 < x := by
  rw [Int32.le_iff_toInt_le, Int32.lt_iff_toInt_lt, nI_toInt (by omega), nI_toInt (by omega)]
  omega
theorem in_2 {x : Int32} : nI 2 ≤ x ↔ nI 1 < x := by
  rw [Int32.le_iff_toInt_le, Int32.lt_iff_toInt_lt, nI_toInt (by omega), nI_toInt (by omega)]
  omega
theorem nat_of {x : Int32} {k : Nat} (hk : k < 2 ^ 31) (h0 : ¬ x < 0) (h1 : ¬ nI k ≤ x) : ∃ j, j < k ∧ x = nI j := by
  obtain ⟨j, hj, rfl⟩ := nI_of h0
  refine ⟨j, ?_, rfl⟩
  rcases Nat.lt_or_ge j k with h | h
  · exact h
  · exact absurd (nI_le h hj) h1
