/-! sets as intervals -/
def ivs : Nat → List (Nat × Nat) → Prop
  | _, [] => True
  | lo, p :: t => lo ≤ p.1 ∧ p.1 < p.2 ∧ ivs (p.2 + 1) t
def mem (I : List (Nat × Nat)) (r : Nat) : Bool := I.any (fun p => decide (p.1 ≤ r) && decide (r < p.2))
theorem mem_nil (r : Nat) : mem [] r = false := rfl
theorem mem_cons (p : Nat × Nat) (I : List (Nat × Nat)) (r : Nat) : mem (p :: I) r = ((decide (p.1 ≤ r) && decide (r < p.2)) || mem I r) := rfl
theorem mem_app (I J : List (Nat × Nat)) (r : Nat) : mem (I ++ J) r = (mem I r || mem J r) := by simp [mem, List.any_append]
theorem mem_one (p : Nat × Nat) (r : Nat) : mem [p] r = (decide (p.1 ≤ r) && decide (r < p.2)) := by simp [mem]
theorem mem_iff {I : List (Nat × Nat)} {r : Nat} : mem I r = true ↔ ∃ p ∈ I, p.1 ≤ r ∧ r < p.2 := by
  simp [mem, List.any_eq_true]
theorem mem_false {I : List (Nat × Nat)} {r : Nat} : mem I r = false ↔ ∀ p ∈ I, ¬ (p.1 ≤ r ∧ r < p.2) := by
  rw [← Bool.not_eq_true, mem_iff]
  constructor
  · intro h p hp q
    exact h ⟨p, hp, q⟩
  · rintro h ⟨p, hp, q⟩
    exact h p hp q
theorem ivs_weak : ∀ {I : List (Nat × Nat)} {lo lo' : Nat}, lo' ≤ lo → ivs lo I → ivs lo' I
  | [], _, _, _, _ => trivial
  | _ :: _, _, _, h, q => ⟨Nat.le_trans h q.1, q.2⟩
theorem ivs_lo : ∀ {I : List (Nat × Nat)} {lo : Nat}, ivs lo I → ∀ p ∈ I, lo ≤ p.1 ∧ p.1 < p.2
  | [], _, _, p, hp => by simp at hp
  | x :: t, lo, h, p, hp => by
    rcases List.mem_cons.mp hp with rfl | hp
    · exact ⟨h.1, h.2.1⟩
    · have := ivs_lo h.2.2 p hp
      have h1 := h.1
      have h2 := h.2.1
      omega
/-- two intervals of one list: the earlier one ends ahead of the later one -/
theorem ivs_two : ∀ {I : List (Nat × Nat)} {lo i j : Nat} {p q : Nat × Nat}, ivs lo I → i < j → I[i]? = some p → I[j]? = some q → p.2 < q.1
  | [], _, i, _, _, _, _, _, h, _ => by simp at h
  | x :: t, lo, i, j, p, q, h, hij, hp, hq => by
    obtain ⟨j, rfl⟩ : ∃ y, j = y + 1 := ⟨j - 1, by omega⟩
    rw [List.getElem?_cons_succ] at hq
    cases i with
    | zero =>
      rw [List.getElem?_cons_zero] at hp
      cases hp
      have := ivs_lo h.2.2 q (List.mem_of_getElem? hq)
      omega
    | succ i =>
      rw [List.getElem?_cons_succ] at hp
      exact ivs_two h.2.2 (by omega) hp hq
theorem ivs_at {I : List (Nat × Nat)} {lo i : Nat} {p : Nat × Nat} (h : ivs lo I) (hp : I[i]? = some p) : lo ≤ p.1 ∧ p.1 < p.2 := ivs_lo h p (List.mem_of_getElem? hp)
theorem ivs_snoc : ∀ {I : List (Nat × Nat)} {lo : Nat} {p : Nat × Nat}, ivs lo (I ++ [p]) ↔ ivs lo I ∧ p.1 < p.2 ∧ lo ≤ p.1 ∧ ∀ q, I.getLast? = some q → q.2 < p.1
  | [], lo, p => by
    simp [ivs]
    omega
  | [x], lo, p => by
    simp [ivs]
    omega
  | x :: y :: t, lo, p => by
    have ih := ivs_snoc (I := y :: t) (lo := x.2 + 1) (p := p)
    show lo ≤ x.1 ∧ x.1 < x.2 ∧ ivs (x.2 + 1) ((y :: t) ++ [p]) ↔ _
    rw [ih, List.getLast?_cons_cons]
    constructor
    · rintro ⟨h1, h2, h3, h4, h5, h6⟩
      exact ⟨⟨h1, h2, h3⟩, h4, by omega, h6⟩
    · rintro ⟨⟨h1, h2, h3⟩, h4, h5, h6⟩
      refine ⟨h1, h2, h3, h4, ?_, h6⟩
      have hl : ∃ q, (y :: t).getLast? = some q := ⟨(y :: t).getLast (by simp), List.getLast?_eq_some_getLast (by simp)⟩
      obtain ⟨q, hq⟩ := hl
      have h7 := h6 q hq
      have h8 := ivs_lo h3 q (List.mem_of_getLast? hq)
      omega
/-- the intervals of a set of the rows below n -/
def Iv (n : Nat) (f : Nat → Bool) (I : List (Nat × Nat)) : Prop := ivs 0 I ∧ (∀ p ∈ I, p.2 ≤ n) ∧ ∀ r, f r = mem I r
theorem Iv.sup {n : Nat} {f : Nat → Bool} {I : List (Nat × Nat)} (h : Iv n f I) : sup n f := fun r hr => by
  rw [h.2.2 r, mem_false]
  intro p hp
  have := h.2.1 p hp
  omega
/-- where they lie -/
def seg (L : Nat → Int32) (a : Nat) (I : List (Nat × Nat)) : Prop := ∀ i p, I[i]? = some p → L (a + 2 * i) = nI p.1 ∧ L (a + 2 * i + 1) = nI p.2
def fl (I : List (Nat × Nat)) : List Int32 := I.flatMap (fun p => [nI p.1, nI p.2])
theorem fl_nil : fl [] = [] := rfl
theorem fl_cons (p : Nat × Nat) (I : List (Nat × Nat)) : fl (p :: I) = nI p.1 :: nI p.2 :: fl I := rfl
theorem fl_len : ∀ I, (fl I).length = 2 * I.length
  | [] => rfl
  | p :: I => by
    rw [fl_cons, List.length_cons, List.length_cons, fl_len I, List.length_cons]
    omega
theorem fl_get : ∀ (I : List (Nat × Nat)) (i : Nat) (p : Nat × Nat), I[i]? = some p → (fl I).getD (2 * i) 0 = nI p.1 ∧ (fl I).getD (2 * i + 1) 0 = nI p.2
  | [], i, p, h => by simp at h
  | q :: I, 0, p, h => by
    rw [List.getElem?_cons_zero] at h
    cases h
    exact ⟨rfl, rfl⟩
  | q :: I, i + 1, p, h => by
    rw [List.getElem?_cons_succ] at h
    have := fl_get I i p h
    rw [fl_cons, show 2 * (i + 1) = 2 * i + 1 + 1 by omega]
    exact this
theorem fl_of : ∀ (I : List (Nat × Nat)) (j : Nat), j < 2 * I.length → ∃ i p, I[i]? = some p ∧ ((j = 2 * i ∧ (fl I).getD j 0 = nI p.1) ∨ (j = 2 * i + 1 ∧ (fl I).getD j 0 = nI p.2)) := fun I j h => by
  have hi : j / 2 < I.length := by omega
  have hp : I[j / 2]? = some I[j / 2] := List.getElem?_eq_getElem hi
  have hg := fl_get I _ _ hp
  refine ⟨j / 2, _, hp, ?_⟩
  by_cases h2 : j % 2 = 0
  · have e : j = 2 * (j / 2) := by omega
    refine Or.inl ⟨e, ?_⟩
    conv => lhs; rw [e]
    exact hg.1
  · have e : j = 2 * (j / 2) + 1 := by omega
    refine Or.inr ⟨e, ?_⟩
    conv => lhs; rw [e]
    exact hg.2
theorem Hs.sgm {cap mx : Nat} {L Bd : Nat → Int32} {ss : List (List Int32)} (h : Hs cap mx L Bd ss) {k : Nat} {I : List (Nat × Nat)} (hk : k < ss.length) (hI : ss.getD k [] = fl I) : seg L (off ss k) I := by
  intro i p hp
  have hi : i < I.length := (List.getElem?_eq_some_iff.mp hp).1
  have hl := fl_len I
  have hg := fl_get I i p hp
  have h1 := h.ln hk (j := 2 * i) (by rw [hI, hl]; omega)
  have h2 := h.ln hk (j := 2 * i + 1) (by rw [hI, hl]; omega)
  rw [hI] at h1 h2
  exact ⟨by rw [h1]; exact hg.1, by rw [show off ss k + 2 * i + 1 = off ss k + (2 * i + 1) by omega, h2]; exact hg.2⟩
theorem Hs.scratch {cap mx : Nat} {L L' Bd : Nat → Int32} {ss : List (List Int32)} (h : Hs cap mx L Bd ss) (hL : ∀ j, j < tot ss → L' j = L j) : Hs cap mx L' Bd ss := ⟨h.1, h.2.1, h.2.2.1, h.2.2.2.1, h.2.2.2.2.1, fun j hj => by rw [hL j hj]; exact h.2.2.2.2.2 j hj⟩
theorem seg_at {L : Nat → Int32} {a : Nat} {I : List (Nat × Nat)} (h : seg L a I) : ∀ j, j < (fl I).length → L (a + j) = (fl I).getD j 0 := by
  intro j hj
  rw [fl_len] at hj
  obtain ⟨i, p, hp, q | q⟩ := fl_of I j hj
  · rw [q.2, q.1]; exact (h i p hp).1
  · rw [q.2, q.1]; exact (h i p hp).2
/-- bits a .. b - 1 -/
def rg (a : Nat) : Nat → Nat
  | 0 => 0
  | k + 1 => rg a k ||| (if a ≤ k then 2 ^ k else 0)
theorem rg_bit (a i : Nat) : ∀ k, (rg a k).testBit i = (decide (a ≤ i) && decide (i < k))
  | 0 => by simp [rg]
  | k + 1 => by
    simp only [rg, Nat.testBit_or, rg_bit a i k]
    by_cases hi : i = k
    · subst hi
      by_cases ha : a ≤ i
      · simp [ha, Nat.testBit_two_pow]
      · simp [ha]
    · have e : decide (i < k + 1) = decide (i < k) := by
        congr 1
        exact propext ⟨fun h => by omega, fun h => by omega⟩
      rw [e]
      by_cases ha : a ≤ k
      · simp [ha, Nat.testBit_two_pow, Ne.symm hi]
      · simp [ha]
theorem rg_self (a : Nat) : rg a a = 0 := Nat.eq_of_testBit_eq fun i => by
  rw [rg_bit, Nat.zero_testBit]
  by_cases h : a ≤ i
  · have : ¬ i < a := by omega
    simp [this]
  · simp [h]
theorem rg_succ {a k : Nat} (h : a ≤ k) : rg a (k + 1) = rg a k ||| 2 ^ k := by simp [rg, h]
/-- an interval's rows in a group -/
theorem lit_step {I : List (Nat × Nat)} {g p : Nat} {q : Nat × Nat} (hq : I[p]? = some q) : gb (mem (I.take p)) g ||| rg (q.1 - 31 * g) (min (q.2 - 31 * g) 31) = gb (mem (I.take (p + 1))) g := by
  refine gb_of ?_ fun i hi => ?_
  · have h1 := gb_lt (mem (I.take p)) g
    have h2 : rg (q.1 - 31 * g) (min (q.2 - 31 * g) 31) < 2 ^ 31 := Nat.lt_pow_two_of_testBit _ fun i hi => by
      rw [rg_bit]
      have : ¬ i < min (q.2 - 31 * g) 31 := by omega
      simp [this]
    have h3 : _ < 2 ^ 31 := Nat.or_lt_two_pow h1 h2
    show _ ≤ 2147483647
    omega
  · rw [Nat.testBit_or, gb_bit, rg_bit, take_snoc hq, mem_app, mem_one]
    have e : (decide (q.1 - 31 * g ≤ i) && decide (i < min (q.2 - 31 * g) 31)) = (decide (q.1 ≤ 31 * g + i) && decide (31 * g + i < q.2)) := by
      rw [← Bool.decide_and, ← Bool.decide_and]
      congr 1
      exact propext ⟨fun h => by omega, fun h => by omega⟩
    rw [e]
    simp [hi]
/-- what is behind a place doesn't reach a group -/
theorem lit_end {n : Nat} {f : Nat → Bool} {I : List (Nat × Nat)} {g p : Nat} (h : Iv n f I) (hp : ∀ i q, p ≤ i → I[i]? = some q → 31 * g + 31 ≤ q.1) : gb (mem (I.take p)) g = gb f g := by
  apply gb_eq
  intro k hk
  rw [h.2.2, ← List.take_append_drop p I, mem_app, List.take_append_drop]
  have : mem (I.drop p) (31 * g + k) = false := by
    rw [mem_false]
    intro q hq
    obtain ⟨i, hi⟩ := List.getElem?_of_mem hq
    rw [List.getElem?_drop] at hi
    have := hp (p + i) q (by omega) hi
    omega
  rw [this]
  simp
