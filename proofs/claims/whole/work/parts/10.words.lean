/-! Words of runs: a word is (bits, groups); its groups laid out one by one: ex. canon: as the document has them. -/
abbrev AL : Nat := 2147483647
def ex (ws : List (Nat × Nat)) : List Nat := ws.flatMap (fun w => List.replicate w.2 w.1)
def okw (w : Nat × Nat) : Prop := 1 ≤ w.2 ∧ w.1 ≤ AL ∧ (w.1 = 0 ∨ w.1 = AL ∨ w.2 = 1)
def nxt (w : Nat × Nat) (v : Nat × Nat) : Prop := (w.1 = 0 ∨ w.1 = AL) → v.1 ≠ w.1
def canon : List (Nat × Nat) → Prop
  | [] => True
  | w :: ws => okw w ∧ (∀ v, ws.head? = some v → nxt w v) ∧ canon ws
theorem ex_nil : ex [] = [] := rfl
theorem ex_cons (w : Nat × Nat) (ws : List (Nat × Nat)) : ex (w :: ws) = List.replicate w.2 w.1 ++ ex ws := by simp [ex]
theorem ex_app (a b : List (Nat × Nat)) : ex (a ++ b) = ex a ++ ex b := by simp [ex]
theorem ex_one (w : Nat × Nat) : ex [w] = List.replicate w.2 w.1 := by simp [ex]
theorem canon_snoc : ∀ (ws : List (Nat × Nat)) (w : Nat × Nat), canon (ws ++ [w]) ↔ canon ws ∧ okw w ∧ (∀ v, ws.getLast? = some v → nxt v w)
  | [], w => by simp [canon]
  | [x], w => by
    simp only [List.cons_append, List.nil_append, canon, List.head?_cons, List.head?_nil, List.getLast?_singleton, Option.some.injEq]
    constructor
    · rintro ⟨h1, h2, h3, -⟩
      exact ⟨⟨h1, by simp, trivial⟩, h3, fun v hv => by subst hv; exact h2 w rfl⟩
    · rintro ⟨⟨h1, -, -⟩, h3, h4⟩
      exact ⟨h1, fun v hv => by subst hv; exact h4 x rfl, h3, by simp, trivial⟩
  | x :: y :: ws, w => by
    have ih := canon_snoc (y :: ws) w
    have e1 : canon (x :: y :: ws ++ [w]) ↔ okw x ∧ nxt x y ∧ canon ((y :: ws) ++ [w]) := by
      simp only [List.cons_append, canon, List.head?_cons, Option.some.injEq]
      constructor
      · rintro ⟨h1, h2, h3⟩
        exact ⟨h1, h2 y rfl, h3⟩
      · rintro ⟨h1, h2, h3⟩
        exact ⟨h1, fun v hv => by subst hv; exact h2, h3⟩
    have e2 : canon (x :: y :: ws) ↔ okw x ∧ nxt x y ∧ canon (y :: ws) := by
      simp only [canon, List.head?_cons, Option.some.injEq]
      constructor
      · rintro ⟨h1, h2, h3⟩
        exact ⟨h1, h2 y rfl, h3⟩
      · rintro ⟨h1, h2, h3⟩
        exact ⟨h1, fun v hv => by subst hv; exact h2, h3⟩
    rw [e1, e2, ih, List.getLast?_cons_cons]
    constructor
    · rintro ⟨h1, h2, h3, h4, h5⟩
      exact ⟨⟨h1, h2, h3⟩, h4, h5⟩
    · rintro ⟨⟨h1, h2, h3⟩, h4, h5⟩
      exact ⟨h1, h2, h3, h4, h5⟩
theorem canon_mem : ∀ {ws : List (Nat × Nat)}, canon ws → ∀ w ∈ ws, okw w
  | [], _, w, h => by simp at h
  | x :: ws, hc, w, h => by
    rcases List.mem_cons.mp h with rfl | h
    · exact hc.1
    · exact canon_mem hc.2.2 w h
theorem ex_head {w : Nat × Nat} {ws : List (Nat × Nat)} (h : 1 ≤ w.2) : ex (w :: ws) = w.1 :: (List.replicate (w.2 - 1) w.1 ++ ex ws) := by
  rw [ex_cons]
  obtain ⟨b, k⟩ := w
  cases k with
  | zero => simp at h
  | succ k => simp [List.replicate_succ]
theorem ex_ne_nil {ws : List (Nat × Nat)} (hc : canon ws) (h : ex ws = []) : ws = [] := by
  cases ws with
  | nil => rfl
  | cons w ws => rw [ex_head hc.1.1] at h; cases h
theorem canon_inj : ∀ (a b : List (Nat × Nat)), canon a → canon b → ex a = ex b → a = b
  | [], b, _, hb, h => (ex_ne_nil hb h.symm).symm
  | x :: a, [], ha, _, h => ex_ne_nil ha h
  | (x, k) :: a, (y, j) :: b, ha, hb, h => by
    have hk : 1 ≤ k := ha.1.1
    have hj : 1 ≤ j := hb.1.1
    have hxy : x = y := by
      rw [ex_head (w := (x, k)) hk, ex_head (w := (y, j)) hj] at h
      exact (List.cons.inj h).1
    subst hxy
    rw [ex_cons, ex_cons] at h
    dsimp only at h
    have key : ∀ (k j : Nat) (a b : List (Nat × Nat)), canon ((x, k) :: a) → canon ((x, j) :: b) → List.replicate k x ++ ex a = List.replicate j x ++ ex b → ¬ k < j := by
      intro k j a b ha hb h hlt
      have hf : x = 0 ∨ x = AL := by
        rcases hb.1.2.2 with h1 | h1 | h1
        · exact Or.inl h1
        · exact Or.inr h1
        · have := ha.1.1
          dsimp only at h1 this
          omega
      have e : List.replicate j x = List.replicate k x ++ List.replicate (j - k) x := by
        rw [List.replicate_append_replicate]; congr 1; omega
      rw [e, List.append_assoc] at h
      have h2 := List.append_cancel_left h
      cases a with
      | nil =>
        have : (List.replicate (j - k) x ++ ex b).length = 0 := by rw [← h2]; rfl
        simp at this
        omega
      | cons v a =>
        have hv : 1 ≤ v.2 := ha.2.2.1.1
        rw [ex_head hv] at h2
        obtain ⟨d, hd⟩ : ∃ d, j - k = d + 1 := ⟨j - k - 1, by omega⟩
        rw [hd, List.replicate_succ, List.cons_append] at h2
        exact ha.2.1 v rfl hf (List.cons.inj h2).1
    have hkj : k = j := by
      have h1 := key k j a b ha hb h
      have h2 := key j k b a hb ha h.symm
      omega
    subst hkj
    rw [canon_inj a b ha.2.2 hb.2.2 (List.append_cancel_left h)]
/-- k groups more, all with the bits b -/
def push (ws : List (Nat × Nat)) (b k : Nat) : List (Nat × Nat) := match ws.getLast? with
  | some v => if v.1 = b ∧ (b = 0 ∨ b = AL) then ws.dropLast ++ [(b, v.2 + k)] else ws ++ [(b, k)]
  | none => [(b, k)]
theorem push_nil (b k : Nat) : push [] b k = [(b, k)] := rfl
theorem push_same (ws : List (Nat × Nat)) (b j k : Nat) (hb : b = 0 ∨ b = AL) : push (ws ++ [(b, j)]) b k = ws ++ [(b, j + k)] := by
  simp [push, hb]
theorem push_other (ws : List (Nat × Nat)) (v : Nat × Nat) (b k : Nat) (h : ¬ (v.1 = b ∧ (b = 0 ∨ b = AL))) : push (ws ++ [v]) b k = ws ++ [v] ++ [(b, k)] := by
  unfold push
  rw [List.getLast?_concat]
  dsimp only
  rw [if_neg h]
theorem push_lit (ws : List (Nat × Nat)) (b k : Nat) (h : ¬ (b = 0 ∨ b = AL)) : push ws b k = ws ++ [(b, k)] := by
  rcases List.eq_nil_or_concat ws with rfl | ⟨ws0, v, rfl⟩
  · rfl
  · rw [List.concat_eq_append, push_other _ _ _ _ (fun q => h q.2)]
theorem push_ok {ws : List (Nat × Nat)} {b k : Nat} (hc : canon ws) (hw : okw (b, k)) : canon (push ws b k) ∧ ex (push ws b k) = ex ws ++ List.replicate k b ∧ (push ws b k).length ≤ ws.length + 1 := by
  rcases List.eq_nil_or_concat ws with rfl | ⟨ws0, v, rfl⟩
  · rw [push_nil]
    exact ⟨⟨hw, by simp, trivial⟩, by simp [ex], by simp⟩
  · rw [List.concat_eq_append] at hc ⊢
    obtain ⟨h1, h2, h3⟩ := (canon_snoc ws0 v).mp hc
    by_cases h : v.1 = b ∧ (b = 0 ∨ b = AL)
    · obtain ⟨x, j⟩ := v
      obtain ⟨hx, hb⟩ := h
      dsimp only at hx
      subst hx
      rw [push_same _ _ _ _ hb]
      refine ⟨(canon_snoc _ _).mpr ⟨h1, ⟨?_, h2.2.1, ?_⟩, h3⟩, ?_, by simp⟩
      · have := h2.1
        dsimp only at this ⊢
        omega
      · rcases hb with hb | hb
        · exact Or.inl hb
        · exact Or.inr (Or.inl hb)
      · rw [ex_app, ex_app, ex_one, ex_one, List.append_assoc, List.replicate_append_replicate]
    · rw [push_other _ _ _ _ h]
      refine ⟨(canon_snoc _ _).mpr ⟨hc, hw, fun z hz => ?_⟩, ?_, by simp⟩
      · rw [List.getLast?_concat] at hz
        cases hz
        intro hf hbz
        exact h ⟨hbz.symm, by rw [show b = v.1 from hbz]; exact hf⟩
      · rw [ex_app, ex_one]
/-- the last group goes -/
theorem pop_ok {ws : List (Nat × Nat)} {v : Nat × Nat} (hc : canon (ws ++ [v])) : (v.2 = 1 → canon ws ∧ ex (ws ++ [v]) = ex ws ++ [v.1]) ∧ (v.2 ≠ 1 → (v.1 = 0 ∨ v.1 = AL) ∧ 1 ≤ v.2 - 1 ∧ canon (ws ++ [(v.1, v.2 - 1)]) ∧ ex (ws ++ [v]) = ex (ws ++ [(v.1, v.2 - 1)]) ++ [v.1]) := by
  obtain ⟨h1, h2, h3⟩ := (canon_snoc ws v).mp hc
  obtain ⟨b, k⟩ := v
  obtain ⟨hk, hb, hf⟩ := h2
  dsimp only at hk hb hf ⊢
  refine ⟨fun h => ?_, fun h => ?_⟩
  · subst h
    exact ⟨h1, by rw [ex_app, ex_one]; rfl⟩
  · have hf' : b = 0 ∨ b = AL := by
      rcases hf with q | q | q
      · exact Or.inl q
      · exact Or.inr q
      · exact absurd q h
    refine ⟨hf', by omega, (canon_snoc _ _).mpr ⟨h1, ⟨by dsimp only; omega, hb, ?_⟩, h3⟩, ?_⟩
    · rcases hf' with q | q
      · exact Or.inl q
      · exact Or.inr (Or.inl q)
    · rw [ex_app, ex_app, ex_one, ex_one, List.append_assoc]
      congr 1
      dsimp only
      rw [show [b] = List.replicate 1 b from rfl, List.replicate_append_replicate]
      congr 1
      omega
/-- a word as the class keeps it -/
def enc (w : Nat × Nat) : Int32 := if w.1 = 0 then - nI (2 * w.2) else if w.1 = AL then - nI (2 * w.2 + 1) else nI w.1
/-! Groups of 31 rows -/
def gbk (f : Nat → Bool) (g : Nat) : Nat → Nat
  | 0 => 0
  | k + 1 => gbk f g k ||| (if f (31 * g + k) then 2 ^ k else 0)
theorem gbk_bit (f : Nat → Bool) (g i : Nat) : ∀ k, (gbk f g k).testBit i = (decide (i < k) && f (31 * g + i))
  | 0 => by simp [gbk]
  | k + 1 => by
    simp only [gbk, Nat.testBit_or, gbk_bit f g i k]
    by_cases hi : i = k
    · subst hi
      cases h : f (31 * g + i) <;> simp [Nat.testBit_two_pow]
    · have e : decide (i < k + 1) = decide (i < k) := by
        congr 1
        exact propext ⟨fun h => by omega, fun h => by omega⟩
      rw [e]
      cases h : f (31 * g + k)
      · simp
      · simp [Nat.testBit_two_pow, Ne.symm hi]
def gb (f : Nat → Bool) (g : Nat) : Nat := gbk f g 31
theorem gb_bit (f : Nat → Bool) (g i : Nat) : (gb f g).testBit i = (decide (i < 31) && f (31 * g + i)) := gbk_bit f g i 31
theorem gb_lt (f : Nat → Bool) (g : Nat) : gb f g < 2 ^ 31 := Nat.lt_pow_two_of_testBit _ (fun i hi => by
  rw [gb_bit]
  have : ¬ i < 31 := by omega
  simp [this])
theorem gb_le (f : Nat → Bool) (g : Nat) : gb f g ≤ AL := by
  have := gb_lt f g
  show gb f g ≤ 2147483647
  omega
theorem AL_bit (i : Nat) : AL.testBit i = decide (i < 31) := by
  rw [show AL = 2 ^ 31 - 1 from rfl, Nat.testBit_two_pow_sub_one]
theorem gb_eq {f h : Nat → Bool} {g g' : Nat} (e : ∀ k, k < 31 → f (31 * g + k) = h (31 * g' + k)) : gb f g = gb h g' := Nat.eq_of_testBit_eq fun i => by
  rw [gb_bit, gb_bit]
  by_cases hi : i < 31
  · rw [e i hi]
  · simp [hi]
theorem gb_zero {f : Nat → Bool} {g : Nat} : gb f g = 0 ↔ ∀ k, k < 31 → f (31 * g + k) = false := by
  constructor
  · intro h k hk
    have := gb_bit f g k
    rw [h] at this
    simpa [hk] using this.symm
  · intro h
    apply Nat.eq_of_testBit_eq
    intro i
    rw [gb_bit]
    by_cases hi : i < 31
    · simp [hi, h i hi]
    · simp [hi]
theorem gb_full {f : Nat → Bool} {g : Nat} : gb f g = AL ↔ ∀ k, k < 31 → f (31 * g + k) = true := by
  constructor
  · intro h k hk
    have := gb_bit f g k
    rw [h, AL_bit] at this
    simpa [hk] using this.symm
  · intro h
    apply Nat.eq_of_testBit_eq
    intro i
    rw [gb_bit, AL_bit]
    by_cases hi : i < 31
    · simp [hi, h i hi]
    · simp [hi]
def GL (f : Nat → Bool) (n : Nat) : List Nat := (List.range ((n + 30) / 31)).map (gb f)
theorem GL_len (f : Nat → Bool) (n : Nat) : (GL f n).length = (n + 30) / 31 := by simp [GL]
theorem GL_zip {f1 f2 f3 : Nat → Bool} {o : Nat → Nat → Nat} (n : Nat) (h : ∀ g, o (gb f1 g) (gb f2 g) = gb f3 g) : List.zipWith o (GL f1 n) (GL f2 n) = GL f3 n := by
  apply List.ext_getElem?
  intro i
  simp only [GL, List.getElem?_zipWith, List.getElem?_map]
  cases hi : (List.range ((n + 30) / 31))[i]? with
  | none => simp
  | some v => simp [h]
/-- the words of a set of the rows 0 .. n - 1 -/
def Rep (n : Nat) (f : Nat → Bool) (ws : List (Nat × Nat)) : Prop := canon ws ∧ ex ws = GL f n
theorem Rep.inj {n : Nat} {f : Nat → Bool} {a b : List (Nat × Nat)} (ha : Rep n f a) (hb : Rep n f b) : a = b := canon_inj a b ha.1 hb.1 (ha.2.trans hb.2.symm)
