/-! sets of rows, group by group -/
def PG (f : Nat → Bool) (k : Nat) : List Nat := (List.range k).map (gb f)
theorem GL_PG (f : Nat → Bool) (n : Nat) : GL f n = PG f ((n + 30) / 31) := rfl
theorem PG_len (f : Nat → Bool) (k : Nat) : (PG f k).length = k := by simp [PG]
theorem PG_succ (f : Nat → Bool) (k : Nat) : PG f (k + 1) = PG f k ++ [gb f k] := by simp [PG, List.range_succ]
theorem PG_congr {f h : Nat → Bool} {k : Nat} (e : ∀ g, g < k → gb f g = gb h g) : PG f k = PG h k := by
  apply List.map_congr_left
  intro g hg
  exact e g (List.mem_range.mp hg)
theorem PG_rep {f : Nat → Bool} {k B : Nat} : ∀ {t : Nat}, (∀ i, i < t → gb f (k + i) = B) → PG f (k + t) = PG f k ++ List.replicate t B
  | 0, _ => by simp
  | t + 1, h => by
    rw [← Nat.add_assoc, PG_succ, PG_rep (t := t) (fun i hi => h i (by omega)), h t (by omega), List.append_assoc, List.replicate_succ']
theorem hi_bit {x i : Nat} (hx : x ≤ AL) (hi : ¬ i < 31) : x.testBit i = false := by
  apply Nat.testBit_lt_two_pow
  have h1 : 2 ^ 31 ≤ 2 ^ i := Nat.pow_le_pow_right (by omega) (by omega)
  have h2 : x ≤ 2147483647 := hx
  omega
theorem gb_of {f : Nat → Bool} {g x : Nat} (hx : x ≤ AL) (h : ∀ i, i < 31 → x.testBit i = f (31 * g + i)) : x = gb f g := by
  apply Nat.eq_of_testBit_eq
  intro i
  rw [gb_bit]
  by_cases hi : i < 31
  · simp [hi, h i hi]
  · simp [hi, hi_bit hx hi]
/-- the rows n .. n + m - 1 more, in the set if c -/
def addr (f : Nat → Bool) (n m : Nat) (c : Bool) : Nat → Bool := fun r => f r || (c && (decide (n ≤ r) && decide (r < n + m)))
def sup (n : Nat) (f : Nat → Bool) : Prop := ∀ r, n ≤ r → f r = false
def cB (c : Bool) : Nat := if c then AL else 0
theorem cB_le (c : Bool) : cB c ≤ AL := by cases c <;> decide
theorem cB_bit (c : Bool) (i : Nat) (hi : i < 31) : (cB c).testBit i = c := by
  cases c
  · simp [cB]
  · simp [cB, AL_bit, hi]
theorem addr_sup {f : Nat → Bool} {n m : Nat} {c : Bool} (h : sup n f) : sup (n + m) (addr f n m c) := fun r hr => by
  have h1 : ¬ r < n + m := by omega
  simp [addr, h r (by omega), h1]
theorem addr_lo {f : Nat → Bool} {n m : Nat} {c : Bool} {r : Nat} (h : r < n) : addr f n m c r = f r := by
  have h1 : ¬ n ≤ r := by omega
  simp [addr, h1]
theorem addr_hi {f : Nat → Bool} {n m : Nat} {c : Bool} {r : Nat} (h : sup n f) (h1 : n ≤ r) : addr f n m c r = (c && decide (r < n + m)) := by
  simp [addr, h r h1, h1]
theorem ar_pre {f : Nat → Bool} {n m : Nat} {c : Bool} : PG (addr f n m c) (n / 31) = PG f (n / 31) := PG_congr fun g hg => gb_eq fun k hk => addr_lo (by omega)
/-- the group that was begun -/
theorem ar_begun {f : Nat → Bool} {n m : Nat} {c : Bool} (hs : sup n f) (h0 : 0 < n % 31) : gb f (n / 31) ||| ((cB c &&& (2 ^ (min (31 - n % 31) m) - 1)) * 2 ^ (n % 31)) = gb (addr f n m c) (n / 31) := by
  have hlt : cB c &&& (2 ^ (min (31 - n % 31) m) - 1) < 2 ^ (31 - n % 31) := by
    have h1 : cB c &&& (2 ^ (min (31 - n % 31) m) - 1) ≤ 2 ^ (min (31 - n % 31) m) - 1 := Nat.and_le_right
    have h2 : 2 ^ (min (31 - n % 31) m) ≤ 2 ^ (31 - n % 31) := Nat.pow_le_pow_right (by omega) (by omega)
    have h3 : 0 < 2 ^ (min (31 - n % 31) m) := Nat.two_pow_pos _
    omega
  have hle : (cB c &&& (2 ^ (min (31 - n % 31) m) - 1)) * 2 ^ (n % 31) < 2 ^ 31 := by
    have h1 : 2 ^ 31 = 2 ^ (31 - n % 31) * 2 ^ (n % 31) := by rw [← Nat.pow_add]; congr 1; omega
    rw [h1]
    exact Nat.mul_lt_mul_of_pos_right hlt (Nat.two_pow_pos _)
  refine gb_of ?_ fun i hi => ?_
  · have h1 := gb_lt f (n / 31)
    have h2 : _ < 2 ^ 31 := Nat.or_lt_two_pow h1 hle
    show _ ≤ 2147483647
    omega
  · rw [Nat.testBit_or, gb_bit, ← Nat.shiftLeft_eq, Nat.testBit_shiftLeft, Nat.testBit_and, Nat.testBit_two_pow_sub_one]
    by_cases hb : n % 31 ≤ i
    · rw [cB_bit c _ (by omega)]
      have e1 : n ≤ 31 * (n / 31) + i := by omega
      rw [addr_hi hs e1, hs _ e1]
      have e2 : decide (i - n % 31 < min (31 - n % 31) m) = decide (31 * (n / 31) + i < n + m) := by
        congr 1
        exact propext ⟨fun h => by omega, fun h => by omega⟩
      rw [e2]
      simp [hb]
    · rw [addr_lo (by omega)]
      have : ¬ i ≥ n % 31 := hb
      simp [hi, this]
/-- whole groups behind it -/
theorem ar_mid {f : Nat → Bool} {n m k t : Nat} {c : Bool} (hs : sup n f) (h1 : n ≤ 31 * k) (h2 : 31 * (k + t) ≤ n + m) : PG (addr f n m c) (k + t) = PG (addr f n m c) k ++ List.replicate t (cB c) := PG_rep fun i hi => (gb_of (cB_le c) fun j hj => by
  have h3 : 31 * (k + i) + j < n + m := by omega
  rw [cB_bit c j hj, addr_hi hs (by omega)]
  simp [h3]).symm
/-- the last one, begun anew -/
theorem ar_last {f : Nat → Bool} {n m k : Nat} {c : Bool} (hs : sup n f) (h1 : n ≤ 31 * k) (h2 : 31 * k ≤ n + m) (h3 : n + m - 31 * k < 31) : cB c &&& (2 ^ (n + m - 31 * k) - 1) = gb (addr f n m c) k := by
  refine gb_of ?_ fun i hi => ?_
  · exact Nat.le_trans Nat.and_le_left (cB_le c)
  · rw [Nat.testBit_and, Nat.testBit_two_pow_sub_one, cB_bit c i hi, addr_hi hs (by omega)]
    congr 1
    congr 1
    exact propext ⟨fun h => by omega, fun h => by omega⟩
theorem ar_shl {f : Nat → Bool} {n m : Nat} {c : Bool} {v : Nat} : nI v ||| ((nI (cB c) &&& nI (2 ^ (min (31 - n % 31) m) - 1)) <<< (nI (n % 31) &&& 31)) = nI (v ||| ((cB c &&& (2 ^ (min (31 - n % 31) m) - 1)) * 2 ^ (n % 31))) := by
  have hlt : cB c &&& (2 ^ (min (31 - n % 31) m) - 1) < 2 ^ (31 - n % 31) := by
    have h1 : cB c &&& (2 ^ (min (31 - n % 31) m) - 1) ≤ 2 ^ (min (31 - n % 31) m) - 1 := Nat.and_le_right
    have h2 : 2 ^ (min (31 - n % 31) m) ≤ 2 ^ (31 - n % 31) := Nat.pow_le_pow_right (by omega) (by omega)
    have h3 : 0 < 2 ^ (min (31 - n % 31) m) := Nat.two_pow_pos _
    omega
  have hle : (cB c &&& (2 ^ (min (31 - n % 31) m) - 1)) * 2 ^ (n % 31) < 2 ^ 31 := by
    have h1 : 2 ^ 31 = 2 ^ (31 - n % 31) * 2 ^ (n % 31) := by rw [← Nat.pow_add]; congr 1; omega
    rw [h1]
    exact Nat.mul_lt_mul_of_pos_right hlt (Nat.two_pow_pos _)
  rw [nx_and, nx_shl (by omega) (by omega), nx_or]
/-- all other rows -/
def fnot (f : Nat → Bool) (n : Nat) : Nat → Bool := fun r => decide (r < n) && !f r
theorem fnot_sup (f : Nat → Bool) (n : Nat) : sup n (fnot f n) := fun r hr => by
  have : ¬ r < n := by omega
  simp [fnot, this]
theorem not_whole {f : Nat → Bool} {n g : Nat} (h : 31 * g + 31 ≤ n) : gb f g ^^^ AL = gb (fnot f n) g := by
  refine gb_of ?_ fun i hi => ?_
  · have h1 := gb_lt f g
    have h2 : gb f g ^^^ AL < 2 ^ 31 := Nat.xor_lt_two_pow h1 (by decide)
    show _ ≤ 2147483647
    omega
  · have h2 : 31 * g + i < n := by omega
    rw [Nat.testBit_xor, AL_bit, gb_bit]
    simp [fnot, hi, h2]
theorem not_last {f : Nat → Bool} {n g : Nat} (h0 : 31 * g ≤ n) (h1 : n - 31 * g < 31) : (gb f g ^^^ AL) &&& (2 ^ (n - 31 * g) - 1) = gb (fnot f n) g := by
  refine gb_of ?_ fun i hi => ?_
  · have h1 := gb_lt f g
    have h2 : gb f g ^^^ AL < 2 ^ 31 := Nat.xor_lt_two_pow h1 (by decide)
    have h3 : (gb f g ^^^ AL) &&& (2 ^ (n - 31 * g) - 1) ≤ gb f g ^^^ AL := Nat.and_le_left
    show _ ≤ 2147483647
    omega
  · rw [Nat.testBit_and, Nat.testBit_xor, AL_bit, gb_bit, Nat.testBit_two_pow_sub_one]
    have e : decide (i < n - 31 * g) = decide (31 * g + i < n) := by
      congr 1
      exact propext ⟨fun h => by omega, fun h => by omega⟩
    rw [e]
    simp [fnot, hi, Bool.and_comm]
theorem okw_not {w : Nat × Nat} (h : okw w) : okw (w.1 ^^^ AL, w.2) := by
  obtain ⟨h1, h2, h3⟩ := h
  have h4 : w.1 < 2 ^ 31 := by have : w.1 ≤ 2147483647 := h2; omega
  refine ⟨h1, ?_, ?_⟩
  · have : w.1 ^^^ AL < 2 ^ 31 := Nat.xor_lt_two_pow h4 (by decide)
    show _ ≤ 2147483647
    omega
  · rcases h3 with q | q | q
    · right; left
      dsimp only
      rw [q]
      decide
    · left
      dsimp only
      rw [q]
      decide
    · exact Or.inr (Or.inr q)
