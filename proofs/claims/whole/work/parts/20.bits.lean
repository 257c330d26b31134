/-! bits counted, the lowest bit -/
def pcn : Nat → Nat → Nat
  | 0, _ => 0
  | n + 1, b => pcn n b + (b.testBit n).toNat
theorem pcn_split (q r : Nat) (hr : r < 256) : ∀ n, pcn (8 + n) (256 * q + r) = pcn 8 r + pcn n q
  | 0 => by
    have e : ∀ k, k ≤ 8 → pcn k (256 * q + r) = pcn k r := by
      intro k
      induction k with
      | zero => intro _; rfl
      | succ k ih =>
        intro hk
        have h1 : (256 * q + r).testBit k = r.testBit k := by
          rw [show 256 * q + r = 2 ^ 8 * q + r from rfl, Nat.testBit_two_pow_mul_add q (by simpa using hr), if_pos (by omega)]
        simp only [pcn]
        rw [ih (by omega), h1]
    simpa [pcn] using e 8 (Nat.le_refl 8)
  | n + 1 => by
    have h1 : (256 * q + r).testBit (8 + n) = q.testBit n := by
      rw [show 256 * q + r = 2 ^ 8 * q + r from rfl, Nat.testBit_two_pow_mul_add q (by simpa using hr), if_neg (by omega), Nat.add_sub_cancel_left]
    show pcn (8 + n) (256 * q + r) + ((256 * q + r).testBit (8 + n)).toNat = _
    rw [pcn_split q r hr n, h1]
    simp only [pcn]
    omega
theorem and_split (q r m n : Nat) (hr : r < 256) (hn : n < 256) : (256 * q + r) &&& (256 * m + n) = 256 * (q &&& m) + (r &&& n) := by
  have hrn : r &&& n < 2 ^ 8 := Nat.and_lt_two_pow _ (by simpa using hn)
  apply Nat.eq_of_testBit_eq
  intro i
  rw [Nat.testBit_and, show 256 * q + r = 2 ^ 8 * q + r from rfl, show 256 * m + n = 2 ^ 8 * m + n from rfl, show 256 * (q &&& m) + (r &&& n) = 2 ^ 8 * (q &&& m) + (r &&& n) from rfl, Nat.testBit_two_pow_mul_add q (by simpa using hr), Nat.testBit_two_pow_mul_add m (by simpa using hn), Nat.testBit_two_pow_mul_add _ hrn]
  by_cases h : i < 8
  · simp [h]
  · simp [h]
def bf1 (b : Nat) : Nat := b - (b / 2 &&& 85)
def bf2 (c : Nat) : Nat := (c &&& 51) + (c / 4 &&& 51)
def bf3 (d : Nat) : Nat := (d + d / 16) &&& 15
theorem bf_ok : ∀ b, b < 256 → (b / 2 &&& 85) ≤ b ∧ bf1 b < 256 ∧ bf2 (bf1 b) ≤ 68 ∧ bf2 (bf1 b) % 16 ≤ 4 ∧ bf3 (bf2 (bf1 b)) = pcn 8 b ∧ pcn 8 b ≤ 8 := by decide +kernel
theorem bf_m1 : ∀ t, t < 2 → ∀ b, b < 256 → (128 * t + b / 2) &&& 85 = b / 2 &&& 85 := by decide +kernel
theorem bf_m2 : ∀ t, t < 4 → ∀ b, b < 256 → (64 * t + b / 4) &&& 51 = b / 4 &&& 51 := by decide +kernel
theorem bf_m3 : ∀ t, t < 5 → ∀ d, d < 69 → (d + (16 * t + d / 16)) &&& 15 = (d + d / 16) &&& 15 := by decide +kernel
def bc1 (x : Nat) : Nat := x - (x / 2 ^ 1 &&& 1431655765)
def bc2 (x : Nat) : Nat := (x &&& 858993459) + (x / 2 ^ 2 &&& 858993459)
def bc3 (x : Nat) : Nat := (x + x / 2 ^ 4) &&& 252645135
def bc4 (x : Nat) : Nat := x + x / 2 ^ 8
def bc5 (x : Nat) : Nat := x + x / 2 ^ 16
/-- four bytes -/
def q4 (a b c d : Nat) : Nat := 256 * (256 * (256 * d + c) + b) + a
theorem q4_and {a b c d a' b' c' d' : Nat} (h1 : a < 256) (h2 : b < 256) (h3 : c < 256) (k1 : a' < 256) (k2 : b' < 256) (k3 : c' < 256) : q4 a b c d &&& q4 a' b' c' d' = q4 (a &&& a') (b &&& b') (c &&& c') (d &&& d') := by
  unfold q4
  rw [and_split _ _ _ _ h1 k1, and_split _ _ _ _ h2 k2, and_split _ _ _ _ h3 k3]
theorem q4_bc1 {a b c d : Nat} (h1 : a < 256) (h2 : b < 256) (h3 : c < 256) (h4 : d < 256) : (q4 a b c d / 2 ^ 1 &&& 1431655765) ≤ q4 a b c d ∧ bc1 (q4 a b c d) = q4 (bf1 a) (bf1 b) (bf1 c) (bf1 d) := by
  have e : q4 a b c d / 2 ^ 1 = q4 (128 * (b % 2) + a / 2) (128 * (c % 2) + b / 2) (128 * (d % 2) + c / 2) (d / 2) := by
    unfold q4
    omega
  have e2 : q4 a b c d / 2 ^ 1 &&& 1431655765 = q4 (a / 2 &&& 85) (b / 2 &&& 85) (c / 2 &&& 85) (d / 2 &&& 85) := by
    rw [e, show (1431655765 : Nat) = q4 85 85 85 85 from rfl, q4_and (by omega) (by omega) (by omega) (by omega) (by omega) (by omega), bf_m1 _ (by omega) a h1, bf_m1 _ (by omega) b h2, bf_m1 _ (by omega) c h3]
  have f1 := (bf_ok a h1).1
  have f2 := (bf_ok b h2).1
  have f3 := (bf_ok c h3).1
  have f4 := (bf_ok d h4).1
  unfold bc1
  rw [e2]
  unfold q4 bf1
  generalize a / 2 &&& 85 = a2 at *
  generalize b / 2 &&& 85 = b2 at *
  generalize c / 2 &&& 85 = c2 at *
  generalize d / 2 &&& 85 = d2 at *
  omega
theorem q4_bc2 {a b c d : Nat} (h1 : a < 256) (h2 : b < 256) (h3 : c < 256) (h4 : d < 256) : bc2 (q4 a b c d) = q4 (bf2 a) (bf2 b) (bf2 c) (bf2 d) := by
  have e : q4 a b c d / 2 ^ 2 = q4 (64 * (b % 4) + a / 4) (64 * (c % 4) + b / 4) (64 * (d % 4) + c / 4) (d / 4) := by
    unfold q4
    omega
  have e2 : q4 a b c d / 2 ^ 2 &&& 858993459 = q4 (a / 4 &&& 51) (b / 4 &&& 51) (c / 4 &&& 51) (d / 4 &&& 51) := by
    rw [e, show (858993459 : Nat) = q4 51 51 51 51 from rfl, q4_and (by omega) (by omega) (by omega) (by omega) (by omega) (by omega), bf_m2 _ (by omega) a h1, bf_m2 _ (by omega) b h2, bf_m2 _ (by omega) c h3]
  have e3 : q4 a b c d &&& 858993459 = q4 (a &&& 51) (b &&& 51) (c &&& 51) (d &&& 51) := by
    rw [show (858993459 : Nat) = q4 51 51 51 51 from rfl, q4_and h1 h2 h3 (by omega) (by omega) (by omega)]
  unfold bc2
  rw [e2, e3]
  unfold q4 bf2
  omega
theorem q4_bc3 {a b c d : Nat} (h1 : a ≤ 68) (h2 : b ≤ 68) (h3 : c ≤ 68) (h4 : d ≤ 68) (k2 : b % 16 ≤ 4) (k3 : c % 16 ≤ 4) (k4 : d % 16 ≤ 4) : bc3 (q4 a b c d) = q4 (bf3 a) (bf3 b) (bf3 c) (bf3 d) := by
  have e : q4 a b c d + q4 a b c d / 2 ^ 4 = q4 (a + (16 * (b % 16) + a / 16)) (b + (16 * (c % 16) + b / 16)) (c + (16 * (d % 16) + c / 16)) (d + d / 16) := by
    unfold q4
    omega
  unfold bc3
  rw [e, show (252645135 : Nat) = q4 15 15 15 15 from rfl, q4_and (by omega) (by omega) (by omega) (by omega) (by omega) (by omega), bf_m3 _ (by omega) a (by omega), bf_m3 _ (by omega) b (by omega), bf_m3 _ (by omega) c (by omega)]
  rfl
theorem pcn_31 {b : Nat} (h : b < 2 ^ 31) : pcn 32 b = pcn 31 b := by
  have : b.testBit 31 = false := Nat.testBit_lt_two_pow h
  show pcn 31 b + (b.testBit 31).toNat = _
  rw [this]
  rfl
theorem bc_all {b : Nat} (h : b < 2 ^ 31) : (b / 2 ^ 1 &&& 1431655765) ≤ b ∧ bc1 b < 2 ^ 32 ∧ bc2 (bc1 b) < 2 ^ 31 ∧ bc3 (bc2 (bc1 b)) < 2 ^ 31 ∧ bc4 (bc3 (bc2 (bc1 b))) < 2 ^ 32 ∧ bc5 (bc4 (bc3 (bc2 (bc1 b)))) &&& 63 = pcn 31 b := by
  obtain ⟨a0, a1, a2, a3, h0, h1, h2, h3, rfl⟩ : ∃ a0 a1 a2 a3, a0 < 256 ∧ a1 < 256 ∧ a2 < 256 ∧ a3 < 256 ∧ b = q4 a0 a1 a2 a3 := ⟨b % 256, b / 256 % 256, b / 65536 % 256, b / 16777216, by omega, by omega, by omega, by omega, by unfold q4; omega⟩
  have f0 := bf_ok a0 h0
  have f1 := bf_ok a1 h1
  have f2 := bf_ok a2 h2
  have f3 := bf_ok a3 h3
  have e1 := q4_bc1 h0 h1 h2 h3
  have e2 := q4_bc2 f0.2.1 f1.2.1 f2.2.1 f3.2.1
  have e3 := q4_bc3 f0.2.2.1 f1.2.2.1 f2.2.2.1 f3.2.2.1 f1.2.2.2.1 f2.2.2.2.1 f3.2.2.2.1
  have hp : pcn 31 (q4 a0 a1 a2 a3) = pcn 8 a0 + (pcn 8 a1 + (pcn 8 a2 + pcn 8 a3)) := by
    rw [← pcn_31 h]
    unfold q4
    rw [show 32 = 8 + 24 from rfl, pcn_split _ _ h0, show 24 = 8 + 16 from rfl, pcn_split _ _ h1, show 16 = 8 + 8 from rfl, pcn_split _ _ h2]
  rw [e1.2, e2, e3, f0.2.2.2.2.1, f1.2.2.2.2.1, f2.2.2.2.2.1, f3.2.2.2.2.1, hp]
  have g0 := f0.2.2.2.2.2
  have g1 := f1.2.2.2.2.2
  have g2 := f2.2.2.2.2.2
  have g3 := f3.2.2.2.2.2
  generalize pcn 8 a0 = p0 at *
  generalize pcn 8 a1 = p1 at *
  generalize pcn 8 a2 = p2 at *
  generalize pcn 8 a3 = p3 at *
  have i0 := f0.2.1
  have i1 := f1.2.1
  have i2 := f2.2.1
  have i3 := f3.2.1
  have j0 := f0.2.2.1
  have j1 := f1.2.2.1
  have j2 := f2.2.2.1
  have j3 := f3.2.2.1
  refine ⟨e1.1, ?_, ?_, ?_, ?_, ?_⟩
  · unfold q4; omega
  · unfold q4; omega
  · unfold q4; omega
  · unfold bc4 q4; omega
  · rw [show (63 : Nat) = 2 ^ 6 - 1 from rfl, Nat.and_two_pow_sub_one_eq_mod]
    have d1 : bc4 (q4 p0 p1 p2 p3) = (p0 + p1) + 256 * (p1 + p2) + 65536 * (p2 + p3) + 16777216 * p3 := by
      have : q4 p0 p1 p2 p3 / 2 ^ 8 = p1 + 256 * p2 + 65536 * p3 := by unfold q4; omega
      unfold bc4
      rw [this]
      unfold q4
      omega
    have d2 : bc5 (bc4 (q4 p0 p1 p2 p3)) = (p0 + p1 + p2 + p3) + 64 * (4 * (p1 + p2 + p3) + 1024 * (p2 + p3) + 262144 * p3) := by
      unfold bc5
      rw [d1]
      have : ((p0 + p1) + 256 * (p1 + p2) + 65536 * (p2 + p3) + 16777216 * p3) / 2 ^ 16 = (p2 + p3) + 256 * p3 := by omega
      rw [this]
      omega
    rw [d2]
    omega
/-- an odd number, shifted -/
theorem odd_shift : ∀ x, 0 < x → ∃ t q, x = 2 ^ t * (2 * q + 1) := by
  intro x
  induction x using Nat.strongRecOn with
  | _ x ih =>
    intro h
    by_cases h2 : x % 2 = 1
    · exact ⟨0, x / 2, by omega⟩
    · obtain ⟨t, q, e⟩ := ih (x / 2) (by omega) (by omega)
      refine ⟨t + 1, q, ?_⟩
      rw [Nat.pow_succ, Nat.mul_comm (2 ^ t) 2, Nat.mul_assoc, ← e]
      omega
theorem tz_bit (t q i : Nat) : (2 ^ t * (2 * q + 1)).testBit i = (decide (t ≤ i) && (2 * q + 1).testBit (i - t)) := by
  rw [Nat.testBit_two_pow_mul]
theorem tz_lo (t q i : Nat) (h : i < t) : (2 ^ t * (2 * q + 1)).testBit i = false := by
  rw [tz_bit]
  have : ¬ t ≤ i := by omega
  simp [this]
theorem tz_at (t q : Nat) : (2 ^ t * (2 * q + 1)).testBit t = true := by
  rw [tz_bit]
  simp [Nat.testBit_zero]
theorem tz_mask {t q : Nat} (h : 2 ^ t * (2 * q + 1) < 2 ^ 31) : (2 ^ t * (2 * q + 1) ^^^ 4294967295) &&& (2 ^ t * (2 * q + 1) - 1) = 2 ^ t - 1 := by
  have hp : 0 < 2 ^ t := Nat.two_pow_pos t
  have e : 2 ^ t * (2 * q + 1) - 1 = 2 ^ t * (2 * q) + (2 ^ t - 1) := by rw [Nat.mul_add]; omega
  apply Nat.eq_of_testBit_eq
  intro i
  rw [Nat.testBit_and, Nat.testBit_xor, show (4294967295 : Nat) = 2 ^ 32 - 1 from rfl, Nat.testBit_two_pow_sub_one, Nat.testBit_two_pow_sub_one, e, Nat.testBit_two_pow_mul_add _ (by omega), tz_bit, Nat.testBit_two_pow_sub_one]
  by_cases hi : i < t
  · have h1 : ¬ t ≤ i := by omega
    have h2 : i < 32 := by
      have : t < 31 := by
        by_cases h3 : t < 31
        · exact h3
        · have h4 : 2 ^ 31 ≤ 2 ^ t := Nat.pow_le_pow_right (by omega) (by omega)
          have h5 : 2 ^ t * 1 ≤ 2 ^ t * (2 * q + 1) := Nat.mul_le_mul_left _ (by omega)
          omega
      omega
    simp [hi, h1, h2]
  · have h1 : t ≤ i := by omega
    simp only [hi, h1, if_neg, decide_true, decide_false, Bool.true_and, not_false_eq_true]
    by_cases h0 : i = t
    · subst h0
      simp [Nat.testBit_zero]
    · obtain ⟨d, hd⟩ : ∃ d, i - t = d + 1 := ⟨i - t - 1, by omega⟩
      have e1 : (2 * q + 1).testBit (d + 1) = q.testBit d := by
        rw [Nat.testBit_succ]; congr 1; omega
      have e2 : (2 * q).testBit (d + 1) = q.testBit d := by
        rw [Nat.testBit_succ]; congr 1; omega
      rw [hd, e1, e2]
      by_cases h32 : i < 32
      · simp [h32]
      · have h3 : (2 ^ t * (2 * q + 1)).testBit i = false := by
          apply Nat.testBit_lt_two_pow
          have : 2 ^ 31 ≤ 2 ^ i := Nat.pow_le_pow_right (by omega) (by omega)
          omega
        rw [tz_bit, hd, e1] at h3
        have h4 : q.testBit d = false := by simpa [h1] using h3
        simp [h4]
theorem tz_small {t q : Nat} (h : 2 ^ t * (2 * q + 1) < 2 ^ 31) : t < 31 := by
  by_cases h3 : t < 31
  · exact h3
  · have h4 : 2 ^ 31 ≤ 2 ^ t := Nat.pow_le_pow_right (by omega) (by omega)
    have h5 : 2 ^ t * 1 ≤ 2 ^ t * (2 * q + 1) := Nat.mul_le_mul_left _ (by omega)
    omega
theorem tz_c31 {P : Nat → Prop} {t : Nat} (h : t < 31) (h0 : ∀ u, u < 31 → P u) : P t := h0 t h
