/-! words as ints, bits of ints -/
theorem nx_and (a b : Nat) : nI a &&& nI b = nI (a &&& b) := by
  apply Int32.toBitVec_inj.mp
  show BitVec.ofNat 32 a &&& BitVec.ofNat 32 b = BitVec.ofNat 32 (a &&& b)
  rw [BitVec.ofNat_and]
theorem nx_or (a b : Nat) : nI a ||| nI b = nI (a ||| b) := by
  apply Int32.toBitVec_inj.mp
  show BitVec.ofNat 32 a ||| BitVec.ofNat 32 b = BitVec.ofNat 32 (a ||| b)
  rw [BitVec.ofNat_or]
theorem nx_xor (a b : Nat) : nI a ^^^ nI b = nI (a ^^^ b) := by
  apply Int32.toBitVec_inj.mp
  show BitVec.ofNat 32 a ^^^ BitVec.ofNat 32 b = BitVec.ofNat 32 (a ^^^ b)
  rw [BitVec.ofNat_xor]
theorem nx_shl_c : ∀ n, n < 32 → ((nI n &&& 31).toBitVec.smod 32).toNat = n := by decide +kernel
theorem nx_ushr_c : ∀ n, n < 32 → (((nI n).toUInt32 &&& Int32.toUInt32 31).toBitVec % 32).toNat = n := by decide +kernel
theorem nx_shl {a n : Nat} (hn : n < 32) (h : a * 2 ^ n < 2 ^ 32) : nI a <<< (nI n &&& 31) = nI (a * 2 ^ n) := pk_shlN _ n (nx_shl_c n hn) h
theorem nx_ushr {a n : Nat} (hn : n < 32) (h : a < 2 ^ 32) : ((nI a).toUInt32 >>> ((nI n).toUInt32 &&& Int32.toUInt32 31)).toInt32 = nI (a / 2 ^ n) := pk_ushrN h _ n (nx_ushr_c n hn)
theorem nx_bits {n : Nat} (hn : n < 31) : nI 1 <<< (nI n &&& 31) - nI 1 = nI (2 ^ n - 1) := by
  have h1 : 2 ^ n < 2 ^ 31 := Nat.pow_lt_pow_right (by omega) hn
  have h2 : 0 < 2 ^ n := Nat.two_pow_pos n
  rw [nx_shl (by omega) (by omega), Nat.one_mul, pk_sub h2]
theorem neg_lt {n : Nat} (h0 : 0 < n) (h : n < 2 ^ 31) : -nI n < 0 := by
  rw [Int32.lt_iff_toInt_lt, sb_negT h]
  show -(n : Int) < 0
  omega
theorem neg_nn (n : Nat) : -(-nI n) = nI n := Int32.neg_neg
theorem neg_and1 {n : Nat} (h : n < 2 ^ 31) : -nI n &&& nI 1 = nI (n % 2) := by
  rw [pk_and (-nI n) (m := nI 1) 1 (by decide)]
  congr 1
  have e : (-nI n).toBitVec = -(nI n).toBitVec := Int32.toBitVec_neg _
  rw [e, BitVec.toNat_neg, pk_tn (by omega)]
  omega
theorem enc_lit {w : Nat × Nat} (h : ¬ (w.1 = 0 ∨ w.1 = AL)) : enc w = nI w.1 := by
  unfold enc
  rw [if_neg (fun q => h (Or.inl q)), if_neg (fun q => h (Or.inr q))]
theorem enc_0 {b k : Nat} (h : b = 0) : enc (b, k) = -nI (2 * k) := by
  unfold enc
  rw [if_pos h]
theorem enc_A {b k : Nat} (h : b = AL) : enc (b, k) = -nI (2 * k + 1) := by
  unfold enc
  subst h
  rw [if_neg (show ¬ AL = 0 by decide), if_pos rfl]
theorem fill_0 (k : Nat) : (-2) * nI k = -nI (2 * k) := by
  rw [← pk_mul 2 k]
  show -(2 : Int32) * nI k = _
  rw [Int32.neg_mul]
  rfl
theorem fill_A (k : Nat) : (-2) * nI k - nI 1 = -nI (2 * k + 1) := by
  rw [fill_0, nI_succ (2 * k)]
  show -nI (2 * k) - 1 = _
  generalize nI (2 * k) = x
  grind
theorem enc_fill {b k : Nat} (h : b = 0 ∨ b = AL) (hk : 1 ≤ k) (hk2 : k < 2 ^ 29) : enc (b, k) < 0 := by
  rcases h with h | h
  · rw [enc_0 h]; exact neg_lt (by omega) (by omega)
  · rw [enc_A h]; exact neg_lt (by omega) (by omega)
theorem enc_pos {b k : Nat} (h : ¬ (b = 0 ∨ b = AL)) (hb : b ≤ AL) : ¬ enc (b, k) < 0 := by
  rw [enc_lit h]
  have : b ≤ 2147483647 := hb
  exact nI_pos (by omega)
theorem enc_ne0 {w : Nat × Nat} (h : okw w) (hk2 : w.2 < 2 ^ 29) : ¬ enc w = 0 := by
  obtain ⟨b, k⟩ := w
  obtain ⟨h1, h2, h3⟩ := h
  by_cases hf : b = 0 ∨ b = AL
  · have := enc_fill hf h1 hk2
    intro e
    rw [e] at this
    exact absurd this (by decide)
  · rw [enc_lit hf]
    have h4 : b ≤ 2147483647 := h2
    exact nI_ne0 (Nat.pos_of_ne_zero fun q => hf (Or.inl q)) (by omega)
/-- joined bits -/
def jb (op a b : Nat) : Nat := match op with
  | 0 => a &&& b
  | 1 => a ||| b
  | 2 => a &&& (b ^^^ AL)
  | _ => a ^^^ b
theorem jb_not {a b : Nat} (ha : a ≤ AL) : nI a &&& (nI b ^^^ (-1)) = nI (a &&& (b ^^^ AL)) := by
  rw [show (-1 : Int32) = nI 4294967295 by decide, nx_xor, nx_and]
  congr 1
  apply Nat.eq_of_testBit_eq
  intro i
  rw [Nat.testBit_and, Nat.testBit_and, Nat.testBit_xor, Nat.testBit_xor, AL_bit, show (4294967295 : Nat) = 2 ^ 32 - 1 from rfl, Nat.testBit_two_pow_sub_one]
  by_cases hi : i < 31
  · have h2 : i < 32 := by omega
    simp [hi, h2]
  · have : a.testBit i = false := by
      apply Nat.testBit_lt_two_pow
      have h1 : 2 ^ 31 ≤ 2 ^ i := Nat.pow_le_pow_right (by omega) (by omega)
      have h2 : a ≤ 2147483647 := ha
      omega
    simp [this]
def jbb (op : Nat) (x y : Bool) : Bool := match op with
  | 0 => x && y
  | 1 => x || y
  | 2 => x && !y
  | _ => x ^^ y
theorem jb_bit {op a b i : Nat} (hi : i < 31) : (jb op a b).testBit i = jbb op (a.testBit i) (b.testBit i) := by
  unfold jb jbb
  split <;> simp [Nat.testBit_and, Nat.testBit_or, Nat.testBit_xor, AL_bit, hi]
theorem jb_le {op a b : Nat} (ha : a ≤ AL) (hb : b ≤ AL) : jb op a b ≤ AL := by
  have ha' : a < 2 ^ 31 := by have : a ≤ 2147483647 := ha; omega
  have hb' : b < 2 ^ 31 := by have : b ≤ 2147483647 := hb; omega
  have : jb op a b < 2 ^ 31 := by
    unfold jb
    split
    · exact Nat.and_lt_two_pow _ hb'
    · exact Nat.or_lt_two_pow ha' hb'
    · exact Nat.and_lt_two_pow _ (Nat.xor_lt_two_pow hb' (by decide))
    · exact Nat.xor_lt_two_pow ha' hb'
  show _ ≤ 2147483647
  omega
theorem jb_gb (op : Nat) (f1 f2 : Nat → Bool) (g : Nat) (ho : op ≤ 3) : jb op (gb f1 g) (gb f2 g) = gb (fun r => jbb op (f1 r) (f2 r)) g := by
  apply Nat.eq_of_testBit_eq
  intro i
  by_cases hi : i < 31
  · rw [jb_bit hi, gb_bit, gb_bit, gb_bit]
    simp [hi]
  · have h1 : ∀ x, x ≤ AL → x.testBit i = false := fun x hx => by
      apply Nat.testBit_lt_two_pow
      have h1 : 2 ^ 31 ≤ 2 ^ i := Nat.pow_le_pow_right (by omega) (by omega)
      have h2 : x ≤ 2147483647 := hx
      omega
    rw [h1 _ (jb_le (gb_le _ _) (gb_le _ _)), h1 _ (gb_le _ _)]
