/-! rows counted; the first row from one on -/
def cn (f : Nat → Bool) : Nat → Nat
  | 0 => 0
  | n + 1 => cn f n + (f n).toNat
def sm : List (Nat × Nat) → Nat
  | [] => 0
  | w :: ws => pcn 31 w.1 * w.2 + sm ws
def sg : List Nat → Nat
  | [] => 0
  | b :: bs => pcn 31 b + sg bs
theorem sm_snoc (w : Nat × Nat) : ∀ ws, sm (ws ++ [w]) = sm ws + pcn 31 w.1 * w.2
  | [] => by simp [sm]
  | x :: ws => by
    show pcn 31 x.1 * x.2 + sm (ws ++ [w]) = pcn 31 x.1 * x.2 + sm ws + _
    rw [sm_snoc w ws]
    omega
theorem sg_app (b : List Nat) : ∀ a, sg (a ++ b) = sg a + sg b
  | [] => by simp [sg]
  | x :: a => by
    show pcn 31 x + sg (a ++ b) = pcn 31 x + sg a + sg b
    rw [sg_app b a]
    omega
theorem sg_rep (b : Nat) : ∀ k, sg (List.replicate k b) = pcn 31 b * k
  | 0 => rfl
  | k + 1 => by
    rw [List.replicate_succ]
    show pcn 31 b + sg (List.replicate k b) = _
    rw [sg_rep b k, Nat.mul_succ]
    omega
theorem sm_ex : ∀ ws, sm ws = sg (ex ws)
  | [] => rfl
  | w :: ws => by
    rw [ex_cons, sg_app, sg_rep, ← sm_ex ws]
    rfl
theorem cn_grp (f : Nat → Bool) (g : Nat) : ∀ j, j ≤ 31 → cn f (31 * g + j) = cn f (31 * g) + pcn j (gb f g)
  | 0, _ => by simp [pcn]
  | j + 1, h => by
    show cn f (31 * g + j) + (f (31 * g + j)).toNat = cn f (31 * g) + (pcn j (gb f g) + ((gb f g).testBit j).toNat)
    have hj : j < 31 := by omega
    rw [cn_grp f g j (by omega), gb_bit]
    simp [hj]
    omega
theorem cn_PG (f : Nat → Bool) : ∀ k, sg (PG f k) = cn f (31 * k)
  | 0 => rfl
  | k + 1 => by
    rw [PG_succ, sg_app, cn_PG f k, Nat.mul_succ, cn_grp f k 31 (Nat.le_refl _)]
    rfl
theorem cn_sup {f : Nat → Bool} {n : Nat} (h : sup n f) : ∀ d, cn f (n + d) = cn f n
  | 0 => rfl
  | d + 1 => by
    show cn f (n + d) + (f (n + d)).toNat = _
    rw [cn_sup h d, h (n + d) (by omega)]
    rfl
theorem Rep.count {n : Nat} {f : Nat → Bool} {ws : List (Nat × Nat)} (h : Rep n f ws) (hs : sup n f) : sm ws = cn f n := by
  rw [sm_ex, h.2, GL_PG, cn_PG]
  obtain ⟨d, hd⟩ : ∃ d, 31 * ((n + 30) / 31) = n + d := ⟨31 * ((n + 30) / 31) - n, by omega⟩
  rw [hd, cn_sup hs]
set_option maxHeartbeats 4000000 in
theorem c_S_rowsOf {l : Launch} {D : va_G} {cA : ClassId} {h h1 h2 cap mx : Nat} {L Bd : Nat → Int32} {k : Nat} {pre : List (List Int32)} {fs : List (Nat × Nat)} (hH : Hs cap mx L Bd (pre ++ [fs.map enc])) (hk : pre.length + 1 = k) (hok : ∀ w ∈ fs, okw w ∧ w.2 < 2 ^ 24)  : CtI l D cA y_S_rowsOf b_S_rowsOf 5 (some .int) ({ frames := 2, cells := 0, slots := 0, locals := 42 } : Room) [.ref h, .int (nI (pre.length))] (shW cA h h1 h2 cap mx L Bd k) (fun r (_ : Unit) => r = nI (sm fs)) (fun _ => (shW cA h h1 h2 cap mx L Bd k)) := by
  subst hk
  refine CtI.start (lv0 := [(0, .ref h), (1, .int (nI (pre.length)))]) (by decide) rfl (Nat.le_of_ble_eq_true rfl) ?_
  intro p_ e_ s_ m_ args_ below_ meth_ c_ A_ C hr hin
  have hm := hH.in
  rw [List.length_map] at hm
  have LP : ∀ (d i : Nat), i + d = fs.length → X p_ l e_ ({ frames := 2, cells := 0, slots := 0, locals := 42 } : Room) s_ m_ args_ below_ meth_ c_ D A_ 5 0 0 (MQ below_ (va_Qi (fun r (_ : Unit) => r = nI (sm fs)) (Bw D A_ (fun _ => (shW cA h h1 h2 cap mx L Bd (pre.length + 1)))) A_) args_ s_ 0 0 A_) [(h, .inr (0, [.ref h1, .ref h2, .int (nI (pre.length + 1))])), (h1, .inl (cA, cap, .inl (L))), (h2, .inl (cA, mx, .inl (Bd)))] 17 [(4, .int (nI (tot pre + i))), (3, .int (nI (tot pre + fs.length))), (2, .int (nI (sm (fs.take i)))), (0, .ref h), (1, .int (nI (pre.length)))] [] := by
    intro d
    induction d with
    | zero =>
      intro i hi
      refine x_iload C d_S_rowsOf_17 rfl ?_
      refine x_iload_n C d_S_rowsOf_19 rfl rfl ?_
      refine x_icmp_geN (tgt := 56) C d_S_rowsOf_20 (by decide) (by omega) (by omega) (fun c20 => ?_) (fun c20 => ?_)
      · refine x_iload_n C d_S_rowsOf_56 rfl rfl ?_
        exact x_iret C hr d_S_rowsOf_57 () rfl (by rw [List.take_of_length_le (by omega)])
      · exact absurd c20 (by omega)
    | succ d ih =>
      intro i hi
      obtain ⟨w, hw⟩ : ∃ w, fs[i]? = some w := ⟨fs[i], List.getElem?_eq_getElem (by omega)⟩
      have ow := hok w (List.mem_of_getElem? hw)
      refine x_iload C d_S_rowsOf_17 rfl ?_
      refine x_iload_n C d_S_rowsOf_19 rfl rfl ?_
      refine x_icmp_geN (tgt := 56) C d_S_rowsOf_20 (by decide) (by omega) (by omega) (fun c20 => ?_) (fun c20 => ?_)
      · exact absurd c20 (by omega)
      · refine x_iload_n C d_S_rowsOf_23 rfl rfl ?_
        refine x_aload_n C d_S_rowsOf_24 rfl rfl ?_
        refine x_get C d_S_rowsOf_25 0 rfl rfl i_S 0 (by decide) lk_S_15 rfl rfl ?_
        refine x_iload C d_S_rowsOf_28 rfl ?_
        refine x_iald C d_S_rowsOf_30 1 rfl (by omega) (by omega) ?_
        refine x_top (y := (enc w)) (nt_word hH hw) ?_
        refine x_callSIN (wr := [(h, .inr (0, [.ref h1, .ref h2, .int (nI (pre.length + 1))])), (h1, .inl (cA, cap, .inl (L))), (h2, .inl (cA, mx, .inl (Bd)))]) (rest := [.int (nI (sm (fs.take i)))]) C (c_B_bitsOf ow.1 (by omega)) d_S_rowsOf_31 cd_B_bitsOf lk_S_38 dd_B_bitsOf rfl ⟨Nat.le_of_ble_eq_true rfl, Nat.le_of_ble_eq_true rfl⟩ ⟨Nat.le_refl _, Nat.le_refl _⟩ [] [0, 1, 2] rfl rfl (by decide) (by decide) (by decide) rfl (Nat.le_of_ble_eq_true rfl) ?_
        intro r_ u_ hp_
        obtain rfl := hp_
        refine x_callSI (wr := [(h, .inr (0, [.ref h1, .ref h2, .int (nI (pre.length + 1))])), (h1, .inl (cA, cap, .inl (L))), (h2, .inl (cA, mx, .inl (Bd)))]) (rest := [.int (nI (sm (fs.take i)))]) C (c_I_bitCount (b := w.1) (by have h9 : w.1 ≤ 2147483647 := ow.1.2.1; omega)) d_S_rowsOf_34 cd_I_bitCount lk_S_41 dd_I_bitCount rfl ⟨Nat.le_of_ble_eq_true rfl, Nat.le_of_ble_eq_true rfl⟩ ⟨Nat.le_refl _, Nat.le_refl _⟩ [] [0, 1, 2] rfl rfl (by decide) (by decide) (by decide) rfl (Nat.le_of_ble_eq_true rfl) ?_
        intro r_ u_ hp_
        obtain rfl := hp_
        refine x_aload_n C d_S_rowsOf_37 rfl rfl ?_
        refine x_get C d_S_rowsOf_38 0 rfl rfl i_S 0 (by decide) lk_S_15 rfl rfl ?_
        refine x_iload C d_S_rowsOf_41 rfl ?_
        refine x_iald C d_S_rowsOf_43 1 rfl (by omega) (by omega) ?_
        refine x_top (y := (enc w)) (nt_word hH hw) ?_
        refine x_callSIN (wr := [(h, .inr (0, [.ref h1, .ref h2, .int (nI (pre.length + 1))])), (h1, .inl (cA, cap, .inl (L))), (h2, .inl (cA, mx, .inl (Bd)))]) (rest := [.int (nI (pcn 31 w.1)), .int (nI (sm (fs.take i)))]) C (c_B_groupsOf ow.1 (by omega)) d_S_rowsOf_44 cd_B_groupsOf lk_S_46 dd_B_groupsOf rfl ⟨Nat.le_of_ble_eq_true rfl, Nat.le_of_ble_eq_true rfl⟩ ⟨Nat.le_refl _, Nat.le_refl _⟩ [] [0, 1, 2] rfl rfl (by decide) (by decide) (by decide) rfl (Nat.le_of_ble_eq_true rfl) ?_
        intro r_ u_ hp_
        obtain rfl := hp_
        refine x_imulN C d_S_rowsOf_47  ?_
        refine x_iaddN C d_S_rowsOf_48  ?_
        refine x_top (y := (nI (sm (fs.take (i + 1))))) (by rw [take_snoc hw, sm_snoc]) ?_
        refine x_istore_n (lv' := [(2, .int (nI (sm (fs.take (i + 1))))), (4, .int (nI (tot pre + i))), (3, .int (nI (tot pre + fs.length))), (0, .ref h), (1, .int (nI (pre.length)))]) C d_S_rowsOf_49 rfl (by decide) rfl ?_
        refine x_iincN (lv' := [(4, .int (nI (tot pre + i + 1))), (2, .int (nI (sm (fs.take (i + 1))))), (3, .int (nI (tot pre + fs.length))), (0, .ref h), (1, .int (nI (pre.length)))]) C d_S_rowsOf_50 rfl (by decide) rfl ?_
        refine x_goto (tgt := 17) C d_S_rowsOf_53 (by decide) ?_
        refine x_lv (lv' := [(4, .int (nI (tot pre + i + 1))), (3, .int (nI (tot pre + fs.length))), (2, .int (nI (sm (fs.take (i + 1))))), (0, .ref h), (1, .int (nI (pre.length)))]) (Or.inr (List.forall_mem_cons.mpr ⟨rfl, List.forall_mem_cons.mpr ⟨rfl, List.forall_mem_cons.mpr ⟨rfl, List.forall_mem_cons.mpr ⟨rfl, List.forall_mem_cons.mpr ⟨rfl, fun _ h9 => absurd h9 List.not_mem_nil⟩⟩⟩⟩⟩)) ?_
        exact ih (i + 1) (by omega)
  refine x_iconst (v := (nI (0))) C d_S_rowsOf_0 (by decide) ?_
  refine x_istore_n (lv' := [(2, .int (nI 0)), (0, .ref h), (1, .int (nI (pre.length)))]) C d_S_rowsOf_1 rfl (by decide) rfl ?_
  refine x_aload_n C d_S_rowsOf_2 rfl rfl ?_
  refine x_iload_n C d_S_rowsOf_3 rfl rfl ?_
  refine x_iconst (v := (nI (1))) C d_S_rowsOf_4 (by decide) ?_
  refine x_iaddN C d_S_rowsOf_5  ?_
  refine x_callVI (wr := []) (rest := []) C (c_S_startOf (i := pre.length + 1) hH (by simp) (by simp)) d_S_rowsOf_6 cd_S_startOf lk_S_31 dd_S_startOf rfl ⟨Nat.le_of_ble_eq_true rfl, Nat.le_of_ble_eq_true rfl⟩ ⟨Nat.le_refl _, Nat.le_refl _⟩ 0 0 rfl rfl [0, 1, 2] [] rfl rfl (by decide) (by decide) (by decide) rfl (Nat.le_of_ble_eq_true rfl) ?_
  intro r_ u_ hp_
  obtain rfl := hp_
  refine x_top (y := (nI (tot pre + fs.length))) (by rw [off_snoc, List.length_map]) ?_
  refine x_istore_n (lv' := [(3, .int (nI (tot pre + fs.length))), (2, .int (nI 0)), (0, .ref h), (1, .int (nI (pre.length)))]) C d_S_rowsOf_9 rfl (by decide) rfl ?_
  refine x_aload_n C d_S_rowsOf_10 rfl rfl ?_
  refine x_iload_n C d_S_rowsOf_11 rfl rfl ?_
  refine x_callVI (wr := []) (rest := []) C (c_S_startOf (i := pre.length) hH (by simp) (by simp)) d_S_rowsOf_12 cd_S_startOf lk_S_31 dd_S_startOf rfl ⟨Nat.le_of_ble_eq_true rfl, Nat.le_of_ble_eq_true rfl⟩ ⟨Nat.le_refl _, Nat.le_refl _⟩ 0 0 rfl rfl [0, 1, 2] [] rfl rfl (by decide) (by decide) (by decide) rfl (Nat.le_of_ble_eq_true rfl) ?_
  intro r_ u_ hp_
  obtain rfl := hp_
  refine x_top (y := (nI (tot pre))) (by rw [off_app (Nat.le_refl _), off_len]) ?_
  refine x_istore (lv' := [(4, .int (nI (tot pre))), (3, .int (nI (tot pre + fs.length))), (2, .int (nI 0)), (0, .ref h), (1, .int (nI (pre.length)))]) C d_S_rowsOf_15 (by decide) rfl ?_
  refine x_lv (lv' := [(4, .int (nI (tot pre))), (3, .int (nI (tot pre + fs.length))), (2, .int (nI 0)), (0, .ref h), (1, .int (nI (pre.length)))]) (Or.inr (List.forall_mem_cons.mpr ⟨rfl, List.forall_mem_cons.mpr ⟨rfl, List.forall_mem_cons.mpr ⟨rfl, List.forall_mem_cons.mpr ⟨rfl, List.forall_mem_cons.mpr ⟨rfl, fun _ h9 => absurd h9 List.not_mem_nil⟩⟩⟩⟩⟩)) ?_
  exact LP fs.length 0 (by omega)
theorem and_zero_l (y : Int32) : nI 0 &&& y = nI 0 := Int32.zero_and
theorem mx_sub {a b : Nat} (ha : a < 2 ^ 30) (hb : b < 2 ^ 30) : (if nI a - nI b < nI 0 then nI 0 else nI a - nI b) = nI (a - b) := by
  by_cases h : a < b
  · rw [if_pos (show nI a - nI b < nI 0 from pk_sneg hb h), Nat.sub_eq_zero_of_le (by omega)]
  · rw [if_neg, pk_sub (by omega)]
    rw [pk_sub (by omega)]
    exact nI_pos (by omega)
set_option maxHeartbeats 4000000 in
theorem c_B_firstBits_any {l : Launch} {D : va_G} {cA : ClassId} {n : Nat} : CtI l D cA y_B_firstBits b_B_firstBits 1 (some .int) ({ frames := 0, cells := 0, slots := 0, locals := 0 } : Room) [.int (nI n)] [] (fun r (_ : Unit) => True) (fun _ => []) := by
  refine CtI.start (lv0 := [(0, .int (nI n))]) (by decide) rfl (Nat.le_of_ble_eq_true rfl) ?_
  intro p_ e_ s_ m_ args_ below_ meth_ c_ A_ C hr hin
  refine x_iconst (v := (nI (1))) C d_B_firstBits_0 (by decide) ?_
  refine x_iload_n C d_B_firstBits_1 rfl rfl ?_
  refine x_ishl C d_B_firstBits_2 ?_
  refine x_iconst (v := (nI (1))) C d_B_firstBits_3 (by decide) ?_
  refine x_isub C d_B_firstBits_4  ?_
  exact x_iret C hr d_B_firstBits_5 () rfl (trivial)
def fiw (w : Nat × Nat) (sk : Nat) (r : Int32) : Prop := (∃ x, sk ≤ x ∧ x < 31 * w.2 ∧ w.1.testBit (x % 31) = true ∧ (∀ y, sk ≤ y → y < x → w.1.testBit (y % 31) = false) ∧ r = nI x) ∨ ((∀ y, sk ≤ y → y < 31 * w.2 → w.1.testBit (y % 31) = false) ∧ r = -1)
theorem fiw_A {w : Nat × Nat} {sk : Nat} (h : w.1 = 2147483647) (hsk : sk < 31 * w.2) : fiw w sk (nI sk) := by
  refine Or.inl ⟨sk, Nat.le_refl _, hsk, ?_, fun y h1 h2 => by omega, rfl⟩
  rw [h, show (2147483647 : Nat) = AL from rfl, AL_bit]
  have : sk % 31 < 31 := by omega
  simp [this]
theorem fiw_0 {w : Nat × Nat} {sk : Nat} (h : w.1 = 0) : fiw w sk (-1) := Or.inr ⟨fun y _ _ => by rw [h]; simp, rfl⟩
theorem fiw_bit {b sk y : Nat} (hy : y < 31) : (b &&& ((2 ^ sk - 1) ^^^ AL)).testBit y = (b.testBit y && !decide (y < sk)) := by
  rw [Nat.testBit_and, Nat.testBit_xor, Nat.testBit_two_pow_sub_one, AL_bit]
  simp [hy]
theorem fiw_no {w : Nat × Nat} {sk : Nat} (h2 : w.2 = 1) (h : w.1 &&& ((2 ^ sk - 1) ^^^ AL) = 0) : fiw w sk (-1) := by
  refine Or.inr ⟨fun y h1 h3 => ?_, rfl⟩
  have h4 : y < 31 := by omega
  have h5 := fiw_bit (b := w.1) (sk := sk) h4
  rw [h] at h5
  have h6 : ¬ y < sk := by omega
  rw [Nat.mod_eq_of_lt h4]
  simpa [h6] using h5.symm
theorem fiw_yes {w : Nat × Nat} {sk t q : Nat} (h2 : w.2 = 1) (ht : t < 31) (h : w.1 &&& ((2 ^ sk - 1) ^^^ AL) = 2 ^ t * (2 * q + 1)) : fiw w sk (nI t) := by
  have h5 := fiw_bit (b := w.1) (sk := sk) ht
  rw [h, tz_at] at h5
  have h6 : w.1.testBit t = true ∧ ¬ t < sk := by
    have := h5.symm
    simpa using this
  refine Or.inl ⟨t, by omega, by omega, by rw [Nat.mod_eq_of_lt ht]; exact h6.1, fun y h7 h8 => ?_, rfl⟩
  have h9 : y < 31 := by omega
  have h10 := fiw_bit (b := w.1) (sk := sk) h9
  rw [h, tz_lo t q y h8] at h10
  have h11 : ¬ y < sk := by omega
  rw [Nat.mod_eq_of_lt h9]
  simpa [h11] using h10.symm
set_option maxHeartbeats 4000000 in
theorem c_S_firstInWord {l : Launch} {D : va_G} {cA : ClassId} {w : Nat × Nat} {sk : Nat} (hw : okw w) (hk : w.2 < 2 ^ 24) (hsk : sk < 31 * w.2) : CtI l D cA y_S_firstInWord b_S_firstInWord 4 (some .int) ({ frames := 1, cells := 0, slots := 0, locals := 21 } : Room) [.int (enc w), .int (nI sk)] [] (fun r (_ : Unit) => fiw w sk r) (fun _ => []) := by
  refine CtI.start (lv0 := [(0, .int (enc w)), (1, .int (nI sk))]) (by decide) rfl (Nat.le_of_ble_eq_true rfl) ?_
  intro p_ e_ s_ m_ args_ below_ meth_ c_ A_ C hr hin
  have hb : w.1 ≤ 2147483647 := hw.2.1
  refine x_iload_n C d_S_firstInWord_0 rfl rfl ?_
  refine x_callSIN (wr := []) (rest := []) C (c_B_bitsOf hw (by omega)) d_S_firstInWord_1 cd_B_bitsOf lk_S_38 dd_B_bitsOf rfl ⟨Nat.le_of_ble_eq_true rfl, Nat.le_of_ble_eq_true rfl⟩ ⟨Nat.le_refl _, Nat.le_refl _⟩ [] [] rfl rfl (by decide) (by decide) (by decide) rfl (Nat.le_of_ble_eq_true rfl) ?_
  intro r_ u_ hp_
  obtain rfl := hp_
  refine x_istore_n (lv' := [(2, .int (nI (w.1))), (0, .int (enc w)), (1, .int (nI sk))]) C d_S_firstInWord_4 rfl (by decide) rfl ?_
  refine x_iload_n C d_S_firstInWord_5 rfl rfl ?_
  refine x_ldc C d_S_firstInWord_6 lk_S_52 ?_
  refine x_top (y := nI 2147483647) (by decide) ?_
  refine x_icmp_neN (tgt := 13) C d_S_firstInWord_8 (by decide) (by omega) (by omega) (fun c8 => ?_) (fun c8 => ?_)
  · by_cases h0 : w.1 = 0
    · refine x_iload_n C d_S_firstInWord_13 rfl rfl ?_
      refine x_iload_n C d_S_firstInWord_14 rfl rfl ?_
      refine x_callSIN (wr := []) (rest := [.int (nI (w.1))]) C (c_B_firstBits_any (n := sk)) d_S_firstInWord_15 cd_B_firstBits lk_S_53 dd_B_firstBits rfl ⟨Nat.le_of_ble_eq_true rfl, Nat.le_of_ble_eq_true rfl⟩ ⟨Nat.le_refl _, Nat.le_refl _⟩ [] [] rfl rfl (by decide) (by decide) (by decide) rfl (Nat.le_of_ble_eq_true rfl) ?_
      intro r_ u_ hp_
      refine x_iconst (v := ((-1))) C d_S_firstInWord_18 (by decide) ?_
      refine x_ixor C d_S_firstInWord_19 ?_
      refine x_iand C d_S_firstInWord_20 ?_
      refine x_top (y := (nI (0))) (by rw [h0, and_zero_l]) ?_
      refine x_istore_n (lv' := [(3, .int (nI 0)), (2, .int (nI (w.1))), (0, .int (enc w)), (1, .int (nI sk))]) C d_S_firstInWord_21 rfl (by decide) rfl ?_
      refine x_iload_n C d_S_firstInWord_22 rfl rfl ?_
      refine x_if_neN (tgt := 30) C d_S_firstInWord_23 (by decide) (by omega) (fun c23 => ?_) (fun c23 => ?_)
      · exact absurd c23 (by omega)
      · refine x_iconst (v := ((-1))) C d_S_firstInWord_26 (by decide) ?_
        refine x_goto (tgt := 34) C d_S_firstInWord_27 (by decide) ?_
        exact x_iret C hr d_S_firstInWord_34 () rfl (fiw_0 h0)
    · have h1 : w.2 = 1 := by
        rcases hw.2.2 with q | q | q
        · exact absurd q h0
        · exact absurd q c8
        · exact q
      have hlt : w.1 &&& ((2 ^ sk - 1) ^^^ AL) ≤ w.1 := Nat.and_le_left
      refine x_iload_n C d_S_firstInWord_13 rfl rfl ?_
      refine x_iload_n C d_S_firstInWord_14 rfl rfl ?_
      refine x_callSIN (wr := []) (rest := [.int (nI (w.1))]) C (c_B_firstBits (n := sk) (by omega)) d_S_firstInWord_15 cd_B_firstBits lk_S_53 dd_B_firstBits rfl ⟨Nat.le_of_ble_eq_true rfl, Nat.le_of_ble_eq_true rfl⟩ ⟨Nat.le_refl _, Nat.le_refl _⟩ [] [] rfl rfl (by decide) (by decide) (by decide) rfl (Nat.le_of_ble_eq_true rfl) ?_
      intro r_ u_ hp_
      obtain rfl := hp_
      refine x_iconst (v := ((-1))) C d_S_firstInWord_18 (by decide) ?_
      refine x_ixor C d_S_firstInWord_19 ?_
      refine x_iand C d_S_firstInWord_20 ?_
      refine x_top (y := (nI (w.1 &&& ((2 ^ sk - 1) ^^^ AL)))) (jb_not hw.2.1) ?_
      refine x_istore_n (lv' := [(3, .int (nI (w.1 &&& ((2 ^ sk - 1) ^^^ AL)))), (2, .int (nI (w.1))), (0, .int (enc w)), (1, .int (nI sk))]) C d_S_firstInWord_21 rfl (by decide) rfl ?_
      refine x_iload_n C d_S_firstInWord_22 rfl rfl ?_
      refine x_if_neN (tgt := 30) C d_S_firstInWord_23 (by decide) (by omega) (fun c23 => ?_) (fun c23 => ?_)
      · obtain ⟨t, q, hx⟩ := odd_shift _ c23
        refine x_iload_n C d_S_firstInWord_30 rfl rfl ?_
        refine x_callSI (wr := []) (rest := []) C (c_I_ntz hx (by omega)) d_S_firstInWord_31 cd_I_numberOfTrailingZeros lk_S_56 dd_I_numberOfTrailingZeros rfl ⟨Nat.le_of_ble_eq_true rfl, Nat.le_of_ble_eq_true rfl⟩ ⟨Nat.le_refl _, Nat.le_refl _⟩ [] [] rfl rfl (by decide) (by decide) (by decide) rfl (Nat.le_of_ble_eq_true rfl) ?_
        intro r_ u_ hp_
        obtain rfl := hp_
        exact x_iret C hr d_S_firstInWord_34 () rfl (fiw_yes h1 (tz_small (q := q) (by omega)) hx)
      · refine x_iconst (v := ((-1))) C d_S_firstInWord_26 (by decide) ?_
        refine x_goto (tgt := 34) C d_S_firstInWord_27 (by decide) ?_
        exact x_iret C hr d_S_firstInWord_34 () rfl (fiw_no h1 c23)
  · refine x_iload_n C d_S_firstInWord_11 rfl rfl ?_
    exact x_iret C hr d_S_firstInWord_12 () rfl (fiw_A c8 hsk)
def fst (f : Nat → Bool) (row : Nat) (r : Int32) : Prop := (∃ x, row ≤ x ∧ f x = true ∧ (∀ y, row ≤ y → y < x → f y = false) ∧ r = nI x) ∨ ((∀ y, row ≤ y → f y = false) ∧ r = -1)
theorem ff_word {n : Nat} {f : Nat → Bool} {fs : List (Nat × Nat)} (hR : Rep n f fs) {i : Nat} {w : Nat × Nat} (hw : fs[i]? = some w) {x : Nat} (hx : x < 31 * w.2) : f (31 * (ex (fs.take i)).length + x) = w.1.testBit (x % 31) := by
  have hi : i < fs.length := (List.getElem?_eq_some_iff.mp hw).1
  have e1 : fs = fs.take i ++ (w :: fs.drop (i + 1)) := by
    conv => lhs; rw [← List.take_append_drop i fs]
    rw [List.drop_eq_getElem_cons hi]
    congr 2
    have := (List.getElem?_eq_some_iff.mp hw).2
    exact this
  have e2 : (ex fs)[(ex (fs.take i)).length + x / 31]? = some w.1 := by
    have e0 : ex fs = ex (fs.take i) ++ (List.replicate w.2 w.1 ++ ex (fs.drop (i + 1))) := by
      conv => lhs; rw [e1, ex_app, ex_cons]
    rw [e0, List.getElem?_append_right (by omega), Nat.add_sub_cancel_left, List.getElem?_append_left (by rw [List.length_replicate]; omega), List.getElem?_replicate, if_pos (by omega)]
  rw [hR.2, GL_PG, PG, List.getElem?_map] at e2
  cases hr : (List.range ((n + 30) / 31))[(ex (fs.take i)).length + x / 31]? with
  | none => rw [hr] at e2; cases e2
  | some v =>
    rw [hr] at e2
    have hv := List.getElem?_eq_some_iff.mp hr
    obtain ⟨hv1, hv2⟩ := hv
    rw [List.getElem_range] at hv2
    subst hv2
    have e3 : gb f ((ex (fs.take i)).length + x / 31) = w.1 := Option.some.inj e2
    have h31 : x % 31 < 31 := by omega
    rw [← e3, gb_bit, show 31 * ((ex (fs.take i)).length + x / 31) + x % 31 = 31 * (ex (fs.take i)).length + x by omega]
    simp [h31]
theorem ex_take_le {fs : List (Nat × Nat)} (i : Nat) : (ex (fs.take i)).length ≤ (ex fs).length := by
  conv => rhs; rw [← List.take_append_drop i fs, ex_app, List.length_append]
  omega
theorem ex_take_succ {fs : List (Nat × Nat)} {i : Nat} {w : Nat × Nat} (hw : fs[i]? = some w) : (ex (fs.take (i + 1))).length = (ex (fs.take i)).length + w.2 := by
  rw [take_snoc hw, ex_app, List.length_append, ex_one, List.length_replicate]
theorem ff_go {n row : Nat} {f : Nat → Bool} {fs : List (Nat × Nat)} (hR : Rep n f fs) {i : Nat} {w : Nat × Nat} (hw : fs[i]? = some w) (h : ∀ y, row ≤ y → y < 31 * (ex (fs.take i)).length → f y = false) (hn : ∀ y, row - 31 * (ex (fs.take i)).length ≤ y → y < 31 * w.2 → w.1.testBit (y % 31) = false) : ∀ y, row ≤ y → y < 31 * (ex (fs.take (i + 1))).length → f y = false := by
  intro y h1 h2
  rw [ex_take_succ hw] at h2
  by_cases h3 : y < 31 * (ex (fs.take i)).length
  · exact h y h1 h3
  · obtain ⟨x, rfl⟩ : ∃ x, y = 31 * (ex (fs.take i)).length + x := ⟨y - 31 * (ex (fs.take i)).length, by omega⟩
    rw [ff_word hR hw (by omega)]
    exact hn x (by omega) (by omega)
theorem ff_found {n row : Nat} {f : Nat → Bool} {fs : List (Nat × Nat)} (hR : Rep n f fs) {i : Nat} {w : Nat × Nat} (hw : fs[i]? = some w) (h : ∀ y, row ≤ y → y < 31 * (ex (fs.take i)).length → f y = false) {x : Nat} (h1 : row - 31 * (ex (fs.take i)).length ≤ x) (h2 : x < 31 * w.2) (h3 : w.1.testBit (x % 31) = true) (h4 : ∀ y, row - 31 * (ex (fs.take i)).length ≤ y → y < x → w.1.testBit (y % 31) = false) : fst f row (nI (31 * (ex (fs.take i)).length + x)) := by
  refine Or.inl ⟨_, by omega, by rw [ff_word hR hw h2]; exact h3, fun y h5 h6 => ?_, rfl⟩
  by_cases h7 : y < 31 * (ex (fs.take i)).length
  · exact h y h5 h7
  · obtain ⟨z, rfl⟩ : ∃ z, y = 31 * (ex (fs.take i)).length + z := ⟨y - 31 * (ex (fs.take i)).length, by omega⟩
    rw [ff_word hR hw (by omega)]
    exact h4 z (by omega) (by omega)
set_option maxHeartbeats 4000000 in
theorem c_S_firstFrom {l : Launch} {D : va_G} {cA : ClassId} {h h1 h2 cap mx : Nat} {L Bd : Nat → Int32} {k : Nat} {pre : List (List Int32)} {fs : List (Nat × Nat)} {f : Nat → Bool} {n row : Nat} (hH : Hs cap mx L Bd (pre ++ [fs.map enc])) (hk : pre.length + 1 = k) (hR : Rep n f fs) (hs : sup n f) (hrow : row ≤ n) (hn : n ≤ 1000000)  : CtI l D cA y_S_firstFrom b_S_firstFrom 8 (some .int) ({ frames := 2, cells := 0, slots := 0, locals := 44 } : Room) [.ref h, .int (nI (pre.length)), .int (nI row)] (shW cA h h1 h2 cap mx L Bd k) (fun r (_ : Unit) => fst f row r) (fun _ => (shW cA h h1 h2 cap mx L Bd k)) := by
  subst hk
  refine CtI.start (lv0 := [(0, .ref h), (1, .int (nI (pre.length))), (2, .int (nI row))]) (by decide) rfl (Nat.le_of_ble_eq_true rfl) ?_
  intro p_ e_ s_ m_ args_ below_ meth_ c_ A_ C hr hin
  have hm := hH.in
  rw [List.length_map] at hm
  have hx : (ex fs).length = (n + 30) / 31 := by rw [hR.2, GL_len]
  have LP : ∀ (d i : Nat), i + d = fs.length → (∀ y, row ≤ y → y < 31 * (ex (fs.take i)).length → f y = false) → X p_ l e_ ({ frames := 2, cells := 0, slots := 0, locals := 44 } : Room) s_ m_ args_ below_ meth_ c_ D A_ 8 0 0 (MQ below_ (va_Qi (fun r (_ : Unit) => fst f row r) (Bw D A_ (fun _ => (shW cA h h1 h2 cap mx L Bd (pre.length + 1)))) A_) args_ s_ 0 0 A_) [(h, .inr (0, [.ref h1, .ref h2, .int (nI (pre.length + 1))])), (h1, .inl (cA, cap, .inl (L))), (h2, .inl (cA, mx, .inl (Bd)))] 18 [(5, .int (nI (tot pre + i))), (4, .int (nI (31 * (ex (fs.take i)).length))), (3, .int (nI (tot pre + fs.length))), (0, .ref h), (1, .int (nI (pre.length))), (2, .int (nI row))] [] := by
    intro d
    induction d with
    | zero =>
      intro i hi hno
      refine x_iload C d_S_firstFrom_18 rfl ?_
      refine x_iload_n C d_S_firstFrom_20 rfl rfl ?_
      refine x_icmp_geN (tgt := 93) C d_S_firstFrom_21 (by decide) (by omega) (by omega) (fun c21 => ?_) (fun c21 => ?_)
      · refine x_iconst (v := ((-1))) C d_S_firstFrom_93 (by decide) ?_
        exact x_iret C hr d_S_firstFrom_94 () rfl (by
          rw [List.take_of_length_le (by omega), hx] at hno
          refine Or.inr ⟨fun y h9 => ?_, rfl⟩
          by_cases h10 : y < n
          · exact hno y h9 (by omega)
          · exact hs y (by omega))
      · exact absurd c21 (by omega)
    | succ d ih =>
      intro i hi hno
      obtain ⟨w, hw⟩ : ∃ w, fs[i]? = some w := ⟨fs[i], List.getElem?_eq_getElem (by omega)⟩
      have ow := canon_mem hR.1 w (List.mem_of_getElem? hw)
      have ow2 : w.2 ≤ (ex fs).length := ex_mem_le (List.mem_of_getElem? hw)
      have ow1 : 1 ≤ w.2 := ow.1
      have hle := ex_take_le (fs := fs) i
      have hsu := ex_take_succ hw
      have hle2 := ex_take_le (fs := fs) (i + 1)
      refine x_iload C d_S_firstFrom_18 rfl ?_
      refine x_iload_n C d_S_firstFrom_20 rfl rfl ?_
      refine x_icmp_geN (tgt := 93) C d_S_firstFrom_21 (by decide) (by omega) (by omega) (fun c21 => ?_) (fun c21 => ?_)
      · exact absurd c21 (by omega)
      · refine x_iload C d_S_firstFrom_24 rfl ?_
        refine x_aload_n C d_S_firstFrom_26 rfl rfl ?_
        refine x_get C d_S_firstFrom_27 0 rfl rfl i_S 0 (by decide) lk_S_15 rfl rfl ?_
        refine x_iload C d_S_firstFrom_30 rfl ?_
        refine x_iald C d_S_firstFrom_32 1 rfl (by omega) (by omega) ?_
        refine x_top (y := (enc w)) (nt_word hH hw) ?_
        refine x_callSIN (wr := [(h, .inr (0, [.ref h1, .ref h2, .int (nI (pre.length + 1))])), (h1, .inl (cA, cap, .inl (L))), (h2, .inl (cA, mx, .inl (Bd)))]) (rest := [.int (nI (31 * (ex (fs.take i)).length))]) C (c_B_groupsOf ow (by omega)) d_S_firstFrom_33 cd_B_groupsOf lk_S_46 dd_B_groupsOf rfl ⟨Nat.le_of_ble_eq_true rfl, Nat.le_of_ble_eq_true rfl⟩ ⟨Nat.le_refl _, Nat.le_refl _⟩ [] [0, 1, 2] rfl rfl (by decide) (by decide) (by decide) rfl (Nat.le_of_ble_eq_true rfl) ?_
        intro r_ u_ hp_
        obtain rfl := hp_
        refine x_bipush (v := (nI (31))) C d_S_firstFrom_36 (by decide) ?_
        refine x_imulN C d_S_firstFrom_38  ?_
        refine x_iaddN C d_S_firstFrom_39  ?_
        refine x_top (y := (nI (31 * (ex (fs.take (i + 1))).length))) (by rw [hsu]; congr 1; omega) ?_
        refine x_istore (lv' := [(6, .int (nI (31 * (ex (fs.take (i + 1))).length))), (5, .int (nI (tot pre + i))), (4, .int (nI (31 * (ex (fs.take i)).length))), (3, .int (nI (tot pre + fs.length))), (0, .ref h), (1, .int (nI (pre.length))), (2, .int (nI row))]) C d_S_firstFrom_40 (by decide) rfl ?_
        refine x_iload_n C d_S_firstFrom_42 rfl rfl ?_
        refine x_iload C d_S_firstFrom_43 rfl ?_
        refine x_icmp_geN (tgt := 69) C d_S_firstFrom_45 (by decide) (by omega) (by omega) (fun c45 => ?_) (fun c45 => ?_)
        · refine x_iconst (v := ((-1))) C d_S_firstFrom_69 (by decide) ?_
          refine x_istore (lv' := [(7, .int ((-1))), (6, .int (nI (31 * (ex (fs.take (i + 1))).length))), (5, .int (nI (tot pre + i))), (4, .int (nI (31 * (ex (fs.take i)).length))), (3, .int (nI (tot pre + fs.length))), (0, .ref h), (1, .int (nI (pre.length))), (2, .int (nI row))]) C d_S_firstFrom_70 (by decide) rfl ?_
          refine x_iload C d_S_firstFrom_72 rfl ?_
          refine x_if_lt (tgt := 83) C d_S_firstFrom_74 (by decide)  (fun c74 => ?_) (fun c74 => ?_)
          · refine x_iload C d_S_firstFrom_83 rfl ?_
            refine x_istore (lv' := [(4, .int (nI (31 * (ex (fs.take (i + 1))).length))), (7, .int ((-1))), (6, .int (nI (31 * (ex (fs.take (i + 1))).length))), (5, .int (nI (tot pre + i))), (3, .int (nI (tot pre + fs.length))), (0, .ref h), (1, .int (nI (pre.length))), (2, .int (nI row))]) C d_S_firstFrom_85 (by decide) rfl ?_
            refine x_iincN (lv' := [(5, .int (nI (tot pre + i + 1))), (4, .int (nI (31 * (ex (fs.take (i + 1))).length))), (7, .int ((-1))), (6, .int (nI (31 * (ex (fs.take (i + 1))).length))), (3, .int (nI (tot pre + fs.length))), (0, .ref h), (1, .int (nI (pre.length))), (2, .int (nI row))]) C d_S_firstFrom_87 rfl (by decide) rfl ?_
            refine x_goto (tgt := 18) C d_S_firstFrom_90 (by decide) ?_
            refine x_lv (lv' := [(5, .int (nI (tot pre + i + 1))), (4, .int (nI (31 * (ex (fs.take (i + 1))).length))), (3, .int (nI (tot pre + fs.length))), (0, .ref h), (1, .int (nI (pre.length))), (2, .int (nI row))]) (Or.inr (List.forall_mem_cons.mpr ⟨rfl, List.forall_mem_cons.mpr ⟨rfl, List.forall_mem_cons.mpr ⟨rfl, List.forall_mem_cons.mpr ⟨rfl, List.forall_mem_cons.mpr ⟨rfl, List.forall_mem_cons.mpr ⟨rfl, fun _ h9 => absurd h9 List.not_mem_nil⟩⟩⟩⟩⟩⟩)) ?_
            exact ih (i + 1) (by omega) (ff_go hR hw hno (fun y h1 h2 => by omega))
          · exact absurd c74 (by decide)
        · refine x_aload_n C d_S_firstFrom_48 rfl rfl ?_
          refine x_get C d_S_firstFrom_49 0 rfl rfl i_S 0 (by decide) lk_S_15 rfl rfl ?_
          refine x_iload C d_S_firstFrom_52 rfl ?_
          refine x_iald C d_S_firstFrom_54 1 rfl (by omega) (by omega) ?_
          refine x_top (y := (enc w)) (nt_word hH hw) ?_
          refine x_iload_n C d_S_firstFrom_55 rfl rfl ?_
          refine x_iload C d_S_firstFrom_56 rfl ?_
          refine x_isub C d_S_firstFrom_58  ?_
          refine x_iconst (v := (nI (0))) C d_S_firstFrom_59 (by decide) ?_
          refine x_mmax C d_S_firstFrom_60 lk_S_28 ma_max_st ini_Ma ma_max_cd ⟨Nat.le_of_ble_eq_true rfl, Nat.le_of_ble_eq_true rfl, Nat.zero_le _, Nat.zero_le _⟩  ?_
          refine x_top (y := (nI (row - 31 * (ex (fs.take i)).length))) (mx_sub (by omega) (by omega)) ?_
          refine x_callSI (wr := [(h, .inr (0, [.ref h1, .ref h2, .int (nI (pre.length + 1))])), (h1, .inl (cA, cap, .inl (L))), (h2, .inl (cA, mx, .inl (Bd)))]) (rest := []) C (c_S_firstInWord ow (by omega) (by omega)) d_S_firstFrom_63 cd_S_firstInWord lk_S_49 dd_S_firstInWord rfl ⟨Nat.le_of_ble_eq_true rfl, Nat.le_of_ble_eq_true rfl⟩ ⟨Nat.le_refl _, Nat.le_refl _⟩ [] [0, 1, 2] rfl rfl (by decide) (by decide) (by decide) rfl (Nat.le_of_ble_eq_true rfl) ?_
          intro r_ u_ hp_
          rcases hp_ with ⟨x, hf1, hf2, hf3, hf4, rfl⟩ | ⟨hf1, rfl⟩
          · refine x_goto (tgt := 70) C d_S_firstFrom_66 (by decide) ?_
            refine x_istore (lv' := [(7, .int (nI x)), (6, .int (nI (31 * (ex (fs.take (i + 1))).length))), (5, .int (nI (tot pre + i))), (4, .int (nI (31 * (ex (fs.take i)).length))), (3, .int (nI (tot pre + fs.length))), (0, .ref h), (1, .int (nI (pre.length))), (2, .int (nI row))]) C d_S_firstFrom_70 (by decide) rfl ?_
            refine x_iload C d_S_firstFrom_72 rfl ?_
            refine x_if_ltN (tgt := 83) C d_S_firstFrom_74 (by decide) (by omega) ?_
            refine x_iload C d_S_firstFrom_77 rfl ?_
            refine x_iload C d_S_firstFrom_79 rfl ?_
            refine x_iaddN C d_S_firstFrom_81  ?_
            exact x_iret C hr d_S_firstFrom_82 () rfl (ff_found hR hw hno hf1 hf2 hf3 hf4)
          · refine x_goto (tgt := 70) C d_S_firstFrom_66 (by decide) ?_
            refine x_istore (lv' := [(7, .int ((-1))), (6, .int (nI (31 * (ex (fs.take (i + 1))).length))), (5, .int (nI (tot pre + i))), (4, .int (nI (31 * (ex (fs.take i)).length))), (3, .int (nI (tot pre + fs.length))), (0, .ref h), (1, .int (nI (pre.length))), (2, .int (nI row))]) C d_S_firstFrom_70 (by decide) rfl ?_
            refine x_iload C d_S_firstFrom_72 rfl ?_
            refine x_if_lt (tgt := 83) C d_S_firstFrom_74 (by decide)  (fun c74 => ?_) (fun c74 => ?_)
            · refine x_iload C d_S_firstFrom_83 rfl ?_
              refine x_istore (lv' := [(4, .int (nI (31 * (ex (fs.take (i + 1))).length))), (7, .int ((-1))), (6, .int (nI (31 * (ex (fs.take (i + 1))).length))), (5, .int (nI (tot pre + i))), (3, .int (nI (tot pre + fs.length))), (0, .ref h), (1, .int (nI (pre.length))), (2, .int (nI row))]) C d_S_firstFrom_85 (by decide) rfl ?_
              refine x_iincN (lv' := [(5, .int (nI (tot pre + i + 1))), (4, .int (nI (31 * (ex (fs.take (i + 1))).length))), (7, .int ((-1))), (6, .int (nI (31 * (ex (fs.take (i + 1))).length))), (3, .int (nI (tot pre + fs.length))), (0, .ref h), (1, .int (nI (pre.length))), (2, .int (nI row))]) C d_S_firstFrom_87 rfl (by decide) rfl ?_
              refine x_goto (tgt := 18) C d_S_firstFrom_90 (by decide) ?_
              refine x_lv (lv' := [(5, .int (nI (tot pre + i + 1))), (4, .int (nI (31 * (ex (fs.take (i + 1))).length))), (3, .int (nI (tot pre + fs.length))), (0, .ref h), (1, .int (nI (pre.length))), (2, .int (nI row))]) (Or.inr (List.forall_mem_cons.mpr ⟨rfl, List.forall_mem_cons.mpr ⟨rfl, List.forall_mem_cons.mpr ⟨rfl, List.forall_mem_cons.mpr ⟨rfl, List.forall_mem_cons.mpr ⟨rfl, List.forall_mem_cons.mpr ⟨rfl, fun _ h9 => absurd h9 List.not_mem_nil⟩⟩⟩⟩⟩⟩)) ?_
              exact ih (i + 1) (by omega) (ff_go hR hw hno hf1)
            · exact absurd c74 (by decide)
  refine x_aload_n C d_S_firstFrom_0 rfl rfl ?_
  refine x_iload_n C d_S_firstFrom_1 rfl rfl ?_
  refine x_iconst (v := (nI (1))) C d_S_firstFrom_2 (by decide) ?_
  refine x_iaddN C d_S_firstFrom_3  ?_
  refine x_callVI (wr := []) (rest := []) C (c_S_startOf (i := pre.length + 1) hH (by simp) (by simp)) d_S_firstFrom_4 cd_S_startOf lk_S_31 dd_S_startOf rfl ⟨Nat.le_of_ble_eq_true rfl, Nat.le_of_ble_eq_true rfl⟩ ⟨Nat.le_refl _, Nat.le_refl _⟩ 0 0 rfl rfl [0, 1, 2] [] rfl rfl (by decide) (by decide) (by decide) rfl (Nat.le_of_ble_eq_true rfl) ?_
  intro r_ u_ hp_
  obtain rfl := hp_
  refine x_top (y := (nI (tot pre + fs.length))) (by rw [off_snoc, List.length_map]) ?_
  refine x_istore_n (lv' := [(3, .int (nI (tot pre + fs.length))), (0, .ref h), (1, .int (nI (pre.length))), (2, .int (nI row))]) C d_S_firstFrom_7 rfl (by decide) rfl ?_
  refine x_iconst (v := (nI (0))) C d_S_firstFrom_8 (by decide) ?_
  refine x_istore (lv' := [(4, .int (nI 0)), (3, .int (nI (tot pre + fs.length))), (0, .ref h), (1, .int (nI (pre.length))), (2, .int (nI row))]) C d_S_firstFrom_9 (by decide) rfl ?_
  refine x_aload_n C d_S_firstFrom_11 rfl rfl ?_
  refine x_iload_n C d_S_firstFrom_12 rfl rfl ?_
  refine x_callVI (wr := []) (rest := []) C (c_S_startOf (i := pre.length) hH (by simp) (by simp)) d_S_firstFrom_13 cd_S_startOf lk_S_31 dd_S_startOf rfl ⟨Nat.le_of_ble_eq_true rfl, Nat.le_of_ble_eq_true rfl⟩ ⟨Nat.le_refl _, Nat.le_refl _⟩ 0 0 rfl rfl [0, 1, 2] [] rfl rfl (by decide) (by decide) (by decide) rfl (Nat.le_of_ble_eq_true rfl) ?_
  intro r_ u_ hp_
  obtain rfl := hp_
  refine x_top (y := (nI (tot pre))) (by rw [off_app (Nat.le_refl _), off_len]) ?_
  refine x_istore (lv' := [(5, .int (nI (tot pre))), (4, .int (nI 0)), (3, .int (nI (tot pre + fs.length))), (0, .ref h), (1, .int (nI (pre.length))), (2, .int (nI row))]) C d_S_firstFrom_16 (by decide) rfl ?_
  refine x_lv (lv' := [(5, .int (nI (tot pre))), (4, .int (nI 0)), (3, .int (nI (tot pre + fs.length))), (0, .ref h), (1, .int (nI (pre.length))), (2, .int (nI row))]) (Or.inr (List.forall_mem_cons.mpr ⟨rfl, List.forall_mem_cons.mpr ⟨rfl, List.forall_mem_cons.mpr ⟨rfl, List.forall_mem_cons.mpr ⟨rfl, List.forall_mem_cons.mpr ⟨rfl, List.forall_mem_cons.mpr ⟨rfl, fun _ h9 => absurd h9 List.not_mem_nil⟩⟩⟩⟩⟩⟩)) ?_
  exact LP fs.length 0 (by omega) (fun y _ h9 => absurd h9 (Nat.not_lt_zero y))
