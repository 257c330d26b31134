/-! the class's own functions on words and bits -/
theorem gr_lit {w : Nat × Nat} (hw : okw w) (hk : w.2 < 2 ^ 29) (h : 0 ≤ enc w) : w.2 = 1 := by
  obtain ⟨b, k⟩ := w
  obtain ⟨h1, h2, h3⟩ := hw
  rcases h3 with q | q | q
  · exact absurd (enc_fill (Or.inl q) h1 hk) (Int32.not_lt.mpr h)
  · exact absurd (enc_fill (Or.inr q) h1 hk) (Int32.not_lt.mpr h)
  · exact q
theorem gr_fill {w : Nat × Nat} (hw : okw w) (hk : w.2 < 2 ^ 29) (h : ¬ 0 ≤ enc w) : -(enc w) / nI 2 = nI w.2 := by
  obtain ⟨b, k⟩ := w
  obtain ⟨h1, h2, h3⟩ := hw
  dsimp only at hk h1 h2
  by_cases hf : b = 0 ∨ b = AL
  · rcases hf with q | q
    · rw [enc_0 q, neg_nn, pk_div (by omega) (by omega) (by omega)]
      congr 1
      dsimp only
      omega
    · rw [enc_A q, neg_nn, pk_div (by omega) (by omega) (by omega)]
      congr 1
      dsimp only
      omega
  · exact absurd (Int32.not_lt.mp (enc_pos hf h2)) h
theorem bt_pos {w : Nat × Nat} (hw : okw w) (hk : w.2 < 2 ^ 29) (h : ¬ enc w < 0) : enc w = nI w.1 := by
  obtain ⟨b, k⟩ := w
  obtain ⟨h1, h2, h3⟩ := hw
  by_cases hf : b = 0 ∨ b = AL
  · exact absurd (enc_fill hf h1 hk) h
  · exact enc_lit hf
theorem bt_0 {w : Nat × Nat} (hw : okw w) (hk : w.2 < 2 ^ 29) (h : enc w < 0) (h' : ¬ enc w &&& nI 1 = nI 1) : nI 0 = nI w.1 := by
  obtain ⟨b, k⟩ := w
  obtain ⟨h1, h2, h3⟩ := hw
  dsimp only at hk h1 h2
  by_cases hf : b = 0 ∨ b = AL
  · rcases hf with q | q
    · dsimp only
      rw [q]
    · rw [enc_A q, neg_and1 (by omega), show (2 * k + 1) % 2 = 1 by omega] at h'
      exact absurd rfl h'
  · exact absurd h (enc_pos hf h2)
theorem bt_A {w : Nat × Nat} (hw : okw w) (hk : w.2 < 2 ^ 29) (h : enc w < 0) (h' : enc w &&& nI 1 = nI 1) : nI 2147483647 = nI w.1 := by
  obtain ⟨b, k⟩ := w
  obtain ⟨h1, h2, h3⟩ := hw
  dsimp only at hk h1 h2
  by_cases hf : b = 0 ∨ b = AL
  · rcases hf with q | q
    · rw [enc_0 q, neg_and1 (by omega), show (2 * k) % 2 = 0 by omega] at h'
      exact absurd h' (by decide)
    · dsimp only
      rw [q]
  · exact absurd h (enc_pos hf h2)
set_option maxHeartbeats 4000000 in
theorem c_B_isValue {l : Launch} {D : va_G} {cA : ClassId} {x : Int32} : CtI l D cA y_B_isValue b_B_isValue 1 (some .boolean) ({ frames := 0, cells := 0, slots := 0, locals := 0 } : Room) [.int x] [] (fun r (_ : Unit) => r = if ¬ x < 0 ∧ ¬ nI 16 ≤ x then nI 1 else nI 0) (fun _ => []) := by
  refine CtI.start (lv0 := [(0, .int x)]) (by decide) rfl (Nat.le_of_ble_eq_true rfl) ?_
  intro p e s m args below meth c A C hr hin
  refine x_iload_n C d_B_isValue_0 rfl rfl ?_
  refine x_if_lt (tgt := 14) C d_B_isValue_1 (by decide)  (fun c1 => ?_) (fun c1 => ?_)
  · refine x_iconst (v := (nI (0))) C d_B_isValue_14 (by decide) ?_
    exact x_zret C hr (by decide) d_B_isValue_15 () rfl ((if_neg (fun q => q.1 c1)).symm)
  · refine x_iload_n C d_B_isValue_4 rfl rfl ?_
    refine x_bipush (v := (nI (16))) C d_B_isValue_5 (by decide) ?_
    refine x_icmp_ge (tgt := 14) C d_B_isValue_7 (by decide)  (fun c7 => ?_) (fun c7 => ?_)
    · refine x_iconst (v := (nI (0))) C d_B_isValue_14 (by decide) ?_
      exact x_zret C hr (by decide) d_B_isValue_15 () rfl ((if_neg (fun q => q.2 c7)).symm)
    · refine x_iconst (v := (nI (1))) C d_B_isValue_10 (by decide) ?_
      refine x_goto (tgt := 15) C d_B_isValue_11 (by decide) ?_
      exact x_zret C hr (by decide) d_B_isValue_15 () rfl ((if_pos ⟨c1, c7⟩).symm)
set_option maxHeartbeats 4000000 in
theorem c_B_fillOf {l : Launch} {D : va_G} {cA : ClassId} {b k : Nat} (hb : b = 0 ∨ b = AL) : CtI l D cA y_B_fillOf b_B_fillOf 2 (some .int) ({ frames := 0, cells := 0, slots := 0, locals := 0 } : Room) [.int (nI b), .int (nI k)] [] (fun r (_ : Unit) => r = enc (b, k)) (fun _ => []) := by
  refine CtI.start (lv0 := [(0, .int (nI b)), (1, .int (nI k))]) (by decide) rfl (Nat.le_of_ble_eq_true rfl) ?_
  intro p e s m args below meth c A C hr hin
  have hA : AL = 2147483647 := rfl
  refine x_iload_n C d_B_fillOf_0 rfl rfl ?_
  refine x_ldc C d_B_fillOf_1 lk_B_101 ?_
  refine x_top (y := nI 2147483647) (by decide) ?_
  refine x_icmp_neN (tgt := 15) C d_B_fillOf_3 (by decide) (by omega) (by omega) (fun c3 => ?_) (fun c3 => ?_)
  · refine x_bipush (v := ((-2))) C d_B_fillOf_15 (by decide) ?_
    refine x_iload_n C d_B_fillOf_17 rfl rfl ?_
    refine x_imul C d_B_fillOf_18  ?_
    exact x_iret C hr d_B_fillOf_19 () rfl ((fill_0 k).trans (enc_0 (hb.resolve_right c3)).symm)
  · refine x_bipush (v := ((-2))) C d_B_fillOf_6 (by decide) ?_
    refine x_iload_n C d_B_fillOf_8 rfl rfl ?_
    refine x_imul C d_B_fillOf_9  ?_
    refine x_iconst (v := (nI (1))) C d_B_fillOf_10 (by decide) ?_
    refine x_isub C d_B_fillOf_11  ?_
    refine x_goto (tgt := 19) C d_B_fillOf_12 (by decide) ?_
    exact x_iret C hr d_B_fillOf_19 () rfl ((fill_A k).trans (enc_A c3).symm)
set_option maxHeartbeats 4000000 in
theorem c_B_groupsOf {l : Launch} {D : va_G} {cA : ClassId} {w : Nat × Nat} (hw : okw w) (hk : w.2 < 2 ^ 29) : CtI l D cA y_B_groupsOf b_B_groupsOf 1 (some .int) ({ frames := 0, cells := 0, slots := 0, locals := 0 } : Room) [.int (enc w)] [] (fun r (_ : Unit) => r = nI w.2) (fun _ => []) := by
  refine CtI.start (lv0 := [(0, .int (enc w))]) (by decide) rfl (Nat.le_of_ble_eq_true rfl) ?_
  intro p e s m args below meth c A C hr hin
  refine x_iload_n C d_B_groupsOf_0 rfl rfl ?_
  refine x_if_ge (tgt := 11) C d_B_groupsOf_1 (by decide)  (fun c1 => ?_) (fun c1 => ?_)
  · refine x_iconst (v := (nI (1))) C d_B_groupsOf_11 (by decide) ?_
    exact x_iret C hr d_B_groupsOf_12 () rfl (by rw [gr_lit hw hk c1])
  · refine x_iload_n C d_B_groupsOf_4 rfl rfl ?_
    refine x_ineg C d_B_groupsOf_5 ?_
    refine x_iconst (v := (nI (2))) C d_B_groupsOf_6 (by decide) ?_
    refine x_idiv C d_B_groupsOf_7 (by decide) ?_
    refine x_goto (tgt := 12) C d_B_groupsOf_8 (by decide) ?_
    exact x_iret C hr d_B_groupsOf_12 () rfl (gr_fill hw hk c1)
set_option maxHeartbeats 4000000 in
theorem c_B_bitsOf {l : Launch} {D : va_G} {cA : ClassId} {w : Nat × Nat} (hw : okw w) (hk : w.2 < 2 ^ 29) : CtI l D cA y_B_bitsOf b_B_bitsOf 1 (some .int) ({ frames := 0, cells := 0, slots := 0, locals := 0 } : Room) [.int (enc w)] [] (fun r (_ : Unit) => r = nI w.1) (fun _ => []) := by
  refine CtI.start (lv0 := [(0, .int (enc w))]) (by decide) rfl (Nat.le_of_ble_eq_true rfl) ?_
  intro p e s m args below meth c A C hr hin
  refine x_iload_n C d_B_bitsOf_0 rfl rfl ?_
  refine x_if_lt (tgt := 6) C d_B_bitsOf_1 (by decide)  (fun c1 => ?_) (fun c1 => ?_)
  · refine x_iload_n C d_B_bitsOf_6 rfl rfl ?_
    refine x_iconst (v := (nI (1))) C d_B_bitsOf_7 (by decide) ?_
    refine x_iand C d_B_bitsOf_8 ?_
    refine x_iconst (v := (nI (1))) C d_B_bitsOf_9 (by decide) ?_
    refine x_icmp_ne (tgt := 18) C d_B_bitsOf_10 (by decide)  (fun c10 => ?_) (fun c10 => ?_)
    · refine x_iconst (v := (nI (0))) C d_B_bitsOf_18 (by decide) ?_
      exact x_iret C hr d_B_bitsOf_19 () rfl (bt_0 hw hk c1 c10)
    · refine x_ldc C d_B_bitsOf_13 lk_B_101 ?_
      refine x_top (y := nI 2147483647) (by decide) ?_
      refine x_goto (tgt := 19) C d_B_bitsOf_15 (by decide) ?_
      exact x_iret C hr d_B_bitsOf_19 () rfl (bt_A hw hk c1 c10)
  · refine x_iload_n C d_B_bitsOf_4 rfl rfl ?_
    exact x_iret C hr d_B_bitsOf_5 () rfl (bt_pos hw hk c1)
set_option maxHeartbeats 4000000 in
theorem c_B_firstBits {l : Launch} {D : va_G} {cA : ClassId} {n : Nat} (hn : n < 31) : CtI l D cA y_B_firstBits b_B_firstBits 1 (some .int) ({ frames := 0, cells := 0, slots := 0, locals := 0 } : Room) [.int (nI n)] [] (fun r (_ : Unit) => r = nI (2 ^ n - 1)) (fun _ => []) := by
  refine CtI.start (lv0 := [(0, .int (nI n))]) (by decide) rfl (Nat.le_of_ble_eq_true rfl) ?_
  intro p e s m args below meth c A C hr hin
  refine x_iconst (v := (nI (1))) C d_B_firstBits_0 (by decide) ?_
  refine x_iload_n C d_B_firstBits_1 rfl rfl ?_
  refine x_ishl C d_B_firstBits_2 ?_
  refine x_iconst (v := (nI (1))) C d_B_firstBits_3 (by decide) ?_
  refine x_isub C d_B_firstBits_4  ?_
  exact x_iret C hr d_B_firstBits_5 () rfl (nx_bits hn)
set_option maxHeartbeats 4000000 in
theorem c_B_joinedBits {l : Launch} {D : va_G} {cA : ClassId} {op a b : Nat} (ho : op ≤ 3) (ha : a ≤ AL) (hb : b ≤ AL) : CtI l D cA y_B_joinedBits b_B_joinedBits 3 (some .int) ({ frames := 0, cells := 0, slots := 0, locals := 0 } : Room) [.int (nI op), .int (nI a), .int (nI b)] [] (fun r (_ : Unit) => r = nI (jb op a b)) (fun _ => []) := by
  refine CtI.start (lv0 := [(0, .int (nI op)), (1, .int (nI a)), (2, .int (nI b))]) (by decide) rfl (Nat.le_of_ble_eq_true rfl) ?_
  intro p e s m args below meth c A C hr hin
  refine x_iload_n C d_B_joinedBits_0 rfl rfl ?_
  rcases (show op = 0 ∨ op = 1 ∨ op = 2 ∨ op = 3 by omega) with rfl | rfl | rfl | rfl
  · refine x_tableIn (off := 27) (tgt := 28) C d_B_joinedBits_1 (by decide) (by decide) rfl (by decide) ?_
    refine x_iload_n C d_B_joinedBits_28 rfl rfl ?_
    refine x_iload_n C d_B_joinedBits_29 rfl rfl ?_
    refine x_iand C d_B_joinedBits_30 ?_
    exact x_iret C hr d_B_joinedBits_31 () rfl (nx_and a b)
  · refine x_tableIn (off := 31) (tgt := 32) C d_B_joinedBits_1 (by decide) (by decide) rfl (by decide) ?_
    refine x_iload_n C d_B_joinedBits_32 rfl rfl ?_
    refine x_iload_n C d_B_joinedBits_33 rfl rfl ?_
    refine x_ior C d_B_joinedBits_34 ?_
    exact x_iret C hr d_B_joinedBits_35 () rfl (nx_or a b)
  · refine x_tableIn (off := 35) (tgt := 36) C d_B_joinedBits_1 (by decide) (by decide) rfl (by decide) ?_
    refine x_iload_n C d_B_joinedBits_36 rfl rfl ?_
    refine x_iload_n C d_B_joinedBits_37 rfl rfl ?_
    refine x_iconst (v := ((-1))) C d_B_joinedBits_38 (by decide) ?_
    refine x_ixor C d_B_joinedBits_39 ?_
    refine x_iand C d_B_joinedBits_40 ?_
    exact x_iret C hr d_B_joinedBits_41 () rfl (jb_not ha)
  · refine x_tableOut (tgt := 42) C d_B_joinedBits_1 (Or.inr (by decide)) (by decide) ?_
    refine x_iload_n C d_B_joinedBits_42 rfl rfl ?_
    refine x_iload_n C d_B_joinedBits_43 rfl rfl ?_
    refine x_ixor C d_B_joinedBits_44 ?_
    exact x_iret C hr d_B_joinedBits_45 () rfl (nx_xor a b)
