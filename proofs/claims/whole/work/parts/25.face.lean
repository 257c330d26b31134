/-! the public methods on the stack -/
theorem zw_rep {n op : Nat} {fA fB : Nat → Bool} {W : List (Nat × Nat)} (ho : op ≤ 3) (hc : canon W) (he : ex W = List.zipWith (jb op) (ex (Wd n fA)) (ex (Wd n fB))) : W.map enc = wI n (fun r => jbb op (fA r) (fB r)) := by
  have : Rep n (fun r => jbb op (fA r) (fB r)) W := ⟨hc, by rw [he, (Wd_rep n fA).2, (Wd_rep n fB).2, GL_zip n (fun g => jb_gb op fA fB g ho)]⟩
  rw [this.eq]
  rfl
theorem aft_neg {x : Int32} (h : x < 0) : (if x < (-1) then (-1) else x) + nI 1 = nI 0 := by
  by_cases h2 : x < (-1)
  · rw [if_pos h2]; rfl
  · rw [if_neg h2]
    have h3 : x = -1 := by
      rw [Int32.lt_iff_toInt_lt] at h h2
      apply Int32.toInt_inj.mp
      have e1 : (0 : Int32).toInt = 0 := by decide
      have e2 : (-1 : Int32).toInt = -1 := by decide
      rw [e1] at h
      rw [e2] at h2
      rw [e2]
      omega
    rw [h3]
    rfl
theorem aft_pos {j : Nat} (h : j < 2 ^ 31) : (if nI j < (-1) then (-1) else nI j) + nI 1 = nI (j + 1) := by
  rw [if_neg, nI_add]
  intro h2
  rw [Int32.lt_iff_toInt_lt, nI_toInt h] at h2
  have e2 : (-1 : Int32).toInt = -1 := by decide
  rw [e2] at h2
  omega
set_option maxHeartbeats 4000000 in
theorem c_B_copy_none {l : Launch} {D : va_G} {cA : ClassId} {h c0 d0 s0 r0 n : Nat} {s01 s02 : Nat} {Ls Bs : Nat → Int32}  : CtI l D cA y_B_copy b_B_copy 1 (some .int) ({ frames := 5, cells := 0, slots := 0, locals := 108 } : Room) [.ref h] (bo h c0 d0 s0 r0 (n) :: (shW cA s0 s01 s02 3000 13 Ls Bs (0))) (fun r (_ : Unit) => r = (-4)) (fun _ => (bo h c0 d0 s0 r0 (n) :: (shW cA s0 s01 s02 3000 13 Ls Bs (0)))) := by
  refine CtI.start (lv0 := [(0, .ref h)]) (by decide) rfl (Nat.le_of_ble_eq_true rfl) ?_
  intro p_ e_ s_ m_ args_ below_ meth_ c_ A_ C hr hin
  refine x_aload_n C d_B_copy_0 rfl rfl ?_
  refine x_get C d_B_copy_1 0 rfl rfl i_B 2 (by decide) lk_B_21 rfl rfl ?_
  refine x_getN C d_B_copy_4 1 rfl rfl i_S 2 (by decide) lk_B_39 rfl rfl ?_
  refine x_iconst (v := (nI (1))) C d_B_copy_7 (by decide) ?_
  refine x_icmp_geN (tgt := 14) C d_B_copy_8 (by decide) (by omega) (by omega) (fun c8 => ?_) (fun c8 => ?_)
  · exact absurd c8 (by omega)
  · refine x_bipush (v := ((-4))) C d_B_copy_11 (by decide) ?_
    exact x_iret C hr d_B_copy_13 () rfl (rfl)
set_option maxHeartbeats 4000000 in
theorem c_B_not_none {l : Launch} {D : va_G} {cA : ClassId} {h c0 d0 s0 r0 n : Nat} {s01 s02 : Nat} {Ls Bs : Nat → Int32}  : CtI l D cA y_B_not b_B_not 1 (some .int) ({ frames := 6, cells := 0, slots := 0, locals := 131 } : Room) [.ref h] (bo h c0 d0 s0 r0 (n) :: (shW cA s0 s01 s02 3000 13 Ls Bs (0))) (fun r (_ : Unit) => r = (-4)) (fun _ => (bo h c0 d0 s0 r0 (n) :: (shW cA s0 s01 s02 3000 13 Ls Bs (0)))) := by
  refine CtI.start (lv0 := [(0, .ref h)]) (by decide) rfl (Nat.le_of_ble_eq_true rfl) ?_
  intro p_ e_ s_ m_ args_ below_ meth_ c_ A_ C hr hin
  refine x_aload_n C d_B_not_0 rfl rfl ?_
  refine x_get C d_B_not_1 0 rfl rfl i_B 2 (by decide) lk_B_21 rfl rfl ?_
  refine x_getN C d_B_not_4 1 rfl rfl i_S 2 (by decide) lk_B_39 rfl rfl ?_
  refine x_iconst (v := (nI (1))) C d_B_not_7 (by decide) ?_
  refine x_icmp_geN (tgt := 14) C d_B_not_8 (by decide) (by omega) (by omega) (fun c8 => ?_) (fun c8 => ?_)
  · exact absurd c8 (by omega)
  · refine x_bipush (v := ((-4))) C d_B_not_11 (by decide) ?_
    exact x_iret C hr d_B_not_13 () rfl (rfl)
set_option maxHeartbeats 4000000 in
theorem c_B_count_none {l : Launch} {D : va_G} {cA : ClassId} {h c0 d0 s0 r0 n : Nat} {s01 s02 : Nat} {Ls Bs : Nat → Int32}  : CtI l D cA y_B_count b_B_count 1 (some .int) ({ frames := 3, cells := 0, slots := 0, locals := 66 } : Room) [.ref h] (bo h c0 d0 s0 r0 (n) :: (shW cA s0 s01 s02 3000 13 Ls Bs (0))) (fun r (_ : Unit) => r = (-1)) (fun _ => (bo h c0 d0 s0 r0 (n) :: (shW cA s0 s01 s02 3000 13 Ls Bs (0)))) := by
  refine CtI.start (lv0 := [(0, .ref h)]) (by decide) rfl (Nat.le_of_ble_eq_true rfl) ?_
  intro p_ e_ s_ m_ args_ below_ meth_ c_ A_ C hr hin
  refine x_aload_n C d_B_count_0 rfl rfl ?_
  refine x_get C d_B_count_1 0 rfl rfl i_B 2 (by decide) lk_B_21 rfl rfl ?_
  refine x_getN C d_B_count_4 1 rfl rfl i_S 2 (by decide) lk_B_39 rfl rfl ?_
  refine x_iconst (v := (nI (1))) C d_B_count_7 (by decide) ?_
  refine x_icmp_geN (tgt := 15) C d_B_count_8 (by decide) (by omega) (by omega) (fun c8 => ?_) (fun c8 => ?_)
  · exact absurd c8 (by omega)
  · refine x_iconst (v := ((-1))) C d_B_count_11 (by decide) ?_
    refine x_goto (tgt := 31) C d_B_count_12 (by decide) ?_
    exact x_iret C hr d_B_count_31 () rfl (rfl)
set_option maxHeartbeats 4000000 in
theorem c_B_words_none {l : Launch} {D : va_G} {cA : ClassId} {h c0 d0 s0 r0 n : Nat} {s01 s02 : Nat} {Ls Bs : Nat → Int32}  : CtI l D cA y_B_words b_B_words 1 (some .int) ({ frames := 3, cells := 0, slots := 0, locals := 63 } : Room) [.ref h] (bo h c0 d0 s0 r0 (n) :: (shW cA s0 s01 s02 3000 13 Ls Bs (0))) (fun r (_ : Unit) => r = (-1)) (fun _ => (bo h c0 d0 s0 r0 (n) :: (shW cA s0 s01 s02 3000 13 Ls Bs (0)))) := by
  refine CtI.start (lv0 := [(0, .ref h)]) (by decide) rfl (Nat.le_of_ble_eq_true rfl) ?_
  intro p_ e_ s_ m_ args_ below_ meth_ c_ A_ C hr hin
  refine x_aload_n C d_B_words_0 rfl rfl ?_
  refine x_get C d_B_words_1 0 rfl rfl i_B 2 (by decide) lk_B_21 rfl rfl ?_
  refine x_getN C d_B_words_4 1 rfl rfl i_S 2 (by decide) lk_B_39 rfl rfl ?_
  refine x_iconst (v := (nI (1))) C d_B_words_7 (by decide) ?_
  refine x_icmp_geN (tgt := 15) C d_B_words_8 (by decide) (by omega) (by omega) (fun c8 => ?_) (fun c8 => ?_)
  · exact absurd c8 (by omega)
  · refine x_iconst (v := ((-1))) C d_B_words_11 (by decide) ?_
    refine x_goto (tgt := 31) C d_B_words_12 (by decide) ?_
    exact x_iret C hr d_B_words_31 () rfl (rfl)
set_option maxHeartbeats 4000000 in
theorem c_B_pop_none {l : Launch} {D : va_G} {cA : ClassId} {h c0 d0 s0 r0 n : Nat} {s01 s02 : Nat} {Ls Bs : Nat → Int32}  : CtI l D cA y_B_pop b_B_pop 1 (some .int) ({ frames := 1, cells := 0, slots := 0, locals := 20 } : Room) [.ref h] (bo h c0 d0 s0 r0 (n) :: (shW cA s0 s01 s02 3000 13 Ls Bs (0))) (fun r (_ : Unit) => r = (-4)) (fun _ => (bo h c0 d0 s0 r0 (n) :: (shW cA s0 s01 s02 3000 13 Ls Bs (0)))) := by
  refine CtI.start (lv0 := [(0, .ref h)]) (by decide) rfl (Nat.le_of_ble_eq_true rfl) ?_
  intro p_ e_ s_ m_ args_ below_ meth_ c_ A_ C hr hin
  refine x_aload_n C d_B_pop_0 rfl rfl ?_
  refine x_get C d_B_pop_1 0 rfl rfl i_B 2 (by decide) lk_B_21 rfl rfl ?_
  refine x_getN C d_B_pop_4 1 rfl rfl i_S 2 (by decide) lk_B_39 rfl rfl ?_
  refine x_iconst (v := (nI (1))) C d_B_pop_7 (by decide) ?_
  refine x_icmp_geN (tgt := 14) C d_B_pop_8 (by decide) (by omega) (by omega) (fun c8 => ?_) (fun c8 => ?_)
  · exact absurd c8 (by omega)
  · refine x_bipush (v := ((-4))) C d_B_pop_11 (by decide) ?_
    exact x_iret C hr d_B_pop_13 () rfl (rfl)
set_option maxHeartbeats 4000000 in
theorem c_B_word_none {l : Launch} {D : va_G} {cA : ClassId} {h c0 d0 s0 r0 n : Nat} {s01 s02 : Nat} {Ls Bs : Nat → Int32} {x : Int32}  : CtI l D cA y_B_word b_B_word 2 (some .int) ({ frames := 4, cells := 0, slots := 0, locals := 85 } : Room) [.ref h, .int x] (bo h c0 d0 s0 r0 (n) :: (shW cA s0 s01 s02 3000 13 Ls Bs (0))) (fun r (_ : Unit) => r = nI 0) (fun _ => (bo h c0 d0 s0 r0 (n) :: (shW cA s0 s01 s02 3000 13 Ls Bs (0)))) := by
  refine CtI.start (lv0 := [(0, .ref h), (1, .int x)]) (by decide) rfl (Nat.le_of_ble_eq_true rfl) ?_
  intro p_ e_ s_ m_ args_ below_ meth_ c_ A_ C hr hin
  refine x_aload_n C d_B_word_0 rfl rfl ?_
  refine x_get C d_B_word_1 0 rfl rfl i_B 2 (by decide) lk_B_21 rfl rfl ?_
  refine x_getN C d_B_word_4 1 rfl rfl i_S 2 (by decide) lk_B_39 rfl rfl ?_
  refine x_iconst (v := (nI (1))) C d_B_word_7 (by decide) ?_
  refine x_icmp_geN (tgt := 15) C d_B_word_8 (by decide) (by omega) (by omega) (fun c8 => ?_) (fun c8 => ?_)
  · exact absurd c8 (by omega)
  · refine x_iconst (v := (nI (0))) C d_B_word_11 (by decide) ?_
    refine x_goto (tgt := 32) C d_B_word_12 (by decide) ?_
    exact x_iret C hr d_B_word_32 () rfl (rfl)
set_option maxHeartbeats 4000000 in
theorem c_B_after_none {l : Launch} {D : va_G} {cA : ClassId} {h c0 d0 s0 r0 n : Nat} {s01 s02 : Nat} {Ls Bs : Nat → Int32} {x : Int32}  : CtI l D cA y_B_after b_B_after 2 (some .int) ({ frames := 3, cells := 0, slots := 0, locals := 71 } : Room) [.ref h, .int x] (bo h c0 d0 s0 r0 (n) :: (shW cA s0 s01 s02 3000 13 Ls Bs (0))) (fun r (_ : Unit) => r = -1) (fun _ => (bo h c0 d0 s0 r0 (n) :: (shW cA s0 s01 s02 3000 13 Ls Bs (0)))) := by
  refine CtI.start (lv0 := [(0, .ref h), (1, .int x)]) (by decide) rfl (Nat.le_of_ble_eq_true rfl) ?_
  intro p_ e_ s_ m_ args_ below_ meth_ c_ A_ C hr hin
  refine x_aload_n C d_B_after_0 rfl rfl ?_
  refine x_get C d_B_after_1 0 rfl rfl i_B 2 (by decide) lk_B_21 rfl rfl ?_
  refine x_getN C d_B_after_4 1 rfl rfl i_S 2 (by decide) lk_B_39 rfl rfl ?_
  refine x_iconst (v := (nI (1))) C d_B_after_7 (by decide) ?_
  refine x_icmp_ltN (tgt := 19) C d_B_after_8 (by decide) (by omega) (by omega) (fun c8 => ?_) (fun c8 => ?_)
  · refine x_iconst (v := ((-1))) C d_B_after_19 (by decide) ?_
    exact x_iret C hr d_B_after_20 () rfl (rfl)
  · exact absurd c8 (by omega)
set_option maxHeartbeats 4000000 in
theorem c_B_count {l : Launch} {D : va_G} {cA : ClassId} {h c0 d0 s0 r0 n : Nat} {s01 s02 : Nat} {Ls Bs : Nat → Int32} {k : Nat} {ss : List (List Int32)} {f : Nat → Bool} (hS : Hs 3000 13 Ls Bs (ss ++ [wI n f])) (hk : ss.length + 1 = k) (hs : sup n f) (hn : n ≤ 1000000)  : CtI l D cA y_B_count b_B_count 1 (some .int) ({ frames := 3, cells := 0, slots := 0, locals := 66 } : Room) [.ref h] (bo h c0 d0 s0 r0 (n) :: (shW cA s0 s01 s02 3000 13 Ls Bs (k))) (fun r (_ : Unit) => r = nI (cn f n)) (fun _ => (bo h c0 d0 s0 r0 (n) :: (shW cA s0 s01 s02 3000 13 Ls Bs (k)))) := by
  subst hk
  refine CtI.start (lv0 := [(0, .ref h)]) (by decide) rfl (Nat.le_of_ble_eq_true rfl) ?_
  intro p_ e_ s_ m_ args_ below_ meth_ c_ A_ C hr hin
  have hn1 := hS.in
  refine x_aload_n C d_B_count_0 rfl rfl ?_
  refine x_get C d_B_count_1 0 rfl rfl i_B 2 (by decide) lk_B_21 rfl rfl ?_
  refine x_getN C d_B_count_4 1 rfl rfl i_S 2 (by decide) lk_B_39 rfl rfl ?_
  refine x_iconst (v := (nI (1))) C d_B_count_7 (by decide) ?_
  refine x_icmp_geN (tgt := 15) C d_B_count_8 (by decide) (by omega) (by omega) (fun c8 => ?_) (fun c8 => ?_)
  · refine x_aload_n C d_B_count_15 rfl rfl ?_
    refine x_get C d_B_count_16 0 rfl rfl i_B 2 (by decide) lk_B_21 rfl rfl ?_
    refine x_aload_n C d_B_count_19 rfl rfl ?_
    refine x_get C d_B_count_20 0 rfl rfl i_B 2 (by decide) lk_B_21 rfl rfl ?_
    refine x_getN C d_B_count_23 1 rfl rfl i_S 2 (by decide) lk_B_39 rfl rfl ?_
    refine x_iconst (v := (nI (1))) C d_B_count_26 (by decide) ?_
    refine x_isubN C d_B_count_27 (by omega) ?_
    refine x_top (y := (nI (ss.length))) (by congr 1) ?_
    refine x_callVI (wr := [(h, .inr (1, [.ref c0, .ref d0, .ref s0, .ref r0, .int (nI n)]))]) (rest := []) C (c_S_rowsOf (fs := Wd n f) hS rfl (Wd_ok hn)) d_B_count_28 cd_S_rowsOf lk_B_69 dd_S_rowsOf rfl ⟨Nat.le_of_ble_eq_true rfl, Nat.le_of_ble_eq_true rfl⟩ ⟨Nat.le_refl _, Nat.le_refl _⟩ 0 0 rfl rfl [1, 2, 3] [0] rfl rfl (by decide) (by decide) (by decide) rfl (Nat.le_of_ble_eq_true rfl) ?_
    intro r_ u_ hp_
    obtain rfl := hp_
    exact x_iret C hr d_B_count_31 () rfl (by rw [(Wd_rep n f).count hs])
  · exact absurd c8 (by omega)
set_option maxHeartbeats 4000000 in
theorem c_B_words {l : Launch} {D : va_G} {cA : ClassId} {h c0 d0 s0 r0 n : Nat} {s01 s02 : Nat} {Ls Bs : Nat → Int32} {k : Nat} {ss : List (List Int32)} {f : Nat → Bool} (hS : Hs 3000 13 Ls Bs (ss ++ [wI n f])) (hk : ss.length + 1 = k)  : CtI l D cA y_B_words b_B_words 1 (some .int) ({ frames := 3, cells := 0, slots := 0, locals := 63 } : Room) [.ref h] (bo h c0 d0 s0 r0 (n) :: (shW cA s0 s01 s02 3000 13 Ls Bs (k))) (fun r (_ : Unit) => r = nI (wI n f).length) (fun _ => (bo h c0 d0 s0 r0 (n) :: (shW cA s0 s01 s02 3000 13 Ls Bs (k)))) := by
  subst hk
  refine CtI.start (lv0 := [(0, .ref h)]) (by decide) rfl (Nat.le_of_ble_eq_true rfl) ?_
  intro p_ e_ s_ m_ args_ below_ meth_ c_ A_ C hr hin
  have hn1 := hS.in
  refine x_aload_n C d_B_words_0 rfl rfl ?_
  refine x_get C d_B_words_1 0 rfl rfl i_B 2 (by decide) lk_B_21 rfl rfl ?_
  refine x_getN C d_B_words_4 1 rfl rfl i_S 2 (by decide) lk_B_39 rfl rfl ?_
  refine x_iconst (v := (nI (1))) C d_B_words_7 (by decide) ?_
  refine x_icmp_geN (tgt := 15) C d_B_words_8 (by decide) (by omega) (by omega) (fun c8 => ?_) (fun c8 => ?_)
  · refine x_aload_n C d_B_words_15 rfl rfl ?_
    refine x_get C d_B_words_16 0 rfl rfl i_B 2 (by decide) lk_B_21 rfl rfl ?_
    refine x_aload_n C d_B_words_19 rfl rfl ?_
    refine x_get C d_B_words_20 0 rfl rfl i_B 2 (by decide) lk_B_21 rfl rfl ?_
    refine x_getN C d_B_words_23 1 rfl rfl i_S 2 (by decide) lk_B_39 rfl rfl ?_
    refine x_iconst (v := (nI (1))) C d_B_words_26 (by decide) ?_
    refine x_isubN C d_B_words_27 (by omega) ?_
    refine x_top (y := (nI (ss.length))) (by congr 1) ?_
    refine x_callVI (wr := [(h, .inr (1, [.ref c0, .ref d0, .ref s0, .ref r0, .int (nI n)]))]) (rest := []) C (c_S_size (i := ss.length) hS (by simp) (by simp)) d_B_words_28 cd_S_size lk_B_81 dd_S_size rfl ⟨Nat.le_of_ble_eq_true rfl, Nat.le_of_ble_eq_true rfl⟩ ⟨Nat.le_refl _, Nat.le_refl _⟩ 0 0 rfl rfl [1, 2, 3] [0] rfl rfl (by decide) (by decide) (by decide) rfl (Nat.le_of_ble_eq_true rfl) ?_
    intro r_ u_ hp_
    obtain rfl := hp_
    exact x_iret C hr d_B_words_31 () rfl (by congr 1; simp)
  · exact absurd c8 (by omega)
set_option maxHeartbeats 4000000 in
theorem c_B_word {l : Launch} {D : va_G} {cA : ClassId} {h c0 d0 s0 r0 n : Nat} {s01 s02 : Nat} {Ls Bs : Nat → Int32} {k : Nat} {ss : List (List Int32)} {f : Nat → Bool} (hS : Hs 3000 13 Ls Bs (ss ++ [wI n f])) (hk : ss.length + 1 = k) {x : Int32}  : CtI l D cA y_B_word b_B_word 2 (some .int) ({ frames := 4, cells := 0, slots := 0, locals := 85 } : Room) [.ref h, .int x] (bo h c0 d0 s0 r0 (n) :: (shW cA s0 s01 s02 3000 13 Ls Bs (k))) (fun r (_ : Unit) => r = if ¬ x < 0 ∧ x < nI (wI n f).length then (wI n f).getD x.toNatClampNeg 0 else nI 0) (fun _ => (bo h c0 d0 s0 r0 (n) :: (shW cA s0 s01 s02 3000 13 Ls Bs (k)))) := by
  subst hk
  refine CtI.start (lv0 := [(0, .ref h), (1, .int x)]) (by decide) rfl (Nat.le_of_ble_eq_true rfl) ?_
  intro p_ e_ s_ m_ args_ below_ meth_ c_ A_ C hr hin
  have hn1 := hS.in
  refine x_aload_n C d_B_word_0 rfl rfl ?_
  refine x_get C d_B_word_1 0 rfl rfl i_B 2 (by decide) lk_B_21 rfl rfl ?_
  refine x_getN C d_B_word_4 1 rfl rfl i_S 2 (by decide) lk_B_39 rfl rfl ?_
  refine x_iconst (v := (nI (1))) C d_B_word_7 (by decide) ?_
  refine x_icmp_geN (tgt := 15) C d_B_word_8 (by decide) (by omega) (by omega) (fun c8 => ?_) (fun c8 => ?_)
  · refine x_aload_n C d_B_word_15 rfl rfl ?_
    refine x_get C d_B_word_16 0 rfl rfl i_B 2 (by decide) lk_B_21 rfl rfl ?_
    refine x_aload_n C d_B_word_19 rfl rfl ?_
    refine x_get C d_B_word_20 0 rfl rfl i_B 2 (by decide) lk_B_21 rfl rfl ?_
    refine x_getN C d_B_word_23 1 rfl rfl i_S 2 (by decide) lk_B_39 rfl rfl ?_
    refine x_iconst (v := (nI (1))) C d_B_word_26 (by decide) ?_
    refine x_isubN C d_B_word_27 (by omega) ?_
    refine x_top (y := (nI (ss.length))) (by congr 1) ?_
    refine x_iload_n C d_B_word_28 rfl rfl ?_
    refine x_callVI (wr := [(h, .inr (1, [.ref c0, .ref d0, .ref s0, .ref r0, .int (nI n)]))]) (rest := []) C (c_S_wordOf (i := ss.length) (x := x) hS (by simp) (by simp)) d_B_word_29 cd_S_wordOf lk_B_84 dd_S_wordOf rfl ⟨Nat.le_of_ble_eq_true rfl, Nat.le_of_ble_eq_true rfl⟩ ⟨Nat.le_refl _, Nat.le_refl _⟩ 0 0 rfl rfl [1, 2, 3] [0] rfl rfl (by decide) (by decide) (by decide) rfl (Nat.le_of_ble_eq_true rfl) ?_
    intro r_ u_ hp_
    exact x_iret C hr d_B_word_32 () rfl (by rw [hp_]; simp)
  · exact absurd c8 (by omega)
set_option maxHeartbeats 4000000 in
theorem c_B_pop {l : Launch} {D : va_G} {cA : ClassId} {h c0 d0 s0 r0 n : Nat} {s01 s02 : Nat} {Ls Bs : Nat → Int32} {k : Nat} {ss : List (List Int32)} {f : Nat → Bool} (hS : Hs 3000 13 Ls Bs (ss ++ [wI n f])) (hk : ss.length + 1 = k)  : CtI l D cA y_B_pop b_B_pop 1 (some .int) ({ frames := 1, cells := 0, slots := 0, locals := 20 } : Room) [.ref h] (bo h c0 d0 s0 r0 (n) :: (shW cA s0 s01 s02 3000 13 Ls Bs (k))) (fun r (_ : Unit) => r = nI (k - 1)) (fun _ => (bo h c0 d0 s0 r0 (n) :: (shW cA s0 s01 s02 3000 13 Ls Bs (k - 1)))) := by
  subst hk
  refine CtI.start (lv0 := [(0, .ref h)]) (by decide) rfl (Nat.le_of_ble_eq_true rfl) ?_
  intro p_ e_ s_ m_ args_ below_ meth_ c_ A_ C hr hin
  have hn1 := hS.in
  refine x_aload_n C d_B_pop_0 rfl rfl ?_
  refine x_get C d_B_pop_1 0 rfl rfl i_B 2 (by decide) lk_B_21 rfl rfl ?_
  refine x_getN C d_B_pop_4 1 rfl rfl i_S 2 (by decide) lk_B_39 rfl rfl ?_
  refine x_iconst (v := (nI (1))) C d_B_pop_7 (by decide) ?_
  refine x_icmp_geN (tgt := 14) C d_B_pop_8 (by decide) (by omega) (by omega) (fun c8 => ?_) (fun c8 => ?_)
  · refine x_aload_n C d_B_pop_14 rfl rfl ?_
    refine x_get C d_B_pop_15 0 rfl rfl i_B 2 (by decide) lk_B_21 rfl rfl ?_
    refine x_callVV (wr := [(h, .inr (1, [.ref c0, .ref d0, .ref s0, .ref r0, .int (nI n)]))]) (rest := []) C (c_S_drop hS rfl) d_B_pop_18 cd_S_drop lk_B_87 dd_S_drop rfl ⟨Nat.le_of_ble_eq_true rfl, Nat.le_of_ble_eq_true rfl⟩ ⟨Nat.le_refl _, Nat.le_refl _⟩ 0 0 rfl rfl [1, 2, 3] [0] rfl rfl (by decide) (by decide) (by decide) rfl (Nat.le_of_ble_eq_true rfl) ?_
    intro u_ hp_
    refine x_aload_n C d_B_pop_21 rfl rfl ?_
    refine x_get C d_B_pop_22 0 rfl rfl i_B 2 (by decide) lk_B_21 rfl rfl ?_
    refine x_getN C d_B_pop_25 1 rfl rfl i_S 2 (by decide) lk_B_39 rfl rfl ?_
    exact x_iret C hr d_B_pop_28 () rfl (rfl)
  · exact absurd c8 (by omega)
set_option maxHeartbeats 4000000 in
theorem c_B_after_out {l : Launch} {D : va_G} {cA : ClassId} {h c0 d0 s0 r0 n : Nat} {s01 s02 : Nat} {Ls Bs : Nat → Int32} {k : Nat} {ss : List (List Int32)} {f : Nat → Bool} (hS : Hs 3000 13 Ls Bs (ss ++ [wI n f])) (hk : ss.length + 1 = k) {x : Int32} (hx : nI n ≤ x)  : CtI l D cA y_B_after b_B_after 2 (some .int) ({ frames := 3, cells := 0, slots := 0, locals := 71 } : Room) [.ref h, .int x] (bo h c0 d0 s0 r0 (n) :: (shW cA s0 s01 s02 3000 13 Ls Bs (k))) (fun r (_ : Unit) => r = -1) (fun _ => (bo h c0 d0 s0 r0 (n) :: (shW cA s0 s01 s02 3000 13 Ls Bs (k)))) := by
  subst hk
  refine CtI.start (lv0 := [(0, .ref h), (1, .int x)]) (by decide) rfl (Nat.le_of_ble_eq_true rfl) ?_
  intro p_ e_ s_ m_ args_ below_ meth_ c_ A_ C hr hin
  have hn1 := hS.in
  refine x_aload_n C d_B_after_0 rfl rfl ?_
  refine x_get C d_B_after_1 0 rfl rfl i_B 2 (by decide) lk_B_21 rfl rfl ?_
  refine x_getN C d_B_after_4 1 rfl rfl i_S 2 (by decide) lk_B_39 rfl rfl ?_
  refine x_iconst (v := (nI (1))) C d_B_after_7 (by decide) ?_
  refine x_icmp_ltN (tgt := 19) C d_B_after_8 (by decide) (by omega) (by omega) (fun c8 => ?_) (fun c8 => ?_)
  · exact absurd c8 (by omega)
  · refine x_iload_n C d_B_after_11 rfl rfl ?_
    refine x_aload_n C d_B_after_12 rfl rfl ?_
    refine x_get C d_B_after_13 0 rfl rfl i_B 4 (by decide) lk_B_27 rfl rfl ?_
    refine x_icmp_lt (tgt := 21) C d_B_after_16 (by decide)  (fun c16 => ?_) (fun c16 => ?_)
    · exact absurd c16 (Int32.not_lt.mpr hx)
    · refine x_iconst (v := ((-1))) C d_B_after_19 (by decide) ?_
      exact x_iret C hr d_B_after_20 () rfl (rfl)
set_option maxHeartbeats 4000000 in
theorem c_B_after_neg {l : Launch} {D : va_G} {cA : ClassId} {h c0 d0 s0 r0 n : Nat} {s01 s02 : Nat} {Ls Bs : Nat → Int32} {k : Nat} {ss : List (List Int32)} {f : Nat → Bool} (hS : Hs 3000 13 Ls Bs (ss ++ [wI n f])) (hk : ss.length + 1 = k) {x : Int32} (hx : x < 0) (hs : sup n f) (hn : n ≤ 1000000)  : CtI l D cA y_B_after b_B_after 2 (some .int) ({ frames := 3, cells := 0, slots := 0, locals := 71 } : Room) [.ref h, .int x] (bo h c0 d0 s0 r0 (n) :: (shW cA s0 s01 s02 3000 13 Ls Bs (k))) (fun r (_ : Unit) => fst f 0 r) (fun _ => (bo h c0 d0 s0 r0 (n) :: (shW cA s0 s01 s02 3000 13 Ls Bs (k)))) := by
  subst hk
  refine CtI.start (lv0 := [(0, .ref h), (1, .int x)]) (by decide) rfl (Nat.le_of_ble_eq_true rfl) ?_
  intro p_ e_ s_ m_ args_ below_ meth_ c_ A_ C hr hin
  have hn1 := hS.in
  refine x_aload_n C d_B_after_0 rfl rfl ?_
  refine x_get C d_B_after_1 0 rfl rfl i_B 2 (by decide) lk_B_21 rfl rfl ?_
  refine x_getN C d_B_after_4 1 rfl rfl i_S 2 (by decide) lk_B_39 rfl rfl ?_
  refine x_iconst (v := (nI (1))) C d_B_after_7 (by decide) ?_
  refine x_icmp_ltN (tgt := 19) C d_B_after_8 (by decide) (by omega) (by omega) (fun c8 => ?_) (fun c8 => ?_)
  · exact absurd c8 (by omega)
  · refine x_iload_n C d_B_after_11 rfl rfl ?_
    refine x_aload_n C d_B_after_12 rfl rfl ?_
    refine x_get C d_B_after_13 0 rfl rfl i_B 4 (by decide) lk_B_27 rfl rfl ?_
    refine x_icmp_lt (tgt := 21) C d_B_after_16 (by decide)  (fun c16 => ?_) (fun c16 => ?_)
    · refine x_aload_n C d_B_after_21 rfl rfl ?_
      refine x_get C d_B_after_22 0 rfl rfl i_B 2 (by decide) lk_B_21 rfl rfl ?_
      refine x_aload_n C d_B_after_25 rfl rfl ?_
      refine x_get C d_B_after_26 0 rfl rfl i_B 2 (by decide) lk_B_21 rfl rfl ?_
      refine x_getN C d_B_after_29 1 rfl rfl i_S 2 (by decide) lk_B_39 rfl rfl ?_
      refine x_iconst (v := (nI (1))) C d_B_after_32 (by decide) ?_
      refine x_isubN C d_B_after_33 (by omega) ?_
      refine x_top (y := (nI (ss.length))) (by congr 1) ?_
      refine x_iload_n C d_B_after_34 rfl rfl ?_
      refine x_iconst (v := ((-1))) C d_B_after_35 (by decide) ?_
      refine x_mmax C d_B_after_36 lk_B_72 ma_max_st ini_Ma ma_max_cd ⟨Nat.le_of_ble_eq_true rfl, Nat.le_of_ble_eq_true rfl, Nat.zero_le _, Nat.zero_le _⟩  ?_
      refine x_iconst (v := (nI (1))) C d_B_after_39 (by decide) ?_
      refine x_iadd C d_B_after_40  ?_
      refine x_top (y := (nI (0))) (aft_neg hx) ?_
      refine x_callVI (wr := [(h, .inr (1, [.ref c0, .ref d0, .ref s0, .ref r0, .int (nI n)]))]) (rest := []) C (c_S_firstFrom (fs := Wd n f) (row := 0) hS rfl (Wd_rep n f) hs (by omega) hn) d_B_after_41 cd_S_firstFrom lk_B_78 dd_S_firstFrom rfl ⟨Nat.le_of_ble_eq_true rfl, Nat.le_of_ble_eq_true rfl⟩ ⟨Nat.le_refl _, Nat.le_refl _⟩ 0 0 rfl rfl [1, 2, 3] [0] rfl rfl (by decide) (by decide) (by decide) rfl (Nat.le_of_ble_eq_true rfl) ?_
      intro r_ u_ hp_
      exact x_iret C hr d_B_after_44 () rfl (hp_)
    · exact absurd (Int32.lt_of_lt_of_le hx (nI_pos' (by omega))) c16
set_option maxHeartbeats 4000000 in
theorem c_B_after_pos {l : Launch} {D : va_G} {cA : ClassId} {h c0 d0 s0 r0 n : Nat} {s01 s02 : Nat} {Ls Bs : Nat → Int32} {k : Nat} {ss : List (List Int32)} {f : Nat → Bool} (hS : Hs 3000 13 Ls Bs (ss ++ [wI n f])) (hk : ss.length + 1 = k) {j : Nat} (hj : j < n) (hs : sup n f) (hn : n ≤ 1000000)  : CtI l D cA y_B_after b_B_after 2 (some .int) ({ frames := 3, cells := 0, slots := 0, locals := 71 } : Room) [.ref h, .int (nI j)] (bo h c0 d0 s0 r0 (n) :: (shW cA s0 s01 s02 3000 13 Ls Bs (k))) (fun r (_ : Unit) => fst f (j + 1) r) (fun _ => (bo h c0 d0 s0 r0 (n) :: (shW cA s0 s01 s02 3000 13 Ls Bs (k)))) := by
  subst hk
  refine CtI.start (lv0 := [(0, .ref h), (1, .int (nI j))]) (by decide) rfl (Nat.le_of_ble_eq_true rfl) ?_
  intro p_ e_ s_ m_ args_ below_ meth_ c_ A_ C hr hin
  have hn1 := hS.in
  refine x_aload_n C d_B_after_0 rfl rfl ?_
  refine x_get C d_B_after_1 0 rfl rfl i_B 2 (by decide) lk_B_21 rfl rfl ?_
  refine x_getN C d_B_after_4 1 rfl rfl i_S 2 (by decide) lk_B_39 rfl rfl ?_
  refine x_iconst (v := (nI (1))) C d_B_after_7 (by decide) ?_
  refine x_icmp_ltN (tgt := 19) C d_B_after_8 (by decide) (by omega) (by omega) (fun c8 => ?_) (fun c8 => ?_)
  · exact absurd c8 (by omega)
  · refine x_iload_n C d_B_after_11 rfl rfl ?_
    refine x_aload_n C d_B_after_12 rfl rfl ?_
    refine x_get C d_B_after_13 0 rfl rfl i_B 4 (by decide) lk_B_27 rfl rfl ?_
    refine x_icmp_ltN (tgt := 21) C d_B_after_16 (by decide) (by omega) (by omega) (fun c16 => ?_) (fun c16 => ?_)
    · refine x_aload_n C d_B_after_21 rfl rfl ?_
      refine x_get C d_B_after_22 0 rfl rfl i_B 2 (by decide) lk_B_21 rfl rfl ?_
      refine x_aload_n C d_B_after_25 rfl rfl ?_
      refine x_get C d_B_after_26 0 rfl rfl i_B 2 (by decide) lk_B_21 rfl rfl ?_
      refine x_getN C d_B_after_29 1 rfl rfl i_S 2 (by decide) lk_B_39 rfl rfl ?_
      refine x_iconst (v := (nI (1))) C d_B_after_32 (by decide) ?_
      refine x_isubN C d_B_after_33 (by omega) ?_
      refine x_top (y := (nI (ss.length))) (by congr 1) ?_
      refine x_iload_n C d_B_after_34 rfl rfl ?_
      refine x_iconst (v := ((-1))) C d_B_after_35 (by decide) ?_
      refine x_mmax C d_B_after_36 lk_B_72 ma_max_st ini_Ma ma_max_cd ⟨Nat.le_of_ble_eq_true rfl, Nat.le_of_ble_eq_true rfl, Nat.zero_le _, Nat.zero_le _⟩  ?_
      refine x_iconst (v := (nI (1))) C d_B_after_39 (by decide) ?_
      refine x_iadd C d_B_after_40  ?_
      refine x_top (y := (nI (j + 1))) (aft_pos (by omega)) ?_
      refine x_callVI (wr := [(h, .inr (1, [.ref c0, .ref d0, .ref s0, .ref r0, .int (nI n)]))]) (rest := []) C (c_S_firstFrom (fs := Wd n f) (row := j + 1) hS rfl (Wd_rep n f) hs (by omega) hn) d_B_after_41 cd_S_firstFrom lk_B_78 dd_S_firstFrom rfl ⟨Nat.le_of_ble_eq_true rfl, Nat.le_of_ble_eq_true rfl⟩ ⟨Nat.le_refl _, Nat.le_refl _⟩ 0 0 rfl rfl [1, 2, 3] [0] rfl rfl (by decide) (by decide) (by decide) rfl (Nat.le_of_ble_eq_true rfl) ?_
      intro r_ u_ hp_
      exact x_iret C hr d_B_after_44 () rfl (hp_)
    · exact absurd c16 (by omega)
set_option maxHeartbeats 4000000 in
theorem c_B_copy {l : Launch} {D : va_G} {cA : ClassId} {h c0 d0 s0 r0 n : Nat} {s01 s02 : Nat} {Ls Bs : Nat → Int32} {k : Nat} {ss : List (List Int32)} {f : Nat → Bool} (hS : Hs 3000 13 Ls Bs (ss ++ [wI n f])) (hk : ss.length + 1 = k) (h12 : k < 12) (hfit : tot (ss ++ [wI n f]) + (wI n f).length ≤ 3000)  : CtI l D cA y_B_copy b_B_copy 1 (some .int) ({ frames := 5, cells := 0, slots := 0, locals := 108 } : Room) [.ref h] (bo h c0 d0 s0 r0 (n) :: (shW cA s0 s01 s02 3000 13 Ls Bs (k))) (fun r (u : (Nat → Int32) × (Nat → Int32)) => r = nI (k + 1) ∧ Hs 3000 13 u.1 u.2 (ss ++ [wI n f] ++ [wI n f])) (fun u => (bo h c0 d0 s0 r0 (n) :: (shW cA s0 s01 s02 3000 13 u.1 u.2 (k + 1)))) := by
  subst hk
  refine CtI.start (lv0 := [(0, .ref h)]) (by decide) rfl (Nat.le_of_ble_eq_true rfl) ?_
  intro p_ e_ s_ m_ args_ below_ meth_ c_ A_ C hr hin
  have hn1 := hS.in
  refine x_aload_n C d_B_copy_0 rfl rfl ?_
  refine x_get C d_B_copy_1 0 rfl rfl i_B 2 (by decide) lk_B_21 rfl rfl ?_
  refine x_getN C d_B_copy_4 1 rfl rfl i_S 2 (by decide) lk_B_39 rfl rfl ?_
  refine x_iconst (v := (nI (1))) C d_B_copy_7 (by decide) ?_
  refine x_icmp_geN (tgt := 14) C d_B_copy_8 (by decide) (by omega) (by omega) (fun c8 => ?_) (fun c8 => ?_)
  · refine x_aload_n C d_B_copy_14 rfl rfl ?_
    refine x_aload_n C d_B_copy_15 rfl rfl ?_
    refine x_get C d_B_copy_16 0 rfl rfl i_B 2 (by decide) lk_B_21 rfl rfl ?_
    refine x_aload_n C d_B_copy_19 rfl rfl ?_
    refine x_get C d_B_copy_20 0 rfl rfl i_B 2 (by decide) lk_B_21 rfl rfl ?_
    refine x_getN C d_B_copy_23 1 rfl rfl i_S 2 (by decide) lk_B_39 rfl rfl ?_
    refine x_iconst (v := (nI (1))) C d_B_copy_26 (by decide) ?_
    refine x_isubN C d_B_copy_27 (by omega) ?_
    refine x_top (y := (nI (ss.length))) (by congr 1) ?_
    refine x_callVI (wr := []) (rest := []) C (c_B_stackUp_self (i := ss.length) hS (by simp) (by simp) (by omega) (by simpa using hfit)) d_B_copy_28 cd_B_stackUp lk_B_53 dd_B_stackUp rfl ⟨Nat.le_of_ble_eq_true rfl, Nat.le_of_ble_eq_true rfl⟩ ⟨Nat.le_refl _, Nat.le_refl _⟩ 1 0 rfl rfl [0, 1, 2, 3] [] rfl rfl (by decide) (by decide) (by decide) rfl (Nat.le_of_ble_eq_true rfl) ?_
    intro r_ u28 hp_
    obtain ⟨rfl, hp28⟩ := hp_
    exact x_iret C hr d_B_copy_31 u28 rfl (⟨rfl, by simpa using hp28⟩)
  · exact absurd c8 (by omega)
set_option maxHeartbeats 4000000 in
theorem c_B_copy_full {l : Launch} {D : va_G} {cA : ClassId} {h c0 d0 s0 r0 n : Nat} {s01 s02 : Nat} {Ls Bs : Nat → Int32} {k : Nat} {ss : List (List Int32)} {f : Nat → Bool} (hS : Hs 3000 13 Ls Bs (ss ++ [wI n f])) (hk : ss.length + 1 = k) (hno : 12 ≤ k ∨ 3000 < tot (ss ++ [wI n f]) + (wI n f).length)  : CtI l D cA y_B_copy b_B_copy 1 (some .int) ({ frames := 5, cells := 0, slots := 0, locals := 108 } : Room) [.ref h] (bo h c0 d0 s0 r0 (n) :: (shW cA s0 s01 s02 3000 13 Ls Bs (k))) (fun r (_ : Unit) => r = -3) (fun _ => (bo h c0 d0 s0 r0 (n) :: (shW cA s0 s01 s02 3000 13 Ls Bs (k)))) := by
  subst hk
  refine CtI.start (lv0 := [(0, .ref h)]) (by decide) rfl (Nat.le_of_ble_eq_true rfl) ?_
  intro p_ e_ s_ m_ args_ below_ meth_ c_ A_ C hr hin
  have hn1 := hS.in
  refine x_aload_n C d_B_copy_0 rfl rfl ?_
  refine x_get C d_B_copy_1 0 rfl rfl i_B 2 (by decide) lk_B_21 rfl rfl ?_
  refine x_getN C d_B_copy_4 1 rfl rfl i_S 2 (by decide) lk_B_39 rfl rfl ?_
  refine x_iconst (v := (nI (1))) C d_B_copy_7 (by decide) ?_
  refine x_icmp_geN (tgt := 14) C d_B_copy_8 (by decide) (by omega) (by omega) (fun c8 => ?_) (fun c8 => ?_)
  · refine x_aload_n C d_B_copy_14 rfl rfl ?_
    refine x_aload_n C d_B_copy_15 rfl rfl ?_
    refine x_get C d_B_copy_16 0 rfl rfl i_B 2 (by decide) lk_B_21 rfl rfl ?_
    refine x_aload_n C d_B_copy_19 rfl rfl ?_
    refine x_get C d_B_copy_20 0 rfl rfl i_B 2 (by decide) lk_B_21 rfl rfl ?_
    refine x_getN C d_B_copy_23 1 rfl rfl i_S 2 (by decide) lk_B_39 rfl rfl ?_
    refine x_iconst (v := (nI (1))) C d_B_copy_26 (by decide) ?_
    refine x_isubN C d_B_copy_27 (by omega) ?_
    refine x_top (y := (nI (ss.length))) (by congr 1) ?_
    refine x_callVI (wr := []) (rest := []) C (c_B_stackUp_self_full (i := ss.length) hS (by simp) (by simp) (by simpa using hno)) d_B_copy_28 cd_B_stackUp lk_B_53 dd_B_stackUp rfl ⟨Nat.le_of_ble_eq_true rfl, Nat.le_of_ble_eq_true rfl⟩ ⟨Nat.le_refl _, Nat.le_refl _⟩ 1 0 rfl rfl [0, 1, 2, 3] [] rfl rfl (by decide) (by decide) (by decide) rfl (Nat.le_of_ble_eq_true rfl) ?_
    intro r_ u_ hp_
    obtain rfl := hp_
    exact x_iret C hr d_B_copy_31 () rfl (rfl)
  · exact absurd c8 (by omega)
set_option maxHeartbeats 4000000 in
theorem c_B_stackRoom {l : Launch} {D : va_G} {cA : ClassId} {h c0 d0 s0 r0 n : Nat} {s01 s02 : Nat} {Ls Bs : Nat → Int32} {k : Nat} {ss : List (List Int32)} (hS : Hs 3000 13 Ls Bs ss) (hk : ss.length = k)  : CtI l D cA y_B_stackRoom b_B_stackRoom 1 (some .int) ({ frames := 1, cells := 0, slots := 0, locals := 20 } : Room) [.ref h] (bo h c0 d0 s0 r0 (n) :: (shW cA s0 s01 s02 3000 13 Ls Bs (k))) (fun r (_ : Unit) => r = nI (tot ss)) (fun _ => (bo h c0 d0 s0 r0 (n) :: (shW cA s0 s01 s02 3000 13 Ls Bs (k)))) := by
  subst hk
  refine CtI.start (lv0 := [(0, .ref h)]) (by decide) rfl (Nat.le_of_ble_eq_true rfl) ?_
  intro p_ e_ s_ m_ args_ below_ meth_ c_ A_ C hr hin
  refine x_aload_n C d_B_stackRoom_0 rfl rfl ?_
  refine x_get C d_B_stackRoom_1 0 rfl rfl i_B 2 (by decide) lk_B_21 rfl rfl ?_
  refine x_callVI (wr := [(h, .inr (1, [.ref c0, .ref d0, .ref s0, .ref r0, .int (nI n)]))]) (rest := []) C (c_S_used hS rfl) d_B_stackRoom_4 cd_S_used lk_B_49 dd_S_used rfl ⟨Nat.le_of_ble_eq_true rfl, Nat.le_of_ble_eq_true rfl⟩ ⟨Nat.le_refl _, Nat.le_refl _⟩ 0 0 rfl rfl [1, 2, 3] [0] rfl rfl (by decide) (by decide) (by decide) rfl (Nat.le_of_ble_eq_true rfl) ?_
  intro r_ u_ hp_
  obtain rfl := hp_
  exact x_iret C hr d_B_stackRoom_7 () rfl (rfl)
set_option maxHeartbeats 4000000 in
theorem c_B_room {l : Launch} {D : va_G} {cA : ClassId} {h c0 d0 s0 r0 n : Nat} {c01 c02 : Nat} {Lc Bc : Nat → Int32} {k : Nat} {cs : List (List Int32)} (hC : Hs 2096 33 Lc Bc cs) (hk : cs.length = k)  : CtI l D cA y_B_room b_B_room 1 (some .int) ({ frames := 1, cells := 0, slots := 0, locals := 20 } : Room) [.ref h] (bo h c0 d0 s0 r0 (n) :: (shW cA c0 c01 c02 2096 33 Lc Bc (k))) (fun r (_ : Unit) => r = nI (tot cs)) (fun _ => (bo h c0 d0 s0 r0 (n) :: (shW cA c0 c01 c02 2096 33 Lc Bc (k)))) := by
  subst hk
  refine CtI.start (lv0 := [(0, .ref h)]) (by decide) rfl (Nat.le_of_ble_eq_true rfl) ?_
  intro p_ e_ s_ m_ args_ below_ meth_ c_ A_ C hr hin
  refine x_aload_n C d_B_room_0 rfl rfl ?_
  refine x_get C d_B_room_1 0 rfl rfl i_B 0 (by decide) lk_B_14 rfl rfl ?_
  refine x_callVI (wr := [(h, .inr (1, [.ref c0, .ref d0, .ref s0, .ref r0, .int (nI n)]))]) (rest := []) C (c_S_used hC rfl) d_B_room_4 cd_S_used lk_B_49 dd_S_used rfl ⟨Nat.le_of_ble_eq_true rfl, Nat.le_of_ble_eq_true rfl⟩ ⟨Nat.le_refl _, Nat.le_refl _⟩ 0 0 rfl rfl [1, 2, 3] [0] rfl rfl (by decide) (by decide) (by decide) rfl (Nat.le_of_ble_eq_true rfl) ?_
  intro r_ u_ hp_
  obtain rfl := hp_
  exact x_iret C hr d_B_room_7 () rfl (rfl)
set_option maxHeartbeats 4000000 in
theorem c_B_rows {l : Launch} {D : va_G} {cA : ClassId} {h c0 d0 s0 r0 n : Nat}  : CtI l D cA y_B_rows b_B_rows 1 (some .int) ({ frames := 0, cells := 0, slots := 0, locals := 0 } : Room) [.ref h] (bo h c0 d0 s0 r0 (n) :: ([])) (fun r (_ : Unit) => r = nI n) (fun _ => (bo h c0 d0 s0 r0 (n) :: ([]))) := by
  refine CtI.start (lv0 := [(0, .ref h)]) (by decide) rfl (Nat.le_of_ble_eq_true rfl) ?_
  intro p_ e_ s_ m_ args_ below_ meth_ c_ A_ C hr hin
  refine x_aload_n C d_B_rows_0 rfl rfl ?_
  refine x_get C d_B_rows_1 0 rfl rfl i_B 4 (by decide) lk_B_27 rfl rfl ?_
  exact x_iret C hr d_B_rows_4 () rfl (rfl)
set_option maxHeartbeats 4000000 in
theorem c_B_push {l : Launch} {D : va_G} {cA : ClassId} {h c0 d0 s0 r0 n : Nat} {c01 c02 : Nat} {Lc Bc : Nat → Int32} {s01 s02 : Nat} {Ls Bs : Nat → Int32} {k kc : Nat} {ss cs : List (List Int32)} (hC : Hs 2096 33 Lc Bc cs) (hkc : cs.length = kc) (hS : Hs 3000 13 Ls Bs ss) (hk : ss.length = k) {i j : Nat} (hi : i < 2) (hj : j < 16) (hij : i * 16 + j < cs.length) (h12 : k < 12) (hfit : tot ss + (cs.getD (i * 16 + j) []).length ≤ 3000)  : CtI l D cA y_B_push b_B_push 3 (some .int) ({ frames := 5, cells := 0, slots := 0, locals := 108 } : Room) [.ref h, .int (nI i), .int (nI j)] (bo h c0 d0 s0 r0 (n) :: (shW cA s0 s01 s02 3000 13 Ls Bs (k) ++ shW cA c0 c01 c02 2096 33 Lc Bc (kc))) (fun r (u : (Nat → Int32) × (Nat → Int32)) => r = nI (k + 1) ∧ Hs 3000 13 u.1 u.2 (ss ++ [cs.getD (i * 16 + j) []])) (fun u => (bo h c0 d0 s0 r0 (n) :: (shW cA s0 s01 s02 3000 13 u.1 u.2 (k + 1) ++ shW cA c0 c01 c02 2096 33 Lc Bc (kc)))) := by
  refine CtI.start (lv0 := [(0, .ref h), (1, .int (nI i)), (2, .int (nI j))]) (by decide) rfl (Nat.le_of_ble_eq_true rfl) ?_
  intro p_ e_ s_ m_ args_ below_ meth_ c_ A_ C hr hin
  refine x_iload_n C d_B_push_0 rfl rfl ?_
  refine x_if_ltN (tgt := 16) C d_B_push_1 (by decide) (by omega) ?_
  refine x_iload_n C d_B_push_4 rfl rfl ?_
  refine x_iconst (v := (nI (2))) C d_B_push_5 (by decide) ?_
  refine x_icmp_geN (tgt := 16) C d_B_push_6 (by decide) (by omega) (by omega) (fun c6 => ?_) (fun c6 => ?_)
  · exact absurd c6 (by omega)
  · refine x_iload_n C d_B_push_9 rfl rfl ?_
    refine x_callSI (wr := [(h, .inr (1, [.ref c0, .ref d0, .ref s0, .ref r0, .int (nI n)])), (s0, .inr (0, [.ref s01, .ref s02, .int (nI k)])), (s01, .inl (cA, 3000, .inl (Ls))), (s02, .inl (cA, 13, .inl (Bs))), (c0, .inr (0, [.ref c01, .ref c02, .int (nI kc)])), (c01, .inl (cA, 2096, .inl (Lc))), (c02, .inl (cA, 33, .inl (Bc)))]) (rest := []) C (c_B_isValue (x := nI j)) d_B_push_10 cd_B_isValue lk_B_34 dd_B_isValue rfl ⟨Nat.le_of_ble_eq_true rfl, Nat.le_of_ble_eq_true rfl⟩ ⟨Nat.le_refl _, Nat.le_refl _⟩ [] [0, 1, 2, 3, 4, 5, 6] rfl rfl (by decide) (by decide) (by decide) rfl (Nat.le_of_ble_eq_true rfl) ?_
    intro r_ u_ hp_
    obtain rfl := hp_
    refine x_top (y := (nI (1))) (if_pos ⟨nI_pos (by omega), nI_ge (by omega) (by omega)⟩) ?_
    refine x_if_neN (tgt := 18) C d_B_push_13 (by decide) (by omega) (fun c13 => ?_) (fun c13 => ?_)
    · refine x_aload_n C d_B_push_18 rfl rfl ?_
      refine x_aload_n C d_B_push_19 rfl rfl ?_
      refine x_get C d_B_push_20 0 rfl rfl i_B 0 (by decide) lk_B_14 rfl rfl ?_
      refine x_iload_n C d_B_push_23 rfl rfl ?_
      refine x_bipush (v := (nI (16))) C d_B_push_24 (by decide) ?_
      refine x_imulN C d_B_push_26  ?_
      refine x_iload_n C d_B_push_27 rfl rfl ?_
      refine x_iaddN C d_B_push_28  ?_
      refine x_callVI (wr := []) (rest := []) C (c_B_stackUp (i := i * 16 + j) hC hkc hS hk hij h12 hfit) d_B_push_29 cd_B_stackUp lk_B_53 dd_B_stackUp rfl ⟨Nat.le_of_ble_eq_true rfl, Nat.le_of_ble_eq_true rfl⟩ ⟨Nat.le_refl _, Nat.le_refl _⟩ 1 0 rfl rfl [0, 1, 2, 3, 4, 5, 6] [] rfl rfl (by decide) (by decide) (by decide) rfl (Nat.le_of_ble_eq_true rfl) ?_
      intro r_ u29 hp_
      obtain ⟨rfl, hp29⟩ := hp_
      exact x_iret C hr d_B_push_32 u29 rfl (⟨rfl, hp29⟩)
    · exact absurd c13 (by omega)
set_option maxHeartbeats 4000000 in
theorem c_B_push_full {l : Launch} {D : va_G} {cA : ClassId} {h c0 d0 s0 r0 n : Nat} {c01 c02 : Nat} {Lc Bc : Nat → Int32} {s01 s02 : Nat} {Ls Bs : Nat → Int32} {k kc : Nat} {ss cs : List (List Int32)} (hC : Hs 2096 33 Lc Bc cs) (hkc : cs.length = kc) (hS : Hs 3000 13 Ls Bs ss) (hk : ss.length = k) {i j : Nat} (hi : i < 2) (hj : j < 16) (hij : i * 16 + j < cs.length) (hno : 12 ≤ k ∨ 3000 < tot ss + (cs.getD (i * 16 + j) []).length)  : CtI l D cA y_B_push b_B_push 3 (some .int) ({ frames := 5, cells := 0, slots := 0, locals := 108 } : Room) [.ref h, .int (nI i), .int (nI j)] (bo h c0 d0 s0 r0 (n) :: (shW cA s0 s01 s02 3000 13 Ls Bs (k) ++ shW cA c0 c01 c02 2096 33 Lc Bc (kc))) (fun r (_ : Unit) => r = -3) (fun _ => (bo h c0 d0 s0 r0 (n) :: (shW cA s0 s01 s02 3000 13 Ls Bs (k) ++ shW cA c0 c01 c02 2096 33 Lc Bc (kc)))) := by
  refine CtI.start (lv0 := [(0, .ref h), (1, .int (nI i)), (2, .int (nI j))]) (by decide) rfl (Nat.le_of_ble_eq_true rfl) ?_
  intro p_ e_ s_ m_ args_ below_ meth_ c_ A_ C hr hin
  refine x_iload_n C d_B_push_0 rfl rfl ?_
  refine x_if_ltN (tgt := 16) C d_B_push_1 (by decide) (by omega) ?_
  refine x_iload_n C d_B_push_4 rfl rfl ?_
  refine x_iconst (v := (nI (2))) C d_B_push_5 (by decide) ?_
  refine x_icmp_geN (tgt := 16) C d_B_push_6 (by decide) (by omega) (by omega) (fun c6 => ?_) (fun c6 => ?_)
  · exact absurd c6 (by omega)
  · refine x_iload_n C d_B_push_9 rfl rfl ?_
    refine x_callSI (wr := [(h, .inr (1, [.ref c0, .ref d0, .ref s0, .ref r0, .int (nI n)])), (s0, .inr (0, [.ref s01, .ref s02, .int (nI k)])), (s01, .inl (cA, 3000, .inl (Ls))), (s02, .inl (cA, 13, .inl (Bs))), (c0, .inr (0, [.ref c01, .ref c02, .int (nI kc)])), (c01, .inl (cA, 2096, .inl (Lc))), (c02, .inl (cA, 33, .inl (Bc)))]) (rest := []) C (c_B_isValue (x := nI j)) d_B_push_10 cd_B_isValue lk_B_34 dd_B_isValue rfl ⟨Nat.le_of_ble_eq_true rfl, Nat.le_of_ble_eq_true rfl⟩ ⟨Nat.le_refl _, Nat.le_refl _⟩ [] [0, 1, 2, 3, 4, 5, 6] rfl rfl (by decide) (by decide) (by decide) rfl (Nat.le_of_ble_eq_true rfl) ?_
    intro r_ u_ hp_
    obtain rfl := hp_
    refine x_top (y := (nI (1))) (if_pos ⟨nI_pos (by omega), nI_ge (by omega) (by omega)⟩) ?_
    refine x_if_neN (tgt := 18) C d_B_push_13 (by decide) (by omega) (fun c13 => ?_) (fun c13 => ?_)
    · refine x_aload_n C d_B_push_18 rfl rfl ?_
      refine x_aload_n C d_B_push_19 rfl rfl ?_
      refine x_get C d_B_push_20 0 rfl rfl i_B 0 (by decide) lk_B_14 rfl rfl ?_
      refine x_iload_n C d_B_push_23 rfl rfl ?_
      refine x_bipush (v := (nI (16))) C d_B_push_24 (by decide) ?_
      refine x_imulN C d_B_push_26  ?_
      refine x_iload_n C d_B_push_27 rfl rfl ?_
      refine x_iaddN C d_B_push_28  ?_
      refine x_callVI (wr := []) (rest := []) C (c_B_stackUp_full (i := i * 16 + j) hC hkc hS hk hij hno) d_B_push_29 cd_B_stackUp lk_B_53 dd_B_stackUp rfl ⟨Nat.le_of_ble_eq_true rfl, Nat.le_of_ble_eq_true rfl⟩ ⟨Nat.le_refl _, Nat.le_refl _⟩ 1 0 rfl rfl [0, 1, 2, 3, 4, 5, 6] [] rfl rfl (by decide) (by decide) (by decide) rfl (Nat.le_of_ble_eq_true rfl) ?_
      intro r_ u_ hp_
      obtain rfl := hp_
      exact x_iret C hr d_B_push_32 () rfl (rfl)
    · exact absurd c13 (by omega)
set_option maxHeartbeats 4000000 in
theorem c_B_push_bad {l : Launch} {D : va_G} {cA : ClassId} {h c0 d0 s0 r0 n : Nat} {x y : Int32} (hb : x < 0 ∨ nI 2 ≤ x ∨ y < 0 ∨ nI 16 ≤ y)  : CtI l D cA y_B_push b_B_push 3 (some .int) ({ frames := 5, cells := 0, slots := 0, locals := 108 } : Room) [.ref h, .int x, .int y] (bo h c0 d0 s0 r0 (n) :: ([])) (fun r (_ : Unit) => r = -1) (fun _ => (bo h c0 d0 s0 r0 (n) :: ([]))) := by
  refine CtI.start (lv0 := [(0, .ref h), (1, .int x), (2, .int y)]) (by decide) rfl (Nat.le_of_ble_eq_true rfl) ?_
  intro p_ e_ s_ m_ args_ below_ meth_ c_ A_ C hr hin
  refine x_iload_n C d_B_push_0 rfl rfl ?_
  refine x_if_lt (tgt := 16) C d_B_push_1 (by decide)  (fun c1 => ?_) (fun c1 => ?_)
  · refine x_iconst (v := ((-1))) C d_B_push_16 (by decide) ?_
    exact x_iret C hr d_B_push_17 () rfl (rfl)
  · refine x_iload_n C d_B_push_4 rfl rfl ?_
    refine x_iconst (v := (nI (2))) C d_B_push_5 (by decide) ?_
    refine x_icmp_ge (tgt := 16) C d_B_push_6 (by decide)  (fun c6 => ?_) (fun c6 => ?_)
    · refine x_iconst (v := ((-1))) C d_B_push_16 (by decide) ?_
      exact x_iret C hr d_B_push_17 () rfl (rfl)
    · refine x_iload_n C d_B_push_9 rfl rfl ?_
      refine x_callSI (wr := [(h, .inr (1, [.ref c0, .ref d0, .ref s0, .ref r0, .int (nI n)]))]) (rest := []) C (c_B_isValue (x := y)) d_B_push_10 cd_B_isValue lk_B_34 dd_B_isValue rfl ⟨Nat.le_of_ble_eq_true rfl, Nat.le_of_ble_eq_true rfl⟩ ⟨Nat.le_refl _, Nat.le_refl _⟩ [] [0] rfl rfl (by decide) (by decide) (by decide) rfl (Nat.le_of_ble_eq_true rfl) ?_
      intro r_ u_ hp_
      obtain rfl := hp_
      refine x_top (y := (nI (0))) (if_neg (fun q => by rcases hb with z | z | z | z; exact c1 z; exact c6 z; exact q.1 z; exact q.2 z)) ?_
      refine x_if_neN (tgt := 18) C d_B_push_13 (by decide) (by omega) (fun c13 => ?_) (fun c13 => ?_)
      · exact absurd c13 (by omega)
      · refine x_iconst (v := ((-1))) C d_B_push_16 (by decide) ?_
        exact x_iret C hr d_B_push_17 () rfl (rfl)
set_option maxHeartbeats 4000000 in
theorem c_B_join_bad {l : Launch} {D : va_G} {cA : ClassId} {h c0 d0 s0 r0 n : Nat} {x : Int32} (hb : x < 0 ∨ nI 3 < x)  : CtI l D cA y_B_join b_B_join 2 (some .int) ({ frames := 6, cells := 0, slots := 0, locals := 139 } : Room) [.ref h, .int x] (bo h c0 d0 s0 r0 (n) :: ([])) (fun r (_ : Unit) => r = -1) (fun _ => (bo h c0 d0 s0 r0 (n) :: ([]))) := by
  refine CtI.start (lv0 := [(0, .ref h), (1, .int x)]) (by decide) rfl (Nat.le_of_ble_eq_true rfl) ?_
  intro p_ e_ s_ m_ args_ below_ meth_ c_ A_ C hr hin
  refine x_iload_n C d_B_join_0 rfl rfl ?_
  refine x_if_lt (tgt := 9) C d_B_join_1 (by decide)  (fun c1 => ?_) (fun c1 => ?_)
  · refine x_iconst (v := ((-1))) C d_B_join_9 (by decide) ?_
    exact x_iret C hr d_B_join_10 () rfl (rfl)
  · refine x_iload_n C d_B_join_4 rfl rfl ?_
    refine x_iconst (v := (nI (3))) C d_B_join_5 (by decide) ?_
    refine x_icmp_le (tgt := 11) C d_B_join_6 (by decide)  (fun c6 => ?_) (fun c6 => ?_)
    · exact absurd hb (fun z => z.elim (fun z => c1 z) (fun z => absurd c6 (Int32.not_le.mpr z)))
    · refine x_iconst (v := ((-1))) C d_B_join_9 (by decide) ?_
      exact x_iret C hr d_B_join_10 () rfl (rfl)
set_option maxHeartbeats 4000000 in
theorem c_B_join_none {l : Launch} {D : va_G} {cA : ClassId} {h c0 d0 s0 r0 n : Nat} {s01 s02 : Nat} {Ls Bs : Nat → Int32} {op k : Nat} (ho : op ≤ 3) (hk : k < 2)  : CtI l D cA y_B_join b_B_join 2 (some .int) ({ frames := 6, cells := 0, slots := 0, locals := 139 } : Room) [.ref h, .int (nI op)] (bo h c0 d0 s0 r0 (n) :: (shW cA s0 s01 s02 3000 13 Ls Bs (k))) (fun r (_ : Unit) => r = -4) (fun _ => (bo h c0 d0 s0 r0 (n) :: (shW cA s0 s01 s02 3000 13 Ls Bs (k)))) := by
  refine CtI.start (lv0 := [(0, .ref h), (1, .int (nI op))]) (by decide) rfl (Nat.le_of_ble_eq_true rfl) ?_
  intro p_ e_ s_ m_ args_ below_ meth_ c_ A_ C hr hin
  refine x_iload_n C d_B_join_0 rfl rfl ?_
  refine x_if_ltN (tgt := 9) C d_B_join_1 (by decide) (by omega) ?_
  refine x_iload_n C d_B_join_4 rfl rfl ?_
  refine x_iconst (v := (nI (3))) C d_B_join_5 (by decide) ?_
  refine x_icmp_leN (tgt := 11) C d_B_join_6 (by decide) (by omega) (by omega) (fun c6 => ?_) (fun c6 => ?_)
  · refine x_aload_n C d_B_join_11 rfl rfl ?_
    refine x_get C d_B_join_12 0 rfl rfl i_B 2 (by decide) lk_B_21 rfl rfl ?_
    refine x_getN C d_B_join_15 1 rfl rfl i_S 2 (by decide) lk_B_39 rfl rfl ?_
    refine x_iconst (v := (nI (2))) C d_B_join_18 (by decide) ?_
    refine x_icmp_geN (tgt := 25) C d_B_join_19 (by decide) (by omega) (by omega) (fun c19 => ?_) (fun c19 => ?_)
    · exact absurd c19 (by omega)
    · refine x_bipush (v := ((-4))) C d_B_join_22 (by decide) ?_
      exact x_iret C hr d_B_join_24 () rfl (rfl)
  · exact absurd c6 (by omega)
set_option maxHeartbeats 4000000 in
theorem c_B_join {l : Launch} {D : va_G} {cA : ClassId} {h c0 d0 s0 r0 n : Nat} {s01 s02 : Nat} {Ls Bs : Nat → Int32} {r01 r02 : Nat} {Lr Br : Nat → Int32} {k kr : Nat} {ss rr : List (List Int32)} {fA fB : Nat → Bool} {op : Nat} (hS : Hs 3000 13 Ls Bs (ss ++ [wI n fA] ++ [wI n fB])) (hk : ss.length + 2 = k) (hR : Hs 3001 2 Lr Br rr) (hkr : rr.length = kr) (ho : op ≤ 3) (hn : n ≤ 1000000) (hfit : tot ss + (wI n (fun r => jbb op (fA r) (fB r))).length ≤ 3000)  : CtI l D cA y_B_join b_B_join 2 (some .int) ({ frames := 6, cells := 0, slots := 0, locals := 139 } : Room) [.ref h, .int (nI op)] (bo h c0 d0 s0 r0 (n) :: (shW cA s0 s01 s02 3000 13 Ls Bs (k) ++ shW cA r0 r01 r02 3001 2 Lr Br (kr))) (fun r (u : ((Nat → Int32) × (Nat → Int32)) × ((Nat → Int32) × (Nat → Int32))) => r = nI (ss.length + 1) ∧ Hs 3000 13 u.1.1 u.1.2 (ss ++ [wI n (fun r => jbb op (fA r) (fB r))]) ∧ Hs 3001 2 u.2.1 u.2.2 [wI n (fun r => jbb op (fA r) (fB r))]) (fun u => (bo h c0 d0 s0 r0 (n) :: (shW cA s0 s01 s02 3000 13 u.1.1 u.1.2 (ss.length + 1) ++ shW cA r0 r01 r02 3001 2 u.2.1 u.2.2 (1)))) := by
  subst hk
  subst hkr
  refine CtI.start (lv0 := [(0, .ref h), (1, .int (nI op))]) (by decide) rfl (Nat.le_of_ble_eq_true rfl) ?_
  intro p_ e_ s_ m_ args_ below_ meth_ c_ A_ C hr hin
  have hn1 := hS.in
  rw [tot_app, tot_one, List.length_append, List.length_singleton, wI_len, wI_len] at hn1
  refine x_iload_n C d_B_join_0 rfl rfl ?_
  refine x_if_ltN (tgt := 9) C d_B_join_1 (by decide) (by omega) ?_
  refine x_iload_n C d_B_join_4 rfl rfl ?_
  refine x_iconst (v := (nI (3))) C d_B_join_5 (by decide) ?_
  refine x_icmp_leN (tgt := 11) C d_B_join_6 (by decide) (by omega) (by omega) (fun c6 => ?_) (fun c6 => ?_)
  · refine x_aload_n C d_B_join_11 rfl rfl ?_
    refine x_get C d_B_join_12 0 rfl rfl i_B 2 (by decide) lk_B_21 rfl rfl ?_
    refine x_getN C d_B_join_15 1 rfl rfl i_S 2 (by decide) lk_B_39 rfl rfl ?_
    refine x_iconst (v := (nI (2))) C d_B_join_18 (by decide) ?_
    refine x_icmp_geN (tgt := 25) C d_B_join_19 (by decide) (by omega) (by omega) (fun c19 => ?_) (fun c19 => ?_)
    · refine x_aload_n C d_B_join_25 rfl rfl ?_
      refine x_get C d_B_join_26 0 rfl rfl i_B 3 (by decide) lk_B_24 rfl rfl ?_
      refine x_callVV (wr := [(h, .inr (1, [.ref c0, .ref d0, .ref s0, .ref r0, .int (nI n)])), (s0, .inr (0, [.ref s01, .ref s02, .int (nI (ss.length + 2))])), (s01, .inl (cA, 3000, .inl (Ls))), (s02, .inl (cA, 13, .inl (Bs)))]) (rest := []) C (c_S_clear hR rfl) d_B_join_29 cd_S_clear lk_B_42 dd_S_clear rfl ⟨Nat.le_of_ble_eq_true rfl, Nat.le_of_ble_eq_true rfl⟩ ⟨Nat.le_refl _, Nat.le_refl _⟩ 0 0 rfl rfl [4, 5, 6] [0, 1, 2, 3] rfl rfl (by decide) (by decide) (by decide) rfl (Nat.le_of_ble_eq_true rfl) ?_
      intro u_ hp_
      refine x_aload_n C d_B_join_32 rfl rfl ?_
      refine x_get C d_B_join_33 0 rfl rfl i_B 3 (by decide) lk_B_24 rfl rfl ?_
      refine x_callVV (wr := [(h, .inr (1, [.ref c0, .ref d0, .ref s0, .ref r0, .int (nI n)])), (s0, .inr (0, [.ref s01, .ref s02, .int (nI (ss.length + 2))])), (s01, .inl (cA, 3000, .inl (Ls))), (s02, .inl (cA, 13, .inl (Bs)))]) (rest := []) C (c_S_open hR.clear rfl (by simp)) d_B_join_36 cd_S_open lk_B_31 dd_S_open rfl ⟨Nat.le_of_ble_eq_true rfl, Nat.le_of_ble_eq_true rfl⟩ ⟨Nat.le_refl _, Nat.le_refl _⟩ 0 0 rfl rfl [4, 5, 6] [0, 1, 2, 3] rfl rfl (by decide) (by decide) (by decide) rfl (Nat.le_of_ble_eq_true rfl) ?_
      intro u36 hp36
      refine x_aload_n C d_B_join_39 rfl rfl ?_
      refine x_get C d_B_join_40 0 rfl rfl i_B 3 (by decide) lk_B_24 rfl rfl ?_
      refine x_aload_n C d_B_join_43 rfl rfl ?_
      refine x_get C d_B_join_44 0 rfl rfl i_B 2 (by decide) lk_B_21 rfl rfl ?_
      refine x_aload_n C d_B_join_47 rfl rfl ?_
      refine x_get C d_B_join_48 0 rfl rfl i_B 2 (by decide) lk_B_21 rfl rfl ?_
      refine x_getN C d_B_join_51 1 rfl rfl i_S 2 (by decide) lk_B_39 rfl rfl ?_
      refine x_iconst (v := (nI (2))) C d_B_join_54 (by decide) ?_
      refine x_isubN C d_B_join_55 (by omega) ?_
      refine x_top (y := (nI (ss.length))) (by congr 1) ?_
      refine x_aload_n C d_B_join_56 rfl rfl ?_
      refine x_get C d_B_join_57 0 rfl rfl i_B 2 (by decide) lk_B_21 rfl rfl ?_
      refine x_getN C d_B_join_60 1 rfl rfl i_S 2 (by decide) lk_B_39 rfl rfl ?_
      refine x_iconst (v := (nI (1))) C d_B_join_63 (by decide) ?_
      refine x_isubN C d_B_join_64 (by omega) ?_
      refine x_top (y := (nI (ss.length + 1))) (by congr 1) ?_
      refine x_iload_n C d_B_join_65 rfl rfl ?_
      refine x_callVV (wr := [(h, .inr (1, [.ref c0, .ref d0, .ref s0, .ref r0, .int (nI n)]))]) (rest := []) C (c_S_addJoined (ss := []) (pre := ss) (A := Wd n fA) (B := Wd n fB) (op := op) hp36 rfl hS rfl ho (Wd_rep n fA).1 (Wd_rep n fB).1 (by rw [(Wd_rep n fA).2, (Wd_rep n fB).2, GL_len, GL_len]) ((Wd_rep n fA).small hn) (by rw [show tot [] = 0 from rfl]; omega)) d_B_join_66 cd_S_addJoined lk_B_57 dd_S_addJoined rfl ⟨Nat.le_of_ble_eq_true rfl, Nat.le_of_ble_eq_true rfl⟩ ⟨Nat.le_refl _, Nat.le_refl _⟩ 0 0 rfl rfl [4, 5, 6, 1, 2, 3] [0] rfl rfl (by decide) (by decide) (by decide) rfl (Nat.le_of_ble_eq_true rfl) ?_
      intro u66 hp66
      obtain ⟨W9, hw1, hw2, hw3, hw4⟩ := hp66
      rw [zw_rep ho hw1 hw2] at hw4
      refine x_aload_n C d_B_join_69 rfl rfl ?_
      refine x_iconst (v := (nI (2))) C d_B_join_70 (by decide) ?_
      refine x_callVI (wr := []) (rest := []) C (c_B_replaceTop_2 hS rfl hw4 hfit) d_B_join_71 cd_B_replaceTop lk_B_61 dd_B_replaceTop rfl ⟨Nat.le_of_ble_eq_true rfl, Nat.le_of_ble_eq_true rfl⟩ ⟨Nat.le_refl _, Nat.le_refl _⟩ 1 0 rfl rfl [0, 4, 5, 6, 1, 2, 3] [] rfl rfl (by decide) (by decide) (by decide) rfl (Nat.le_of_ble_eq_true rfl) ?_
      intro r_ u71 hp_
      obtain ⟨rfl, hp71⟩ := hp_
      exact x_iret C hr d_B_join_74 (u71, u66) rfl (⟨rfl, hp71, hw4⟩)
    · exact absurd c19 (by omega)
  · exact absurd c6 (by omega)
set_option maxHeartbeats 4000000 in
theorem c_B_join_full {l : Launch} {D : va_G} {cA : ClassId} {h c0 d0 s0 r0 n : Nat} {s01 s02 : Nat} {Ls Bs : Nat → Int32} {r01 r02 : Nat} {Lr Br : Nat → Int32} {k kr : Nat} {ss rr : List (List Int32)} {fA fB : Nat → Bool} {op : Nat} (hS : Hs 3000 13 Ls Bs (ss ++ [wI n fA] ++ [wI n fB])) (hk : ss.length + 2 = k) (hR : Hs 3001 2 Lr Br rr) (hkr : rr.length = kr) (ho : op ≤ 3) (hn : n ≤ 1000000) (hno : 3000 < tot ss + (wI n (fun r => jbb op (fA r) (fB r))).length)  : CtI l D cA y_B_join b_B_join 2 (some .int) ({ frames := 6, cells := 0, slots := 0, locals := 139 } : Room) [.ref h, .int (nI op)] (bo h c0 d0 s0 r0 (n) :: (shW cA s0 s01 s02 3000 13 Ls Bs (k) ++ shW cA r0 r01 r02 3001 2 Lr Br (kr))) (fun r (u : (Nat → Int32) × (Nat → Int32)) => r = -3 ∧ Hs 3001 2 u.1 u.2 [wI n (fun r => jbb op (fA r) (fB r))]) (fun u => (bo h c0 d0 s0 r0 (n) :: (shW cA s0 s01 s02 3000 13 Ls Bs (k) ++ shW cA r0 r01 r02 3001 2 u.1 u.2 (1)))) := by
  subst hk
  subst hkr
  refine CtI.start (lv0 := [(0, .ref h), (1, .int (nI op))]) (by decide) rfl (Nat.le_of_ble_eq_true rfl) ?_
  intro p_ e_ s_ m_ args_ below_ meth_ c_ A_ C hr hin
  have hn1 := hS.in
  rw [tot_app, tot_one, List.length_append, List.length_singleton, wI_len, wI_len] at hn1
  refine x_iload_n C d_B_join_0 rfl rfl ?_
  refine x_if_ltN (tgt := 9) C d_B_join_1 (by decide) (by omega) ?_
  refine x_iload_n C d_B_join_4 rfl rfl ?_
  refine x_iconst (v := (nI (3))) C d_B_join_5 (by decide) ?_
  refine x_icmp_leN (tgt := 11) C d_B_join_6 (by decide) (by omega) (by omega) (fun c6 => ?_) (fun c6 => ?_)
  · refine x_aload_n C d_B_join_11 rfl rfl ?_
    refine x_get C d_B_join_12 0 rfl rfl i_B 2 (by decide) lk_B_21 rfl rfl ?_
    refine x_getN C d_B_join_15 1 rfl rfl i_S 2 (by decide) lk_B_39 rfl rfl ?_
    refine x_iconst (v := (nI (2))) C d_B_join_18 (by decide) ?_
    refine x_icmp_geN (tgt := 25) C d_B_join_19 (by decide) (by omega) (by omega) (fun c19 => ?_) (fun c19 => ?_)
    · refine x_aload_n C d_B_join_25 rfl rfl ?_
      refine x_get C d_B_join_26 0 rfl rfl i_B 3 (by decide) lk_B_24 rfl rfl ?_
      refine x_callVV (wr := [(h, .inr (1, [.ref c0, .ref d0, .ref s0, .ref r0, .int (nI n)])), (s0, .inr (0, [.ref s01, .ref s02, .int (nI (ss.length + 2))])), (s01, .inl (cA, 3000, .inl (Ls))), (s02, .inl (cA, 13, .inl (Bs)))]) (rest := []) C (c_S_clear hR rfl) d_B_join_29 cd_S_clear lk_B_42 dd_S_clear rfl ⟨Nat.le_of_ble_eq_true rfl, Nat.le_of_ble_eq_true rfl⟩ ⟨Nat.le_refl _, Nat.le_refl _⟩ 0 0 rfl rfl [4, 5, 6] [0, 1, 2, 3] rfl rfl (by decide) (by decide) (by decide) rfl (Nat.le_of_ble_eq_true rfl) ?_
      intro u_ hp_
      refine x_aload_n C d_B_join_32 rfl rfl ?_
      refine x_get C d_B_join_33 0 rfl rfl i_B 3 (by decide) lk_B_24 rfl rfl ?_
      refine x_callVV (wr := [(h, .inr (1, [.ref c0, .ref d0, .ref s0, .ref r0, .int (nI n)])), (s0, .inr (0, [.ref s01, .ref s02, .int (nI (ss.length + 2))])), (s01, .inl (cA, 3000, .inl (Ls))), (s02, .inl (cA, 13, .inl (Bs)))]) (rest := []) C (c_S_open hR.clear rfl (by simp)) d_B_join_36 cd_S_open lk_B_31 dd_S_open rfl ⟨Nat.le_of_ble_eq_true rfl, Nat.le_of_ble_eq_true rfl⟩ ⟨Nat.le_refl _, Nat.le_refl _⟩ 0 0 rfl rfl [4, 5, 6] [0, 1, 2, 3] rfl rfl (by decide) (by decide) (by decide) rfl (Nat.le_of_ble_eq_true rfl) ?_
      intro u36 hp36
      refine x_aload_n C d_B_join_39 rfl rfl ?_
      refine x_get C d_B_join_40 0 rfl rfl i_B 3 (by decide) lk_B_24 rfl rfl ?_
      refine x_aload_n C d_B_join_43 rfl rfl ?_
      refine x_get C d_B_join_44 0 rfl rfl i_B 2 (by decide) lk_B_21 rfl rfl ?_
      refine x_aload_n C d_B_join_47 rfl rfl ?_
      refine x_get C d_B_join_48 0 rfl rfl i_B 2 (by decide) lk_B_21 rfl rfl ?_
      refine x_getN C d_B_join_51 1 rfl rfl i_S 2 (by decide) lk_B_39 rfl rfl ?_
      refine x_iconst (v := (nI (2))) C d_B_join_54 (by decide) ?_
      refine x_isubN C d_B_join_55 (by omega) ?_
      refine x_top (y := (nI (ss.length))) (by congr 1) ?_
      refine x_aload_n C d_B_join_56 rfl rfl ?_
      refine x_get C d_B_join_57 0 rfl rfl i_B 2 (by decide) lk_B_21 rfl rfl ?_
      refine x_getN C d_B_join_60 1 rfl rfl i_S 2 (by decide) lk_B_39 rfl rfl ?_
      refine x_iconst (v := (nI (1))) C d_B_join_63 (by decide) ?_
      refine x_isubN C d_B_join_64 (by omega) ?_
      refine x_top (y := (nI (ss.length + 1))) (by congr 1) ?_
      refine x_iload_n C d_B_join_65 rfl rfl ?_
      refine x_callVV (wr := [(h, .inr (1, [.ref c0, .ref d0, .ref s0, .ref r0, .int (nI n)]))]) (rest := []) C (c_S_addJoined (ss := []) (pre := ss) (A := Wd n fA) (B := Wd n fB) (op := op) hp36 rfl hS rfl ho (Wd_rep n fA).1 (Wd_rep n fB).1 (by rw [(Wd_rep n fA).2, (Wd_rep n fB).2, GL_len, GL_len]) ((Wd_rep n fA).small hn) (by rw [show tot [] = 0 from rfl]; omega)) d_B_join_66 cd_S_addJoined lk_B_57 dd_S_addJoined rfl ⟨Nat.le_of_ble_eq_true rfl, Nat.le_of_ble_eq_true rfl⟩ ⟨Nat.le_refl _, Nat.le_refl _⟩ 0 0 rfl rfl [4, 5, 6, 1, 2, 3] [0] rfl rfl (by decide) (by decide) (by decide) rfl (Nat.le_of_ble_eq_true rfl) ?_
      intro u66 hp66
      obtain ⟨W9, hw1, hw2, hw3, hw4⟩ := hp66
      rw [zw_rep ho hw1 hw2] at hw4
      refine x_aload_n C d_B_join_69 rfl rfl ?_
      refine x_iconst (v := (nI (2))) C d_B_join_70 (by decide) ?_
      refine x_callVI (wr := []) (rest := []) C (c_B_replaceTop_2_full hS rfl hw4 hno) d_B_join_71 cd_B_replaceTop lk_B_61 dd_B_replaceTop rfl ⟨Nat.le_of_ble_eq_true rfl, Nat.le_of_ble_eq_true rfl⟩ ⟨Nat.le_refl _, Nat.le_refl _⟩ 1 0 rfl rfl [0, 4, 5, 6, 1, 2, 3] [] rfl rfl (by decide) (by decide) (by decide) rfl (Nat.le_of_ble_eq_true rfl) ?_
      intro r_ u_ hp_
      obtain rfl := hp_
      exact x_iret C hr d_B_join_74 u66 rfl (⟨rfl, hw4⟩)
    · exact absurd c19 (by omega)
  · exact absurd c6 (by omega)
set_option maxHeartbeats 4000000 in
theorem c_B_not {l : Launch} {D : va_G} {cA : ClassId} {h c0 d0 s0 r0 n : Nat} {s01 s02 : Nat} {Ls Bs : Nat → Int32} {r01 r02 : Nat} {Lr Br : Nat → Int32} {k kr : Nat} {ss rr : List (List Int32)} {f : Nat → Bool} (hS : Hs 3000 13 Ls Bs (ss ++ [wI n f])) (hk : ss.length + 1 = k) (hR : Hs 3001 2 Lr Br rr) (hkr : rr.length = kr) (hn : n ≤ 1000000) (hfit : tot ss + (wI n (fnot f n)).length ≤ 3000)  : CtI l D cA y_B_not b_B_not 1 (some .int) ({ frames := 6, cells := 0, slots := 0, locals := 131 } : Room) [.ref h] (bo h c0 d0 s0 r0 (n) :: (shW cA s0 s01 s02 3000 13 Ls Bs (k) ++ shW cA r0 r01 r02 3001 2 Lr Br (kr))) (fun r (u : ((Nat → Int32) × (Nat → Int32)) × ((Nat → Int32) × (Nat → Int32))) => r = nI (ss.length + 1) ∧ Hs 3000 13 u.1.1 u.1.2 (ss ++ [wI n (fnot f n)]) ∧ Hs 3001 2 u.2.1 u.2.2 [wI n (fnot f n)]) (fun u => (bo h c0 d0 s0 r0 (n) :: (shW cA s0 s01 s02 3000 13 u.1.1 u.1.2 (ss.length + 1) ++ shW cA r0 r01 r02 3001 2 u.2.1 u.2.2 (1)))) := by
  subst hk
  subst hkr
  refine CtI.start (lv0 := [(0, .ref h)]) (by decide) rfl (Nat.le_of_ble_eq_true rfl) ?_
  intro p_ e_ s_ m_ args_ below_ meth_ c_ A_ C hr hin
  have hn1 := hS.in
  rw [wI_len] at hn1
  refine x_aload_n C d_B_not_0 rfl rfl ?_
  refine x_get C d_B_not_1 0 rfl rfl i_B 2 (by decide) lk_B_21 rfl rfl ?_
  refine x_getN C d_B_not_4 1 rfl rfl i_S 2 (by decide) lk_B_39 rfl rfl ?_
  refine x_iconst (v := (nI (1))) C d_B_not_7 (by decide) ?_
  refine x_icmp_geN (tgt := 14) C d_B_not_8 (by decide) (by omega) (by omega) (fun c8 => ?_) (fun c8 => ?_)
  · refine x_aload_n C d_B_not_14 rfl rfl ?_
    refine x_get C d_B_not_15 0 rfl rfl i_B 3 (by decide) lk_B_24 rfl rfl ?_
    refine x_callVV (wr := [(h, .inr (1, [.ref c0, .ref d0, .ref s0, .ref r0, .int (nI n)])), (s0, .inr (0, [.ref s01, .ref s02, .int (nI (ss.length + 1))])), (s01, .inl (cA, 3000, .inl (Ls))), (s02, .inl (cA, 13, .inl (Bs)))]) (rest := []) C (c_S_clear hR rfl) d_B_not_18 cd_S_clear lk_B_42 dd_S_clear rfl ⟨Nat.le_of_ble_eq_true rfl, Nat.le_of_ble_eq_true rfl⟩ ⟨Nat.le_refl _, Nat.le_refl _⟩ 0 0 rfl rfl [4, 5, 6] [0, 1, 2, 3] rfl rfl (by decide) (by decide) (by decide) rfl (Nat.le_of_ble_eq_true rfl) ?_
    intro u_ hp_
    refine x_aload_n C d_B_not_21 rfl rfl ?_
    refine x_get C d_B_not_22 0 rfl rfl i_B 3 (by decide) lk_B_24 rfl rfl ?_
    refine x_callVV (wr := [(h, .inr (1, [.ref c0, .ref d0, .ref s0, .ref r0, .int (nI n)])), (s0, .inr (0, [.ref s01, .ref s02, .int (nI (ss.length + 1))])), (s01, .inl (cA, 3000, .inl (Ls))), (s02, .inl (cA, 13, .inl (Bs)))]) (rest := []) C (c_S_open hR.clear rfl (by simp)) d_B_not_25 cd_S_open lk_B_31 dd_S_open rfl ⟨Nat.le_of_ble_eq_true rfl, Nat.le_of_ble_eq_true rfl⟩ ⟨Nat.le_refl _, Nat.le_refl _⟩ 0 0 rfl rfl [4, 5, 6] [0, 1, 2, 3] rfl rfl (by decide) (by decide) (by decide) rfl (Nat.le_of_ble_eq_true rfl) ?_
    intro u36 hp36
    refine x_aload_n C d_B_not_28 rfl rfl ?_
    refine x_get C d_B_not_29 0 rfl rfl i_B 3 (by decide) lk_B_24 rfl rfl ?_
    refine x_aload_n C d_B_not_32 rfl rfl ?_
    refine x_get C d_B_not_33 0 rfl rfl i_B 2 (by decide) lk_B_21 rfl rfl ?_
    refine x_aload_n C d_B_not_36 rfl rfl ?_
    refine x_get C d_B_not_37 0 rfl rfl i_B 2 (by decide) lk_B_21 rfl rfl ?_
    refine x_getN C d_B_not_40 1 rfl rfl i_S 2 (by decide) lk_B_39 rfl rfl ?_
    refine x_iconst (v := (nI (1))) C d_B_not_43 (by decide) ?_
    refine x_isubN C d_B_not_44 (by omega) ?_
    refine x_top (y := (nI (ss.length))) (by congr 1) ?_
    refine x_aload_n C d_B_not_45 rfl rfl ?_
    refine x_get C d_B_not_46 0 rfl rfl i_B 4 (by decide) lk_B_27 rfl rfl ?_
    refine x_bipush (v := (nI (31))) C d_B_not_49 (by decide) ?_
    refine x_iremN C d_B_not_51 (by omega) (by omega) (by omega) ?_
    refine x_callVV (wr := [(h, .inr (1, [.ref c0, .ref d0, .ref s0, .ref r0, .int (nI n)]))]) (rest := []) C (c_S_addOthers (ss := []) (pre := ss) (fs := Wd n f) (f := f) (n := n) hp36 rfl hS rfl (Wd_rep n f) hn (by rw [show tot [] = 0 from rfl]; omega)) d_B_not_52 cd_S_addOthers lk_B_65 dd_S_addOthers rfl ⟨Nat.le_of_ble_eq_true rfl, Nat.le_of_ble_eq_true rfl⟩ ⟨Nat.le_refl _, Nat.le_refl _⟩ 0 0 rfl rfl [4, 5, 6, 1, 2, 3] [0] rfl rfl (by decide) (by decide) (by decide) rfl (Nat.le_of_ble_eq_true rfl) ?_
    intro u66 hp66
    obtain ⟨W9, hw1, hw3, hw4⟩ := hp66
    rw [hw1.eq] at hw4
    refine x_aload_n C d_B_not_55 rfl rfl ?_
    refine x_iconst (v := (nI (1))) C d_B_not_56 (by decide) ?_
    refine x_callVI (wr := []) (rest := []) C (c_B_replaceTop_1 hS rfl hw4 hfit) d_B_not_57 cd_B_replaceTop lk_B_61 dd_B_replaceTop rfl ⟨Nat.le_of_ble_eq_true rfl, Nat.le_of_ble_eq_true rfl⟩ ⟨Nat.le_refl _, Nat.le_refl _⟩ 1 0 rfl rfl [0, 4, 5, 6, 1, 2, 3] [] rfl rfl (by decide) (by decide) (by decide) rfl (Nat.le_of_ble_eq_true rfl) ?_
    intro r_ u71 hp_
    obtain ⟨rfl, hp71⟩ := hp_
    exact x_iret C hr d_B_not_60 (u71, u66) rfl (⟨rfl, hp71, hw4⟩)
  · exact absurd c8 (by omega)
set_option maxHeartbeats 4000000 in
theorem c_B_not_full {l : Launch} {D : va_G} {cA : ClassId} {h c0 d0 s0 r0 n : Nat} {s01 s02 : Nat} {Ls Bs : Nat → Int32} {r01 r02 : Nat} {Lr Br : Nat → Int32} {k kr : Nat} {ss rr : List (List Int32)} {f : Nat → Bool} (hS : Hs 3000 13 Ls Bs (ss ++ [wI n f])) (hk : ss.length + 1 = k) (hR : Hs 3001 2 Lr Br rr) (hkr : rr.length = kr) (hn : n ≤ 1000000) (hno : 3000 < tot ss + (wI n (fnot f n)).length)  : CtI l D cA y_B_not b_B_not 1 (some .int) ({ frames := 6, cells := 0, slots := 0, locals := 131 } : Room) [.ref h] (bo h c0 d0 s0 r0 (n) :: (shW cA s0 s01 s02 3000 13 Ls Bs (k) ++ shW cA r0 r01 r02 3001 2 Lr Br (kr))) (fun r (u : (Nat → Int32) × (Nat → Int32)) => r = -3 ∧ Hs 3001 2 u.1 u.2 [wI n (fnot f n)]) (fun u => (bo h c0 d0 s0 r0 (n) :: (shW cA s0 s01 s02 3000 13 Ls Bs (k) ++ shW cA r0 r01 r02 3001 2 u.1 u.2 (1)))) := by
  subst hk
  subst hkr
  refine CtI.start (lv0 := [(0, .ref h)]) (by decide) rfl (Nat.le_of_ble_eq_true rfl) ?_
  intro p_ e_ s_ m_ args_ below_ meth_ c_ A_ C hr hin
  have hn1 := hS.in
  rw [wI_len] at hn1
  refine x_aload_n C d_B_not_0 rfl rfl ?_
  refine x_get C d_B_not_1 0 rfl rfl i_B 2 (by decide) lk_B_21 rfl rfl ?_
  refine x_getN C d_B_not_4 1 rfl rfl i_S 2 (by decide) lk_B_39 rfl rfl ?_
  refine x_iconst (v := (nI (1))) C d_B_not_7 (by decide) ?_
  refine x_icmp_geN (tgt := 14) C d_B_not_8 (by decide) (by omega) (by omega) (fun c8 => ?_) (fun c8 => ?_)
  · refine x_aload_n C d_B_not_14 rfl rfl ?_
    refine x_get C d_B_not_15 0 rfl rfl i_B 3 (by decide) lk_B_24 rfl rfl ?_
    refine x_callVV (wr := [(h, .inr (1, [.ref c0, .ref d0, .ref s0, .ref r0, .int (nI n)])), (s0, .inr (0, [.ref s01, .ref s02, .int (nI (ss.length + 1))])), (s01, .inl (cA, 3000, .inl (Ls))), (s02, .inl (cA, 13, .inl (Bs)))]) (rest := []) C (c_S_clear hR rfl) d_B_not_18 cd_S_clear lk_B_42 dd_S_clear rfl ⟨Nat.le_of_ble_eq_true rfl, Nat.le_of_ble_eq_true rfl⟩ ⟨Nat.le_refl _, Nat.le_refl _⟩ 0 0 rfl rfl [4, 5, 6] [0, 1, 2, 3] rfl rfl (by decide) (by decide) (by decide) rfl (Nat.le_of_ble_eq_true rfl) ?_
    intro u_ hp_
    refine x_aload_n C d_B_not_21 rfl rfl ?_
    refine x_get C d_B_not_22 0 rfl rfl i_B 3 (by decide) lk_B_24 rfl rfl ?_
    refine x_callVV (wr := [(h, .inr (1, [.ref c0, .ref d0, .ref s0, .ref r0, .int (nI n)])), (s0, .inr (0, [.ref s01, .ref s02, .int (nI (ss.length + 1))])), (s01, .inl (cA, 3000, .inl (Ls))), (s02, .inl (cA, 13, .inl (Bs)))]) (rest := []) C (c_S_open hR.clear rfl (by simp)) d_B_not_25 cd_S_open lk_B_31 dd_S_open rfl ⟨Nat.le_of_ble_eq_true rfl, Nat.le_of_ble_eq_true rfl⟩ ⟨Nat.le_refl _, Nat.le_refl _⟩ 0 0 rfl rfl [4, 5, 6] [0, 1, 2, 3] rfl rfl (by decide) (by decide) (by decide) rfl (Nat.le_of_ble_eq_true rfl) ?_
    intro u36 hp36
    refine x_aload_n C d_B_not_28 rfl rfl ?_
    refine x_get C d_B_not_29 0 rfl rfl i_B 3 (by decide) lk_B_24 rfl rfl ?_
    refine x_aload_n C d_B_not_32 rfl rfl ?_
    refine x_get C d_B_not_33 0 rfl rfl i_B 2 (by decide) lk_B_21 rfl rfl ?_
    refine x_aload_n C d_B_not_36 rfl rfl ?_
    refine x_get C d_B_not_37 0 rfl rfl i_B 2 (by decide) lk_B_21 rfl rfl ?_
    refine x_getN C d_B_not_40 1 rfl rfl i_S 2 (by decide) lk_B_39 rfl rfl ?_
    refine x_iconst (v := (nI (1))) C d_B_not_43 (by decide) ?_
    refine x_isubN C d_B_not_44 (by omega) ?_
    refine x_top (y := (nI (ss.length))) (by congr 1) ?_
    refine x_aload_n C d_B_not_45 rfl rfl ?_
    refine x_get C d_B_not_46 0 rfl rfl i_B 4 (by decide) lk_B_27 rfl rfl ?_
    refine x_bipush (v := (nI (31))) C d_B_not_49 (by decide) ?_
    refine x_iremN C d_B_not_51 (by omega) (by omega) (by omega) ?_
    refine x_callVV (wr := [(h, .inr (1, [.ref c0, .ref d0, .ref s0, .ref r0, .int (nI n)]))]) (rest := []) C (c_S_addOthers (ss := []) (pre := ss) (fs := Wd n f) (f := f) (n := n) hp36 rfl hS rfl (Wd_rep n f) hn (by rw [show tot [] = 0 from rfl]; omega)) d_B_not_52 cd_S_addOthers lk_B_65 dd_S_addOthers rfl ⟨Nat.le_of_ble_eq_true rfl, Nat.le_of_ble_eq_true rfl⟩ ⟨Nat.le_refl _, Nat.le_refl _⟩ 0 0 rfl rfl [4, 5, 6, 1, 2, 3] [0] rfl rfl (by decide) (by decide) (by decide) rfl (Nat.le_of_ble_eq_true rfl) ?_
    intro u66 hp66
    obtain ⟨W9, hw1, hw3, hw4⟩ := hp66
    rw [hw1.eq] at hw4
    refine x_aload_n C d_B_not_55 rfl rfl ?_
    refine x_iconst (v := (nI (1))) C d_B_not_56 (by decide) ?_
    refine x_callVI (wr := []) (rest := []) C (c_B_replaceTop_1_full hS rfl hw4 hno) d_B_not_57 cd_B_replaceTop lk_B_61 dd_B_replaceTop rfl ⟨Nat.le_of_ble_eq_true rfl, Nat.le_of_ble_eq_true rfl⟩ ⟨Nat.le_refl _, Nat.le_refl _⟩ 1 0 rfl rfl [0, 4, 5, 6, 1, 2, 3] [] rfl rfl (by decide) (by decide) (by decide) rfl (Nat.le_of_ble_eq_true rfl) ?_
    intro r_ u_ hp_
    obtain rfl := hp_
    exact x_iret C hr d_B_not_60 u66 rfl (⟨rfl, hw4⟩)
  · exact absurd c8 (by omega)
