abbrev bo (h c0 d0 s0 r0 n : Nat) : Nat × va_E := (h, .inr (1, [.ref c0, .ref d0, .ref s0, .ref r0, .int (nI n)]))
set_option maxHeartbeats 4000000 in
theorem c_B_stackUp {l : Launch} {D : va_G} {cA : ClassId} {h c0 d0 s0 r0 n : Nat} {c01 c02 : Nat} {Lc Bc : Nat → Int32} {s01 s02 : Nat} {Ls Bs : Nat → Int32} {k kc : Nat} {ss cs : List (List Int32)} (hC : Hs 2096 33 Lc Bc cs) (hkc : cs.length = kc) (hS : Hs 3000 13 Ls Bs ss) (hk : ss.length = k) {i : Nat} (hi : i < cs.length) (h12 : k < 12) (hfit : tot ss + (cs.getD i []).length ≤ 3000)  : CtI l D cA y_B_stackUp b_B_stackUp 3 (some .int) ({ frames := 4, cells := 0, slots := 0, locals := 86 } : Room) [.ref h, .ref c0, .int (nI i)] (bo h c0 d0 s0 r0 (n) :: (shW cA s0 s01 s02 3000 13 Ls Bs (k) ++ shW cA c0 c01 c02 2096 33 Lc Bc (kc))) (fun r (u : (Nat → Int32) × (Nat → Int32)) => r = nI (k + 1) ∧ Hs 3000 13 u.1 u.2 (ss ++ [cs.getD i []])) (fun u => (bo h c0 d0 s0 r0 (n) :: (shW cA s0 s01 s02 3000 13 u.1 u.2 (k + 1) ++ shW cA c0 c01 c02 2096 33 Lc Bc (kc)))) := by
  subst hk
  subst hkc
  refine CtI.start (lv0 := [(0, .ref h), (1, .ref c0), (2, .int (nI i))]) (by decide) rfl (Nat.le_of_ble_eq_true rfl) ?_
  intro p_ e_ s_ m_ args_ below_ meth_ c_ A_ C hr hin
  have hn1 := hS.nums
  refine x_aload_n C d_B_stackUp_0 rfl rfl ?_
  refine x_get C d_B_stackUp_1 0 rfl rfl i_B 2 (by decide) lk_B_21 rfl rfl ?_
  refine x_getN C d_B_stackUp_4 1 rfl rfl i_S 2 (by decide) lk_B_39 rfl rfl ?_
  refine x_bipush (v := (nI (12))) C d_B_stackUp_7 (by decide) ?_
  refine x_icmp_geN (tgt := 31) C d_B_stackUp_9 (by decide) (by omega) (by omega) (fun c9 => ?_) (fun c9 => ?_)
  · exact absurd c9 (by omega)
  · refine x_aload_n C d_B_stackUp_12 rfl rfl ?_
    refine x_get C d_B_stackUp_13 0 rfl rfl i_B 2 (by decide) lk_B_21 rfl rfl ?_
    refine x_callVI (wr := [(h, .inr (1, [.ref c0, .ref d0, .ref s0, .ref r0, .int (nI n)])), (c0, .inr (0, [.ref c01, .ref c02, .int (nI (cs.length))])), (c01, .inl (cA, 2096, .inl (Lc))), (c02, .inl (cA, 33, .inl (Bc)))]) (rest := []) C (c_S_used hS rfl) d_B_stackUp_16 cd_S_used lk_B_49 dd_S_used rfl ⟨Nat.le_of_ble_eq_true rfl, Nat.le_of_ble_eq_true rfl⟩ ⟨Nat.le_refl _, Nat.le_refl _⟩ 0 0 rfl rfl [1, 2, 3] [0, 4, 5, 6] rfl rfl (by decide) (by decide) (by decide) rfl (Nat.le_of_ble_eq_true rfl) ?_
    intro r_ u_ hp_
    obtain rfl := hp_
    refine x_aload_n C d_B_stackUp_19 rfl rfl ?_
    refine x_iload_n C d_B_stackUp_20 rfl rfl ?_
    refine x_callVI (wr := [(h, .inr (1, [.ref c0, .ref d0, .ref s0, .ref r0, .int (nI n)])), (s0, .inr (0, [.ref s01, .ref s02, .int (nI (ss.length))])), (s01, .inl (cA, 3000, .inl (Ls))), (s02, .inl (cA, 13, .inl (Bs)))]) (rest := [.int (nI (tot ss))]) C (c_S_size (i := i) hC rfl hi) d_B_stackUp_21 cd_S_size lk_B_81 dd_S_size rfl ⟨Nat.le_of_ble_eq_true rfl, Nat.le_of_ble_eq_true rfl⟩ ⟨Nat.le_refl _, Nat.le_refl _⟩ 0 0 rfl rfl [1, 2, 3] [0, 4, 5, 6] rfl rfl (by decide) (by decide) (by decide) rfl (Nat.le_of_ble_eq_true rfl) ?_
    intro r_ u_ hp_
    obtain rfl := hp_
    refine x_iaddN C d_B_stackUp_24  ?_
    refine x_sipush (v := (nI (3000))) C d_B_stackUp_25 (by decide) ?_
    refine x_icmp_leN (tgt := 34) C d_B_stackUp_28 (by decide) (by omega) (by omega) (fun c28 => ?_) (fun c28 => ?_)
    · refine x_aload_n C d_B_stackUp_34 rfl rfl ?_
      refine x_get C d_B_stackUp_35 0 rfl rfl i_B 2 (by decide) lk_B_21 rfl rfl ?_
      refine x_callVV (wr := [(h, .inr (1, [.ref c0, .ref d0, .ref s0, .ref r0, .int (nI n)])), (c0, .inr (0, [.ref c01, .ref c02, .int (nI (cs.length))])), (c01, .inl (cA, 2096, .inl (Lc))), (c02, .inl (cA, 33, .inl (Bc)))]) (rest := []) C (c_S_open hS rfl (by omega)) d_B_stackUp_38 cd_S_open lk_B_31 dd_S_open rfl ⟨Nat.le_of_ble_eq_true rfl, Nat.le_of_ble_eq_true rfl⟩ ⟨Nat.le_refl _, Nat.le_refl _⟩ 0 0 rfl rfl [1, 2, 3] [0, 4, 5, 6] rfl rfl (by decide) (by decide) (by decide) rfl (Nat.le_of_ble_eq_true rfl) ?_
      intro u38 hp38
      refine x_aload_n C d_B_stackUp_41 rfl rfl ?_
      refine x_get C d_B_stackUp_42 0 rfl rfl i_B 2 (by decide) lk_B_21 rfl rfl ?_
      refine x_aload_n C d_B_stackUp_45 rfl rfl ?_
      refine x_iload_n C d_B_stackUp_46 rfl rfl ?_
      refine x_callVV (wr := [(h, .inr (1, [.ref c0, .ref d0, .ref s0, .ref r0, .int (nI n)]))]) (rest := []) C (c_S_addSet (ss := ss) (s0 := []) hp38 rfl hC rfl hi (by simpa using hfit)) d_B_stackUp_47 cd_S_addSet lk_B_90 dd_S_addSet rfl ⟨Nat.le_of_ble_eq_true rfl, Nat.le_of_ble_eq_true rfl⟩ ⟨Nat.le_refl _, Nat.le_refl _⟩ 0 0 rfl rfl [4, 5, 6, 1, 2, 3] [0] rfl rfl (by decide) (by decide) (by decide) rfl (Nat.le_of_ble_eq_true rfl) ?_
      intro u47 hp47
      refine x_aload_n C d_B_stackUp_50 rfl rfl ?_
      refine x_get C d_B_stackUp_51 0 rfl rfl i_B 2 (by decide) lk_B_21 rfl rfl ?_
      refine x_getN C d_B_stackUp_54 1 rfl rfl i_S 2 (by decide) lk_B_39 rfl rfl ?_
      exact x_iret C hr d_B_stackUp_57 u47 rfl (⟨rfl, hp47⟩)
    · exact absurd c28 (by omega)
set_option maxHeartbeats 4000000 in
theorem c_B_stackUp_full {l : Launch} {D : va_G} {cA : ClassId} {h c0 d0 s0 r0 n : Nat} {c01 c02 : Nat} {Lc Bc : Nat → Int32} {s01 s02 : Nat} {Ls Bs : Nat → Int32} {k kc : Nat} {ss cs : List (List Int32)} (hC : Hs 2096 33 Lc Bc cs) (hkc : cs.length = kc) (hS : Hs 3000 13 Ls Bs ss) (hk : ss.length = k) {i : Nat} (hi : i < cs.length) (hno : 12 ≤ k ∨ 3000 < tot ss + (cs.getD i []).length)  : CtI l D cA y_B_stackUp b_B_stackUp 3 (some .int) ({ frames := 4, cells := 0, slots := 0, locals := 86 } : Room) [.ref h, .ref c0, .int (nI i)] (bo h c0 d0 s0 r0 (n) :: (shW cA s0 s01 s02 3000 13 Ls Bs (k) ++ shW cA c0 c01 c02 2096 33 Lc Bc (kc))) (fun r (_ : Unit) => r = -3) (fun _ => (bo h c0 d0 s0 r0 (n) :: (shW cA s0 s01 s02 3000 13 Ls Bs (k) ++ shW cA c0 c01 c02 2096 33 Lc Bc (kc)))) := by
  subst hk
  subst hkc
  refine CtI.start (lv0 := [(0, .ref h), (1, .ref c0), (2, .int (nI i))]) (by decide) rfl (Nat.le_of_ble_eq_true rfl) ?_
  intro p_ e_ s_ m_ args_ below_ meth_ c_ A_ C hr hin
  have hn1 := hS.nums
  have hn2 := hC.nums
  have hn3 := off_succ hi
  have hn4 := off_le cs (i + 1)
  refine x_aload_n C d_B_stackUp_0 rfl rfl ?_
  refine x_get C d_B_stackUp_1 0 rfl rfl i_B 2 (by decide) lk_B_21 rfl rfl ?_
  refine x_getN C d_B_stackUp_4 1 rfl rfl i_S 2 (by decide) lk_B_39 rfl rfl ?_
  refine x_bipush (v := (nI (12))) C d_B_stackUp_7 (by decide) ?_
  refine x_icmp_geN (tgt := 31) C d_B_stackUp_9 (by decide) (by omega) (by omega) (fun c9 => ?_) (fun c9 => ?_)
  · refine x_bipush (v := ((-3))) C d_B_stackUp_31 (by decide) ?_
    exact x_iret C hr d_B_stackUp_33 () rfl (rfl)
  · refine x_aload_n C d_B_stackUp_12 rfl rfl ?_
    refine x_get C d_B_stackUp_13 0 rfl rfl i_B 2 (by decide) lk_B_21 rfl rfl ?_
    refine x_callVI (wr := [(h, .inr (1, [.ref c0, .ref d0, .ref s0, .ref r0, .int (nI n)])), (c0, .inr (0, [.ref c01, .ref c02, .int (nI (cs.length))])), (c01, .inl (cA, 2096, .inl (Lc))), (c02, .inl (cA, 33, .inl (Bc)))]) (rest := []) C (c_S_used hS rfl) d_B_stackUp_16 cd_S_used lk_B_49 dd_S_used rfl ⟨Nat.le_of_ble_eq_true rfl, Nat.le_of_ble_eq_true rfl⟩ ⟨Nat.le_refl _, Nat.le_refl _⟩ 0 0 rfl rfl [1, 2, 3] [0, 4, 5, 6] rfl rfl (by decide) (by decide) (by decide) rfl (Nat.le_of_ble_eq_true rfl) ?_
    intro r_ u_ hp_
    obtain rfl := hp_
    refine x_aload_n C d_B_stackUp_19 rfl rfl ?_
    refine x_iload_n C d_B_stackUp_20 rfl rfl ?_
    refine x_callVI (wr := [(h, .inr (1, [.ref c0, .ref d0, .ref s0, .ref r0, .int (nI n)])), (s0, .inr (0, [.ref s01, .ref s02, .int (nI (ss.length))])), (s01, .inl (cA, 3000, .inl (Ls))), (s02, .inl (cA, 13, .inl (Bs)))]) (rest := [.int (nI (tot ss))]) C (c_S_size (i := i) hC rfl hi) d_B_stackUp_21 cd_S_size lk_B_81 dd_S_size rfl ⟨Nat.le_of_ble_eq_true rfl, Nat.le_of_ble_eq_true rfl⟩ ⟨Nat.le_refl _, Nat.le_refl _⟩ 0 0 rfl rfl [1, 2, 3] [0, 4, 5, 6] rfl rfl (by decide) (by decide) (by decide) rfl (Nat.le_of_ble_eq_true rfl) ?_
    intro r_ u_ hp_
    obtain rfl := hp_
    refine x_iaddN C d_B_stackUp_24  ?_
    refine x_sipush (v := (nI (3000))) C d_B_stackUp_25 (by decide) ?_
    refine x_icmp_leN (tgt := 34) C d_B_stackUp_28 (by decide) (by omega) (by omega) (fun c28 => ?_) (fun c28 => ?_)
    · exact absurd hno (by omega)
    · refine x_bipush (v := ((-3))) C d_B_stackUp_31 (by decide) ?_
      exact x_iret C hr d_B_stackUp_33 () rfl (rfl)
set_option maxHeartbeats 4000000 in
theorem c_B_stackUp_self {l : Launch} {D : va_G} {cA : ClassId} {h c0 d0 s0 r0 n : Nat} {s01 s02 : Nat} {Ls Bs : Nat → Int32} {k : Nat} {ss : List (List Int32)} (hS : Hs 3000 13 Ls Bs ss) (hk : ss.length = k) {i : Nat} (hi : i < ss.length) (h12 : k < 12) (hfit : tot ss + (ss.getD i []).length ≤ 3000)  : CtI l D cA y_B_stackUp b_B_stackUp 3 (some .int) ({ frames := 4, cells := 0, slots := 0, locals := 86 } : Room) [.ref h, .ref s0, .int (nI i)] (bo h c0 d0 s0 r0 (n) :: (shW cA s0 s01 s02 3000 13 Ls Bs (k))) (fun r (u : (Nat → Int32) × (Nat → Int32)) => r = nI (k + 1) ∧ Hs 3000 13 u.1 u.2 (ss ++ [ss.getD i []])) (fun u => (bo h c0 d0 s0 r0 (n) :: (shW cA s0 s01 s02 3000 13 u.1 u.2 (k + 1)))) := by
  subst hk
  refine CtI.start (lv0 := [(0, .ref h), (1, .ref s0), (2, .int (nI i))]) (by decide) rfl (Nat.le_of_ble_eq_true rfl) ?_
  intro p_ e_ s_ m_ args_ below_ meth_ c_ A_ C hr hin
  have hn1 := hS.nums
  refine x_aload_n C d_B_stackUp_0 rfl rfl ?_
  refine x_get C d_B_stackUp_1 0 rfl rfl i_B 2 (by decide) lk_B_21 rfl rfl ?_
  refine x_getN C d_B_stackUp_4 1 rfl rfl i_S 2 (by decide) lk_B_39 rfl rfl ?_
  refine x_bipush (v := (nI (12))) C d_B_stackUp_7 (by decide) ?_
  refine x_icmp_geN (tgt := 31) C d_B_stackUp_9 (by decide) (by omega) (by omega) (fun c9 => ?_) (fun c9 => ?_)
  · exact absurd c9 (by omega)
  · refine x_aload_n C d_B_stackUp_12 rfl rfl ?_
    refine x_get C d_B_stackUp_13 0 rfl rfl i_B 2 (by decide) lk_B_21 rfl rfl ?_
    refine x_callVI (wr := [(h, .inr (1, [.ref c0, .ref d0, .ref s0, .ref r0, .int (nI n)]))]) (rest := []) C (c_S_used hS rfl) d_B_stackUp_16 cd_S_used lk_B_49 dd_S_used rfl ⟨Nat.le_of_ble_eq_true rfl, Nat.le_of_ble_eq_true rfl⟩ ⟨Nat.le_refl _, Nat.le_refl _⟩ 0 0 rfl rfl [1, 2, 3] [0] rfl rfl (by decide) (by decide) (by decide) rfl (Nat.le_of_ble_eq_true rfl) ?_
    intro r_ u_ hp_
    obtain rfl := hp_
    refine x_aload_n C d_B_stackUp_19 rfl rfl ?_
    refine x_iload_n C d_B_stackUp_20 rfl rfl ?_
    refine x_callVI (wr := [(h, .inr (1, [.ref c0, .ref d0, .ref s0, .ref r0, .int (nI n)]))]) (rest := [.int (nI (tot ss))]) C (c_S_size (i := i) hS rfl hi) d_B_stackUp_21 cd_S_size lk_B_81 dd_S_size rfl ⟨Nat.le_of_ble_eq_true rfl, Nat.le_of_ble_eq_true rfl⟩ ⟨Nat.le_refl _, Nat.le_refl _⟩ 0 0 rfl rfl [1, 2, 3] [0] rfl rfl (by decide) (by decide) (by decide) rfl (Nat.le_of_ble_eq_true rfl) ?_
    intro r_ u_ hp_
    obtain rfl := hp_
    refine x_iaddN C d_B_stackUp_24  ?_
    refine x_sipush (v := (nI (3000))) C d_B_stackUp_25 (by decide) ?_
    refine x_icmp_leN (tgt := 34) C d_B_stackUp_28 (by decide) (by omega) (by omega) (fun c28 => ?_) (fun c28 => ?_)
    · refine x_aload_n C d_B_stackUp_34 rfl rfl ?_
      refine x_get C d_B_stackUp_35 0 rfl rfl i_B 2 (by decide) lk_B_21 rfl rfl ?_
      refine x_callVV (wr := [(h, .inr (1, [.ref c0, .ref d0, .ref s0, .ref r0, .int (nI n)]))]) (rest := []) C (c_S_open hS rfl (by omega)) d_B_stackUp_38 cd_S_open lk_B_31 dd_S_open rfl ⟨Nat.le_of_ble_eq_true rfl, Nat.le_of_ble_eq_true rfl⟩ ⟨Nat.le_refl _, Nat.le_refl _⟩ 0 0 rfl rfl [1, 2, 3] [0] rfl rfl (by decide) (by decide) (by decide) rfl (Nat.le_of_ble_eq_true rfl) ?_
      intro u38 hp38
      refine x_aload_n C d_B_stackUp_41 rfl rfl ?_
      refine x_get C d_B_stackUp_42 0 rfl rfl i_B 2 (by decide) lk_B_21 rfl rfl ?_
      refine x_aload_n C d_B_stackUp_45 rfl rfl ?_
      refine x_iload_n C d_B_stackUp_46 rfl rfl ?_
      refine x_callVV (wr := [(h, .inr (1, [.ref c0, .ref d0, .ref s0, .ref r0, .int (nI n)]))]) (rest := []) C (c_S_addSet_self (ss := ss) (s0 := []) (t0 := ss.getD i []) hp38 rfl (by omega) (by simp [List.getD_eq_getElem?_getD, List.getElem?_append_left hi]) (by simpa using hfit)) d_B_stackUp_47 cd_S_addSet lk_B_90 dd_S_addSet rfl ⟨Nat.le_of_ble_eq_true rfl, Nat.le_of_ble_eq_true rfl⟩ ⟨Nat.le_refl _, Nat.le_refl _⟩ 0 0 rfl rfl [1, 2, 3] [0] rfl rfl (by decide) (by decide) (by decide) rfl (Nat.le_of_ble_eq_true rfl) ?_
      intro u47 hp47
      refine x_aload_n C d_B_stackUp_50 rfl rfl ?_
      refine x_get C d_B_stackUp_51 0 rfl rfl i_B 2 (by decide) lk_B_21 rfl rfl ?_
      refine x_getN C d_B_stackUp_54 1 rfl rfl i_S 2 (by decide) lk_B_39 rfl rfl ?_
      exact x_iret C hr d_B_stackUp_57 u47 rfl (⟨rfl, hp47⟩)
    · exact absurd c28 (by omega)
set_option maxHeartbeats 4000000 in
theorem c_B_stackUp_self_full {l : Launch} {D : va_G} {cA : ClassId} {h c0 d0 s0 r0 n : Nat} {s01 s02 : Nat} {Ls Bs : Nat → Int32} {k : Nat} {ss : List (List Int32)} (hS : Hs 3000 13 Ls Bs ss) (hk : ss.length = k) {i : Nat} (hi : i < ss.length) (hno : 12 ≤ k ∨ 3000 < tot ss + (ss.getD i []).length)  : CtI l D cA y_B_stackUp b_B_stackUp 3 (some .int) ({ frames := 4, cells := 0, slots := 0, locals := 86 } : Room) [.ref h, .ref s0, .int (nI i)] (bo h c0 d0 s0 r0 (n) :: (shW cA s0 s01 s02 3000 13 Ls Bs (k))) (fun r (_ : Unit) => r = -3) (fun _ => (bo h c0 d0 s0 r0 (n) :: (shW cA s0 s01 s02 3000 13 Ls Bs (k)))) := by
  subst hk
  refine CtI.start (lv0 := [(0, .ref h), (1, .ref s0), (2, .int (nI i))]) (by decide) rfl (Nat.le_of_ble_eq_true rfl) ?_
  intro p_ e_ s_ m_ args_ below_ meth_ c_ A_ C hr hin
  have hn1 := hS.nums
  have hn3 := off_succ hi
  have hn4 := off_le ss (i + 1)
  refine x_aload_n C d_B_stackUp_0 rfl rfl ?_
  refine x_get C d_B_stackUp_1 0 rfl rfl i_B 2 (by decide) lk_B_21 rfl rfl ?_
  refine x_getN C d_B_stackUp_4 1 rfl rfl i_S 2 (by decide) lk_B_39 rfl rfl ?_
  refine x_bipush (v := (nI (12))) C d_B_stackUp_7 (by decide) ?_
  refine x_icmp_geN (tgt := 31) C d_B_stackUp_9 (by decide) (by omega) (by omega) (fun c9 => ?_) (fun c9 => ?_)
  · refine x_bipush (v := ((-3))) C d_B_stackUp_31 (by decide) ?_
    exact x_iret C hr d_B_stackUp_33 () rfl (rfl)
  · refine x_aload_n C d_B_stackUp_12 rfl rfl ?_
    refine x_get C d_B_stackUp_13 0 rfl rfl i_B 2 (by decide) lk_B_21 rfl rfl ?_
    refine x_callVI (wr := [(h, .inr (1, [.ref c0, .ref d0, .ref s0, .ref r0, .int (nI n)]))]) (rest := []) C (c_S_used hS rfl) d_B_stackUp_16 cd_S_used lk_B_49 dd_S_used rfl ⟨Nat.le_of_ble_eq_true rfl, Nat.le_of_ble_eq_true rfl⟩ ⟨Nat.le_refl _, Nat.le_refl _⟩ 0 0 rfl rfl [1, 2, 3] [0] rfl rfl (by decide) (by decide) (by decide) rfl (Nat.le_of_ble_eq_true rfl) ?_
    intro r_ u_ hp_
    obtain rfl := hp_
    refine x_aload_n C d_B_stackUp_19 rfl rfl ?_
    refine x_iload_n C d_B_stackUp_20 rfl rfl ?_
    refine x_callVI (wr := [(h, .inr (1, [.ref c0, .ref d0, .ref s0, .ref r0, .int (nI n)]))]) (rest := [.int (nI (tot ss))]) C (c_S_size (i := i) hS rfl hi) d_B_stackUp_21 cd_S_size lk_B_81 dd_S_size rfl ⟨Nat.le_of_ble_eq_true rfl, Nat.le_of_ble_eq_true rfl⟩ ⟨Nat.le_refl _, Nat.le_refl _⟩ 0 0 rfl rfl [1, 2, 3] [0] rfl rfl (by decide) (by decide) (by decide) rfl (Nat.le_of_ble_eq_true rfl) ?_
    intro r_ u_ hp_
    obtain rfl := hp_
    refine x_iaddN C d_B_stackUp_24  ?_
    refine x_sipush (v := (nI (3000))) C d_B_stackUp_25 (by decide) ?_
    refine x_icmp_leN (tgt := 34) C d_B_stackUp_28 (by decide) (by omega) (by omega) (fun c28 => ?_) (fun c28 => ?_)
    · exact absurd hno (by omega)
    · refine x_bipush (v := ((-3))) C d_B_stackUp_31 (by decide) ?_
      exact x_iret C hr d_B_stackUp_33 () rfl (rfl)
set_option maxHeartbeats 4000000 in
theorem c_B_replaceTop_1 {l : Launch} {D : va_G} {cA : ClassId} {h c0 d0 s0 r0 n : Nat} {s01 s02 : Nat} {Ls Bs : Nat → Int32} {r01 r02 : Nat} {Lr Br : Nat → Int32} {k : Nat} {pre : List (List Int32)} {x1 t1 : List Int32} (hS : Hs 3000 13 Ls Bs (pre ++ [x1])) (hk : pre.length + 1 = k) (hR : Hs 3001 2 Lr Br [t1]) (hfit : tot pre + t1.length ≤ 3000)  : CtI l D cA y_B_replaceTop b_B_replaceTop 4 (some .int) ({ frames := 4, cells := 0, slots := 0, locals := 86 } : Room) [.ref h, .int (nI 1)] (bo h c0 d0 s0 r0 (n) :: (shW cA s0 s01 s02 3000 13 Ls Bs (k) ++ shW cA r0 r01 r02 3001 2 Lr Br (1))) (fun r (u : (Nat → Int32) × (Nat → Int32)) => r = nI (pre.length + 1) ∧ Hs 3000 13 u.1 u.2 (pre ++ [t1])) (fun u => (bo h c0 d0 s0 r0 (n) :: (shW cA s0 s01 s02 3000 13 u.1 u.2 (pre.length + 1) ++ shW cA r0 r01 r02 3001 2 Lr Br (1)))) := by
  subst hk
  refine CtI.start (lv0 := [(0, .ref h), (1, .int (nI 1))]) (by decide) rfl (Nat.le_of_ble_eq_true rfl) ?_
  intro p_ e_ s_ m_ args_ below_ meth_ c_ A_ C hr hin
  have hn1 := hS.in
  have hn2 := hR.in (ss := [])
  rw [show tot [] = 0 from rfl] at hn2
  refine x_aload_n C d_B_replaceTop_0 rfl rfl ?_
  refine x_get C d_B_replaceTop_1 0 rfl rfl i_B 2 (by decide) lk_B_21 rfl rfl ?_
  refine x_aload_n C d_B_replaceTop_4 rfl rfl ?_
  refine x_get C d_B_replaceTop_5 0 rfl rfl i_B 2 (by decide) lk_B_21 rfl rfl ?_
  refine x_getN C d_B_replaceTop_8 1 rfl rfl i_S 2 (by decide) lk_B_39 rfl rfl ?_
  refine x_iload_n C d_B_replaceTop_11 rfl rfl ?_
  refine x_isubN C d_B_replaceTop_12 (by omega) ?_
  refine x_callVI (wr := [(h, .inr (1, [.ref c0, .ref d0, .ref s0, .ref r0, .int (nI n)])), (r0, .inr (0, [.ref r01, .ref r02, .int (nI 1)])), (r01, .inl (cA, 3001, .inl (Lr))), (r02, .inl (cA, 2, .inl (Br)))]) (rest := []) C (c_S_startOf (i := pre.length + 1 - 1) hS (by simp) (by simp)) d_B_replaceTop_13 cd_S_startOf lk_B_98 dd_S_startOf rfl ⟨Nat.le_of_ble_eq_true rfl, Nat.le_of_ble_eq_true rfl⟩ ⟨Nat.le_refl _, Nat.le_refl _⟩ 0 0 rfl rfl [1, 2, 3] [0, 4, 5, 6] rfl rfl (by decide) (by decide) (by decide) rfl (Nat.le_of_ble_eq_true rfl) ?_
  intro r_ u_ hp_
  obtain rfl := hp_
  refine x_top (y := (nI (tot pre))) (by rw [Nat.add_sub_cancel, off_app (Nat.le_refl _), off_len]) ?_
  refine x_istore_n (lv' := [(2, .int (nI (tot pre))), (0, .ref h), (1, .int (nI 1))]) C d_B_replaceTop_16 rfl (by decide) rfl ?_
  refine x_iload_n C d_B_replaceTop_17 rfl rfl ?_
  refine x_aload_n C d_B_replaceTop_18 rfl rfl ?_
  refine x_get C d_B_replaceTop_19 0 rfl rfl i_B 3 (by decide) lk_B_24 rfl rfl ?_
  refine x_callVI (wr := [(h, .inr (1, [.ref c0, .ref d0, .ref s0, .ref r0, .int (nI n)])), (s0, .inr (0, [.ref s01, .ref s02, .int (nI (pre.length + 1))])), (s01, .inl (cA, 3000, .inl (Ls))), (s02, .inl (cA, 13, .inl (Bs)))]) (rest := [.int (nI (tot pre))]) C (c_S_used hR rfl) d_B_replaceTop_22 cd_S_used lk_B_49 dd_S_used rfl ⟨Nat.le_of_ble_eq_true rfl, Nat.le_of_ble_eq_true rfl⟩ ⟨Nat.le_refl _, Nat.le_refl _⟩ 0 0 rfl rfl [1, 2, 3] [0, 4, 5, 6] rfl rfl (by decide) (by decide) (by decide) rfl (Nat.le_of_ble_eq_true rfl) ?_
  intro r_ u_ hp_
  obtain rfl := hp_
  refine x_top (y := (nI (t1.length))) (by rw [tot_one]) ?_
  refine x_iaddN C d_B_replaceTop_25  ?_
  refine x_sipush (v := (nI (3000))) C d_B_replaceTop_26 (by decide) ?_
  refine x_icmp_leN (tgt := 35) C d_B_replaceTop_29 (by decide) (by omega) (by omega) (fun c29 => ?_) (fun c29 => ?_)
  · refine x_iconst (v := (nI (0))) C d_B_replaceTop_35 (by decide) ?_
    refine x_istore_n (lv' := [(3, .int (nI 0)), (2, .int (nI (tot pre))), (0, .ref h), (1, .int (nI 1))]) C d_B_replaceTop_36 rfl (by decide) rfl ?_
    refine x_iload_n C d_B_replaceTop_37 rfl rfl ?_
    refine x_iload_n C d_B_replaceTop_38 rfl rfl ?_
    refine x_icmp_geN (tgt := 55) C d_B_replaceTop_39 (by decide) (by omega) (by omega) (fun c39 => ?_) (fun c39 => ?_)
    · exact absurd c39 (by omega)
    · refine x_aload_n C d_B_replaceTop_42 rfl rfl ?_
      refine x_get C d_B_replaceTop_43 0 rfl rfl i_B 2 (by decide) lk_B_21 rfl rfl ?_
      refine x_callVV (wr := [(h, .inr (1, [.ref c0, .ref d0, .ref s0, .ref r0, .int (nI n)])), (r0, .inr (0, [.ref r01, .ref r02, .int (nI 1)])), (r01, .inl (cA, 3001, .inl (Lr))), (r02, .inl (cA, 2, .inl (Br)))]) (rest := []) C (c_S_drop hS rfl) d_B_replaceTop_46 cd_S_drop lk_B_87 dd_S_drop rfl ⟨Nat.le_of_ble_eq_true rfl, Nat.le_of_ble_eq_true rfl⟩ ⟨Nat.le_refl _, Nat.le_refl _⟩ 0 0 rfl rfl [1, 2, 3] [0, 4, 5, 6] rfl rfl (by decide) (by decide) (by decide) rfl (Nat.le_of_ble_eq_true rfl) ?_
      intro u_ hp_
      refine x_iincN (lv' := [(3, .int (nI (0 + 1))), (2, .int (nI (tot pre))), (0, .ref h), (1, .int (nI 1))]) C d_B_replaceTop_49 rfl (by decide) rfl ?_
      refine x_goto (tgt := 37) C d_B_replaceTop_52 (by decide) ?_
      refine x_iload_n C d_B_replaceTop_37 rfl rfl ?_
      refine x_iload_n C d_B_replaceTop_38 rfl rfl ?_
      refine x_icmp_geN (tgt := 55) C d_B_replaceTop_39 (by decide) (by omega) (by omega) (fun c39 => ?_) (fun c39 => ?_)
      · refine x_aload_n C d_B_replaceTop_55 rfl rfl ?_
        refine x_get C d_B_replaceTop_56 0 rfl rfl i_B 2 (by decide) lk_B_21 rfl rfl ?_
        refine x_callVV (wr := [(h, .inr (1, [.ref c0, .ref d0, .ref s0, .ref r0, .int (nI n)])), (r0, .inr (0, [.ref r01, .ref r02, .int (nI 1)])), (r01, .inl (cA, 3001, .inl (Lr))), (r02, .inl (cA, 2, .inl (Br)))]) (rest := []) C (c_S_open (k := pre.length + 1 - 1) hS.drop (by omega) (by omega)) d_B_replaceTop_59 cd_S_open lk_B_31 dd_S_open rfl ⟨Nat.le_of_ble_eq_true rfl, Nat.le_of_ble_eq_true rfl⟩ ⟨Nat.le_refl _, Nat.le_refl _⟩ 0 0 rfl rfl [4, 5, 6] [0, 1, 2, 3] rfl rfl (by decide) (by decide) (by decide) rfl (Nat.le_of_ble_eq_true rfl) ?_
        intro u59 hp59
        refine x_aload_n C d_B_replaceTop_62 rfl rfl ?_
        refine x_get C d_B_replaceTop_63 0 rfl rfl i_B 2 (by decide) lk_B_21 rfl rfl ?_
        refine x_aload_n C d_B_replaceTop_66 rfl rfl ?_
        refine x_get C d_B_replaceTop_67 0 rfl rfl i_B 3 (by decide) lk_B_24 rfl rfl ?_
        refine x_iconst (v := (nI (0))) C d_B_replaceTop_70 (by decide) ?_
        refine x_callVV (wr := [(h, .inr (1, [.ref c0, .ref d0, .ref s0, .ref r0, .int (nI n)]))]) (rest := []) C (c_S_addSet (k := pre.length + 1 - 1 + 1) (ss := pre) (s0 := []) (i := 0) hp59 (by omega) hR rfl (by simp) (by simpa using hfit)) d_B_replaceTop_71 cd_S_addSet lk_B_90 dd_S_addSet rfl ⟨Nat.le_of_ble_eq_true rfl, Nat.le_of_ble_eq_true rfl⟩ ⟨Nat.le_refl _, Nat.le_refl _⟩ 0 0 rfl rfl [4, 5, 6, 1, 2, 3] [0] rfl rfl (by decide) (by decide) (by decide) rfl (Nat.le_of_ble_eq_true rfl) ?_
        intro u71 hp71
        refine x_aload_n C d_B_replaceTop_74 rfl rfl ?_
        refine x_get C d_B_replaceTop_75 0 rfl rfl i_B 2 (by decide) lk_B_21 rfl rfl ?_
        refine x_getN C d_B_replaceTop_78 1 rfl rfl i_S 2 (by decide) lk_B_39 rfl rfl ?_
        exact x_iret C hr d_B_replaceTop_81 u71 rfl (⟨by congr 1, hp71⟩)
      · exact absurd c39 (by omega)
  · exact absurd c29 (by omega)
set_option maxHeartbeats 4000000 in
theorem c_B_replaceTop_1_full {l : Launch} {D : va_G} {cA : ClassId} {h c0 d0 s0 r0 n : Nat} {s01 s02 : Nat} {Ls Bs : Nat → Int32} {r01 r02 : Nat} {Lr Br : Nat → Int32} {k : Nat} {pre : List (List Int32)} {x1 t1 : List Int32} (hS : Hs 3000 13 Ls Bs (pre ++ [x1])) (hk : pre.length + 1 = k) (hR : Hs 3001 2 Lr Br [t1]) (hno : 3000 < tot pre + t1.length)  : CtI l D cA y_B_replaceTop b_B_replaceTop 4 (some .int) ({ frames := 4, cells := 0, slots := 0, locals := 86 } : Room) [.ref h, .int (nI 1)] (bo h c0 d0 s0 r0 (n) :: (shW cA s0 s01 s02 3000 13 Ls Bs (k) ++ shW cA r0 r01 r02 3001 2 Lr Br (1))) (fun r (_ : Unit) => r = -3) (fun _ => (bo h c0 d0 s0 r0 (n) :: (shW cA s0 s01 s02 3000 13 Ls Bs (k) ++ shW cA r0 r01 r02 3001 2 Lr Br (1)))) := by
  subst hk
  refine CtI.start (lv0 := [(0, .ref h), (1, .int (nI 1))]) (by decide) rfl (Nat.le_of_ble_eq_true rfl) ?_
  intro p_ e_ s_ m_ args_ below_ meth_ c_ A_ C hr hin
  have hn1 := hS.in
  have hn2 := hR.in (ss := [])
  rw [show tot [] = 0 from rfl] at hn2
  refine x_aload_n C d_B_replaceTop_0 rfl rfl ?_
  refine x_get C d_B_replaceTop_1 0 rfl rfl i_B 2 (by decide) lk_B_21 rfl rfl ?_
  refine x_aload_n C d_B_replaceTop_4 rfl rfl ?_
  refine x_get C d_B_replaceTop_5 0 rfl rfl i_B 2 (by decide) lk_B_21 rfl rfl ?_
  refine x_getN C d_B_replaceTop_8 1 rfl rfl i_S 2 (by decide) lk_B_39 rfl rfl ?_
  refine x_iload_n C d_B_replaceTop_11 rfl rfl ?_
  refine x_isubN C d_B_replaceTop_12 (by omega) ?_
  refine x_callVI (wr := [(h, .inr (1, [.ref c0, .ref d0, .ref s0, .ref r0, .int (nI n)])), (r0, .inr (0, [.ref r01, .ref r02, .int (nI 1)])), (r01, .inl (cA, 3001, .inl (Lr))), (r02, .inl (cA, 2, .inl (Br)))]) (rest := []) C (c_S_startOf (i := pre.length + 1 - 1) hS (by simp) (by simp)) d_B_replaceTop_13 cd_S_startOf lk_B_98 dd_S_startOf rfl ⟨Nat.le_of_ble_eq_true rfl, Nat.le_of_ble_eq_true rfl⟩ ⟨Nat.le_refl _, Nat.le_refl _⟩ 0 0 rfl rfl [1, 2, 3] [0, 4, 5, 6] rfl rfl (by decide) (by decide) (by decide) rfl (Nat.le_of_ble_eq_true rfl) ?_
  intro r_ u_ hp_
  obtain rfl := hp_
  refine x_top (y := (nI (tot pre))) (by rw [Nat.add_sub_cancel, off_app (Nat.le_refl _), off_len]) ?_
  refine x_istore_n (lv' := [(2, .int (nI (tot pre))), (0, .ref h), (1, .int (nI 1))]) C d_B_replaceTop_16 rfl (by decide) rfl ?_
  refine x_iload_n C d_B_replaceTop_17 rfl rfl ?_
  refine x_aload_n C d_B_replaceTop_18 rfl rfl ?_
  refine x_get C d_B_replaceTop_19 0 rfl rfl i_B 3 (by decide) lk_B_24 rfl rfl ?_
  refine x_callVI (wr := [(h, .inr (1, [.ref c0, .ref d0, .ref s0, .ref r0, .int (nI n)])), (s0, .inr (0, [.ref s01, .ref s02, .int (nI (pre.length + 1))])), (s01, .inl (cA, 3000, .inl (Ls))), (s02, .inl (cA, 13, .inl (Bs)))]) (rest := [.int (nI (tot pre))]) C (c_S_used hR rfl) d_B_replaceTop_22 cd_S_used lk_B_49 dd_S_used rfl ⟨Nat.le_of_ble_eq_true rfl, Nat.le_of_ble_eq_true rfl⟩ ⟨Nat.le_refl _, Nat.le_refl _⟩ 0 0 rfl rfl [1, 2, 3] [0, 4, 5, 6] rfl rfl (by decide) (by decide) (by decide) rfl (Nat.le_of_ble_eq_true rfl) ?_
  intro r_ u_ hp_
  obtain rfl := hp_
  refine x_top (y := (nI (t1.length))) (by rw [tot_one]) ?_
  refine x_iaddN C d_B_replaceTop_25  ?_
  refine x_sipush (v := (nI (3000))) C d_B_replaceTop_26 (by decide) ?_
  refine x_icmp_leN (tgt := 35) C d_B_replaceTop_29 (by decide) (by omega) (by omega) (fun c29 => ?_) (fun c29 => ?_)
  · exact absurd c29 (by omega)
  · refine x_bipush (v := ((-3))) C d_B_replaceTop_32 (by decide) ?_
    exact x_iret C hr d_B_replaceTop_34 () rfl (rfl)
set_option maxHeartbeats 4000000 in
theorem c_B_replaceTop_2 {l : Launch} {D : va_G} {cA : ClassId} {h c0 d0 s0 r0 n : Nat} {s01 s02 : Nat} {Ls Bs : Nat → Int32} {r01 r02 : Nat} {Lr Br : Nat → Int32} {k : Nat} {pre : List (List Int32)} {x1 x2 t1 : List Int32} (hS : Hs 3000 13 Ls Bs (pre ++ [x1] ++ [x2])) (hk : pre.length + 2 = k) (hR : Hs 3001 2 Lr Br [t1]) (hfit : tot pre + t1.length ≤ 3000)  : CtI l D cA y_B_replaceTop b_B_replaceTop 4 (some .int) ({ frames := 4, cells := 0, slots := 0, locals := 86 } : Room) [.ref h, .int (nI 2)] (bo h c0 d0 s0 r0 (n) :: (shW cA s0 s01 s02 3000 13 Ls Bs (k) ++ shW cA r0 r01 r02 3001 2 Lr Br (1))) (fun r (u : (Nat → Int32) × (Nat → Int32)) => r = nI (pre.length + 1) ∧ Hs 3000 13 u.1 u.2 (pre ++ [t1])) (fun u => (bo h c0 d0 s0 r0 (n) :: (shW cA s0 s01 s02 3000 13 u.1 u.2 (pre.length + 1) ++ shW cA r0 r01 r02 3001 2 Lr Br (1)))) := by
  subst hk
  refine CtI.start (lv0 := [(0, .ref h), (1, .int (nI 2))]) (by decide) rfl (Nat.le_of_ble_eq_true rfl) ?_
  intro p_ e_ s_ m_ args_ below_ meth_ c_ A_ C hr hin
  have hn1 := hS.in
  have hn2 := hR.in (ss := [])
  rw [show tot [] = 0 from rfl] at hn2
  rw [tot_app, tot_one, List.length_append, List.length_singleton] at hn1
  refine x_aload_n C d_B_replaceTop_0 rfl rfl ?_
  refine x_get C d_B_replaceTop_1 0 rfl rfl i_B 2 (by decide) lk_B_21 rfl rfl ?_
  refine x_aload_n C d_B_replaceTop_4 rfl rfl ?_
  refine x_get C d_B_replaceTop_5 0 rfl rfl i_B 2 (by decide) lk_B_21 rfl rfl ?_
  refine x_getN C d_B_replaceTop_8 1 rfl rfl i_S 2 (by decide) lk_B_39 rfl rfl ?_
  refine x_iload_n C d_B_replaceTop_11 rfl rfl ?_
  refine x_isubN C d_B_replaceTop_12 (by omega) ?_
  refine x_callVI (wr := [(h, .inr (1, [.ref c0, .ref d0, .ref s0, .ref r0, .int (nI n)])), (r0, .inr (0, [.ref r01, .ref r02, .int (nI 1)])), (r01, .inl (cA, 3001, .inl (Lr))), (r02, .inl (cA, 2, .inl (Br)))]) (rest := []) C (c_S_startOf (i := pre.length + 2 - 2) hS (by simp) (by simp)) d_B_replaceTop_13 cd_S_startOf lk_B_98 dd_S_startOf rfl ⟨Nat.le_of_ble_eq_true rfl, Nat.le_of_ble_eq_true rfl⟩ ⟨Nat.le_refl _, Nat.le_refl _⟩ 0 0 rfl rfl [1, 2, 3] [0, 4, 5, 6] rfl rfl (by decide) (by decide) (by decide) rfl (Nat.le_of_ble_eq_true rfl) ?_
  intro r_ u_ hp_
  obtain rfl := hp_
  refine x_top (y := (nI (tot pre))) (by rw [Nat.add_sub_cancel, List.append_assoc, off_app (Nat.le_refl _), off_len]) ?_
  refine x_istore_n (lv' := [(2, .int (nI (tot pre))), (0, .ref h), (1, .int (nI 2))]) C d_B_replaceTop_16 rfl (by decide) rfl ?_
  refine x_iload_n C d_B_replaceTop_17 rfl rfl ?_
  refine x_aload_n C d_B_replaceTop_18 rfl rfl ?_
  refine x_get C d_B_replaceTop_19 0 rfl rfl i_B 3 (by decide) lk_B_24 rfl rfl ?_
  refine x_callVI (wr := [(h, .inr (1, [.ref c0, .ref d0, .ref s0, .ref r0, .int (nI n)])), (s0, .inr (0, [.ref s01, .ref s02, .int (nI (pre.length + 2))])), (s01, .inl (cA, 3000, .inl (Ls))), (s02, .inl (cA, 13, .inl (Bs)))]) (rest := [.int (nI (tot pre))]) C (c_S_used hR rfl) d_B_replaceTop_22 cd_S_used lk_B_49 dd_S_used rfl ⟨Nat.le_of_ble_eq_true rfl, Nat.le_of_ble_eq_true rfl⟩ ⟨Nat.le_refl _, Nat.le_refl _⟩ 0 0 rfl rfl [1, 2, 3] [0, 4, 5, 6] rfl rfl (by decide) (by decide) (by decide) rfl (Nat.le_of_ble_eq_true rfl) ?_
  intro r_ u_ hp_
  obtain rfl := hp_
  refine x_top (y := (nI (t1.length))) (by rw [tot_one]) ?_
  refine x_iaddN C d_B_replaceTop_25  ?_
  refine x_sipush (v := (nI (3000))) C d_B_replaceTop_26 (by decide) ?_
  refine x_icmp_leN (tgt := 35) C d_B_replaceTop_29 (by decide) (by omega) (by omega) (fun c29 => ?_) (fun c29 => ?_)
  · refine x_iconst (v := (nI (0))) C d_B_replaceTop_35 (by decide) ?_
    refine x_istore_n (lv' := [(3, .int (nI 0)), (2, .int (nI (tot pre))), (0, .ref h), (1, .int (nI 2))]) C d_B_replaceTop_36 rfl (by decide) rfl ?_
    refine x_iload_n C d_B_replaceTop_37 rfl rfl ?_
    refine x_iload_n C d_B_replaceTop_38 rfl rfl ?_
    refine x_icmp_geN (tgt := 55) C d_B_replaceTop_39 (by decide) (by omega) (by omega) (fun c39 => ?_) (fun c39 => ?_)
    · exact absurd c39 (by omega)
    · refine x_aload_n C d_B_replaceTop_42 rfl rfl ?_
      refine x_get C d_B_replaceTop_43 0 rfl rfl i_B 2 (by decide) lk_B_21 rfl rfl ?_
      refine x_callVV (wr := [(h, .inr (1, [.ref c0, .ref d0, .ref s0, .ref r0, .int (nI n)])), (r0, .inr (0, [.ref r01, .ref r02, .int (nI 1)])), (r01, .inl (cA, 3001, .inl (Lr))), (r02, .inl (cA, 2, .inl (Br)))]) (rest := []) C (c_S_drop hS (by simp)) d_B_replaceTop_46 cd_S_drop lk_B_87 dd_S_drop rfl ⟨Nat.le_of_ble_eq_true rfl, Nat.le_of_ble_eq_true rfl⟩ ⟨Nat.le_refl _, Nat.le_refl _⟩ 0 0 rfl rfl [1, 2, 3] [0, 4, 5, 6] rfl rfl (by decide) (by decide) (by decide) rfl (Nat.le_of_ble_eq_true rfl) ?_
      intro u_ hp_
      refine x_iincN (lv' := [(3, .int (nI (0 + 1))), (2, .int (nI (tot pre))), (0, .ref h), (1, .int (nI 2))]) C d_B_replaceTop_49 rfl (by decide) rfl ?_
      refine x_goto (tgt := 37) C d_B_replaceTop_52 (by decide) ?_
      refine x_iload_n C d_B_replaceTop_37 rfl rfl ?_
      refine x_iload_n C d_B_replaceTop_38 rfl rfl ?_
      refine x_icmp_geN (tgt := 55) C d_B_replaceTop_39 (by decide) (by omega) (by omega) (fun c39 => ?_) (fun c39 => ?_)
      · exact absurd c39 (by omega)
      · refine x_aload_n C d_B_replaceTop_42 rfl rfl ?_
        refine x_get C d_B_replaceTop_43 0 rfl rfl i_B 2 (by decide) lk_B_21 rfl rfl ?_
        refine x_callVV (wr := [(h, .inr (1, [.ref c0, .ref d0, .ref s0, .ref r0, .int (nI n)])), (r0, .inr (0, [.ref r01, .ref r02, .int (nI 1)])), (r01, .inl (cA, 3001, .inl (Lr))), (r02, .inl (cA, 2, .inl (Br)))]) (rest := []) C (c_S_drop hS.drop (by omega)) d_B_replaceTop_46 cd_S_drop lk_B_87 dd_S_drop rfl ⟨Nat.le_of_ble_eq_true rfl, Nat.le_of_ble_eq_true rfl⟩ ⟨Nat.le_refl _, Nat.le_refl _⟩ 0 0 rfl rfl [4, 5, 6] [0, 1, 2, 3] rfl rfl (by decide) (by decide) (by decide) rfl (Nat.le_of_ble_eq_true rfl) ?_
        intro u_ hp_
        refine x_iincN (lv' := [(3, .int (nI (0 + 1 + 1))), (2, .int (nI (tot pre))), (0, .ref h), (1, .int (nI 2))]) C d_B_replaceTop_49 rfl (by decide) rfl ?_
        refine x_goto (tgt := 37) C d_B_replaceTop_52 (by decide) ?_
        refine x_iload_n C d_B_replaceTop_37 rfl rfl ?_
        refine x_iload_n C d_B_replaceTop_38 rfl rfl ?_
        refine x_icmp_geN (tgt := 55) C d_B_replaceTop_39 (by decide) (by omega) (by omega) (fun c39 => ?_) (fun c39 => ?_)
        · refine x_aload_n C d_B_replaceTop_55 rfl rfl ?_
          refine x_get C d_B_replaceTop_56 0 rfl rfl i_B 2 (by decide) lk_B_21 rfl rfl ?_
          refine x_callVV (wr := [(h, .inr (1, [.ref c0, .ref d0, .ref s0, .ref r0, .int (nI n)])), (r0, .inr (0, [.ref r01, .ref r02, .int (nI 1)])), (r01, .inl (cA, 3001, .inl (Lr))), (r02, .inl (cA, 2, .inl (Br)))]) (rest := []) C (c_S_open (k := pre.length + 2 - 1 - 1) hS.drop.drop (by omega) (by omega)) d_B_replaceTop_59 cd_S_open lk_B_31 dd_S_open rfl ⟨Nat.le_of_ble_eq_true rfl, Nat.le_of_ble_eq_true rfl⟩ ⟨Nat.le_refl _, Nat.le_refl _⟩ 0 0 rfl rfl [4, 5, 6] [0, 1, 2, 3] rfl rfl (by decide) (by decide) (by decide) rfl (Nat.le_of_ble_eq_true rfl) ?_
          intro u59 hp59
          refine x_aload_n C d_B_replaceTop_62 rfl rfl ?_
          refine x_get C d_B_replaceTop_63 0 rfl rfl i_B 2 (by decide) lk_B_21 rfl rfl ?_
          refine x_aload_n C d_B_replaceTop_66 rfl rfl ?_
          refine x_get C d_B_replaceTop_67 0 rfl rfl i_B 3 (by decide) lk_B_24 rfl rfl ?_
          refine x_iconst (v := (nI (0))) C d_B_replaceTop_70 (by decide) ?_
          refine x_callVV (wr := [(h, .inr (1, [.ref c0, .ref d0, .ref s0, .ref r0, .int (nI n)]))]) (rest := []) C (c_S_addSet (k := pre.length + 2 - 1 - 1 + 1) (ss := pre) (s0 := []) (i := 0) hp59 (by omega) hR rfl (by simp) (by simpa using hfit)) d_B_replaceTop_71 cd_S_addSet lk_B_90 dd_S_addSet rfl ⟨Nat.le_of_ble_eq_true rfl, Nat.le_of_ble_eq_true rfl⟩ ⟨Nat.le_refl _, Nat.le_refl _⟩ 0 0 rfl rfl [4, 5, 6, 1, 2, 3] [0] rfl rfl (by decide) (by decide) (by decide) rfl (Nat.le_of_ble_eq_true rfl) ?_
          intro u71 hp71
          refine x_aload_n C d_B_replaceTop_74 rfl rfl ?_
          refine x_get C d_B_replaceTop_75 0 rfl rfl i_B 2 (by decide) lk_B_21 rfl rfl ?_
          refine x_getN C d_B_replaceTop_78 1 rfl rfl i_S 2 (by decide) lk_B_39 rfl rfl ?_
          exact x_iret C hr d_B_replaceTop_81 u71 rfl (⟨by congr 1, hp71⟩)
        · exact absurd c39 (by omega)
  · exact absurd c29 (by omega)
set_option maxHeartbeats 4000000 in
theorem c_B_replaceTop_2_full {l : Launch} {D : va_G} {cA : ClassId} {h c0 d0 s0 r0 n : Nat} {s01 s02 : Nat} {Ls Bs : Nat → Int32} {r01 r02 : Nat} {Lr Br : Nat → Int32} {k : Nat} {pre : List (List Int32)} {x1 x2 t1 : List Int32} (hS : Hs 3000 13 Ls Bs (pre ++ [x1] ++ [x2])) (hk : pre.length + 2 = k) (hR : Hs 3001 2 Lr Br [t1]) (hno : 3000 < tot pre + t1.length)  : CtI l D cA y_B_replaceTop b_B_replaceTop 4 (some .int) ({ frames := 4, cells := 0, slots := 0, locals := 86 } : Room) [.ref h, .int (nI 2)] (bo h c0 d0 s0 r0 (n) :: (shW cA s0 s01 s02 3000 13 Ls Bs (k) ++ shW cA r0 r01 r02 3001 2 Lr Br (1))) (fun r (_ : Unit) => r = -3) (fun _ => (bo h c0 d0 s0 r0 (n) :: (shW cA s0 s01 s02 3000 13 Ls Bs (k) ++ shW cA r0 r01 r02 3001 2 Lr Br (1)))) := by
  subst hk
  refine CtI.start (lv0 := [(0, .ref h), (1, .int (nI 2))]) (by decide) rfl (Nat.le_of_ble_eq_true rfl) ?_
  intro p_ e_ s_ m_ args_ below_ meth_ c_ A_ C hr hin
  have hn1 := hS.in
  have hn2 := hR.in (ss := [])
  rw [show tot [] = 0 from rfl] at hn2
  rw [tot_app, tot_one, List.length_append, List.length_singleton] at hn1
  refine x_aload_n C d_B_replaceTop_0 rfl rfl ?_
  refine x_get C d_B_replaceTop_1 0 rfl rfl i_B 2 (by decide) lk_B_21 rfl rfl ?_
  refine x_aload_n C d_B_replaceTop_4 rfl rfl ?_
  refine x_get C d_B_replaceTop_5 0 rfl rfl i_B 2 (by decide) lk_B_21 rfl rfl ?_
  refine x_getN C d_B_replaceTop_8 1 rfl rfl i_S 2 (by decide) lk_B_39 rfl rfl ?_
  refine x_iload_n C d_B_replaceTop_11 rfl rfl ?_
  refine x_isubN C d_B_replaceTop_12 (by omega) ?_
  refine x_callVI (wr := [(h, .inr (1, [.ref c0, .ref d0, .ref s0, .ref r0, .int (nI n)])), (r0, .inr (0, [.ref r01, .ref r02, .int (nI 1)])), (r01, .inl (cA, 3001, .inl (Lr))), (r02, .inl (cA, 2, .inl (Br)))]) (rest := []) C (c_S_startOf (i := pre.length + 2 - 2) hS (by simp) (by simp)) d_B_replaceTop_13 cd_S_startOf lk_B_98 dd_S_startOf rfl ⟨Nat.le_of_ble_eq_true rfl, Nat.le_of_ble_eq_true rfl⟩ ⟨Nat.le_refl _, Nat.le_refl _⟩ 0 0 rfl rfl [1, 2, 3] [0, 4, 5, 6] rfl rfl (by decide) (by decide) (by decide) rfl (Nat.le_of_ble_eq_true rfl) ?_
  intro r_ u_ hp_
  obtain rfl := hp_
  refine x_top (y := (nI (tot pre))) (by rw [Nat.add_sub_cancel, List.append_assoc, off_app (Nat.le_refl _), off_len]) ?_
  refine x_istore_n (lv' := [(2, .int (nI (tot pre))), (0, .ref h), (1, .int (nI 2))]) C d_B_replaceTop_16 rfl (by decide) rfl ?_
  refine x_iload_n C d_B_replaceTop_17 rfl rfl ?_
  refine x_aload_n C d_B_replaceTop_18 rfl rfl ?_
  refine x_get C d_B_replaceTop_19 0 rfl rfl i_B 3 (by decide) lk_B_24 rfl rfl ?_
  refine x_callVI (wr := [(h, .inr (1, [.ref c0, .ref d0, .ref s0, .ref r0, .int (nI n)])), (s0, .inr (0, [.ref s01, .ref s02, .int (nI (pre.length + 2))])), (s01, .inl (cA, 3000, .inl (Ls))), (s02, .inl (cA, 13, .inl (Bs)))]) (rest := [.int (nI (tot pre))]) C (c_S_used hR rfl) d_B_replaceTop_22 cd_S_used lk_B_49 dd_S_used rfl ⟨Nat.le_of_ble_eq_true rfl, Nat.le_of_ble_eq_true rfl⟩ ⟨Nat.le_refl _, Nat.le_refl _⟩ 0 0 rfl rfl [1, 2, 3] [0, 4, 5, 6] rfl rfl (by decide) (by decide) (by decide) rfl (Nat.le_of_ble_eq_true rfl) ?_
  intro r_ u_ hp_
  obtain rfl := hp_
  refine x_top (y := (nI (t1.length))) (by rw [tot_one]) ?_
  refine x_iaddN C d_B_replaceTop_25  ?_
  refine x_sipush (v := (nI (3000))) C d_B_replaceTop_26 (by decide) ?_
  refine x_icmp_leN (tgt := 35) C d_B_replaceTop_29 (by decide) (by omega) (by omega) (fun c29 => ?_) (fun c29 => ?_)
  · exact absurd c29 (by omega)
  · refine x_bipush (v := ((-3))) C d_B_replaceTop_32 (by decide) ?_
    exact x_iret C hr d_B_replaceTop_34 () rfl (rfl)
