abbrev shW (cA : ClassId) (h h1 h2 cap mx : Nat) (L Bd : Nat → Int32) (k : Nat) : va_W := [(h, .inr (0, [.ref h1, .ref h2, .int (nI k)])), (h1, .inl (cA, cap, .inl L)), (h2, .inl (cA, mx, .inl Bd))]
set_option maxHeartbeats 4000000 in
theorem c_S_used {l : Launch} {D : va_G} {cA : ClassId} {h h1 h2 cap mx : Nat} {L Bd : Nat → Int32} {ss : List (List Int32)} (hH : Hs cap mx L Bd ss) : CtI l D cA y_S_used b_S_used 1 (some .int) ({ frames := 0, cells := 0, slots := 0, locals := 0 } : Room) [.ref h] (shW cA h h1 h2 cap mx L Bd ss.length) (fun r (_ : Unit) => r = nI (tot ss)) (fun _ => (shW cA h h1 h2 cap mx L Bd ss.length)) := by
  refine CtI.start (lv0 := [(0, .ref h)]) (by decide) rfl (by decide) ?_
  intro p e s m args below meth c A C hr hin
  have hn := hH.nums
  refine x_aload_n C d_S_used_0 rfl rfl ?_
  refine x_get C d_S_used_1 0 rfl rfl i_S 1 (by decide) lk_S_19 rfl rfl ?_
  refine x_aload_n C d_S_used_4 rfl rfl ?_
  refine x_get C d_S_used_5 0 rfl rfl i_S 2 (by decide) lk_S_9 rfl rfl ?_
  refine x_iald C d_S_used_8 2 rfl (by omega) (by omega) ?_
  refine x_top (y := (nI (tot ss))) hH.top ?_
  exact x_iret C hr d_S_used_9 () rfl (rfl)
set_option maxHeartbeats 4000000 in
theorem c_S_startOf {l : Launch} {D : va_G} {cA : ClassId} {h h1 h2 cap mx : Nat} {L Bd : Nat → Int32} {ss : List (List Int32)} (hH : Hs cap mx L Bd ss) {i : Nat} (hi : i ≤ ss.length) : CtI l D cA y_S_startOf b_S_startOf 2 (some .int) ({ frames := 1, cells := 0, slots := 0, locals := 21 } : Room) [.ref h, .int (nI i)] (shW cA h h1 h2 cap mx L Bd ss.length) (fun r (_ : Unit) => r = nI (off ss i)) (fun _ => (shW cA h h1 h2 cap mx L Bd ss.length)) := by
  refine CtI.start (lv0 := [(0, .ref h), (1, .int (nI i))]) (by decide) rfl (by decide) ?_
  intro p e s m args below meth c A C hr hin
  have hn := hH.nums
  refine x_aload_n C d_S_startOf_0 rfl rfl ?_
  refine x_get C d_S_startOf_1 0 rfl rfl i_S 1 (by decide) lk_S_19 rfl rfl ?_
  refine x_iconst (v := (nI (0))) C d_S_startOf_4 (by decide) ?_
  refine x_iload_n C d_S_startOf_5 rfl rfl ?_
  refine x_aload_n C d_S_startOf_6 rfl rfl ?_
  refine x_get C d_S_startOf_7 0 rfl rfl i_S 2 (by decide) lk_S_9 rfl rfl ?_
  refine x_mminN C d_S_startOf_10 lk_S_22 ma_min_st ini_Ma ma_min_cd ⟨by decide, by decide, Nat.zero_le _, Nat.zero_le _⟩ (by omega) (by omega) ?_
  refine x_mmaxN C d_S_startOf_13 lk_S_28 ma_max_st ini_Ma ma_max_cd ⟨by decide, by decide, Nat.zero_le _, Nat.zero_le _⟩ (by omega) (by omega) ?_
  refine x_top (y := (nI (i))) (by congr 1; omega) ?_
  refine x_iald C d_S_startOf_16 2 rfl (by omega) (by omega) ?_
  refine x_top (y := (nI (off ss i))) (hH.bd hi) ?_
  exact x_iret C hr d_S_startOf_17 () rfl (rfl)
set_option maxHeartbeats 4000000 in
theorem c_S_size {l : Launch} {D : va_G} {cA : ClassId} {h h1 h2 cap mx : Nat} {L Bd : Nat → Int32} {ss : List (List Int32)} (hH : Hs cap mx L Bd ss) {i : Nat} (hi : i < ss.length) : CtI l D cA y_S_size b_S_size 2 (some .int) ({ frames := 2, cells := 0, slots := 0, locals := 42 } : Room) [.ref h, .int (nI i)] (shW cA h h1 h2 cap mx L Bd ss.length) (fun r (_ : Unit) => r = nI ((ss.getD i []).length)) (fun _ => (shW cA h h1 h2 cap mx L Bd ss.length)) := by
  refine CtI.start (lv0 := [(0, .ref h), (1, .int (nI i))]) (by decide) rfl (by decide) ?_
  intro p e s m args below meth c A C hr hin
  have hn := hH.nums
  have ho := off_succ hi
  refine x_aload_n C d_S_size_0 rfl rfl ?_
  refine x_iload_n C d_S_size_1 rfl rfl ?_
  refine x_iconst (v := (nI (1))) C d_S_size_2 (by decide) ?_
  refine x_iaddN C d_S_size_3  ?_
  refine x_callVI (wr := []) (rest := []) C (c_S_startOf (i := i + 1) hH (by omega)) d_S_size_4 cd_S_startOf lk_S_31 dd_S_startOf rfl ⟨by decide, by decide⟩ ⟨Nat.le_refl _, Nat.le_refl _⟩ 0 0 rfl rfl [0, 1, 2] [] rfl rfl (by decide) (by decide) (by decide) rfl (by decide) ?_
  intro r_ u_ hp_
  obtain rfl := hp_
  refine x_aload_n C d_S_size_7 rfl rfl ?_
  refine x_iload_n C d_S_size_8 rfl rfl ?_
  refine x_callVI (wr := []) (rest := [.int (nI (off ss (i + 1)))]) C (c_S_startOf (i := i) hH (by omega)) d_S_size_9 cd_S_startOf lk_S_31 dd_S_startOf rfl ⟨by decide, by decide⟩ ⟨Nat.le_refl _, Nat.le_refl _⟩ 0 0 rfl rfl [0, 1, 2] [] rfl rfl (by decide) (by decide) (by decide) rfl (by decide) ?_
  intro r_ u_ hp_
  obtain rfl := hp_
  refine x_isubN C d_S_size_12 (by omega) ?_
  refine x_top (y := (nI ((ss.getD i []).length))) (by congr 1; omega) ?_
  exact x_iret C hr d_S_size_13 () rfl (rfl)
set_option maxHeartbeats 4000000 in
theorem c_S_clear {l : Launch} {D : va_G} {cA : ClassId} {h h1 h2 cap mx : Nat} {L Bd : Nat → Int32} {ss : List (List Int32)} (hH : Hs cap mx L Bd ss) : CtV l D cA y_S_clear b_S_clear 1 ({ frames := 0, cells := 0, slots := 0, locals := 0 } : Room) [.ref h] (shW cA h h1 h2 cap mx L Bd ss.length) (fun (_ : Unit) => True) (fun _ => (shW cA h h1 h2 cap mx L Bd 0)) := by
  refine CtV.start (lv0 := [(0, .ref h)]) (by decide) rfl (by decide) ?_
  intro p e s m args below meth c A C hr hin
  refine x_aload_n C d_S_clear_0 rfl rfl ?_
  refine x_iconst (v := (nI (0))) C d_S_clear_1 (by decide) ?_
  refine x_put (ty := .int) (v := .int (nI 0)) (ws' := [(h, .inr (0, [.ref h1, .ref h2, .int (nI 0)])), (h1, .inl (cA, cap, .inl (L))), (h2, .inl (cA, mx, .inl (Bd)))]) C d_S_clear_2 0 rfl rfl i_S t_S t_S_ok n_S 2 (by decide) lk_S_9 rfl rfl (t_S_ok 2 (by decide)) rfl rfl (by decide) rfl ?_
  exact x_vret C hr d_S_clear_5 () rfl (trivial)
