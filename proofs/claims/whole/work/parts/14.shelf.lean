abbrev shW (cA : ClassId) (h h1 h2 cap mx : Nat) (L Bd : Nat → Int32) (k : Nat) : va_W := [(h, .inr (0, [.ref h1, .ref h2, .int (nI k)])), (h1, .inl (cA, cap, .inl L)), (h2, .inl (cA, mx, .inl Bd))]
set_option maxHeartbeats 4000000 in
theorem c_S_used {l : Launch} {D : va_G} {cA : ClassId} {h h1 h2 cap mx : Nat} {L Bd : Nat → Int32} {k : Nat} {ss : List (List Int32)} (hH : Hs cap mx L Bd ss) (hk : ss.length = k)  : CtI l D cA y_S_used b_S_used 1 (some .int) ({ frames := 0, cells := 0, slots := 0, locals := 0 } : Room) [.ref h] (shW cA h h1 h2 cap mx L Bd k) (fun r (_ : Unit) => r = nI (tot ss)) (fun _ => (shW cA h h1 h2 cap mx L Bd k)) := by
  subst hk
  refine CtI.start (lv0 := [(0, .ref h)]) (by decide) rfl (Nat.le_of_ble_eq_true rfl) ?_
  intro p e s m args below meth c A C hr hin
  have hn := hH.nums
  refine x_aload_n C d_S_used_0 rfl rfl ?_
  refine x_get C d_S_used_1 0 rfl rfl i_S 1 (by decide) lk_S_19 rfl rfl ?_
  refine x_aload_n C d_S_used_4 rfl rfl ?_
  refine x_get C d_S_used_5 0 rfl rfl i_S 2 (by decide) lk_S_9 rfl rfl ?_
  refine x_iald C d_S_used_8 2 rfl (by omega) (by omega) ?_
  refine x_top (y := (nI (tot ss))) hH.top ?_
  exact x_iret C hr d_S_used_9 () rfl (rfl)
set_option maxHeartbeats 4000000 in
theorem c_S_startOf {l : Launch} {D : va_G} {cA : ClassId} {h h1 h2 cap mx : Nat} {L Bd : Nat → Int32} {k : Nat} {ss : List (List Int32)} (hH : Hs cap mx L Bd ss) (hk : ss.length = k)  {i : Nat} (hi : i ≤ ss.length) : CtI l D cA y_S_startOf b_S_startOf 2 (some .int) ({ frames := 1, cells := 0, slots := 0, locals := 21 } : Room) [.ref h, .int (nI i)] (shW cA h h1 h2 cap mx L Bd k) (fun r (_ : Unit) => r = nI (off ss i)) (fun _ => (shW cA h h1 h2 cap mx L Bd k)) := by
  subst hk
  refine CtI.start (lv0 := [(0, .ref h), (1, .int (nI i))]) (by decide) rfl (Nat.le_of_ble_eq_true rfl) ?_
  intro p e s m args below meth c A C hr hin
  have hn := hH.nums
  refine x_aload_n C d_S_startOf_0 rfl rfl ?_
  refine x_get C d_S_startOf_1 0 rfl rfl i_S 1 (by decide) lk_S_19 rfl rfl ?_
  refine x_iconst (v := (nI (0))) C d_S_startOf_4 (by decide) ?_
  refine x_iload_n C d_S_startOf_5 rfl rfl ?_
  refine x_aload_n C d_S_startOf_6 rfl rfl ?_
  refine x_get C d_S_startOf_7 0 rfl rfl i_S 2 (by decide) lk_S_9 rfl rfl ?_
  refine x_mminN C d_S_startOf_10 lk_S_22 ma_min_st ini_Ma ma_min_cd ⟨Nat.le_of_ble_eq_true rfl, Nat.le_of_ble_eq_true rfl, Nat.zero_le _, Nat.zero_le _⟩ (by omega) (by omega) ?_
  refine x_mmaxN C d_S_startOf_13 lk_S_28 ma_max_st ini_Ma ma_max_cd ⟨Nat.le_of_ble_eq_true rfl, Nat.le_of_ble_eq_true rfl, Nat.zero_le _, Nat.zero_le _⟩ (by omega) (by omega) ?_
  refine x_top (y := (nI (i))) (by congr 1; omega) ?_
  refine x_iald C d_S_startOf_16 2 rfl (by omega) (by omega) ?_
  refine x_top (y := (nI (off ss i))) (hH.bd hi) ?_
  exact x_iret C hr d_S_startOf_17 () rfl (rfl)
set_option maxHeartbeats 4000000 in
theorem c_S_size {l : Launch} {D : va_G} {cA : ClassId} {h h1 h2 cap mx : Nat} {L Bd : Nat → Int32} {k : Nat} {ss : List (List Int32)} (hH : Hs cap mx L Bd ss) (hk : ss.length = k)  {i : Nat} (hi : i < ss.length) : CtI l D cA y_S_size b_S_size 2 (some .int) ({ frames := 2, cells := 0, slots := 0, locals := 42 } : Room) [.ref h, .int (nI i)] (shW cA h h1 h2 cap mx L Bd k) (fun r (_ : Unit) => r = nI ((ss.getD i []).length)) (fun _ => (shW cA h h1 h2 cap mx L Bd k)) := by
  subst hk
  refine CtI.start (lv0 := [(0, .ref h), (1, .int (nI i))]) (by decide) rfl (Nat.le_of_ble_eq_true rfl) ?_
  intro p e s m args below meth c A C hr hin
  have hn := hH.nums
  have ho := off_succ hi
  refine x_aload_n C d_S_size_0 rfl rfl ?_
  refine x_iload_n C d_S_size_1 rfl rfl ?_
  refine x_iconst (v := (nI (1))) C d_S_size_2 (by decide) ?_
  refine x_iaddN C d_S_size_3  ?_
  refine x_callVI (wr := []) (rest := []) C (c_S_startOf (i := i + 1) hH rfl (by omega)) d_S_size_4 cd_S_startOf lk_S_31 dd_S_startOf rfl ⟨Nat.le_of_ble_eq_true rfl, Nat.le_of_ble_eq_true rfl⟩ ⟨Nat.le_refl _, Nat.le_refl _⟩ 0 0 rfl rfl [0, 1, 2] [] rfl rfl (by decide) (by decide) (by decide) rfl (Nat.le_of_ble_eq_true rfl) ?_
  intro r_ u_ hp_
  obtain rfl := hp_
  refine x_aload_n C d_S_size_7 rfl rfl ?_
  refine x_iload_n C d_S_size_8 rfl rfl ?_
  refine x_callVI (wr := []) (rest := [.int (nI (off ss (i + 1)))]) C (c_S_startOf (i := i) hH rfl (by omega)) d_S_size_9 cd_S_startOf lk_S_31 dd_S_startOf rfl ⟨Nat.le_of_ble_eq_true rfl, Nat.le_of_ble_eq_true rfl⟩ ⟨Nat.le_refl _, Nat.le_refl _⟩ 0 0 rfl rfl [0, 1, 2] [] rfl rfl (by decide) (by decide) (by decide) rfl (Nat.le_of_ble_eq_true rfl) ?_
  intro r_ u_ hp_
  obtain rfl := hp_
  refine x_isubN C d_S_size_12 (by omega) ?_
  refine x_top (y := (nI ((ss.getD i []).length))) (by congr 1; omega) ?_
  exact x_iret C hr d_S_size_13 () rfl (rfl)
set_option maxHeartbeats 4000000 in
theorem c_S_clear {l : Launch} {D : va_G} {cA : ClassId} {h h1 h2 cap mx : Nat} {L Bd : Nat → Int32} {k : Nat} {ss : List (List Int32)} (hH : Hs cap mx L Bd ss) (hk : ss.length = k)  : CtV l D cA y_S_clear b_S_clear 1 ({ frames := 0, cells := 0, slots := 0, locals := 0 } : Room) [.ref h] (shW cA h h1 h2 cap mx L Bd k) (fun (_ : Unit) => True) (fun _ => (shW cA h h1 h2 cap mx L Bd 0)) := by
  subst hk
  refine CtV.start (lv0 := [(0, .ref h)]) (by decide) rfl (Nat.le_of_ble_eq_true rfl) ?_
  intro p e s m args below meth c A C hr hin
  refine x_aload_n C d_S_clear_0 rfl rfl ?_
  refine x_iconst (v := (nI (0))) C d_S_clear_1 (by decide) ?_
  refine x_put (ty := .int) (v := .int (nI 0)) (ws' := [(h, .inr (0, [.ref h1, .ref h2, .int (nI 0)])), (h1, .inl (cA, cap, .inl (L))), (h2, .inl (cA, mx, .inl (Bd)))]) C d_S_clear_2 0 rfl rfl i_S t_S t_S_ok n_S 2 (by decide) lk_S_9 rfl rfl (t_S_ok 2 (by decide)) rfl rfl (Nat.le_of_ble_eq_true rfl) rfl ?_
  exact x_vret C hr d_S_clear_5 () rfl (trivial)
set_option maxHeartbeats 4000000 in
theorem c_S_open {l : Launch} {D : va_G} {cA : ClassId} {h h1 h2 cap mx : Nat} {L Bd : Nat → Int32} {k : Nat} {ss : List (List Int32)} (hH : Hs cap mx L Bd ss) (hk : ss.length = k) (hm : ss.length + 1 < mx)  : CtV l D cA y_S_open b_S_open 1 ({ frames := 0, cells := 0, slots := 0, locals := 0 } : Room) [.ref h] (shW cA h h1 h2 cap mx L Bd k) (fun u : (Nat → Int32) × (Nat → Int32) => Hs cap mx u.1 u.2 (ss ++ [[]])) (fun u => shW cA h h1 h2 cap mx u.1 u.2 (k + 1)) := by
  subst hk
  refine CtV.start (lv0 := [(0, .ref h)]) (by decide) rfl (Nat.le_of_ble_eq_true rfl) ?_
  intro p e s m args below meth c A C hr hin
  have hn := hH.nums
  refine x_aload_n C d_S_open_0 rfl rfl ?_
  refine x_get C d_S_open_1 0 rfl rfl i_S 2 (by decide) lk_S_9 rfl rfl ?_
  refine x_iconst (v := (nI (1))) C d_S_open_4 (by decide) ?_
  refine x_iaddN C d_S_open_5  ?_
  refine x_aload_n C d_S_open_6 rfl rfl ?_
  refine x_get C d_S_open_7 0 rfl rfl i_S 1 (by decide) lk_S_19 rfl rfl ?_
  refine x_alen C d_S_open_10 2 rfl ?_
  refine x_icmp_geN (tgt := 44) C d_S_open_11 (by decide) (by omega) (by omega) (fun c11 => ?_) (fun c11 => ?_)
  · exact absurd c11 (by omega)
  · refine x_aload_n C d_S_open_14 rfl rfl ?_
    refine x_get C d_S_open_15 0 rfl rfl i_S 1 (by decide) lk_S_19 rfl rfl ?_
    refine x_aload_n C d_S_open_18 rfl rfl ?_
    refine x_get C d_S_open_19 0 rfl rfl i_S 2 (by decide) lk_S_9 rfl rfl ?_
    refine x_iconst (v := (nI (1))) C d_S_open_22 (by decide) ?_
    refine x_iaddN C d_S_open_23  ?_
    refine x_aload_n C d_S_open_24 rfl rfl ?_
    refine x_get C d_S_open_25 0 rfl rfl i_S 1 (by decide) lk_S_19 rfl rfl ?_
    refine x_aload_n C d_S_open_28 rfl rfl ?_
    refine x_get C d_S_open_29 0 rfl rfl i_S 2 (by decide) lk_S_9 rfl rfl ?_
    refine x_iald C d_S_open_32 2 rfl (by omega) (by omega) ?_
    refine x_iast (ws' := [(h, .inr (0, [.ref h1, .ref h2, .int (nI (ss.length))])), (h1, .inl (cA, cap, .inl (L))), (h2, .inl (cA, mx, .inl (upd Bd ((ss.length) + 1) (Bd (ss.length)))))]) C d_S_open_33 2 rfl (by omega) (by omega) rfl ?_
    refine x_aload_n C d_S_open_34 rfl rfl ?_
    refine x_dup C d_S_open_35 rfl ?_
    refine x_get C d_S_open_36 0 rfl rfl i_S 2 (by decide) lk_S_9 rfl rfl ?_
    refine x_iconst (v := (nI (1))) C d_S_open_39 (by decide) ?_
    refine x_iaddN C d_S_open_40  ?_
    refine x_put (ty := .int) (v := .int (nI ((ss.length) + 1))) (ws' := [(h, .inr (0, [.ref h1, .ref h2, .int (nI ((ss.length) + 1))])), (h1, .inl (cA, cap, .inl (L))), (h2, .inl (cA, mx, .inl (upd Bd ((ss.length) + 1) (Bd (ss.length)))))]) C d_S_open_41 0 rfl rfl i_S t_S t_S_ok n_S 2 (by decide) lk_S_9 rfl rfl (t_S_ok 2 (by decide)) rfl rfl (Nat.le_of_ble_eq_true rfl) rfl ?_
    exact x_vret C hr d_S_open_44 (L, upd Bd ((ss.length) + 1) (Bd (ss.length))) rfl (hH.opened hm)
set_option maxHeartbeats 4000000 in
theorem c_S_drop {l : Launch} {D : va_G} {cA : ClassId} {h h1 h2 cap mx : Nat} {L Bd : Nat → Int32} {k : Nat} {ss : List (List Int32)} {s0 : List Int32} (hH : Hs cap mx L Bd (ss ++ [s0])) (hk : ss.length + 1 = k)  : CtV l D cA y_S_drop b_S_drop 1 ({ frames := 0, cells := 0, slots := 0, locals := 0 } : Room) [.ref h] (shW cA h h1 h2 cap mx L Bd k) (fun (_ : Unit) => True) (fun _ => (shW cA h h1 h2 cap mx L Bd (k - 1))) := by
  subst hk
  refine CtV.start (lv0 := [(0, .ref h)]) (by decide) rfl (Nat.le_of_ble_eq_true rfl) ?_
  intro p e s m args below meth c A C hr hin
  have hn := hH.in
  have hk2 : (ss ++ [s0]).length = ss.length + 1 := by simp
  refine x_aload_n C d_S_drop_0 rfl rfl ?_
  refine x_get C d_S_drop_1 0 rfl rfl i_S 2 (by decide) lk_S_9 rfl rfl ?_
  refine x_if_leN (tgt := 17) C d_S_drop_4 (by decide) (by omega) (fun c4 => ?_) (fun c4 => ?_)
  · exact absurd c4 (by omega)
  · refine x_aload_n C d_S_drop_7 rfl rfl ?_
    refine x_dup C d_S_drop_8 rfl ?_
    refine x_get C d_S_drop_9 0 rfl rfl i_S 2 (by decide) lk_S_9 rfl rfl ?_
    refine x_iconst (v := (nI (1))) C d_S_drop_12 (by decide) ?_
    refine x_isubN C d_S_drop_13 (by omega) ?_
    refine x_put (ty := .int) (v := .int (nI ((ss.length + 1) - 1))) (ws' := [(h, .inr (0, [.ref h1, .ref h2, .int (nI ((ss.length + 1) - 1))])), (h1, .inl (cA, cap, .inl (L))), (h2, .inl (cA, mx, .inl (Bd)))]) C d_S_drop_14 0 rfl rfl i_S t_S t_S_ok n_S 2 (by decide) lk_S_9 rfl rfl (t_S_ok 2 (by decide)) rfl rfl (Nat.le_of_ble_eq_true rfl) rfl ?_
    exact x_vret C hr d_S_drop_17 () rfl (trivial)
set_option maxHeartbeats 4000000 in
theorem c_S_addWord {l : Launch} {D : va_G} {cA : ClassId} {h h1 h2 cap mx : Nat} {L Bd : Nat → Int32} {k : Nat} {ss : List (List Int32)} {s0 : List Int32} (hH : Hs cap mx L Bd (ss ++ [s0])) (hk : ss.length + 1 = k) {w : Int32} (hc : tot ss + s0.length < cap)  : CtV l D cA y_S_addWord b_S_addWord 2 ({ frames := 1, cells := 0, slots := 0, locals := 20 } : Room) [.ref h, .int w] (shW cA h h1 h2 cap mx L Bd k) (fun u : (Nat → Int32) × (Nat → Int32) => Hs cap mx u.1 u.2 (ss ++ [s0 ++ [w]])) (fun u => shW cA h h1 h2 cap mx u.1 u.2 (k)) := by
  subst hk
  refine CtV.start (lv0 := [(0, .ref h), (1, .int w)]) (by decide) rfl (Nat.le_of_ble_eq_true rfl) ?_
  intro p e s m args below meth c A C hr hin
  have hn := hH.in
  have hk2 : (ss ++ [s0]).length = ss.length + 1 := by simp
  refine x_aload_n C d_S_addWord_0 rfl rfl ?_
  refine x_get C d_S_addWord_1 0 rfl rfl i_S 2 (by decide) lk_S_9 rfl rfl ?_
  refine x_if_leN (tgt := 42) C d_S_addWord_4 (by decide) (by omega) (fun c4 => ?_) (fun c4 => ?_)
  · exact absurd c4 (by omega)
  · refine x_aload_n C d_S_addWord_7 rfl rfl ?_
    refine x_callVI (wr := []) (rest := []) C (c_S_used hH (by simp)) d_S_addWord_8 cd_S_used lk_S_59 dd_S_used rfl ⟨Nat.le_of_ble_eq_true rfl, Nat.le_of_ble_eq_true rfl⟩ ⟨Nat.le_refl _, Nat.le_refl _⟩ 0 0 rfl rfl [0, 1, 2] [] rfl rfl (by decide) (by decide) (by decide) rfl (Nat.le_of_ble_eq_true rfl) ?_
    intro r_ u_ hp_
    obtain rfl := hp_
    refine x_top (y := (nI (tot ss + s0.length))) (by rw [tot_app, tot_one]) ?_
    refine x_aload_n C d_S_addWord_11 rfl rfl ?_
    refine x_get C d_S_addWord_12 0 rfl rfl i_S 0 (by decide) lk_S_15 rfl rfl ?_
    refine x_alen C d_S_addWord_15 1 rfl ?_
    refine x_icmp_geN (tgt := 42) C d_S_addWord_16 (by decide) (by omega) (by omega) (fun c16 => ?_) (fun c16 => ?_)
    · exact absurd c16 (by omega)
    · refine x_aload_n C d_S_addWord_19 rfl rfl ?_
      refine x_get C d_S_addWord_20 0 rfl rfl i_S 0 (by decide) lk_S_15 rfl rfl ?_
      refine x_aload_n C d_S_addWord_23 rfl rfl ?_
      refine x_callVI (wr := []) (rest := [.ref h1]) C (c_S_used hH (by simp)) d_S_addWord_24 cd_S_used lk_S_59 dd_S_used rfl ⟨Nat.le_of_ble_eq_true rfl, Nat.le_of_ble_eq_true rfl⟩ ⟨Nat.le_refl _, Nat.le_refl _⟩ 0 0 rfl rfl [0, 1, 2] [] rfl rfl (by decide) (by decide) (by decide) rfl (Nat.le_of_ble_eq_true rfl) ?_
      intro r_ u_ hp_
      obtain rfl := hp_
      refine x_top (y := (nI (tot ss + s0.length))) (by rw [tot_app, tot_one]) ?_
      refine x_iload_n C d_S_addWord_27 rfl rfl ?_
      refine x_iast (ws' := [(h, .inr (0, [.ref h1, .ref h2, .int (nI (ss.length + 1))])), (h1, .inl (cA, cap, .inl (upd L (tot ss + s0.length) (w)))), (h2, .inl (cA, mx, .inl (Bd)))]) C d_S_addWord_28 1 rfl (by omega) (by omega) rfl ?_
      refine x_aload_n C d_S_addWord_29 rfl rfl ?_
      refine x_get C d_S_addWord_30 0 rfl rfl i_S 1 (by decide) lk_S_19 rfl rfl ?_
      refine x_aload_n C d_S_addWord_33 rfl rfl ?_
      refine x_get C d_S_addWord_34 0 rfl rfl i_S 2 (by decide) lk_S_9 rfl rfl ?_
      refine x_dup2 C d_S_addWord_37 rfl rfl ?_
      refine x_iald C d_S_addWord_38 2 rfl (by omega) (by omega) ?_
      refine x_top (y := (nI (tot ss + s0.length))) hn.2.2.2.2.1 ?_
      refine x_iconst (v := (nI (1))) C d_S_addWord_39 (by decide) ?_
      refine x_iaddN C d_S_addWord_40  ?_
      refine x_iast (ws' := [(h, .inr (0, [.ref h1, .ref h2, .int (nI (ss.length + 1))])), (h1, .inl (cA, cap, .inl (upd L (tot ss + s0.length) (w)))), (h2, .inl (cA, mx, .inl (upd Bd (ss.length + 1) (nI ((tot ss + s0.length) + 1)))))]) C d_S_addWord_41 2 rfl (by omega) (by omega) rfl ?_
      exact x_vret C hr d_S_addWord_42 (upd L (tot ss + s0.length) (w), upd Bd (ss.length + 1) (nI ((tot ss + s0.length) + 1))) rfl (hH.word hc rfl)
set_option maxHeartbeats 4000000 in
theorem c_S_lastWord_nil {l : Launch} {D : va_G} {cA : ClassId} {h h1 h2 cap mx : Nat} {L Bd : Nat → Int32} {k : Nat} {ss : List (List Int32)} (hH : Hs cap mx L Bd (ss ++ [[]])) (hk : ss.length + 1 = k)  : CtI l D cA y_S_lastWord b_S_lastWord 1 (some .int) ({ frames := 3, cells := 0, slots := 0, locals := 63 } : Room) [.ref h] (shW cA h h1 h2 cap mx L Bd k) (fun r (_ : Unit) => r = nI 0) (fun _ => (shW cA h h1 h2 cap mx L Bd k)) := by
  subst hk
  refine CtI.start (lv0 := [(0, .ref h)]) (by decide) rfl (Nat.le_of_ble_eq_true rfl) ?_
  intro p e s m args below meth c A C hr hin
  have hn := hH.in
  refine x_aload_n C d_S_lastWord_0 rfl rfl ?_
  refine x_get C d_S_lastWord_1 0 rfl rfl i_S 2 (by decide) lk_S_9 rfl rfl ?_
  refine x_iconst (v := (nI (1))) C d_S_lastWord_4 (by decide) ?_
  refine x_icmp_ltN (tgt := 22) C d_S_lastWord_5 (by decide) (by omega) (by omega) (fun c5 => ?_) (fun c5 => ?_)
  · exact absurd c5 (by omega)
  · refine x_aload_n C d_S_lastWord_8 rfl rfl ?_
    refine x_aload_n C d_S_lastWord_9 rfl rfl ?_
    refine x_get C d_S_lastWord_10 0 rfl rfl i_S 2 (by decide) lk_S_9 rfl rfl ?_
    refine x_iconst (v := (nI (1))) C d_S_lastWord_13 (by decide) ?_
    refine x_isubN C d_S_lastWord_14 (by omega) ?_
    refine x_callVI (wr := []) (rest := []) C (c_S_size (i := ss.length + 1 - 1) hH (by simp) (by simp)) d_S_lastWord_15 cd_S_size lk_S_35 dd_S_size rfl ⟨Nat.le_of_ble_eq_true rfl, Nat.le_of_ble_eq_true rfl⟩ ⟨Nat.le_refl _, Nat.le_refl _⟩ 0 0 rfl rfl [0, 1, 2] [] rfl rfl (by decide) (by decide) (by decide) rfl (Nat.le_of_ble_eq_true rfl) ?_
    intro r_ u_ hp_
    obtain rfl := hp_
    refine x_top (y := (nI (0))) (by simp) ?_
    refine x_iconst (v := (nI (1))) C d_S_lastWord_18 (by decide) ?_
    refine x_icmp_geN (tgt := 26) C d_S_lastWord_19 (by decide) (by omega) (by omega) (fun c19 => ?_) (fun c19 => ?_)
    · exact absurd c19 (by omega)
    · refine x_iconst (v := (nI (0))) C d_S_lastWord_22 (by decide) ?_
      refine x_goto (tgt := 37) C d_S_lastWord_23 (by decide) ?_
      exact x_iret C hr d_S_lastWord_37 () rfl (rfl)
set_option maxHeartbeats 4000000 in
theorem c_S_lastWord {l : Launch} {D : va_G} {cA : ClassId} {h h1 h2 cap mx : Nat} {L Bd : Nat → Int32} {k : Nat} {ss : List (List Int32)} {s0 : List Int32} {v : Int32} (hH : Hs cap mx L Bd (ss ++ [s0 ++ [v]])) (hk : ss.length + 1 = k)  : CtI l D cA y_S_lastWord b_S_lastWord 1 (some .int) ({ frames := 3, cells := 0, slots := 0, locals := 63 } : Room) [.ref h] (shW cA h h1 h2 cap mx L Bd k) (fun r (_ : Unit) => r = v) (fun _ => (shW cA h h1 h2 cap mx L Bd k)) := by
  subst hk
  refine CtI.start (lv0 := [(0, .ref h)]) (by decide) rfl (Nat.le_of_ble_eq_true rfl) ?_
  intro p e s m args below meth c A C hr hin
  have hn := hH.in
  rw [List.length_append, List.length_singleton] at hn
  refine x_aload_n C d_S_lastWord_0 rfl rfl ?_
  refine x_get C d_S_lastWord_1 0 rfl rfl i_S 2 (by decide) lk_S_9 rfl rfl ?_
  refine x_iconst (v := (nI (1))) C d_S_lastWord_4 (by decide) ?_
  refine x_icmp_ltN (tgt := 22) C d_S_lastWord_5 (by decide) (by omega) (by omega) (fun c5 => ?_) (fun c5 => ?_)
  · exact absurd c5 (by omega)
  · refine x_aload_n C d_S_lastWord_8 rfl rfl ?_
    refine x_aload_n C d_S_lastWord_9 rfl rfl ?_
    refine x_get C d_S_lastWord_10 0 rfl rfl i_S 2 (by decide) lk_S_9 rfl rfl ?_
    refine x_iconst (v := (nI (1))) C d_S_lastWord_13 (by decide) ?_
    refine x_isubN C d_S_lastWord_14 (by omega) ?_
    refine x_callVI (wr := []) (rest := []) C (c_S_size (i := ss.length + 1 - 1) hH (by simp) (by simp)) d_S_lastWord_15 cd_S_size lk_S_35 dd_S_size rfl ⟨Nat.le_of_ble_eq_true rfl, Nat.le_of_ble_eq_true rfl⟩ ⟨Nat.le_refl _, Nat.le_refl _⟩ 0 0 rfl rfl [0, 1, 2] [] rfl rfl (by decide) (by decide) (by decide) rfl (Nat.le_of_ble_eq_true rfl) ?_
    intro r_ u_ hp_
    obtain rfl := hp_
    refine x_top (y := (nI (s0.length + 1))) (by simp) ?_
    refine x_iconst (v := (nI (1))) C d_S_lastWord_18 (by decide) ?_
    refine x_icmp_geN (tgt := 26) C d_S_lastWord_19 (by decide) (by omega) (by omega) (fun c19 => ?_) (fun c19 => ?_)
    · refine x_aload_n C d_S_lastWord_26 rfl rfl ?_
      refine x_get C d_S_lastWord_27 0 rfl rfl i_S 0 (by decide) lk_S_15 rfl rfl ?_
      refine x_aload_n C d_S_lastWord_30 rfl rfl ?_
      refine x_callVI (wr := []) (rest := [.ref h1]) C (c_S_used hH (by simp)) d_S_lastWord_31 cd_S_used lk_S_59 dd_S_used rfl ⟨Nat.le_of_ble_eq_true rfl, Nat.le_of_ble_eq_true rfl⟩ ⟨Nat.le_refl _, Nat.le_refl _⟩ 0 0 rfl rfl [0, 1, 2] [] rfl rfl (by decide) (by decide) (by decide) rfl (Nat.le_of_ble_eq_true rfl) ?_
      intro r_ u_ hp_
      obtain rfl := hp_
      refine x_top (y := (nI (tot ss + (s0.length + 1)))) (by rw [tot_app, tot_one]; simp) ?_
      refine x_iconst (v := (nI (1))) C d_S_lastWord_34 (by decide) ?_
      refine x_isubN C d_S_lastWord_35 (by omega) ?_
      refine x_top (y := (nI (tot ss + s0.length))) (by congr 1) ?_
      refine x_iald C d_S_lastWord_36 1 rfl (by omega) (by omega) ?_
      refine x_top (y := (v)) (by rw [hn.2.2.2.2.2 s0.length (by simp)]; simp) ?_
      exact x_iret C hr d_S_lastWord_37 () rfl (rfl)
    · exact absurd c19 (by omega)
set_option maxHeartbeats 4000000 in
theorem c_S_wordOf {l : Launch} {D : va_G} {cA : ClassId} {h h1 h2 cap mx : Nat} {L Bd : Nat → Int32} {k : Nat} {ss : List (List Int32)} (hH : Hs cap mx L Bd ss) (hk : ss.length = k) {i : Nat} {x : Int32} (hi : i < ss.length)  : CtI l D cA y_S_wordOf b_S_wordOf 3 (some .int) ({ frames := 3, cells := 0, slots := 0, locals := 63 } : Room) [.ref h, .int (nI i), .int x] (shW cA h h1 h2 cap mx L Bd k) (fun r (_ : Unit) => r = if ¬ x < 0 ∧ x < nI (ss.getD i []).length then (ss.getD i []).getD x.toNatClampNeg 0 else nI 0) (fun _ => (shW cA h h1 h2 cap mx L Bd k)) := by
  subst hk
  refine CtI.start (lv0 := [(0, .ref h), (1, .int (nI i)), (2, .int x)]) (by decide) rfl (Nat.le_of_ble_eq_true rfl) ?_
  intro p e s m args below meth c A C hr hin
  have hn := hH.nums
  have ho := off_succ hi
  have ho2 := off_le ss (i + 1)
  refine x_iload_n C d_S_wordOf_0 rfl rfl ?_
  refine x_if_lt (tgt := 13) C d_S_wordOf_1 (by decide)  (fun c1 => ?_) (fun c1 => ?_)
  · refine x_iconst (v := (nI (0))) C d_S_wordOf_13 (by decide) ?_
    refine x_goto (tgt := 29) C d_S_wordOf_14 (by decide) ?_
    exact x_iret C hr d_S_wordOf_29 () rfl ((if_neg (fun q => q.1 c1)).symm)
  · refine x_iload_n C d_S_wordOf_4 rfl rfl ?_
    refine x_aload_n C d_S_wordOf_5 rfl rfl ?_
    refine x_iload_n C d_S_wordOf_6 rfl rfl ?_
    refine x_callVI (wr := []) (rest := [.int x]) C (c_S_size (i := i) hH rfl hi) d_S_wordOf_7 cd_S_size lk_S_35 dd_S_size rfl ⟨Nat.le_of_ble_eq_true rfl, Nat.le_of_ble_eq_true rfl⟩ ⟨Nat.le_refl _, Nat.le_refl _⟩ 0 0 rfl rfl [0, 1, 2] [] rfl rfl (by decide) (by decide) (by decide) rfl (Nat.le_of_ble_eq_true rfl) ?_
    intro r_ u_ hp_
    obtain rfl := hp_
    refine x_icmp_lt (tgt := 17) C d_S_wordOf_10 (by decide)  (fun c10 => ?_) (fun c10 => ?_)
    · obtain ⟨j, hj, rfl⟩ := nI_of c1
      have hj2 : j < (ss.getD i []).length := (nI_ltI hj (by omega)).mp c10
      refine x_aload_n C d_S_wordOf_17 rfl rfl ?_
      refine x_get C d_S_wordOf_18 0 rfl rfl i_S 0 (by decide) lk_S_15 rfl rfl ?_
      refine x_aload_n C d_S_wordOf_21 rfl rfl ?_
      refine x_iload_n C d_S_wordOf_22 rfl rfl ?_
      refine x_callVI (wr := []) (rest := [.ref h1]) C (c_S_startOf (i := i) hH rfl (by omega)) d_S_wordOf_23 cd_S_startOf lk_S_31 dd_S_startOf rfl ⟨Nat.le_of_ble_eq_true rfl, Nat.le_of_ble_eq_true rfl⟩ ⟨Nat.le_refl _, Nat.le_refl _⟩ 0 0 rfl rfl [0, 1, 2] [] rfl rfl (by decide) (by decide) (by decide) rfl (Nat.le_of_ble_eq_true rfl) ?_
      intro r_ u_ hp_
      obtain rfl := hp_
      refine x_iload_n C d_S_wordOf_26 rfl rfl ?_
      refine x_iaddN C d_S_wordOf_27  ?_
      refine x_iald C d_S_wordOf_28 1 rfl (by omega) (by omega) ?_
      exact x_iret C hr d_S_wordOf_29 () rfl (by rw [if_pos ⟨c1, c10⟩, nI_clamp (by omega)]; exact hH.ln hi hj2)
    · refine x_iconst (v := (nI (0))) C d_S_wordOf_13 (by decide) ?_
      refine x_goto (tgt := 29) C d_S_wordOf_14 (by decide) ?_
      exact x_iret C hr d_S_wordOf_29 () rfl ((if_neg (fun q => c10 q.2)).symm)
set_option maxHeartbeats 4000000 in
theorem c_S_groupsAt {l : Launch} {D : va_G} {cA : ClassId} {h h1 h2 cap mx : Nat} {L Bd : Nat → Int32} {k : Nat} {ss : List (List Int32)} (hH : Hs cap mx L Bd ss) (hk : ss.length = k) {at_ : Nat} {w : Nat × Nat} (ha : at_ < tot ss) (hw : okw w) (hw2 : w.2 < 2 ^ 29) (hl : L at_ = enc w)  : CtI l D cA y_S_groupsAt b_S_groupsAt 2 (some .int) ({ frames := 1, cells := 0, slots := 0, locals := 20 } : Room) [.ref h, .int (nI at_)] (shW cA h h1 h2 cap mx L Bd k) (fun r (_ : Unit) => r = nI w.2) (fun _ => (shW cA h h1 h2 cap mx L Bd k)) := by
  subst hk
  refine CtI.start (lv0 := [(0, .ref h), (1, .int (nI at_))]) (by decide) rfl (Nat.le_of_ble_eq_true rfl) ?_
  intro p e s m args below meth c A C hr hin
  have hn := hH.nums
  refine x_iload_n C d_S_groupsAt_0 rfl rfl ?_
  refine x_aload_n C d_S_groupsAt_1 rfl rfl ?_
  refine x_callVI (wr := []) (rest := [.int (nI at_)]) C (c_S_used hH rfl) d_S_groupsAt_2 cd_S_used lk_S_59 dd_S_used rfl ⟨Nat.le_of_ble_eq_true rfl, Nat.le_of_ble_eq_true rfl⟩ ⟨Nat.le_refl _, Nat.le_refl _⟩ 0 0 rfl rfl [0, 1, 2] [] rfl rfl (by decide) (by decide) (by decide) rfl (Nat.le_of_ble_eq_true rfl) ?_
  intro r_ u_ hp_
  obtain rfl := hp_
  refine x_icmp_geN (tgt := 20) C d_S_groupsAt_5 (by decide) (by omega) (by omega) (fun c5 => ?_) (fun c5 => ?_)
  · exact absurd c5 (by omega)
  · refine x_aload_n C d_S_groupsAt_8 rfl rfl ?_
    refine x_get C d_S_groupsAt_9 0 rfl rfl i_S 0 (by decide) lk_S_15 rfl rfl ?_
    refine x_iload_n C d_S_groupsAt_12 rfl rfl ?_
    refine x_iald C d_S_groupsAt_13 1 rfl (by omega) (by omega) ?_
    refine x_top (y := (enc w)) hl ?_
    refine x_callSIN (wr := [(h, .inr (0, [.ref h1, .ref h2, .int (nI (ss.length))])), (h1, .inl (cA, cap, .inl (L))), (h2, .inl (cA, mx, .inl (Bd)))]) (rest := []) C (c_B_groupsOf hw hw2) d_S_groupsAt_14 cd_B_groupsOf lk_S_46 dd_B_groupsOf rfl ⟨Nat.le_of_ble_eq_true rfl, Nat.le_of_ble_eq_true rfl⟩ ⟨Nat.le_refl _, Nat.le_refl _⟩ [] [0, 1, 2] rfl rfl (by decide) (by decide) (by decide) rfl (Nat.le_of_ble_eq_true rfl) ?_
    intro r_ u_ hp_
    obtain rfl := hp_
    refine x_goto (tgt := 21) C d_S_groupsAt_17 (by decide) ?_
    exact x_iret C hr d_S_groupsAt_21 () rfl (rfl)
set_option maxHeartbeats 4000000 in
theorem c_S_groupsAt_end {l : Launch} {D : va_G} {cA : ClassId} {h h1 h2 cap mx : Nat} {L Bd : Nat → Int32} {k : Nat} {ss : List (List Int32)} (hH : Hs cap mx L Bd ss) (hk : ss.length = k) {at_ : Nat} (ha : at_ = tot ss)  : CtI l D cA y_S_groupsAt b_S_groupsAt 2 (some .int) ({ frames := 1, cells := 0, slots := 0, locals := 20 } : Room) [.ref h, .int (nI at_)] (shW cA h h1 h2 cap mx L Bd k) (fun r (_ : Unit) => r = nI 0) (fun _ => (shW cA h h1 h2 cap mx L Bd k)) := by
  subst hk
  refine CtI.start (lv0 := [(0, .ref h), (1, .int (nI at_))]) (by decide) rfl (Nat.le_of_ble_eq_true rfl) ?_
  intro p e s m args below meth c A C hr hin
  have hn := hH.nums
  refine x_iload_n C d_S_groupsAt_0 rfl rfl ?_
  refine x_aload_n C d_S_groupsAt_1 rfl rfl ?_
  refine x_callVI (wr := []) (rest := [.int (nI at_)]) C (c_S_used hH rfl) d_S_groupsAt_2 cd_S_used lk_S_59 dd_S_used rfl ⟨Nat.le_of_ble_eq_true rfl, Nat.le_of_ble_eq_true rfl⟩ ⟨Nat.le_refl _, Nat.le_refl _⟩ 0 0 rfl rfl [0, 1, 2] [] rfl rfl (by decide) (by decide) (by decide) rfl (Nat.le_of_ble_eq_true rfl) ?_
  intro r_ u_ hp_
  obtain rfl := hp_
  refine x_icmp_geN (tgt := 20) C d_S_groupsAt_5 (by decide) (by omega) (by omega) (fun c5 => ?_) (fun c5 => ?_)
  · refine x_iconst (v := (nI (0))) C d_S_groupsAt_20 (by decide) ?_
    exact x_iret C hr d_S_groupsAt_21 () rfl (rfl)
  · exact absurd c5 (by omega)
set_option maxHeartbeats 4000000 in
theorem c_S_addSet {l : Launch} {D : va_G} {cA : ClassId} {h h1 h2 cap mx : Nat} {L Bd : Nat → Int32} {f f1 f2 cap2 mx2 : Nat} {L2 Bd2 : Nat → Int32} {k : Nat} {ss : List (List Int32)} {s0 : List Int32} (hH : Hs cap mx L Bd (ss ++ [s0])) (hk : ss.length + 1 = k) {k2 : Nat} {s2 : List (List Int32)} (hF : Hs cap2 mx2 L2 Bd2 s2) (hk2 : s2.length = k2) {i : Nat} (hi : i < s2.length) (hc : tot ss + s0.length + (s2.getD i []).length ≤ cap)  : CtV l D cA y_S_addSet b_S_addSet 4 ({ frames := 3, cells := 0, slots := 0, locals := 63 } : Room) [.ref h, .ref f, .int (nI i)] (shW cA h h1 h2 cap mx L Bd k ++ shW cA f f1 f2 cap2 mx2 L2 Bd2 k2) (fun u : (Nat → Int32) × (Nat → Int32) => Hs cap mx u.1 u.2 (ss ++ [s0 ++ s2.getD i []])) (fun u => shW cA h h1 h2 cap mx u.1 u.2 k ++ shW cA f f1 f2 cap2 mx2 L2 Bd2 k2) := by
  subst hk
  subst hk2
  refine CtV.start (lv0 := [(0, .ref h), (1, .ref f), (2, .int (nI i))]) (by decide) rfl (Nat.le_of_ble_eq_true rfl) ?_
  intro p e s m args below meth c A C hr hin
  have hn := hH.in
  have hm := hF.nums
  have ho := off_succ hi
  have ho2 := off_le s2 (i + 1)
  refine x_aload_n C d_S_addSet_0 rfl rfl ?_
  refine x_iload_n C d_S_addSet_1 rfl rfl ?_
  refine x_callVI (wr := [(h, .inr (0, [.ref h1, .ref h2, .int (nI (ss.length + 1))])), (h1, .inl (cA, cap, .inl (L))), (h2, .inl (cA, mx, .inl (Bd)))]) (rest := []) C (c_S_size (i := i) hF rfl hi) d_S_addSet_2 cd_S_size lk_S_35 dd_S_size rfl ⟨Nat.le_of_ble_eq_true rfl, Nat.le_of_ble_eq_true rfl⟩ ⟨Nat.le_refl _, Nat.le_refl _⟩ 0 0 rfl rfl [3, 4, 5] [0, 1, 2] rfl rfl (by decide) (by decide) (by decide) rfl (Nat.le_of_ble_eq_true rfl) ?_
  intro r_ u_ hp_
  obtain rfl := hp_
  refine x_istore_n (lv' := [(3, .int (nI ((s2.getD i []).length))), (0, .ref h), (1, .ref f), (2, .int (nI i))]) C d_S_addSet_5 rfl (by decide) rfl ?_
  refine x_aload_n C d_S_addSet_6 rfl rfl ?_
  refine x_get C d_S_addSet_7 0 rfl rfl i_S 2 (by decide) lk_S_9 rfl rfl ?_
  refine x_if_leN (tgt := 61) C d_S_addSet_10 (by decide) (by omega) (fun c10 => ?_) (fun c10 => ?_)
  · exact absurd c10 (by omega)
  · refine x_iload_n C d_S_addSet_13 rfl rfl ?_
    refine x_aload_n C d_S_addSet_14 rfl rfl ?_
    refine x_get C d_S_addSet_15 0 rfl rfl i_S 0 (by decide) lk_S_15 rfl rfl ?_
    refine x_alen C d_S_addSet_18 1 rfl ?_
    refine x_aload_n C d_S_addSet_19 rfl rfl ?_
    refine x_callVI (wr := [(f, .inr (0, [.ref f1, .ref f2, .int (nI (s2.length))])), (f1, .inl (cA, cap2, .inl (L2))), (f2, .inl (cA, mx2, .inl (Bd2)))]) (rest := [.int (nI cap), .int (nI ((s2.getD i []).length))]) C (c_S_used hH (by simp)) d_S_addSet_20 cd_S_used lk_S_59 dd_S_used rfl ⟨Nat.le_of_ble_eq_true rfl, Nat.le_of_ble_eq_true rfl⟩ ⟨Nat.le_refl _, Nat.le_refl _⟩ 0 0 rfl rfl [0, 1, 2] [3, 4, 5] rfl rfl (by decide) (by decide) (by decide) rfl (Nat.le_of_ble_eq_true rfl) ?_
    intro r_ u_ hp_
    obtain rfl := hp_
    refine x_top (y := (nI (tot ss + s0.length))) (by rw [tot_app, tot_one]) ?_
    refine x_isubN C d_S_addSet_23 (by omega) ?_
    refine x_icmp_gtN (tgt := 61) C d_S_addSet_24 (by decide) (by omega) (by omega) (fun c24 => ?_) (fun c24 => ?_)
    · exact absurd c24 (by omega)
    · refine x_aload_n C d_S_addSet_27 rfl rfl ?_
      refine x_get C d_S_addSet_28 0 rfl rfl i_S 0 (by decide) lk_S_15 rfl rfl ?_
      refine x_aload_n C d_S_addSet_31 rfl rfl ?_
      refine x_iload_n C d_S_addSet_32 rfl rfl ?_
      refine x_callVI (wr := [(h, .inr (0, [.ref h1, .ref h2, .int (nI (ss.length + 1))])), (h1, .inl (cA, cap, .inl (L))), (h2, .inl (cA, mx, .inl (Bd)))]) (rest := [.ref f1]) C (c_S_startOf (i := i) hF rfl (by omega)) d_S_addSet_33 cd_S_startOf lk_S_31 dd_S_startOf rfl ⟨Nat.le_of_ble_eq_true rfl, Nat.le_of_ble_eq_true rfl⟩ ⟨Nat.le_refl _, Nat.le_refl _⟩ 0 0 rfl rfl [0, 1, 2] [3, 4, 5] rfl rfl (by decide) (by decide) (by decide) rfl (Nat.le_of_ble_eq_true rfl) ?_
      intro r_ u_ hp_
      obtain rfl := hp_
      refine x_aload_n C d_S_addSet_36 rfl rfl ?_
      refine x_get C d_S_addSet_37 0 rfl rfl i_S 0 (by decide) lk_S_15 rfl rfl ?_
      refine x_aload_n C d_S_addSet_40 rfl rfl ?_
      refine x_callVI (wr := [(f, .inr (0, [.ref f1, .ref f2, .int (nI (s2.length))])), (f1, .inl (cA, cap2, .inl (L2))), (f2, .inl (cA, mx2, .inl (Bd2)))]) (rest := [.ref h1, .int (nI (off s2 i)), .ref f1]) C (c_S_used hH (by simp)) d_S_addSet_41 cd_S_used lk_S_59 dd_S_used rfl ⟨Nat.le_of_ble_eq_true rfl, Nat.le_of_ble_eq_true rfl⟩ ⟨Nat.le_refl _, Nat.le_refl _⟩ 0 0 rfl rfl [0, 1, 2] [3, 4, 5] rfl rfl (by decide) (by decide) (by decide) rfl (Nat.le_of_ble_eq_true rfl) ?_
      intro r_ u_ hp_
      obtain rfl := hp_
      refine x_top (y := (nI (tot ss + s0.length))) (by rw [tot_app, tot_one]) ?_
      refine x_iload_n C d_S_addSet_44 rfl rfl ?_
      refine x_copyi (ws' := [(f, .inr (0, [.ref f1, .ref f2, .int (nI (s2.length))])), (f1, .inl (cA, cap2, .inl (L2))), (f2, .inl (cA, mx2, .inl (Bd2))), (h, .inr (0, [.ref h1, .ref h2, .int (nI (ss.length + 1))])), (h1, .inl (cA, cap, .inl (va_cpy L2 L (off s2 i) (tot ss + s0.length) ((s2.getD i []).length)))), (h2, .inl (cA, mx, .inl (Bd)))]) C d_S_addSet_45 lk_S_63 ac_nat ac_st ini_Sy 1 4 rfl rfl (by omega) (by omega) (by omega) (by omega) (Nat.le_of_ble_eq_true rfl) (Nat.le_of_ble_eq_true rfl) rfl ?_
      refine x_aload_n C d_S_addSet_48 rfl rfl ?_
      refine x_get C d_S_addSet_49 3 rfl rfl i_S 1 (by decide) lk_S_19 rfl rfl ?_
      refine x_aload_n C d_S_addSet_52 rfl rfl ?_
      refine x_get C d_S_addSet_53 3 rfl rfl i_S 2 (by decide) lk_S_9 rfl rfl ?_
      refine x_dup2 C d_S_addSet_56 rfl rfl ?_
      refine x_iald C d_S_addSet_57 5 rfl (by omega) (by omega) ?_
      refine x_top (y := (nI (tot ss + s0.length))) hn.2.2.2.2.1 ?_
      refine x_iload_n C d_S_addSet_58 rfl rfl ?_
      refine x_iaddN C d_S_addSet_59  ?_
      refine x_iast (ws' := [(f, .inr (0, [.ref f1, .ref f2, .int (nI (s2.length))])), (f1, .inl (cA, cap2, .inl (L2))), (f2, .inl (cA, mx2, .inl (Bd2))), (h, .inr (0, [.ref h1, .ref h2, .int (nI (ss.length + 1))])), (h1, .inl (cA, cap, .inl (va_cpy L2 L (off s2 i) (tot ss + s0.length) ((s2.getD i []).length)))), (h2, .inl (cA, mx, .inl (upd Bd (ss.length + 1) (nI ((tot ss + s0.length) + ((s2.getD i []).length))))))]) C d_S_addSet_60 5 rfl (by omega) (by omega) rfl ?_
      refine x_perm (ws' := [(h, .inr (0, [.ref h1, .ref h2, .int (nI (ss.length + 1))])), (h1, .inl (cA, cap, .inl (va_cpy L2 L (off s2 i) (tot ss + s0.length) ((s2.getD i []).length)))), (h2, .inl (cA, mx, .inl (upd Bd (ss.length + 1) (nI ((tot ss + s0.length) + ((s2.getD i []).length)))))), (f, .inr (0, [.ref f1, .ref f2, .int (nI (s2.length))])), (f1, .inl (cA, cap2, .inl (L2))), (f2, .inl (cA, mx2, .inl (Bd2)))]) [3, 4, 5, 0, 1, 2] (by decide) rfl ?_
      exact x_vret C hr d_S_addSet_61 (va_cpy L2 L (off s2 i) (tot ss + s0.length) ((s2.getD i []).length), upd Bd (ss.length + 1) (nI ((tot ss + s0.length) + ((s2.getD i []).length)))) rfl (hH.addset hc (fun j hj => hF.ln hi hj) rfl)
set_option maxHeartbeats 4000000 in
theorem c_S_addSet_self {l : Launch} {D : va_G} {cA : ClassId} {h h1 h2 cap mx : Nat} {L Bd : Nat → Int32} {k : Nat} {ss : List (List Int32)} {s0 : List Int32} (hH : Hs cap mx L Bd (ss ++ [s0])) (hk : ss.length + 1 = k) {i : Nat} {t0 : List Int32} (hi : i < ss.length + 1) (ht : (ss ++ [s0]).getD i [] = t0) (hc : tot ss + s0.length + t0.length ≤ cap)  : CtV l D cA y_S_addSet b_S_addSet 4 ({ frames := 3, cells := 0, slots := 0, locals := 63 } : Room) [.ref h, .ref h, .int (nI i)] (shW cA h h1 h2 cap mx L Bd k) (fun u : (Nat → Int32) × (Nat → Int32) => Hs cap mx u.1 u.2 (ss ++ [s0 ++ t0])) (fun u => shW cA h h1 h2 cap mx u.1 u.2 (k)) := by
  subst hk
  refine CtV.start (lv0 := [(0, .ref h), (1, .ref h), (2, .int (nI i))]) (by decide) rfl (Nat.le_of_ble_eq_true rfl) ?_
  intro p e s m args below meth c A C hr hin
  have hn := hH.in
  have hi2 : i < (ss ++ [s0]).length := by simp; omega
  have ho := off_succ hi2
  rw [ht] at ho
  have ho2 := off_le (ss ++ [s0]) (i + 1)
  rw [tot_app, tot_one] at ho2
  refine x_aload_n C d_S_addSet_0 rfl rfl ?_
  refine x_iload_n C d_S_addSet_1 rfl rfl ?_
  refine x_callVI (wr := []) (rest := []) C (c_S_size (i := i) hH (by simp) (by simp; omega)) d_S_addSet_2 cd_S_size lk_S_35 dd_S_size rfl ⟨Nat.le_of_ble_eq_true rfl, Nat.le_of_ble_eq_true rfl⟩ ⟨Nat.le_refl _, Nat.le_refl _⟩ 0 0 rfl rfl [0, 1, 2] [] rfl rfl (by decide) (by decide) (by decide) rfl (Nat.le_of_ble_eq_true rfl) ?_
  intro r_ u_ hp_
  obtain rfl := hp_
  refine x_top (y := (nI (t0.length))) (by rw [ht]) ?_
  refine x_istore_n (lv' := [(3, .int (nI (t0.length))), (0, .ref h), (1, .ref h), (2, .int (nI i))]) C d_S_addSet_5 rfl (by decide) rfl ?_
  refine x_aload_n C d_S_addSet_6 rfl rfl ?_
  refine x_get C d_S_addSet_7 0 rfl rfl i_S 2 (by decide) lk_S_9 rfl rfl ?_
  refine x_if_leN (tgt := 61) C d_S_addSet_10 (by decide) (by omega) (fun c10 => ?_) (fun c10 => ?_)
  · exact absurd c10 (by omega)
  · refine x_iload_n C d_S_addSet_13 rfl rfl ?_
    refine x_aload_n C d_S_addSet_14 rfl rfl ?_
    refine x_get C d_S_addSet_15 0 rfl rfl i_S 0 (by decide) lk_S_15 rfl rfl ?_
    refine x_alen C d_S_addSet_18 1 rfl ?_
    refine x_aload_n C d_S_addSet_19 rfl rfl ?_
    refine x_callVI (wr := []) (rest := [.int (nI cap), .int (nI (t0.length))]) C (c_S_used hH (by simp)) d_S_addSet_20 cd_S_used lk_S_59 dd_S_used rfl ⟨Nat.le_of_ble_eq_true rfl, Nat.le_of_ble_eq_true rfl⟩ ⟨Nat.le_refl _, Nat.le_refl _⟩ 0 0 rfl rfl [0, 1, 2] [] rfl rfl (by decide) (by decide) (by decide) rfl (Nat.le_of_ble_eq_true rfl) ?_
    intro r_ u_ hp_
    obtain rfl := hp_
    refine x_top (y := (nI (tot ss + s0.length))) (by rw [tot_app, tot_one]) ?_
    refine x_isubN C d_S_addSet_23 (by omega) ?_
    refine x_icmp_gtN (tgt := 61) C d_S_addSet_24 (by decide) (by omega) (by omega) (fun c24 => ?_) (fun c24 => ?_)
    · exact absurd c24 (by omega)
    · refine x_aload_n C d_S_addSet_27 rfl rfl ?_
      refine x_get C d_S_addSet_28 0 rfl rfl i_S 0 (by decide) lk_S_15 rfl rfl ?_
      refine x_aload_n C d_S_addSet_31 rfl rfl ?_
      refine x_iload_n C d_S_addSet_32 rfl rfl ?_
      refine x_callVI (wr := []) (rest := [.ref h1]) C (c_S_startOf (i := i) hH (by simp) (by simp; omega)) d_S_addSet_33 cd_S_startOf lk_S_31 dd_S_startOf rfl ⟨Nat.le_of_ble_eq_true rfl, Nat.le_of_ble_eq_true rfl⟩ ⟨Nat.le_refl _, Nat.le_refl _⟩ 0 0 rfl rfl [0, 1, 2] [] rfl rfl (by decide) (by decide) (by decide) rfl (Nat.le_of_ble_eq_true rfl) ?_
      intro r_ u_ hp_
      obtain rfl := hp_
      refine x_aload_n C d_S_addSet_36 rfl rfl ?_
      refine x_get C d_S_addSet_37 0 rfl rfl i_S 0 (by decide) lk_S_15 rfl rfl ?_
      refine x_aload_n C d_S_addSet_40 rfl rfl ?_
      refine x_callVI (wr := []) (rest := [.ref h1, .int (nI (off (ss ++ [s0]) i)), .ref h1]) C (c_S_used hH (by simp)) d_S_addSet_41 cd_S_used lk_S_59 dd_S_used rfl ⟨Nat.le_of_ble_eq_true rfl, Nat.le_of_ble_eq_true rfl⟩ ⟨Nat.le_refl _, Nat.le_refl _⟩ 0 0 rfl rfl [0, 1, 2] [] rfl rfl (by decide) (by decide) (by decide) rfl (Nat.le_of_ble_eq_true rfl) ?_
      intro r_ u_ hp_
      obtain rfl := hp_
      refine x_top (y := (nI (tot ss + s0.length))) (by rw [tot_app, tot_one]) ?_
      refine x_iload_n C d_S_addSet_44 rfl rfl ?_
      refine x_copyi (ws' := [(h, .inr (0, [.ref h1, .ref h2, .int (nI (ss.length + 1))])), (h1, .inl (cA, cap, .inl (va_cpy L L (off (ss ++ [s0]) i) (tot ss + s0.length) (t0.length)))), (h2, .inl (cA, mx, .inl (Bd)))]) C d_S_addSet_45 lk_S_63 ac_nat ac_st ini_Sy 1 1 rfl rfl (by omega) (by omega) (by omega) (by omega) (Nat.le_of_ble_eq_true rfl) (Nat.le_of_ble_eq_true rfl) rfl ?_
      refine x_aload_n C d_S_addSet_48 rfl rfl ?_
      refine x_get C d_S_addSet_49 0 rfl rfl i_S 1 (by decide) lk_S_19 rfl rfl ?_
      refine x_aload_n C d_S_addSet_52 rfl rfl ?_
      refine x_get C d_S_addSet_53 0 rfl rfl i_S 2 (by decide) lk_S_9 rfl rfl ?_
      refine x_dup2 C d_S_addSet_56 rfl rfl ?_
      refine x_iald C d_S_addSet_57 2 rfl (by omega) (by omega) ?_
      refine x_top (y := (nI (tot ss + s0.length))) hn.2.2.2.2.1 ?_
      refine x_iload_n C d_S_addSet_58 rfl rfl ?_
      refine x_iaddN C d_S_addSet_59  ?_
      refine x_iast (ws' := [(h, .inr (0, [.ref h1, .ref h2, .int (nI (ss.length + 1))])), (h1, .inl (cA, cap, .inl (va_cpy L L (off (ss ++ [s0]) i) (tot ss + s0.length) (t0.length)))), (h2, .inl (cA, mx, .inl (upd Bd (ss.length + 1) (nI ((tot ss + s0.length) + (t0.length))))))]) C d_S_addSet_60 2 rfl (by omega) (by omega) rfl ?_
      exact x_vret C hr d_S_addSet_61 (va_cpy L L (off (ss ++ [s0]) i) (tot ss + s0.length) (t0.length), upd Bd (ss.length + 1) (nI ((tot ss + s0.length) + (t0.length)))) rfl (hH.addset hc (fun j hj => by rw [hH.ln (by simp; omega) (by rw [ht]; exact hj), ht]) rfl)
