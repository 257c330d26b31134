/-! groups more, a group less -/
theorem ex_mem_le {w : Nat × Nat} : ∀ {ws : List (Nat × Nat)}, w ∈ ws → w.2 ≤ (ex ws).length
  | [], h => by simp at h
  | x :: ws, h => by
    rw [ex_cons, List.length_append, List.length_replicate]
    rcases List.mem_cons.mp h with rfl | h
    · omega
    · have := ex_mem_le h
      omega
theorem okw_fill {v : Nat × Nat} (hv : okw v) (h : 1 < v.2) : v.1 = 0 ∨ v.1 = AL := by
  rcases hv.2.2 with q | q | q
  · exact Or.inl q
  · exact Or.inr q
  · omega
def pg (ws : List (Nat × Nat)) (b g : Nat) : List (Nat × Nat) := if g = 0 then ws else push ws b g
def tk (ws : List (Nat × Nat)) (v : Nat × Nat) : List (Nat × Nat) := if v.2 ≤ 1 then ws else ws ++ [(v.1, v.2 - 1)]
theorem map_snoc (ws : List (Nat × Nat)) (v : Nat × Nat) : (ws ++ [v]).map enc = ws.map enc ++ [enc v] := by simp
set_option maxHeartbeats 4000000 in
theorem c_S_addGroups_0 {l : Launch} {D : va_G} {cA : ClassId} {h h1 h2 cap mx : Nat} {L Bd : Nat → Int32} {k : Nat} {ss : List (List Int32)} {s0 : List Int32} (hH : Hs cap mx L Bd (ss ++ [s0])) (hk : ss.length + 1 = k) {b : Nat}  : CtV l D cA y_S_addGroups b_S_addGroups 4 ({ frames := 4, cells := 0, slots := 0, locals := 83 } : Room) [.ref h, .int (nI b), .int (nI 0)] (shW cA h h1 h2 cap mx L Bd k) (fun u : (Nat → Int32) × (Nat → Int32) => Hs cap mx u.1 u.2 (ss ++ [s0])) (fun u => shW cA h h1 h2 cap mx u.1 u.2 (k)) := by
  subst hk
  refine CtV.start (lv0 := [(0, .ref h), (1, .int (nI b)), (2, .int (nI 0))]) (by decide) rfl (Nat.le_of_ble_eq_true rfl) ?_
  intro p e s m args below meth c A C hr hin
  refine x_iload_n C d_S_addGroups_0 rfl rfl ?_
  refine x_iconst (v := (nI (1))) C d_S_addGroups_1 (by decide) ?_
  refine x_icmp_geN (tgt := 6) C d_S_addGroups_2 (by decide) (by omega) (by omega) (fun c2 => ?_) (fun c2 => ?_)
  · exact absurd c2 (by omega)
  · exact x_vret C hr d_S_addGroups_5 (L, Bd) rfl (hH)
set_option maxHeartbeats 4000000 in
theorem c_S_addGroups_lit {l : Launch} {D : va_G} {cA : ClassId} {h h1 h2 cap mx : Nat} {L Bd : Nat → Int32} {k : Nat} {ss : List (List Int32)} {s0 : List Int32} (hH : Hs cap mx L Bd (ss ++ [s0])) (hk : ss.length + 1 = k) {b : Nat} (hb : ¬ (b = 0 ∨ b = AL)) (hb2 : b ≤ AL) (hc : tot ss + s0.length < cap)  : CtV l D cA y_S_addGroups b_S_addGroups 4 ({ frames := 4, cells := 0, slots := 0, locals := 83 } : Room) [.ref h, .int (nI b), .int (nI 1)] (shW cA h h1 h2 cap mx L Bd k) (fun u : (Nat → Int32) × (Nat → Int32) => Hs cap mx u.1 u.2 (ss ++ [s0 ++ [nI b]])) (fun u => shW cA h h1 h2 cap mx u.1 u.2 (k)) := by
  subst hk
  refine CtV.start (lv0 := [(0, .ref h), (1, .int (nI b)), (2, .int (nI 1))]) (by decide) rfl (Nat.le_of_ble_eq_true rfl) ?_
  intro p e s m args below meth c A C hr hin
  have hA : AL = 2147483647 := rfl
  refine x_iload_n C d_S_addGroups_0 rfl rfl ?_
  refine x_iconst (v := (nI (1))) C d_S_addGroups_1 (by decide) ?_
  refine x_icmp_geN (tgt := 6) C d_S_addGroups_2 (by decide) (by omega) (by omega) (fun c2 => ?_) (fun c2 => ?_)
  · refine x_iload_n C d_S_addGroups_6 rfl rfl ?_
    refine x_if_eqN (tgt := 22) C d_S_addGroups_7 (by decide) (by omega) (fun c7 => ?_) (fun c7 => ?_)
    · exact absurd (Or.inl c7) hb
    · refine x_iload_n C d_S_addGroups_10 rfl rfl ?_
      refine x_ldc C d_S_addGroups_11 lk_S_52 ?_
      refine x_top (y := nI 2147483647) (by decide) ?_
      refine x_icmp_eqN (tgt := 22) C d_S_addGroups_13 (by decide) (by omega) (by omega) (fun c13 => ?_) (fun c13 => ?_)
      · exact absurd (Or.inr c13) hb
      · refine x_aload_n C d_S_addGroups_16 rfl rfl ?_
        refine x_iload_n C d_S_addGroups_17 rfl rfl ?_
        refine x_callVV (wr := []) (rest := []) C (c_S_addWord (w := nI b) hH rfl hc) d_S_addGroups_18 cd_S_addWord lk_S_83 dd_S_addWord rfl ⟨Nat.le_of_ble_eq_true rfl, Nat.le_of_ble_eq_true rfl⟩ ⟨Nat.le_refl _, Nat.le_refl _⟩ 0 0 rfl rfl [0, 1, 2] [] rfl rfl (by decide) (by decide) (by decide) rfl (Nat.le_of_ble_eq_true rfl) ?_
        intro u_ hp_
        exact x_vret C hr d_S_addGroups_21 u_ rfl (hp_)
  · exact absurd c2 (by omega)
set_option maxHeartbeats 4000000 in
theorem c_S_addGroups_nil {l : Launch} {D : va_G} {cA : ClassId} {h h1 h2 cap mx : Nat} {L Bd : Nat → Int32} {k : Nat} {ss : List (List Int32)} (hH : Hs cap mx L Bd (ss ++ [[]])) (hk : ss.length + 1 = k) {b g : Nat} (hb : b = 0 ∨ b = AL) (hg : 1 ≤ g) (hg2 : g < 2 ^ 24) (hc : tot ss < cap)  : CtV l D cA y_S_addGroups b_S_addGroups 4 ({ frames := 4, cells := 0, slots := 0, locals := 83 } : Room) [.ref h, .int (nI b), .int (nI g)] (shW cA h h1 h2 cap mx L Bd k) (fun u : (Nat → Int32) × (Nat → Int32) => Hs cap mx u.1 u.2 (ss ++ [[enc (b, g)]])) (fun u => shW cA h h1 h2 cap mx u.1 u.2 (k)) := by
  subst hk
  refine CtV.start (lv0 := [(0, .ref h), (1, .int (nI b)), (2, .int (nI g))]) (by decide) rfl (Nat.le_of_ble_eq_true rfl) ?_
  intro p e s m args below meth c A C hr hin
  have hA : AL = 2147483647 := rfl
  have hb2 : b ≤ 2147483647 := by omega
  refine x_iload_n C d_S_addGroups_0 rfl rfl ?_
  refine x_iconst (v := (nI (1))) C d_S_addGroups_1 (by decide) ?_
  refine x_icmp_geN (tgt := 6) C d_S_addGroups_2 (by decide) (by omega) (by omega) (fun c2 => ?_) (fun c2 => ?_)
  · refine x_iload_n C d_S_addGroups_6 rfl rfl ?_
    refine x_if_eqN (tgt := 22) C d_S_addGroups_7 (by decide) (by omega) (fun c7 => ?_) (fun c7 => ?_)
    · refine x_aload_n C d_S_addGroups_22 rfl rfl ?_
      refine x_callVI (wr := []) (rest := []) C (c_S_lastWord_nil hH rfl) d_S_addGroups_23 cd_S_lastWord lk_S_87 dd_S_lastWord rfl ⟨Nat.le_of_ble_eq_true rfl, Nat.le_of_ble_eq_true rfl⟩ ⟨Nat.le_refl _, Nat.le_refl _⟩ 0 0 rfl rfl [0, 1, 2] [] rfl rfl (by decide) (by decide) (by decide) rfl (Nat.le_of_ble_eq_true rfl) ?_
      intro r_ u_ hp_
      obtain rfl := hp_
      refine x_istore_n (lv' := [(3, .int (nI 0)), (0, .ref h), (1, .int (nI b)), (2, .int (nI g))]) C d_S_addGroups_26 rfl (by decide) rfl ?_
      refine x_iload_n C d_S_addGroups_27 rfl rfl ?_
      refine x_if_geN (tgt := 63) C d_S_addGroups_28 (by decide) (by omega) ?_
      refine x_aload_n C d_S_addGroups_63 rfl rfl ?_
      refine x_iload_n C d_S_addGroups_64 rfl rfl ?_
      refine x_iload_n C d_S_addGroups_65 rfl rfl ?_
      refine x_callSIN (wr := [(h, .inr (0, [.ref h1, .ref h2, .int (nI (ss.length + 1))])), (h1, .inl (cA, cap, .inl (L))), (h2, .inl (cA, mx, .inl (Bd)))]) (rest := [.ref h]) C (c_B_fillOf (b := b) (k := g) hb) d_S_addGroups_66 cd_B_fillOf lk_S_90 dd_B_fillOf rfl ⟨Nat.le_of_ble_eq_true rfl, Nat.le_of_ble_eq_true rfl⟩ ⟨Nat.le_refl _, Nat.le_refl _⟩ [] [0, 1, 2] rfl rfl (by decide) (by decide) (by decide) rfl (Nat.le_of_ble_eq_true rfl) ?_
      intro r_ u_ hp_
      obtain rfl := hp_
      refine x_callVV (wr := []) (rest := []) C (c_S_addWord (w := enc (b, g)) hH rfl (by simpa using hc)) d_S_addGroups_69 cd_S_addWord lk_S_83 dd_S_addWord rfl ⟨Nat.le_of_ble_eq_true rfl, Nat.le_of_ble_eq_true rfl⟩ ⟨Nat.le_refl _, Nat.le_refl _⟩ 0 0 rfl rfl [0, 1, 2] [] rfl rfl (by decide) (by decide) (by decide) rfl (Nat.le_of_ble_eq_true rfl) ?_
      intro u_ hp_
      exact x_vret C hr d_S_addGroups_72 u_ rfl (hp_)
    · refine x_iload_n C d_S_addGroups_10 rfl rfl ?_
      refine x_ldc C d_S_addGroups_11 lk_S_52 ?_
      refine x_top (y := nI 2147483647) (by decide) ?_
      refine x_icmp_eqN (tgt := 22) C d_S_addGroups_13 (by decide) (by omega) (by omega) (fun c13 => ?_) (fun c13 => ?_)
      · refine x_aload_n C d_S_addGroups_22 rfl rfl ?_
        refine x_callVI (wr := []) (rest := []) C (c_S_lastWord_nil hH rfl) d_S_addGroups_23 cd_S_lastWord lk_S_87 dd_S_lastWord rfl ⟨Nat.le_of_ble_eq_true rfl, Nat.le_of_ble_eq_true rfl⟩ ⟨Nat.le_refl _, Nat.le_refl _⟩ 0 0 rfl rfl [0, 1, 2] [] rfl rfl (by decide) (by decide) (by decide) rfl (Nat.le_of_ble_eq_true rfl) ?_
        intro r_ u_ hp_
        obtain rfl := hp_
        refine x_istore_n (lv' := [(3, .int (nI 0)), (0, .ref h), (1, .int (nI b)), (2, .int (nI g))]) C d_S_addGroups_26 rfl (by decide) rfl ?_
        refine x_iload_n C d_S_addGroups_27 rfl rfl ?_
        refine x_if_geN (tgt := 63) C d_S_addGroups_28 (by decide) (by omega) ?_
        refine x_aload_n C d_S_addGroups_63 rfl rfl ?_
        refine x_iload_n C d_S_addGroups_64 rfl rfl ?_
        refine x_iload_n C d_S_addGroups_65 rfl rfl ?_
        refine x_callSIN (wr := [(h, .inr (0, [.ref h1, .ref h2, .int (nI (ss.length + 1))])), (h1, .inl (cA, cap, .inl (L))), (h2, .inl (cA, mx, .inl (Bd)))]) (rest := [.ref h]) C (c_B_fillOf (b := b) (k := g) hb) d_S_addGroups_66 cd_B_fillOf lk_S_90 dd_B_fillOf rfl ⟨Nat.le_of_ble_eq_true rfl, Nat.le_of_ble_eq_true rfl⟩ ⟨Nat.le_refl _, Nat.le_refl _⟩ [] [0, 1, 2] rfl rfl (by decide) (by decide) (by decide) rfl (Nat.le_of_ble_eq_true rfl) ?_
        intro r_ u_ hp_
        obtain rfl := hp_
        refine x_callVV (wr := []) (rest := []) C (c_S_addWord (w := enc (b, g)) hH rfl (by simpa using hc)) d_S_addGroups_69 cd_S_addWord lk_S_83 dd_S_addWord rfl ⟨Nat.le_of_ble_eq_true rfl, Nat.le_of_ble_eq_true rfl⟩ ⟨Nat.le_refl _, Nat.le_refl _⟩ 0 0 rfl rfl [0, 1, 2] [] rfl rfl (by decide) (by decide) (by decide) rfl (Nat.le_of_ble_eq_true rfl) ?_
        intro u_ hp_
        exact x_vret C hr d_S_addGroups_72 u_ rfl (hp_)
      · exact absurd hb (by omega)
  · exact absurd c2 (by omega)
set_option maxHeartbeats 4000000 in
theorem c_S_addGroups_snoc {l : Launch} {D : va_G} {cA : ClassId} {h h1 h2 cap mx : Nat} {L Bd : Nat → Int32} {k : Nat} {ss : List (List Int32)} {ws : List (Nat × Nat)} {v : Nat × Nat} (hH : Hs cap mx L Bd (ss ++ [ws.map enc ++ [enc v]])) (hk : ss.length + 1 = k) (hv : okw v) (hv2 : v.2 < 2 ^ 24) {b g : Nat} (hb : b = 0 ∨ b = AL) (hg : 1 ≤ g) (hg2 : g < 2 ^ 24) (hc : tot ss + (ws.length + 1) < cap)  : CtV l D cA y_S_addGroups b_S_addGroups 4 ({ frames := 4, cells := 0, slots := 0, locals := 83 } : Room) [.ref h, .int (nI b), .int (nI g)] (shW cA h h1 h2 cap mx L Bd k) (fun u : (Nat → Int32) × (Nat → Int32) => Hs cap mx u.1 u.2 (ss ++ [(push (ws ++ [v]) b g).map enc])) (fun u => shW cA h h1 h2 cap mx u.1 u.2 (k)) := by
  subst hk
  refine CtV.start (lv0 := [(0, .ref h), (1, .int (nI b)), (2, .int (nI g))]) (by decide) rfl (Nat.le_of_ble_eq_true rfl) ?_
  intro p e s m args below meth c A C hr hin
  have hA : AL = 2147483647 := rfl
  have hb2 : b ≤ 2147483647 := by omega
  have hv3 : v.1 ≤ 2147483647 := hv.2.1
  have hn := hH.in
  rw [List.length_append, List.length_singleton] at hn
  refine x_iload_n C d_S_addGroups_0 rfl rfl ?_
  refine x_iconst (v := (nI (1))) C d_S_addGroups_1 (by decide) ?_
  refine x_icmp_geN (tgt := 6) C d_S_addGroups_2 (by decide) (by omega) (by omega) (fun c2 => ?_) (fun c2 => ?_)
  · refine x_iload_n C d_S_addGroups_6 rfl rfl ?_
    refine x_if_eqN (tgt := 22) C d_S_addGroups_7 (by decide) (by omega) (fun c7 => ?_) (fun c7 => ?_)
    · refine x_aload_n C d_S_addGroups_22 rfl rfl ?_
      refine x_callVI (wr := []) (rest := []) C (c_S_lastWord hH rfl) d_S_addGroups_23 cd_S_lastWord lk_S_87 dd_S_lastWord rfl ⟨Nat.le_of_ble_eq_true rfl, Nat.le_of_ble_eq_true rfl⟩ ⟨Nat.le_refl _, Nat.le_refl _⟩ 0 0 rfl rfl [0, 1, 2] [] rfl rfl (by decide) (by decide) (by decide) rfl (Nat.le_of_ble_eq_true rfl) ?_
      intro r_ u_ hp_
      obtain rfl := hp_
      refine x_istore_n (lv' := [(3, .int (enc v)), (0, .ref h), (1, .int (nI b)), (2, .int (nI g))]) C d_S_addGroups_26 rfl (by decide) rfl ?_
      refine x_iload_n C d_S_addGroups_27 rfl rfl ?_
      refine x_if_ge (tgt := 63) C d_S_addGroups_28 (by decide)  (fun c28 => ?_) (fun c28 => ?_)
      · refine x_aload_n C d_S_addGroups_63 rfl rfl ?_
        refine x_iload_n C d_S_addGroups_64 rfl rfl ?_
        refine x_iload_n C d_S_addGroups_65 rfl rfl ?_
        refine x_callSIN (wr := [(h, .inr (0, [.ref h1, .ref h2, .int (nI (ss.length + 1))])), (h1, .inl (cA, cap, .inl (L))), (h2, .inl (cA, mx, .inl (Bd)))]) (rest := [.ref h]) C (c_B_fillOf (b := b) (k := g) hb) d_S_addGroups_66 cd_B_fillOf lk_S_90 dd_B_fillOf rfl ⟨Nat.le_of_ble_eq_true rfl, Nat.le_of_ble_eq_true rfl⟩ ⟨Nat.le_refl _, Nat.le_refl _⟩ [] [0, 1, 2] rfl rfl (by decide) (by decide) (by decide) rfl (Nat.le_of_ble_eq_true rfl) ?_
        intro r_ u_ hp_
        obtain rfl := hp_
        refine x_callVV (wr := []) (rest := []) C (c_S_addWord (w := enc (b, g)) hH rfl (by simpa using hc)) d_S_addGroups_69 cd_S_addWord lk_S_83 dd_S_addWord rfl ⟨Nat.le_of_ble_eq_true rfl, Nat.le_of_ble_eq_true rfl⟩ ⟨Nat.le_refl _, Nat.le_refl _⟩ 0 0 rfl rfl [0, 1, 2] [] rfl rfl (by decide) (by decide) (by decide) rfl (Nat.le_of_ble_eq_true rfl) ?_
        intro u_ hp_
        exact x_vret C hr d_S_addGroups_72 u_ rfl (by rw [push_other _ _ _ _ (fun q => absurd (enc_fill (b := v.1) (k := v.2) (by rw [q.1]; exact q.2) hv.1 (by omega)) (Int32.not_lt.mpr c28)), map_snoc, map_snoc]; exact hp_)
      · refine x_iload_n C d_S_addGroups_31 rfl rfl ?_
        refine x_callSIN (wr := [(h, .inr (0, [.ref h1, .ref h2, .int (nI (ss.length + 1))])), (h1, .inl (cA, cap, .inl (L))), (h2, .inl (cA, mx, .inl (Bd)))]) (rest := []) C (c_B_bitsOf hv (by omega)) d_S_addGroups_32 cd_B_bitsOf lk_S_38 dd_B_bitsOf rfl ⟨Nat.le_of_ble_eq_true rfl, Nat.le_of_ble_eq_true rfl⟩ ⟨Nat.le_refl _, Nat.le_refl _⟩ [] [0, 1, 2] rfl rfl (by decide) (by decide) (by decide) rfl (Nat.le_of_ble_eq_true rfl) ?_
        intro r_ u_ hp_
        obtain rfl := hp_
        refine x_iload_n C d_S_addGroups_35 rfl rfl ?_
        refine x_icmp_neN (tgt := 63) C d_S_addGroups_36 (by decide) (by omega) (by omega) (fun c36 => ?_) (fun c36 => ?_)
        · refine x_aload_n C d_S_addGroups_63 rfl rfl ?_
          refine x_iload_n C d_S_addGroups_64 rfl rfl ?_
          refine x_iload_n C d_S_addGroups_65 rfl rfl ?_
          refine x_callSIN (wr := [(h, .inr (0, [.ref h1, .ref h2, .int (nI (ss.length + 1))])), (h1, .inl (cA, cap, .inl (L))), (h2, .inl (cA, mx, .inl (Bd)))]) (rest := [.ref h]) C (c_B_fillOf (b := b) (k := g) hb) d_S_addGroups_66 cd_B_fillOf lk_S_90 dd_B_fillOf rfl ⟨Nat.le_of_ble_eq_true rfl, Nat.le_of_ble_eq_true rfl⟩ ⟨Nat.le_refl _, Nat.le_refl _⟩ [] [0, 1, 2] rfl rfl (by decide) (by decide) (by decide) rfl (Nat.le_of_ble_eq_true rfl) ?_
          intro r_ u_ hp_
          obtain rfl := hp_
          refine x_callVV (wr := []) (rest := []) C (c_S_addWord (w := enc (b, g)) hH rfl (by simpa using hc)) d_S_addGroups_69 cd_S_addWord lk_S_83 dd_S_addWord rfl ⟨Nat.le_of_ble_eq_true rfl, Nat.le_of_ble_eq_true rfl⟩ ⟨Nat.le_refl _, Nat.le_refl _⟩ 0 0 rfl rfl [0, 1, 2] [] rfl rfl (by decide) (by decide) (by decide) rfl (Nat.le_of_ble_eq_true rfl) ?_
          intro u_ hp_
          exact x_vret C hr d_S_addGroups_72 u_ rfl (by rw [push_other _ _ _ _ (fun q => c36 q.1), map_snoc, map_snoc]; exact hp_)
        · refine x_aload_n C d_S_addGroups_39 rfl rfl ?_
          refine x_get C d_S_addGroups_40 0 rfl rfl i_S 0 (by decide) lk_S_15 rfl rfl ?_
          refine x_aload_n C d_S_addGroups_43 rfl rfl ?_
          refine x_callVI (wr := []) (rest := [.ref h1]) C (c_S_used hH (by simp)) d_S_addGroups_44 cd_S_used lk_S_59 dd_S_used rfl ⟨Nat.le_of_ble_eq_true rfl, Nat.le_of_ble_eq_true rfl⟩ ⟨Nat.le_refl _, Nat.le_refl _⟩ 0 0 rfl rfl [0, 1, 2] [] rfl rfl (by decide) (by decide) (by decide) rfl (Nat.le_of_ble_eq_true rfl) ?_
          intro r_ u_ hp_
          obtain rfl := hp_
          refine x_top (y := (nI (tot ss + ((ws.map enc).length + 1)))) (by rw [tot_app, tot_one]; simp) ?_
          refine x_iconst (v := (nI (1))) C d_S_addGroups_47 (by decide) ?_
          refine x_isubN C d_S_addGroups_48 (by omega) ?_
          refine x_top (y := (nI (tot ss + (ws.map enc).length))) (by congr 1) ?_
          refine x_iload_n C d_S_addGroups_49 rfl rfl ?_
          refine x_iload_n C d_S_addGroups_50 rfl rfl ?_
          refine x_callSIN (wr := [(h, .inr (0, [.ref h1, .ref h2, .int (nI (ss.length + 1))])), (h1, .inl (cA, cap, .inl (L))), (h2, .inl (cA, mx, .inl (Bd)))]) (rest := [.int (nI b), .int (nI (tot ss + (ws.map enc).length)), .ref h1]) C (c_B_groupsOf hv (by omega)) d_S_addGroups_51 cd_B_groupsOf lk_S_46 dd_B_groupsOf rfl ⟨Nat.le_of_ble_eq_true rfl, Nat.le_of_ble_eq_true rfl⟩ ⟨Nat.le_refl _, Nat.le_refl _⟩ [] [0, 1, 2] rfl rfl (by decide) (by decide) (by decide) rfl (Nat.le_of_ble_eq_true rfl) ?_
          intro r_ u_ hp_
          obtain rfl := hp_
          refine x_iload_n C d_S_addGroups_54 rfl rfl ?_
          refine x_iaddN C d_S_addGroups_55  ?_
          refine x_callSIN (wr := [(h, .inr (0, [.ref h1, .ref h2, .int (nI (ss.length + 1))])), (h1, .inl (cA, cap, .inl (L))), (h2, .inl (cA, mx, .inl (Bd)))]) (rest := [.int (nI (tot ss + (ws.map enc).length)), .ref h1]) C (c_B_fillOf (b := b) (k := v.2 + g) hb) d_S_addGroups_56 cd_B_fillOf lk_S_90 dd_B_fillOf rfl ⟨Nat.le_of_ble_eq_true rfl, Nat.le_of_ble_eq_true rfl⟩ ⟨Nat.le_refl _, Nat.le_refl _⟩ [] [0, 1, 2] rfl rfl (by decide) (by decide) (by decide) rfl (Nat.le_of_ble_eq_true rfl) ?_
          intro r_ u_ hp_
          obtain rfl := hp_
          refine x_iast (ws' := [(h, .inr (0, [.ref h1, .ref h2, .int (nI (ss.length + 1))])), (h1, .inl (cA, cap, .inl (upd L (tot ss + (ws.map enc).length) (enc (b, v.2 + g))))), (h2, .inl (cA, mx, .inl (Bd)))]) C d_S_addGroups_59 1 rfl (by omega) (by omega) rfl ?_
          refine x_goto (tgt := 72) C d_S_addGroups_60 (by decide) ?_
          exact x_vret C hr d_S_addGroups_72 (upd L (tot ss + (ws.map enc).length) (enc (b, v.2 + g)), Bd) rfl (by subst c36; rw [show v = (v.1, v.2) from rfl, push_same _ _ _ _ hb, map_snoc]; exact hH.setw)
    · refine x_iload_n C d_S_addGroups_10 rfl rfl ?_
      refine x_ldc C d_S_addGroups_11 lk_S_52 ?_
      refine x_top (y := nI 2147483647) (by decide) ?_
      refine x_icmp_eqN (tgt := 22) C d_S_addGroups_13 (by decide) (by omega) (by omega) (fun c13 => ?_) (fun c13 => ?_)
      · refine x_aload_n C d_S_addGroups_22 rfl rfl ?_
        refine x_callVI (wr := []) (rest := []) C (c_S_lastWord hH rfl) d_S_addGroups_23 cd_S_lastWord lk_S_87 dd_S_lastWord rfl ⟨Nat.le_of_ble_eq_true rfl, Nat.le_of_ble_eq_true rfl⟩ ⟨Nat.le_refl _, Nat.le_refl _⟩ 0 0 rfl rfl [0, 1, 2] [] rfl rfl (by decide) (by decide) (by decide) rfl (Nat.le_of_ble_eq_true rfl) ?_
        intro r_ u_ hp_
        obtain rfl := hp_
        refine x_istore_n (lv' := [(3, .int (enc v)), (0, .ref h), (1, .int (nI b)), (2, .int (nI g))]) C d_S_addGroups_26 rfl (by decide) rfl ?_
        refine x_iload_n C d_S_addGroups_27 rfl rfl ?_
        refine x_if_ge (tgt := 63) C d_S_addGroups_28 (by decide)  (fun c28 => ?_) (fun c28 => ?_)
        · refine x_aload_n C d_S_addGroups_63 rfl rfl ?_
          refine x_iload_n C d_S_addGroups_64 rfl rfl ?_
          refine x_iload_n C d_S_addGroups_65 rfl rfl ?_
          refine x_callSIN (wr := [(h, .inr (0, [.ref h1, .ref h2, .int (nI (ss.length + 1))])), (h1, .inl (cA, cap, .inl (L))), (h2, .inl (cA, mx, .inl (Bd)))]) (rest := [.ref h]) C (c_B_fillOf (b := b) (k := g) hb) d_S_addGroups_66 cd_B_fillOf lk_S_90 dd_B_fillOf rfl ⟨Nat.le_of_ble_eq_true rfl, Nat.le_of_ble_eq_true rfl⟩ ⟨Nat.le_refl _, Nat.le_refl _⟩ [] [0, 1, 2] rfl rfl (by decide) (by decide) (by decide) rfl (Nat.le_of_ble_eq_true rfl) ?_
          intro r_ u_ hp_
          obtain rfl := hp_
          refine x_callVV (wr := []) (rest := []) C (c_S_addWord (w := enc (b, g)) hH rfl (by simpa using hc)) d_S_addGroups_69 cd_S_addWord lk_S_83 dd_S_addWord rfl ⟨Nat.le_of_ble_eq_true rfl, Nat.le_of_ble_eq_true rfl⟩ ⟨Nat.le_refl _, Nat.le_refl _⟩ 0 0 rfl rfl [0, 1, 2] [] rfl rfl (by decide) (by decide) (by decide) rfl (Nat.le_of_ble_eq_true rfl) ?_
          intro u_ hp_
          exact x_vret C hr d_S_addGroups_72 u_ rfl (by rw [push_other _ _ _ _ (fun q => absurd (enc_fill (b := v.1) (k := v.2) (by rw [q.1]; exact q.2) hv.1 (by omega)) (Int32.not_lt.mpr c28)), map_snoc, map_snoc]; exact hp_)
        · refine x_iload_n C d_S_addGroups_31 rfl rfl ?_
          refine x_callSIN (wr := [(h, .inr (0, [.ref h1, .ref h2, .int (nI (ss.length + 1))])), (h1, .inl (cA, cap, .inl (L))), (h2, .inl (cA, mx, .inl (Bd)))]) (rest := []) C (c_B_bitsOf hv (by omega)) d_S_addGroups_32 cd_B_bitsOf lk_S_38 dd_B_bitsOf rfl ⟨Nat.le_of_ble_eq_true rfl, Nat.le_of_ble_eq_true rfl⟩ ⟨Nat.le_refl _, Nat.le_refl _⟩ [] [0, 1, 2] rfl rfl (by decide) (by decide) (by decide) rfl (Nat.le_of_ble_eq_true rfl) ?_
          intro r_ u_ hp_
          obtain rfl := hp_
          refine x_iload_n C d_S_addGroups_35 rfl rfl ?_
          refine x_icmp_neN (tgt := 63) C d_S_addGroups_36 (by decide) (by omega) (by omega) (fun c36 => ?_) (fun c36 => ?_)
          · refine x_aload_n C d_S_addGroups_63 rfl rfl ?_
            refine x_iload_n C d_S_addGroups_64 rfl rfl ?_
            refine x_iload_n C d_S_addGroups_65 rfl rfl ?_
            refine x_callSIN (wr := [(h, .inr (0, [.ref h1, .ref h2, .int (nI (ss.length + 1))])), (h1, .inl (cA, cap, .inl (L))), (h2, .inl (cA, mx, .inl (Bd)))]) (rest := [.ref h]) C (c_B_fillOf (b := b) (k := g) hb) d_S_addGroups_66 cd_B_fillOf lk_S_90 dd_B_fillOf rfl ⟨Nat.le_of_ble_eq_true rfl, Nat.le_of_ble_eq_true rfl⟩ ⟨Nat.le_refl _, Nat.le_refl _⟩ [] [0, 1, 2] rfl rfl (by decide) (by decide) (by decide) rfl (Nat.le_of_ble_eq_true rfl) ?_
            intro r_ u_ hp_
            obtain rfl := hp_
            refine x_callVV (wr := []) (rest := []) C (c_S_addWord (w := enc (b, g)) hH rfl (by simpa using hc)) d_S_addGroups_69 cd_S_addWord lk_S_83 dd_S_addWord rfl ⟨Nat.le_of_ble_eq_true rfl, Nat.le_of_ble_eq_true rfl⟩ ⟨Nat.le_refl _, Nat.le_refl _⟩ 0 0 rfl rfl [0, 1, 2] [] rfl rfl (by decide) (by decide) (by decide) rfl (Nat.le_of_ble_eq_true rfl) ?_
            intro u_ hp_
            exact x_vret C hr d_S_addGroups_72 u_ rfl (by rw [push_other _ _ _ _ (fun q => c36 q.1), map_snoc, map_snoc]; exact hp_)
          · refine x_aload_n C d_S_addGroups_39 rfl rfl ?_
            refine x_get C d_S_addGroups_40 0 rfl rfl i_S 0 (by decide) lk_S_15 rfl rfl ?_
            refine x_aload_n C d_S_addGroups_43 rfl rfl ?_
            refine x_callVI (wr := []) (rest := [.ref h1]) C (c_S_used hH (by simp)) d_S_addGroups_44 cd_S_used lk_S_59 dd_S_used rfl ⟨Nat.le_of_ble_eq_true rfl, Nat.le_of_ble_eq_true rfl⟩ ⟨Nat.le_refl _, Nat.le_refl _⟩ 0 0 rfl rfl [0, 1, 2] [] rfl rfl (by decide) (by decide) (by decide) rfl (Nat.le_of_ble_eq_true rfl) ?_
            intro r_ u_ hp_
            obtain rfl := hp_
            refine x_top (y := (nI (tot ss + ((ws.map enc).length + 1)))) (by rw [tot_app, tot_one]; simp) ?_
            refine x_iconst (v := (nI (1))) C d_S_addGroups_47 (by decide) ?_
            refine x_isubN C d_S_addGroups_48 (by omega) ?_
            refine x_top (y := (nI (tot ss + (ws.map enc).length))) (by congr 1) ?_
            refine x_iload_n C d_S_addGroups_49 rfl rfl ?_
            refine x_iload_n C d_S_addGroups_50 rfl rfl ?_
            refine x_callSIN (wr := [(h, .inr (0, [.ref h1, .ref h2, .int (nI (ss.length + 1))])), (h1, .inl (cA, cap, .inl (L))), (h2, .inl (cA, mx, .inl (Bd)))]) (rest := [.int (nI b), .int (nI (tot ss + (ws.map enc).length)), .ref h1]) C (c_B_groupsOf hv (by omega)) d_S_addGroups_51 cd_B_groupsOf lk_S_46 dd_B_groupsOf rfl ⟨Nat.le_of_ble_eq_true rfl, Nat.le_of_ble_eq_true rfl⟩ ⟨Nat.le_refl _, Nat.le_refl _⟩ [] [0, 1, 2] rfl rfl (by decide) (by decide) (by decide) rfl (Nat.le_of_ble_eq_true rfl) ?_
            intro r_ u_ hp_
            obtain rfl := hp_
            refine x_iload_n C d_S_addGroups_54 rfl rfl ?_
            refine x_iaddN C d_S_addGroups_55  ?_
            refine x_callSIN (wr := [(h, .inr (0, [.ref h1, .ref h2, .int (nI (ss.length + 1))])), (h1, .inl (cA, cap, .inl (L))), (h2, .inl (cA, mx, .inl (Bd)))]) (rest := [.int (nI (tot ss + (ws.map enc).length)), .ref h1]) C (c_B_fillOf (b := b) (k := v.2 + g) hb) d_S_addGroups_56 cd_B_fillOf lk_S_90 dd_B_fillOf rfl ⟨Nat.le_of_ble_eq_true rfl, Nat.le_of_ble_eq_true rfl⟩ ⟨Nat.le_refl _, Nat.le_refl _⟩ [] [0, 1, 2] rfl rfl (by decide) (by decide) (by decide) rfl (Nat.le_of_ble_eq_true rfl) ?_
            intro r_ u_ hp_
            obtain rfl := hp_
            refine x_iast (ws' := [(h, .inr (0, [.ref h1, .ref h2, .int (nI (ss.length + 1))])), (h1, .inl (cA, cap, .inl (upd L (tot ss + (ws.map enc).length) (enc (b, v.2 + g))))), (h2, .inl (cA, mx, .inl (Bd)))]) C d_S_addGroups_59 1 rfl (by omega) (by omega) rfl ?_
            refine x_goto (tgt := 72) C d_S_addGroups_60 (by decide) ?_
            exact x_vret C hr d_S_addGroups_72 (upd L (tot ss + (ws.map enc).length) (enc (b, v.2 + g)), Bd) rfl (by subst c36; rw [show v = (v.1, v.2) from rfl, push_same _ _ _ _ hb, map_snoc]; exact hH.setw)
      · exact absurd hb (by omega)
  · exact absurd c2 (by omega)
theorem c_S_addGroups {l : Launch} {D : va_G} {cA : ClassId} {h h1 h2 cap mx : Nat} {L Bd : Nat → Int32} {k : Nat} {ss : List (List Int32)} {ws : List (Nat × Nat)} (hH : Hs cap mx L Bd (ss ++ [ws.map enc])) (hk : ss.length + 1 = k) (hcn : canon ws) (hx : (ex ws).length < 2 ^ 24) {b g : Nat} (hb : b ≤ AL) (hw : 1 ≤ g → okw (b, g)) (hg : g < 2 ^ 24) (hc : tot ss + ws.length < cap) : CtV l D cA y_S_addGroups b_S_addGroups 4 ({ frames := 4, cells := 0, slots := 0, locals := 83 } : Room) [.ref h, .int (nI b), .int (nI g)] (shW cA h h1 h2 cap mx L Bd k) (fun u : (Nat → Int32) × (Nat → Int32) => Hs cap mx u.1 u.2 (ss ++ [(pg ws b g).map enc])) (fun u => shW cA h h1 h2 cap mx u.1 u.2 (k)) := by
  by_cases hg0 : g = 0
  · subst hg0
    rw [show pg ws b 0 = ws from rfl]
    exact c_S_addGroups_0 hH hk
  · rw [show pg ws b g = push ws b g from if_neg hg0]
    have hw1 := hw (by omega)
    by_cases hf : b = 0 ∨ b = AL
    · rcases List.eq_nil_or_concat ws with rfl | ⟨ws0, v, rfl⟩
      · exact c_S_addGroups_nil hH hk hf (by omega) hg (by simpa using hc)
      · rw [List.concat_eq_append] at *
        rw [map_snoc] at hH
        have h1 := ((canon_snoc ws0 v).mp hcn).2.1
        have h2 : v.2 ≤ (ex (ws0 ++ [v])).length := ex_mem_le (by simp)
        exact c_S_addGroups_snoc hH hk h1 (by omega) hf (by omega) hg (by simpa using hc)
    · have h1 : g = 1 := by
        rcases hw1.2.2 with q | q | q
        · exact absurd (Or.inl q) hf
        · exact absurd (Or.inr q) hf
        · exact q
      subst h1
      rw [push_lit _ _ _ hf, map_snoc, enc_lit (w := (b, 1)) hf]
      exact c_S_addGroups_lit hH hk hf hb (by simpa using hc)
theorem pg_ok {ws : List (Nat × Nat)} {b g : Nat} (hc : canon ws) (hw : 1 ≤ g → okw (b, g)) : canon (pg ws b g) ∧ ex (pg ws b g) = ex ws ++ List.replicate g b ∧ (pg ws b g).length ≤ ws.length + 1 := by
  by_cases hg0 : g = 0
  · subst hg0
    exact ⟨hc, by simp [pg], by simp [pg]⟩
  · rw [show pg ws b g = push ws b g from if_neg hg0]
    exact push_ok hc (hw (by omega))
theorem tk_ok {ws : List (Nat × Nat)} {v : Nat × Nat} (hc : canon (ws ++ [v])) : canon (tk ws v) ∧ ex (ws ++ [v]) = ex (tk ws v) ++ [v.1] ∧ (tk ws v).length ≤ ws.length + 1 := by
  have h := pop_ok hc
  have h1 := ((canon_snoc ws v).mp hc).2.1.1
  unfold tk
  by_cases h2 : v.2 ≤ 1
  · rw [if_pos h2]
    have := h.1 (by omega)
    exact ⟨this.1, this.2, by omega⟩
  · rw [if_neg h2]
    have := h.2 (by omega)
    exact ⟨this.2.2.1, this.2.2.2, by simp⟩
set_option maxHeartbeats 4000000 in
theorem c_S_takeGroup {l : Launch} {D : va_G} {cA : ClassId} {h h1 h2 cap mx : Nat} {L Bd : Nat → Int32} {k : Nat} {ss : List (List Int32)} {ws : List (Nat × Nat)} {v : Nat × Nat} (hH : Hs cap mx L Bd (ss ++ [ws.map enc ++ [enc v]])) (hk : ss.length + 1 = k) (hv : okw v) (hv2 : v.2 < 2 ^ 24)  : CtI l D cA y_S_takeGroup b_S_takeGroup 2 (some .int) ({ frames := 4, cells := 0, slots := 0, locals := 83 } : Room) [.ref h] (shW cA h h1 h2 cap mx L Bd k) (fun r (u : (Nat → Int32) × (Nat → Int32)) => r = nI v.1 ∧ Hs cap mx u.1 u.2 (ss ++ [(tk ws v).map enc])) (fun u => shW cA h h1 h2 cap mx u.1 u.2 (k)) := by
  subst hk
  refine CtI.start (lv0 := [(0, .ref h)]) (by decide) rfl (Nat.le_of_ble_eq_true rfl) ?_
  intro p e s m args below meth c A C hr hin
  have hA : AL = 2147483647 := rfl
  have hn := hH.in
  rw [List.length_append, List.length_singleton] at hn
  refine x_aload_n C d_S_takeGroup_0 rfl rfl ?_
  refine x_callVI (wr := []) (rest := []) C (c_S_lastWord hH rfl) d_S_takeGroup_1 cd_S_lastWord lk_S_87 dd_S_lastWord rfl ⟨Nat.le_of_ble_eq_true rfl, Nat.le_of_ble_eq_true rfl⟩ ⟨Nat.le_refl _, Nat.le_refl _⟩ 0 0 rfl rfl [0, 1, 2] [] rfl rfl (by decide) (by decide) (by decide) rfl (Nat.le_of_ble_eq_true rfl) ?_
  intro r_ u_ hp_
  obtain rfl := hp_
  refine x_istore_n (lv' := [(1, .int (enc v)), (0, .ref h)]) C d_S_takeGroup_4 rfl (by decide) rfl ?_
  refine x_iload_n C d_S_takeGroup_5 rfl rfl ?_
  refine x_if_ne (tgt := 11) C d_S_takeGroup_6 (by decide)  (fun c6 => ?_) (fun c6 => ?_)
  · refine x_iload_n C d_S_takeGroup_11 rfl rfl ?_
    refine x_callSIN (wr := [(h, .inr (0, [.ref h1, .ref h2, .int (nI (ss.length + 1))])), (h1, .inl (cA, cap, .inl (L))), (h2, .inl (cA, mx, .inl (Bd)))]) (rest := []) C (c_B_groupsOf hv (by omega)) d_S_takeGroup_12 cd_B_groupsOf lk_S_46 dd_B_groupsOf rfl ⟨Nat.le_of_ble_eq_true rfl, Nat.le_of_ble_eq_true rfl⟩ ⟨Nat.le_refl _, Nat.le_refl _⟩ [] [0, 1, 2] rfl rfl (by decide) (by decide) (by decide) rfl (Nat.le_of_ble_eq_true rfl) ?_
    intro r_ u_ hp_
    obtain rfl := hp_
    refine x_iconst (v := (nI (1))) C d_S_takeGroup_15 (by decide) ?_
    refine x_icmp_leN (tgt := 46) C d_S_takeGroup_16 (by decide) (by omega) (by omega) (fun c16 => ?_) (fun c16 => ?_)
    · refine x_aload_n C d_S_takeGroup_46 rfl rfl ?_
      refine x_get C d_S_takeGroup_47 0 rfl rfl i_S 1 (by decide) lk_S_19 rfl rfl ?_
      refine x_aload_n C d_S_takeGroup_50 rfl rfl ?_
      refine x_get C d_S_takeGroup_51 0 rfl rfl i_S 2 (by decide) lk_S_9 rfl rfl ?_
      refine x_dup2 C d_S_takeGroup_54 rfl rfl ?_
      refine x_iald C d_S_takeGroup_55 2 rfl (by omega) (by omega) ?_
      refine x_top (y := (nI (tot ss + ((ws.map enc).length + 1)))) hn.2.2.2.2.1 ?_
      refine x_iconst (v := (nI (1))) C d_S_takeGroup_56 (by decide) ?_
      refine x_isubN C d_S_takeGroup_57 (by omega) ?_
      refine x_top (y := (nI (tot ss + (ws.map enc).length))) (by congr 1) ?_
      refine x_iast (ws' := [(h, .inr (0, [.ref h1, .ref h2, .int (nI (ss.length + 1))])), (h1, .inl (cA, cap, .inl (L))), (h2, .inl (cA, mx, .inl (upd Bd (ss.length + 1) (nI (tot ss + (ws.map enc).length)))))]) C d_S_takeGroup_58 2 rfl (by omega) (by omega) rfl ?_
      refine x_iload_n C d_S_takeGroup_59 rfl rfl ?_
      refine x_callSIN (wr := [(h, .inr (0, [.ref h1, .ref h2, .int (nI (ss.length + 1))])), (h1, .inl (cA, cap, .inl (L))), (h2, .inl (cA, mx, .inl (upd Bd (ss.length + 1) (nI (tot ss + (ws.map enc).length)))))]) (rest := []) C (c_B_bitsOf hv (by omega)) d_S_takeGroup_60 cd_B_bitsOf lk_S_38 dd_B_bitsOf rfl ⟨Nat.le_of_ble_eq_true rfl, Nat.le_of_ble_eq_true rfl⟩ ⟨Nat.le_refl _, Nat.le_refl _⟩ [] [0, 1, 2] rfl rfl (by decide) (by decide) (by decide) rfl (Nat.le_of_ble_eq_true rfl) ?_
      intro r_ u_ hp_
      obtain rfl := hp_
      exact x_iret C hr d_S_takeGroup_63 (L, upd Bd (ss.length + 1) (nI (tot ss + (ws.map enc).length))) rfl (⟨rfl, by rw [tk, if_pos c16]; exact hH.lessw rfl⟩)
    · refine x_aload_n C d_S_takeGroup_19 rfl rfl ?_
      refine x_get C d_S_takeGroup_20 0 rfl rfl i_S 0 (by decide) lk_S_15 rfl rfl ?_
      refine x_aload_n C d_S_takeGroup_23 rfl rfl ?_
      refine x_callVI (wr := []) (rest := [.ref h1]) C (c_S_used hH (by simp)) d_S_takeGroup_24 cd_S_used lk_S_59 dd_S_used rfl ⟨Nat.le_of_ble_eq_true rfl, Nat.le_of_ble_eq_true rfl⟩ ⟨Nat.le_refl _, Nat.le_refl _⟩ 0 0 rfl rfl [0, 1, 2] [] rfl rfl (by decide) (by decide) (by decide) rfl (Nat.le_of_ble_eq_true rfl) ?_
      intro r_ u_ hp_
      obtain rfl := hp_
      refine x_top (y := (nI (tot ss + ((ws.map enc).length + 1)))) (by rw [tot_app, tot_one]; simp) ?_
      refine x_iconst (v := (nI (1))) C d_S_takeGroup_27 (by decide) ?_
      refine x_isubN C d_S_takeGroup_28 (by omega) ?_
      refine x_top (y := (nI (tot ss + (ws.map enc).length))) (by congr 1) ?_
      refine x_iload_n C d_S_takeGroup_29 rfl rfl ?_
      refine x_callSIN (wr := [(h, .inr (0, [.ref h1, .ref h2, .int (nI (ss.length + 1))])), (h1, .inl (cA, cap, .inl (L))), (h2, .inl (cA, mx, .inl (Bd)))]) (rest := [.int (nI (tot ss + (ws.map enc).length)), .ref h1]) C (c_B_bitsOf hv (by omega)) d_S_takeGroup_30 cd_B_bitsOf lk_S_38 dd_B_bitsOf rfl ⟨Nat.le_of_ble_eq_true rfl, Nat.le_of_ble_eq_true rfl⟩ ⟨Nat.le_refl _, Nat.le_refl _⟩ [] [0, 1, 2] rfl rfl (by decide) (by decide) (by decide) rfl (Nat.le_of_ble_eq_true rfl) ?_
      intro r_ u_ hp_
      obtain rfl := hp_
      refine x_iload_n C d_S_takeGroup_33 rfl rfl ?_
      refine x_callSIN (wr := [(h, .inr (0, [.ref h1, .ref h2, .int (nI (ss.length + 1))])), (h1, .inl (cA, cap, .inl (L))), (h2, .inl (cA, mx, .inl (Bd)))]) (rest := [.int (nI (v.1)), .int (nI (tot ss + (ws.map enc).length)), .ref h1]) C (c_B_groupsOf hv (by omega)) d_S_takeGroup_34 cd_B_groupsOf lk_S_46 dd_B_groupsOf rfl ⟨Nat.le_of_ble_eq_true rfl, Nat.le_of_ble_eq_true rfl⟩ ⟨Nat.le_refl _, Nat.le_refl _⟩ [] [0, 1, 2] rfl rfl (by decide) (by decide) (by decide) rfl (Nat.le_of_ble_eq_true rfl) ?_
      intro r_ u_ hp_
      obtain rfl := hp_
      refine x_iconst (v := (nI (1))) C d_S_takeGroup_37 (by decide) ?_
      refine x_isubN C d_S_takeGroup_38 (by omega) ?_
      refine x_callSIN (wr := [(h, .inr (0, [.ref h1, .ref h2, .int (nI (ss.length + 1))])), (h1, .inl (cA, cap, .inl (L))), (h2, .inl (cA, mx, .inl (Bd)))]) (rest := [.int (nI (tot ss + (ws.map enc).length)), .ref h1]) C (c_B_fillOf (b := v.1) (k := v.2 - 1) (okw_fill hv c16)) d_S_takeGroup_39 cd_B_fillOf lk_S_90 dd_B_fillOf rfl ⟨Nat.le_of_ble_eq_true rfl, Nat.le_of_ble_eq_true rfl⟩ ⟨Nat.le_refl _, Nat.le_refl _⟩ [] [0, 1, 2] rfl rfl (by decide) (by decide) (by decide) rfl (Nat.le_of_ble_eq_true rfl) ?_
      intro r_ u_ hp_
      obtain rfl := hp_
      refine x_iast (ws' := [(h, .inr (0, [.ref h1, .ref h2, .int (nI (ss.length + 1))])), (h1, .inl (cA, cap, .inl (upd L (tot ss + (ws.map enc).length) (enc (v.1, v.2 - 1))))), (h2, .inl (cA, mx, .inl (Bd)))]) C d_S_takeGroup_42 1 rfl (by omega) (by omega) rfl ?_
      refine x_goto (tgt := 59) C d_S_takeGroup_43 (by decide) ?_
      refine x_iload_n C d_S_takeGroup_59 rfl rfl ?_
      refine x_callSIN (wr := [(h, .inr (0, [.ref h1, .ref h2, .int (nI (ss.length + 1))])), (h1, .inl (cA, cap, .inl (upd L (tot ss + (ws.map enc).length) (enc (v.1, v.2 - 1))))), (h2, .inl (cA, mx, .inl (Bd)))]) (rest := []) C (c_B_bitsOf hv (by omega)) d_S_takeGroup_60 cd_B_bitsOf lk_S_38 dd_B_bitsOf rfl ⟨Nat.le_of_ble_eq_true rfl, Nat.le_of_ble_eq_true rfl⟩ ⟨Nat.le_refl _, Nat.le_refl _⟩ [] [0, 1, 2] rfl rfl (by decide) (by decide) (by decide) rfl (Nat.le_of_ble_eq_true rfl) ?_
      intro r_ u_ hp_
      obtain rfl := hp_
      exact x_iret C hr d_S_takeGroup_63 (upd L (tot ss + (ws.map enc).length) (enc (v.1, v.2 - 1)), Bd) rfl (⟨rfl, by rw [tk, if_neg (by omega), map_snoc]; exact hH.setw⟩)
  · exact absurd c6 (enc_ne0 hv (by omega))
