/-! rows more -/
theorem okw_one {b : Nat} (h : b ≤ AL) : okw (b, 1) := ⟨Nat.le_refl 1, h, Or.inr (Or.inr rfl)⟩
theorem okw_cB {cb : Bool} {g : Nat} (h : 1 ≤ g) : okw (cB cb, g) := ⟨h, cB_le cb, by cases cb <;> simp [cB]⟩
theorem Rep.snoc {n : Nat} {f : Nat → Bool} {ws : List (Nat × Nat)} (h : Rep n f ws) (h0 : 0 < n) : ∃ ws0 v, ws = ws0 ++ [v] := by
  rcases List.eq_nil_or_concat ws with rfl | ⟨ws0, v, rfl⟩
  · have := congrArg List.length h.2
    rw [GL_len] at this
    simp [ex] at this
    omega
  · exact ⟨ws0, v, by rw [List.concat_eq_append]⟩
theorem Rep.small {n : Nat} {f : Nat → Bool} {ws : List (Nat × Nat)} (h : Rep n f ws) (hn : n ≤ 1000000) : (ex ws).length < 2 ^ 24 := by
  rw [h.2, GL_len]
  omega
theorem Rep.last {n : Nat} {f : Nat → Bool} {ws : List (Nat × Nat)} {v : Nat × Nat} (h : Rep n f (ws ++ [v])) (h0 : 0 < n % 31) : canon (tk ws v) ∧ ex (tk ws v) = PG f (n / 31) ∧ v.1 = gb f (n / 31) ∧ okw v ∧ (tk ws v).length ≤ ws.length + 1 := by
  have h1 := tk_ok h.1
  have h2 : ex (tk ws v) ++ [v.1] = PG f (n / 31) ++ [gb f (n / 31)] := by
    rw [← h1.2.1, h.2, GL_PG, show (n + 30) / 31 = n / 31 + 1 by omega, PG_succ]
  have h3 := List.append_inj' h2 rfl
  exact ⟨h1.1, h3.1, List.cons.inj h3.2 |>.1, ((canon_snoc ws v).mp h.1).2.1, h1.2.2⟩
set_option maxHeartbeats 4000000 in
theorem c_S_addRows_true {l : Launch} {D : va_G} {cA : ClassId} {h h1 h2 cap mx : Nat} {L Bd : Nat → Int32} {k : Nat} {ss : List (List Int32)} {ws : List (Nat × Nat)} {f : Nat → Bool} {n m : Nat} (hH : Hs cap mx L Bd (ss ++ [ws.map enc])) (hk : ss.length + 1 = k) (hR : Rep n f ws) (hs : sup n f) (hm : 1 ≤ m) (hn : n + m ≤ 1000000) (hc : tot ss + ws.length + 3 ≤ cap)  : CtV l D cA y_S_addRows b_S_addRows 7 ({ frames := 5, cells := 0, slots := 0, locals := 106 } : Room) [.ref h, .int (nI 1), .int (nI (n % 31)), .int (nI m)] (shW cA h h1 h2 cap mx L Bd k) (fun u : (Nat → Int32) × (Nat → Int32) => ∃ ws', Rep (n + m) (addr f n m true) ws' ∧ ws'.length ≤ ws.length + 3 ∧ Hs cap mx u.1 u.2 (ss ++ [ws'.map enc])) (fun u => shW cA h h1 h2 cap mx u.1 u.2 (k)) := by
  subst hk
  refine CtV.start (lv0 := [(0, .ref h), (1, .int (nI 1)), (2, .int (nI (n % 31))), (3, .int (nI m))]) (by decide) rfl (Nat.le_of_ble_eq_true rfl) ?_
  intro p_ e_ s_ m_ args_ below_ meth_ c_ A_ C hr hin
  refine x_iload_n C d_S_addRows_0 rfl rfl ?_
  refine x_if_eqN (tgt := 9) C d_S_addRows_1 (by decide) (by omega) (fun c1 => ?_) (fun c1 => ?_)
  · exact absurd c1 (by omega)
  · refine x_ldc C d_S_addRows_4 lk_S_52 ?_
    refine x_top (y := nI 2147483647) (by decide) ?_
    refine x_top (y := (nI (cB true))) rfl ?_
    refine x_goto (tgt := 10) C d_S_addRows_6 (by decide) ?_
    refine x_istore (lv' := [(4, .int (nI (cB true))), (0, .ref h), (1, .int (nI 1)), (2, .int (nI (n % 31))), (3, .int (nI m))]) C d_S_addRows_10 (by decide) rfl ?_
    refine x_iload_n C d_S_addRows_12 rfl rfl ?_
    refine x_istore (lv' := [(5, .int (nI m)), (4, .int (nI (cB true))), (0, .ref h), (1, .int (nI 1)), (2, .int (nI (n % 31))), (3, .int (nI m))]) C d_S_addRows_13 (by decide) rfl ?_
    refine x_iload_n C d_S_addRows_15 rfl rfl ?_
    refine x_if_leN (tgt := 56) C d_S_addRows_16 (by decide) (by omega) (fun c16 => ?_) (fun c16 => ?_)
    · have hA1 : canon ws ∧ ex ws = PG (addr f n m true) (n / 31) ∧ ws.length ≤ ws.length + 1 := ⟨hR.1, by rw [hR.2, GL_PG, ar_pre, show (n + 30) / 31 = n / 31 by omega], by omega⟩
      have hK : n ≤ 31 * (n / 31) ∧ 31 * (n / 31) + m = n + m := by omega
      refine x_aload_n C d_S_addRows_56 rfl rfl ?_
      refine x_iload C d_S_addRows_57 rfl ?_
      refine x_iload C d_S_addRows_59 rfl ?_
      refine x_bipush (v := (nI (31))) C d_S_addRows_61 (by decide) ?_
      refine x_idivN C d_S_addRows_63 (by omega) (by omega) (by omega) ?_
      refine x_callVV (wr := []) (rest := []) C (c_S_addGroups (ws := ws) hH rfl hA1.1 (by rw [hA1.2.1, PG_len]; omega) (cB_le _) (fun hg => okw_cB hg) (by omega) (by omega)) d_S_addRows_64 cd_S_addGroups lk_S_72 dd_S_addGroups rfl ⟨Nat.le_of_ble_eq_true rfl, Nat.le_of_ble_eq_true rfl⟩ ⟨Nat.le_refl _, Nat.le_refl _⟩ 0 0 rfl rfl [0, 1, 2] [] rfl rfl (by decide) (by decide) (by decide) rfl (Nat.le_of_ble_eq_true rfl) ?_
      intro u64 hH64
      have hA2 := pg_ok (ws := ws) (b := cB true) (g := m / 31) hA1.1 (fun hg => okw_cB hg)
      refine x_iload C d_S_addRows_67 rfl ?_
      refine x_bipush (v := (nI (31))) C d_S_addRows_69 (by decide) ?_
      refine x_iremN C d_S_addRows_71 (by omega) (by omega) (by omega) ?_
      refine x_if_leN (tgt := 91) C d_S_addRows_72 (by decide) (by omega) (fun c72 => ?_) (fun c72 => ?_)
      · exact x_vret C hr d_S_addRows_91 u64 rfl (⟨pg ws (cB true) (m / 31), ⟨hA2.1, by rw [hA2.2.1, hA1.2.1, (ar_mid (k := (n / 31)) (t := m / 31) hs (by omega) (by omega)).symm, GL_PG]; congr 1; omega⟩, by omega, hH64⟩)
      · refine x_aload_n C d_S_addRows_75 rfl rfl ?_
        refine x_iload C d_S_addRows_76 rfl ?_
        refine x_iload C d_S_addRows_78 rfl ?_
        refine x_bipush (v := (nI (31))) C d_S_addRows_80 (by decide) ?_
        refine x_iremN C d_S_addRows_82 (by omega) (by omega) (by omega) ?_
        refine x_callSIN (wr := [(h, .inr (0, [.ref h1, .ref h2, .int (nI (ss.length + 1))])), (h1, .inl (cA, cap, .inl (u64.1))), (h2, .inl (cA, mx, .inl (u64.2)))]) (rest := [.int (nI (cB true)), .ref h]) C (c_B_firstBits (n := m % 31) (by omega)) d_S_addRows_83 cd_B_firstBits lk_S_53 dd_B_firstBits rfl ⟨Nat.le_of_ble_eq_true rfl, Nat.le_of_ble_eq_true rfl⟩ ⟨Nat.le_refl _, Nat.le_refl _⟩ [] [0, 1, 2] rfl rfl (by decide) (by decide) (by decide) rfl (Nat.le_of_ble_eq_true rfl) ?_
        intro r_ u_ hp_
        obtain rfl := hp_
        refine x_iand C d_S_addRows_86 ?_
        refine x_top (y := (nI (cB true &&& (2 ^ (m % 31) - 1)))) (nx_and _ _) ?_
        refine x_iconst (v := (nI (1))) C d_S_addRows_87 (by decide) ?_
        refine x_callVV (wr := []) (rest := []) C (c_S_addGroups (ws := pg ws (cB true) (m / 31)) hH64 rfl hA2.1 (by rw [hA2.2.1, List.length_append, List.length_replicate, hA1.2.1, PG_len]; omega) (Nat.le_trans Nat.and_le_left (cB_le _)) (fun _ => okw_one (Nat.le_trans Nat.and_le_left (cB_le _))) (by omega) (by omega)) d_S_addRows_88 cd_S_addGroups lk_S_72 dd_S_addGroups rfl ⟨Nat.le_of_ble_eq_true rfl, Nat.le_of_ble_eq_true rfl⟩ ⟨Nat.le_refl _, Nat.le_refl _⟩ 0 0 rfl rfl [0, 1, 2] [] rfl rfl (by decide) (by decide) (by decide) rfl (Nat.le_of_ble_eq_true rfl) ?_
        intro u88 hH88
        have hA3 := pg_ok (ws := pg ws (cB true) (m / 31)) (b := cB true &&& (2 ^ (m % 31) - 1)) (g := 1) hA2.1 (fun _ => okw_one (Nat.le_trans Nat.and_le_left (cB_le _)))
        exact x_vret C hr d_S_addRows_91 u88 rfl (⟨pg (pg ws (cB true) (m / 31)) (cB true &&& (2 ^ (m % 31) - 1)) 1, ⟨hA3.1, by rw [hA3.2.1, hA2.2.1, hA1.2.1, (ar_mid (k := (n / 31)) (t := m / 31) hs (by omega) (by omega)).symm, GL_PG, show (n + m + 30) / 31 = (n / 31) + m / 31 + 1 by omega, PG_succ, ← ar_last hs (k := (n / 31) + m / 31) (by omega) (by omega) (by omega), show n + m - 31 * ((n / 31) + m / 31) = m % 31 by omega]; rfl⟩, by omega, hH88⟩)
    · obtain ⟨ws0, v, rfl⟩ := hR.snoc (by omega)
      have hl := hR.last c16
      have hv2 : v.2 ≤ (ex (ws0 ++ [v])).length := ex_mem_le (by simp)
      have hx := hR.small (by omega)
      rw [List.length_append, List.length_singleton] at hc
      have hH0 := hH
      rw [map_snoc] at hH0
      refine x_bipush (v := (nI (31))) C d_S_addRows_19 (by decide) ?_
      refine x_iload_n C d_S_addRows_21 rfl rfl ?_
      refine x_isubN C d_S_addRows_22 (by omega) ?_
      refine x_iload_n C d_S_addRows_23 rfl rfl ?_
      refine x_mminN C d_S_addRows_24 lk_S_22 ma_min_st ini_Ma ma_min_cd ⟨Nat.le_of_ble_eq_true rfl, Nat.le_of_ble_eq_true rfl, Nat.zero_le _, Nat.zero_le _⟩ (by omega) (by omega) ?_
      refine x_istore (lv' := [(6, .int (nI (min (31 - (n % 31)) m))), (5, .int (nI m)), (4, .int (nI (cB true))), (0, .ref h), (1, .int (nI 1)), (2, .int (nI (n % 31))), (3, .int (nI m))]) C d_S_addRows_27 (by decide) rfl ?_
      refine x_aload_n C d_S_addRows_29 rfl rfl ?_
      refine x_aload_n C d_S_addRows_30 rfl rfl ?_
      refine x_callVI (wr := []) (rest := [.ref h]) C (c_S_takeGroup hH0 rfl hl.2.2.2.1 (by omega)) d_S_addRows_31 cd_S_takeGroup lk_S_69 dd_S_takeGroup rfl ⟨Nat.le_of_ble_eq_true rfl, Nat.le_of_ble_eq_true rfl⟩ ⟨Nat.le_refl _, Nat.le_refl _⟩ 0 0 rfl rfl [0, 1, 2] [] rfl rfl (by decide) (by decide) (by decide) rfl (Nat.le_of_ble_eq_true rfl) ?_
      intro r_ u31 hp_
      obtain ⟨rfl, hH1⟩ := hp_
      refine x_iload C d_S_addRows_34 rfl ?_
      refine x_iload C d_S_addRows_36 rfl ?_
      refine x_callSIN (wr := [(h, .inr (0, [.ref h1, .ref h2, .int (nI (ss.length + 1))])), (h1, .inl (cA, cap, .inl (u31.1))), (h2, .inl (cA, mx, .inl (u31.2)))]) (rest := [.int (nI (cB true)), .int (nI (v.1)), .ref h]) C (c_B_firstBits (n := min (31 - n % 31) m) (by omega)) d_S_addRows_38 cd_B_firstBits lk_S_53 dd_B_firstBits rfl ⟨Nat.le_of_ble_eq_true rfl, Nat.le_of_ble_eq_true rfl⟩ ⟨Nat.le_refl _, Nat.le_refl _⟩ [] [0, 1, 2] rfl rfl (by decide) (by decide) (by decide) rfl (Nat.le_of_ble_eq_true rfl) ?_
      intro r_ u_ hp_
      obtain rfl := hp_
      refine x_iand C d_S_addRows_41 ?_
      refine x_iload_n C d_S_addRows_42 rfl rfl ?_
      refine x_ishl C d_S_addRows_43 ?_
      refine x_ior C d_S_addRows_44 ?_
      refine x_top (y := (nI (gb (addr f n m true) (n / 31)))) (by rw [hl.2.2.1]; exact (ar_shl (f := f)).trans (congrArg nI (ar_begun hs c16))) ?_
      refine x_iconst (v := (nI (1))) C d_S_addRows_45 (by decide) ?_
      refine x_callVV (wr := []) (rest := []) C (c_S_addGroups hH1 rfl hl.1 (by rw [hl.2.1, PG_len]; omega) (gb_le _ _) (fun _ => okw_one (gb_le _ _)) (by omega) (by omega)) d_S_addRows_46 cd_S_addGroups lk_S_72 dd_S_addGroups rfl ⟨Nat.le_of_ble_eq_true rfl, Nat.le_of_ble_eq_true rfl⟩ ⟨Nat.le_refl _, Nat.le_refl _⟩ 0 0 rfl rfl [0, 1, 2] [] rfl rfl (by decide) (by decide) (by decide) rfl (Nat.le_of_ble_eq_true rfl) ?_
      intro u46 hH2
      refine x_iload C d_S_addRows_49 rfl ?_
      refine x_iload C d_S_addRows_51 rfl ?_
      refine x_isubN C d_S_addRows_53 (by omega) ?_
      refine x_istore (lv' := [(5, .int (nI (m - (min (31 - (n % 31)) m)))), (6, .int (nI (min (31 - (n % 31)) m))), (4, .int (nI (cB true))), (0, .ref h), (1, .int (nI 1)), (2, .int (nI (n % 31))), (3, .int (nI m))]) C d_S_addRows_54 (by decide) rfl ?_
      have hA0 := pg_ok (ws := tk ws0 v) (b := gb (addr f n m true) (n / 31)) (g := 1) hl.1 (fun _ => okw_one (gb_le _ _))
      have hA1 : canon (pg (tk ws0 v) (gb (addr f n m true) (n / 31)) 1) ∧ ex (pg (tk ws0 v) (gb (addr f n m true) (n / 31)) 1) = PG (addr f n m true) (n / 31 + 1) ∧ (pg (tk ws0 v) (gb (addr f n m true) (n / 31)) 1).length ≤ ws0.length + 1 + 1 := ⟨hA0.1, by rw [hA0.2.1, PG_succ, ar_pre, hl.2.1]; rfl, by omega⟩
      refine x_aload_n C d_S_addRows_56 rfl rfl ?_
      refine x_iload C d_S_addRows_57 rfl ?_
      refine x_iload C d_S_addRows_59 rfl ?_
      refine x_bipush (v := (nI (31))) C d_S_addRows_61 (by decide) ?_
      refine x_idivN C d_S_addRows_63 (by omega) (by omega) (by omega) ?_
      refine x_callVV (wr := []) (rest := []) C (c_S_addGroups (ws := (pg (tk ws0 v) (gb (addr f n m true) (n / 31)) 1)) hH2 rfl hA1.1 (by rw [hA1.2.1, PG_len]; omega) (cB_le _) (fun hg => okw_cB hg) (by omega) (by omega)) d_S_addRows_64 cd_S_addGroups lk_S_72 dd_S_addGroups rfl ⟨Nat.le_of_ble_eq_true rfl, Nat.le_of_ble_eq_true rfl⟩ ⟨Nat.le_refl _, Nat.le_refl _⟩ 0 0 rfl rfl [0, 1, 2] [] rfl rfl (by decide) (by decide) (by decide) rfl (Nat.le_of_ble_eq_true rfl) ?_
      intro u64 hH64
      have hA2 := pg_ok (ws := (pg (tk ws0 v) (gb (addr f n m true) (n / 31)) 1)) (b := cB true) (g := (m - min (31 - n % 31) m) / 31) hA1.1 (fun hg => okw_cB hg)
      refine x_iload C d_S_addRows_67 rfl ?_
      refine x_bipush (v := (nI (31))) C d_S_addRows_69 (by decide) ?_
      refine x_iremN C d_S_addRows_71 (by omega) (by omega) (by omega) ?_
      refine x_if_leN (tgt := 91) C d_S_addRows_72 (by decide) (by omega) (fun c72 => ?_) (fun c72 => ?_)
      · exact x_vret C hr d_S_addRows_91 u64 rfl (⟨pg (pg (tk ws0 v) (gb (addr f n m true) (n / 31)) 1) (cB true) ((m - min (31 - n % 31) m) / 31), ⟨hA2.1, by
              rw [hA2.2.1, hA1.2.1, GL_PG]
              by_cases h9 : 31 * (n / 31 + 1) ≤ n + m
              · rw [(ar_mid (k := (n / 31 + 1)) (t := (m - min (31 - n % 31) m) / 31) hs (by omega) (by omega)).symm]
                congr 1
                omega
              · rw [show (m - min (31 - n % 31) m) / 31 = 0 by omega, show (n + m + 30) / 31 = (n / 31 + 1) by omega]
                simp⟩, by rw [List.length_append, List.length_singleton]; omega, hH64⟩)
      · refine x_aload_n C d_S_addRows_75 rfl rfl ?_
        refine x_iload C d_S_addRows_76 rfl ?_
        refine x_iload C d_S_addRows_78 rfl ?_
        refine x_bipush (v := (nI (31))) C d_S_addRows_80 (by decide) ?_
        refine x_iremN C d_S_addRows_82 (by omega) (by omega) (by omega) ?_
        refine x_callSIN (wr := [(h, .inr (0, [.ref h1, .ref h2, .int (nI (ss.length + 1))])), (h1, .inl (cA, cap, .inl (u64.1))), (h2, .inl (cA, mx, .inl (u64.2)))]) (rest := [.int (nI (cB true)), .ref h]) C (c_B_firstBits (n := (m - min (31 - n % 31) m) % 31) (by omega)) d_S_addRows_83 cd_B_firstBits lk_S_53 dd_B_firstBits rfl ⟨Nat.le_of_ble_eq_true rfl, Nat.le_of_ble_eq_true rfl⟩ ⟨Nat.le_refl _, Nat.le_refl _⟩ [] [0, 1, 2] rfl rfl (by decide) (by decide) (by decide) rfl (Nat.le_of_ble_eq_true rfl) ?_
        intro r_ u_ hp_
        obtain rfl := hp_
        refine x_iand C d_S_addRows_86 ?_
        refine x_top (y := (nI (cB true &&& (2 ^ ((m - min (31 - n % 31) m) % 31) - 1)))) (nx_and _ _) ?_
        refine x_iconst (v := (nI (1))) C d_S_addRows_87 (by decide) ?_
        refine x_callVV (wr := []) (rest := []) C (c_S_addGroups (ws := pg (pg (tk ws0 v) (gb (addr f n m true) (n / 31)) 1) (cB true) ((m - min (31 - n % 31) m) / 31)) hH64 rfl hA2.1 (by rw [hA2.2.1, List.length_append, List.length_replicate, hA1.2.1, PG_len]; omega) (Nat.le_trans Nat.and_le_left (cB_le _)) (fun _ => okw_one (Nat.le_trans Nat.and_le_left (cB_le _))) (by omega) (by omega)) d_S_addRows_88 cd_S_addGroups lk_S_72 dd_S_addGroups rfl ⟨Nat.le_of_ble_eq_true rfl, Nat.le_of_ble_eq_true rfl⟩ ⟨Nat.le_refl _, Nat.le_refl _⟩ 0 0 rfl rfl [0, 1, 2] [] rfl rfl (by decide) (by decide) (by decide) rfl (Nat.le_of_ble_eq_true rfl) ?_
        intro u88 hH88
        have hA3 := pg_ok (ws := pg (pg (tk ws0 v) (gb (addr f n m true) (n / 31)) 1) (cB true) ((m - min (31 - n % 31) m) / 31)) (b := cB true &&& (2 ^ ((m - min (31 - n % 31) m) % 31) - 1)) (g := 1) hA2.1 (fun _ => okw_one (Nat.le_trans Nat.and_le_left (cB_le _)))
        exact x_vret C hr d_S_addRows_91 u88 rfl (⟨pg (pg (pg (tk ws0 v) (gb (addr f n m true) (n / 31)) 1) (cB true) ((m - min (31 - n % 31) m) / 31)) (cB true &&& (2 ^ ((m - min (31 - n % 31) m) % 31) - 1)) 1, ⟨hA3.1, by rw [hA3.2.1, hA2.2.1, hA1.2.1, (ar_mid (k := (n / 31 + 1)) (t := (m - min (31 - n % 31) m) / 31) hs (by omega) (by omega)).symm, GL_PG, show (n + m + 30) / 31 = (n / 31 + 1) + (m - min (31 - n % 31) m) / 31 + 1 by omega, PG_succ, ← ar_last hs (k := (n / 31 + 1) + (m - min (31 - n % 31) m) / 31) (by omega) (by omega) (by omega), show n + m - 31 * ((n / 31 + 1) + (m - min (31 - n % 31) m) / 31) = (m - min (31 - n % 31) m) % 31 by omega]; rfl⟩, by rw [List.length_append, List.length_singleton]; omega, hH88⟩)
set_option maxHeartbeats 4000000 in
theorem c_S_addRows_false {l : Launch} {D : va_G} {cA : ClassId} {h h1 h2 cap mx : Nat} {L Bd : Nat → Int32} {k : Nat} {ss : List (List Int32)} {ws : List (Nat × Nat)} {f : Nat → Bool} {n m : Nat} (hH : Hs cap mx L Bd (ss ++ [ws.map enc])) (hk : ss.length + 1 = k) (hR : Rep n f ws) (hs : sup n f) (hm : 1 ≤ m) (hn : n + m ≤ 1000000) (hc : tot ss + ws.length + 3 ≤ cap)  : CtV l D cA y_S_addRows b_S_addRows 7 ({ frames := 5, cells := 0, slots := 0, locals := 106 } : Room) [.ref h, .int (nI 0), .int (nI (n % 31)), .int (nI m)] (shW cA h h1 h2 cap mx L Bd k) (fun u : (Nat → Int32) × (Nat → Int32) => ∃ ws', Rep (n + m) (addr f n m false) ws' ∧ ws'.length ≤ ws.length + 3 ∧ Hs cap mx u.1 u.2 (ss ++ [ws'.map enc])) (fun u => shW cA h h1 h2 cap mx u.1 u.2 (k)) := by
  subst hk
  refine CtV.start (lv0 := [(0, .ref h), (1, .int (nI 0)), (2, .int (nI (n % 31))), (3, .int (nI m))]) (by decide) rfl (Nat.le_of_ble_eq_true rfl) ?_
  intro p_ e_ s_ m_ args_ below_ meth_ c_ A_ C hr hin
  refine x_iload_n C d_S_addRows_0 rfl rfl ?_
  refine x_if_eqN (tgt := 9) C d_S_addRows_1 (by decide) (by omega) (fun c1 => ?_) (fun c1 => ?_)
  · refine x_iconst (v := (nI (0))) C d_S_addRows_9 (by decide) ?_
    refine x_top (y := (nI (cB false))) rfl ?_
    refine x_istore (lv' := [(4, .int (nI (cB false))), (0, .ref h), (1, .int (nI 0)), (2, .int (nI (n % 31))), (3, .int (nI m))]) C d_S_addRows_10 (by decide) rfl ?_
    refine x_iload_n C d_S_addRows_12 rfl rfl ?_
    refine x_istore (lv' := [(5, .int (nI m)), (4, .int (nI (cB false))), (0, .ref h), (1, .int (nI 0)), (2, .int (nI (n % 31))), (3, .int (nI m))]) C d_S_addRows_13 (by decide) rfl ?_
    refine x_iload_n C d_S_addRows_15 rfl rfl ?_
    refine x_if_leN (tgt := 56) C d_S_addRows_16 (by decide) (by omega) (fun c16 => ?_) (fun c16 => ?_)
    · have hA1 : canon ws ∧ ex ws = PG (addr f n m false) (n / 31) ∧ ws.length ≤ ws.length + 1 := ⟨hR.1, by rw [hR.2, GL_PG, ar_pre, show (n + 30) / 31 = n / 31 by omega], by omega⟩
      have hK : n ≤ 31 * (n / 31) ∧ 31 * (n / 31) + m = n + m := by omega
      refine x_aload_n C d_S_addRows_56 rfl rfl ?_
      refine x_iload C d_S_addRows_57 rfl ?_
      refine x_iload C d_S_addRows_59 rfl ?_
      refine x_bipush (v := (nI (31))) C d_S_addRows_61 (by decide) ?_
      refine x_idivN C d_S_addRows_63 (by omega) (by omega) (by omega) ?_
      refine x_callVV (wr := []) (rest := []) C (c_S_addGroups (ws := ws) hH rfl hA1.1 (by rw [hA1.2.1, PG_len]; omega) (cB_le _) (fun hg => okw_cB hg) (by omega) (by omega)) d_S_addRows_64 cd_S_addGroups lk_S_72 dd_S_addGroups rfl ⟨Nat.le_of_ble_eq_true rfl, Nat.le_of_ble_eq_true rfl⟩ ⟨Nat.le_refl _, Nat.le_refl _⟩ 0 0 rfl rfl [0, 1, 2] [] rfl rfl (by decide) (by decide) (by decide) rfl (Nat.le_of_ble_eq_true rfl) ?_
      intro u64 hH64
      have hA2 := pg_ok (ws := ws) (b := cB false) (g := m / 31) hA1.1 (fun hg => okw_cB hg)
      refine x_iload C d_S_addRows_67 rfl ?_
      refine x_bipush (v := (nI (31))) C d_S_addRows_69 (by decide) ?_
      refine x_iremN C d_S_addRows_71 (by omega) (by omega) (by omega) ?_
      refine x_if_leN (tgt := 91) C d_S_addRows_72 (by decide) (by omega) (fun c72 => ?_) (fun c72 => ?_)
      · exact x_vret C hr d_S_addRows_91 u64 rfl (⟨pg ws (cB false) (m / 31), ⟨hA2.1, by rw [hA2.2.1, hA1.2.1, (ar_mid (k := (n / 31)) (t := m / 31) hs (by omega) (by omega)).symm, GL_PG]; congr 1; omega⟩, by omega, hH64⟩)
      · refine x_aload_n C d_S_addRows_75 rfl rfl ?_
        refine x_iload C d_S_addRows_76 rfl ?_
        refine x_iload C d_S_addRows_78 rfl ?_
        refine x_bipush (v := (nI (31))) C d_S_addRows_80 (by decide) ?_
        refine x_iremN C d_S_addRows_82 (by omega) (by omega) (by omega) ?_
        refine x_callSIN (wr := [(h, .inr (0, [.ref h1, .ref h2, .int (nI (ss.length + 1))])), (h1, .inl (cA, cap, .inl (u64.1))), (h2, .inl (cA, mx, .inl (u64.2)))]) (rest := [.int (nI (cB false)), .ref h]) C (c_B_firstBits (n := m % 31) (by omega)) d_S_addRows_83 cd_B_firstBits lk_S_53 dd_B_firstBits rfl ⟨Nat.le_of_ble_eq_true rfl, Nat.le_of_ble_eq_true rfl⟩ ⟨Nat.le_refl _, Nat.le_refl _⟩ [] [0, 1, 2] rfl rfl (by decide) (by decide) (by decide) rfl (Nat.le_of_ble_eq_true rfl) ?_
        intro r_ u_ hp_
        obtain rfl := hp_
        refine x_iand C d_S_addRows_86 ?_
        refine x_top (y := (nI (cB false &&& (2 ^ (m % 31) - 1)))) (nx_and _ _) ?_
        refine x_iconst (v := (nI (1))) C d_S_addRows_87 (by decide) ?_
        refine x_callVV (wr := []) (rest := []) C (c_S_addGroups (ws := pg ws (cB false) (m / 31)) hH64 rfl hA2.1 (by rw [hA2.2.1, List.length_append, List.length_replicate, hA1.2.1, PG_len]; omega) (Nat.le_trans Nat.and_le_left (cB_le _)) (fun _ => okw_one (Nat.le_trans Nat.and_le_left (cB_le _))) (by omega) (by omega)) d_S_addRows_88 cd_S_addGroups lk_S_72 dd_S_addGroups rfl ⟨Nat.le_of_ble_eq_true rfl, Nat.le_of_ble_eq_true rfl⟩ ⟨Nat.le_refl _, Nat.le_refl _⟩ 0 0 rfl rfl [0, 1, 2] [] rfl rfl (by decide) (by decide) (by decide) rfl (Nat.le_of_ble_eq_true rfl) ?_
        intro u88 hH88
        have hA3 := pg_ok (ws := pg ws (cB false) (m / 31)) (b := cB false &&& (2 ^ (m % 31) - 1)) (g := 1) hA2.1 (fun _ => okw_one (Nat.le_trans Nat.and_le_left (cB_le _)))
        exact x_vret C hr d_S_addRows_91 u88 rfl (⟨pg (pg ws (cB false) (m / 31)) (cB false &&& (2 ^ (m % 31) - 1)) 1, ⟨hA3.1, by rw [hA3.2.1, hA2.2.1, hA1.2.1, (ar_mid (k := (n / 31)) (t := m / 31) hs (by omega) (by omega)).symm, GL_PG, show (n + m + 30) / 31 = (n / 31) + m / 31 + 1 by omega, PG_succ, ← ar_last hs (k := (n / 31) + m / 31) (by omega) (by omega) (by omega), show n + m - 31 * ((n / 31) + m / 31) = m % 31 by omega]; rfl⟩, by omega, hH88⟩)
    · obtain ⟨ws0, v, rfl⟩ := hR.snoc (by omega)
      have hl := hR.last c16
      have hv2 : v.2 ≤ (ex (ws0 ++ [v])).length := ex_mem_le (by simp)
      have hx := hR.small (by omega)
      rw [List.length_append, List.length_singleton] at hc
      have hH0 := hH
      rw [map_snoc] at hH0
      refine x_bipush (v := (nI (31))) C d_S_addRows_19 (by decide) ?_
      refine x_iload_n C d_S_addRows_21 rfl rfl ?_
      refine x_isubN C d_S_addRows_22 (by omega) ?_
      refine x_iload_n C d_S_addRows_23 rfl rfl ?_
      refine x_mminN C d_S_addRows_24 lk_S_22 ma_min_st ini_Ma ma_min_cd ⟨Nat.le_of_ble_eq_true rfl, Nat.le_of_ble_eq_true rfl, Nat.zero_le _, Nat.zero_le _⟩ (by omega) (by omega) ?_
      refine x_istore (lv' := [(6, .int (nI (min (31 - (n % 31)) m))), (5, .int (nI m)), (4, .int (nI (cB false))), (0, .ref h), (1, .int (nI 0)), (2, .int (nI (n % 31))), (3, .int (nI m))]) C d_S_addRows_27 (by decide) rfl ?_
      refine x_aload_n C d_S_addRows_29 rfl rfl ?_
      refine x_aload_n C d_S_addRows_30 rfl rfl ?_
      refine x_callVI (wr := []) (rest := [.ref h]) C (c_S_takeGroup hH0 rfl hl.2.2.2.1 (by omega)) d_S_addRows_31 cd_S_takeGroup lk_S_69 dd_S_takeGroup rfl ⟨Nat.le_of_ble_eq_true rfl, Nat.le_of_ble_eq_true rfl⟩ ⟨Nat.le_refl _, Nat.le_refl _⟩ 0 0 rfl rfl [0, 1, 2] [] rfl rfl (by decide) (by decide) (by decide) rfl (Nat.le_of_ble_eq_true rfl) ?_
      intro r_ u31 hp_
      obtain ⟨rfl, hH1⟩ := hp_
      refine x_iload C d_S_addRows_34 rfl ?_
      refine x_iload C d_S_addRows_36 rfl ?_
      refine x_callSIN (wr := [(h, .inr (0, [.ref h1, .ref h2, .int (nI (ss.length + 1))])), (h1, .inl (cA, cap, .inl (u31.1))), (h2, .inl (cA, mx, .inl (u31.2)))]) (rest := [.int (nI (cB false)), .int (nI (v.1)), .ref h]) C (c_B_firstBits (n := min (31 - n % 31) m) (by omega)) d_S_addRows_38 cd_B_firstBits lk_S_53 dd_B_firstBits rfl ⟨Nat.le_of_ble_eq_true rfl, Nat.le_of_ble_eq_true rfl⟩ ⟨Nat.le_refl _, Nat.le_refl _⟩ [] [0, 1, 2] rfl rfl (by decide) (by decide) (by decide) rfl (Nat.le_of_ble_eq_true rfl) ?_
      intro r_ u_ hp_
      obtain rfl := hp_
      refine x_iand C d_S_addRows_41 ?_
      refine x_iload_n C d_S_addRows_42 rfl rfl ?_
      refine x_ishl C d_S_addRows_43 ?_
      refine x_ior C d_S_addRows_44 ?_
      refine x_top (y := (nI (gb (addr f n m false) (n / 31)))) (by rw [hl.2.2.1]; exact (ar_shl (f := f)).trans (congrArg nI (ar_begun hs c16))) ?_
      refine x_iconst (v := (nI (1))) C d_S_addRows_45 (by decide) ?_
      refine x_callVV (wr := []) (rest := []) C (c_S_addGroups hH1 rfl hl.1 (by rw [hl.2.1, PG_len]; omega) (gb_le _ _) (fun _ => okw_one (gb_le _ _)) (by omega) (by omega)) d_S_addRows_46 cd_S_addGroups lk_S_72 dd_S_addGroups rfl ⟨Nat.le_of_ble_eq_true rfl, Nat.le_of_ble_eq_true rfl⟩ ⟨Nat.le_refl _, Nat.le_refl _⟩ 0 0 rfl rfl [0, 1, 2] [] rfl rfl (by decide) (by decide) (by decide) rfl (Nat.le_of_ble_eq_true rfl) ?_
      intro u46 hH2
      refine x_iload C d_S_addRows_49 rfl ?_
      refine x_iload C d_S_addRows_51 rfl ?_
      refine x_isubN C d_S_addRows_53 (by omega) ?_
      refine x_istore (lv' := [(5, .int (nI (m - (min (31 - (n % 31)) m)))), (6, .int (nI (min (31 - (n % 31)) m))), (4, .int (nI (cB false))), (0, .ref h), (1, .int (nI 0)), (2, .int (nI (n % 31))), (3, .int (nI m))]) C d_S_addRows_54 (by decide) rfl ?_
      have hA0 := pg_ok (ws := tk ws0 v) (b := gb (addr f n m false) (n / 31)) (g := 1) hl.1 (fun _ => okw_one (gb_le _ _))
      have hA1 : canon (pg (tk ws0 v) (gb (addr f n m false) (n / 31)) 1) ∧ ex (pg (tk ws0 v) (gb (addr f n m false) (n / 31)) 1) = PG (addr f n m false) (n / 31 + 1) ∧ (pg (tk ws0 v) (gb (addr f n m false) (n / 31)) 1).length ≤ ws0.length + 1 + 1 := ⟨hA0.1, by rw [hA0.2.1, PG_succ, ar_pre, hl.2.1]; rfl, by omega⟩
      refine x_aload_n C d_S_addRows_56 rfl rfl ?_
      refine x_iload C d_S_addRows_57 rfl ?_
      refine x_iload C d_S_addRows_59 rfl ?_
      refine x_bipush (v := (nI (31))) C d_S_addRows_61 (by decide) ?_
      refine x_idivN C d_S_addRows_63 (by omega) (by omega) (by omega) ?_
      refine x_callVV (wr := []) (rest := []) C (c_S_addGroups (ws := (pg (tk ws0 v) (gb (addr f n m false) (n / 31)) 1)) hH2 rfl hA1.1 (by rw [hA1.2.1, PG_len]; omega) (cB_le _) (fun hg => okw_cB hg) (by omega) (by omega)) d_S_addRows_64 cd_S_addGroups lk_S_72 dd_S_addGroups rfl ⟨Nat.le_of_ble_eq_true rfl, Nat.le_of_ble_eq_true rfl⟩ ⟨Nat.le_refl _, Nat.le_refl _⟩ 0 0 rfl rfl [0, 1, 2] [] rfl rfl (by decide) (by decide) (by decide) rfl (Nat.le_of_ble_eq_true rfl) ?_
      intro u64 hH64
      have hA2 := pg_ok (ws := (pg (tk ws0 v) (gb (addr f n m false) (n / 31)) 1)) (b := cB false) (g := (m - min (31 - n % 31) m) / 31) hA1.1 (fun hg => okw_cB hg)
      refine x_iload C d_S_addRows_67 rfl ?_
      refine x_bipush (v := (nI (31))) C d_S_addRows_69 (by decide) ?_
      refine x_iremN C d_S_addRows_71 (by omega) (by omega) (by omega) ?_
      refine x_if_leN (tgt := 91) C d_S_addRows_72 (by decide) (by omega) (fun c72 => ?_) (fun c72 => ?_)
      · exact x_vret C hr d_S_addRows_91 u64 rfl (⟨pg (pg (tk ws0 v) (gb (addr f n m false) (n / 31)) 1) (cB false) ((m - min (31 - n % 31) m) / 31), ⟨hA2.1, by
              rw [hA2.2.1, hA1.2.1, GL_PG]
              by_cases h9 : 31 * (n / 31 + 1) ≤ n + m
              · rw [(ar_mid (k := (n / 31 + 1)) (t := (m - min (31 - n % 31) m) / 31) hs (by omega) (by omega)).symm]
                congr 1
                omega
              · rw [show (m - min (31 - n % 31) m) / 31 = 0 by omega, show (n + m + 30) / 31 = (n / 31 + 1) by omega]
                simp⟩, by rw [List.length_append, List.length_singleton]; omega, hH64⟩)
      · refine x_aload_n C d_S_addRows_75 rfl rfl ?_
        refine x_iload C d_S_addRows_76 rfl ?_
        refine x_iload C d_S_addRows_78 rfl ?_
        refine x_bipush (v := (nI (31))) C d_S_addRows_80 (by decide) ?_
        refine x_iremN C d_S_addRows_82 (by omega) (by omega) (by omega) ?_
        refine x_callSIN (wr := [(h, .inr (0, [.ref h1, .ref h2, .int (nI (ss.length + 1))])), (h1, .inl (cA, cap, .inl (u64.1))), (h2, .inl (cA, mx, .inl (u64.2)))]) (rest := [.int (nI (cB false)), .ref h]) C (c_B_firstBits (n := (m - min (31 - n % 31) m) % 31) (by omega)) d_S_addRows_83 cd_B_firstBits lk_S_53 dd_B_firstBits rfl ⟨Nat.le_of_ble_eq_true rfl, Nat.le_of_ble_eq_true rfl⟩ ⟨Nat.le_refl _, Nat.le_refl _⟩ [] [0, 1, 2] rfl rfl (by decide) (by decide) (by decide) rfl (Nat.le_of_ble_eq_true rfl) ?_
        intro r_ u_ hp_
        obtain rfl := hp_
        refine x_iand C d_S_addRows_86 ?_
        refine x_top (y := (nI (cB false &&& (2 ^ ((m - min (31 - n % 31) m) % 31) - 1)))) (nx_and _ _) ?_
        refine x_iconst (v := (nI (1))) C d_S_addRows_87 (by decide) ?_
        refine x_callVV (wr := []) (rest := []) C (c_S_addGroups (ws := pg (pg (tk ws0 v) (gb (addr f n m false) (n / 31)) 1) (cB false) ((m - min (31 - n % 31) m) / 31)) hH64 rfl hA2.1 (by rw [hA2.2.1, List.length_append, List.length_replicate, hA1.2.1, PG_len]; omega) (Nat.le_trans Nat.and_le_left (cB_le _)) (fun _ => okw_one (Nat.le_trans Nat.and_le_left (cB_le _))) (by omega) (by omega)) d_S_addRows_88 cd_S_addGroups lk_S_72 dd_S_addGroups rfl ⟨Nat.le_of_ble_eq_true rfl, Nat.le_of_ble_eq_true rfl⟩ ⟨Nat.le_refl _, Nat.le_refl _⟩ 0 0 rfl rfl [0, 1, 2] [] rfl rfl (by decide) (by decide) (by decide) rfl (Nat.le_of_ble_eq_true rfl) ?_
        intro u88 hH88
        have hA3 := pg_ok (ws := pg (pg (tk ws0 v) (gb (addr f n m false) (n / 31)) 1) (cB false) ((m - min (31 - n % 31) m) / 31)) (b := cB false &&& (2 ^ ((m - min (31 - n % 31) m) % 31) - 1)) (g := 1) hA2.1 (fun _ => okw_one (Nat.le_trans Nat.and_le_left (cB_le _)))
        exact x_vret C hr d_S_addRows_91 u88 rfl (⟨pg (pg (pg (tk ws0 v) (gb (addr f n m false) (n / 31)) 1) (cB false) ((m - min (31 - n % 31) m) / 31)) (cB false &&& (2 ^ ((m - min (31 - n % 31) m) % 31) - 1)) 1, ⟨hA3.1, by rw [hA3.2.1, hA2.2.1, hA1.2.1, (ar_mid (k := (n / 31 + 1)) (t := (m - min (31 - n % 31) m) / 31) hs (by omega) (by omega)).symm, GL_PG, show (n + m + 30) / 31 = (n / 31 + 1) + (m - min (31 - n % 31) m) / 31 + 1 by omega, PG_succ, ← ar_last hs (k := (n / 31 + 1) + (m - min (31 - n % 31) m) / 31) (by omega) (by omega) (by omega), show n + m - 31 * ((n / 31 + 1) + (m - min (31 - n % 31) m) / 31) = (m - min (31 - n % 31) m) % 31 by omega]; rfl⟩, by rw [List.length_append, List.length_singleton]; omega, hH88⟩)
  · exact absurd c1 (by omega)
