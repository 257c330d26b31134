/-! all other rows -/
theorem xor_pre (f : Nat → Bool) (n : Nat) : (PG f (n / 31)).map (fun x => x ^^^ AL) = PG (fnot f n) (n / 31) := by
  unfold PG
  rw [List.map_map]
  apply List.map_congr_left
  intro g hg
  have := List.mem_range.mp hg
  exact not_whole (by omega)
theorem take_snoc {α : Type} {l : List α} {i : Nat} {w : α} (h : l[i]? = some w) : l.take (i + 1) = l.take i ++ [w] := by
  rw [List.take_add_one, h]
  rfl
theorem nt_word {cap mx : Nat} {L Bd : Nat → Int32} {pre : List (List Int32)} {fs : List (Nat × Nat)} (h : Hs cap mx L Bd (pre ++ [fs.map enc])) {i : Nat} {w : Nat × Nat} (hw : fs[i]? = some w) : L (tot pre + i) = enc w := by
  have hi : i < fs.length := (List.getElem?_eq_some_iff.mp hw).1
  rw [h.in.2.2.2.2.2 i (by simpa using hi), List.getD_eq_getElem?_getD, List.getElem?_map, hw]
  rfl
theorem nt_end {n : Nat} {f : Nat → Bool} {R : List (Nat × Nat)} (hc : canon R) (he : ex R = (GL f n).map (fun x => x ^^^ AL)) (h0 : n % 31 = 0) : Rep n (fnot f n) R := by
  refine ⟨hc, ?_⟩
  rw [he, GL_PG, GL_PG, show (n + 30) / 31 = n / 31 by omega, xor_pre]
theorem nt_snoc {n : Nat} {f : Nat → Bool} {R : List (Nat × Nat)} (he : ex R = (GL f n).map (fun x => x ^^^ AL)) (h0 : 0 < n) : ∃ R0 v, R = R0 ++ [v] := by
  rcases List.eq_nil_or_concat R with rfl | ⟨ws0, v, rfl⟩
  · have := congrArg List.length he
    rw [List.length_map, GL_len] at this
    simp [ex] at this
    omega
  · exact ⟨ws0, v, by rw [List.concat_eq_append]⟩
theorem nt_last {n : Nat} {f : Nat → Bool} {R : List (Nat × Nat)} {v : Nat × Nat} (hc : canon (R ++ [v])) (he : ex (R ++ [v]) = (GL f n).map (fun x => x ^^^ AL)) (h0 : 0 < n % 31) : canon (tk R v) ∧ ex (tk R v) = PG (fnot f n) (n / 31) ∧ v.1 &&& (2 ^ (n % 31) - 1) = gb (fnot f n) (n / 31) ∧ okw v ∧ (tk R v).length ≤ R.length + 1 := by
  have h1 := tk_ok hc
  have h2 : ex (tk R v) ++ [v.1] = PG (fnot f n) (n / 31) ++ [gb f (n / 31) ^^^ AL] := by
    rw [← h1.2.1, he, GL_PG, show (n + 30) / 31 = n / 31 + 1 by omega, PG_succ, List.map_append, xor_pre]
    rfl
  have h3 := List.append_inj' h2 rfl
  have h4 : v.1 = gb f (n / 31) ^^^ AL := List.cons.inj h3.2 |>.1
  refine ⟨h1.1, h3.1, ?_, ((canon_snoc R v).mp hc).2.1, h1.2.2⟩
  rw [h4, ← not_last (f := f) (g := n / 31) (by omega) (by omega), show n - 31 * (n / 31) = n % 31 by omega]
set_option maxHeartbeats 4000000 in
theorem c_S_addOthers {l : Launch} {D : va_G} {cA : ClassId} {h h1 h2 cap mx : Nat} {L Bd : Nat → Int32} {f0 f01 f02 cap2 mx2 : Nat} {L2 Bd2 : Nat → Int32} {k k2 : Nat} {ss pre : List (List Int32)} {fs : List (Nat × Nat)} {f : Nat → Bool} {n : Nat} (hH : Hs cap mx L Bd (ss ++ [[]])) (hk : ss.length + 1 = k) (hF : Hs cap2 mx2 L2 Bd2 (pre ++ [fs.map enc])) (hk2 : pre.length + 1 = k2) (hR : Rep n f fs) (hn : n ≤ 1000000) (hc : tot ss + fs.length + 1 ≤ cap)  : CtV l D cA y_S_addOthers b_S_addOthers 6 ({ frames := 5, cells := 0, slots := 0, locals := 106 } : Room) [.ref h, .ref f0, .int (nI (pre.length)), .int (nI (n % 31))] (shW cA h h1 h2 cap mx L Bd k ++ shW cA f0 f01 f02 cap2 mx2 L2 Bd2 k2) (fun u : (Nat → Int32) × (Nat → Int32) => ∃ R, Rep n (fnot f n) R ∧ R.length ≤ fs.length + 1 ∧ Hs cap mx u.1 u.2 (ss ++ [R.map enc])) (fun u => shW cA h h1 h2 cap mx u.1 u.2 k ++ shW cA f0 f01 f02 cap2 mx2 L2 Bd2 k2) := by
  subst hk
  subst hk2
  refine CtV.start (lv0 := [(0, .ref h), (1, .ref f0), (2, .int (nI (pre.length))), (3, .int (nI (n % 31)))]) (by decide) rfl (Nat.le_of_ble_eq_true rfl) ?_
  intro p_ e_ s_ m_ args_ below_ meth_ c_ A_ C hr hin
  have hm := hF.in
  rw [List.length_map] at hm
  have hx := hR.small hn
  have LP : ∀ (d i : Nat) (W : List (Nat × Nat)) (La Ba : Nat → Int32), i + d = fs.length → canon W → ex W = (ex (fs.take i)).map (fun x => x ^^^ AL) → W.length ≤ i → Hs cap mx La Ba (ss ++ [W.map enc]) → X p_ l e_ ({ frames := 5, cells := 0, slots := 0, locals := 106 } : Room) s_ m_ args_ below_ meth_ c_ D A_ 6 0 0 (MQ below_ (va_Qv (fun u : (Nat → Int32) × (Nat → Int32) => ∃ R, Rep n (fnot f n) R ∧ R.length ≤ fs.length + 1 ∧ Hs cap mx u.1 u.2 (ss ++ [R.map enc])) (Bw D A_ (fun u => shW cA h h1 h2 cap mx u.1 u.2 (ss.length + 1) ++ shW cA f0 f01 f02 cap2 mx2 L2 Bd2 (pre.length + 1))) A_) args_ s_ 0 0 A_) [(h, .inr (0, [.ref h1, .ref h2, .int (nI (ss.length + 1))])), (h1, .inl (cA, cap, .inl (La))), (h2, .inl (cA, mx, .inl (Ba))), (f0, .inr (0, [.ref f01, .ref f02, .int (nI (pre.length + 1))])), (f01, .inl (cA, cap2, .inl (L2))), (f02, .inl (cA, mx2, .inl (Bd2)))] 16 [(5, .int (nI (tot pre + i))), (4, .int (nI (tot pre + fs.length))), (0, .ref h), (1, .ref f0), (2, .int (nI (pre.length))), (3, .int (nI (n % 31)))] [] := by
    intro d
    induction d with
    | zero =>
      intro i W La Ba hi hW heW hlW hHa
      have hi2 : i = fs.length := by omega
      subst hi2
      rw [List.take_length, hR.2] at heW
      refine x_iload C d_S_addOthers_16 rfl ?_
      refine x_iload C d_S_addOthers_18 rfl ?_
      refine x_icmp_geN (tgt := 56) C d_S_addOthers_20 (by decide) (by omega) (by omega) (fun c20 => ?_) (fun c20 => ?_)
      · refine x_iload_n C d_S_addOthers_56 rfl rfl ?_
        refine x_if_leN (tgt := 74) C d_S_addOthers_57 (by decide) (by omega) (fun c57 => ?_) (fun c57 => ?_)
        · exact x_vret C hr d_S_addOthers_74 (La, Ba) rfl (⟨W, nt_end hW heW c57, by omega, hHa⟩)
        · obtain ⟨W0, v, rfl⟩ := nt_snoc heW (by omega)
          have hl := nt_last hW heW c57
          have hv2 : v.2 ≤ (ex (W0 ++ [v])).length := ex_mem_le (by simp)
          rw [heW, List.length_map, GL_len] at hv2
          rw [map_snoc] at hHa
          rw [List.length_append, List.length_singleton] at hlW
          refine x_aload_n C d_S_addOthers_60 rfl rfl ?_
          refine x_aload_n C d_S_addOthers_61 rfl rfl ?_
          refine x_callVI (wr := [(f0, .inr (0, [.ref f01, .ref f02, .int (nI (pre.length + 1))])), (f01, .inl (cA, cap2, .inl (L2))), (f02, .inl (cA, mx2, .inl (Bd2)))]) (rest := [.ref h]) C (c_S_takeGroup hHa rfl hl.2.2.2.1 (by omega)) d_S_addOthers_62 cd_S_takeGroup lk_S_69 dd_S_takeGroup rfl ⟨Nat.le_of_ble_eq_true rfl, Nat.le_of_ble_eq_true rfl⟩ ⟨Nat.le_refl _, Nat.le_refl _⟩ 0 0 rfl rfl [0, 1, 2] [3, 4, 5] rfl rfl (by decide) (by decide) (by decide) rfl (Nat.le_of_ble_eq_true rfl) ?_
          intro r_ u62 hp_
          obtain ⟨rfl, hH1⟩ := hp_
          refine x_iload_n C d_S_addOthers_65 rfl rfl ?_
          refine x_callSIN (wr := [(f0, .inr (0, [.ref f01, .ref f02, .int (nI (pre.length + 1))])), (f01, .inl (cA, cap2, .inl (L2))), (f02, .inl (cA, mx2, .inl (Bd2))), (h, .inr (0, [.ref h1, .ref h2, .int (nI (ss.length + 1))])), (h1, .inl (cA, cap, .inl (u62.1))), (h2, .inl (cA, mx, .inl (u62.2)))]) (rest := [.int (nI (v.1)), .ref h]) C (c_B_firstBits (n := n % 31) (by omega)) d_S_addOthers_66 cd_B_firstBits lk_S_53 dd_B_firstBits rfl ⟨Nat.le_of_ble_eq_true rfl, Nat.le_of_ble_eq_true rfl⟩ ⟨Nat.le_refl _, Nat.le_refl _⟩ [] [0, 1, 2, 3, 4, 5] rfl rfl (by decide) (by decide) (by decide) rfl (Nat.le_of_ble_eq_true rfl) ?_
          intro r_ u_ hp_
          obtain rfl := hp_
          refine x_iand C d_S_addOthers_69 ?_
          refine x_top (y := (nI (gb (fnot f n) (n / 31)))) (by rw [nx_and, hl.2.2.1]) ?_
          refine x_iconst (v := (nI (1))) C d_S_addOthers_70 (by decide) ?_
          refine x_callVV (wr := [(f0, .inr (0, [.ref f01, .ref f02, .int (nI (pre.length + 1))])), (f01, .inl (cA, cap2, .inl (L2))), (f02, .inl (cA, mx2, .inl (Bd2)))]) (rest := []) C (c_S_addGroups hH1 rfl hl.1 (by rw [hl.2.1, PG_len]; omega) (gb_le _ _) (fun _ => okw_one (gb_le _ _)) (by omega) (by omega)) d_S_addOthers_71 cd_S_addGroups lk_S_72 dd_S_addGroups rfl ⟨Nat.le_of_ble_eq_true rfl, Nat.le_of_ble_eq_true rfl⟩ ⟨Nat.le_refl _, Nat.le_refl _⟩ 0 0 rfl rfl [3, 4, 5] [0, 1, 2] rfl rfl (by decide) (by decide) (by decide) rfl (Nat.le_of_ble_eq_true rfl) ?_
          intro u71 hH2
          have hA2 := pg_ok (ws := tk W0 v) (b := gb (fnot f n) (n / 31)) (g := 1) hl.1 (fun _ => okw_one (gb_le _ _))
          refine x_perm (ws' := [(h, .inr (0, [.ref h1, .ref h2, .int (nI (ss.length + 1))])), (h1, .inl (cA, cap, .inl (u71.1))), (h2, .inl (cA, mx, .inl (u71.2))), (f0, .inr (0, [.ref f01, .ref f02, .int (nI (pre.length + 1))])), (f01, .inl (cA, cap2, .inl (L2))), (f02, .inl (cA, mx2, .inl (Bd2)))]) [3, 4, 5, 0, 1, 2] (by decide) rfl ?_
          exact x_vret C hr d_S_addOthers_74 u71 rfl (⟨_, ⟨hA2.1, by rw [hA2.2.1, hl.2.1, GL_PG, show (n + 30) / 31 = n / 31 + 1 by omega, PG_succ]; rfl⟩, by omega, hH2⟩)
      · exact absurd c20 (by omega)
    | succ d ih =>
      intro i W La Ba hi hW heW hlW hHa
      obtain ⟨w, hw⟩ : ∃ w, fs[i]? = some w := ⟨fs[i], List.getElem?_eq_getElem (by omega)⟩
      have hwm : w ∈ fs := List.mem_of_getElem? hw
      have hwo := canon_mem hR.1 w hwm
      have hw2 : w.2 ≤ (ex fs).length := ex_mem_le hwm
      have hxW : (ex W).length < 2 ^ 24 := by
        rw [heW, List.length_map]
        have h9 : (ex (fs.take i)).length ≤ (ex fs).length := by
          conv => rhs; rw [← List.take_append_drop i fs, ex_app, List.length_append]
          omega
        omega
      have hA2 := pg_ok (ws := W) (b := w.1 ^^^ AL) (g := w.2) hW (fun _ => okw_not hwo)
      refine x_iload C d_S_addOthers_16 rfl ?_
      refine x_iload C d_S_addOthers_18 rfl ?_
      refine x_icmp_geN (tgt := 56) C d_S_addOthers_20 (by decide) (by omega) (by omega) (fun c20 => ?_) (fun c20 => ?_)
      · exact absurd c20 (by omega)
      · refine x_aload_n C d_S_addOthers_23 rfl rfl ?_
        refine x_aload_n C d_S_addOthers_24 rfl rfl ?_
        refine x_get C d_S_addOthers_25 3 rfl rfl i_S 0 (by decide) lk_S_15 rfl rfl ?_
        refine x_iload C d_S_addOthers_28 rfl ?_
        refine x_iald C d_S_addOthers_30 4 rfl (by omega) (by omega) ?_
        refine x_top (y := (enc w)) (nt_word hF hw) ?_
        refine x_callSIN (wr := [(h, .inr (0, [.ref h1, .ref h2, .int (nI (ss.length + 1))])), (h1, .inl (cA, cap, .inl (La))), (h2, .inl (cA, mx, .inl (Ba))), (f0, .inr (0, [.ref f01, .ref f02, .int (nI (pre.length + 1))])), (f01, .inl (cA, cap2, .inl (L2))), (f02, .inl (cA, mx2, .inl (Bd2)))]) (rest := [.ref h]) C (c_B_bitsOf hwo (by omega)) d_S_addOthers_31 cd_B_bitsOf lk_S_38 dd_B_bitsOf rfl ⟨Nat.le_of_ble_eq_true rfl, Nat.le_of_ble_eq_true rfl⟩ ⟨Nat.le_refl _, Nat.le_refl _⟩ [] [0, 1, 2, 3, 4, 5] rfl rfl (by decide) (by decide) (by decide) rfl (Nat.le_of_ble_eq_true rfl) ?_
        intro r_ u_ hp_
        obtain rfl := hp_
        refine x_ldc C d_S_addOthers_34 lk_S_52 ?_
        refine x_top (y := nI 2147483647) (by decide) ?_
        refine x_ixor C d_S_addOthers_36 ?_
        refine x_top (y := (nI (w.1 ^^^ AL))) (nx_xor _ _) ?_
        refine x_aload_n C d_S_addOthers_37 rfl rfl ?_
        refine x_get C d_S_addOthers_38 3 rfl rfl i_S 0 (by decide) lk_S_15 rfl rfl ?_
        refine x_iload C d_S_addOthers_41 rfl ?_
        refine x_iald C d_S_addOthers_43 4 rfl (by omega) (by omega) ?_
        refine x_top (y := (enc w)) (nt_word hF hw) ?_
        refine x_callSIN (wr := [(h, .inr (0, [.ref h1, .ref h2, .int (nI (ss.length + 1))])), (h1, .inl (cA, cap, .inl (La))), (h2, .inl (cA, mx, .inl (Ba))), (f0, .inr (0, [.ref f01, .ref f02, .int (nI (pre.length + 1))])), (f01, .inl (cA, cap2, .inl (L2))), (f02, .inl (cA, mx2, .inl (Bd2)))]) (rest := [.int (nI (w.1 ^^^ AL)), .ref h]) C (c_B_groupsOf hwo (by omega)) d_S_addOthers_44 cd_B_groupsOf lk_S_46 dd_B_groupsOf rfl ⟨Nat.le_of_ble_eq_true rfl, Nat.le_of_ble_eq_true rfl⟩ ⟨Nat.le_refl _, Nat.le_refl _⟩ [] [0, 1, 2, 3, 4, 5] rfl rfl (by decide) (by decide) (by decide) rfl (Nat.le_of_ble_eq_true rfl) ?_
        intro r_ u_ hp_
        obtain rfl := hp_
        refine x_callVV (wr := [(f0, .inr (0, [.ref f01, .ref f02, .int (nI (pre.length + 1))])), (f01, .inl (cA, cap2, .inl (L2))), (f02, .inl (cA, mx2, .inl (Bd2)))]) (rest := []) C (c_S_addGroups hHa rfl hW hxW (okw_not hwo).2.1 (fun _ => okw_not hwo) (by omega) (by omega)) d_S_addOthers_47 cd_S_addGroups lk_S_72 dd_S_addGroups rfl ⟨Nat.le_of_ble_eq_true rfl, Nat.le_of_ble_eq_true rfl⟩ ⟨Nat.le_refl _, Nat.le_refl _⟩ 0 0 rfl rfl [0, 1, 2] [3, 4, 5] rfl rfl (by decide) (by decide) (by decide) rfl (Nat.le_of_ble_eq_true rfl) ?_
        intro u47 hH2
        refine x_iincN (lv' := [(5, .int (nI (tot pre + i + 1))), (4, .int (nI (tot pre + fs.length))), (0, .ref h), (1, .ref f0), (2, .int (nI (pre.length))), (3, .int (nI (n % 31)))]) C d_S_addOthers_50 rfl (by decide) rfl ?_
        refine x_goto (tgt := 16) C d_S_addOthers_53 (by decide) ?_
        refine x_perm (ws' := [(h, .inr (0, [.ref h1, .ref h2, .int (nI (ss.length + 1))])), (h1, .inl (cA, cap, .inl (u47.1))), (h2, .inl (cA, mx, .inl (u47.2))), (f0, .inr (0, [.ref f01, .ref f02, .int (nI (pre.length + 1))])), (f01, .inl (cA, cap2, .inl (L2))), (f02, .inl (cA, mx2, .inl (Bd2)))]) [3, 4, 5, 0, 1, 2] (by decide) rfl ?_
        exact ih (i + 1) _ u47.1 u47.2 (by omega) hA2.1 (by rw [hA2.2.1, heW, take_snoc hw, ex_app, List.map_append, ex_one, List.map_replicate]) (by omega) hH2
  refine x_aload_n C d_S_addOthers_0 rfl rfl ?_
  refine x_iload_n C d_S_addOthers_1 rfl rfl ?_
  refine x_iconst (v := (nI (1))) C d_S_addOthers_2 (by decide) ?_
  refine x_iaddN C d_S_addOthers_3  ?_
  refine x_callVI (wr := [(h, .inr (0, [.ref h1, .ref h2, .int (nI (ss.length + 1))])), (h1, .inl (cA, cap, .inl (L))), (h2, .inl (cA, mx, .inl (Bd)))]) (rest := []) C (c_S_startOf (i := pre.length + 1) hF (by simp) (by simp)) d_S_addOthers_4 cd_S_startOf lk_S_31 dd_S_startOf rfl ⟨Nat.le_of_ble_eq_true rfl, Nat.le_of_ble_eq_true rfl⟩ ⟨Nat.le_refl _, Nat.le_refl _⟩ 0 0 rfl rfl [3, 4, 5] [0, 1, 2] rfl rfl (by decide) (by decide) (by decide) rfl (Nat.le_of_ble_eq_true rfl) ?_
  intro r_ u_ hp_
  obtain rfl := hp_
  refine x_top (y := (nI (tot pre + fs.length))) (by rw [off_snoc, List.length_map]) ?_
  refine x_istore (lv' := [(4, .int (nI (tot pre + fs.length))), (0, .ref h), (1, .ref f0), (2, .int (nI (pre.length))), (3, .int (nI (n % 31)))]) C d_S_addOthers_7 (by decide) rfl ?_
  refine x_aload_n C d_S_addOthers_9 rfl rfl ?_
  refine x_iload_n C d_S_addOthers_10 rfl rfl ?_
  refine x_callVI (wr := [(h, .inr (0, [.ref h1, .ref h2, .int (nI (ss.length + 1))])), (h1, .inl (cA, cap, .inl (L))), (h2, .inl (cA, mx, .inl (Bd)))]) (rest := []) C (c_S_startOf (i := pre.length) hF (by simp) (by simp)) d_S_addOthers_11 cd_S_startOf lk_S_31 dd_S_startOf rfl ⟨Nat.le_of_ble_eq_true rfl, Nat.le_of_ble_eq_true rfl⟩ ⟨Nat.le_refl _, Nat.le_refl _⟩ 0 0 rfl rfl [3, 4, 5] [0, 1, 2] rfl rfl (by decide) (by decide) (by decide) rfl (Nat.le_of_ble_eq_true rfl) ?_
  intro r_ u_ hp_
  obtain rfl := hp_
  refine x_top (y := (nI (tot pre))) (by rw [off_app (Nat.le_refl _), off_len]) ?_
  refine x_istore (lv' := [(5, .int (nI (tot pre))), (4, .int (nI (tot pre + fs.length))), (0, .ref h), (1, .ref f0), (2, .int (nI (pre.length))), (3, .int (nI (n % 31)))]) C d_S_addOthers_14 (by decide) rfl ?_
  exact LP fs.length 0 [] L Bd (by omega) trivial rfl (Nat.le_refl _) hH
