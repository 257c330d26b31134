set_option maxHeartbeats 4000000 in
theorem c_B_draftColumn {l : Launch} {D : va_G} {cA : ClassId} {h c0 d0 s0 r0 n : Nat} {c01 c02 : Nat} {Lc Bc : Nat → Int32} {d01 d02 : Nat} {Ld Bd : Nat → Int32} {col g m : Nat} {F F' : Nat → Nat → Bool} (hcol : col < 2) (hC : Hs 2096 33 Lc Bc (cS n F 32)) (hD : Hs 2096 33 Ld Bd (cS (n + m) F' (col * 16))) (hF : ∀ v, v < 16 → F' (col * 16 + v) = addr (F (col * 16 + v)) n m (decide (v = g))) (hsup : ∀ v, sup n (F v)) (hg : g < 16) (hm : 1 ≤ m) (hn : n + m ≤ 1000000) (ht : tot (cS n F 32) ≤ 2000) (hle : tot (cS (n + m) F' (col * 16)) ≤ tot (cS n F (col * 16)) + 3 * (col * 16))  : CtV l D cA y_B_draftColumn b_B_draftColumn 5 ({ frames := 6, cells := 0, slots := 0, locals := 132 } : Room) [.ref h, .int (nI col), .int (nI g), .int (nI m)] (bo h c0 d0 s0 r0 (n) :: (shW cA d0 d01 d02 2096 33 Ld Bd (col * 16) ++ shW cA c0 c01 c02 2096 33 Lc Bc (32))) (fun (u : (Nat → Int32) × (Nat → Int32)) => Hs 2096 33 u.1 u.2 (cS (n + m) F' (col * 16 + 16)) ∧ tot (cS (n + m) F' (col * 16 + 16)) ≤ tot (cS n F (col * 16 + 16)) + 3 * (col * 16 + 16)) (fun u => (bo h c0 d0 s0 r0 (n) :: (shW cA d0 d01 d02 2096 33 u.1 u.2 (col * 16 + 16) ++ shW cA c0 c01 c02 2096 33 Lc Bc (32)))) := by
  refine CtV.start (lv0 := [(0, .ref h), (1, .int (nI col)), (2, .int (nI g)), (3, .int (nI m))]) (by decide) rfl (Nat.le_of_ble_eq_true rfl) ?_
  intro p_ e_ s_ m_ args_ below_ meth_ c_ A_ C hr hin
  have LP : ∀ (d v : Nat) (La Ba : Nat → Int32), v + d = 16 → Hs 2096 33 La Ba (cS (n + m) F' (col * 16 + v)) → tot (cS (n + m) F' (col * 16 + v)) ≤ tot (cS n F (col * 16 + v)) + 3 * (col * 16 + v) → X p_ l e_ ({ frames := 6, cells := 0, slots := 0, locals := 132 } : Room) s_ m_ args_ below_ meth_ c_ D A_ 5 0 0 (MQ below_ (va_Qv (fun (u : (Nat → Int32) × (Nat → Int32)) => Hs 2096 33 u.1 u.2 (cS (n + m) F' (col * 16 + 16)) ∧ tot (cS (n + m) F' (col * 16 + 16)) ≤ tot (cS n F (col * 16 + 16)) + 3 * (col * 16 + 16)) (Bw D A_ (fun u => (bo h c0 d0 s0 r0 (n) :: (shW cA d0 d01 d02 2096 33 u.1 u.2 (col * 16 + 16) ++ shW cA c0 c01 c02 2096 33 Lc Bc (32))))) A_) args_ s_ 0 0 A_) [(h, .inr (1, [.ref c0, .ref d0, .ref s0, .ref r0, .int (nI n)])), (d0, .inr (0, [.ref d01, .ref d02, .int (nI (col * 16 + v))])), (d01, .inl (cA, 2096, .inl (La))), (d02, .inl (cA, 33, .inl (Ba))), (c0, .inr (0, [.ref c01, .ref c02, .int (nI 32)])), (c01, .inl (cA, 2096, .inl (Lc))), (c02, .inl (cA, 33, .inl (Bc)))] 3 [(4, .int (nI v)), (0, .ref h), (1, .int (nI col)), (2, .int (nI g)), (3, .int (nI m))] [] := by
    intro d
    induction d with
    | zero =>
      intro v La Ba hv hLa hlv
      have hv2 : v = 16 := by omega
      subst hv2
      refine x_iload C d_B_draftColumn_3 rfl ?_
      refine x_bipush (v := (nI (16))) C d_B_draftColumn_5 (by decide) ?_
      refine x_icmp_geN (tgt := 67) C d_B_draftColumn_7 (by decide) (by omega) (by omega) (fun c7 => ?_) (fun c7 => ?_)
      · exact x_vret C hr d_B_draftColumn_67 (La, Ba) rfl (⟨hLa, hlv⟩)
      · exact absurd c7 (by omega)
    | succ d ih =>
      intro v La Ba hv hLa hlv
      have hl1 := cS_tot_le n F (j := col * 16 + (v + 1)) (k := 32) (by omega)
      have hl2 : tot (cS n F (col * 16 + (v + 1))) = tot (cS n F (col * 16 + v)) + (wI n (F (col * 16 + v))).length := by
        rw [show col * 16 + (v + 1) = col * 16 + v + 1 from rfl, cS_succ, tot_app, tot_one]
      have hg0 : (cS n F 32).getD (col * 16 + v) [] = wI n (F (col * 16 + v)) := cS_get n F (by omega)
      have hstep : ∀ (u : (Nat → Int32) × (Nat → Int32)) (ws' : List (Nat × Nat)), Rep (n + m) (F' (col * 16 + v)) ws' → ws'.length ≤ (Wd n (F (col * 16 + v))).length + 3 → Hs 2096 33 u.1 u.2 (cS (n + m) F' (col * 16 + v) ++ [ws'.map enc]) → Hs 2096 33 u.1 u.2 (cS (n + m) F' (col * 16 + (v + 1))) ∧ tot (cS (n + m) F' (col * 16 + (v + 1))) ≤ tot (cS n F (col * 16 + (v + 1))) + 3 * (col * 16 + (v + 1)) := by
        intro u ws' h1 h2 h3
        have h4 := h1.eq
        subst h4
        have h5 : cS (n + m) F' (col * 16 + (v + 1)) = cS (n + m) F' (col * 16 + v) ++ [wI (n + m) (F' (col * 16 + v))] := cS_succ _ _ _
        refine ⟨by rw [h5]; exact h3, ?_⟩
        rw [h5, tot_app, tot_one, hl2, wI_len, wI_len]
        omega
      refine x_iload C d_B_draftColumn_3 rfl ?_
      refine x_bipush (v := (nI (16))) C d_B_draftColumn_5 (by decide) ?_
      refine x_icmp_geN (tgt := 67) C d_B_draftColumn_7 (by decide) (by omega) (by omega) (fun c7 => ?_) (fun c7 => ?_)
      · exact absurd c7 (by omega)
      · refine x_aload_n C d_B_draftColumn_10 rfl rfl ?_
        refine x_get C d_B_draftColumn_11 0 rfl rfl i_B 1 (by decide) lk_B_18 rfl rfl ?_
        refine x_callVV (wr := [(h, .inr (1, [.ref c0, .ref d0, .ref s0, .ref r0, .int (nI n)])), (c0, .inr (0, [.ref c01, .ref c02, .int (nI 32)])), (c01, .inl (cA, 2096, .inl (Lc))), (c02, .inl (cA, 33, .inl (Bc)))]) (rest := []) C (c_S_open hLa (cS_len _ _ _) (by rw [cS_len]; omega)) d_B_draftColumn_14 cd_S_open lk_B_31 dd_S_open rfl ⟨Nat.le_of_ble_eq_true rfl, Nat.le_of_ble_eq_true rfl⟩ ⟨Nat.le_refl _, Nat.le_refl _⟩ 0 0 rfl rfl [1, 2, 3] [0, 4, 5, 6] rfl rfl (by decide) (by decide) (by decide) rfl (Nat.le_of_ble_eq_true rfl) ?_
        intro u14 hp14
        refine x_aload_n C d_B_draftColumn_17 rfl rfl ?_
        refine x_get C d_B_draftColumn_18 0 rfl rfl i_B 1 (by decide) lk_B_18 rfl rfl ?_
        refine x_aload_n C d_B_draftColumn_21 rfl rfl ?_
        refine x_get C d_B_draftColumn_22 0 rfl rfl i_B 0 (by decide) lk_B_14 rfl rfl ?_
        refine x_iload_n C d_B_draftColumn_25 rfl rfl ?_
        refine x_bipush (v := (nI (16))) C d_B_draftColumn_26 (by decide) ?_
        refine x_imulN C d_B_draftColumn_28  ?_
        refine x_iload C d_B_draftColumn_29 rfl ?_
        refine x_iaddN C d_B_draftColumn_31  ?_
        refine x_callVV (wr := [(h, .inr (1, [.ref c0, .ref d0, .ref s0, .ref r0, .int (nI n)]))]) (rest := []) C (c_S_addSet (k := col * 16 + v + 1) (ss := cS (n + m) F' (col * 16 + v)) (s0 := []) (i := col * 16 + v) hp14 (by rw [cS_len]) hC (cS_len _ _ _) (by rw [cS_len]; omega) (by rw [hg0]; simp only [List.length_nil]; omega)) d_B_draftColumn_32 cd_S_addSet lk_B_90 dd_S_addSet rfl ⟨Nat.le_of_ble_eq_true rfl, Nat.le_of_ble_eq_true rfl⟩ ⟨Nat.le_refl _, Nat.le_refl _⟩ 0 0 rfl rfl [4, 5, 6, 1, 2, 3] [0] rfl rfl (by decide) (by decide) (by decide) rfl (Nat.le_of_ble_eq_true rfl) ?_
        intro u32 hp32
        rw [hg0, List.nil_append] at hp32
        refine x_aload_n C d_B_draftColumn_35 rfl rfl ?_
        refine x_get C d_B_draftColumn_36 0 rfl rfl i_B 1 (by decide) lk_B_18 rfl rfl ?_
        refine x_iload C d_B_draftColumn_39 rfl ?_
        refine x_iload_n C d_B_draftColumn_41 rfl rfl ?_
        refine x_icmp_neN (tgt := 49) C d_B_draftColumn_42 (by decide) (by omega) (by omega) (fun c42 => ?_) (fun c42 => ?_)
        · refine x_iconst (v := (nI (0))) C d_B_draftColumn_49 (by decide) ?_
          refine x_aload_n C d_B_draftColumn_50 rfl rfl ?_
          refine x_get C d_B_draftColumn_51 0 rfl rfl i_B 4 (by decide) lk_B_27 rfl rfl ?_
          refine x_bipush (v := (nI (31))) C d_B_draftColumn_54 (by decide) ?_
          refine x_iremN C d_B_draftColumn_56 (by omega) (by omega) (by omega) ?_
          refine x_iload_n C d_B_draftColumn_57 rfl rfl ?_
          refine x_callVV (wr := [(h, .inr (1, [.ref c0, .ref d0, .ref s0, .ref r0, .int (nI n)])), (c0, .inr (0, [.ref c01, .ref c02, .int (nI 32)])), (c01, .inl (cA, 2096, .inl (Lc))), (c02, .inl (cA, 33, .inl (Bc)))]) (rest := []) C (c_S_addRows_false (k := col * 16 + v + 1) (ws := Wd n (F (col * 16 + v))) (f := F (col * 16 + v)) (n := n) (m := m) hp32 (by rw [cS_len]) (Wd_rep _ _) (hsup _) hm hn (by rw [wI_len] at hl2; omega)) d_B_draftColumn_58 cd_S_addRows lk_B_94 dd_S_addRows rfl ⟨Nat.le_of_ble_eq_true rfl, Nat.le_of_ble_eq_true rfl⟩ ⟨Nat.le_refl _, Nat.le_refl _⟩ 0 0 rfl rfl [1, 2, 3] [0, 4, 5, 6] rfl rfl (by decide) (by decide) (by decide) rfl (Nat.le_of_ble_eq_true rfl) ?_
          intro u58 hp58
          obtain ⟨ws9, hr9, hl9, hH9⟩ := hp58
          refine x_iincN (lv' := [(4, .int (nI (v + 1))), (0, .ref h), (1, .int (nI col)), (2, .int (nI g)), (3, .int (nI m))]) C d_B_draftColumn_61 rfl (by decide) rfl ?_
          refine x_goto (tgt := 3) C d_B_draftColumn_64 (by decide) ?_
          refine x_perm (ws' := [(h, .inr (1, [.ref c0, .ref d0, .ref s0, .ref r0, .int (nI n)])), (d0, .inr (0, [.ref d01, .ref d02, .int (nI (col * 16 + v + 1))])), (d01, .inl (cA, 2096, .inl (u58.1))), (d02, .inl (cA, 33, .inl (u58.2))), (c0, .inr (0, [.ref c01, .ref c02, .int (nI 32)])), (c01, .inl (cA, 2096, .inl (Lc))), (c02, .inl (cA, 33, .inl (Bc)))]) [0, 4, 5, 6, 1, 2, 3] (by decide) rfl ?_
          refine x_lv (lv' := [(4, .int (nI (v + 1))), (0, .ref h), (1, .int (nI col)), (2, .int (nI g)), (3, .int (nI m))]) (Or.inr (List.forall_mem_cons.mpr ⟨rfl, List.forall_mem_cons.mpr ⟨rfl, List.forall_mem_cons.mpr ⟨rfl, List.forall_mem_cons.mpr ⟨rfl, List.forall_mem_cons.mpr ⟨rfl, fun _ h9 => absurd h9 List.not_mem_nil⟩⟩⟩⟩⟩)) ?_
          exact ih (v + 1) u58.1 u58.2 (by omega) (hstep u58 ws9 (by rw [hF v (by omega), decide_eq_false c42]; exact hr9) hl9 hH9).1 (hstep u58 ws9 (by rw [hF v (by omega), decide_eq_false c42]; exact hr9) hl9 hH9).2
        · refine x_iconst (v := (nI (1))) C d_B_draftColumn_45 (by decide) ?_
          refine x_goto (tgt := 50) C d_B_draftColumn_46 (by decide) ?_
          refine x_aload_n C d_B_draftColumn_50 rfl rfl ?_
          refine x_get C d_B_draftColumn_51 0 rfl rfl i_B 4 (by decide) lk_B_27 rfl rfl ?_
          refine x_bipush (v := (nI (31))) C d_B_draftColumn_54 (by decide) ?_
          refine x_iremN C d_B_draftColumn_56 (by omega) (by omega) (by omega) ?_
          refine x_iload_n C d_B_draftColumn_57 rfl rfl ?_
          refine x_callVV (wr := [(h, .inr (1, [.ref c0, .ref d0, .ref s0, .ref r0, .int (nI n)])), (c0, .inr (0, [.ref c01, .ref c02, .int (nI 32)])), (c01, .inl (cA, 2096, .inl (Lc))), (c02, .inl (cA, 33, .inl (Bc)))]) (rest := []) C (c_S_addRows_true (k := col * 16 + v + 1) (ws := Wd n (F (col * 16 + v))) (f := F (col * 16 + v)) (n := n) (m := m) hp32 (by rw [cS_len]) (Wd_rep _ _) (hsup _) hm hn (by rw [wI_len] at hl2; omega)) d_B_draftColumn_58 cd_S_addRows lk_B_94 dd_S_addRows rfl ⟨Nat.le_of_ble_eq_true rfl, Nat.le_of_ble_eq_true rfl⟩ ⟨Nat.le_refl _, Nat.le_refl _⟩ 0 0 rfl rfl [1, 2, 3] [0, 4, 5, 6] rfl rfl (by decide) (by decide) (by decide) rfl (Nat.le_of_ble_eq_true rfl) ?_
          intro u58 hp58
          obtain ⟨ws9, hr9, hl9, hH9⟩ := hp58
          refine x_iincN (lv' := [(4, .int (nI (v + 1))), (0, .ref h), (1, .int (nI col)), (2, .int (nI g)), (3, .int (nI m))]) C d_B_draftColumn_61 rfl (by decide) rfl ?_
          refine x_goto (tgt := 3) C d_B_draftColumn_64 (by decide) ?_
          refine x_perm (ws' := [(h, .inr (1, [.ref c0, .ref d0, .ref s0, .ref r0, .int (nI n)])), (d0, .inr (0, [.ref d01, .ref d02, .int (nI (col * 16 + v + 1))])), (d01, .inl (cA, 2096, .inl (u58.1))), (d02, .inl (cA, 33, .inl (u58.2))), (c0, .inr (0, [.ref c01, .ref c02, .int (nI 32)])), (c01, .inl (cA, 2096, .inl (Lc))), (c02, .inl (cA, 33, .inl (Bc)))]) [0, 4, 5, 6, 1, 2, 3] (by decide) rfl ?_
          refine x_lv (lv' := [(4, .int (nI (v + 1))), (0, .ref h), (1, .int (nI col)), (2, .int (nI g)), (3, .int (nI m))]) (Or.inr (List.forall_mem_cons.mpr ⟨rfl, List.forall_mem_cons.mpr ⟨rfl, List.forall_mem_cons.mpr ⟨rfl, List.forall_mem_cons.mpr ⟨rfl, List.forall_mem_cons.mpr ⟨rfl, fun _ h9 => absurd h9 List.not_mem_nil⟩⟩⟩⟩⟩)) ?_
          exact ih (v + 1) u58.1 u58.2 (by omega) (hstep u58 ws9 (by rw [hF v (by omega), decide_eq_true c42]; exact hr9) hl9 hH9).1 (hstep u58 ws9 (by rw [hF v (by omega), decide_eq_true c42]; exact hr9) hl9 hH9).2
  refine x_iconst (v := (nI (0))) C d_B_draftColumn_0 (by decide) ?_
  refine x_istore (lv' := [(4, .int (nI 0)), (0, .ref h), (1, .int (nI col)), (2, .int (nI g)), (3, .int (nI m))]) C d_B_draftColumn_1 (by decide) rfl ?_
  refine x_lv (lv' := [(4, .int (nI 0)), (0, .ref h), (1, .int (nI col)), (2, .int (nI g)), (3, .int (nI m))]) (Or.inr (List.forall_mem_cons.mpr ⟨rfl, List.forall_mem_cons.mpr ⟨rfl, List.forall_mem_cons.mpr ⟨rfl, List.forall_mem_cons.mpr ⟨rfl, List.forall_mem_cons.mpr ⟨rfl, fun _ h9 => absurd h9 List.not_mem_nil⟩⟩⟩⟩⟩)) ?_
  exact LP 16 0 Ld Bd (by omega) hD hle
set_option maxHeartbeats 4000000 in
theorem c_B_append_busy {l : Launch} {D : va_G} {cA : ClassId} {h c0 d0 s0 r0 n : Nat} {s01 s02 : Nat} {Ls Bs : Nat → Int32} {a b m : Nat} (ha : a < 16) (hb : b < 16) (hm : 1 ≤ m) (hm2 : m ≤ 1000000) {k : Nat} (hk : 0 < k) (hk2 : k < 1000)  : CtI l D cA y_B_append b_B_append 5 (some .int) ({ frames := 7, cells := 0, slots := 0, locals := 156 } : Room) [.ref h, .int (nI a), .int (nI b), .int (nI m)] (bo h c0 d0 s0 r0 (n) :: (shW cA s0 s01 s02 3000 13 Ls Bs (k))) (fun r (_ : Unit) => r = -2) (fun _ => (bo h c0 d0 s0 r0 (n) :: (shW cA s0 s01 s02 3000 13 Ls Bs (k)))) := by
  refine CtI.start (lv0 := [(0, .ref h), (1, .int (nI a)), (2, .int (nI b)), (3, .int (nI m))]) (by decide) rfl (Nat.le_of_ble_eq_true rfl) ?_
  intro p_ e_ s_ m_ args_ below_ meth_ c_ A_ C hr hin
  refine x_iload_n C d_B_append_0 rfl rfl ?_
  refine x_callSI (wr := [(h, .inr (1, [.ref c0, .ref d0, .ref s0, .ref r0, .int (nI n)])), (s0, .inr (0, [.ref s01, .ref s02, .int (nI k)])), (s01, .inl (cA, 3000, .inl (Ls))), (s02, .inl (cA, 13, .inl (Bs)))]) (rest := []) C (c_B_isValue (x := nI a)) d_B_append_1 cd_B_isValue lk_B_34 dd_B_isValue rfl ⟨Nat.le_of_ble_eq_true rfl, Nat.le_of_ble_eq_true rfl⟩ ⟨Nat.le_refl _, Nat.le_refl _⟩ [] [0, 1, 2, 3] rfl rfl (by decide) (by decide) (by decide) rfl (Nat.le_of_ble_eq_true rfl) ?_
  intro r_ u_ hp_
  obtain rfl := hp_
  refine x_top (y := (nI (1))) (if_pos ⟨nI_pos (by omega), nI_ge (by omega) (by omega)⟩) ?_
  refine x_if_eqN (tgt := 25) C d_B_append_4 (by decide) (by omega) (fun c4 => ?_) (fun c4 => ?_)
  · exact absurd c4 (by omega)
  · refine x_iload_n C d_B_append_7 rfl rfl ?_
    refine x_callSI (wr := [(h, .inr (1, [.ref c0, .ref d0, .ref s0, .ref r0, .int (nI n)])), (s0, .inr (0, [.ref s01, .ref s02, .int (nI k)])), (s01, .inl (cA, 3000, .inl (Ls))), (s02, .inl (cA, 13, .inl (Bs)))]) (rest := []) C (c_B_isValue (x := nI b)) d_B_append_8 cd_B_isValue lk_B_34 dd_B_isValue rfl ⟨Nat.le_of_ble_eq_true rfl, Nat.le_of_ble_eq_true rfl⟩ ⟨Nat.le_refl _, Nat.le_refl _⟩ [] [0, 1, 2, 3] rfl rfl (by decide) (by decide) (by decide) rfl (Nat.le_of_ble_eq_true rfl) ?_
    intro r_ u_ hp_
    obtain rfl := hp_
    refine x_top (y := (nI (1))) (if_pos ⟨nI_pos (by omega), nI_ge (by omega) (by omega)⟩) ?_
    refine x_if_eqN (tgt := 25) C d_B_append_11 (by decide) (by omega) (fun c11 => ?_) (fun c11 => ?_)
    · exact absurd c11 (by omega)
    · refine x_iload_n C d_B_append_14 rfl rfl ?_
      refine x_iconst (v := (nI (1))) C d_B_append_15 (by decide) ?_
      refine x_icmp_ltN (tgt := 25) C d_B_append_16 (by decide) (by omega) (by omega) (fun c16 => ?_) (fun c16 => ?_)
      · exact absurd c16 (by omega)
      · refine x_iload_n C d_B_append_19 rfl rfl ?_
        refine x_ldc C d_B_append_20 lk_B_38 ?_
        refine x_top (y := nI 1000000) (by decide) ?_
        refine x_icmp_leN (tgt := 27) C d_B_append_22 (by decide) (by omega) (by omega) (fun c22 => ?_) (fun c22 => ?_)
        · refine x_aload_n C d_B_append_27 rfl rfl ?_
          refine x_get C d_B_append_28 0 rfl rfl i_B 2 (by decide) lk_B_21 rfl rfl ?_
          refine x_getN C d_B_append_31 1 rfl rfl i_S 2 (by decide) lk_B_39 rfl rfl ?_
          refine x_if_leN (tgt := 40) C d_B_append_34 (by decide) (by omega) (fun c34 => ?_) (fun c34 => ?_)
          · exact absurd c34 (by omega)
          · refine x_bipush (v := ((-2))) C d_B_append_37 (by decide) ?_
            exact x_iret C hr d_B_append_39 () rfl (rfl)
        · exact absurd c22 (by omega)
set_option maxHeartbeats 4000000 in
theorem c_B_append_many {l : Launch} {D : va_G} {cA : ClassId} {h c0 d0 s0 r0 n : Nat} {s01 s02 : Nat} {Ls Bs : Nat → Int32} {a b m : Nat} (ha : a < 16) (hb : b < 16) (hm : 1 ≤ m) (hm2 : m ≤ 1000000) (hn : n ≤ 1000000) (hno : 1000000 < n + m)  : CtI l D cA y_B_append b_B_append 5 (some .int) ({ frames := 7, cells := 0, slots := 0, locals := 156 } : Room) [.ref h, .int (nI a), .int (nI b), .int (nI m)] (bo h c0 d0 s0 r0 (n) :: (shW cA s0 s01 s02 3000 13 Ls Bs (0))) (fun r (_ : Unit) => r = -3) (fun _ => (bo h c0 d0 s0 r0 (n) :: (shW cA s0 s01 s02 3000 13 Ls Bs (0)))) := by
  refine CtI.start (lv0 := [(0, .ref h), (1, .int (nI a)), (2, .int (nI b)), (3, .int (nI m))]) (by decide) rfl (Nat.le_of_ble_eq_true rfl) ?_
  intro p_ e_ s_ m_ args_ below_ meth_ c_ A_ C hr hin
  refine x_iload_n C d_B_append_0 rfl rfl ?_
  refine x_callSI (wr := [(h, .inr (1, [.ref c0, .ref d0, .ref s0, .ref r0, .int (nI n)])), (s0, .inr (0, [.ref s01, .ref s02, .int (nI 0)])), (s01, .inl (cA, 3000, .inl (Ls))), (s02, .inl (cA, 13, .inl (Bs)))]) (rest := []) C (c_B_isValue (x := nI a)) d_B_append_1 cd_B_isValue lk_B_34 dd_B_isValue rfl ⟨Nat.le_of_ble_eq_true rfl, Nat.le_of_ble_eq_true rfl⟩ ⟨Nat.le_refl _, Nat.le_refl _⟩ [] [0, 1, 2, 3] rfl rfl (by decide) (by decide) (by decide) rfl (Nat.le_of_ble_eq_true rfl) ?_
  intro r_ u_ hp_
  obtain rfl := hp_
  refine x_top (y := (nI (1))) (if_pos ⟨nI_pos (by omega), nI_ge (by omega) (by omega)⟩) ?_
  refine x_if_eqN (tgt := 25) C d_B_append_4 (by decide) (by omega) (fun c4 => ?_) (fun c4 => ?_)
  · exact absurd c4 (by omega)
  · refine x_iload_n C d_B_append_7 rfl rfl ?_
    refine x_callSI (wr := [(h, .inr (1, [.ref c0, .ref d0, .ref s0, .ref r0, .int (nI n)])), (s0, .inr (0, [.ref s01, .ref s02, .int (nI 0)])), (s01, .inl (cA, 3000, .inl (Ls))), (s02, .inl (cA, 13, .inl (Bs)))]) (rest := []) C (c_B_isValue (x := nI b)) d_B_append_8 cd_B_isValue lk_B_34 dd_B_isValue rfl ⟨Nat.le_of_ble_eq_true rfl, Nat.le_of_ble_eq_true rfl⟩ ⟨Nat.le_refl _, Nat.le_refl _⟩ [] [0, 1, 2, 3] rfl rfl (by decide) (by decide) (by decide) rfl (Nat.le_of_ble_eq_true rfl) ?_
    intro r_ u_ hp_
    obtain rfl := hp_
    refine x_top (y := (nI (1))) (if_pos ⟨nI_pos (by omega), nI_ge (by omega) (by omega)⟩) ?_
    refine x_if_eqN (tgt := 25) C d_B_append_11 (by decide) (by omega) (fun c11 => ?_) (fun c11 => ?_)
    · exact absurd c11 (by omega)
    · refine x_iload_n C d_B_append_14 rfl rfl ?_
      refine x_iconst (v := (nI (1))) C d_B_append_15 (by decide) ?_
      refine x_icmp_ltN (tgt := 25) C d_B_append_16 (by decide) (by omega) (by omega) (fun c16 => ?_) (fun c16 => ?_)
      · exact absurd c16 (by omega)
      · refine x_iload_n C d_B_append_19 rfl rfl ?_
        refine x_ldc C d_B_append_20 lk_B_38 ?_
        refine x_top (y := nI 1000000) (by decide) ?_
        refine x_icmp_leN (tgt := 27) C d_B_append_22 (by decide) (by omega) (by omega) (fun c22 => ?_) (fun c22 => ?_)
        · refine x_aload_n C d_B_append_27 rfl rfl ?_
          refine x_get C d_B_append_28 0 rfl rfl i_B 2 (by decide) lk_B_21 rfl rfl ?_
          refine x_getN C d_B_append_31 1 rfl rfl i_S 2 (by decide) lk_B_39 rfl rfl ?_
          refine x_if_leN (tgt := 40) C d_B_append_34 (by decide) (by omega) (fun c34 => ?_) (fun c34 => ?_)
          · refine x_iload_n C d_B_append_40 rfl rfl ?_
            refine x_ldc C d_B_append_41 lk_B_38 ?_
            refine x_top (y := nI 1000000) (by decide) ?_
            refine x_aload_n C d_B_append_43 rfl rfl ?_
            refine x_get C d_B_append_44 0 rfl rfl i_B 4 (by decide) lk_B_27 rfl rfl ?_
            refine x_isubN C d_B_append_47 (by omega) ?_
            refine x_icmp_leN (tgt := 54) C d_B_append_48 (by decide) (by omega) (by omega) (fun c48 => ?_) (fun c48 => ?_)
            · exact absurd c48 (by omega)
            · refine x_bipush (v := ((-3))) C d_B_append_51 (by decide) ?_
              exact x_iret C hr d_B_append_53 () rfl (rfl)
          · exact absurd c34 (by omega)
        · exact absurd c22 (by omega)
set_option maxHeartbeats 4000000 in
theorem c_B_append {l : Launch} {D : va_G} {cA : ClassId} {h c0 d0 s0 r0 n : Nat} {s01 s02 : Nat} {Ls Bs : Nat → Int32} {c01 c02 : Nat} {Lc Bc : Nat → Int32} {d01 d02 : Nat} {Ld Bd : Nat → Int32} {a b m kd : Nat} {dd : List (List Int32)} {F F' : Nat → Nat → Bool} (ha : a < 16) (hb : b < 16) (hm : 1 ≤ m) (hn : n + m ≤ 1000000) (hC : Hs 2096 33 Lc Bc (cS n F 32)) (hD : Hs 2096 33 Ld Bd dd) (hkd : dd.length = kd) (hF0 : ∀ v, v < 16 → F' v = addr (F v) n m (decide (v = a))) (hF1 : ∀ v, v < 16 → F' (16 + v) = addr (F (16 + v)) n m (decide (v = b))) (hsup : ∀ v, sup n (F v)) (ht : tot (cS n F 32) ≤ 2000) (hfit : tot (cS (n + m) F' 32) ≤ 2000)  : CtI l D cA y_B_append b_B_append 5 (some .int) ({ frames := 7, cells := 0, slots := 0, locals := 156 } : Room) [.ref h, .int (nI a), .int (nI b), .int (nI m)] (bo h c0 d0 s0 r0 (n) :: (shW cA s0 s01 s02 3000 13 Ls Bs (0) ++ shW cA c0 c01 c02 2096 33 Lc Bc (32) ++ shW cA d0 d01 d02 2096 33 Ld Bd (kd))) (fun r (u : (Nat → Int32) × (Nat → Int32)) => r = nI (n + m) ∧ Hs 2096 33 u.1 u.2 (cS (n + m) F' 32)) (fun u => (bo h d0 c0 s0 r0 (n + m) :: (shW cA s0 s01 s02 3000 13 Ls Bs (0) ++ shW cA c0 c01 c02 2096 33 Lc Bc (32) ++ shW cA d0 d01 d02 2096 33 u.1 u.2 (32)))) := by
  subst hkd
  refine CtI.start (lv0 := [(0, .ref h), (1, .int (nI a)), (2, .int (nI b)), (3, .int (nI m))]) (by decide) rfl (Nat.le_of_ble_eq_true rfl) ?_
  intro p_ e_ s_ m_ args_ below_ meth_ c_ A_ C hr hin
  refine x_iload_n C d_B_append_0 rfl rfl ?_
  refine x_callSI (wr := [(h, .inr (1, [.ref c0, .ref d0, .ref s0, .ref r0, .int (nI n)])), (s0, .inr (0, [.ref s01, .ref s02, .int (nI 0)])), (s01, .inl (cA, 3000, .inl (Ls))), (s02, .inl (cA, 13, .inl (Bs))), (c0, .inr (0, [.ref c01, .ref c02, .int (nI 32)])), (c01, .inl (cA, 2096, .inl (Lc))), (c02, .inl (cA, 33, .inl (Bc))), (d0, .inr (0, [.ref d01, .ref d02, .int (nI (dd.length))])), (d01, .inl (cA, 2096, .inl (Ld))), (d02, .inl (cA, 33, .inl (Bd)))]) (rest := []) C (c_B_isValue (x := nI a)) d_B_append_1 cd_B_isValue lk_B_34 dd_B_isValue rfl ⟨Nat.le_of_ble_eq_true rfl, Nat.le_of_ble_eq_true rfl⟩ ⟨Nat.le_refl _, Nat.le_refl _⟩ [] [0, 1, 2, 3, 4, 5, 6, 7, 8, 9] rfl rfl (by decide) (by decide) (by decide) rfl (Nat.le_of_ble_eq_true rfl) ?_
  intro r_ u_ hp_
  obtain rfl := hp_
  refine x_top (y := (nI (1))) (if_pos ⟨nI_pos (by omega), nI_ge (by omega) (by omega)⟩) ?_
  refine x_if_eqN (tgt := 25) C d_B_append_4 (by decide) (by omega) (fun c4 => ?_) (fun c4 => ?_)
  · exact absurd c4 (by omega)
  · refine x_iload_n C d_B_append_7 rfl rfl ?_
    refine x_callSI (wr := [(h, .inr (1, [.ref c0, .ref d0, .ref s0, .ref r0, .int (nI n)])), (s0, .inr (0, [.ref s01, .ref s02, .int (nI 0)])), (s01, .inl (cA, 3000, .inl (Ls))), (s02, .inl (cA, 13, .inl (Bs))), (c0, .inr (0, [.ref c01, .ref c02, .int (nI 32)])), (c01, .inl (cA, 2096, .inl (Lc))), (c02, .inl (cA, 33, .inl (Bc))), (d0, .inr (0, [.ref d01, .ref d02, .int (nI (dd.length))])), (d01, .inl (cA, 2096, .inl (Ld))), (d02, .inl (cA, 33, .inl (Bd)))]) (rest := []) C (c_B_isValue (x := nI b)) d_B_append_8 cd_B_isValue lk_B_34 dd_B_isValue rfl ⟨Nat.le_of_ble_eq_true rfl, Nat.le_of_ble_eq_true rfl⟩ ⟨Nat.le_refl _, Nat.le_refl _⟩ [] [0, 1, 2, 3, 4, 5, 6, 7, 8, 9] rfl rfl (by decide) (by decide) (by decide) rfl (Nat.le_of_ble_eq_true rfl) ?_
    intro r_ u_ hp_
    obtain rfl := hp_
    refine x_top (y := (nI (1))) (if_pos ⟨nI_pos (by omega), nI_ge (by omega) (by omega)⟩) ?_
    refine x_if_eqN (tgt := 25) C d_B_append_11 (by decide) (by omega) (fun c11 => ?_) (fun c11 => ?_)
    · exact absurd c11 (by omega)
    · refine x_iload_n C d_B_append_14 rfl rfl ?_
      refine x_iconst (v := (nI (1))) C d_B_append_15 (by decide) ?_
      refine x_icmp_ltN (tgt := 25) C d_B_append_16 (by decide) (by omega) (by omega) (fun c16 => ?_) (fun c16 => ?_)
      · exact absurd c16 (by omega)
      · refine x_iload_n C d_B_append_19 rfl rfl ?_
        refine x_ldc C d_B_append_20 lk_B_38 ?_
        refine x_top (y := nI 1000000) (by decide) ?_
        refine x_icmp_leN (tgt := 27) C d_B_append_22 (by decide) (by omega) (by omega) (fun c22 => ?_) (fun c22 => ?_)
        · refine x_aload_n C d_B_append_27 rfl rfl ?_
          refine x_get C d_B_append_28 0 rfl rfl i_B 2 (by decide) lk_B_21 rfl rfl ?_
          refine x_getN C d_B_append_31 1 rfl rfl i_S 2 (by decide) lk_B_39 rfl rfl ?_
          refine x_if_leN (tgt := 40) C d_B_append_34 (by decide) (by omega) (fun c34 => ?_) (fun c34 => ?_)
          · refine x_iload_n C d_B_append_40 rfl rfl ?_
            refine x_ldc C d_B_append_41 lk_B_38 ?_
            refine x_top (y := nI 1000000) (by decide) ?_
            refine x_aload_n C d_B_append_43 rfl rfl ?_
            refine x_get C d_B_append_44 0 rfl rfl i_B 4 (by decide) lk_B_27 rfl rfl ?_
            refine x_isubN C d_B_append_47 (by omega) ?_
            refine x_icmp_leN (tgt := 54) C d_B_append_48 (by decide) (by omega) (by omega) (fun c48 => ?_) (fun c48 => ?_)
            · refine x_aload_n C d_B_append_54 rfl rfl ?_
              refine x_get C d_B_append_55 0 rfl rfl i_B 1 (by decide) lk_B_18 rfl rfl ?_
              refine x_callVV (wr := [(h, .inr (1, [.ref c0, .ref d0, .ref s0, .ref r0, .int (nI n)])), (s0, .inr (0, [.ref s01, .ref s02, .int (nI 0)])), (s01, .inl (cA, 3000, .inl (Ls))), (s02, .inl (cA, 13, .inl (Bs))), (c0, .inr (0, [.ref c01, .ref c02, .int (nI 32)])), (c01, .inl (cA, 2096, .inl (Lc))), (c02, .inl (cA, 33, .inl (Bc)))]) (rest := []) C (c_S_clear hD rfl) d_B_append_58 cd_S_clear lk_B_42 dd_S_clear rfl ⟨Nat.le_of_ble_eq_true rfl, Nat.le_of_ble_eq_true rfl⟩ ⟨Nat.le_refl _, Nat.le_refl _⟩ 0 0 rfl rfl [7, 8, 9] [0, 1, 2, 3, 4, 5, 6] rfl rfl (by decide) (by decide) (by decide) rfl (Nat.le_of_ble_eq_true rfl) ?_
              intro u_ hp_
              refine x_aload_n C d_B_append_61 rfl rfl ?_
              refine x_iconst (v := (nI (0))) C d_B_append_62 (by decide) ?_
              refine x_iload_n C d_B_append_63 rfl rfl ?_
              refine x_iload_n C d_B_append_64 rfl rfl ?_
              refine x_callVV (wr := [(s0, .inr (0, [.ref s01, .ref s02, .int (nI 0)])), (s01, .inl (cA, 3000, .inl (Ls))), (s02, .inl (cA, 13, .inl (Bs)))]) (rest := []) C (c_B_draftColumn (col := 0) (g := a) (m := m) (F := F) (F' := F') (by omega) hC hD.clear (fun v hv => by rw [show 0 * 16 + v = v by omega]; exact hF0 v hv) hsup ha hm hn ht (by show 0 ≤ _; omega)) d_B_append_65 cd_B_draftColumn lk_B_45 dd_B_draftColumn rfl ⟨Nat.le_of_ble_eq_true rfl, Nat.le_of_ble_eq_true rfl⟩ ⟨Nat.le_refl _, Nat.le_refl _⟩ 1 0 rfl rfl [0, 7, 8, 9, 4, 5, 6] [1, 2, 3] rfl rfl (by decide) (by decide) (by decide) rfl (Nat.le_of_ble_eq_true rfl) ?_
              intro u65 hp65
              obtain ⟨hp65, hq65⟩ := hp65
              refine x_aload_n C d_B_append_68 rfl rfl ?_
              refine x_iconst (v := (nI (1))) C d_B_append_69 (by decide) ?_
              refine x_iload_n C d_B_append_70 rfl rfl ?_
              refine x_iload_n C d_B_append_71 rfl rfl ?_
              refine x_callVV (wr := [(s0, .inr (0, [.ref s01, .ref s02, .int (nI 0)])), (s01, .inl (cA, 3000, .inl (Ls))), (s02, .inl (cA, 13, .inl (Bs)))]) (rest := []) C (c_B_draftColumn (col := 1) (g := b) (m := m) (F := F) (F' := F') (by omega) hC hp65 (fun v hv => hF1 v hv) hsup hb hm hn ht hq65) d_B_append_72 cd_B_draftColumn lk_B_45 dd_B_draftColumn rfl ⟨Nat.le_of_ble_eq_true rfl, Nat.le_of_ble_eq_true rfl⟩ ⟨Nat.le_refl _, Nat.le_refl _⟩ 1 0 rfl rfl [3, 4, 5, 6, 7, 8, 9] [0, 1, 2] rfl rfl (by decide) (by decide) (by decide) rfl (Nat.le_of_ble_eq_true rfl) ?_
              intro u72 hp72
              obtain ⟨hp72, hq72⟩ := hp72
              have hp72 : Hs 2096 33 u72.1 u72.2 (cS (n + m) F' 32) := hp72
              have hn9 := hp72.nums
              refine x_aload_n C d_B_append_75 rfl rfl ?_
              refine x_get C d_B_append_76 3 rfl rfl i_B 1 (by decide) lk_B_18 rfl rfl ?_
              refine x_callVI (wr := [(s0, .inr (0, [.ref s01, .ref s02, .int (nI 0)])), (s01, .inl (cA, 3000, .inl (Ls))), (s02, .inl (cA, 13, .inl (Bs))), (h, .inr (1, [.ref c0, .ref d0, .ref s0, .ref r0, .int (nI n)])), (c0, .inr (0, [.ref c01, .ref c02, .int (nI 32)])), (c01, .inl (cA, 2096, .inl (Lc))), (c02, .inl (cA, 33, .inl (Bc)))]) (rest := []) C (c_S_used hp72 (cS_len _ _ _)) d_B_append_79 cd_S_used lk_B_49 dd_S_used rfl ⟨Nat.le_of_ble_eq_true rfl, Nat.le_of_ble_eq_true rfl⟩ ⟨Nat.le_refl _, Nat.le_refl _⟩ 0 0 rfl rfl [4, 5, 6] [0, 1, 2, 3, 7, 8, 9] rfl rfl (by decide) (by decide) (by decide) rfl (Nat.le_of_ble_eq_true rfl) ?_
              intro r_ u_ hp_
              obtain rfl := hp_
              refine x_sipush (v := (nI (2000))) C d_B_append_82 (by decide) ?_
              refine x_icmp_leN (tgt := 91) C d_B_append_85 (by decide) (by omega) (by omega) (fun c85 => ?_) (fun c85 => ?_)
              · refine x_aload_n C d_B_append_91 rfl rfl ?_
                refine x_get C d_B_append_92 3 rfl rfl i_B 0 (by decide) lk_B_14 rfl rfl ?_
                refine x_astore (lv' := [(4, .ref c0), (0, .ref h), (1, .int (nI a)), (2, .int (nI b)), (3, .int (nI m))]) C d_B_append_95 (by decide) rfl ?_
                refine x_aload_n C d_B_append_97 rfl rfl ?_
                refine x_aload_n C d_B_append_98 rfl rfl ?_
                refine x_get C d_B_append_99 3 rfl rfl i_B 1 (by decide) lk_B_18 rfl rfl ?_
                refine x_put (ty := .object "RunBitmaps$Shelf") (v := .ref d0) (ws' := [(s0, .inr (0, [.ref s01, .ref s02, .int (nI 0)])), (s01, .inl (cA, 3000, .inl (Ls))), (s02, .inl (cA, 13, .inl (Bs))), (h, .inr (1, [.ref d0, .ref d0, .ref s0, .ref r0, .int (nI n)])), (c0, .inr (0, [.ref c01, .ref c02, .int (nI 32)])), (c01, .inl (cA, 2096, .inl (Lc))), (c02, .inl (cA, 33, .inl (Bc))), (d0, .inr (0, [.ref d01, .ref d02, .int (nI 32)])), (d01, .inl (cA, 2096, .inl (u72.1))), (d02, .inl (cA, 33, .inl (u72.2)))]) C d_B_append_102 3 rfl rfl i_B t_B t_B_ok n_B 0 (by decide) lk_B_14 rfl rfl (t_B_ok 0 (by decide)) rfl rfl (Nat.le_of_ble_eq_true rfl) rfl ?_
                refine x_aload_n C d_B_append_105 rfl rfl ?_
                refine x_aload C d_B_append_106 rfl ?_
                refine x_put (ty := .object "RunBitmaps$Shelf") (v := .ref c0) (ws' := [(s0, .inr (0, [.ref s01, .ref s02, .int (nI 0)])), (s01, .inl (cA, 3000, .inl (Ls))), (s02, .inl (cA, 13, .inl (Bs))), (h, .inr (1, [.ref d0, .ref c0, .ref s0, .ref r0, .int (nI n)])), (c0, .inr (0, [.ref c01, .ref c02, .int (nI 32)])), (c01, .inl (cA, 2096, .inl (Lc))), (c02, .inl (cA, 33, .inl (Bc))), (d0, .inr (0, [.ref d01, .ref d02, .int (nI 32)])), (d01, .inl (cA, 2096, .inl (u72.1))), (d02, .inl (cA, 33, .inl (u72.2)))]) C d_B_append_108 3 rfl rfl i_B t_B t_B_ok n_B 1 (by decide) lk_B_18 rfl rfl (t_B_ok 1 (by decide)) rfl rfl (Nat.le_of_ble_eq_true rfl) rfl ?_
                refine x_aload_n C d_B_append_111 rfl rfl ?_
                refine x_dup C d_B_append_112 rfl ?_
                refine x_get C d_B_append_113 3 rfl rfl i_B 4 (by decide) lk_B_27 rfl rfl ?_
                refine x_iload_n C d_B_append_116 rfl rfl ?_
                refine x_iaddN C d_B_append_117  ?_
                refine x_put (ty := .int) (v := .int (nI (n + m))) (ws' := [(s0, .inr (0, [.ref s01, .ref s02, .int (nI 0)])), (s01, .inl (cA, 3000, .inl (Ls))), (s02, .inl (cA, 13, .inl (Bs))), (h, .inr (1, [.ref d0, .ref c0, .ref s0, .ref r0, .int (nI (n + m))])), (c0, .inr (0, [.ref c01, .ref c02, .int (nI 32)])), (c01, .inl (cA, 2096, .inl (Lc))), (c02, .inl (cA, 33, .inl (Bc))), (d0, .inr (0, [.ref d01, .ref d02, .int (nI 32)])), (d01, .inl (cA, 2096, .inl (u72.1))), (d02, .inl (cA, 33, .inl (u72.2)))]) C d_B_append_118 3 rfl rfl i_B t_B t_B_ok n_B 4 (by decide) lk_B_27 rfl rfl (t_B_ok 4 (by decide)) rfl rfl (Nat.le_of_ble_eq_true rfl) rfl ?_
                refine x_aload_n C d_B_append_121 rfl rfl ?_
                refine x_get C d_B_append_122 3 rfl rfl i_B 4 (by decide) lk_B_27 rfl rfl ?_
                refine x_perm (ws' := [(h, .inr (1, [.ref d0, .ref c0, .ref s0, .ref r0, .int (nI (n + m))])), (s0, .inr (0, [.ref s01, .ref s02, .int (nI 0)])), (s01, .inl (cA, 3000, .inl (Ls))), (s02, .inl (cA, 13, .inl (Bs))), (c0, .inr (0, [.ref c01, .ref c02, .int (nI 32)])), (c01, .inl (cA, 2096, .inl (Lc))), (c02, .inl (cA, 33, .inl (Bc))), (d0, .inr (0, [.ref d01, .ref d02, .int (nI 32)])), (d01, .inl (cA, 2096, .inl (u72.1))), (d02, .inl (cA, 33, .inl (u72.2)))]) [3, 0, 1, 2, 4, 5, 6, 7, 8, 9] (by decide) rfl ?_
                exact x_iret C hr d_B_append_125 u72 rfl (⟨rfl, hp72⟩)
              · exact absurd c85 (by omega)
            · exact absurd c48 (by omega)
          · exact absurd c34 (by omega)
        · exact absurd c22 (by omega)
set_option maxHeartbeats 4000000 in
theorem c_B_append_words {l : Launch} {D : va_G} {cA : ClassId} {h c0 d0 s0 r0 n : Nat} {s01 s02 : Nat} {Ls Bs : Nat → Int32} {c01 c02 : Nat} {Lc Bc : Nat → Int32} {d01 d02 : Nat} {Ld Bd : Nat → Int32} {a b m kd : Nat} {dd : List (List Int32)} {F F' : Nat → Nat → Bool} (ha : a < 16) (hb : b < 16) (hm : 1 ≤ m) (hn : n + m ≤ 1000000) (hC : Hs 2096 33 Lc Bc (cS n F 32)) (hD : Hs 2096 33 Ld Bd dd) (hkd : dd.length = kd) (hF0 : ∀ v, v < 16 → F' v = addr (F v) n m (decide (v = a))) (hF1 : ∀ v, v < 16 → F' (16 + v) = addr (F (16 + v)) n m (decide (v = b))) (hsup : ∀ v, sup n (F v)) (ht : tot (cS n F 32) ≤ 2000) (hno : 2000 < tot (cS (n + m) F' 32))  : CtI l D cA y_B_append b_B_append 5 (some .int) ({ frames := 7, cells := 0, slots := 0, locals := 156 } : Room) [.ref h, .int (nI a), .int (nI b), .int (nI m)] (bo h c0 d0 s0 r0 (n) :: (shW cA s0 s01 s02 3000 13 Ls Bs (0) ++ shW cA c0 c01 c02 2096 33 Lc Bc (32) ++ shW cA d0 d01 d02 2096 33 Ld Bd (kd))) (fun r (u : (Nat → Int32) × (Nat → Int32)) => r = -3 ∧ Hs 2096 33 u.1 u.2 (cS (n + m) F' 32)) (fun u => (bo h c0 d0 s0 r0 (n) :: (shW cA s0 s01 s02 3000 13 Ls Bs (0) ++ shW cA c0 c01 c02 2096 33 Lc Bc (32) ++ shW cA d0 d01 d02 2096 33 u.1 u.2 (32)))) := by
  subst hkd
  refine CtI.start (lv0 := [(0, .ref h), (1, .int (nI a)), (2, .int (nI b)), (3, .int (nI m))]) (by decide) rfl (Nat.le_of_ble_eq_true rfl) ?_
  intro p_ e_ s_ m_ args_ below_ meth_ c_ A_ C hr hin
  refine x_iload_n C d_B_append_0 rfl rfl ?_
  refine x_callSI (wr := [(h, .inr (1, [.ref c0, .ref d0, .ref s0, .ref r0, .int (nI n)])), (s0, .inr (0, [.ref s01, .ref s02, .int (nI 0)])), (s01, .inl (cA, 3000, .inl (Ls))), (s02, .inl (cA, 13, .inl (Bs))), (c0, .inr (0, [.ref c01, .ref c02, .int (nI 32)])), (c01, .inl (cA, 2096, .inl (Lc))), (c02, .inl (cA, 33, .inl (Bc))), (d0, .inr (0, [.ref d01, .ref d02, .int (nI (dd.length))])), (d01, .inl (cA, 2096, .inl (Ld))), (d02, .inl (cA, 33, .inl (Bd)))]) (rest := []) C (c_B_isValue (x := nI a)) d_B_append_1 cd_B_isValue lk_B_34 dd_B_isValue rfl ⟨Nat.le_of_ble_eq_true rfl, Nat.le_of_ble_eq_true rfl⟩ ⟨Nat.le_refl _, Nat.le_refl _⟩ [] [0, 1, 2, 3, 4, 5, 6, 7, 8, 9] rfl rfl (by decide) (by decide) (by decide) rfl (Nat.le_of_ble_eq_true rfl) ?_
  intro r_ u_ hp_
  obtain rfl := hp_
  refine x_top (y := (nI (1))) (if_pos ⟨nI_pos (by omega), nI_ge (by omega) (by omega)⟩) ?_
  refine x_if_eqN (tgt := 25) C d_B_append_4 (by decide) (by omega) (fun c4 => ?_) (fun c4 => ?_)
  · exact absurd c4 (by omega)
  · refine x_iload_n C d_B_append_7 rfl rfl ?_
    refine x_callSI (wr := [(h, .inr (1, [.ref c0, .ref d0, .ref s0, .ref r0, .int (nI n)])), (s0, .inr (0, [.ref s01, .ref s02, .int (nI 0)])), (s01, .inl (cA, 3000, .inl (Ls))), (s02, .inl (cA, 13, .inl (Bs))), (c0, .inr (0, [.ref c01, .ref c02, .int (nI 32)])), (c01, .inl (cA, 2096, .inl (Lc))), (c02, .inl (cA, 33, .inl (Bc))), (d0, .inr (0, [.ref d01, .ref d02, .int (nI (dd.length))])), (d01, .inl (cA, 2096, .inl (Ld))), (d02, .inl (cA, 33, .inl (Bd)))]) (rest := []) C (c_B_isValue (x := nI b)) d_B_append_8 cd_B_isValue lk_B_34 dd_B_isValue rfl ⟨Nat.le_of_ble_eq_true rfl, Nat.le_of_ble_eq_true rfl⟩ ⟨Nat.le_refl _, Nat.le_refl _⟩ [] [0, 1, 2, 3, 4, 5, 6, 7, 8, 9] rfl rfl (by decide) (by decide) (by decide) rfl (Nat.le_of_ble_eq_true rfl) ?_
    intro r_ u_ hp_
    obtain rfl := hp_
    refine x_top (y := (nI (1))) (if_pos ⟨nI_pos (by omega), nI_ge (by omega) (by omega)⟩) ?_
    refine x_if_eqN (tgt := 25) C d_B_append_11 (by decide) (by omega) (fun c11 => ?_) (fun c11 => ?_)
    · exact absurd c11 (by omega)
    · refine x_iload_n C d_B_append_14 rfl rfl ?_
      refine x_iconst (v := (nI (1))) C d_B_append_15 (by decide) ?_
      refine x_icmp_ltN (tgt := 25) C d_B_append_16 (by decide) (by omega) (by omega) (fun c16 => ?_) (fun c16 => ?_)
      · exact absurd c16 (by omega)
      · refine x_iload_n C d_B_append_19 rfl rfl ?_
        refine x_ldc C d_B_append_20 lk_B_38 ?_
        refine x_top (y := nI 1000000) (by decide) ?_
        refine x_icmp_leN (tgt := 27) C d_B_append_22 (by decide) (by omega) (by omega) (fun c22 => ?_) (fun c22 => ?_)
        · refine x_aload_n C d_B_append_27 rfl rfl ?_
          refine x_get C d_B_append_28 0 rfl rfl i_B 2 (by decide) lk_B_21 rfl rfl ?_
          refine x_getN C d_B_append_31 1 rfl rfl i_S 2 (by decide) lk_B_39 rfl rfl ?_
          refine x_if_leN (tgt := 40) C d_B_append_34 (by decide) (by omega) (fun c34 => ?_) (fun c34 => ?_)
          · refine x_iload_n C d_B_append_40 rfl rfl ?_
            refine x_ldc C d_B_append_41 lk_B_38 ?_
            refine x_top (y := nI 1000000) (by decide) ?_
            refine x_aload_n C d_B_append_43 rfl rfl ?_
            refine x_get C d_B_append_44 0 rfl rfl i_B 4 (by decide) lk_B_27 rfl rfl ?_
            refine x_isubN C d_B_append_47 (by omega) ?_
            refine x_icmp_leN (tgt := 54) C d_B_append_48 (by decide) (by omega) (by omega) (fun c48 => ?_) (fun c48 => ?_)
            · refine x_aload_n C d_B_append_54 rfl rfl ?_
              refine x_get C d_B_append_55 0 rfl rfl i_B 1 (by decide) lk_B_18 rfl rfl ?_
              refine x_callVV (wr := [(h, .inr (1, [.ref c0, .ref d0, .ref s0, .ref r0, .int (nI n)])), (s0, .inr (0, [.ref s01, .ref s02, .int (nI 0)])), (s01, .inl (cA, 3000, .inl (Ls))), (s02, .inl (cA, 13, .inl (Bs))), (c0, .inr (0, [.ref c01, .ref c02, .int (nI 32)])), (c01, .inl (cA, 2096, .inl (Lc))), (c02, .inl (cA, 33, .inl (Bc)))]) (rest := []) C (c_S_clear hD rfl) d_B_append_58 cd_S_clear lk_B_42 dd_S_clear rfl ⟨Nat.le_of_ble_eq_true rfl, Nat.le_of_ble_eq_true rfl⟩ ⟨Nat.le_refl _, Nat.le_refl _⟩ 0 0 rfl rfl [7, 8, 9] [0, 1, 2, 3, 4, 5, 6] rfl rfl (by decide) (by decide) (by decide) rfl (Nat.le_of_ble_eq_true rfl) ?_
              intro u_ hp_
              refine x_aload_n C d_B_append_61 rfl rfl ?_
              refine x_iconst (v := (nI (0))) C d_B_append_62 (by decide) ?_
              refine x_iload_n C d_B_append_63 rfl rfl ?_
              refine x_iload_n C d_B_append_64 rfl rfl ?_
              refine x_callVV (wr := [(s0, .inr (0, [.ref s01, .ref s02, .int (nI 0)])), (s01, .inl (cA, 3000, .inl (Ls))), (s02, .inl (cA, 13, .inl (Bs)))]) (rest := []) C (c_B_draftColumn (col := 0) (g := a) (m := m) (F := F) (F' := F') (by omega) hC hD.clear (fun v hv => by rw [show 0 * 16 + v = v by omega]; exact hF0 v hv) hsup ha hm hn ht (by show 0 ≤ _; omega)) d_B_append_65 cd_B_draftColumn lk_B_45 dd_B_draftColumn rfl ⟨Nat.le_of_ble_eq_true rfl, Nat.le_of_ble_eq_true rfl⟩ ⟨Nat.le_refl _, Nat.le_refl _⟩ 1 0 rfl rfl [0, 7, 8, 9, 4, 5, 6] [1, 2, 3] rfl rfl (by decide) (by decide) (by decide) rfl (Nat.le_of_ble_eq_true rfl) ?_
              intro u65 hp65
              obtain ⟨hp65, hq65⟩ := hp65
              refine x_aload_n C d_B_append_68 rfl rfl ?_
              refine x_iconst (v := (nI (1))) C d_B_append_69 (by decide) ?_
              refine x_iload_n C d_B_append_70 rfl rfl ?_
              refine x_iload_n C d_B_append_71 rfl rfl ?_
              refine x_callVV (wr := [(s0, .inr (0, [.ref s01, .ref s02, .int (nI 0)])), (s01, .inl (cA, 3000, .inl (Ls))), (s02, .inl (cA, 13, .inl (Bs)))]) (rest := []) C (c_B_draftColumn (col := 1) (g := b) (m := m) (F := F) (F' := F') (by omega) hC hp65 (fun v hv => hF1 v hv) hsup hb hm hn ht hq65) d_B_append_72 cd_B_draftColumn lk_B_45 dd_B_draftColumn rfl ⟨Nat.le_of_ble_eq_true rfl, Nat.le_of_ble_eq_true rfl⟩ ⟨Nat.le_refl _, Nat.le_refl _⟩ 1 0 rfl rfl [3, 4, 5, 6, 7, 8, 9] [0, 1, 2] rfl rfl (by decide) (by decide) (by decide) rfl (Nat.le_of_ble_eq_true rfl) ?_
              intro u72 hp72
              obtain ⟨hp72, hq72⟩ := hp72
              have hp72 : Hs 2096 33 u72.1 u72.2 (cS (n + m) F' 32) := hp72
              have hn9 := hp72.nums
              refine x_aload_n C d_B_append_75 rfl rfl ?_
              refine x_get C d_B_append_76 3 rfl rfl i_B 1 (by decide) lk_B_18 rfl rfl ?_
              refine x_callVI (wr := [(s0, .inr (0, [.ref s01, .ref s02, .int (nI 0)])), (s01, .inl (cA, 3000, .inl (Ls))), (s02, .inl (cA, 13, .inl (Bs))), (h, .inr (1, [.ref c0, .ref d0, .ref s0, .ref r0, .int (nI n)])), (c0, .inr (0, [.ref c01, .ref c02, .int (nI 32)])), (c01, .inl (cA, 2096, .inl (Lc))), (c02, .inl (cA, 33, .inl (Bc)))]) (rest := []) C (c_S_used hp72 (cS_len _ _ _)) d_B_append_79 cd_S_used lk_B_49 dd_S_used rfl ⟨Nat.le_of_ble_eq_true rfl, Nat.le_of_ble_eq_true rfl⟩ ⟨Nat.le_refl _, Nat.le_refl _⟩ 0 0 rfl rfl [4, 5, 6] [0, 1, 2, 3, 7, 8, 9] rfl rfl (by decide) (by decide) (by decide) rfl (Nat.le_of_ble_eq_true rfl) ?_
              intro r_ u_ hp_
              obtain rfl := hp_
              refine x_sipush (v := (nI (2000))) C d_B_append_82 (by decide) ?_
              refine x_icmp_leN (tgt := 91) C d_B_append_85 (by decide) (by omega) (by omega) (fun c85 => ?_) (fun c85 => ?_)
              · exact absurd c85 (by omega)
              · refine x_bipush (v := ((-3))) C d_B_append_88 (by decide) ?_
                refine x_perm (ws' := [(h, .inr (1, [.ref c0, .ref d0, .ref s0, .ref r0, .int (nI n)])), (s0, .inr (0, [.ref s01, .ref s02, .int (nI 0)])), (s01, .inl (cA, 3000, .inl (Ls))), (s02, .inl (cA, 13, .inl (Bs))), (c0, .inr (0, [.ref c01, .ref c02, .int (nI 32)])), (c01, .inl (cA, 2096, .inl (Lc))), (c02, .inl (cA, 33, .inl (Bc))), (d0, .inr (0, [.ref d01, .ref d02, .int (nI 32)])), (d01, .inl (cA, 2096, .inl (u72.1))), (d02, .inl (cA, 33, .inl (u72.2)))]) [3, 0, 1, 2, 4, 5, 6, 7, 8, 9] (by decide) rfl ?_
                exact x_iret C hr d_B_append_90 u72 rfl (⟨rfl, hp72⟩)
            · exact absurd c48 (by omega)
          · exact absurd c34 (by omega)
        · exact absurd c22 (by omega)
set_option maxHeartbeats 4000000 in
theorem c_B_append_bad {l : Launch} {D : va_G} {cA : ClassId} {h c0 d0 s0 r0 n : Nat} {x y z : Int32} (hb : (x < 0 ∨ nI 16 ≤ x) ∨ (y < 0 ∨ nI 16 ≤ y) ∨ z < nI 1 ∨ nI 1000000 < z)  : CtI l D cA y_B_append b_B_append 5 (some .int) ({ frames := 7, cells := 0, slots := 0, locals := 156 } : Room) [.ref h, .int x, .int y, .int z] (bo h c0 d0 s0 r0 (n) :: ([])) (fun r (_ : Unit) => r = -1) (fun _ => (bo h c0 d0 s0 r0 (n) :: ([]))) := by
  refine CtI.start (lv0 := [(0, .ref h), (1, .int x), (2, .int y), (3, .int z)]) (by decide) rfl (Nat.le_of_ble_eq_true rfl) ?_
  intro p_ e_ s_ m_ args_ below_ meth_ c_ A_ C hr hin
  refine x_iload_n C d_B_append_0 rfl rfl ?_
  refine x_callSI (wr := [(h, .inr (1, [.ref c0, .ref d0, .ref s0, .ref r0, .int (nI n)]))]) (rest := []) C (c_B_isValue (x := x)) d_B_append_1 cd_B_isValue lk_B_34 dd_B_isValue rfl ⟨Nat.le_of_ble_eq_true rfl, Nat.le_of_ble_eq_true rfl⟩ ⟨Nat.le_refl _, Nat.le_refl _⟩ [] [0] rfl rfl (by decide) (by decide) (by decide) rfl (Nat.le_of_ble_eq_true rfl) ?_
  intro r_ u_ hp_
  obtain rfl := hp_
  refine x_if_eq (tgt := 25) C d_B_append_4 (by decide)  (fun c4 => ?_) (fun c4 => ?_)
  · refine x_iconst (v := ((-1))) C d_B_append_25 (by decide) ?_
    exact x_iret C hr d_B_append_26 () rfl (rfl)
  · refine x_iload_n C d_B_append_7 rfl rfl ?_
    refine x_callSI (wr := [(h, .inr (1, [.ref c0, .ref d0, .ref s0, .ref r0, .int (nI n)]))]) (rest := []) C (c_B_isValue (x := y)) d_B_append_8 cd_B_isValue lk_B_34 dd_B_isValue rfl ⟨Nat.le_of_ble_eq_true rfl, Nat.le_of_ble_eq_true rfl⟩ ⟨Nat.le_refl _, Nat.le_refl _⟩ [] [0] rfl rfl (by decide) (by decide) (by decide) rfl (Nat.le_of_ble_eq_true rfl) ?_
    intro r_ u_ hp_
    obtain rfl := hp_
    refine x_if_eq (tgt := 25) C d_B_append_11 (by decide)  (fun c11 => ?_) (fun c11 => ?_)
    · refine x_iconst (v := ((-1))) C d_B_append_25 (by decide) ?_
      exact x_iret C hr d_B_append_26 () rfl (rfl)
    · refine x_iload_n C d_B_append_14 rfl rfl ?_
      refine x_iconst (v := (nI (1))) C d_B_append_15 (by decide) ?_
      refine x_icmp_lt (tgt := 25) C d_B_append_16 (by decide)  (fun c16 => ?_) (fun c16 => ?_)
      · refine x_iconst (v := ((-1))) C d_B_append_25 (by decide) ?_
        exact x_iret C hr d_B_append_26 () rfl (rfl)
      · refine x_iload_n C d_B_append_19 rfl rfl ?_
        refine x_ldc C d_B_append_20 lk_B_38 ?_
        refine x_top (y := nI 1000000) (by decide) ?_
        refine x_icmp_le (tgt := 27) C d_B_append_22 (by decide)  (fun c22 => ?_) (fun c22 => ?_)
        · exact absurd hb (by
            have e1 : ¬ (x < 0 ∨ nI 16 ≤ x) := fun q => c4 (if_neg (fun w => q.elim w.1 w.2))
            have e2 : ¬ (y < 0 ∨ nI 16 ≤ y) := fun q => c11 (if_neg (fun w => q.elim w.1 w.2))
            exact fun q => q.elim e1 (fun q => q.elim e2 (fun q => q.elim c16 (fun q => absurd c22 (Int32.not_le.mpr q)))))
        · refine x_iconst (v := ((-1))) C d_B_append_25 (by decide) ?_
          exact x_iret C hr d_B_append_26 () rfl (rfl)
