/-! the reference: join, not -/
theorem take_app2 {α : Type} (st : List α) (a b : α) : (st ++ [a] ++ [b]).take st.length = st := by simp
theorem take_app1 {α : Type} (st : List α) (a : α) : (st ++ [a]).take st.length = st := by simp
theorem seg_one {L : Nat → Int32} {a n : Nat} (h1 : L a = nI 0) (h2 : L (a + 1) = nI n) : seg L a [(0, n)] := fun i p hp => by
  have hi : i < 1 := (List.getElem?_eq_some_iff.mp hp).1
  have h0 : i = 0 := by omega
  subst h0
  cases hp
  exact ⟨h1, h2⟩
theorem all_rows {E V : Nat → Int32} {rn : Nat} {en : Nat → Nat} {vl : Nat → Nat → Nat} (hE : Rn E V rn en vl) (h : 0 < bnd en rn) : Ik en rn (fun r => decide (r < bnd en rn)) [(0, bnd en rn)] := by
  have h0 : 0 < rn := by
    rcases Nat.eq_zero_or_pos rn with q | q
    · rw [q] at h
      exact absurd h (Nat.lt_irrefl 0)
    · exact q
  refine ⟨⟨Nat.zero_le _, h, trivial⟩, fun p hp => ?_, h0, fun r => by rw [mem_one]; simp⟩
  rw [List.mem_singleton.mp hp]
  exact ⟨0, rn, h0, Nat.le_refl _, rfl, rfl⟩
theorem no_rows {rn : Nat} {en : Nat → Nat} (h : bnd en rn = 0) : Ik en rn (fun r => decide (r < bnd en rn)) [] := ⟨trivial, fun p hp => by simp at hp, Nat.zero_le _, fun r => by simp [h, mem]⟩
theorem f3_not {en : Nat → Nat} {rn n : Nat} {f : Nat → Bool} (hn : bnd en rn = n) : f3 en 2 (fun r => decide (r < bnd en rn)) f rn = fnot f n := by
  funext r
  subst hn
  unfold f3 fnot jbb
  by_cases h : r < bnd en rn
  · simp [h]
  · simp [h]
set_option maxHeartbeats 4000000 in
theorem c_M_join_bad {l : Launch} {D : va_G} {cA : ClassId} {h e0 v0 l0 b0 rn ns : Nat} {E V L B : Nat → Int32} {pl sn wa wf : Int32} {x : Int32} (hb : x < 0 ∨ nI 3 < x)  : CtI l D cA y_M_join b_M_join 3 (some .int) ({ frames := 4, cells := 0, slots := 0, locals := 102 } : Room) [.ref h, .int x] (mW cA h e0 v0 l0 b0 E V L B rn ns pl sn wa wf) (fun r (_ : Unit) => r = -1) (fun _ => (mW cA h e0 v0 l0 b0 E V L B rn ns pl sn wa wf)) := by
  refine CtI.start (lv0 := [(0, .ref h), (1, .int x)]) (by decide) rfl (Nat.le_of_ble_eq_true rfl) ?_
  intro p_ e_ s_ m_ args_ below_ meth_ c_ A_ C hr hin
  refine x_iload_n C d_M_join_0 rfl rfl ?_
  refine x_if_lt (tgt := 9) C d_M_join_1 (by decide)  (fun c1 => ?_) (fun c1 => ?_)
  · refine x_iconst (v := ((-1))) C d_M_join_9 (by decide) ?_
    exact x_iret C hr d_M_join_10 () rfl (rfl)
  · refine x_iload_n C d_M_join_4 rfl rfl ?_
    refine x_iconst (v := (nI (3))) C d_M_join_5 (by decide) ?_
    refine x_icmp_le (tgt := 11) C d_M_join_6 (by decide)  (fun c6 => ?_) (fun c6 => ?_)
    · exact absurd hb (fun z => z.elim (fun z => c1 z) (fun z => absurd c6 (Int32.not_le.mpr z)))
    · refine x_iconst (v := ((-1))) C d_M_join_9 (by decide) ?_
      exact x_iret C hr d_M_join_10 () rfl (rfl)
set_option maxHeartbeats 4000000 in
theorem c_M_join_none {l : Launch} {D : va_G} {cA : ClassId} {h e0 v0 l0 b0 rn ns : Nat} {E V L B : Nat → Int32} {pl sn wa wf : Int32} {op : Nat} (ho : op ≤ 3) (hk : ns < 2)  : CtI l D cA y_M_join b_M_join 3 (some .int) ({ frames := 4, cells := 0, slots := 0, locals := 102 } : Room) [.ref h, .int (nI op)] (mW cA h e0 v0 l0 b0 E V L B rn ns pl sn wa wf) (fun r (_ : Unit) => r = -4) (fun _ => (mW cA h e0 v0 l0 b0 E V L B rn ns pl sn wa wf)) := by
  refine CtI.start (lv0 := [(0, .ref h), (1, .int (nI op))]) (by decide) rfl (Nat.le_of_ble_eq_true rfl) ?_
  intro p_ e_ s_ m_ args_ below_ meth_ c_ A_ C hr hin
  refine x_iload_n C d_M_join_0 rfl rfl ?_
  refine x_if_ltN (tgt := 9) C d_M_join_1 (by decide) (by omega) ?_
  refine x_iload_n C d_M_join_4 rfl rfl ?_
  refine x_iconst (v := (nI (3))) C d_M_join_5 (by decide) ?_
  refine x_icmp_leN (tgt := 11) C d_M_join_6 (by decide) (by omega) (by omega) (fun c6 => ?_) (fun c6 => ?_)
  · refine x_aload_n C d_M_join_11 rfl rfl ?_
    refine x_get C d_M_join_12 0 rfl rfl i_M 5 (by decide) lk_M_54 rfl rfl ?_
    refine x_iconst (v := (nI (2))) C d_M_join_15 (by decide) ?_
    refine x_icmp_geN (tgt := 22) C d_M_join_16 (by decide) (by omega) (by omega) (fun c16 => ?_) (fun c16 => ?_)
    · exact absurd c16 (by omega)
    · refine x_bipush (v := ((-4))) C d_M_join_19 (by decide) ?_
      exact x_iret C hr d_M_join_21 () rfl (rfl)
  · exact absurd c6 (by omega)
set_option maxHeartbeats 4000000 in
theorem c_M_join {l : Launch} {D : va_G} {cA : ClassId} {h e0 v0 l0 b0 rn ns : Nat} {E V L B : Nat → Int32} {pl sn wa wf : Int32} {en : Nat → Nat} {vl : Nat → Nat → Nat} (hE : Rn E V rn en vl) {n : Nat} {st : List ((Nat → Bool) × List (Nat × Nat))} {pA pB : (Nat → Bool) × List (Nat × Nat)} (hn : bnd en rn = n) (hO : Ok en rn (st ++ [pA] ++ [pB])) (hL : Hs 200000 15 L B (iS (st ++ [pA] ++ [pB]))) (hns : st.length + 2 = ns) {op : Nat} (ho : op ≤ 3) (h13 : st.length + 2 ≤ 12) (hfit : tot (kT n st) + (wI n (f3 en op pA.1 pB.1 rn)).length ≤ 3000)  : CtI l D cA y_M_join b_M_join 3 (some .int) ({ frames := 4, cells := 0, slots := 0, locals := 102 } : Room) [.ref h, .int (nI op)] (mW cA h e0 v0 l0 b0 E V L B rn ns pl sn wa wf) (fun r (u : ((Nat → Int32) × (Nat → Int32) × (Int32 × Int32 × Int32 × Int32))) => r = nI (st.length + 1) ∧ ∃ J, Ik en rn (f3 en op pA.1 pB.1 rn) J ∧ Hs 200000 15 u.1 u.2.1 (iS st ++ [fl J])) (fun u => (mW cA h e0 v0 l0 b0 E V (u.1) (u.2.1) rn (st.length + 1) (u.2.2.1) (u.2.2.2.1) (u.2.2.2.2.1) (u.2.2.2.2.2))) := by
  subst hns
  refine CtI.start (lv0 := [(0, .ref h), (1, .int (nI op))]) (by decide) rfl (Nat.le_of_ble_eq_true rfl) ?_
  intro p_ e_ s_ m_ args_ below_ meth_ c_ A_ C hr hin
  have hnm := hL.nums
  have hl2 : (st ++ [pA] ++ [pB]).length = st.length + 2 := by simp
  have hil : (iS (st ++ [pA] ++ [pB])).length = st.length + 2 := by rw [iS_len, hl2]
  have hgA : (st ++ [pA] ++ [pB])[st.length]? = some pA := by simp
  have hgB : (st ++ [pA] ++ [pB])[st.length + 1]? = some pB := by rw [List.getElem?_append_right (by simp)]; simp
  have hA0 := set_in hO hL hgA
  have hB0 := set_in hO hL hgB
  have htt : off (iS (st ++ [pA] ++ [pB])) (st.length + 1 + 1) = tot (iS (st ++ [pA] ++ [pB])) := by rw [show st.length + 1 + 1 = (iS (st ++ [pA] ++ [pB])).length from hil.symm]; exact off_len _
  have hb0 : B st.length = nI (off (iS (st ++ [pA] ++ [pB])) st.length) := hL.bd (by omega)
  have hb1 : B (st.length + 1) = nI (off (iS (st ++ [pA] ++ [pB])) st.length + 2 * pA.2.length) := by rw [hL.bd (by omega), hA0.2.2.1]
  have hb2 : B (st.length + 2) = nI (tot (iS (st ++ [pA] ++ [pB]))) := by rw [hL.bd (by omega)]; exact congrArg nI htt
  have ht9 : tot (iS (st ++ [pA] ++ [pB])) = off (iS (st ++ [pA] ++ [pB])) st.length + 2 * pA.2.length + 2 * pB.2.length := by rw [← htt, hB0.2.2.1, hA0.2.2.1]
  have hsB : seg L (off (iS (st ++ [pA] ++ [pB])) st.length + 2 * pA.2.length) pB.2 := by rw [← hA0.2.2.1]; exact hB0.2.1
  have hr0 := hE.1
  have hsm := iS_small hE hO (by omega)
  refine x_iload_n C d_M_join_0 rfl rfl ?_
  refine x_if_ltN (tgt := 9) C d_M_join_1 (by decide) (by omega) ?_
  refine x_iload_n C d_M_join_4 rfl rfl ?_
  refine x_iconst (v := (nI (3))) C d_M_join_5 (by decide) ?_
  refine x_icmp_leN (tgt := 11) C d_M_join_6 (by decide) (by omega) (by omega) (fun c6 => ?_) (fun c6 => ?_)
  · refine x_aload_n C d_M_join_11 rfl rfl ?_
    refine x_get C d_M_join_12 0 rfl rfl i_M 5 (by decide) lk_M_54 rfl rfl ?_
    refine x_iconst (v := (nI (2))) C d_M_join_15 (by decide) ?_
    refine x_icmp_geN (tgt := 22) C d_M_join_16 (by decide) (by omega) (by omega) (fun c16 => ?_) (fun c16 => ?_)
    · refine x_aload_n C d_M_join_22 rfl rfl ?_
      refine x_iload_n C d_M_join_23 rfl rfl ?_
      refine x_aload_n C d_M_join_24 rfl rfl ?_
      refine x_get C d_M_join_25 0 rfl rfl i_M 4 (by decide) lk_M_22 rfl rfl ?_
      refine x_aload_n C d_M_join_28 rfl rfl ?_
      refine x_get C d_M_join_29 0 rfl rfl i_M 5 (by decide) lk_M_54 rfl rfl ?_
      refine x_iconst (v := (nI (2))) C d_M_join_32 (by decide) ?_
      refine x_isubN C d_M_join_33 (by omega) ?_
      refine x_top (y := (nI (st.length))) (by congr 1) ?_
      refine x_iald C d_M_join_34 4 rfl (by omega) (by omega) ?_
      refine x_top (y := (nI (off (iS (st ++ [pA] ++ [pB])) st.length))) hb0 ?_
      refine x_aload_n C d_M_join_35 rfl rfl ?_
      refine x_get C d_M_join_36 0 rfl rfl i_M 4 (by decide) lk_M_22 rfl rfl ?_
      refine x_aload_n C d_M_join_39 rfl rfl ?_
      refine x_get C d_M_join_40 0 rfl rfl i_M 5 (by decide) lk_M_54 rfl rfl ?_
      refine x_iconst (v := (nI (1))) C d_M_join_43 (by decide) ?_
      refine x_isubN C d_M_join_44 (by omega) ?_
      refine x_top (y := (nI (st.length + 1))) (by congr 1) ?_
      refine x_iald C d_M_join_45 4 rfl (by omega) (by omega) ?_
      refine x_top (y := (nI (off (iS (st ++ [pA] ++ [pB])) st.length + 2 * pA.2.length))) hb1 ?_
      refine x_aload_n C d_M_join_46 rfl rfl ?_
      refine x_get C d_M_join_47 0 rfl rfl i_M 4 (by decide) lk_M_22 rfl rfl ?_
      refine x_aload_n C d_M_join_50 rfl rfl ?_
      refine x_get C d_M_join_51 0 rfl rfl i_M 5 (by decide) lk_M_54 rfl rfl ?_
      refine x_iconst (v := (nI (1))) C d_M_join_54 (by decide) ?_
      refine x_isubN C d_M_join_55 (by omega) ?_
      refine x_top (y := (nI (st.length + 1))) (by congr 1) ?_
      refine x_iald C d_M_join_56 4 rfl (by omega) (by omega) ?_
      refine x_top (y := (nI (off (iS (st ++ [pA] ++ [pB])) st.length + 2 * pA.2.length))) hb1 ?_
      refine x_aload_n C d_M_join_57 rfl rfl ?_
      refine x_get C d_M_join_58 0 rfl rfl i_M 4 (by decide) lk_M_22 rfl rfl ?_
      refine x_aload_n C d_M_join_61 rfl rfl ?_
      refine x_get C d_M_join_62 0 rfl rfl i_M 5 (by decide) lk_M_54 rfl rfl ?_
      refine x_iald C d_M_join_65 4 rfl (by omega) (by omega) ?_
      refine x_top (y := (nI (off (iS (st ++ [pA] ++ [pB])) st.length + 2 * pA.2.length + 2 * pB.2.length))) (by rw [hb2, ht9]) ?_
      refine x_aload_n C d_M_join_66 rfl rfl ?_
      refine x_get C d_M_join_67 0 rfl rfl i_M 4 (by decide) lk_M_22 rfl rfl ?_
      refine x_aload_n C d_M_join_70 rfl rfl ?_
      refine x_get C d_M_join_71 0 rfl rfl i_M 5 (by decide) lk_M_54 rfl rfl ?_
      refine x_iald C d_M_join_74 4 rfl (by omega) (by omega) ?_
      refine x_top (y := (nI (tot (iS (st ++ [pA] ++ [pB]))))) hb2 ?_
      refine x_callVI (wr := []) (rest := []) C (c_M_layJoined (a1 := off (iS (st ++ [pA] ++ [pB])) st.length) (a2 := off (iS (st ++ [pA] ++ [pB])) st.length + 2 * pA.2.length) (a3 := tot (iS (st ++ [pA] ++ [pB]))) (J1 := pA.2) (J2 := pB.2) (f1 := pA.1) (f2 := pB.1) hE hn hA0.1 hB0.1 hA0.2.1 hsB (by omega) (by omega) (by omega) ho) d_M_join_75 cd_M_layJoined lk_M_83 dd_M_layJoined rfl ⟨Nat.le_of_ble_eq_true rfl, Nat.le_of_ble_eq_true rfl⟩ ⟨Nat.le_refl _, Nat.le_refl _⟩ 2 0 rfl rfl [0, 1, 2, 3, 4] [] rfl rfl (by decide) (by decide) (by decide) rfl (Nat.le_of_ble_eq_true rfl) ?_
      intro r_ u75 hp_
      obtain ⟨rfl, hI, hsg, hlo⟩ := hp_
      have hL2 := hL.scratch hlo
      refine x_istore_n (lv' := [(2, .int (nI (tot (iS (st ++ [pA] ++ [pB])) + 2 * u75.2.length))), (0, .ref h), (1, .int (nI op))]) C d_M_join_78 rfl (by decide) rfl ?_
      refine x_aload_n C d_M_join_79 rfl rfl ?_
      refine x_iconst (v := (nI (2))) C d_M_join_80 (by decide) ?_
      refine x_iload_n C d_M_join_81 rfl rfl ?_
      refine x_callVI (wr := []) (rest := []) C (c_M_become (la := 2) (m := st.length) hE hn hO hL2 hl2 hI hsg (by omega) (by omega) (by omega) (by rw [take_app2]; exact hfit)) d_M_join_82 cd_M_become lk_M_87 dd_M_become rfl ⟨Nat.le_of_ble_eq_true rfl, Nat.le_of_ble_eq_true rfl⟩ ⟨Nat.le_refl _, Nat.le_refl _⟩ 2 0 rfl rfl [0, 1, 2, 3, 4] [] rfl rfl (by decide) (by decide) (by decide) rfl (Nat.le_of_ble_eq_true rfl) ?_
      intro r_ u82 hp_
      obtain ⟨rfl, hH82⟩ := hp_
      rw [take_app2] at hH82
      refine x_if_eqN (tgt := 95) C d_M_join_85 (by decide) (by omega) (fun c85 => ?_) (fun c85 => ?_)
      · exact absurd c85 (by omega)
      · refine x_aload_n C d_M_join_88 rfl rfl ?_
        refine x_get C d_M_join_89 0 rfl rfl i_M 5 (by decide) lk_M_54 rfl rfl ?_
        refine x_goto (tgt := 97) C d_M_join_92 (by decide) ?_
        exact x_iret C hr d_M_join_97 u82 rfl (⟨rfl, u75.2, hI, hH82⟩)
    · exact absurd c16 (by omega)
  · exact absurd c6 (by omega)
set_option maxHeartbeats 4000000 in
theorem c_M_join_full {l : Launch} {D : va_G} {cA : ClassId} {h e0 v0 l0 b0 rn ns : Nat} {E V L B : Nat → Int32} {pl sn wa wf : Int32} {en : Nat → Nat} {vl : Nat → Nat → Nat} (hE : Rn E V rn en vl) {n : Nat} {st : List ((Nat → Bool) × List (Nat × Nat))} {pA pB : (Nat → Bool) × List (Nat × Nat)} (hn : bnd en rn = n) (hO : Ok en rn (st ++ [pA] ++ [pB])) (hL : Hs 200000 15 L B (iS (st ++ [pA] ++ [pB]))) (hns : st.length + 2 = ns) {op : Nat} (ho : op ≤ 3) (h13 : st.length + 2 ≤ 12) (hno : 3000 < tot (kT n st) + (wI n (f3 en op pA.1 pB.1 rn)).length)  : CtI l D cA y_M_join b_M_join 3 (some .int) ({ frames := 4, cells := 0, slots := 0, locals := 102 } : Room) [.ref h, .int (nI op)] (mW cA h e0 v0 l0 b0 E V L B rn ns pl sn wa wf) (fun r (u : ((Nat → Int32) × (Int32 × Int32 × Int32 × Int32))) => r = -3 ∧ Hs 200000 15 u.1 B (iS (st ++ [pA] ++ [pB]))) (fun u => (mW cA h e0 v0 l0 b0 E V (u.1) B rn ns (u.2.1) (u.2.2.1) (u.2.2.2.1) (u.2.2.2.2))) := by
  subst hns
  refine CtI.start (lv0 := [(0, .ref h), (1, .int (nI op))]) (by decide) rfl (Nat.le_of_ble_eq_true rfl) ?_
  intro p_ e_ s_ m_ args_ below_ meth_ c_ A_ C hr hin
  have hnm := hL.nums
  have hl2 : (st ++ [pA] ++ [pB]).length = st.length + 2 := by simp
  have hil : (iS (st ++ [pA] ++ [pB])).length = st.length + 2 := by rw [iS_len, hl2]
  have hgA : (st ++ [pA] ++ [pB])[st.length]? = some pA := by simp
  have hgB : (st ++ [pA] ++ [pB])[st.length + 1]? = some pB := by rw [List.getElem?_append_right (by simp)]; simp
  have hA0 := set_in hO hL hgA
  have hB0 := set_in hO hL hgB
  have htt : off (iS (st ++ [pA] ++ [pB])) (st.length + 1 + 1) = tot (iS (st ++ [pA] ++ [pB])) := by rw [show st.length + 1 + 1 = (iS (st ++ [pA] ++ [pB])).length from hil.symm]; exact off_len _
  have hb0 : B st.length = nI (off (iS (st ++ [pA] ++ [pB])) st.length) := hL.bd (by omega)
  have hb1 : B (st.length + 1) = nI (off (iS (st ++ [pA] ++ [pB])) st.length + 2 * pA.2.length) := by rw [hL.bd (by omega), hA0.2.2.1]
  have hb2 : B (st.length + 2) = nI (tot (iS (st ++ [pA] ++ [pB]))) := by rw [hL.bd (by omega)]; exact congrArg nI htt
  have ht9 : tot (iS (st ++ [pA] ++ [pB])) = off (iS (st ++ [pA] ++ [pB])) st.length + 2 * pA.2.length + 2 * pB.2.length := by rw [← htt, hB0.2.2.1, hA0.2.2.1]
  have hsB : seg L (off (iS (st ++ [pA] ++ [pB])) st.length + 2 * pA.2.length) pB.2 := by rw [← hA0.2.2.1]; exact hB0.2.1
  have hr0 := hE.1
  have hsm := iS_small hE hO (by omega)
  refine x_iload_n C d_M_join_0 rfl rfl ?_
  refine x_if_ltN (tgt := 9) C d_M_join_1 (by decide) (by omega) ?_
  refine x_iload_n C d_M_join_4 rfl rfl ?_
  refine x_iconst (v := (nI (3))) C d_M_join_5 (by decide) ?_
  refine x_icmp_leN (tgt := 11) C d_M_join_6 (by decide) (by omega) (by omega) (fun c6 => ?_) (fun c6 => ?_)
  · refine x_aload_n C d_M_join_11 rfl rfl ?_
    refine x_get C d_M_join_12 0 rfl rfl i_M 5 (by decide) lk_M_54 rfl rfl ?_
    refine x_iconst (v := (nI (2))) C d_M_join_15 (by decide) ?_
    refine x_icmp_geN (tgt := 22) C d_M_join_16 (by decide) (by omega) (by omega) (fun c16 => ?_) (fun c16 => ?_)
    · refine x_aload_n C d_M_join_22 rfl rfl ?_
      refine x_iload_n C d_M_join_23 rfl rfl ?_
      refine x_aload_n C d_M_join_24 rfl rfl ?_
      refine x_get C d_M_join_25 0 rfl rfl i_M 4 (by decide) lk_M_22 rfl rfl ?_
      refine x_aload_n C d_M_join_28 rfl rfl ?_
      refine x_get C d_M_join_29 0 rfl rfl i_M 5 (by decide) lk_M_54 rfl rfl ?_
      refine x_iconst (v := (nI (2))) C d_M_join_32 (by decide) ?_
      refine x_isubN C d_M_join_33 (by omega) ?_
      refine x_top (y := (nI (st.length))) (by congr 1) ?_
      refine x_iald C d_M_join_34 4 rfl (by omega) (by omega) ?_
      refine x_top (y := (nI (off (iS (st ++ [pA] ++ [pB])) st.length))) hb0 ?_
      refine x_aload_n C d_M_join_35 rfl rfl ?_
      refine x_get C d_M_join_36 0 rfl rfl i_M 4 (by decide) lk_M_22 rfl rfl ?_
      refine x_aload_n C d_M_join_39 rfl rfl ?_
      refine x_get C d_M_join_40 0 rfl rfl i_M 5 (by decide) lk_M_54 rfl rfl ?_
      refine x_iconst (v := (nI (1))) C d_M_join_43 (by decide) ?_
      refine x_isubN C d_M_join_44 (by omega) ?_
      refine x_top (y := (nI (st.length + 1))) (by congr 1) ?_
      refine x_iald C d_M_join_45 4 rfl (by omega) (by omega) ?_
      refine x_top (y := (nI (off (iS (st ++ [pA] ++ [pB])) st.length + 2 * pA.2.length))) hb1 ?_
      refine x_aload_n C d_M_join_46 rfl rfl ?_
      refine x_get C d_M_join_47 0 rfl rfl i_M 4 (by decide) lk_M_22 rfl rfl ?_
      refine x_aload_n C d_M_join_50 rfl rfl ?_
      refine x_get C d_M_join_51 0 rfl rfl i_M 5 (by decide) lk_M_54 rfl rfl ?_
      refine x_iconst (v := (nI (1))) C d_M_join_54 (by decide) ?_
      refine x_isubN C d_M_join_55 (by omega) ?_
      refine x_top (y := (nI (st.length + 1))) (by congr 1) ?_
      refine x_iald C d_M_join_56 4 rfl (by omega) (by omega) ?_
      refine x_top (y := (nI (off (iS (st ++ [pA] ++ [pB])) st.length + 2 * pA.2.length))) hb1 ?_
      refine x_aload_n C d_M_join_57 rfl rfl ?_
      refine x_get C d_M_join_58 0 rfl rfl i_M 4 (by decide) lk_M_22 rfl rfl ?_
      refine x_aload_n C d_M_join_61 rfl rfl ?_
      refine x_get C d_M_join_62 0 rfl rfl i_M 5 (by decide) lk_M_54 rfl rfl ?_
      refine x_iald C d_M_join_65 4 rfl (by omega) (by omega) ?_
      refine x_top (y := (nI (off (iS (st ++ [pA] ++ [pB])) st.length + 2 * pA.2.length + 2 * pB.2.length))) (by rw [hb2, ht9]) ?_
      refine x_aload_n C d_M_join_66 rfl rfl ?_
      refine x_get C d_M_join_67 0 rfl rfl i_M 4 (by decide) lk_M_22 rfl rfl ?_
      refine x_aload_n C d_M_join_70 rfl rfl ?_
      refine x_get C d_M_join_71 0 rfl rfl i_M 5 (by decide) lk_M_54 rfl rfl ?_
      refine x_iald C d_M_join_74 4 rfl (by omega) (by omega) ?_
      refine x_top (y := (nI (tot (iS (st ++ [pA] ++ [pB]))))) hb2 ?_
      refine x_callVI (wr := []) (rest := []) C (c_M_layJoined (a1 := off (iS (st ++ [pA] ++ [pB])) st.length) (a2 := off (iS (st ++ [pA] ++ [pB])) st.length + 2 * pA.2.length) (a3 := tot (iS (st ++ [pA] ++ [pB]))) (J1 := pA.2) (J2 := pB.2) (f1 := pA.1) (f2 := pB.1) hE hn hA0.1 hB0.1 hA0.2.1 hsB (by omega) (by omega) (by omega) ho) d_M_join_75 cd_M_layJoined lk_M_83 dd_M_layJoined rfl ⟨Nat.le_of_ble_eq_true rfl, Nat.le_of_ble_eq_true rfl⟩ ⟨Nat.le_refl _, Nat.le_refl _⟩ 2 0 rfl rfl [0, 1, 2, 3, 4] [] rfl rfl (by decide) (by decide) (by decide) rfl (Nat.le_of_ble_eq_true rfl) ?_
      intro r_ u75 hp_
      obtain ⟨rfl, hI, hsg, hlo⟩ := hp_
      have hL2 := hL.scratch hlo
      refine x_istore_n (lv' := [(2, .int (nI (tot (iS (st ++ [pA] ++ [pB])) + 2 * u75.2.length))), (0, .ref h), (1, .int (nI op))]) C d_M_join_78 rfl (by decide) rfl ?_
      refine x_aload_n C d_M_join_79 rfl rfl ?_
      refine x_iconst (v := (nI (2))) C d_M_join_80 (by decide) ?_
      refine x_iload_n C d_M_join_81 rfl rfl ?_
      refine x_callVI (wr := []) (rest := []) C (c_M_become_full (la := 2) (m := st.length) hE hn hO hL2 hl2 hI hsg (by omega) (by omega) (by omega) (by rw [take_app2]; exact hno)) d_M_join_82 cd_M_become lk_M_87 dd_M_become rfl ⟨Nat.le_of_ble_eq_true rfl, Nat.le_of_ble_eq_true rfl⟩ ⟨Nat.le_refl _, Nat.le_refl _⟩ 2 0 rfl rfl [0, 1, 2, 3, 4] [] rfl rfl (by decide) (by decide) (by decide) rfl (Nat.le_of_ble_eq_true rfl) ?_
      intro r_ u82 hp_
      obtain rfl := hp_
      refine x_if_eqN (tgt := 95) C d_M_join_85 (by decide) (by omega) (fun c85 => ?_) (fun c85 => ?_)
      · refine x_bipush (v := ((-3))) C d_M_join_95 (by decide) ?_
        exact x_iret C hr d_M_join_97 (u75.1, ((u82.1), (u82.2.1), (u82.2.2.1), (u82.2.2.2))) rfl (⟨rfl, hL2⟩)
      · exact absurd c85 (by omega)
    · exact absurd c16 (by omega)
  · exact absurd c6 (by omega)
set_option maxHeartbeats 4000000 in
theorem c_M_not {l : Launch} {D : va_G} {cA : ClassId} {h e0 v0 l0 b0 rn ns : Nat} {E V L B : Nat → Int32} {pl sn wa wf : Int32} {en : Nat → Nat} {vl : Nat → Nat → Nat} (hE : Rn E V rn en vl) {n : Nat} {st : List ((Nat → Bool) × List (Nat × Nat))} {p : (Nat → Bool) × List (Nat × Nat)} (hn : bnd en rn = n) (hO : Ok en rn (st ++ [p])) (hL : Hs 200000 15 L B (iS (st ++ [p]))) (hns : st.length + 1 = ns) (h13 : st.length + 1 ≤ 12) (hfit : tot (kT n st) + (wI n (fnot p.1 n)).length ≤ 3000)  : CtI l D cA y_M_not b_M_not 5 (some .int) ({ frames := 4, cells := 0, slots := 0, locals := 102 } : Room) [.ref h] (mW cA h e0 v0 l0 b0 E V L B rn ns pl sn wa wf) (fun r (u : ((Nat → Int32) × (Nat → Int32) × (Int32 × Int32 × Int32 × Int32))) => r = nI (st.length + 1) ∧ ∃ J, Ik en rn (fnot p.1 n) J ∧ Hs 200000 15 u.1 u.2.1 (iS st ++ [fl J])) (fun u => (mW cA h e0 v0 l0 b0 E V (u.1) (u.2.1) rn (st.length + 1) (u.2.2.1) (u.2.2.2.1) (u.2.2.2.2.1) (u.2.2.2.2.2))) := by
  subst hns
  refine CtI.start (lv0 := [(0, .ref h)]) (by decide) rfl (Nat.le_of_ble_eq_true rfl) ?_
  intro p_ e_ s_ m_ args_ below_ meth_ c_ A_ C hr hin
  have hnm := hL.nums
  have hil := iS_len (st ++ [p])
  have hil2 : (st ++ [p]).length = st.length + 1 := by rw [List.length_append, List.length_singleton]
  rw [List.length_append, List.length_singleton] at hil
  rw [hil] at hnm
  have hsp : (st ++ [p])[st.length]? = some p := by simp
  have hs0 := set_in hO hL hsp
  have htt : off (iS (st ++ [p])) (st.length + 1) = tot (iS (st ++ [p])) := by rw [← hil]; exact off_len _
  have ht9 := hs0.2.2.1
  rw [htt] at ht9
  have hbt : B (st.length + 1) = nI (tot (iS (st ++ [p]))) := by rw [hL.bd (by omega), htt]
  have hb0 : B st.length = nI (off (iS (st ++ [p])) st.length) := hL.bd (by omega)
  have hn2 : n ≤ 1000000 := by rw [← hn]; exact bnd_le hE rn (Nat.le_refl _)
  have hr0 := hE.1
  have hJl := hs0.1.2.2.1
  have hsm := iS_small hE hO (by omega)
  have LP : ∀ (dl : Nat) (J : List (Nat × Nat)) (L0 : Nat → Int32), dl ≤ 2 → Ik en rn (fnot p.1 n) J → seg L0 (tot (iS (st ++ [p])) + dl) J → (∀ x, x < tot (iS (st ++ [p])) → L0 x = L x) → ∀ (d k y : Nat) (La : Nat → Int32), y + d = 2 * J.length → k = tot (iS (st ++ [p])) + dl + y → (∀ x, x < tot (iS (st ++ [p])) → La x = L x) → (∀ z, z < y → La (tot (iS (st ++ [p])) + z) = L0 (tot (iS (st ++ [p])) + dl + z)) → (∀ z, y ≤ z → La (tot (iS (st ++ [p])) + dl + z) = L0 (tot (iS (st ++ [p])) + dl + z)) → X p_ l e_ ({ frames := 4, cells := 0, slots := 0, locals := 102 } : Room) s_ m_ args_ below_ meth_ c_ D A_ 5 0 0 (MQ below_ (va_Qi (fun r (u : ((Nat → Int32) × (Nat → Int32) × (Int32 × Int32 × Int32 × Int32))) => r = nI (st.length + 1) ∧ ∃ J, Ik en rn (fnot p.1 n) J ∧ Hs 200000 15 u.1 u.2.1 (iS st ++ [fl J])) (Bw D A_ (fun u => (mW cA h e0 v0 l0 b0 E V (u.1) (u.2.1) rn (st.length + 1) (u.2.2.1) (u.2.2.2.1) (u.2.2.2.2.1) (u.2.2.2.2.2)))) A_) args_ s_ 0 0 A_) [(h, .inr (2, [.ref e0, .ref v0, .int (nI rn), .ref l0, .ref b0, .int (nI (st.length + 1)), .int pl, .int sn, .int wa, .int wf])), (e0, .inl (cA, 33000, .inl (E))), (v0, .inl (cA, 66000, .inl (V))), (l0, .inl (cA, 200000, .inl (La))), (b0, .inl (cA, 15, .inl (B)))] 76 [(4, .int (nI k)), (3, .int (nI (tot (iS (st ++ [p])) + dl + 2 * J.length))), (2, .int (nI (tot (iS (st ++ [p])) + dl))), (1, .int (nI (tot (iS (st ++ [p]))))), (0, .ref h)] [] := by
    intro dl J L0 hdl hI hsg hlo d
    have hJ9 := hI.2.2.1
    induction d with
    | zero =>
      intro k y La hy hk g1 g2 g3
      have hL3 : Hs 200000 15 La B (iS (st ++ [p])) := hL.scratch g1
      have hsg3 : seg La (tot (iS (st ++ [p]))) J := by
        intro i q hq
        have b1 := hsg i q hq
        have b2 : i < J.length := (List.getElem?_eq_some_iff.mp hq).1
        rw [Nat.add_assoc (tot (iS (st ++ [p]))), g2 (2 * i) (by omega), g2 (2 * i + 1) (by omega)]
        exact b1
      refine x_iload C d_M_not_76 rfl ?_
      refine x_iload_n C d_M_not_78 rfl rfl ?_
      refine x_icmp_geN (tgt := 106) C d_M_not_79 (by decide) (by omega) (by omega) (fun c79 => ?_) (fun c79 => ?_)
      · refine x_aload_n C d_M_not_106 rfl rfl ?_
        refine x_iconst (v := (nI (1))) C d_M_not_107 (by decide) ?_
        refine x_iload_n C d_M_not_108 rfl rfl ?_
        refine x_iload_n C d_M_not_109 rfl rfl ?_
        refine x_iaddN C d_M_not_110  ?_
        refine x_iload_n C d_M_not_111 rfl rfl ?_
        refine x_isubN C d_M_not_112 (by omega) ?_
        refine x_top (y := (nI (tot (iS (st ++ [p])) + 2 * J.length))) (by congr 1; omega) ?_
        refine x_callVI (wr := []) (rest := []) C (c_M_become (la := 1) (m := st.length) hE hn hO hL3 hil2 hI hsg3 (by omega) (by omega) (by omega) (by rw [take_app1]; exact hfit)) d_M_not_113 cd_M_become lk_M_87 dd_M_become rfl ⟨Nat.le_of_ble_eq_true rfl, Nat.le_of_ble_eq_true rfl⟩ ⟨Nat.le_refl _, Nat.le_refl _⟩ 2 0 rfl rfl [0, 1, 2, 3, 4] [] rfl rfl (by decide) (by decide) (by decide) rfl (Nat.le_of_ble_eq_true rfl) ?_
        intro r_ u82 hp_
        obtain ⟨rfl, hH82⟩ := hp_
        rw [take_app1] at hH82
        refine x_if_eqN (tgt := 126) C d_M_not_116 (by decide) (by omega) (fun c116 => ?_) (fun c116 => ?_)
        · exact absurd c116 (by omega)
        · refine x_aload_n C d_M_not_119 rfl rfl ?_
          refine x_get C d_M_not_120 0 rfl rfl i_M 5 (by decide) lk_M_54 rfl rfl ?_
          refine x_goto (tgt := 128) C d_M_not_123 (by decide) ?_
          exact x_iret C hr d_M_not_128 u82 rfl (⟨rfl, J, hI, hH82⟩)
      · exact absurd c79 (by omega)
    | succ d ih =>
      intro k y La hy hk g1 g2 g3
      refine x_iload C d_M_not_76 rfl ?_
      refine x_iload_n C d_M_not_78 rfl rfl ?_
      refine x_icmp_geN (tgt := 106) C d_M_not_79 (by decide) (by omega) (by omega) (fun c79 => ?_) (fun c79 => ?_)
      · exact absurd c79 (by omega)
      · refine x_aload_n C d_M_not_82 rfl rfl ?_
        refine x_get C d_M_not_83 0 rfl rfl i_M 3 (by decide) lk_M_19 rfl rfl ?_
        refine x_iload_n C d_M_not_86 rfl rfl ?_
        refine x_iload C d_M_not_87 rfl ?_
        refine x_iaddN C d_M_not_89  ?_
        refine x_iload_n C d_M_not_90 rfl rfl ?_
        refine x_isubN C d_M_not_91 (by omega) ?_
        refine x_top (y := (nI (tot (iS (st ++ [p])) + y))) (by congr 1; omega) ?_
        refine x_aload_n C d_M_not_92 rfl rfl ?_
        refine x_get C d_M_not_93 0 rfl rfl i_M 3 (by decide) lk_M_19 rfl rfl ?_
        refine x_iload C d_M_not_96 rfl ?_
        refine x_iald C d_M_not_98 3 rfl (by omega) (by omega) ?_
        refine x_top (y := (L0 (tot (iS (st ++ [p])) + dl + y))) (by rw [hk]; exact g3 y (Nat.le_refl _)) ?_
        refine x_iast (ws' := [(h, .inr (2, [.ref e0, .ref v0, .int (nI rn), .ref l0, .ref b0, .int (nI (st.length + 1)), .int pl, .int sn, .int wa, .int wf])), (e0, .inl (cA, 33000, .inl (E))), (v0, .inl (cA, 66000, .inl (V))), (l0, .inl (cA, 200000, .inl (upd La (tot (iS (st ++ [p])) + y) (L0 (tot (iS (st ++ [p])) + dl + y))))), (b0, .inl (cA, 15, .inl (B)))]) C d_M_not_99 3 rfl (by omega) (by omega) rfl ?_
        refine x_iincN (lv' := [(4, .int (nI (k + 1))), (3, .int (nI (tot (iS (st ++ [p])) + dl + 2 * J.length))), (2, .int (nI (tot (iS (st ++ [p])) + dl))), (1, .int (nI (tot (iS (st ++ [p]))))), (0, .ref h)]) C d_M_not_100 rfl (by decide) rfl ?_
        refine x_goto (tgt := 76) C d_M_not_103 (by decide) ?_
        refine x_lv (lv' := [(4, .int (nI (k + 1))), (3, .int (nI (tot (iS (st ++ [p])) + dl + 2 * J.length))), (2, .int (nI (tot (iS (st ++ [p])) + dl))), (1, .int (nI (tot (iS (st ++ [p]))))), (0, .ref h)]) (Or.inr (List.forall_mem_cons.mpr ⟨rfl, List.forall_mem_cons.mpr ⟨rfl, List.forall_mem_cons.mpr ⟨rfl, List.forall_mem_cons.mpr ⟨rfl, List.forall_mem_cons.mpr ⟨rfl, fun _ h9 => absurd h9 List.not_mem_nil⟩⟩⟩⟩⟩)) ?_
        exact ih (k + 1) (y + 1) _ (by omega) (by omega) (fun x hx => by rw [pk_un (by omega)]; exact g1 x hx) (fun z hz => by
          by_cases h9 : z = y
          · subst h9
            rw [pk_us]
          · rw [pk_un (by omega)]
            exact g2 z (by omega)) (fun z hz => by rw [pk_un (by omega)]; exact g3 z (by omega))
  refine x_aload_n C d_M_not_0 rfl rfl ?_
  refine x_get C d_M_not_1 0 rfl rfl i_M 5 (by decide) lk_M_54 rfl rfl ?_
  refine x_if_neN (tgt := 10) C d_M_not_4 (by decide) (by omega) (fun c4 => ?_) (fun c4 => ?_)
  · refine x_aload_n C d_M_not_10 rfl rfl ?_
    refine x_get C d_M_not_11 0 rfl rfl i_M 4 (by decide) lk_M_22 rfl rfl ?_
    refine x_aload_n C d_M_not_14 rfl rfl ?_
    refine x_get C d_M_not_15 0 rfl rfl i_M 5 (by decide) lk_M_54 rfl rfl ?_
    refine x_iald C d_M_not_18 4 rfl (by omega) (by omega) ?_
    refine x_top (y := (nI (tot (iS (st ++ [p]))))) hbt ?_
    refine x_istore_n (lv' := [(1, .int (nI (tot (iS (st ++ [p]))))), (0, .ref h)]) C d_M_not_19 rfl (by decide) rfl ?_
    refine x_iload_n C d_M_not_20 rfl rfl ?_
    refine x_istore_n (lv' := [(2, .int (nI (tot (iS (st ++ [p]))))), (1, .int (nI (tot (iS (st ++ [p]))))), (0, .ref h)]) C d_M_not_21 rfl (by decide) rfl ?_
    refine x_aload_n C d_M_not_22 rfl rfl ?_
    refine x_callVI (wr := []) (rest := []) C (c_M_rows hE) d_M_not_23 cd_M_rows lk_M_41 dd_M_rows rfl ⟨Nat.le_of_ble_eq_true rfl, Nat.le_of_ble_eq_true rfl⟩ ⟨Nat.le_refl _, Nat.le_refl _⟩ 2 0 rfl rfl [0, 1, 2, 3, 4] [] rfl rfl (by decide) (by decide) (by decide) rfl (Nat.le_of_ble_eq_true rfl) ?_
    intro r_ u_ hp_
    obtain rfl := hp_
    refine x_top (y := (nI (n))) (by rw [hn]) ?_
    refine x_if_leN (tgt := 52) C d_M_not_26 (by decide) (by omega) (fun c26 => ?_) (fun c26 => ?_)
    · refine x_lv (lv' := [(2, .int (nI (tot (iS (st ++ [p])) + 0))), (1, .int (nI (tot (iS (st ++ [p]))))), (0, .ref h)]) (Or.inr (List.forall_mem_cons.mpr ⟨rfl, List.forall_mem_cons.mpr ⟨rfl, List.forall_mem_cons.mpr ⟨rfl, fun _ h9 => absurd h9 List.not_mem_nil⟩⟩⟩)) ?_
      refine x_aload_n C d_M_not_52 rfl rfl ?_
      refine x_iconst (v := (nI (2))) C d_M_not_53 (by decide) ?_
      refine x_iload_n C d_M_not_54 rfl rfl ?_
      refine x_iload_n C d_M_not_55 rfl rfl ?_
      refine x_aload_n C d_M_not_56 rfl rfl ?_
      refine x_get C d_M_not_57 0 rfl rfl i_M 4 (by decide) lk_M_22 rfl rfl ?_
      refine x_aload_n C d_M_not_60 rfl rfl ?_
      refine x_get C d_M_not_61 0 rfl rfl i_M 5 (by decide) lk_M_54 rfl rfl ?_
      refine x_iconst (v := (nI (1))) C d_M_not_64 (by decide) ?_
      refine x_isubN C d_M_not_65 (by omega) ?_
      refine x_top (y := (nI (st.length))) (by congr 1) ?_
      refine x_iald C d_M_not_66 4 rfl (by omega) (by omega) ?_
      refine x_top (y := (nI (off (iS (st ++ [p])) st.length))) hb0 ?_
      refine x_iload_n C d_M_not_67 rfl rfl ?_
      refine x_top (y := (nI (off (iS (st ++ [p])) st.length + 2 * p.2.length))) (by rw [ht9]) ?_
      refine x_iload_n C d_M_not_68 rfl rfl ?_
      refine x_callVI (wr := []) (rest := []) C (c_M_layJoined (op := 2) (a1 := tot (iS (st ++ [p]))) (a2 := off (iS (st ++ [p])) st.length) (a3 := tot (iS (st ++ [p])) + 0) (J1 := []) (J2 := p.2) (f1 := fun r => decide (r < bnd en rn)) (f2 := p.1) hE hn (no_rows (by omega)) hs0.1 (seg_nil _ _) hs0.2.1 (by simp) (by omega) (by omega) (by omega)) d_M_not_69 cd_M_layJoined lk_M_83 dd_M_layJoined rfl ⟨Nat.le_of_ble_eq_true rfl, Nat.le_of_ble_eq_true rfl⟩ ⟨Nat.le_refl _, Nat.le_refl _⟩ 2 0 rfl rfl [0, 1, 2, 3, 4] [] rfl rfl (by decide) (by decide) (by decide) rfl (Nat.le_of_ble_eq_true rfl) ?_
      intro r_ u69 hp_
      obtain ⟨rfl, hI, hsg, hlo⟩ := hp_
      rw [f3_not hn] at hI
      refine x_istore_n (lv' := [(3, .int (nI (tot (iS (st ++ [p])) + 0 + 2 * u69.2.length))), (2, .int (nI (tot (iS (st ++ [p])) + 0))), (1, .int (nI (tot (iS (st ++ [p]))))), (0, .ref h)]) C d_M_not_72 rfl (by decide) rfl ?_
      refine x_iload_n C d_M_not_73 rfl rfl ?_
      refine x_istore (lv' := [(4, .int (nI (tot (iS (st ++ [p])) + 0))), (3, .int (nI (tot (iS (st ++ [p])) + 0 + 2 * u69.2.length))), (2, .int (nI (tot (iS (st ++ [p])) + 0))), (1, .int (nI (tot (iS (st ++ [p]))))), (0, .ref h)]) C d_M_not_74 (by decide) rfl ?_
      refine x_lv (lv' := [(4, .int (nI (tot (iS (st ++ [p])) + 0))), (3, .int (nI (tot (iS (st ++ [p])) + 0 + 2 * u69.2.length))), (2, .int (nI (tot (iS (st ++ [p])) + 0))), (1, .int (nI (tot (iS (st ++ [p]))))), (0, .ref h)]) (Or.inr (List.forall_mem_cons.mpr ⟨rfl, List.forall_mem_cons.mpr ⟨rfl, List.forall_mem_cons.mpr ⟨rfl, List.forall_mem_cons.mpr ⟨rfl, List.forall_mem_cons.mpr ⟨rfl, fun _ h9 => absurd h9 List.not_mem_nil⟩⟩⟩⟩⟩)) ?_
      exact LP 0 u69.2 u69.1 (by omega) hI hsg (fun x hx => hlo x (by omega)) (2 * u69.2.length) _ 0 u69.1 (by omega) rfl (fun x hx => hlo x (by omega)) (fun z hz => absurd hz (Nat.not_lt_zero z)) (fun _ _ => rfl)
    · refine x_aload_n C d_M_not_29 rfl rfl ?_
      refine x_get C d_M_not_30 0 rfl rfl i_M 3 (by decide) lk_M_19 rfl rfl ?_
      refine x_iload_n C d_M_not_33 rfl rfl ?_
      refine x_iconst (v := (nI (0))) C d_M_not_34 (by decide) ?_
      refine x_iast (ws' := [(h, .inr (2, [.ref e0, .ref v0, .int (nI rn), .ref l0, .ref b0, .int (nI (st.length + 1)), .int pl, .int sn, .int wa, .int wf])), (e0, .inl (cA, 33000, .inl (E))), (v0, .inl (cA, 66000, .inl (V))), (l0, .inl (cA, 200000, .inl (upd L (tot (iS (st ++ [p]))) (nI (0))))), (b0, .inl (cA, 15, .inl (B)))]) C d_M_not_35 3 rfl (by omega) (by omega) rfl ?_
      refine x_aload_n C d_M_not_36 rfl rfl ?_
      refine x_get C d_M_not_37 0 rfl rfl i_M 3 (by decide) lk_M_19 rfl rfl ?_
      refine x_iload_n C d_M_not_40 rfl rfl ?_
      refine x_iconst (v := (nI (1))) C d_M_not_41 (by decide) ?_
      refine x_iaddN C d_M_not_42  ?_
      refine x_aload_n C d_M_not_43 rfl rfl ?_
      refine x_callVI (wr := []) (rest := [.int (nI ((tot (iS (st ++ [p]))) + 1)), .ref l0]) C (c_M_rows hE) d_M_not_44 cd_M_rows lk_M_41 dd_M_rows rfl ⟨Nat.le_of_ble_eq_true rfl, Nat.le_of_ble_eq_true rfl⟩ ⟨Nat.le_refl _, Nat.le_refl _⟩ 2 0 rfl rfl [0, 1, 2, 3, 4] [] rfl rfl (by decide) (by decide) (by decide) rfl (Nat.le_of_ble_eq_true rfl) ?_
      intro r_ u_ hp_
      obtain rfl := hp_
      refine x_top (y := (nI (n))) (by rw [hn]) ?_
      refine x_iast (ws' := [(h, .inr (2, [.ref e0, .ref v0, .int (nI rn), .ref l0, .ref b0, .int (nI (st.length + 1)), .int pl, .int sn, .int wa, .int wf])), (e0, .inl (cA, 33000, .inl (E))), (v0, .inl (cA, 66000, .inl (V))), (l0, .inl (cA, 200000, .inl (upd (upd L (tot (iS (st ++ [p]))) (nI (0))) ((tot (iS (st ++ [p]))) + 1) (nI (n))))), (b0, .inl (cA, 15, .inl (B)))]) C d_M_not_47 3 rfl (by omega) (by omega) rfl ?_
      refine x_iload_n C d_M_not_48 rfl rfl ?_
      refine x_iconst (v := (nI (2))) C d_M_not_49 (by decide) ?_
      refine x_iaddN C d_M_not_50  ?_
      refine x_istore_n (lv' := [(2, .int (nI ((tot (iS (st ++ [p]))) + 2))), (1, .int (nI (tot (iS (st ++ [p]))))), (0, .ref h)]) C d_M_not_51 rfl (by decide) rfl ?_
      refine x_aload_n C d_M_not_52 rfl rfl ?_
      refine x_iconst (v := (nI (2))) C d_M_not_53 (by decide) ?_
      refine x_iload_n C d_M_not_54 rfl rfl ?_
      refine x_iload_n C d_M_not_55 rfl rfl ?_
      refine x_aload_n C d_M_not_56 rfl rfl ?_
      refine x_get C d_M_not_57 0 rfl rfl i_M 4 (by decide) lk_M_22 rfl rfl ?_
      refine x_aload_n C d_M_not_60 rfl rfl ?_
      refine x_get C d_M_not_61 0 rfl rfl i_M 5 (by decide) lk_M_54 rfl rfl ?_
      refine x_iconst (v := (nI (1))) C d_M_not_64 (by decide) ?_
      refine x_isubN C d_M_not_65 (by omega) ?_
      refine x_top (y := (nI (st.length))) (by congr 1) ?_
      refine x_iald C d_M_not_66 4 rfl (by omega) (by omega) ?_
      refine x_top (y := (nI (off (iS (st ++ [p])) st.length))) hb0 ?_
      refine x_iload_n C d_M_not_67 rfl rfl ?_
      refine x_top (y := (nI (off (iS (st ++ [p])) st.length + 2 * p.2.length))) (by rw [ht9]) ?_
      refine x_iload_n C d_M_not_68 rfl rfl ?_
      refine x_callVI (wr := []) (rest := []) C (c_M_layJoined (op := 2) (a1 := tot (iS (st ++ [p]))) (a2 := off (iS (st ++ [p])) st.length) (a3 := tot (iS (st ++ [p])) + 2) (J1 := [(0, bnd en rn)]) (J2 := p.2) (f1 := fun r => decide (r < bnd en rn)) (f2 := p.1) hE hn (all_rows hE (by omega)) hs0.1 (seg_one (by rw [pk_un (by omega), pk_us]) (by rw [pk_us, hn])) (seg_keep hs0.2.1 (b := tot (iS (st ++ [p]))) (fun x hx => by rw [pk_un (by omega), pk_un (by omega)]) (by omega)) (by simp) (by omega) (by omega) (by omega)) d_M_not_69 cd_M_layJoined lk_M_83 dd_M_layJoined rfl ⟨Nat.le_of_ble_eq_true rfl, Nat.le_of_ble_eq_true rfl⟩ ⟨Nat.le_refl _, Nat.le_refl _⟩ 2 0 rfl rfl [0, 1, 2, 3, 4] [] rfl rfl (by decide) (by decide) (by decide) rfl (Nat.le_of_ble_eq_true rfl) ?_
      intro r_ u69 hp_
      obtain ⟨rfl, hI, hsg, hlo⟩ := hp_
      rw [f3_not hn] at hI
      refine x_istore_n (lv' := [(3, .int (nI (tot (iS (st ++ [p])) + 2 + 2 * u69.2.length))), (2, .int (nI ((tot (iS (st ++ [p]))) + 2))), (1, .int (nI (tot (iS (st ++ [p]))))), (0, .ref h)]) C d_M_not_72 rfl (by decide) rfl ?_
      refine x_iload_n C d_M_not_73 rfl rfl ?_
      refine x_istore (lv' := [(4, .int (nI ((tot (iS (st ++ [p]))) + 2))), (3, .int (nI (tot (iS (st ++ [p])) + 2 + 2 * u69.2.length))), (2, .int (nI ((tot (iS (st ++ [p]))) + 2))), (1, .int (nI (tot (iS (st ++ [p]))))), (0, .ref h)]) C d_M_not_74 (by decide) rfl ?_
      refine x_lv (lv' := [(4, .int (nI ((tot (iS (st ++ [p]))) + 2))), (3, .int (nI (tot (iS (st ++ [p])) + 2 + 2 * u69.2.length))), (2, .int (nI ((tot (iS (st ++ [p]))) + 2))), (1, .int (nI (tot (iS (st ++ [p]))))), (0, .ref h)]) (Or.inr (List.forall_mem_cons.mpr ⟨rfl, List.forall_mem_cons.mpr ⟨rfl, List.forall_mem_cons.mpr ⟨rfl, List.forall_mem_cons.mpr ⟨rfl, List.forall_mem_cons.mpr ⟨rfl, fun _ h9 => absurd h9 List.not_mem_nil⟩⟩⟩⟩⟩)) ?_
      exact LP 2 u69.2 u69.1 (by omega) hI hsg (fun x hx => by rw [hlo x (by omega), pk_un (by omega), pk_un (by omega)]) (2 * u69.2.length) _ 0 u69.1 (by omega) rfl (fun x hx => by rw [hlo x (by omega), pk_un (by omega), pk_un (by omega)]) (fun z hz => absurd hz (Nat.not_lt_zero z)) (fun _ _ => rfl)
  · exact absurd c4 (by omega)
set_option maxHeartbeats 4000000 in
theorem c_M_not_full {l : Launch} {D : va_G} {cA : ClassId} {h e0 v0 l0 b0 rn ns : Nat} {E V L B : Nat → Int32} {pl sn wa wf : Int32} {en : Nat → Nat} {vl : Nat → Nat → Nat} (hE : Rn E V rn en vl) {n : Nat} {st : List ((Nat → Bool) × List (Nat × Nat))} {p : (Nat → Bool) × List (Nat × Nat)} (hn : bnd en rn = n) (hO : Ok en rn (st ++ [p])) (hL : Hs 200000 15 L B (iS (st ++ [p]))) (hns : st.length + 1 = ns) (h13 : st.length + 1 ≤ 12) (hno : 3000 < tot (kT n st) + (wI n (fnot p.1 n)).length)  : CtI l D cA y_M_not b_M_not 5 (some .int) ({ frames := 4, cells := 0, slots := 0, locals := 102 } : Room) [.ref h] (mW cA h e0 v0 l0 b0 E V L B rn ns pl sn wa wf) (fun r (u : ((Nat → Int32) × (Int32 × Int32 × Int32 × Int32))) => r = -3 ∧ Hs 200000 15 u.1 B (iS (st ++ [p]))) (fun u => (mW cA h e0 v0 l0 b0 E V (u.1) B rn ns (u.2.1) (u.2.2.1) (u.2.2.2.1) (u.2.2.2.2))) := by
  subst hns
  refine CtI.start (lv0 := [(0, .ref h)]) (by decide) rfl (Nat.le_of_ble_eq_true rfl) ?_
  intro p_ e_ s_ m_ args_ below_ meth_ c_ A_ C hr hin
  have hnm := hL.nums
  have hil := iS_len (st ++ [p])
  have hil2 : (st ++ [p]).length = st.length + 1 := by rw [List.length_append, List.length_singleton]
  rw [List.length_append, List.length_singleton] at hil
  rw [hil] at hnm
  have hsp : (st ++ [p])[st.length]? = some p := by simp
  have hs0 := set_in hO hL hsp
  have htt : off (iS (st ++ [p])) (st.length + 1) = tot (iS (st ++ [p])) := by rw [← hil]; exact off_len _
  have ht9 := hs0.2.2.1
  rw [htt] at ht9
  have hbt : B (st.length + 1) = nI (tot (iS (st ++ [p]))) := by rw [hL.bd (by omega), htt]
  have hb0 : B st.length = nI (off (iS (st ++ [p])) st.length) := hL.bd (by omega)
  have hn2 : n ≤ 1000000 := by rw [← hn]; exact bnd_le hE rn (Nat.le_refl _)
  have hr0 := hE.1
  have hJl := hs0.1.2.2.1
  have hsm := iS_small hE hO (by omega)
  have LP : ∀ (dl : Nat) (J : List (Nat × Nat)) (L0 : Nat → Int32), dl ≤ 2 → Ik en rn (fnot p.1 n) J → seg L0 (tot (iS (st ++ [p])) + dl) J → (∀ x, x < tot (iS (st ++ [p])) → L0 x = L x) → ∀ (d k y : Nat) (La : Nat → Int32), y + d = 2 * J.length → k = tot (iS (st ++ [p])) + dl + y → (∀ x, x < tot (iS (st ++ [p])) → La x = L x) → (∀ z, z < y → La (tot (iS (st ++ [p])) + z) = L0 (tot (iS (st ++ [p])) + dl + z)) → (∀ z, y ≤ z → La (tot (iS (st ++ [p])) + dl + z) = L0 (tot (iS (st ++ [p])) + dl + z)) → X p_ l e_ ({ frames := 4, cells := 0, slots := 0, locals := 102 } : Room) s_ m_ args_ below_ meth_ c_ D A_ 5 0 0 (MQ below_ (va_Qi (fun r (u : ((Nat → Int32) × (Int32 × Int32 × Int32 × Int32))) => r = -3 ∧ Hs 200000 15 u.1 B (iS (st ++ [p]))) (Bw D A_ (fun u => (mW cA h e0 v0 l0 b0 E V (u.1) B rn (st.length + 1) (u.2.1) (u.2.2.1) (u.2.2.2.1) (u.2.2.2.2)))) A_) args_ s_ 0 0 A_) [(h, .inr (2, [.ref e0, .ref v0, .int (nI rn), .ref l0, .ref b0, .int (nI (st.length + 1)), .int pl, .int sn, .int wa, .int wf])), (e0, .inl (cA, 33000, .inl (E))), (v0, .inl (cA, 66000, .inl (V))), (l0, .inl (cA, 200000, .inl (La))), (b0, .inl (cA, 15, .inl (B)))] 76 [(4, .int (nI k)), (3, .int (nI (tot (iS (st ++ [p])) + dl + 2 * J.length))), (2, .int (nI (tot (iS (st ++ [p])) + dl))), (1, .int (nI (tot (iS (st ++ [p]))))), (0, .ref h)] [] := by
    intro dl J L0 hdl hI hsg hlo d
    have hJ9 := hI.2.2.1
    induction d with
    | zero =>
      intro k y La hy hk g1 g2 g3
      have hL3 : Hs 200000 15 La B (iS (st ++ [p])) := hL.scratch g1
      have hsg3 : seg La (tot (iS (st ++ [p]))) J := by
        intro i q hq
        have b1 := hsg i q hq
        have b2 : i < J.length := (List.getElem?_eq_some_iff.mp hq).1
        rw [Nat.add_assoc (tot (iS (st ++ [p]))), g2 (2 * i) (by omega), g2 (2 * i + 1) (by omega)]
        exact b1
      refine x_iload C d_M_not_76 rfl ?_
      refine x_iload_n C d_M_not_78 rfl rfl ?_
      refine x_icmp_geN (tgt := 106) C d_M_not_79 (by decide) (by omega) (by omega) (fun c79 => ?_) (fun c79 => ?_)
      · refine x_aload_n C d_M_not_106 rfl rfl ?_
        refine x_iconst (v := (nI (1))) C d_M_not_107 (by decide) ?_
        refine x_iload_n C d_M_not_108 rfl rfl ?_
        refine x_iload_n C d_M_not_109 rfl rfl ?_
        refine x_iaddN C d_M_not_110  ?_
        refine x_iload_n C d_M_not_111 rfl rfl ?_
        refine x_isubN C d_M_not_112 (by omega) ?_
        refine x_top (y := (nI (tot (iS (st ++ [p])) + 2 * J.length))) (by congr 1; omega) ?_
        refine x_callVI (wr := []) (rest := []) C (c_M_become_full (la := 1) (m := st.length) hE hn hO hL3 hil2 hI hsg3 (by omega) (by omega) (by omega) (by rw [take_app1]; exact hno)) d_M_not_113 cd_M_become lk_M_87 dd_M_become rfl ⟨Nat.le_of_ble_eq_true rfl, Nat.le_of_ble_eq_true rfl⟩ ⟨Nat.le_refl _, Nat.le_refl _⟩ 2 0 rfl rfl [0, 1, 2, 3, 4] [] rfl rfl (by decide) (by decide) (by decide) rfl (Nat.le_of_ble_eq_true rfl) ?_
        intro r_ u82 hp_
        obtain rfl := hp_
        refine x_if_eqN (tgt := 126) C d_M_not_116 (by decide) (by omega) (fun c116 => ?_) (fun c116 => ?_)
        · refine x_bipush (v := ((-3))) C d_M_not_126 (by decide) ?_
          exact x_iret C hr d_M_not_128 (La, ((u82.1), (u82.2.1), (u82.2.2.1), (u82.2.2.2))) rfl (⟨rfl, hL3⟩)
        · exact absurd c116 (by omega)
      · exact absurd c79 (by omega)
    | succ d ih =>
      intro k y La hy hk g1 g2 g3
      refine x_iload C d_M_not_76 rfl ?_
      refine x_iload_n C d_M_not_78 rfl rfl ?_
      refine x_icmp_geN (tgt := 106) C d_M_not_79 (by decide) (by omega) (by omega) (fun c79 => ?_) (fun c79 => ?_)
      · exact absurd c79 (by omega)
      · refine x_aload_n C d_M_not_82 rfl rfl ?_
        refine x_get C d_M_not_83 0 rfl rfl i_M 3 (by decide) lk_M_19 rfl rfl ?_
        refine x_iload_n C d_M_not_86 rfl rfl ?_
        refine x_iload C d_M_not_87 rfl ?_
        refine x_iaddN C d_M_not_89  ?_
        refine x_iload_n C d_M_not_90 rfl rfl ?_
        refine x_isubN C d_M_not_91 (by omega) ?_
        refine x_top (y := (nI (tot (iS (st ++ [p])) + y))) (by congr 1; omega) ?_
        refine x_aload_n C d_M_not_92 rfl rfl ?_
        refine x_get C d_M_not_93 0 rfl rfl i_M 3 (by decide) lk_M_19 rfl rfl ?_
        refine x_iload C d_M_not_96 rfl ?_
        refine x_iald C d_M_not_98 3 rfl (by omega) (by omega) ?_
        refine x_top (y := (L0 (tot (iS (st ++ [p])) + dl + y))) (by rw [hk]; exact g3 y (Nat.le_refl _)) ?_
        refine x_iast (ws' := [(h, .inr (2, [.ref e0, .ref v0, .int (nI rn), .ref l0, .ref b0, .int (nI (st.length + 1)), .int pl, .int sn, .int wa, .int wf])), (e0, .inl (cA, 33000, .inl (E))), (v0, .inl (cA, 66000, .inl (V))), (l0, .inl (cA, 200000, .inl (upd La (tot (iS (st ++ [p])) + y) (L0 (tot (iS (st ++ [p])) + dl + y))))), (b0, .inl (cA, 15, .inl (B)))]) C d_M_not_99 3 rfl (by omega) (by omega) rfl ?_
        refine x_iincN (lv' := [(4, .int (nI (k + 1))), (3, .int (nI (tot (iS (st ++ [p])) + dl + 2 * J.length))), (2, .int (nI (tot (iS (st ++ [p])) + dl))), (1, .int (nI (tot (iS (st ++ [p]))))), (0, .ref h)]) C d_M_not_100 rfl (by decide) rfl ?_
        refine x_goto (tgt := 76) C d_M_not_103 (by decide) ?_
        refine x_lv (lv' := [(4, .int (nI (k + 1))), (3, .int (nI (tot (iS (st ++ [p])) + dl + 2 * J.length))), (2, .int (nI (tot (iS (st ++ [p])) + dl))), (1, .int (nI (tot (iS (st ++ [p]))))), (0, .ref h)]) (Or.inr (List.forall_mem_cons.mpr ⟨rfl, List.forall_mem_cons.mpr ⟨rfl, List.forall_mem_cons.mpr ⟨rfl, List.forall_mem_cons.mpr ⟨rfl, List.forall_mem_cons.mpr ⟨rfl, fun _ h9 => absurd h9 List.not_mem_nil⟩⟩⟩⟩⟩)) ?_
        exact ih (k + 1) (y + 1) _ (by omega) (by omega) (fun x hx => by rw [pk_un (by omega)]; exact g1 x hx) (fun z hz => by
          by_cases h9 : z = y
          · subst h9
            rw [pk_us]
          · rw [pk_un (by omega)]
            exact g2 z (by omega)) (fun z hz => by rw [pk_un (by omega)]; exact g3 z (by omega))
  refine x_aload_n C d_M_not_0 rfl rfl ?_
  refine x_get C d_M_not_1 0 rfl rfl i_M 5 (by decide) lk_M_54 rfl rfl ?_
  refine x_if_neN (tgt := 10) C d_M_not_4 (by decide) (by omega) (fun c4 => ?_) (fun c4 => ?_)
  · refine x_aload_n C d_M_not_10 rfl rfl ?_
    refine x_get C d_M_not_11 0 rfl rfl i_M 4 (by decide) lk_M_22 rfl rfl ?_
    refine x_aload_n C d_M_not_14 rfl rfl ?_
    refine x_get C d_M_not_15 0 rfl rfl i_M 5 (by decide) lk_M_54 rfl rfl ?_
    refine x_iald C d_M_not_18 4 rfl (by omega) (by omega) ?_
    refine x_top (y := (nI (tot (iS (st ++ [p]))))) hbt ?_
    refine x_istore_n (lv' := [(1, .int (nI (tot (iS (st ++ [p]))))), (0, .ref h)]) C d_M_not_19 rfl (by decide) rfl ?_
    refine x_iload_n C d_M_not_20 rfl rfl ?_
    refine x_istore_n (lv' := [(2, .int (nI (tot (iS (st ++ [p]))))), (1, .int (nI (tot (iS (st ++ [p]))))), (0, .ref h)]) C d_M_not_21 rfl (by decide) rfl ?_
    refine x_aload_n C d_M_not_22 rfl rfl ?_
    refine x_callVI (wr := []) (rest := []) C (c_M_rows hE) d_M_not_23 cd_M_rows lk_M_41 dd_M_rows rfl ⟨Nat.le_of_ble_eq_true rfl, Nat.le_of_ble_eq_true rfl⟩ ⟨Nat.le_refl _, Nat.le_refl _⟩ 2 0 rfl rfl [0, 1, 2, 3, 4] [] rfl rfl (by decide) (by decide) (by decide) rfl (Nat.le_of_ble_eq_true rfl) ?_
    intro r_ u_ hp_
    obtain rfl := hp_
    refine x_top (y := (nI (n))) (by rw [hn]) ?_
    refine x_if_leN (tgt := 52) C d_M_not_26 (by decide) (by omega) (fun c26 => ?_) (fun c26 => ?_)
    · refine x_lv (lv' := [(2, .int (nI (tot (iS (st ++ [p])) + 0))), (1, .int (nI (tot (iS (st ++ [p]))))), (0, .ref h)]) (Or.inr (List.forall_mem_cons.mpr ⟨rfl, List.forall_mem_cons.mpr ⟨rfl, List.forall_mem_cons.mpr ⟨rfl, fun _ h9 => absurd h9 List.not_mem_nil⟩⟩⟩)) ?_
      refine x_aload_n C d_M_not_52 rfl rfl ?_
      refine x_iconst (v := (nI (2))) C d_M_not_53 (by decide) ?_
      refine x_iload_n C d_M_not_54 rfl rfl ?_
      refine x_iload_n C d_M_not_55 rfl rfl ?_
      refine x_aload_n C d_M_not_56 rfl rfl ?_
      refine x_get C d_M_not_57 0 rfl rfl i_M 4 (by decide) lk_M_22 rfl rfl ?_
      refine x_aload_n C d_M_not_60 rfl rfl ?_
      refine x_get C d_M_not_61 0 rfl rfl i_M 5 (by decide) lk_M_54 rfl rfl ?_
      refine x_iconst (v := (nI (1))) C d_M_not_64 (by decide) ?_
      refine x_isubN C d_M_not_65 (by omega) ?_
      refine x_top (y := (nI (st.length))) (by congr 1) ?_
      refine x_iald C d_M_not_66 4 rfl (by omega) (by omega) ?_
      refine x_top (y := (nI (off (iS (st ++ [p])) st.length))) hb0 ?_
      refine x_iload_n C d_M_not_67 rfl rfl ?_
      refine x_top (y := (nI (off (iS (st ++ [p])) st.length + 2 * p.2.length))) (by rw [ht9]) ?_
      refine x_iload_n C d_M_not_68 rfl rfl ?_
      refine x_callVI (wr := []) (rest := []) C (c_M_layJoined (op := 2) (a1 := tot (iS (st ++ [p]))) (a2 := off (iS (st ++ [p])) st.length) (a3 := tot (iS (st ++ [p])) + 0) (J1 := []) (J2 := p.2) (f1 := fun r => decide (r < bnd en rn)) (f2 := p.1) hE hn (no_rows (by omega)) hs0.1 (seg_nil _ _) hs0.2.1 (by simp) (by omega) (by omega) (by omega)) d_M_not_69 cd_M_layJoined lk_M_83 dd_M_layJoined rfl ⟨Nat.le_of_ble_eq_true rfl, Nat.le_of_ble_eq_true rfl⟩ ⟨Nat.le_refl _, Nat.le_refl _⟩ 2 0 rfl rfl [0, 1, 2, 3, 4] [] rfl rfl (by decide) (by decide) (by decide) rfl (Nat.le_of_ble_eq_true rfl) ?_
      intro r_ u69 hp_
      obtain ⟨rfl, hI, hsg, hlo⟩ := hp_
      rw [f3_not hn] at hI
      refine x_istore_n (lv' := [(3, .int (nI (tot (iS (st ++ [p])) + 0 + 2 * u69.2.length))), (2, .int (nI (tot (iS (st ++ [p])) + 0))), (1, .int (nI (tot (iS (st ++ [p]))))), (0, .ref h)]) C d_M_not_72 rfl (by decide) rfl ?_
      refine x_iload_n C d_M_not_73 rfl rfl ?_
      refine x_istore (lv' := [(4, .int (nI (tot (iS (st ++ [p])) + 0))), (3, .int (nI (tot (iS (st ++ [p])) + 0 + 2 * u69.2.length))), (2, .int (nI (tot (iS (st ++ [p])) + 0))), (1, .int (nI (tot (iS (st ++ [p]))))), (0, .ref h)]) C d_M_not_74 (by decide) rfl ?_
      refine x_lv (lv' := [(4, .int (nI (tot (iS (st ++ [p])) + 0))), (3, .int (nI (tot (iS (st ++ [p])) + 0 + 2 * u69.2.length))), (2, .int (nI (tot (iS (st ++ [p])) + 0))), (1, .int (nI (tot (iS (st ++ [p]))))), (0, .ref h)]) (Or.inr (List.forall_mem_cons.mpr ⟨rfl, List.forall_mem_cons.mpr ⟨rfl, List.forall_mem_cons.mpr ⟨rfl, List.forall_mem_cons.mpr ⟨rfl, List.forall_mem_cons.mpr ⟨rfl, fun _ h9 => absurd h9 List.not_mem_nil⟩⟩⟩⟩⟩)) ?_
      exact LP 0 u69.2 u69.1 (by omega) hI hsg (fun x hx => hlo x (by omega)) (2 * u69.2.length) _ 0 u69.1 (by omega) rfl (fun x hx => hlo x (by omega)) (fun z hz => absurd hz (Nat.not_lt_zero z)) (fun _ _ => rfl)
    · refine x_aload_n C d_M_not_29 rfl rfl ?_
      refine x_get C d_M_not_30 0 rfl rfl i_M 3 (by decide) lk_M_19 rfl rfl ?_
      refine x_iload_n C d_M_not_33 rfl rfl ?_
      refine x_iconst (v := (nI (0))) C d_M_not_34 (by decide) ?_
      refine x_iast (ws' := [(h, .inr (2, [.ref e0, .ref v0, .int (nI rn), .ref l0, .ref b0, .int (nI (st.length + 1)), .int pl, .int sn, .int wa, .int wf])), (e0, .inl (cA, 33000, .inl (E))), (v0, .inl (cA, 66000, .inl (V))), (l0, .inl (cA, 200000, .inl (upd L (tot (iS (st ++ [p]))) (nI (0))))), (b0, .inl (cA, 15, .inl (B)))]) C d_M_not_35 3 rfl (by omega) (by omega) rfl ?_
      refine x_aload_n C d_M_not_36 rfl rfl ?_
      refine x_get C d_M_not_37 0 rfl rfl i_M 3 (by decide) lk_M_19 rfl rfl ?_
      refine x_iload_n C d_M_not_40 rfl rfl ?_
      refine x_iconst (v := (nI (1))) C d_M_not_41 (by decide) ?_
      refine x_iaddN C d_M_not_42  ?_
      refine x_aload_n C d_M_not_43 rfl rfl ?_
      refine x_callVI (wr := []) (rest := [.int (nI ((tot (iS (st ++ [p]))) + 1)), .ref l0]) C (c_M_rows hE) d_M_not_44 cd_M_rows lk_M_41 dd_M_rows rfl ⟨Nat.le_of_ble_eq_true rfl, Nat.le_of_ble_eq_true rfl⟩ ⟨Nat.le_refl _, Nat.le_refl _⟩ 2 0 rfl rfl [0, 1, 2, 3, 4] [] rfl rfl (by decide) (by decide) (by decide) rfl (Nat.le_of_ble_eq_true rfl) ?_
      intro r_ u_ hp_
      obtain rfl := hp_
      refine x_top (y := (nI (n))) (by rw [hn]) ?_
      refine x_iast (ws' := [(h, .inr (2, [.ref e0, .ref v0, .int (nI rn), .ref l0, .ref b0, .int (nI (st.length + 1)), .int pl, .int sn, .int wa, .int wf])), (e0, .inl (cA, 33000, .inl (E))), (v0, .inl (cA, 66000, .inl (V))), (l0, .inl (cA, 200000, .inl (upd (upd L (tot (iS (st ++ [p]))) (nI (0))) ((tot (iS (st ++ [p]))) + 1) (nI (n))))), (b0, .inl (cA, 15, .inl (B)))]) C d_M_not_47 3 rfl (by omega) (by omega) rfl ?_
      refine x_iload_n C d_M_not_48 rfl rfl ?_
      refine x_iconst (v := (nI (2))) C d_M_not_49 (by decide) ?_
      refine x_iaddN C d_M_not_50  ?_
      refine x_istore_n (lv' := [(2, .int (nI ((tot (iS (st ++ [p]))) + 2))), (1, .int (nI (tot (iS (st ++ [p]))))), (0, .ref h)]) C d_M_not_51 rfl (by decide) rfl ?_
      refine x_aload_n C d_M_not_52 rfl rfl ?_
      refine x_iconst (v := (nI (2))) C d_M_not_53 (by decide) ?_
      refine x_iload_n C d_M_not_54 rfl rfl ?_
      refine x_iload_n C d_M_not_55 rfl rfl ?_
      refine x_aload_n C d_M_not_56 rfl rfl ?_
      refine x_get C d_M_not_57 0 rfl rfl i_M 4 (by decide) lk_M_22 rfl rfl ?_
      refine x_aload_n C d_M_not_60 rfl rfl ?_
      refine x_get C d_M_not_61 0 rfl rfl i_M 5 (by decide) lk_M_54 rfl rfl ?_
      refine x_iconst (v := (nI (1))) C d_M_not_64 (by decide) ?_
      refine x_isubN C d_M_not_65 (by omega) ?_
      refine x_top (y := (nI (st.length))) (by congr 1) ?_
      refine x_iald C d_M_not_66 4 rfl (by omega) (by omega) ?_
      refine x_top (y := (nI (off (iS (st ++ [p])) st.length))) hb0 ?_
      refine x_iload_n C d_M_not_67 rfl rfl ?_
      refine x_top (y := (nI (off (iS (st ++ [p])) st.length + 2 * p.2.length))) (by rw [ht9]) ?_
      refine x_iload_n C d_M_not_68 rfl rfl ?_
      refine x_callVI (wr := []) (rest := []) C (c_M_layJoined (op := 2) (a1 := tot (iS (st ++ [p]))) (a2 := off (iS (st ++ [p])) st.length) (a3 := tot (iS (st ++ [p])) + 2) (J1 := [(0, bnd en rn)]) (J2 := p.2) (f1 := fun r => decide (r < bnd en rn)) (f2 := p.1) hE hn (all_rows hE (by omega)) hs0.1 (seg_one (by rw [pk_un (by omega), pk_us]) (by rw [pk_us, hn])) (seg_keep hs0.2.1 (b := tot (iS (st ++ [p]))) (fun x hx => by rw [pk_un (by omega), pk_un (by omega)]) (by omega)) (by simp) (by omega) (by omega) (by omega)) d_M_not_69 cd_M_layJoined lk_M_83 dd_M_layJoined rfl ⟨Nat.le_of_ble_eq_true rfl, Nat.le_of_ble_eq_true rfl⟩ ⟨Nat.le_refl _, Nat.le_refl _⟩ 2 0 rfl rfl [0, 1, 2, 3, 4] [] rfl rfl (by decide) (by decide) (by decide) rfl (Nat.le_of_ble_eq_true rfl) ?_
      intro r_ u69 hp_
      obtain ⟨rfl, hI, hsg, hlo⟩ := hp_
      rw [f3_not hn] at hI
      refine x_istore_n (lv' := [(3, .int (nI (tot (iS (st ++ [p])) + 2 + 2 * u69.2.length))), (2, .int (nI ((tot (iS (st ++ [p]))) + 2))), (1, .int (nI (tot (iS (st ++ [p]))))), (0, .ref h)]) C d_M_not_72 rfl (by decide) rfl ?_
      refine x_iload_n C d_M_not_73 rfl rfl ?_
      refine x_istore (lv' := [(4, .int (nI ((tot (iS (st ++ [p]))) + 2))), (3, .int (nI (tot (iS (st ++ [p])) + 2 + 2 * u69.2.length))), (2, .int (nI ((tot (iS (st ++ [p]))) + 2))), (1, .int (nI (tot (iS (st ++ [p]))))), (0, .ref h)]) C d_M_not_74 (by decide) rfl ?_
      refine x_lv (lv' := [(4, .int (nI ((tot (iS (st ++ [p]))) + 2))), (3, .int (nI (tot (iS (st ++ [p])) + 2 + 2 * u69.2.length))), (2, .int (nI ((tot (iS (st ++ [p]))) + 2))), (1, .int (nI (tot (iS (st ++ [p]))))), (0, .ref h)]) (Or.inr (List.forall_mem_cons.mpr ⟨rfl, List.forall_mem_cons.mpr ⟨rfl, List.forall_mem_cons.mpr ⟨rfl, List.forall_mem_cons.mpr ⟨rfl, List.forall_mem_cons.mpr ⟨rfl, fun _ h9 => absurd h9 List.not_mem_nil⟩⟩⟩⟩⟩)) ?_
      exact LP 2 u69.2 u69.1 (by omega) hI hsg (fun x hx => by rw [hlo x (by omega), pk_un (by omega), pk_un (by omega)]) (2 * u69.2.length) _ 0 u69.1 (by omega) rfl (fun x hx => by rw [hlo x (by omega), pk_un (by omega), pk_un (by omega)]) (fun z hz => absurd hz (Nat.not_lt_zero z)) (fun _ _ => rfl)
  · exact absurd c4 (by omega)
