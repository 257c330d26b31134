/-! the reference: copy, become, is -/
theorem Hs.taken {cap mx : Nat} {L Bd : Nat → Int32} : ∀ (k : Nat) {ss : List (List Int32)} {m : Nat}, ss.length = m + k → Hs cap mx L Bd ss → Hs cap mx L Bd (ss.take m)
  | 0, ss, m, h, hH => by rw [List.take_of_length_le (by omega)]; exact hH
  | k + 1, ss, m, h, hH => by
    rcases List.eq_nil_or_concat ss with rfl | ⟨s0, x, rfl⟩
    · simp at h
    · rw [List.concat_eq_append] at *
      rw [List.length_append, List.length_singleton] at h
      have := Hs.taken k (ss := s0) (m := m) (by omega) hH.drop
      rw [List.take_append_of_le_length (by omega)]
      exact this
theorem iS_take (st : List ((Nat → Bool) × List (Nat × Nat))) (m : Nat) : iS (st.take m) = (iS st).take m := by simp [iS, List.map_take]
theorem Ok.taken {en : Nat → Nat} {rn m : Nat} {st : List ((Nat → Bool) × List (Nat × Nat))} (h : Ok en rn st) : Ok en rn (st.take m) := fun p hp => h p (List.mem_of_mem_take hp)
theorem tot_take (ss : List (List Int32)) (m : Nat) : tot (ss.take m) = off ss m := rfl
set_option maxHeartbeats 4000000 in
theorem c_M_copy {l : Launch} {D : va_G} {cA : ClassId} {h e0 v0 l0 b0 rn ns : Nat} {E V L B : Nat → Int32} {pl sn wa wf : Int32} {en : Nat → Nat} {vl : Nat → Nat → Nat} (hE : Rn E V rn en vl) {n : Nat} {st : List ((Nat → Bool) × List (Nat × Nat))} {p : (Nat → Bool) × List (Nat × Nat)} (hn : bnd en rn = n) (hO : Ok en rn (st ++ [p])) (hL : Hs 200000 15 L B (iS (st ++ [p]))) (hns : st.length + 1 = ns) (h12 : st.length + 1 < 12) (hfit : tot (kT n (st ++ [p])) + (wI n p.1).length ≤ 3000)  : CtI l D cA y_M_copy b_M_copy 4 (some .int) ({ frames := 5, cells := 0, slots := 0, locals := 119 } : Room) [.ref h] (mW cA h e0 v0 l0 b0 E V L B rn ns pl sn wa wf) (fun r (u : ((Nat → Int32) × (Nat → Int32) × (Int32 × Int32 × Int32 × Int32))) => r = nI (ns + 1) ∧ Hs 200000 15 u.1 u.2.1 (iS (st ++ [p]) ++ [fl p.2])) (fun u => (mW cA h e0 v0 l0 b0 E V (u.1) (u.2.1) rn (ns + 1) (u.2.2.1) (u.2.2.2.1) (u.2.2.2.2.1) (u.2.2.2.2.2))) := by
  subst hns
  refine CtI.start (lv0 := [(0, .ref h)]) (by decide) rfl (Nat.le_of_ble_eq_true rfl) ?_
  intro p_ e_ s_ m_ args_ below_ meth_ c_ A_ C hr hin
  have hnm := hL.nums
  have hil := iS_len (st ++ [p])
  have hil2 : (st ++ [p]).length = st.length + 1 := by rw [List.length_append, List.length_singleton]
  rw [List.length_append, List.length_singleton] at hil
  rw [hil] at hnm
  have hsp : (st ++ [p])[st.length]? = some p := by simp
  have hs0 := set_in hO hL hsp
  have htt : off (iS (st ++ [p])) (st.length + 1) = tot (iS (st ++ [p])) := by rw [← hil]; exact off_len _
  have hbt : B (st.length + 1) = nI (off (iS (st ++ [p])) st.length + 2 * p.2.length) := by rw [hL.bd (by omega), hs0.2.2.1]
  have hb0 : B st.length = nI (off (iS (st ++ [p])) st.length) := hL.bd (by omega)
  have hiv : Iv n p.1 p.2 := by rw [← hn]; exact hs0.1.iv hE (Nat.le_refl _)
  have hn2 : n ≤ 1000000 := by rw [← hn]; exact bnd_le hE rn (Nat.le_refl _)
  have hr0 := hE.1
  have hJl := hs0.1.2.2.1
  have hsm := iS_small hE hO (by omega)
  have LP : ∀ (d k : Nat) (La : Nat → Int32), k + d = 2 * p.2.length → (∀ x, x < off (iS (st ++ [p])) st.length + 2 * p.2.length → La x = L x) → (∀ y, y < k → La (off (iS (st ++ [p])) st.length + 2 * p.2.length + y) = L (off (iS (st ++ [p])) st.length + y)) → X p_ l e_ ({ frames := 5, cells := 0, slots := 0, locals := 119 } : Room) s_ m_ args_ below_ meth_ c_ D A_ 4 0 0 (MQ below_ (va_Qi (fun r (u : ((Nat → Int32) × (Nat → Int32) × (Int32 × Int32 × Int32 × Int32))) => r = nI (st.length + 1 + 1) ∧ Hs 200000 15 u.1 u.2.1 (iS (st ++ [p]) ++ [fl p.2])) (Bw D A_ (fun u => (mW cA h e0 v0 l0 b0 E V (u.1) (u.2.1) rn (st.length + 1 + 1) (u.2.2.1) (u.2.2.2.1) (u.2.2.2.2.1) (u.2.2.2.2.2)))) A_) args_ s_ 0 0 A_) [(h, .inr (2, [.ref e0, .ref v0, .int (nI rn), .ref l0, .ref b0, .int (nI (st.length + 1)), .int pl, .int sn, .int wa, .int wf])), (e0, .inl (cA, 33000, .inl (E))), (v0, .inl (cA, 66000, .inl (V))), (l0, .inl (cA, 200000, .inl (La))), (b0, .inl (cA, 15, .inl (B)))] 36 [(3, .int (nI k)), (2, .int (nI (2 * p.2.length))), (1, .int (nI (off (iS (st ++ [p])) st.length))), (0, .ref h)] [] := by
    intro d
    induction d with
    | zero =>
      intro k La hk hlo hcp
      have hk2 : k = 2 * p.2.length := by omega
      have hL2 : Hs 200000 15 La B (iS (st ++ [p])) := hL.scratch (fun j hj => hlo j (by omega))
      have hsg : seg La (tot (iS (st ++ [p]))) p.2 := by
        intro i q hq
        have h1 := hs0.2.1 i q hq
        have h2 : i < p.2.length := (List.getElem?_eq_some_iff.mp hq).1
        rw [← htt, hs0.2.2.1, Nat.add_assoc (off (iS (st ++ [p])) st.length + 2 * p.2.length), hcp (2 * i) (by omega), hcp (2 * i + 1) (by omega)]
        exact h1
      refine x_iload_n C d_M_copy_36 rfl rfl ?_
      refine x_iload_n C d_M_copy_37 rfl rfl ?_
      refine x_icmp_geN (tgt := 65) C d_M_copy_38 (by decide) (by omega) (by omega) (fun c38 => ?_) (fun c38 => ?_)
      · refine x_aload_n C d_M_copy_65 rfl rfl ?_
        refine x_iload_n C d_M_copy_66 rfl rfl ?_
        refine x_iconst (v := (nI (2))) C d_M_copy_67 (by decide) ?_
        refine x_iload_n C d_M_copy_68 rfl rfl ?_
        refine x_imulN C d_M_copy_69  ?_
        refine x_iaddN C d_M_copy_70  ?_
        refine x_top (y := (nI (tot (iS (st ++ [p])) + 2 * p.2.length))) (by rw [← htt, hs0.2.2.1]; congr 1; omega) ?_
        refine x_callVI (wr := []) (rest := []) C (c_M_comes (f := p.1) (J := p.2) hE hn hO hL2 (by simp) hs0.1 hsg (by omega) (by omega) hfit) d_M_copy_71 cd_M_comes lk_M_75 dd_M_comes rfl ⟨Nat.le_of_ble_eq_true rfl, Nat.le_of_ble_eq_true rfl⟩ ⟨Nat.le_refl _, Nat.le_refl _⟩ 2 0 rfl rfl [0, 1, 2, 3, 4] [] rfl rfl (by decide) (by decide) (by decide) rfl (Nat.le_of_ble_eq_true rfl) ?_
        intro r_ u37 hp_
        obtain ⟨rfl, hH37⟩ := hp_
        refine x_if_eqN (tgt := 84) C d_M_copy_74 (by decide) (by omega) (fun c74 => ?_) (fun c74 => ?_)
        · exact absurd c74 (by omega)
        · refine x_aload_n C d_M_copy_77 rfl rfl ?_
          refine x_get C d_M_copy_78 0 rfl rfl i_M 5 (by decide) lk_M_54 rfl rfl ?_
          refine x_goto (tgt := 86) C d_M_copy_81 (by decide) ?_
          exact x_iret C hr d_M_copy_86 (La, u37.1, ((u37.2.1), (u37.2.2.1), (u37.2.2.2.1), (u37.2.2.2.2))) rfl (⟨rfl, hH37⟩)
      · exact absurd c38 (by omega)
    | succ d ih =>
      intro k La hk hlo hcp
      refine x_iload_n C d_M_copy_36 rfl rfl ?_
      refine x_iload_n C d_M_copy_37 rfl rfl ?_
      refine x_icmp_geN (tgt := 65) C d_M_copy_38 (by decide) (by omega) (by omega) (fun c38 => ?_) (fun c38 => ?_)
      · exact absurd c38 (by omega)
      · refine x_aload_n C d_M_copy_41 rfl rfl ?_
        refine x_get C d_M_copy_42 0 rfl rfl i_M 3 (by decide) lk_M_19 rfl rfl ?_
        refine x_iload_n C d_M_copy_45 rfl rfl ?_
        refine x_iload_n C d_M_copy_46 rfl rfl ?_
        refine x_iaddN C d_M_copy_47  ?_
        refine x_iload_n C d_M_copy_48 rfl rfl ?_
        refine x_iaddN C d_M_copy_49  ?_
        refine x_aload_n C d_M_copy_50 rfl rfl ?_
        refine x_get C d_M_copy_51 0 rfl rfl i_M 3 (by decide) lk_M_19 rfl rfl ?_
        refine x_iload_n C d_M_copy_54 rfl rfl ?_
        refine x_iload_n C d_M_copy_55 rfl rfl ?_
        refine x_iaddN C d_M_copy_56  ?_
        refine x_iald C d_M_copy_57 3 rfl (by omega) (by omega) ?_
        refine x_iast (ws' := [(h, .inr (2, [.ref e0, .ref v0, .int (nI rn), .ref l0, .ref b0, .int (nI (st.length + 1)), .int pl, .int sn, .int wa, .int wf])), (e0, .inl (cA, 33000, .inl (E))), (v0, .inl (cA, 66000, .inl (V))), (l0, .inl (cA, 200000, .inl (upd La (((off (iS (st ++ [p])) st.length) + (2 * p.2.length)) + k) (La ((off (iS (st ++ [p])) st.length) + k))))), (b0, .inl (cA, 15, .inl (B)))]) C d_M_copy_58 3 rfl (by omega) (by omega) rfl ?_
        refine x_iincN (lv' := [(3, .int (nI (k + 1))), (2, .int (nI (2 * p.2.length))), (1, .int (nI (off (iS (st ++ [p])) st.length))), (0, .ref h)]) C d_M_copy_59 rfl (by decide) rfl ?_
        refine x_goto (tgt := 36) C d_M_copy_62 (by decide) ?_
        refine x_lv (lv' := [(3, .int (nI (k + 1))), (2, .int (nI (2 * p.2.length))), (1, .int (nI (off (iS (st ++ [p])) st.length))), (0, .ref h)]) (Or.inr (List.forall_mem_cons.mpr ⟨rfl, List.forall_mem_cons.mpr ⟨rfl, List.forall_mem_cons.mpr ⟨rfl, List.forall_mem_cons.mpr ⟨rfl, fun _ h9 => absurd h9 List.not_mem_nil⟩⟩⟩⟩)) ?_
        exact ih (k + 1) _ (by omega) (fun x hx => by rw [pk_un (by omega)]; exact hlo x hx) (fun y hy => by
          by_cases h9 : y = k
          · subst h9
            rw [pk_us, hlo _ (by omega)]
          · rw [pk_un (by omega)]
            exact hcp y (by omega))
  refine x_aload_n C d_M_copy_0 rfl rfl ?_
  refine x_get C d_M_copy_1 0 rfl rfl i_M 5 (by decide) lk_M_54 rfl rfl ?_
  refine x_if_neN (tgt := 10) C d_M_copy_4 (by decide) (by omega) (fun c4 => ?_) (fun c4 => ?_)
  · refine x_aload_n C d_M_copy_10 rfl rfl ?_
    refine x_get C d_M_copy_11 0 rfl rfl i_M 4 (by decide) lk_M_22 rfl rfl ?_
    refine x_aload_n C d_M_copy_14 rfl rfl ?_
    refine x_get C d_M_copy_15 0 rfl rfl i_M 5 (by decide) lk_M_54 rfl rfl ?_
    refine x_iconst (v := (nI (1))) C d_M_copy_18 (by decide) ?_
    refine x_isubN C d_M_copy_19 (by omega) ?_
    refine x_top (y := (nI (st.length))) (by congr 1) ?_
    refine x_iald C d_M_copy_20 4 rfl (by omega) (by omega) ?_
    refine x_top (y := (nI (off (iS (st ++ [p])) st.length))) hb0 ?_
    refine x_istore_n (lv' := [(1, .int (nI (off (iS (st ++ [p])) st.length))), (0, .ref h)]) C d_M_copy_21 rfl (by decide) rfl ?_
    refine x_aload_n C d_M_copy_22 rfl rfl ?_
    refine x_get C d_M_copy_23 0 rfl rfl i_M 4 (by decide) lk_M_22 rfl rfl ?_
    refine x_aload_n C d_M_copy_26 rfl rfl ?_
    refine x_get C d_M_copy_27 0 rfl rfl i_M 5 (by decide) lk_M_54 rfl rfl ?_
    refine x_iald C d_M_copy_30 4 rfl (by omega) (by omega) ?_
    refine x_top (y := (nI (off (iS (st ++ [p])) st.length + 2 * p.2.length))) hbt ?_
    refine x_iload_n C d_M_copy_31 rfl rfl ?_
    refine x_isubN C d_M_copy_32 (by omega) ?_
    refine x_top (y := (nI (2 * p.2.length))) (by congr 1; omega) ?_
    refine x_istore_n (lv' := [(2, .int (nI (2 * p.2.length))), (1, .int (nI (off (iS (st ++ [p])) st.length))), (0, .ref h)]) C d_M_copy_33 rfl (by decide) rfl ?_
    refine x_iconst (v := (nI (0))) C d_M_copy_34 (by decide) ?_
    refine x_istore_n (lv' := [(3, .int (nI 0)), (2, .int (nI (2 * p.2.length))), (1, .int (nI (off (iS (st ++ [p])) st.length))), (0, .ref h)]) C d_M_copy_35 rfl (by decide) rfl ?_
    refine x_lv (lv' := [(3, .int (nI 0)), (2, .int (nI (2 * p.2.length))), (1, .int (nI (off (iS (st ++ [p])) st.length))), (0, .ref h)]) (Or.inr (List.forall_mem_cons.mpr ⟨rfl, List.forall_mem_cons.mpr ⟨rfl, List.forall_mem_cons.mpr ⟨rfl, List.forall_mem_cons.mpr ⟨rfl, fun _ h9 => absurd h9 List.not_mem_nil⟩⟩⟩⟩)) ?_
    exact LP (2 * p.2.length) 0 L (by omega) (fun _ _ => rfl) (fun y hy => absurd hy (Nat.not_lt_zero y))
  · exact absurd c4 (by omega)
set_option maxHeartbeats 4000000 in
theorem c_M_copy_full {l : Launch} {D : va_G} {cA : ClassId} {h e0 v0 l0 b0 rn ns : Nat} {E V L B : Nat → Int32} {pl sn wa wf : Int32} {en : Nat → Nat} {vl : Nat → Nat → Nat} (hE : Rn E V rn en vl) {n : Nat} {st : List ((Nat → Bool) × List (Nat × Nat))} {p : (Nat → Bool) × List (Nat × Nat)} (hn : bnd en rn = n) (hO : Ok en rn (st ++ [p])) (hL : Hs 200000 15 L B (iS (st ++ [p]))) (hns : st.length + 1 = ns) (h13 : st.length + 1 ≤ 12) (hno : st.length + 1 = 12 ∨ 3000 < tot (kT n (st ++ [p])) + (wI n p.1).length)  : CtI l D cA y_M_copy b_M_copy 4 (some .int) ({ frames := 5, cells := 0, slots := 0, locals := 119 } : Room) [.ref h] (mW cA h e0 v0 l0 b0 E V L B rn ns pl sn wa wf) (fun r (u : ((Nat → Int32) × (Int32 × Int32 × Int32 × Int32))) => r = -3 ∧ Hs 200000 15 u.1 B (iS (st ++ [p]))) (fun u => (mW cA h e0 v0 l0 b0 E V (u.1) B rn ns (u.2.1) (u.2.2.1) (u.2.2.2.1) (u.2.2.2.2))) := by
  subst hns
  refine CtI.start (lv0 := [(0, .ref h)]) (by decide) rfl (Nat.le_of_ble_eq_true rfl) ?_
  intro p_ e_ s_ m_ args_ below_ meth_ c_ A_ C hr hin
  have hnm := hL.nums
  have hil := iS_len (st ++ [p])
  have hil2 : (st ++ [p]).length = st.length + 1 := by rw [List.length_append, List.length_singleton]
  rw [List.length_append, List.length_singleton] at hil
  rw [hil] at hnm
  have hsp : (st ++ [p])[st.length]? = some p := by simp
  have hs0 := set_in hO hL hsp
  have htt : off (iS (st ++ [p])) (st.length + 1) = tot (iS (st ++ [p])) := by rw [← hil]; exact off_len _
  have hbt : B (st.length + 1) = nI (off (iS (st ++ [p])) st.length + 2 * p.2.length) := by rw [hL.bd (by omega), hs0.2.2.1]
  have hb0 : B st.length = nI (off (iS (st ++ [p])) st.length) := hL.bd (by omega)
  have hiv : Iv n p.1 p.2 := by rw [← hn]; exact hs0.1.iv hE (Nat.le_refl _)
  have hn2 : n ≤ 1000000 := by rw [← hn]; exact bnd_le hE rn (Nat.le_refl _)
  have hr0 := hE.1
  have hJl := hs0.1.2.2.1
  have hsm := iS_small hE hO (by omega)
  have LP : ∀ (d k : Nat) (La : Nat → Int32), k + d = 2 * p.2.length → (∀ x, x < off (iS (st ++ [p])) st.length + 2 * p.2.length → La x = L x) → (∀ y, y < k → La (off (iS (st ++ [p])) st.length + 2 * p.2.length + y) = L (off (iS (st ++ [p])) st.length + y)) → X p_ l e_ ({ frames := 5, cells := 0, slots := 0, locals := 119 } : Room) s_ m_ args_ below_ meth_ c_ D A_ 4 0 0 (MQ below_ (va_Qi (fun r (u : ((Nat → Int32) × (Int32 × Int32 × Int32 × Int32))) => r = -3 ∧ Hs 200000 15 u.1 B (iS (st ++ [p]))) (Bw D A_ (fun u => (mW cA h e0 v0 l0 b0 E V (u.1) B rn (st.length + 1) (u.2.1) (u.2.2.1) (u.2.2.2.1) (u.2.2.2.2)))) A_) args_ s_ 0 0 A_) [(h, .inr (2, [.ref e0, .ref v0, .int (nI rn), .ref l0, .ref b0, .int (nI (st.length + 1)), .int pl, .int sn, .int wa, .int wf])), (e0, .inl (cA, 33000, .inl (E))), (v0, .inl (cA, 66000, .inl (V))), (l0, .inl (cA, 200000, .inl (La))), (b0, .inl (cA, 15, .inl (B)))] 36 [(3, .int (nI k)), (2, .int (nI (2 * p.2.length))), (1, .int (nI (off (iS (st ++ [p])) st.length))), (0, .ref h)] [] := by
    intro d
    induction d with
    | zero =>
      intro k La hk hlo hcp
      have hk2 : k = 2 * p.2.length := by omega
      have hL2 : Hs 200000 15 La B (iS (st ++ [p])) := hL.scratch (fun j hj => hlo j (by omega))
      have hsg : seg La (tot (iS (st ++ [p]))) p.2 := by
        intro i q hq
        have h1 := hs0.2.1 i q hq
        have h2 : i < p.2.length := (List.getElem?_eq_some_iff.mp hq).1
        rw [← htt, hs0.2.2.1, Nat.add_assoc (off (iS (st ++ [p])) st.length + 2 * p.2.length), hcp (2 * i) (by omega), hcp (2 * i + 1) (by omega)]
        exact h1
      refine x_iload_n C d_M_copy_36 rfl rfl ?_
      refine x_iload_n C d_M_copy_37 rfl rfl ?_
      refine x_icmp_geN (tgt := 65) C d_M_copy_38 (by decide) (by omega) (by omega) (fun c38 => ?_) (fun c38 => ?_)
      · refine x_aload_n C d_M_copy_65 rfl rfl ?_
        refine x_iload_n C d_M_copy_66 rfl rfl ?_
        refine x_iconst (v := (nI (2))) C d_M_copy_67 (by decide) ?_
        refine x_iload_n C d_M_copy_68 rfl rfl ?_
        refine x_imulN C d_M_copy_69  ?_
        refine x_iaddN C d_M_copy_70  ?_
        refine x_top (y := (nI (tot (iS (st ++ [p])) + 2 * p.2.length))) (by rw [← htt, hs0.2.2.1]; congr 1; omega) ?_
        refine x_callVI (wr := []) (rest := []) C (c_M_comes_full (f := p.1) (J := p.2) hE hn hO hL2 (by simp) hs0.1 hsg (by omega) (by rw [hil2]; exact hno)) d_M_copy_71 cd_M_comes lk_M_75 dd_M_comes rfl ⟨Nat.le_of_ble_eq_true rfl, Nat.le_of_ble_eq_true rfl⟩ ⟨Nat.le_refl _, Nat.le_refl _⟩ 2 0 rfl rfl [0, 1, 2, 3, 4] [] rfl rfl (by decide) (by decide) (by decide) rfl (Nat.le_of_ble_eq_true rfl) ?_
        intro r_ u37 hp_
        obtain rfl := hp_
        refine x_if_eqN (tgt := 84) C d_M_copy_74 (by decide) (by omega) (fun c74 => ?_) (fun c74 => ?_)
        · refine x_bipush (v := ((-3))) C d_M_copy_84 (by decide) ?_
          exact x_iret C hr d_M_copy_86 (La, ((u37.1), (u37.2.1), (u37.2.2.1), (u37.2.2.2))) rfl (⟨rfl, hL2⟩)
        · exact absurd c74 (by omega)
      · exact absurd c38 (by omega)
    | succ d ih =>
      intro k La hk hlo hcp
      refine x_iload_n C d_M_copy_36 rfl rfl ?_
      refine x_iload_n C d_M_copy_37 rfl rfl ?_
      refine x_icmp_geN (tgt := 65) C d_M_copy_38 (by decide) (by omega) (by omega) (fun c38 => ?_) (fun c38 => ?_)
      · exact absurd c38 (by omega)
      · refine x_aload_n C d_M_copy_41 rfl rfl ?_
        refine x_get C d_M_copy_42 0 rfl rfl i_M 3 (by decide) lk_M_19 rfl rfl ?_
        refine x_iload_n C d_M_copy_45 rfl rfl ?_
        refine x_iload_n C d_M_copy_46 rfl rfl ?_
        refine x_iaddN C d_M_copy_47  ?_
        refine x_iload_n C d_M_copy_48 rfl rfl ?_
        refine x_iaddN C d_M_copy_49  ?_
        refine x_aload_n C d_M_copy_50 rfl rfl ?_
        refine x_get C d_M_copy_51 0 rfl rfl i_M 3 (by decide) lk_M_19 rfl rfl ?_
        refine x_iload_n C d_M_copy_54 rfl rfl ?_
        refine x_iload_n C d_M_copy_55 rfl rfl ?_
        refine x_iaddN C d_M_copy_56  ?_
        refine x_iald C d_M_copy_57 3 rfl (by omega) (by omega) ?_
        refine x_iast (ws' := [(h, .inr (2, [.ref e0, .ref v0, .int (nI rn), .ref l0, .ref b0, .int (nI (st.length + 1)), .int pl, .int sn, .int wa, .int wf])), (e0, .inl (cA, 33000, .inl (E))), (v0, .inl (cA, 66000, .inl (V))), (l0, .inl (cA, 200000, .inl (upd La (((off (iS (st ++ [p])) st.length) + (2 * p.2.length)) + k) (La ((off (iS (st ++ [p])) st.length) + k))))), (b0, .inl (cA, 15, .inl (B)))]) C d_M_copy_58 3 rfl (by omega) (by omega) rfl ?_
        refine x_iincN (lv' := [(3, .int (nI (k + 1))), (2, .int (nI (2 * p.2.length))), (1, .int (nI (off (iS (st ++ [p])) st.length))), (0, .ref h)]) C d_M_copy_59 rfl (by decide) rfl ?_
        refine x_goto (tgt := 36) C d_M_copy_62 (by decide) ?_
        refine x_lv (lv' := [(3, .int (nI (k + 1))), (2, .int (nI (2 * p.2.length))), (1, .int (nI (off (iS (st ++ [p])) st.length))), (0, .ref h)]) (Or.inr (List.forall_mem_cons.mpr ⟨rfl, List.forall_mem_cons.mpr ⟨rfl, List.forall_mem_cons.mpr ⟨rfl, List.forall_mem_cons.mpr ⟨rfl, fun _ h9 => absurd h9 List.not_mem_nil⟩⟩⟩⟩)) ?_
        exact ih (k + 1) _ (by omega) (fun x hx => by rw [pk_un (by omega)]; exact hlo x hx) (fun y hy => by
          by_cases h9 : y = k
          · subst h9
            rw [pk_us, hlo _ (by omega)]
          · rw [pk_un (by omega)]
            exact hcp y (by omega))
  refine x_aload_n C d_M_copy_0 rfl rfl ?_
  refine x_get C d_M_copy_1 0 rfl rfl i_M 5 (by decide) lk_M_54 rfl rfl ?_
  refine x_if_neN (tgt := 10) C d_M_copy_4 (by decide) (by omega) (fun c4 => ?_) (fun c4 => ?_)
  · refine x_aload_n C d_M_copy_10 rfl rfl ?_
    refine x_get C d_M_copy_11 0 rfl rfl i_M 4 (by decide) lk_M_22 rfl rfl ?_
    refine x_aload_n C d_M_copy_14 rfl rfl ?_
    refine x_get C d_M_copy_15 0 rfl rfl i_M 5 (by decide) lk_M_54 rfl rfl ?_
    refine x_iconst (v := (nI (1))) C d_M_copy_18 (by decide) ?_
    refine x_isubN C d_M_copy_19 (by omega) ?_
    refine x_top (y := (nI (st.length))) (by congr 1) ?_
    refine x_iald C d_M_copy_20 4 rfl (by omega) (by omega) ?_
    refine x_top (y := (nI (off (iS (st ++ [p])) st.length))) hb0 ?_
    refine x_istore_n (lv' := [(1, .int (nI (off (iS (st ++ [p])) st.length))), (0, .ref h)]) C d_M_copy_21 rfl (by decide) rfl ?_
    refine x_aload_n C d_M_copy_22 rfl rfl ?_
    refine x_get C d_M_copy_23 0 rfl rfl i_M 4 (by decide) lk_M_22 rfl rfl ?_
    refine x_aload_n C d_M_copy_26 rfl rfl ?_
    refine x_get C d_M_copy_27 0 rfl rfl i_M 5 (by decide) lk_M_54 rfl rfl ?_
    refine x_iald C d_M_copy_30 4 rfl (by omega) (by omega) ?_
    refine x_top (y := (nI (off (iS (st ++ [p])) st.length + 2 * p.2.length))) hbt ?_
    refine x_iload_n C d_M_copy_31 rfl rfl ?_
    refine x_isubN C d_M_copy_32 (by omega) ?_
    refine x_top (y := (nI (2 * p.2.length))) (by congr 1; omega) ?_
    refine x_istore_n (lv' := [(2, .int (nI (2 * p.2.length))), (1, .int (nI (off (iS (st ++ [p])) st.length))), (0, .ref h)]) C d_M_copy_33 rfl (by decide) rfl ?_
    refine x_iconst (v := (nI (0))) C d_M_copy_34 (by decide) ?_
    refine x_istore_n (lv' := [(3, .int (nI 0)), (2, .int (nI (2 * p.2.length))), (1, .int (nI (off (iS (st ++ [p])) st.length))), (0, .ref h)]) C d_M_copy_35 rfl (by decide) rfl ?_
    refine x_lv (lv' := [(3, .int (nI 0)), (2, .int (nI (2 * p.2.length))), (1, .int (nI (off (iS (st ++ [p])) st.length))), (0, .ref h)]) (Or.inr (List.forall_mem_cons.mpr ⟨rfl, List.forall_mem_cons.mpr ⟨rfl, List.forall_mem_cons.mpr ⟨rfl, List.forall_mem_cons.mpr ⟨rfl, fun _ h9 => absurd h9 List.not_mem_nil⟩⟩⟩⟩)) ?_
    exact LP (2 * p.2.length) 0 L (by omega) (fun _ _ => rfl) (fun y hy => absurd hy (Nat.not_lt_zero y))
  · exact absurd c4 (by omega)
set_option maxHeartbeats 4000000 in
theorem c_M_is {l : Launch} {D : va_G} {cA : ClassId} {op : Nat} {x y : Bool} (ho : op ≤ 3) : CtI l D cA y_M_is b_M_is 3 (some .boolean) ({ frames := 0, cells := 0, slots := 0, locals := 0 } : Room) [.int (nI op), .int (nI (x.toNat)), .int (nI (y.toNat))] [] (fun r (_ : Unit) => r = nI (jbb op x y).toNat) (fun _ => []) := by
  refine CtI.start (lv0 := [(0, .int (nI op)), (1, .int (nI (x.toNat))), (2, .int (nI (y.toNat)))]) (by decide) rfl (Nat.le_of_ble_eq_true rfl) ?_
  intro p_ e_ s_ m_ args_ below_ meth_ c_ A_ C hr hin
  rcases (show op = 0 ∨ op = 1 ∨ op = 2 ∨ op = 3 by omega) with rfl | rfl | rfl | rfl <;> cases x <;> cases y
  · refine x_lv (lv' := [(0, .int (nI 0)), (1, .int (nI 0)), (2, .int (nI 0))]) (Or.inr (List.forall_mem_cons.mpr ⟨rfl, List.forall_mem_cons.mpr ⟨rfl, List.forall_mem_cons.mpr ⟨rfl, fun _ h9 => absurd h9 List.not_mem_nil⟩⟩⟩)) ?_
    refine x_iload_n C d_M_is_0 rfl rfl ?_
    refine x_if_neN (tgt := 20) C d_M_is_1 (by decide) (by omega) (fun c1 => ?_) (fun c1 => ?_)
    · exact absurd c1 (by omega)
    · refine x_iload_n C d_M_is_4 rfl rfl ?_
      refine x_if_eqN (tgt := 16) C d_M_is_5 (by decide) (by omega) (fun c5 => ?_) (fun c5 => ?_)
      · refine x_iconst (v := (nI (0))) C d_M_is_16 (by decide) ?_
        refine x_goto (tgt := 72) C d_M_is_17 (by decide) ?_
        exact x_zret C hr (by decide) d_M_is_72 () rfl (rfl)
      · exact absurd c5 (by omega)
  · refine x_lv (lv' := [(0, .int (nI 0)), (1, .int (nI 0)), (2, .int (nI 1))]) (Or.inr (List.forall_mem_cons.mpr ⟨rfl, List.forall_mem_cons.mpr ⟨rfl, List.forall_mem_cons.mpr ⟨rfl, fun _ h9 => absurd h9 List.not_mem_nil⟩⟩⟩)) ?_
    refine x_iload_n C d_M_is_0 rfl rfl ?_
    refine x_if_neN (tgt := 20) C d_M_is_1 (by decide) (by omega) (fun c1 => ?_) (fun c1 => ?_)
    · exact absurd c1 (by omega)
    · refine x_iload_n C d_M_is_4 rfl rfl ?_
      refine x_if_eqN (tgt := 16) C d_M_is_5 (by decide) (by omega) (fun c5 => ?_) (fun c5 => ?_)
      · refine x_iconst (v := (nI (0))) C d_M_is_16 (by decide) ?_
        refine x_goto (tgt := 72) C d_M_is_17 (by decide) ?_
        exact x_zret C hr (by decide) d_M_is_72 () rfl (rfl)
      · exact absurd c5 (by omega)
  · refine x_lv (lv' := [(0, .int (nI 0)), (1, .int (nI 1)), (2, .int (nI 0))]) (Or.inr (List.forall_mem_cons.mpr ⟨rfl, List.forall_mem_cons.mpr ⟨rfl, List.forall_mem_cons.mpr ⟨rfl, fun _ h9 => absurd h9 List.not_mem_nil⟩⟩⟩)) ?_
    refine x_iload_n C d_M_is_0 rfl rfl ?_
    refine x_if_neN (tgt := 20) C d_M_is_1 (by decide) (by omega) (fun c1 => ?_) (fun c1 => ?_)
    · exact absurd c1 (by omega)
    · refine x_iload_n C d_M_is_4 rfl rfl ?_
      refine x_if_eqN (tgt := 16) C d_M_is_5 (by decide) (by omega) (fun c5 => ?_) (fun c5 => ?_)
      · exact absurd c5 (by omega)
      · refine x_iload_n C d_M_is_8 rfl rfl ?_
        refine x_if_eqN (tgt := 16) C d_M_is_9 (by decide) (by omega) (fun c9 => ?_) (fun c9 => ?_)
        · refine x_iconst (v := (nI (0))) C d_M_is_16 (by decide) ?_
          refine x_goto (tgt := 72) C d_M_is_17 (by decide) ?_
          exact x_zret C hr (by decide) d_M_is_72 () rfl (rfl)
        · exact absurd c9 (by omega)
  · refine x_lv (lv' := [(0, .int (nI 0)), (1, .int (nI 1)), (2, .int (nI 1))]) (Or.inr (List.forall_mem_cons.mpr ⟨rfl, List.forall_mem_cons.mpr ⟨rfl, List.forall_mem_cons.mpr ⟨rfl, fun _ h9 => absurd h9 List.not_mem_nil⟩⟩⟩)) ?_
    refine x_iload_n C d_M_is_0 rfl rfl ?_
    refine x_if_neN (tgt := 20) C d_M_is_1 (by decide) (by omega) (fun c1 => ?_) (fun c1 => ?_)
    · exact absurd c1 (by omega)
    · refine x_iload_n C d_M_is_4 rfl rfl ?_
      refine x_if_eqN (tgt := 16) C d_M_is_5 (by decide) (by omega) (fun c5 => ?_) (fun c5 => ?_)
      · exact absurd c5 (by omega)
      · refine x_iload_n C d_M_is_8 rfl rfl ?_
        refine x_if_eqN (tgt := 16) C d_M_is_9 (by decide) (by omega) (fun c9 => ?_) (fun c9 => ?_)
        · exact absurd c9 (by omega)
        · refine x_iconst (v := (nI (1))) C d_M_is_12 (by decide) ?_
          refine x_goto (tgt := 72) C d_M_is_13 (by decide) ?_
          exact x_zret C hr (by decide) d_M_is_72 () rfl (rfl)
  · refine x_lv (lv' := [(0, .int (nI 1)), (1, .int (nI 0)), (2, .int (nI 0))]) (Or.inr (List.forall_mem_cons.mpr ⟨rfl, List.forall_mem_cons.mpr ⟨rfl, List.forall_mem_cons.mpr ⟨rfl, fun _ h9 => absurd h9 List.not_mem_nil⟩⟩⟩)) ?_
    refine x_iload_n C d_M_is_0 rfl rfl ?_
    refine x_if_neN (tgt := 20) C d_M_is_1 (by decide) (by omega) (fun c1 => ?_) (fun c1 => ?_)
    · refine x_iload_n C d_M_is_20 rfl rfl ?_
      refine x_iconst (v := (nI (1))) C d_M_is_21 (by decide) ?_
      refine x_icmp_neN (tgt := 41) C d_M_is_22 (by decide) (by omega) (by omega) (fun c22 => ?_) (fun c22 => ?_)
      · exact absurd c22 (by omega)
      · refine x_iload_n C d_M_is_25 rfl rfl ?_
        refine x_if_neN (tgt := 33) C d_M_is_26 (by decide) (by omega) (fun c26 => ?_) (fun c26 => ?_)
        · exact absurd c26 (by omega)
        · refine x_iload_n C d_M_is_29 rfl rfl ?_
          refine x_if_eqN (tgt := 37) C d_M_is_30 (by decide) (by omega) (fun c30 => ?_) (fun c30 => ?_)
          · refine x_iconst (v := (nI (0))) C d_M_is_37 (by decide) ?_
            refine x_goto (tgt := 72) C d_M_is_38 (by decide) ?_
            exact x_zret C hr (by decide) d_M_is_72 () rfl (rfl)
          · exact absurd c30 (by omega)
    · exact absurd c1 (by omega)
  · refine x_lv (lv' := [(0, .int (nI 1)), (1, .int (nI 0)), (2, .int (nI 1))]) (Or.inr (List.forall_mem_cons.mpr ⟨rfl, List.forall_mem_cons.mpr ⟨rfl, List.forall_mem_cons.mpr ⟨rfl, fun _ h9 => absurd h9 List.not_mem_nil⟩⟩⟩)) ?_
    refine x_iload_n C d_M_is_0 rfl rfl ?_
    refine x_if_neN (tgt := 20) C d_M_is_1 (by decide) (by omega) (fun c1 => ?_) (fun c1 => ?_)
    · refine x_iload_n C d_M_is_20 rfl rfl ?_
      refine x_iconst (v := (nI (1))) C d_M_is_21 (by decide) ?_
      refine x_icmp_neN (tgt := 41) C d_M_is_22 (by decide) (by omega) (by omega) (fun c22 => ?_) (fun c22 => ?_)
      · exact absurd c22 (by omega)
      · refine x_iload_n C d_M_is_25 rfl rfl ?_
        refine x_if_neN (tgt := 33) C d_M_is_26 (by decide) (by omega) (fun c26 => ?_) (fun c26 => ?_)
        · exact absurd c26 (by omega)
        · refine x_iload_n C d_M_is_29 rfl rfl ?_
          refine x_if_eqN (tgt := 37) C d_M_is_30 (by decide) (by omega) (fun c30 => ?_) (fun c30 => ?_)
          · exact absurd c30 (by omega)
          · refine x_iconst (v := (nI (1))) C d_M_is_33 (by decide) ?_
            refine x_goto (tgt := 72) C d_M_is_34 (by decide) ?_
            exact x_zret C hr (by decide) d_M_is_72 () rfl (rfl)
    · exact absurd c1 (by omega)
  · refine x_lv (lv' := [(0, .int (nI 1)), (1, .int (nI 1)), (2, .int (nI 0))]) (Or.inr (List.forall_mem_cons.mpr ⟨rfl, List.forall_mem_cons.mpr ⟨rfl, List.forall_mem_cons.mpr ⟨rfl, fun _ h9 => absurd h9 List.not_mem_nil⟩⟩⟩)) ?_
    refine x_iload_n C d_M_is_0 rfl rfl ?_
    refine x_if_neN (tgt := 20) C d_M_is_1 (by decide) (by omega) (fun c1 => ?_) (fun c1 => ?_)
    · refine x_iload_n C d_M_is_20 rfl rfl ?_
      refine x_iconst (v := (nI (1))) C d_M_is_21 (by decide) ?_
      refine x_icmp_neN (tgt := 41) C d_M_is_22 (by decide) (by omega) (by omega) (fun c22 => ?_) (fun c22 => ?_)
      · exact absurd c22 (by omega)
      · refine x_iload_n C d_M_is_25 rfl rfl ?_
        refine x_if_neN (tgt := 33) C d_M_is_26 (by decide) (by omega) (fun c26 => ?_) (fun c26 => ?_)
        · refine x_iconst (v := (nI (1))) C d_M_is_33 (by decide) ?_
          refine x_goto (tgt := 72) C d_M_is_34 (by decide) ?_
          exact x_zret C hr (by decide) d_M_is_72 () rfl (rfl)
        · exact absurd c26 (by omega)
    · exact absurd c1 (by omega)
  · refine x_lv (lv' := [(0, .int (nI 1)), (1, .int (nI 1)), (2, .int (nI 1))]) (Or.inr (List.forall_mem_cons.mpr ⟨rfl, List.forall_mem_cons.mpr ⟨rfl, List.forall_mem_cons.mpr ⟨rfl, fun _ h9 => absurd h9 List.not_mem_nil⟩⟩⟩)) ?_
    refine x_iload_n C d_M_is_0 rfl rfl ?_
    refine x_if_neN (tgt := 20) C d_M_is_1 (by decide) (by omega) (fun c1 => ?_) (fun c1 => ?_)
    · refine x_iload_n C d_M_is_20 rfl rfl ?_
      refine x_iconst (v := (nI (1))) C d_M_is_21 (by decide) ?_
      refine x_icmp_neN (tgt := 41) C d_M_is_22 (by decide) (by omega) (by omega) (fun c22 => ?_) (fun c22 => ?_)
      · exact absurd c22 (by omega)
      · refine x_iload_n C d_M_is_25 rfl rfl ?_
        refine x_if_neN (tgt := 33) C d_M_is_26 (by decide) (by omega) (fun c26 => ?_) (fun c26 => ?_)
        · refine x_iconst (v := (nI (1))) C d_M_is_33 (by decide) ?_
          refine x_goto (tgt := 72) C d_M_is_34 (by decide) ?_
          exact x_zret C hr (by decide) d_M_is_72 () rfl (rfl)
        · exact absurd c26 (by omega)
    · exact absurd c1 (by omega)
  · refine x_lv (lv' := [(0, .int (nI 2)), (1, .int (nI 0)), (2, .int (nI 0))]) (Or.inr (List.forall_mem_cons.mpr ⟨rfl, List.forall_mem_cons.mpr ⟨rfl, List.forall_mem_cons.mpr ⟨rfl, fun _ h9 => absurd h9 List.not_mem_nil⟩⟩⟩)) ?_
    refine x_iload_n C d_M_is_0 rfl rfl ?_
    refine x_if_neN (tgt := 20) C d_M_is_1 (by decide) (by omega) (fun c1 => ?_) (fun c1 => ?_)
    · refine x_iload_n C d_M_is_20 rfl rfl ?_
      refine x_iconst (v := (nI (1))) C d_M_is_21 (by decide) ?_
      refine x_icmp_neN (tgt := 41) C d_M_is_22 (by decide) (by omega) (by omega) (fun c22 => ?_) (fun c22 => ?_)
      · refine x_iload_n C d_M_is_41 rfl rfl ?_
        refine x_iconst (v := (nI (2))) C d_M_is_42 (by decide) ?_
        refine x_icmp_neN (tgt := 62) C d_M_is_43 (by decide) (by omega) (by omega) (fun c43 => ?_) (fun c43 => ?_)
        · exact absurd c43 (by omega)
        · refine x_iload_n C d_M_is_46 rfl rfl ?_
          refine x_if_eqN (tgt := 58) C d_M_is_47 (by decide) (by omega) (fun c47 => ?_) (fun c47 => ?_)
          · refine x_iconst (v := (nI (0))) C d_M_is_58 (by decide) ?_
            refine x_goto (tgt := 72) C d_M_is_59 (by decide) ?_
            exact x_zret C hr (by decide) d_M_is_72 () rfl (rfl)
          · exact absurd c47 (by omega)
      · exact absurd c22 (by omega)
    · exact absurd c1 (by omega)
  · refine x_lv (lv' := [(0, .int (nI 2)), (1, .int (nI 0)), (2, .int (nI 1))]) (Or.inr (List.forall_mem_cons.mpr ⟨rfl, List.forall_mem_cons.mpr ⟨rfl, List.forall_mem_cons.mpr ⟨rfl, fun _ h9 => absurd h9 List.not_mem_nil⟩⟩⟩)) ?_
    refine x_iload_n C d_M_is_0 rfl rfl ?_
    refine x_if_neN (tgt := 20) C d_M_is_1 (by decide) (by omega) (fun c1 => ?_) (fun c1 => ?_)
    · refine x_iload_n C d_M_is_20 rfl rfl ?_
      refine x_iconst (v := (nI (1))) C d_M_is_21 (by decide) ?_
      refine x_icmp_neN (tgt := 41) C d_M_is_22 (by decide) (by omega) (by omega) (fun c22 => ?_) (fun c22 => ?_)
      · refine x_iload_n C d_M_is_41 rfl rfl ?_
        refine x_iconst (v := (nI (2))) C d_M_is_42 (by decide) ?_
        refine x_icmp_neN (tgt := 62) C d_M_is_43 (by decide) (by omega) (by omega) (fun c43 => ?_) (fun c43 => ?_)
        · exact absurd c43 (by omega)
        · refine x_iload_n C d_M_is_46 rfl rfl ?_
          refine x_if_eqN (tgt := 58) C d_M_is_47 (by decide) (by omega) (fun c47 => ?_) (fun c47 => ?_)
          · refine x_iconst (v := (nI (0))) C d_M_is_58 (by decide) ?_
            refine x_goto (tgt := 72) C d_M_is_59 (by decide) ?_
            exact x_zret C hr (by decide) d_M_is_72 () rfl (rfl)
          · exact absurd c47 (by omega)
      · exact absurd c22 (by omega)
    · exact absurd c1 (by omega)
  · refine x_lv (lv' := [(0, .int (nI 2)), (1, .int (nI 1)), (2, .int (nI 0))]) (Or.inr (List.forall_mem_cons.mpr ⟨rfl, List.forall_mem_cons.mpr ⟨rfl, List.forall_mem_cons.mpr ⟨rfl, fun _ h9 => absurd h9 List.not_mem_nil⟩⟩⟩)) ?_
    refine x_iload_n C d_M_is_0 rfl rfl ?_
    refine x_if_neN (tgt := 20) C d_M_is_1 (by decide) (by omega) (fun c1 => ?_) (fun c1 => ?_)
    · refine x_iload_n C d_M_is_20 rfl rfl ?_
      refine x_iconst (v := (nI (1))) C d_M_is_21 (by decide) ?_
      refine x_icmp_neN (tgt := 41) C d_M_is_22 (by decide) (by omega) (by omega) (fun c22 => ?_) (fun c22 => ?_)
      · refine x_iload_n C d_M_is_41 rfl rfl ?_
        refine x_iconst (v := (nI (2))) C d_M_is_42 (by decide) ?_
        refine x_icmp_neN (tgt := 62) C d_M_is_43 (by decide) (by omega) (by omega) (fun c43 => ?_) (fun c43 => ?_)
        · exact absurd c43 (by omega)
        · refine x_iload_n C d_M_is_46 rfl rfl ?_
          refine x_if_eqN (tgt := 58) C d_M_is_47 (by decide) (by omega) (fun c47 => ?_) (fun c47 => ?_)
          · exact absurd c47 (by omega)
          · refine x_iload_n C d_M_is_50 rfl rfl ?_
            refine x_if_neN (tgt := 58) C d_M_is_51 (by decide) (by omega) (fun c51 => ?_) (fun c51 => ?_)
            · exact absurd c51 (by omega)
            · refine x_iconst (v := (nI (1))) C d_M_is_54 (by decide) ?_
              refine x_goto (tgt := 72) C d_M_is_55 (by decide) ?_
              exact x_zret C hr (by decide) d_M_is_72 () rfl (rfl)
      · exact absurd c22 (by omega)
    · exact absurd c1 (by omega)
  · refine x_lv (lv' := [(0, .int (nI 2)), (1, .int (nI 1)), (2, .int (nI 1))]) (Or.inr (List.forall_mem_cons.mpr ⟨rfl, List.forall_mem_cons.mpr ⟨rfl, List.forall_mem_cons.mpr ⟨rfl, fun _ h9 => absurd h9 List.not_mem_nil⟩⟩⟩)) ?_
    refine x_iload_n C d_M_is_0 rfl rfl ?_
    refine x_if_neN (tgt := 20) C d_M_is_1 (by decide) (by omega) (fun c1 => ?_) (fun c1 => ?_)
    · refine x_iload_n C d_M_is_20 rfl rfl ?_
      refine x_iconst (v := (nI (1))) C d_M_is_21 (by decide) ?_
      refine x_icmp_neN (tgt := 41) C d_M_is_22 (by decide) (by omega) (by omega) (fun c22 => ?_) (fun c22 => ?_)
      · refine x_iload_n C d_M_is_41 rfl rfl ?_
        refine x_iconst (v := (nI (2))) C d_M_is_42 (by decide) ?_
        refine x_icmp_neN (tgt := 62) C d_M_is_43 (by decide) (by omega) (by omega) (fun c43 => ?_) (fun c43 => ?_)
        · exact absurd c43 (by omega)
        · refine x_iload_n C d_M_is_46 rfl rfl ?_
          refine x_if_eqN (tgt := 58) C d_M_is_47 (by decide) (by omega) (fun c47 => ?_) (fun c47 => ?_)
          · exact absurd c47 (by omega)
          · refine x_iload_n C d_M_is_50 rfl rfl ?_
            refine x_if_neN (tgt := 58) C d_M_is_51 (by decide) (by omega) (fun c51 => ?_) (fun c51 => ?_)
            · refine x_iconst (v := (nI (0))) C d_M_is_58 (by decide) ?_
              refine x_goto (tgt := 72) C d_M_is_59 (by decide) ?_
              exact x_zret C hr (by decide) d_M_is_72 () rfl (rfl)
            · exact absurd c51 (by omega)
      · exact absurd c22 (by omega)
    · exact absurd c1 (by omega)
  · refine x_lv (lv' := [(0, .int (nI 3)), (1, .int (nI 0)), (2, .int (nI 0))]) (Or.inr (List.forall_mem_cons.mpr ⟨rfl, List.forall_mem_cons.mpr ⟨rfl, List.forall_mem_cons.mpr ⟨rfl, fun _ h9 => absurd h9 List.not_mem_nil⟩⟩⟩)) ?_
    refine x_iload_n C d_M_is_0 rfl rfl ?_
    refine x_if_neN (tgt := 20) C d_M_is_1 (by decide) (by omega) (fun c1 => ?_) (fun c1 => ?_)
    · refine x_iload_n C d_M_is_20 rfl rfl ?_
      refine x_iconst (v := (nI (1))) C d_M_is_21 (by decide) ?_
      refine x_icmp_neN (tgt := 41) C d_M_is_22 (by decide) (by omega) (by omega) (fun c22 => ?_) (fun c22 => ?_)
      · refine x_iload_n C d_M_is_41 rfl rfl ?_
        refine x_iconst (v := (nI (2))) C d_M_is_42 (by decide) ?_
        refine x_icmp_neN (tgt := 62) C d_M_is_43 (by decide) (by omega) (by omega) (fun c43 => ?_) (fun c43 => ?_)
        · refine x_iload_n C d_M_is_62 rfl rfl ?_
          refine x_iload_n C d_M_is_63 rfl rfl ?_
          refine x_icmp_eqN (tgt := 71) C d_M_is_64 (by decide) (by omega) (by omega) (fun c64 => ?_) (fun c64 => ?_)
          · refine x_iconst (v := (nI (0))) C d_M_is_71 (by decide) ?_
            exact x_zret C hr (by decide) d_M_is_72 () rfl (rfl)
          · exact absurd c64 (by omega)
        · exact absurd c43 (by omega)
      · exact absurd c22 (by omega)
    · exact absurd c1 (by omega)
  · refine x_lv (lv' := [(0, .int (nI 3)), (1, .int (nI 0)), (2, .int (nI 1))]) (Or.inr (List.forall_mem_cons.mpr ⟨rfl, List.forall_mem_cons.mpr ⟨rfl, List.forall_mem_cons.mpr ⟨rfl, fun _ h9 => absurd h9 List.not_mem_nil⟩⟩⟩)) ?_
    refine x_iload_n C d_M_is_0 rfl rfl ?_
    refine x_if_neN (tgt := 20) C d_M_is_1 (by decide) (by omega) (fun c1 => ?_) (fun c1 => ?_)
    · refine x_iload_n C d_M_is_20 rfl rfl ?_
      refine x_iconst (v := (nI (1))) C d_M_is_21 (by decide) ?_
      refine x_icmp_neN (tgt := 41) C d_M_is_22 (by decide) (by omega) (by omega) (fun c22 => ?_) (fun c22 => ?_)
      · refine x_iload_n C d_M_is_41 rfl rfl ?_
        refine x_iconst (v := (nI (2))) C d_M_is_42 (by decide) ?_
        refine x_icmp_neN (tgt := 62) C d_M_is_43 (by decide) (by omega) (by omega) (fun c43 => ?_) (fun c43 => ?_)
        · refine x_iload_n C d_M_is_62 rfl rfl ?_
          refine x_iload_n C d_M_is_63 rfl rfl ?_
          refine x_icmp_eqN (tgt := 71) C d_M_is_64 (by decide) (by omega) (by omega) (fun c64 => ?_) (fun c64 => ?_)
          · exact absurd c64 (by omega)
          · refine x_iconst (v := (nI (1))) C d_M_is_67 (by decide) ?_
            refine x_goto (tgt := 72) C d_M_is_68 (by decide) ?_
            exact x_zret C hr (by decide) d_M_is_72 () rfl (rfl)
        · exact absurd c43 (by omega)
      · exact absurd c22 (by omega)
    · exact absurd c1 (by omega)
  · refine x_lv (lv' := [(0, .int (nI 3)), (1, .int (nI 1)), (2, .int (nI 0))]) (Or.inr (List.forall_mem_cons.mpr ⟨rfl, List.forall_mem_cons.mpr ⟨rfl, List.forall_mem_cons.mpr ⟨rfl, fun _ h9 => absurd h9 List.not_mem_nil⟩⟩⟩)) ?_
    refine x_iload_n C d_M_is_0 rfl rfl ?_
    refine x_if_neN (tgt := 20) C d_M_is_1 (by decide) (by omega) (fun c1 => ?_) (fun c1 => ?_)
    · refine x_iload_n C d_M_is_20 rfl rfl ?_
      refine x_iconst (v := (nI (1))) C d_M_is_21 (by decide) ?_
      refine x_icmp_neN (tgt := 41) C d_M_is_22 (by decide) (by omega) (by omega) (fun c22 => ?_) (fun c22 => ?_)
      · refine x_iload_n C d_M_is_41 rfl rfl ?_
        refine x_iconst (v := (nI (2))) C d_M_is_42 (by decide) ?_
        refine x_icmp_neN (tgt := 62) C d_M_is_43 (by decide) (by omega) (by omega) (fun c43 => ?_) (fun c43 => ?_)
        · refine x_iload_n C d_M_is_62 rfl rfl ?_
          refine x_iload_n C d_M_is_63 rfl rfl ?_
          refine x_icmp_eqN (tgt := 71) C d_M_is_64 (by decide) (by omega) (by omega) (fun c64 => ?_) (fun c64 => ?_)
          · exact absurd c64 (by omega)
          · refine x_iconst (v := (nI (1))) C d_M_is_67 (by decide) ?_
            refine x_goto (tgt := 72) C d_M_is_68 (by decide) ?_
            exact x_zret C hr (by decide) d_M_is_72 () rfl (rfl)
        · exact absurd c43 (by omega)
      · exact absurd c22 (by omega)
    · exact absurd c1 (by omega)
  · refine x_lv (lv' := [(0, .int (nI 3)), (1, .int (nI 1)), (2, .int (nI 1))]) (Or.inr (List.forall_mem_cons.mpr ⟨rfl, List.forall_mem_cons.mpr ⟨rfl, List.forall_mem_cons.mpr ⟨rfl, fun _ h9 => absurd h9 List.not_mem_nil⟩⟩⟩)) ?_
    refine x_iload_n C d_M_is_0 rfl rfl ?_
    refine x_if_neN (tgt := 20) C d_M_is_1 (by decide) (by omega) (fun c1 => ?_) (fun c1 => ?_)
    · refine x_iload_n C d_M_is_20 rfl rfl ?_
      refine x_iconst (v := (nI (1))) C d_M_is_21 (by decide) ?_
      refine x_icmp_neN (tgt := 41) C d_M_is_22 (by decide) (by omega) (by omega) (fun c22 => ?_) (fun c22 => ?_)
      · refine x_iload_n C d_M_is_41 rfl rfl ?_
        refine x_iconst (v := (nI (2))) C d_M_is_42 (by decide) ?_
        refine x_icmp_neN (tgt := 62) C d_M_is_43 (by decide) (by omega) (by omega) (fun c43 => ?_) (fun c43 => ?_)
        · refine x_iload_n C d_M_is_62 rfl rfl ?_
          refine x_iload_n C d_M_is_63 rfl rfl ?_
          refine x_icmp_eqN (tgt := 71) C d_M_is_64 (by decide) (by omega) (by omega) (fun c64 => ?_) (fun c64 => ?_)
          · refine x_iconst (v := (nI (0))) C d_M_is_71 (by decide) ?_
            exact x_zret C hr (by decide) d_M_is_72 () rfl (rfl)
          · exact absurd c64 (by omega)
        · exact absurd c43 (by omega)
      · exact absurd c22 (by omega)
    · exact absurd c1 (by omega)
set_option maxHeartbeats 4000000 in
theorem c_M_become {l : Launch} {D : va_G} {cA : ClassId} {h e0 v0 l0 b0 rn ns : Nat} {E V L B : Nat → Int32} {pl sn wa wf : Int32} {en : Nat → Nat} {vl : Nat → Nat → Nat} (hE : Rn E V rn en vl) {n : Nat} {st : List ((Nat → Bool) × List (Nat × Nat))} (hn : bnd en rn = n) (hO : Ok en rn st) (hL : Hs 200000 15 L B (iS st)) (hns : st.length = ns) {f : Nat → Bool} {J : List (Nat × Nat)} {la m : Nat} (hJ : Ik en rn f J) (hs : seg L (tot (iS st)) J) (h13 : st.length ≤ 12) (hm : m + la = st.length) (hla : 1 ≤ la) (hfit : tot (kT n (st.take m)) + (wI n f).length ≤ 3000)  : CtI l D cA y_M_become b_M_become 7 (some .boolean) ({ frames := 3, cells := 0, slots := 0, locals := 76 } : Room) [.ref h, .int (nI la), .int (nI (tot (iS st) + 2 * J.length))] (mW cA h e0 v0 l0 b0 E V L B rn ns pl sn wa wf) (fun r (u : ((Nat → Int32) × (Nat → Int32) × (Int32 × Int32 × Int32 × Int32))) => r = nI 1 ∧ Hs 200000 15 u.1 u.2.1 (iS (st.take m) ++ [fl J])) (fun u => (mW cA h e0 v0 l0 b0 E V (u.1) (u.2.1) rn (m + 1) (u.2.2.1) (u.2.2.2.1) (u.2.2.2.2.1) (u.2.2.2.2.2))) := by
  refine CtI.start (lv0 := [(0, .ref h), (1, .int (nI la)), (2, .int (nI (tot (iS st) + 2 * J.length)))]) (by decide) rfl (Nat.le_of_ble_eq_true rfl) ?_
  intro p_ e_ s_ m_ args_ below_ meth_ c_ A_ C hr hin
  have hnm := hL.nums
  rw [iS_len] at hnm
  have hsm := iS_small hE hO (by omega)
  have hJl := hJ.2.2.1
  have hr0 := hE.1
  have hn2 : n ≤ 1000000 := by rw [← hn]; exact bnd_le hE rn (Nat.le_refl _)
  have hiv : Iv n f J := by rw [← hn]; exact hJ.iv hE (Nat.le_refl _)
  have hwl := wI_len n f
  have hlen1 := Wd_len (n := n) (f := f) hn2
  have hlen2 := kT_tot (st := st.take m) (n := n) hn2 (by rw [List.length_take]; omega)
  have htop : B ns = nI (tot (iS st)) := by rw [← hns, ← iS_len st]; exact hL.top
  have hbm : B m = nI (off (iS st) m) := hL.bd (by rw [iS_len]; omega)
  have hom := off_le (iS st) m
  have LP2 : ∀ (d k : Nat) (La : Nat → Int32) (y1 y2 y3 y4 : Int32), k + d = 2 * J.length → (∀ x, x < off (iS st) m → La x = L x) → (∀ y, y < k → La (off (iS st) m + y) = L (tot (iS st) + y)) → (∀ y, k ≤ y → La (tot (iS st) + y) = L (tot (iS st) + y)) → X p_ l e_ ({ frames := 3, cells := 0, slots := 0, locals := 76 } : Room) s_ m_ args_ below_ meth_ c_ D A_ 7 0 0 (MQ below_ (va_Qi (fun r (u : ((Nat → Int32) × (Nat → Int32) × (Int32 × Int32 × Int32 × Int32))) => r = nI 1 ∧ Hs 200000 15 u.1 u.2.1 (iS (st.take m) ++ [fl J])) (Bw D A_ (fun u => (mW cA h e0 v0 l0 b0 E V (u.1) (u.2.1) rn (m + 1) (u.2.2.1) (u.2.2.2.1) (u.2.2.2.2.1) (u.2.2.2.2.2)))) A_) args_ s_ 0 0 A_) [(h, .inr (2, [.ref e0, .ref v0, .int (nI rn), .ref l0, .ref b0, .int (nI ns), .int y1, .int y2, .int y3, .int y4])), (e0, .inl (cA, 33000, .inl (E))), (v0, .inl (cA, 66000, .inl (V))), (l0, .inl (cA, 200000, .inl (La))), (b0, .inl (cA, 15, .inl (B)))] 76 [(6, .int (nI k)), (5, .int (nI (off (iS st) m))), (4, .int (nI (tot (iS st)))), (0, .ref h), (1, .int (nI la)), (2, .int (nI (tot (iS st) + 2 * J.length)))] [] := by
    intro d
    induction d with
    | zero =>
      intro k La y1 y2 y3 y4 hk h1 h2 h3
      refine x_iload C d_M_become_76 rfl ?_
      refine x_iload_n C d_M_become_78 rfl rfl ?_
      refine x_iload C d_M_become_79 rfl ?_
      refine x_isubN C d_M_become_81 (by omega) ?_
      refine x_top (y := (nI (2 * J.length))) (by congr 1; omega) ?_
      refine x_icmp_geN (tgt := 111) C d_M_become_82 (by decide) (by omega) (by omega) (fun c82 => ?_) (fun c82 => ?_)
      · refine x_aload_n C d_M_become_111 rfl rfl ?_
        refine x_aload_n C d_M_become_112 rfl rfl ?_
        refine x_get C d_M_become_113 0 rfl rfl i_M 5 (by decide) lk_M_54 rfl rfl ?_
        refine x_iload_n C d_M_become_116 rfl rfl ?_
        refine x_isubN C d_M_become_117 (by omega) ?_
        refine x_top (y := (nI (m))) (by congr 1; omega) ?_
        refine x_iconst (v := (nI (1))) C d_M_become_118 (by decide) ?_
        refine x_iaddN C d_M_become_119  ?_
        refine x_put (ty := .int) (v := .int (nI (m + 1))) (ws' := [(h, .inr (2, [.ref e0, .ref v0, .int (nI rn), .ref l0, .ref b0, .int (nI (m + 1)), .int y1, .int y2, .int y3, .int y4])), (e0, .inl (cA, 33000, .inl (E))), (v0, .inl (cA, 66000, .inl (V))), (l0, .inl (cA, 200000, .inl (La))), (b0, .inl (cA, 15, .inl (B)))]) C d_M_become_120 0 rfl rfl i_M t_M t_M_ok n_M 5 (by decide) lk_M_54 rfl rfl (t_M_ok 5 (by decide)) rfl rfl (Nat.le_of_ble_eq_true rfl) rfl ?_
        refine x_aload_n C d_M_become_123 rfl rfl ?_
        refine x_get C d_M_become_124 0 rfl rfl i_M 4 (by decide) lk_M_22 rfl rfl ?_
        refine x_aload_n C d_M_become_127 rfl rfl ?_
        refine x_get C d_M_become_128 0 rfl rfl i_M 5 (by decide) lk_M_54 rfl rfl ?_
        refine x_iload C d_M_become_131 rfl ?_
        refine x_iload_n C d_M_become_133 rfl rfl ?_
        refine x_iaddN C d_M_become_134  ?_
        refine x_iload C d_M_become_135 rfl ?_
        refine x_isubN C d_M_become_137 (by omega) ?_
        refine x_top (y := (nI (off (iS st) m + 2 * J.length))) (by congr 1; omega) ?_
        refine x_iast (ws' := [(h, .inr (2, [.ref e0, .ref v0, .int (nI rn), .ref l0, .ref b0, .int (nI (m + 1)), .int y1, .int y2, .int y3, .int y4])), (e0, .inl (cA, 33000, .inl (E))), (v0, .inl (cA, 66000, .inl (V))), (l0, .inl (cA, 200000, .inl (La))), (b0, .inl (cA, 15, .inl (upd B (m + 1) (nI (off (iS st) m + 2 * J.length)))))]) C d_M_become_138 4 rfl (by omega) (by omega) rfl ?_
        refine x_iconst (v := (nI (1))) C d_M_become_139 (by decide) ?_
        exact x_zret C hr (by decide) d_M_become_140 (La, upd B (m + 1) (nI (off (iS st) m + 2 * J.length)), ((y1), (y2), (y3), (y4))) rfl (⟨rfl, by
          have h5 : Hs 200000 15 L B (iS (st.take m)) := by rw [iS_take]; exact Hs.taken la (by rw [iS_len]; omega) hL
          have h6 : tot (iS (st.take m)) = off (iS st) m := by rw [iS_take]; exact tot_take _ _
          have h7 : (iS (st.take m)).length = m := by rw [iS_len, List.length_take]; omega
          refine h5.last (s := []) (by omega) (by rw [h6, fl_len]; omega) (fun i hi => pk_un (by omega)) (by rw [h7, h6, fl_len]; exact pk_us) (fun j hj => h1 j (by omega)) (fun j hj => ?_)
          dsimp only
          rw [h6, h2 j (by rw [fl_len] at hj; omega)]
          exact seg_at hs j hj⟩)
      · exact absurd c82 (by omega)
    | succ d ih =>
      intro k La y1 y2 y3 y4 hk h1 h2 h3
      refine x_iload C d_M_become_76 rfl ?_
      refine x_iload_n C d_M_become_78 rfl rfl ?_
      refine x_iload C d_M_become_79 rfl ?_
      refine x_isubN C d_M_become_81 (by omega) ?_
      refine x_top (y := (nI (2 * J.length))) (by congr 1; omega) ?_
      refine x_icmp_geN (tgt := 111) C d_M_become_82 (by decide) (by omega) (by omega) (fun c82 => ?_) (fun c82 => ?_)
      · exact absurd c82 (by omega)
      · refine x_aload_n C d_M_become_85 rfl rfl ?_
        refine x_get C d_M_become_86 0 rfl rfl i_M 3 (by decide) lk_M_19 rfl rfl ?_
        refine x_iload C d_M_become_89 rfl ?_
        refine x_iload C d_M_become_91 rfl ?_
        refine x_iaddN C d_M_become_93  ?_
        refine x_aload_n C d_M_become_94 rfl rfl ?_
        refine x_get C d_M_become_95 0 rfl rfl i_M 3 (by decide) lk_M_19 rfl rfl ?_
        refine x_iload C d_M_become_98 rfl ?_
        refine x_iload C d_M_become_100 rfl ?_
        refine x_iaddN C d_M_become_102  ?_
        refine x_iald C d_M_become_103 3 rfl (by omega) (by omega) ?_
        refine x_top (y := (L (tot (iS st) + k))) (h3 k (Nat.le_refl _)) ?_
        refine x_iast (ws' := [(h, .inr (2, [.ref e0, .ref v0, .int (nI rn), .ref l0, .ref b0, .int (nI ns), .int y1, .int y2, .int y3, .int y4])), (e0, .inl (cA, 33000, .inl (E))), (v0, .inl (cA, 66000, .inl (V))), (l0, .inl (cA, 200000, .inl (upd La ((off (iS st) m) + k) (L (tot (iS st) + k))))), (b0, .inl (cA, 15, .inl (B)))]) C d_M_become_104 3 rfl (by omega) (by omega) rfl ?_
        refine x_iincN (lv' := [(6, .int (nI (k + 1))), (5, .int (nI (off (iS st) m))), (4, .int (nI (tot (iS st)))), (0, .ref h), (1, .int (nI la)), (2, .int (nI (tot (iS st) + 2 * J.length)))]) C d_M_become_105 rfl (by decide) rfl ?_
        refine x_goto (tgt := 76) C d_M_become_108 (by decide) ?_
        refine x_lv (lv' := [(6, .int (nI (k + 1))), (5, .int (nI (off (iS st) m))), (4, .int (nI (tot (iS st)))), (0, .ref h), (1, .int (nI la)), (2, .int (nI (tot (iS st) + 2 * J.length)))]) (Or.inr (List.forall_mem_cons.mpr ⟨rfl, List.forall_mem_cons.mpr ⟨rfl, List.forall_mem_cons.mpr ⟨rfl, List.forall_mem_cons.mpr ⟨rfl, List.forall_mem_cons.mpr ⟨rfl, List.forall_mem_cons.mpr ⟨rfl, fun _ h9 => absurd h9 List.not_mem_nil⟩⟩⟩⟩⟩⟩)) ?_
        exact ih (k + 1) _ _ _ _ _ (by omega) (fun x hx => by rw [pk_un (by omega)]; exact h1 x hx) (fun y hy => by
          by_cases h9 : y = k
          · subst h9
            rw [pk_us]
          · rw [pk_un (by omega)]
            exact h2 y (by omega)) (fun y hy => by rw [pk_un (by omega)]; exact h3 y (by omega))
  have LP : ∀ (d k : Nat) (y1 y2 y3 y4 : Int32), k + d = m → X p_ l e_ ({ frames := 3, cells := 0, slots := 0, locals := 76 } : Room) s_ m_ args_ below_ meth_ c_ D A_ 7 0 0 (MQ below_ (va_Qi (fun r (u : ((Nat → Int32) × (Nat → Int32) × (Int32 × Int32 × Int32 × Int32))) => r = nI 1 ∧ Hs 200000 15 u.1 u.2.1 (iS (st.take m) ++ [fl J])) (Bw D A_ (fun u => (mW cA h e0 v0 l0 b0 E V (u.1) (u.2.1) rn (m + 1) (u.2.2.1) (u.2.2.2.1) (u.2.2.2.2.1) (u.2.2.2.2.2)))) A_) args_ s_ 0 0 A_) [(h, .inr (2, [.ref e0, .ref v0, .int (nI rn), .ref l0, .ref b0, .int (nI ns), .int y1, .int y2, .int y3, .int y4])), (e0, .inl (cA, 33000, .inl (E))), (v0, .inl (cA, 66000, .inl (V))), (l0, .inl (cA, 200000, .inl (L))), (b0, .inl (cA, 15, .inl (B)))] 5 [(4, .int (nI k)), (3, .int (nI (tot (kT n (st.take k))))), (0, .ref h), (1, .int (nI la)), (2, .int (nI (tot (iS st) + 2 * J.length)))] [] := by
    intro d
    induction d with
    | zero =>
      intro k y1 y2 y3 y4 hk
      have hk2 : k = m := by omega
      subst hk2
      refine x_iload C d_M_become_5 rfl ?_
      refine x_aload_n C d_M_become_7 rfl rfl ?_
      refine x_get C d_M_become_8 0 rfl rfl i_M 5 (by decide) lk_M_54 rfl rfl ?_
      refine x_iload_n C d_M_become_11 rfl rfl ?_
      refine x_isubN C d_M_become_12 (by omega) ?_
      refine x_icmp_geN (tgt := 31) C d_M_become_13 (by decide) (by omega) (by omega) (fun c13 => ?_) (fun c13 => ?_)
      · refine x_aload_n C d_M_become_31 rfl rfl ?_
        refine x_get C d_M_become_32 0 rfl rfl i_M 4 (by decide) lk_M_22 rfl rfl ?_
        refine x_aload_n C d_M_become_35 rfl rfl ?_
        refine x_get C d_M_become_36 0 rfl rfl i_M 5 (by decide) lk_M_54 rfl rfl ?_
        refine x_iald C d_M_become_39 4 rfl (by omega) (by omega) ?_
        refine x_top (y := (nI (tot (iS st)))) htop ?_
        refine x_istore (lv' := [(4, .int (nI (tot (iS st)))), (3, .int (nI (tot (kT n (st.take k))))), (0, .ref h), (1, .int (nI la)), (2, .int (nI (tot (iS st) + 2 * J.length)))]) C d_M_become_40 (by decide) rfl ?_
        refine x_iload_n C d_M_become_42 rfl rfl ?_
        refine x_aload_n C d_M_become_43 rfl rfl ?_
        refine x_iload C d_M_become_44 rfl ?_
        refine x_iload_n C d_M_become_46 rfl rfl ?_
        refine x_iconst (v := ((-1))) C d_M_become_47 (by decide) ?_
        refine x_callVI (wr := []) (rest := [.int (nI (tot (kT n (st.take k))))]) C (c_M_goAlong (wt := (-1)) (a := tot (iS st)) (J := J) hE hn hiv hs (by omega)) d_M_become_48 cd_M_goAlong lk_M_61 dd_M_goAlong rfl ⟨Nat.le_of_ble_eq_true rfl, Nat.le_of_ble_eq_true rfl⟩ ⟨Nat.le_refl _, Nat.le_refl _⟩ 2 0 rfl rfl [0, 1, 2, 3, 4] [] rfl rfl (by decide) (by decide) (by decide) rfl (Nat.le_of_ble_eq_true rfl) ?_
        intro r_ ug hp_
        obtain ⟨rfl, -, hfd⟩ := hp_
        refine x_iaddN C d_M_become_51  ?_
        refine x_sipush (v := (nI (3000))) C d_M_become_52 (by decide) ?_
        refine x_icmp_leN (tgt := 60) C d_M_become_55 (by decide) (by omega) (by omega) (fun c55 => ?_) (fun c55 => ?_)
        · refine x_aload_n C d_M_become_60 rfl rfl ?_
          refine x_get C d_M_become_61 0 rfl rfl i_M 4 (by decide) lk_M_22 rfl rfl ?_
          refine x_aload_n C d_M_become_64 rfl rfl ?_
          refine x_get C d_M_become_65 0 rfl rfl i_M 5 (by decide) lk_M_54 rfl rfl ?_
          refine x_iload_n C d_M_become_68 rfl rfl ?_
          refine x_isubN C d_M_become_69 (by omega) ?_
          refine x_top (y := (nI (k))) (by congr 1; omega) ?_
          refine x_iald C d_M_become_70 4 rfl (by omega) (by omega) ?_
          refine x_top (y := (nI (off (iS st) k))) hbm ?_
          refine x_istore (lv' := [(5, .int (nI (off (iS st) k))), (4, .int (nI (tot (iS st)))), (3, .int (nI (tot (kT n (st.take k))))), (0, .ref h), (1, .int (nI la)), (2, .int (nI (tot (iS st) + 2 * J.length)))]) C d_M_become_71 (by decide) rfl ?_
          refine x_iconst (v := (nI (0))) C d_M_become_73 (by decide) ?_
          refine x_istore (lv' := [(6, .int (nI 0)), (5, .int (nI (off (iS st) k))), (4, .int (nI (tot (iS st)))), (3, .int (nI (tot (kT n (st.take k))))), (0, .ref h), (1, .int (nI la)), (2, .int (nI (tot (iS st) + 2 * J.length)))]) C d_M_become_74 (by decide) rfl ?_
          refine x_lv (lv' := [(6, .int (nI 0)), (5, .int (nI (off (iS st) k))), (4, .int (nI (tot (iS st)))), (0, .ref h), (1, .int (nI la)), (2, .int (nI (tot (iS st) + 2 * J.length)))]) (Or.inr (List.forall_mem_cons.mpr ⟨rfl, List.forall_mem_cons.mpr ⟨rfl, List.forall_mem_cons.mpr ⟨rfl, List.forall_mem_cons.mpr ⟨rfl, List.forall_mem_cons.mpr ⟨rfl, List.forall_mem_cons.mpr ⟨rfl, fun _ h9 => absurd h9 List.not_mem_nil⟩⟩⟩⟩⟩⟩)) ?_
          exact LP2 (2 * J.length) 0 L _ _ _ _ (by omega) (fun _ _ => rfl) (fun y hy => absurd hy (Nat.not_lt_zero y)) (fun _ _ => rfl)
        · exact absurd c55 (by omega)
      · exact absurd c13 (by omega)
    | succ d ih =>
      intro k y1 y2 y3 y4 hk
      obtain ⟨p, hp⟩ : ∃ p, st[k]? = some p := ⟨st[k], List.getElem?_eq_getElem (by omega)⟩
      refine x_iload C d_M_become_5 rfl ?_
      refine x_aload_n C d_M_become_7 rfl rfl ?_
      refine x_get C d_M_become_8 0 rfl rfl i_M 5 (by decide) lk_M_54 rfl rfl ?_
      refine x_iload_n C d_M_become_11 rfl rfl ?_
      refine x_isubN C d_M_become_12 (by omega) ?_
      refine x_icmp_geN (tgt := 31) C d_M_become_13 (by decide) (by omega) (by omega) (fun c13 => ?_) (fun c13 => ?_)
      · exact absurd c13 (by omega)
      · refine x_iload_n C d_M_become_16 rfl rfl ?_
        refine x_aload_n C d_M_become_17 rfl rfl ?_
        refine x_iload C d_M_become_18 rfl ?_
        refine x_callVI (wr := []) (rest := [.int (nI (tot (kT n (st.take k))))]) C (c_M_wordsOf hE hn hO hL hns hp) d_M_become_20 cd_M_wordsOf lk_M_68 dd_M_wordsOf rfl ⟨Nat.le_of_ble_eq_true rfl, Nat.le_of_ble_eq_true rfl⟩ ⟨Nat.le_refl _, Nat.le_refl _⟩ 2 0 rfl rfl [0, 1, 2, 3, 4] [] rfl rfl (by decide) (by decide) (by decide) rfl (Nat.le_of_ble_eq_true rfl) ?_
        intro r_ u15 hp_
        obtain rfl := hp_
        refine x_iaddN C d_M_become_23  ?_
        refine x_top (y := (nI (tot (kT n (st.take (k + 1)))))) (by rw [take_snoc hp, kT_snoc, tot_app, tot_one]) ?_
        refine x_istore_n (lv' := [(3, .int (nI (tot (kT n (st.take (k + 1)))))), (4, .int (nI k)), (0, .ref h), (1, .int (nI la)), (2, .int (nI (tot (iS st) + 2 * J.length)))]) C d_M_become_24 rfl (by decide) rfl ?_
        refine x_iincN (lv' := [(4, .int (nI (k + 1))), (3, .int (nI (tot (kT n (st.take (k + 1)))))), (0, .ref h), (1, .int (nI la)), (2, .int (nI (tot (iS st) + 2 * J.length)))]) C d_M_become_25 rfl (by decide) rfl ?_
        refine x_goto (tgt := 5) C d_M_become_28 (by decide) ?_
        refine x_lv (lv' := [(4, .int (nI (k + 1))), (3, .int (nI (tot (kT n (st.take (k + 1)))))), (0, .ref h), (1, .int (nI la)), (2, .int (nI (tot (iS st) + 2 * J.length)))]) (Or.inr (List.forall_mem_cons.mpr ⟨rfl, List.forall_mem_cons.mpr ⟨rfl, List.forall_mem_cons.mpr ⟨rfl, List.forall_mem_cons.mpr ⟨rfl, List.forall_mem_cons.mpr ⟨rfl, fun _ h9 => absurd h9 List.not_mem_nil⟩⟩⟩⟩⟩)) ?_
        exact ih (k + 1) _ _ _ _ (by omega)
  refine x_iconst (v := (nI (0))) C d_M_become_0 (by decide) ?_
  refine x_istore_n (lv' := [(3, .int (nI 0)), (0, .ref h), (1, .int (nI la)), (2, .int (nI (tot (iS st) + 2 * J.length)))]) C d_M_become_1 rfl (by decide) rfl ?_
  refine x_iconst (v := (nI (0))) C d_M_become_2 (by decide) ?_
  refine x_istore (lv' := [(4, .int (nI 0)), (3, .int (nI 0)), (0, .ref h), (1, .int (nI la)), (2, .int (nI (tot (iS st) + 2 * J.length)))]) C d_M_become_3 (by decide) rfl ?_
  refine x_lv (lv' := [(4, .int (nI 0)), (3, .int (nI 0)), (0, .ref h), (1, .int (nI la)), (2, .int (nI (tot (iS st) + 2 * J.length)))]) (Or.inr (List.forall_mem_cons.mpr ⟨rfl, List.forall_mem_cons.mpr ⟨rfl, List.forall_mem_cons.mpr ⟨rfl, List.forall_mem_cons.mpr ⟨rfl, List.forall_mem_cons.mpr ⟨rfl, fun _ h9 => absurd h9 List.not_mem_nil⟩⟩⟩⟩⟩)) ?_
  exact LP m 0 _ _ _ _ (by omega)
set_option maxHeartbeats 4000000 in
theorem c_M_become_full {l : Launch} {D : va_G} {cA : ClassId} {h e0 v0 l0 b0 rn ns : Nat} {E V L B : Nat → Int32} {pl sn wa wf : Int32} {en : Nat → Nat} {vl : Nat → Nat → Nat} (hE : Rn E V rn en vl) {n : Nat} {st : List ((Nat → Bool) × List (Nat × Nat))} (hn : bnd en rn = n) (hO : Ok en rn st) (hL : Hs 200000 15 L B (iS st)) (hns : st.length = ns) {f : Nat → Bool} {J : List (Nat × Nat)} {la m : Nat} (hJ : Ik en rn f J) (hs : seg L (tot (iS st)) J) (h13 : st.length ≤ 12) (hm : m + la = st.length) (hla : 1 ≤ la) (hno : 3000 < tot (kT n (st.take m)) + (wI n f).length)  : CtI l D cA y_M_become b_M_become 7 (some .boolean) ({ frames := 3, cells := 0, slots := 0, locals := 76 } : Room) [.ref h, .int (nI la), .int (nI (tot (iS st) + 2 * J.length))] (mW cA h e0 v0 l0 b0 E V L B rn ns pl sn wa wf) (fun r (_ : (Int32 × Int32 × Int32 × Int32)) => r = nI 0) (fun u => (mW cA h e0 v0 l0 b0 E V L B rn ns (u.1) (u.2.1) (u.2.2.1) (u.2.2.2))) := by
  refine CtI.start (lv0 := [(0, .ref h), (1, .int (nI la)), (2, .int (nI (tot (iS st) + 2 * J.length)))]) (by decide) rfl (Nat.le_of_ble_eq_true rfl) ?_
  intro p_ e_ s_ m_ args_ below_ meth_ c_ A_ C hr hin
  have hnm := hL.nums
  rw [iS_len] at hnm
  have hsm := iS_small hE hO (by omega)
  have hJl := hJ.2.2.1
  have hr0 := hE.1
  have hn2 : n ≤ 1000000 := by rw [← hn]; exact bnd_le hE rn (Nat.le_refl _)
  have hiv : Iv n f J := by rw [← hn]; exact hJ.iv hE (Nat.le_refl _)
  have hwl := wI_len n f
  have hlen1 := Wd_len (n := n) (f := f) hn2
  have hlen2 := kT_tot (st := st.take m) (n := n) hn2 (by rw [List.length_take]; omega)
  have htop : B ns = nI (tot (iS st)) := by rw [← hns, ← iS_len st]; exact hL.top
  have hbm : B m = nI (off (iS st) m) := hL.bd (by rw [iS_len]; omega)
  have hom := off_le (iS st) m
  have LP : ∀ (d k : Nat) (y1 y2 y3 y4 : Int32), k + d = m → X p_ l e_ ({ frames := 3, cells := 0, slots := 0, locals := 76 } : Room) s_ m_ args_ below_ meth_ c_ D A_ 7 0 0 (MQ below_ (va_Qi (fun r (_ : (Int32 × Int32 × Int32 × Int32)) => r = nI 0) (Bw D A_ (fun u => (mW cA h e0 v0 l0 b0 E V L B rn ns (u.1) (u.2.1) (u.2.2.1) (u.2.2.2)))) A_) args_ s_ 0 0 A_) [(h, .inr (2, [.ref e0, .ref v0, .int (nI rn), .ref l0, .ref b0, .int (nI ns), .int y1, .int y2, .int y3, .int y4])), (e0, .inl (cA, 33000, .inl (E))), (v0, .inl (cA, 66000, .inl (V))), (l0, .inl (cA, 200000, .inl (L))), (b0, .inl (cA, 15, .inl (B)))] 5 [(4, .int (nI k)), (3, .int (nI (tot (kT n (st.take k))))), (0, .ref h), (1, .int (nI la)), (2, .int (nI (tot (iS st) + 2 * J.length)))] [] := by
    intro d
    induction d with
    | zero =>
      intro k y1 y2 y3 y4 hk
      have hk2 : k = m := by omega
      subst hk2
      refine x_iload C d_M_become_5 rfl ?_
      refine x_aload_n C d_M_become_7 rfl rfl ?_
      refine x_get C d_M_become_8 0 rfl rfl i_M 5 (by decide) lk_M_54 rfl rfl ?_
      refine x_iload_n C d_M_become_11 rfl rfl ?_
      refine x_isubN C d_M_become_12 (by omega) ?_
      refine x_icmp_geN (tgt := 31) C d_M_become_13 (by decide) (by omega) (by omega) (fun c13 => ?_) (fun c13 => ?_)
      · refine x_aload_n C d_M_become_31 rfl rfl ?_
        refine x_get C d_M_become_32 0 rfl rfl i_M 4 (by decide) lk_M_22 rfl rfl ?_
        refine x_aload_n C d_M_become_35 rfl rfl ?_
        refine x_get C d_M_become_36 0 rfl rfl i_M 5 (by decide) lk_M_54 rfl rfl ?_
        refine x_iald C d_M_become_39 4 rfl (by omega) (by omega) ?_
        refine x_top (y := (nI (tot (iS st)))) htop ?_
        refine x_istore (lv' := [(4, .int (nI (tot (iS st)))), (3, .int (nI (tot (kT n (st.take k))))), (0, .ref h), (1, .int (nI la)), (2, .int (nI (tot (iS st) + 2 * J.length)))]) C d_M_become_40 (by decide) rfl ?_
        refine x_iload_n C d_M_become_42 rfl rfl ?_
        refine x_aload_n C d_M_become_43 rfl rfl ?_
        refine x_iload C d_M_become_44 rfl ?_
        refine x_iload_n C d_M_become_46 rfl rfl ?_
        refine x_iconst (v := ((-1))) C d_M_become_47 (by decide) ?_
        refine x_callVI (wr := []) (rest := [.int (nI (tot (kT n (st.take k))))]) C (c_M_goAlong (wt := (-1)) (a := tot (iS st)) (J := J) hE hn hiv hs (by omega)) d_M_become_48 cd_M_goAlong lk_M_61 dd_M_goAlong rfl ⟨Nat.le_of_ble_eq_true rfl, Nat.le_of_ble_eq_true rfl⟩ ⟨Nat.le_refl _, Nat.le_refl _⟩ 2 0 rfl rfl [0, 1, 2, 3, 4] [] rfl rfl (by decide) (by decide) (by decide) rfl (Nat.le_of_ble_eq_true rfl) ?_
        intro r_ ug hp_
        obtain ⟨rfl, -, hfd⟩ := hp_
        refine x_iaddN C d_M_become_51  ?_
        refine x_sipush (v := (nI (3000))) C d_M_become_52 (by decide) ?_
        refine x_icmp_leN (tgt := 60) C d_M_become_55 (by decide) (by omega) (by omega) (fun c55 => ?_) (fun c55 => ?_)
        · exact absurd c55 (by omega)
        · refine x_iconst (v := (nI (0))) C d_M_become_58 (by decide) ?_
          exact x_zret C hr (by decide) d_M_become_59 ((nI (tot (iS st) + 2 * ug.1)), (nI ((Wd n f).length)), ((-1)), (ug.2)) rfl (rfl)
      · exact absurd c13 (by omega)
    | succ d ih =>
      intro k y1 y2 y3 y4 hk
      obtain ⟨p, hp⟩ : ∃ p, st[k]? = some p := ⟨st[k], List.getElem?_eq_getElem (by omega)⟩
      refine x_iload C d_M_become_5 rfl ?_
      refine x_aload_n C d_M_become_7 rfl rfl ?_
      refine x_get C d_M_become_8 0 rfl rfl i_M 5 (by decide) lk_M_54 rfl rfl ?_
      refine x_iload_n C d_M_become_11 rfl rfl ?_
      refine x_isubN C d_M_become_12 (by omega) ?_
      refine x_icmp_geN (tgt := 31) C d_M_become_13 (by decide) (by omega) (by omega) (fun c13 => ?_) (fun c13 => ?_)
      · exact absurd c13 (by omega)
      · refine x_iload_n C d_M_become_16 rfl rfl ?_
        refine x_aload_n C d_M_become_17 rfl rfl ?_
        refine x_iload C d_M_become_18 rfl ?_
        refine x_callVI (wr := []) (rest := [.int (nI (tot (kT n (st.take k))))]) C (c_M_wordsOf hE hn hO hL hns hp) d_M_become_20 cd_M_wordsOf lk_M_68 dd_M_wordsOf rfl ⟨Nat.le_of_ble_eq_true rfl, Nat.le_of_ble_eq_true rfl⟩ ⟨Nat.le_refl _, Nat.le_refl _⟩ 2 0 rfl rfl [0, 1, 2, 3, 4] [] rfl rfl (by decide) (by decide) (by decide) rfl (Nat.le_of_ble_eq_true rfl) ?_
        intro r_ u15 hp_
        obtain rfl := hp_
        refine x_iaddN C d_M_become_23  ?_
        refine x_top (y := (nI (tot (kT n (st.take (k + 1)))))) (by rw [take_snoc hp, kT_snoc, tot_app, tot_one]) ?_
        refine x_istore_n (lv' := [(3, .int (nI (tot (kT n (st.take (k + 1)))))), (4, .int (nI k)), (0, .ref h), (1, .int (nI la)), (2, .int (nI (tot (iS st) + 2 * J.length)))]) C d_M_become_24 rfl (by decide) rfl ?_
        refine x_iincN (lv' := [(4, .int (nI (k + 1))), (3, .int (nI (tot (kT n (st.take (k + 1)))))), (0, .ref h), (1, .int (nI la)), (2, .int (nI (tot (iS st) + 2 * J.length)))]) C d_M_become_25 rfl (by decide) rfl ?_
        refine x_goto (tgt := 5) C d_M_become_28 (by decide) ?_
        refine x_lv (lv' := [(4, .int (nI (k + 1))), (3, .int (nI (tot (kT n (st.take (k + 1)))))), (0, .ref h), (1, .int (nI la)), (2, .int (nI (tot (iS st) + 2 * J.length)))]) (Or.inr (List.forall_mem_cons.mpr ⟨rfl, List.forall_mem_cons.mpr ⟨rfl, List.forall_mem_cons.mpr ⟨rfl, List.forall_mem_cons.mpr ⟨rfl, List.forall_mem_cons.mpr ⟨rfl, fun _ h9 => absurd h9 List.not_mem_nil⟩⟩⟩⟩⟩)) ?_
        exact ih (k + 1) _ _ _ _ (by omega)
  refine x_iconst (v := (nI (0))) C d_M_become_0 (by decide) ?_
  refine x_istore_n (lv' := [(3, .int (nI 0)), (0, .ref h), (1, .int (nI la)), (2, .int (nI (tot (iS st) + 2 * J.length)))]) C d_M_become_1 rfl (by decide) rfl ?_
  refine x_iconst (v := (nI (0))) C d_M_become_2 (by decide) ?_
  refine x_istore (lv' := [(4, .int (nI 0)), (3, .int (nI 0)), (0, .ref h), (1, .int (nI la)), (2, .int (nI (tot (iS st) + 2 * J.length)))]) C d_M_become_3 (by decide) rfl ?_
  refine x_lv (lv' := [(4, .int (nI 0)), (3, .int (nI 0)), (0, .ref h), (1, .int (nI la)), (2, .int (nI (tot (iS st) + 2 * J.length)))]) (Or.inr (List.forall_mem_cons.mpr ⟨rfl, List.forall_mem_cons.mpr ⟨rfl, List.forall_mem_cons.mpr ⟨rfl, List.forall_mem_cons.mpr ⟨rfl, List.forall_mem_cons.mpr ⟨rfl, fun _ h9 => absurd h9 List.not_mem_nil⟩⟩⟩⟩⟩)) ?_
  exact LP m 0 _ _ _ _ (by omega)
