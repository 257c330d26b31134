/-! the reference's stack -/
def iS (st : List ((Nat → Bool) × List (Nat × Nat))) : List (List Int32) := st.map (fun p => fl p.2)
def kT (n : Nat) (st : List ((Nat → Bool) × List (Nat × Nat))) : List (List Int32) := st.map (fun p => wI n p.1)
def Ok (en : Nat → Nat) (rn : Nat) (st : List ((Nat → Bool) × List (Nat × Nat))) : Prop := ∀ p ∈ st, Ik en rn p.1 p.2
theorem iS_len (st : List ((Nat → Bool) × List (Nat × Nat))) : (iS st).length = st.length := by simp [iS]
theorem iS_get {st : List ((Nat → Bool) × List (Nat × Nat))} {i : Nat} {p : (Nat → Bool) × List (Nat × Nat)} (h : st[i]? = some p) : (iS st).getD i [] = fl p.2 := by
  simp [iS, List.getD_eq_getElem?_getD, h]
theorem iS_snoc (st : List ((Nat → Bool) × List (Nat × Nat))) (p : (Nat → Bool) × List (Nat × Nat)) : iS (st ++ [p]) = iS st ++ [fl p.2] := by simp [iS]
theorem kT_snoc (n : Nat) (st : List ((Nat → Bool) × List (Nat × Nat))) (p : (Nat → Bool) × List (Nat × Nat)) : kT n (st ++ [p]) = kT n st ++ [wI n p.1] := by simp [kT]
theorem iS_tot {en : Nat → Nat} {rn : Nat} : ∀ {st : List ((Nat → Bool) × List (Nat × Nat))}, Ok en rn st → tot (iS st) ≤ 2 * rn * st.length
  | [], _ => by simp [iS, tot]
  | p :: st, h => by
    have ih := iS_tot (st := st) (fun q hq => h q (List.mem_cons_of_mem _ hq))
    have h1 := (h p List.mem_cons_self).2.2.1
    have h2 := fl_len p.2
    show tot ([fl p.2] ++ iS st) ≤ _
    rw [tot_app, tot_one, List.length_cons, Nat.mul_add]
    omega
theorem iS_small {E V : Nat → Int32} {en : Nat → Nat} {rn : Nat} {vl : Nat → Nat → Nat} {st : List ((Nat → Bool) × List (Nat × Nat))} (hE : Rn E V rn en vl) (h : Ok en rn st) (hl : st.length ≤ 13) : tot (iS st) ≤ 13520 := by
  have h1 := iS_tot h
  have h2 : 2 * rn * st.length ≤ 2 * 520 * 13 := Nat.mul_le_mul (Nat.mul_le_mul_left 2 hE.1) hl
  omega
theorem set_in {en : Nat → Nat} {rn : Nat} {L B : Nat → Int32} {st : List ((Nat → Bool) × List (Nat × Nat))} (hO : Ok en rn st) (hL : Hs 200000 15 L B (iS st)) {i : Nat} {p : (Nat → Bool) × List (Nat × Nat)} (h : st[i]? = some p) : Ik en rn p.1 p.2 ∧ seg L (off (iS st) i) p.2 ∧ off (iS st) (i + 1) = off (iS st) i + 2 * p.2.length ∧ off (iS st) (i + 1) ≤ tot (iS st) := by
  have hi : i < (iS st).length := by rw [iS_len]; exact (List.getElem?_eq_some_iff.mp h).1
  refine ⟨hO p (List.mem_of_getElem? h), hL.sgm hi (iS_get h), ?_, off_le _ _⟩
  rw [off_succ hi, iS_get h, fl_len]
theorem ex_ge_len : ∀ {ws : List (Nat × Nat)}, canon ws → ws.length ≤ (ex ws).length
  | [], _ => Nat.le_refl _
  | w :: ws, h => by
    rw [ex_cons, List.length_append, List.length_replicate, List.length_cons]
    have h1 := ex_ge_len h.2.2
    have h2 := h.1.1
    omega
theorem Wd_len {n : Nat} {f : Nat → Bool} (hn : n ≤ 1000000) : (Wd n f).length ≤ 40000 := by
  have h1 := ex_ge_len (Wd_rep n f).1
  rw [(Wd_rep n f).2, GL_len] at h1
  omega
theorem kT_tot {n : Nat} (hn : n ≤ 1000000) : ∀ {st : List ((Nat → Bool) × List (Nat × Nat))}, st.length ≤ 12 → tot (kT n st) ≤ 480000 := by
  have key : ∀ (k : Nat) (st : List ((Nat → Bool) × List (Nat × Nat))), st.length = k → tot (kT n st) ≤ 40000 * k := by
    intro k
    induction k with
    | zero =>
      intro st h
      rw [List.eq_nil_of_length_eq_zero h]
      simp [kT, tot]
    | succ k ih =>
      intro st h
      rcases List.eq_nil_or_concat st with rfl | ⟨st0, p, rfl⟩
      · cases h
      · rw [List.concat_eq_append] at *
        rw [List.length_append, List.length_singleton] at h
        have h1 := ih st0 (by omega)
        have h2 := Wd_len (n := n) (f := p.1) hn
        rw [kT_snoc, tot_app, tot_one, wI_len]
        omega
  intro st h
  have := key st.length st rfl
  have h2 : 40000 * st.length ≤ 40000 * 12 := Nat.mul_le_mul_left _ h
  omega
set_option maxHeartbeats 4000000 in
theorem c_M_wordsOf {l : Launch} {D : va_G} {cA : ClassId} {h e0 v0 l0 b0 rn ns : Nat} {E V L B : Nat → Int32} {pl sn wa wf : Int32} {en : Nat → Nat} {vl : Nat → Nat → Nat} (hE : Rn E V rn en vl) {n : Nat} {st : List ((Nat → Bool) × List (Nat × Nat))} (hn : bnd en rn = n) (hO : Ok en rn st) (hL : Hs 200000 15 L B (iS st)) (hns : st.length = ns) {i : Nat} {p : (Nat → Bool) × List (Nat × Nat)} (hp : st[i]? = some p)  : CtI l D cA y_M_wordsOf b_M_wordsOf 2 (some .int) ({ frames := 2, cells := 0, slots := 0, locals := 55 } : Room) [.ref h, .int (nI i)] (mW cA h e0 v0 l0 b0 E V L B rn ns pl sn wa wf) (fun r (_ : (Int32 × Int32 × Int32 × Int32)) => r = nI (wI n p.1).length) (fun u => (mW cA h e0 v0 l0 b0 E V L B rn ns (u.1) (u.2.1) (u.2.2.1) (u.2.2.2))) := by
  refine CtI.start (lv0 := [(0, .ref h), (1, .int (nI i))]) (by decide) rfl (Nat.le_of_ble_eq_true rfl) ?_
  intro p_ e_ s_ m_ args_ below_ meth_ c_ A_ C hr hin
  have hi := (List.getElem?_eq_some_iff.mp hp).1
  have hs0 := set_in hO hL hp
  have hnm := hL.nums
  rw [iS_len] at hnm
  have hil := iS_len st
  refine x_aload_n C d_M_wordsOf_0 rfl rfl ?_
  refine x_aload_n C d_M_wordsOf_1 rfl rfl ?_
  refine x_get C d_M_wordsOf_2 0 rfl rfl i_M 4 (by decide) lk_M_22 rfl rfl ?_
  refine x_iload_n C d_M_wordsOf_5 rfl rfl ?_
  refine x_iald C d_M_wordsOf_6 4 rfl (by omega) (by omega) ?_
  refine x_top (y := (nI (off (iS st) i))) (hL.bd (by omega)) ?_
  refine x_aload_n C d_M_wordsOf_7 rfl rfl ?_
  refine x_get C d_M_wordsOf_8 0 rfl rfl i_M 4 (by decide) lk_M_22 rfl rfl ?_
  refine x_iload_n C d_M_wordsOf_11 rfl rfl ?_
  refine x_iconst (v := (nI (1))) C d_M_wordsOf_12 (by decide) ?_
  refine x_iaddN C d_M_wordsOf_13  ?_
  refine x_iald C d_M_wordsOf_14 4 rfl (by omega) (by omega) ?_
  refine x_top (y := (nI (off (iS st) i + 2 * p.2.length))) (by rw [hL.bd (by omega), hs0.2.2.1]) ?_
  refine x_iconst (v := ((-1))) C d_M_wordsOf_15 (by decide) ?_
  refine x_callVI (wr := []) (rest := []) C (c_M_goAlong (wt := (-1)) (a := off (iS st) i) (J := p.2) hE hn (by rw [← hn]; exact hs0.1.iv hE (Nat.le_refl _)) hs0.2.1 (by omega)) d_M_wordsOf_16 cd_M_goAlong lk_M_61 dd_M_goAlong rfl ⟨Nat.le_of_ble_eq_true rfl, Nat.le_of_ble_eq_true rfl⟩ ⟨Nat.le_refl _, Nat.le_refl _⟩ 2 0 rfl rfl [0, 1, 2, 3, 4] [] rfl rfl (by decide) (by decide) (by decide) rfl (Nat.le_of_ble_eq_true rfl) ?_
  intro r_ ug hp_
  obtain ⟨rfl, -, hfd⟩ := hp_
  exact x_iret C hr d_M_wordsOf_19 ((nI (off (iS st) i + 2 * ug.1)), (nI ((Wd n p.1).length)), ((-1)), (ug.2)) rfl (by rw [wI_len])
set_option maxHeartbeats 4000000 in
theorem c_M_stackRoom {l : Launch} {D : va_G} {cA : ClassId} {h e0 v0 l0 b0 rn ns : Nat} {E V L B : Nat → Int32} {pl sn wa wf : Int32} {en : Nat → Nat} {vl : Nat → Nat → Nat} (hE : Rn E V rn en vl) {n : Nat} {st : List ((Nat → Bool) × List (Nat × Nat))} (hn : bnd en rn = n) (hO : Ok en rn st) (hL : Hs 200000 15 L B (iS st)) (hns : st.length = ns)  : CtI l D cA y_M_stackRoom b_M_stackRoom 3 (some .int) ({ frames := 3, cells := 0, slots := 0, locals := 76 } : Room) [.ref h] (mW cA h e0 v0 l0 b0 E V L B rn ns pl sn wa wf) (fun r (_ : (Int32 × Int32 × Int32 × Int32)) => r = nI (tot (kT n st))) (fun u => (mW cA h e0 v0 l0 b0 E V L B rn ns (u.1) (u.2.1) (u.2.2.1) (u.2.2.2))) := by
  refine CtI.start (lv0 := [(0, .ref h)]) (by decide) rfl (Nat.le_of_ble_eq_true rfl) ?_
  intro p_ e_ s_ m_ args_ below_ meth_ c_ A_ C hr hin
  have hnm := hL.nums
  rw [iS_len] at hnm
  have LP : ∀ (d k : Nat) (y1 y2 y3 y4 : Int32), k + d = st.length → X p_ l e_ ({ frames := 3, cells := 0, slots := 0, locals := 76 } : Room) s_ m_ args_ below_ meth_ c_ D A_ 3 0 0 (MQ below_ (va_Qi (fun r (_ : (Int32 × Int32 × Int32 × Int32)) => r = nI (tot (kT n st))) (Bw D A_ (fun u => (mW cA h e0 v0 l0 b0 E V L B rn ns (u.1) (u.2.1) (u.2.2.1) (u.2.2.2)))) A_) args_ s_ 0 0 A_) [(h, .inr (2, [.ref e0, .ref v0, .int (nI rn), .ref l0, .ref b0, .int (nI ns), .int y1, .int y2, .int y3, .int y4])), (e0, .inl (cA, 33000, .inl (E))), (v0, .inl (cA, 66000, .inl (V))), (l0, .inl (cA, 200000, .inl (L))), (b0, .inl (cA, 15, .inl (B)))] 4 [(2, .int (nI k)), (1, .int (nI (tot (kT n (st.take k))))), (0, .ref h)] [] := by
    intro d
    induction d with
    | zero =>
      intro k y1 y2 y3 y4 hk
      refine x_iload_n C d_M_stackRoom_4 rfl rfl ?_
      refine x_aload_n C d_M_stackRoom_5 rfl rfl ?_
      refine x_get C d_M_stackRoom_6 0 rfl rfl i_M 5 (by decide) lk_M_54 rfl rfl ?_
      refine x_icmp_geN (tgt := 26) C d_M_stackRoom_9 (by decide) (by omega) (by omega) (fun c9 => ?_) (fun c9 => ?_)
      · refine x_iload_n C d_M_stackRoom_26 rfl rfl ?_
        exact x_iret C hr d_M_stackRoom_27 (y1, y2, y3, y4) rfl (by rw [List.take_of_length_le (by omega)])
      · exact absurd c9 (by omega)
    | succ d ih =>
      intro k y1 y2 y3 y4 hk
      obtain ⟨p, hp⟩ : ∃ p, st[k]? = some p := ⟨st[k], List.getElem?_eq_getElem (by omega)⟩
      refine x_iload_n C d_M_stackRoom_4 rfl rfl ?_
      refine x_aload_n C d_M_stackRoom_5 rfl rfl ?_
      refine x_get C d_M_stackRoom_6 0 rfl rfl i_M 5 (by decide) lk_M_54 rfl rfl ?_
      refine x_icmp_geN (tgt := 26) C d_M_stackRoom_9 (by decide) (by omega) (by omega) (fun c9 => ?_) (fun c9 => ?_)
      · exact absurd c9 (by omega)
      · refine x_iload_n C d_M_stackRoom_12 rfl rfl ?_
        refine x_aload_n C d_M_stackRoom_13 rfl rfl ?_
        refine x_iload_n C d_M_stackRoom_14 rfl rfl ?_
        refine x_callVI (wr := []) (rest := [.int (nI (tot (kT n (st.take k))))]) C (c_M_wordsOf hE hn hO hL hns hp) d_M_stackRoom_15 cd_M_wordsOf lk_M_68 dd_M_wordsOf rfl ⟨Nat.le_of_ble_eq_true rfl, Nat.le_of_ble_eq_true rfl⟩ ⟨Nat.le_refl _, Nat.le_refl _⟩ 2 0 rfl rfl [0, 1, 2, 3, 4] [] rfl rfl (by decide) (by decide) (by decide) rfl (Nat.le_of_ble_eq_true rfl) ?_
        intro r_ u15 hp_
        obtain rfl := hp_
        refine x_iaddN C d_M_stackRoom_18  ?_
        refine x_top (y := (nI (tot (kT n (st.take (k + 1)))))) (by rw [take_snoc hp, kT_snoc, tot_app, tot_one]) ?_
        refine x_istore_n (lv' := [(1, .int (nI (tot (kT n (st.take (k + 1)))))), (2, .int (nI k)), (0, .ref h)]) C d_M_stackRoom_19 rfl (by decide) rfl ?_
        refine x_iincN (lv' := [(2, .int (nI (k + 1))), (1, .int (nI (tot (kT n (st.take (k + 1)))))), (0, .ref h)]) C d_M_stackRoom_20 rfl (by decide) rfl ?_
        refine x_goto (tgt := 4) C d_M_stackRoom_23 (by decide) ?_
        refine x_lv (lv' := [(2, .int (nI (k + 1))), (1, .int (nI (tot (kT n (st.take (k + 1)))))), (0, .ref h)]) (Or.inr (List.forall_mem_cons.mpr ⟨rfl, List.forall_mem_cons.mpr ⟨rfl, List.forall_mem_cons.mpr ⟨rfl, fun _ h9 => absurd h9 List.not_mem_nil⟩⟩⟩)) ?_
        exact ih (k + 1) _ _ _ _ (by omega)
  refine x_iconst (v := (nI (0))) C d_M_stackRoom_0 (by decide) ?_
  refine x_istore_n (lv' := [(1, .int (nI 0)), (0, .ref h)]) C d_M_stackRoom_1 rfl (by decide) rfl ?_
  refine x_iconst (v := (nI (0))) C d_M_stackRoom_2 (by decide) ?_
  refine x_istore_n (lv' := [(2, .int (nI 0)), (1, .int (nI 0)), (0, .ref h)]) C d_M_stackRoom_3 rfl (by decide) rfl ?_
  refine x_lv (lv' := [(2, .int (nI 0)), (1, .int (nI 0)), (0, .ref h)]) (Or.inr (List.forall_mem_cons.mpr ⟨rfl, List.forall_mem_cons.mpr ⟨rfl, List.forall_mem_cons.mpr ⟨rfl, fun _ h9 => absurd h9 List.not_mem_nil⟩⟩⟩)) ?_
  exact LP st.length 0 _ _ _ _ (by omega)
set_option maxHeartbeats 4000000 in
theorem c_M_comes {l : Launch} {D : va_G} {cA : ClassId} {h e0 v0 l0 b0 rn ns : Nat} {E V L B : Nat → Int32} {pl sn wa wf : Int32} {en : Nat → Nat} {vl : Nat → Nat → Nat} (hE : Rn E V rn en vl) {n : Nat} {st : List ((Nat → Bool) × List (Nat × Nat))} (hn : bnd en rn = n) (hO : Ok en rn st) (hL : Hs 200000 15 L B (iS st)) (hns : st.length = ns) {f : Nat → Bool} {J : List (Nat × Nat)} (hJ : Ik en rn f J) (hs : seg L (tot (iS st)) J) (h13 : st.length ≤ 12) (h12 : st.length < 12) (hfit : tot (kT n st) + (wI n f).length ≤ 3000)  : CtI l D cA y_M_comes b_M_comes 2 (some .boolean) ({ frames := 4, cells := 0, slots := 0, locals := 98 } : Room) [.ref h, .int (nI (tot (iS st) + 2 * J.length))] (mW cA h e0 v0 l0 b0 E V L B rn ns pl sn wa wf) (fun r (u : (Nat → Int32) × (Int32 × Int32 × Int32 × Int32)) => r = nI 1 ∧ Hs 200000 15 L u.1 (iS st ++ [fl J])) (fun u => (mW cA h e0 v0 l0 b0 E V L (u.1) rn (ns + 1) (u.2.1) (u.2.2.1) (u.2.2.2.1) (u.2.2.2.2))) := by
  refine CtI.start (lv0 := [(0, .ref h), (1, .int (nI (tot (iS st) + 2 * J.length)))]) (by decide) rfl (Nat.le_of_ble_eq_true rfl) ?_
  intro p_ e_ s_ m_ args_ below_ meth_ c_ A_ C hr hin
  have hnm := hL.nums
  rw [iS_len] at hnm
  have hsm := iS_small hE hO (by omega)
  have hJl := hJ.2.2.1
  have hr0 := hE.1
  have hiv : Iv n f J := by rw [← hn]; exact hJ.iv hE (Nat.le_refl _)
  have hwl := wI_len n f
  have htop : B ns = nI (tot (iS st)) := by rw [← hns, ← iS_len st]; exact hL.top
  refine x_aload_n C d_M_comes_0 rfl rfl ?_
  refine x_get C d_M_comes_1 0 rfl rfl i_M 5 (by decide) lk_M_54 rfl rfl ?_
  refine x_bipush (v := (nI (12))) C d_M_comes_4 (by decide) ?_
  refine x_icmp_eqN (tgt := 35) C d_M_comes_6 (by decide) (by omega) (by omega) (fun c6 => ?_) (fun c6 => ?_)
  · exact absurd c6 (by omega)
  · refine x_aload_n C d_M_comes_9 rfl rfl ?_
    refine x_callVI (wr := []) (rest := []) C (c_M_stackRoom hE hn hO hL hns) d_M_comes_10 cd_M_stackRoom lk_M_72 dd_M_stackRoom rfl ⟨Nat.le_of_ble_eq_true rfl, Nat.le_of_ble_eq_true rfl⟩ ⟨Nat.le_refl _, Nat.le_refl _⟩ 2 0 rfl rfl [0, 1, 2, 3, 4] [] rfl rfl (by decide) (by decide) (by decide) rfl (Nat.le_of_ble_eq_true rfl) ?_
    intro r_ u10 hp_
    obtain rfl := hp_
    refine x_aload_n C d_M_comes_13 rfl rfl ?_
    refine x_aload_n C d_M_comes_14 rfl rfl ?_
    refine x_get C d_M_comes_15 0 rfl rfl i_M 4 (by decide) lk_M_22 rfl rfl ?_
    refine x_aload_n C d_M_comes_18 rfl rfl ?_
    refine x_get C d_M_comes_19 0 rfl rfl i_M 5 (by decide) lk_M_54 rfl rfl ?_
    refine x_iald C d_M_comes_22 4 rfl (by omega) (by omega) ?_
    refine x_top (y := (nI (tot (iS st)))) htop ?_
    refine x_iload_n C d_M_comes_23 rfl rfl ?_
    refine x_iconst (v := ((-1))) C d_M_comes_24 (by decide) ?_
    refine x_callVI (wr := []) (rest := [.int (nI (tot (kT n st)))]) C (c_M_goAlong (wt := (-1)) (a := tot (iS st)) (J := J) hE hn hiv hs (by omega)) d_M_comes_25 cd_M_goAlong lk_M_61 dd_M_goAlong rfl ⟨Nat.le_of_ble_eq_true rfl, Nat.le_of_ble_eq_true rfl⟩ ⟨Nat.le_refl _, Nat.le_refl _⟩ 2 0 rfl rfl [0, 1, 2, 3, 4] [] rfl rfl (by decide) (by decide) (by decide) rfl (Nat.le_of_ble_eq_true rfl) ?_
    intro r_ ug hp_
    obtain ⟨rfl, -, hfd⟩ := hp_
    refine x_iaddN C d_M_comes_28  ?_
    refine x_sipush (v := (nI (3000))) C d_M_comes_29 (by decide) ?_
    refine x_icmp_leN (tgt := 37) C d_M_comes_32 (by decide) (by omega) (by omega) (fun c32 => ?_) (fun c32 => ?_)
    · refine x_aload_n C d_M_comes_37 rfl rfl ?_
      refine x_dup C d_M_comes_38 rfl ?_
      refine x_get C d_M_comes_39 0 rfl rfl i_M 5 (by decide) lk_M_54 rfl rfl ?_
      refine x_iconst (v := (nI (1))) C d_M_comes_42 (by decide) ?_
      refine x_iaddN C d_M_comes_43  ?_
      refine x_put (ty := .int) (v := .int (nI (ns + 1))) (ws' := [(h, .inr (2, [.ref e0, .ref v0, .int (nI rn), .ref l0, .ref b0, .int (nI (ns + 1)), .int (nI (tot (iS st) + 2 * ug.1)), .int (nI ((Wd n f).length)), .int ((-1)), .int (ug.2)])), (e0, .inl (cA, 33000, .inl (E))), (v0, .inl (cA, 66000, .inl (V))), (l0, .inl (cA, 200000, .inl (L))), (b0, .inl (cA, 15, .inl (B)))]) C d_M_comes_44 0 rfl rfl i_M t_M t_M_ok n_M 5 (by decide) lk_M_54 rfl rfl (t_M_ok 5 (by decide)) rfl rfl (Nat.le_of_ble_eq_true rfl) rfl ?_
      refine x_aload_n C d_M_comes_47 rfl rfl ?_
      refine x_get C d_M_comes_48 0 rfl rfl i_M 4 (by decide) lk_M_22 rfl rfl ?_
      refine x_aload_n C d_M_comes_51 rfl rfl ?_
      refine x_get C d_M_comes_52 0 rfl rfl i_M 5 (by decide) lk_M_54 rfl rfl ?_
      refine x_iload_n C d_M_comes_55 rfl rfl ?_
      refine x_iast (ws' := [(h, .inr (2, [.ref e0, .ref v0, .int (nI rn), .ref l0, .ref b0, .int (nI (ns + 1)), .int (nI (tot (iS st) + 2 * ug.1)), .int (nI ((Wd n f).length)), .int ((-1)), .int (ug.2)])), (e0, .inl (cA, 33000, .inl (E))), (v0, .inl (cA, 66000, .inl (V))), (l0, .inl (cA, 200000, .inl (L))), (b0, .inl (cA, 15, .inl (upd B (ns + 1) (nI (tot (iS st) + 2 * J.length)))))]) C d_M_comes_56 4 rfl (by omega) (by omega) rfl ?_
      refine x_iconst (v := (nI (1))) C d_M_comes_57 (by decide) ?_
      exact x_zret C hr (by decide) d_M_comes_58 (upd B (ns + 1) (nI (tot (iS st) + 2 * J.length)), ((nI (tot (iS st) + 2 * ug.1)), (nI ((Wd n f).length)), ((-1)), (ug.2))) rfl (⟨rfl, hL.last (s := []) (by rw [iS_len]; omega) (by rw [fl_len]; omega) (fun i hi => pk_un (by rw [iS_len] at hi; omega)) (by dsimp only; rw [iS_len, hns, pk_us, fl_len]) (fun _ _ => rfl) (seg_at hs)⟩)
    · exact absurd c32 (by rw [wI_len] at hfit; omega)
set_option maxHeartbeats 4000000 in
theorem c_M_comes_full {l : Launch} {D : va_G} {cA : ClassId} {h e0 v0 l0 b0 rn ns : Nat} {E V L B : Nat → Int32} {pl sn wa wf : Int32} {en : Nat → Nat} {vl : Nat → Nat → Nat} (hE : Rn E V rn en vl) {n : Nat} {st : List ((Nat → Bool) × List (Nat × Nat))} (hn : bnd en rn = n) (hO : Ok en rn st) (hL : Hs 200000 15 L B (iS st)) (hns : st.length = ns) {f : Nat → Bool} {J : List (Nat × Nat)} (hJ : Ik en rn f J) (hs : seg L (tot (iS st)) J) (h13 : st.length ≤ 12) (hno : st.length = 12 ∨ 3000 < tot (kT n st) + (wI n f).length)  : CtI l D cA y_M_comes b_M_comes 2 (some .boolean) ({ frames := 4, cells := 0, slots := 0, locals := 98 } : Room) [.ref h, .int (nI (tot (iS st) + 2 * J.length))] (mW cA h e0 v0 l0 b0 E V L B rn ns pl sn wa wf) (fun r (_ : (Int32 × Int32 × Int32 × Int32)) => r = nI 0) (fun u => (mW cA h e0 v0 l0 b0 E V L B rn ns (u.1) (u.2.1) (u.2.2.1) (u.2.2.2))) := by
  refine CtI.start (lv0 := [(0, .ref h), (1, .int (nI (tot (iS st) + 2 * J.length)))]) (by decide) rfl (Nat.le_of_ble_eq_true rfl) ?_
  intro p_ e_ s_ m_ args_ below_ meth_ c_ A_ C hr hin
  have hnm := hL.nums
  rw [iS_len] at hnm
  have hsm := iS_small hE hO (by omega)
  have hJl := hJ.2.2.1
  have hr0 := hE.1
  have hiv : Iv n f J := by rw [← hn]; exact hJ.iv hE (Nat.le_refl _)
  have hwl := wI_len n f
  have htop : B ns = nI (tot (iS st)) := by rw [← hns, ← iS_len st]; exact hL.top
  have hlen1 := Wd_len (n := n) (f := f) (by rw [← hn]; exact bnd_le hE rn (Nat.le_refl _))
  have hlen2 := kT_tot (st := st) (n := n) (by rw [← hn]; exact bnd_le hE rn (Nat.le_refl _)) h13
  refine x_aload_n C d_M_comes_0 rfl rfl ?_
  refine x_get C d_M_comes_1 0 rfl rfl i_M 5 (by decide) lk_M_54 rfl rfl ?_
  refine x_bipush (v := (nI (12))) C d_M_comes_4 (by decide) ?_
  refine x_icmp_eqN (tgt := 35) C d_M_comes_6 (by decide) (by omega) (by omega) (fun c6 => ?_) (fun c6 => ?_)
  · refine x_iconst (v := (nI (0))) C d_M_comes_35 (by decide) ?_
    exact x_zret C hr (by decide) d_M_comes_36 ((pl), (sn), (wa), (wf)) rfl (rfl)
  · refine x_aload_n C d_M_comes_9 rfl rfl ?_
    refine x_callVI (wr := []) (rest := []) C (c_M_stackRoom hE hn hO hL hns) d_M_comes_10 cd_M_stackRoom lk_M_72 dd_M_stackRoom rfl ⟨Nat.le_of_ble_eq_true rfl, Nat.le_of_ble_eq_true rfl⟩ ⟨Nat.le_refl _, Nat.le_refl _⟩ 2 0 rfl rfl [0, 1, 2, 3, 4] [] rfl rfl (by decide) (by decide) (by decide) rfl (Nat.le_of_ble_eq_true rfl) ?_
    intro r_ u10 hp_
    obtain rfl := hp_
    refine x_aload_n C d_M_comes_13 rfl rfl ?_
    refine x_aload_n C d_M_comes_14 rfl rfl ?_
    refine x_get C d_M_comes_15 0 rfl rfl i_M 4 (by decide) lk_M_22 rfl rfl ?_
    refine x_aload_n C d_M_comes_18 rfl rfl ?_
    refine x_get C d_M_comes_19 0 rfl rfl i_M 5 (by decide) lk_M_54 rfl rfl ?_
    refine x_iald C d_M_comes_22 4 rfl (by omega) (by omega) ?_
    refine x_top (y := (nI (tot (iS st)))) htop ?_
    refine x_iload_n C d_M_comes_23 rfl rfl ?_
    refine x_iconst (v := ((-1))) C d_M_comes_24 (by decide) ?_
    refine x_callVI (wr := []) (rest := [.int (nI (tot (kT n st)))]) C (c_M_goAlong (wt := (-1)) (a := tot (iS st)) (J := J) hE hn hiv hs (by omega)) d_M_comes_25 cd_M_goAlong lk_M_61 dd_M_goAlong rfl ⟨Nat.le_of_ble_eq_true rfl, Nat.le_of_ble_eq_true rfl⟩ ⟨Nat.le_refl _, Nat.le_refl _⟩ 2 0 rfl rfl [0, 1, 2, 3, 4] [] rfl rfl (by decide) (by decide) (by decide) rfl (Nat.le_of_ble_eq_true rfl) ?_
    intro r_ ug hp_
    obtain ⟨rfl, -, hfd⟩ := hp_
    refine x_iaddN C d_M_comes_28  ?_
    refine x_sipush (v := (nI (3000))) C d_M_comes_29 (by decide) ?_
    refine x_icmp_leN (tgt := 37) C d_M_comes_32 (by decide) (by omega) (by omega) (fun c32 => ?_) (fun c32 => ?_)
    · exact absurd c32 (by rw [wI_len] at hno; omega)
    · refine x_iconst (v := (nI (0))) C d_M_comes_35 (by decide) ?_
      exact x_zret C hr (by decide) d_M_comes_36 ((nI (tot (iS st) + 2 * ug.1)), (nI ((Wd n f).length)), ((-1)), (ug.2)) rfl (rfl)
