/-! words made out of intervals -/
theorem f_gap {n : Nat} {f : Nat → Bool} {J : List (Nat × Nat)} {j r : Nat} (h : Iv n f J) (h1 : ∀ i q, i < j → J[i]? = some q → q.2 ≤ r) (h2 : ∀ q, J[j]? = some q → r < q.1) : f r = false := by
  rw [h.2.2, mem_false]
  intro q hq
  obtain ⟨i, hi⟩ := List.getElem?_of_mem hq
  rcases Nat.lt_trichotomy i j with h3 | h3 | h3
  · have := h1 i q h3 hi
    omega
  · subst h3
    have := h2 q hi
    omega
  · have hl : j < J.length := by
      have := (List.getElem?_eq_some_iff.mp hi).1
      omega
    have h5 : J[j]? = some J[j] := List.getElem?_eq_getElem hl
    have h6 := ivs_two h.1 h3 h5 hi
    have h7 := h2 _ h5
    have h8 := ivs_at h.1 h5
    omega
theorem f_in {n : Nat} {f : Nat → Bool} {J : List (Nat × Nat)} {j r : Nat} {q : Nat × Nat} (h : Iv n f J) (hq : J[j]? = some q) (h1 : q.1 ≤ r) (h2 : r < q.2) : f r = true := by
  rw [h.2.2, mem_iff]
  exact ⟨q, List.mem_of_getElem? hq, h1, h2⟩
theorem f_end {n : Nat} {f : Nat → Bool} {J : List (Nat × Nat)} {j : Nat} {q : Nat × Nat} (h : Iv n f J) (hq : J[j]? = some q) : f q.2 = false := by
  apply f_gap (j := j + 1) h
  · intro i q2 h1 h2
    rcases Nat.lt_or_ge i j with h3 | h3
    · have h4 := ivs_two h.1 h3 h2 hq
      have h5 := ivs_at h.1 hq
      omega
    · have h4 : i = j := by omega
      subst h4
      rw [hq] at h2
      cases h2
      exact Nat.le_refl _
  · intro q2 h2
    exact ivs_two h.1 (Nat.lt_succ_self j) hq h2
def gInv (n : Nat) (f : Nat → Bool) (J : List (Nat × Nat)) (wt : Int32) (g j : Nat) (W : List (Nat × Nat)) (fd : Int32) : Prop :=
  g ≤ (n + 30) / 31 ∧ j ≤ J.length ∧ (∀ i q, i < j → J[i]? = some q → q.2 ≤ 31 * g) ∧ (∀ q, J[j]? = some q → 31 * g < q.2) ∧ canon W ∧ ex W = PG f g ∧ (∀ v, W.getLast? = some v → (v.1 = 0 ∨ v.1 = AL) → g < (n + 30) / 31 → gb f g ≠ v.1) ∧ (∀ i w, wt = nI i → i < 2 ^ 31 → W[i]? = some w → fd = enc w) ∧ W.length ≤ g
theorem gi_see {wt fd x : Int32} {W : List (Nat × Nat)} {w : Nat × Nat} (h : ∀ i w, wt = nI i → i < 2 ^ 31 → W[i]? = some w → fd = enc w) (hx : x = enc w) (hl : W.length < 2 ^ 31) : ∀ i v, wt = nI i → i < 2 ^ 31 → (W ++ [w])[i]? = some v → (if nI W.length = wt then x else fd) = enc v := by
  intro i v h1 h2 h3
  by_cases hi : i < W.length
  · rw [List.getElem?_append_left hi] at h3
    rw [if_neg, h i v h1 h2 h3]
    intro e
    rw [h1] at e
    have := (nI_eq hl h2).mp e
    omega
  · rw [List.getElem?_append_right (by omega)] at h3
    have h4 : i - W.length < 1 := (List.getElem?_eq_some_iff.mp h3).1
    have h5 : i = W.length := by omega
    subst h5
    rw [Nat.sub_self] at h3
    cases h3
    rw [if_pos h1.symm, hx]
/-- k groups more, all alike -/
theorem gi_more {n : Nat} {f : Nat → Bool} {J : List (Nat × Nat)} {wt fd x : Int32} {g j g' j' b : Nat} {W : List (Nat × Nat)} (h : gInv n f J wt g j W fd) (hg : g < (n + 30) / 31) (hn : n ≤ 1000000) (h1 : g < g') (h2 : g' ≤ (n + 30) / 31) (hb : ∀ i, i < g' - g → gb f (g + i) = b) (hok : okw (b, g' - g)) (hj' : j' ≤ J.length) (hlo : ∀ i q, i < j' → J[i]? = some q → q.2 ≤ 31 * g') (hhi : ∀ q, J[j']? = some q → 31 * g' < q.2) (hnx : (b = 0 ∨ b = AL) → g' < (n + 30) / 31 → gb f g' ≠ b) (hx : x = enc (b, g' - g)) : gInv n f J wt g' j' (W ++ [(b, g' - g)]) (if nI W.length = wt then x else fd) := by
  obtain ⟨a1, a2, a3, a4, a5, a6, a7, a8, a9⟩ := h
  refine ⟨h2, hj', hlo, hhi, (canon_snoc _ _).mpr ⟨a5, hok, fun v hv => ?_⟩, ?_, fun v hv => ?_, gi_see a8 hx (by omega), by rw [List.length_append, List.length_singleton]; omega⟩
  · intro hf
    have h3 := a7 v hv hf hg
    have h4 := hb 0 (by omega)
    rw [Nat.add_zero] at h4
    rw [h4] at h3
    exact h3
  · rw [ex_app, ex_one, a6]
    dsimp only
    have := PG_rep (f := f) (k := g) (B := b) (t := g' - g) hb
    rw [show g + (g' - g) = g' by omega] at this
    rw [this]
  · rw [List.getLast?_concat] at hv
    cases hv
    exact hnx
theorem okw_f {b k : Nat} (hb : b = 0 ∨ b = AL) (hk : 1 ≤ k) : okw (b, k) := ⟨hk, by show b ≤ 2147483647; rcases hb with h | h; (rw [h]; exact Nat.zero_le _); (rw [h]; exact Nat.le_refl _), by rcases hb with h | h; exact Or.inl h; exact Or.inr (Or.inl h)⟩
theorem gi_end {n : Nat} {f : Nat → Bool} {J : List (Nat × Nat)} {wt fd x : Int32} {g j : Nat} {W : List (Nat × Nat)} (hJ : Iv n f J) (h : gInv n f J wt g j W fd) (hg : g < (n + 30) / 31) (hn : n ≤ 1000000) (hj : j = J.length) (hx : x = enc (0, (n + 30) / 31 - g)) : gInv n f J wt ((n + 30) / 31) j (W ++ [(0, (n + 30) / 31 - g)]) (if nI W.length = wt then x else fd) := by
  have h0 := h
  obtain ⟨a1, a2, a3, a4, -⟩ := h0
  refine gi_more h hg hn hg (Nat.le_refl _) (fun i hi => ?_) (okw_f (Or.inl rfl) (by omega)) a2 (fun i q h1 h2 => Nat.le_trans (a3 i q h1 h2) (by omega)) (fun q h2 => absurd (List.getElem?_eq_some_iff.mp h2).1 (by omega)) (fun _ h9 => absurd h9 (Nat.lt_irrefl _)) hx
  rw [gb_zero]
  intro k hk
  refine f_gap (j := j) hJ (fun i' q h1 h2 => Nat.le_trans (a3 i' q h1 h2) (by omega)) (fun q h2 => absurd (List.getElem?_eq_some_iff.mp h2).1 (by omega))
theorem gi_empty {n : Nat} {f : Nat → Bool} {J : List (Nat × Nat)} {wt fd x : Int32} {g j : Nat} {q : Nat × Nat} {W : List (Nat × Nat)} (hJ : Iv n f J) (h : gInv n f J wt g j W fd) (hg : g < (n + 30) / 31) (hn : n ≤ 1000000) (hq : J[j]? = some q) (h1 : 31 * g + 31 ≤ q.1) (hx : x = enc (0, q.1 / 31 - g)) : gInv n f J wt (q.1 / 31) j (W ++ [(0, q.1 / 31 - g)]) (if nI W.length = wt then x else fd) := by
  have h0 := h
  obtain ⟨a1, a2, a3, a4, -⟩ := h0
  have hq1 := ivs_at hJ.1 hq
  have hq2 := hJ.2.1 q (List.mem_of_getElem? hq)
  refine gi_more h hg hn (by omega) (by omega) (fun i hi => ?_) (okw_f (Or.inl rfl) (by omega)) a2 (fun i q2 h3 h4 => Nat.le_trans (a3 i q2 h3 h4) (by omega)) (fun q2 h4 => by rw [hq] at h4; cases h4; omega) (fun _ _ => ?_) hx
  · rw [gb_zero]
    intro k hk
    refine f_gap (j := j) hJ (fun i' q2 h3 h4 => Nat.le_trans (a3 i' q2 h3 h4) (by omega)) (fun q2 h4 => by rw [hq] at h4; cases h4; omega)
  · intro e
    have h5 := gb_zero.mp e (q.1 % 31) (by omega)
    rw [show 31 * (q.1 / 31) + q.1 % 31 = q.1 by omega, f_in hJ hq (Nat.le_refl _) hq1.2] at h5
    cases h5
theorem gi_full {n : Nat} {f : Nat → Bool} {J : List (Nat × Nat)} {wt fd x : Int32} {g j j' : Nat} {q : Nat × Nat} {W : List (Nat × Nat)} (hJ : Iv n f J) (h : gInv n f J wt g j W fd) (hg : g < (n + 30) / 31) (hn : n ≤ 1000000) (hq : J[j]? = some q) (h1 : q.1 ≤ 31 * g) (h2 : 31 * g + 31 ≤ q.2) (hj' : (q.2 = 31 * (q.2 / 31) ∧ j' = j + 1) ∨ (q.2 ≠ 31 * (q.2 / 31) ∧ j' = j)) (hx : x = enc (AL, q.2 / 31 - g)) : gInv n f J wt (q.2 / 31) j' (W ++ [(AL, q.2 / 31 - g)]) (if nI W.length = wt then x else fd) := by
  have h0 := h
  obtain ⟨a1, a2, a3, a4, -⟩ := h0
  have hq1 := ivs_at hJ.1 hq
  have hq2 := hJ.2.1 q (List.mem_of_getElem? hq)
  have hjl : j < J.length := (List.getElem?_eq_some_iff.mp hq).1
  refine gi_more h hg hn (by omega) (by omega) (fun i hi => ?_) (okw_f (Or.inr rfl) (by omega)) (by omega) (fun i q2 h3 h4 => ?_) (fun q2 h4 => ?_) (fun _ h9 => ?_) hx
  · rw [gb_full]
    intro k hk
    exact f_in hJ hq (by omega) (by omega)
  · rcases Nat.lt_or_ge i j with h5 | h5
    · exact Nat.le_trans (a3 i q2 h5 h4) (by omega)
    · have h6 : i = j := by omega
      subst h6
      rw [hq] at h4
      cases h4
      omega
  · rcases hj' with ⟨e1, rfl⟩ | ⟨e1, rfl⟩
    · have h5 := ivs_two hJ.1 (Nat.lt_succ_self j) hq h4
      have h6 := ivs_at hJ.1 h4
      omega
    · rw [hq] at h4
      cases h4
      omega
  · intro e
    have h5 := gb_full.mp e (q.2 % 31) (by omega)
    rw [show 31 * (q.2 / 31) + q.2 % 31 = q.2 by omega, f_end hJ hq] at h5
    cases h5
theorem gi_lit {n : Nat} {f : Nat → Bool} {J : List (Nat × Nat)} {wt fd x : Int32} {g j j' : Nat} {q : Nat × Nat} {W : List (Nat × Nat)} (hJ : Iv n f J) (h : gInv n f J wt g j W fd) (hg : g < (n + 30) / 31) (hn : n ≤ 1000000) (hq : J[j]? = some q) (h1 : q.1 < 31 * g + 31) (h2 : 31 * g < q.1 ∨ q.2 < 31 * g + 31) (hj' : j' ≤ J.length) (hlo : ∀ i q, i < j' → J[i]? = some q → q.2 ≤ 31 * g + 31) (hhi : ∀ q, J[j']? = some q → 31 * g + 31 < q.2) (hx : x = nI (gb f g)) : gInv n f J wt (g + 1) j' (W ++ [(gb f g, 1)]) (if nI W.length = wt then x else fd) := by
  have h0 := h
  obtain ⟨a1, a2, a3, a4, -⟩ := h0
  have hq1 := ivs_at hJ.1 hq
  have hq2 := hJ.2.1 q (List.mem_of_getElem? hq)
  have hq3 := a4 q hq
  have hnf : ¬ (gb f g = 0 ∨ gb f g = AL) := by
    rintro (e | e)
    · have h5 := gb_zero.mp e (max q.1 (31 * g) - 31 * g) (by omega)
      rw [show 31 * g + (max q.1 (31 * g) - 31 * g) = max q.1 (31 * g) by omega, f_in hJ hq (by omega) (by omega)] at h5
      cases h5
    · rcases h2 with h2 | h2
      · have h5 := gb_full.mp e (q.1 - 1 - 31 * g) (by omega)
        rw [show 31 * g + (q.1 - 1 - 31 * g) = q.1 - 1 by omega] at h5
        rw [f_gap (j := j) hJ (fun i' q2 h3 h4 => Nat.le_trans (a3 i' q2 h3 h4) (by omega)) (fun q2 h4 => by rw [hq] at h4; cases h4; omega)] at h5
        cases h5
      · have h5 := gb_full.mp e (q.2 - 31 * g) (by omega)
        rw [show 31 * g + (q.2 - 31 * g) = q.2 by omega, f_end hJ hq] at h5
        cases h5
  have e1 : g + 1 - g = 1 := by omega
  have := gi_more (g' := g + 1) (j' := j') (b := gb f g) (x := x) h hg hn (by omega) (by omega) (fun i hi => by rw [show g + i = g by omega]) (by rw [e1]; exact okw_one (gb_le f g)) hj' (fun i q2 h3 h4 => Nat.le_trans (hlo i q2 h3 h4) (by omega)) (fun q2 h4 => by have := hhi q2 h4; omega) (fun h9 => absurd h9 hnf) (by rw [hx, e1, enc_lit (w := (gb f g, 1)) hnf])
  rw [e1] at this
  exact this
theorem gi_start {n : Nat} {f : Nat → Bool} {J : List (Nat × Nat)} {wt : Int32} (hJ : Iv n f J) : gInv n f J wt 0 0 [] (nI 0) := ⟨Nat.zero_le _, Nat.zero_le _, fun i q h => absurd h (Nat.not_lt_zero i), fun q h => by have := ivs_at hJ.1 h; omega, trivial, rfl, fun v h => by simp at h, fun i w _ _ h => by simp at h, Nat.zero_le _⟩
theorem gi_done {n : Nat} {f : Nat → Bool} {J : List (Nat × Nat)} {wt fd : Int32} {g j : Nat} {W : List (Nat × Nat)} (h : gInv n f J wt g j W fd) (hg : (n + 30) / 31 ≤ g) : W = Wd n f ∧ (∀ i w, wt = nI i → i < 2 ^ 31 → (Wd n f)[i]? = some w → fd = enc w) ∧ j ≤ J.length := by
  obtain ⟨a1, a2, a3, a4, a5, a6, a7, a8, a9⟩ := h
  have e : g = (n + 30) / 31 := by omega
  subst e
  have h1 : W = Wd n f := Rep.eq ⟨a5, a6⟩
  exact ⟨h1, by rw [← h1]; exact a8, a2⟩
set_option maxHeartbeats 4000000 in
theorem c_M_goAlong {l : Launch} {D : va_G} {cA : ClassId} {h e0 v0 l0 b0 rn ns : Nat} {E V L B : Nat → Int32} {pl sn wa wf wt : Int32} {n a : Nat} {f : Nat → Bool} {J : List (Nat × Nat)} {en : Nat → Nat} {vl : Nat → Nat → Nat} (hE : Rn E V rn en vl) (hn : bnd en rn = n) (hJ : Iv n f J) (hs : seg L a J) (ha : a + 2 * J.length ≤ 200000)  : CtI l D cA y_M_goAlong b_M_goAlong 8 (some .int) ({ frames := 1, cells := 0, slots := 0, locals := 28 } : Room) [.ref h, .int (nI a), .int (nI (a + 2 * J.length)), .int wt] (mW cA h e0 v0 l0 b0 E V L B rn ns pl sn wa wf) (fun r (u : Nat × Int32) => r = nI (Wd n f).length ∧ u.1 ≤ J.length ∧ ∀ i w, wt = nI i → i < 2 ^ 31 → (Wd n f)[i]? = some w → u.2 = enc w) (fun u => (mW cA h e0 v0 l0 b0 E V L B rn ns (nI (a + 2 * u.1)) (nI (Wd n f).length) wt (u.2))) := by
  refine CtI.start (lv0 := [(0, .ref h), (1, .int (nI a)), (2, .int (nI (a + 2 * J.length))), (3, .int wt)]) (by decide) rfl (Nat.le_of_ble_eq_true rfl) ?_
  intro p_ e_ s_ m_ args_ below_ meth_ c_ A_ C hr hin
  have hn2 : n ≤ 1000000 := by rw [← hn]; exact bnd_le hE rn (Nat.le_refl _)
  have LP : ∀ (d g j : Nat) (W : List (Nat × Nat)) (fd : Int32), (n + 30) / 31 ≤ g + d → gInv n f J wt g j W fd → X p_ l e_ ({ frames := 1, cells := 0, slots := 0, locals := 28 } : Room) s_ m_ args_ below_ meth_ c_ D A_ 8 0 0 (MQ below_ (va_Qi (fun r (u : Nat × Int32) => r = nI (Wd n f).length ∧ u.1 ≤ J.length ∧ ∀ i w, wt = nI i → i < 2 ^ 31 → (Wd n f)[i]? = some w → u.2 = enc w) (Bw D A_ (fun u => (mW cA h e0 v0 l0 b0 E V L B rn ns (nI (a + 2 * u.1)) (nI (Wd n f).length) wt (u.2)))) A_) args_ s_ 0 0 A_) [(h, .inr (2, [.ref e0, .ref v0, .int (nI rn), .ref l0, .ref b0, .int (nI ns), .int (nI (a + 2 * j)), .int (nI (W.length)), .int wt, .int fd])), (e0, .inl (cA, 33000, .inl (E))), (v0, .inl (cA, 66000, .inl (V))), (l0, .inl (cA, 200000, .inl (L))), (b0, .inl (cA, 15, .inl (B)))] 37 [(5, .int (nI g)), (4, .int (nI ((n + 30) / 31))), (0, .ref h), (1, .int (nI a)), (2, .int (nI (a + 2 * J.length))), (3, .int wt)] [] := by
    intro d
    induction d with
    | zero =>
      intro g j W fd hd hI
      have hg1 := hI.1
      obtain ⟨hW, hfd, hjl⟩ := gi_done hI (by omega)
      subst hW
      refine x_iload C d_M_goAlong_37 rfl ?_
      refine x_iload C d_M_goAlong_39 rfl ?_
      refine x_icmp_geN (tgt := 241) C d_M_goAlong_41 (by decide) (by omega) (by omega) (fun c41 => ?_) (fun c41 => ?_)
      · refine x_aload_n C d_M_goAlong_241 rfl rfl ?_
        refine x_get C d_M_goAlong_242 0 rfl rfl i_M 7 (by decide) lk_M_29 rfl rfl ?_
        exact x_iret C hr d_M_goAlong_245 (j, fd) rfl (⟨rfl, hjl, hfd⟩)
      · exact absurd c41 (by omega)
    | succ d ih =>
      intro g j W fd hd hI
      have hI0 := hI
      obtain ⟨hg1, hjl, hlo, hhi, -, -, -, -, hWl⟩ := hI0
      by_cases hgG : (n + 30) / 31 ≤ g
      · obtain ⟨hW, hfd, hjl⟩ := gi_done hI hgG
        subst hW
        refine x_iload C d_M_goAlong_37 rfl ?_
        refine x_iload C d_M_goAlong_39 rfl ?_
        refine x_icmp_geN (tgt := 241) C d_M_goAlong_41 (by decide) (by omega) (by omega) (fun c41 => ?_) (fun c41 => ?_)
        · refine x_aload_n C d_M_goAlong_241 rfl rfl ?_
          refine x_get C d_M_goAlong_242 0 rfl rfl i_M 7 (by decide) lk_M_29 rfl rfl ?_
          exact x_iret C hr d_M_goAlong_245 (j, fd) rfl (⟨rfl, hjl, hfd⟩)
        · exact absurd c41 (by omega)
      · by_cases hjJ : j = J.length
        · refine x_iload C d_M_goAlong_37 rfl ?_
          refine x_iload C d_M_goAlong_39 rfl ?_
          refine x_icmp_geN (tgt := 241) C d_M_goAlong_41 (by decide) (by omega) (by omega) (fun c41 => ?_) (fun c41 => ?_)
          · exact absurd c41 (by omega)
          · refine x_aload_n C d_M_goAlong_44 rfl rfl ?_
            refine x_get C d_M_goAlong_45 0 rfl rfl i_M 6 (by decide) lk_M_38 rfl rfl ?_
            refine x_iload_n C d_M_goAlong_48 rfl rfl ?_
            refine x_icmp_geN (tgt := 64) C d_M_goAlong_49 (by decide) (by omega) (by omega) (fun c49 => ?_) (fun c49 => ?_)
            · refine x_ldc C d_M_goAlong_64 lk_M_45 ?_
              refine x_top (y := nI 2147483647) (by decide) ?_
              refine x_istore (lv' := [(6, .int (nI 2147483647)), (5, .int (nI g)), (4, .int (nI ((n + 30) / 31))), (0, .ref h), (1, .int (nI a)), (2, .int (nI (a + 2 * J.length))), (3, .int wt)]) C d_M_goAlong_66 (by decide) rfl ?_
              refine x_iload C d_M_goAlong_68 rfl ?_
              refine x_bipush (v := (nI (31))) C d_M_goAlong_70 (by decide) ?_
              refine x_iload C d_M_goAlong_72 rfl ?_
              refine x_imulN C d_M_goAlong_74  ?_
              refine x_bipush (v := (nI (31))) C d_M_goAlong_75 (by decide) ?_
              refine x_iaddN C d_M_goAlong_77  ?_
              refine x_icmp_ltN (tgt := 122) C d_M_goAlong_78 (by decide) (by omega) (by omega) (fun c78 => ?_) (fun c78 => ?_)
              · exact absurd c78 (by omega)
              · refine x_iload C d_M_goAlong_81 rfl ?_
                refine x_bipush (v := (nI (31))) C d_M_goAlong_83 (by decide) ?_
                refine x_idivN C d_M_goAlong_85 (by omega) (by omega) (by omega) ?_
                refine x_iload C d_M_goAlong_86 rfl ?_
                refine x_icmp_geN (tgt := 99) C d_M_goAlong_88 (by decide) (by omega) (by omega) (fun c88 => ?_) (fun c88 => ?_)
                · refine x_iload C d_M_goAlong_99 rfl ?_
                  refine x_istore (lv' := [(7, .int (nI ((n + 30) / 31))), (6, .int (nI 2147483647)), (5, .int (nI g)), (4, .int (nI ((n + 30) / 31))), (0, .ref h), (1, .int (nI a)), (2, .int (nI (a + 2 * J.length))), (3, .int wt)]) C d_M_goAlong_101 (by decide) rfl ?_
                  refine x_aload_n C d_M_goAlong_103 rfl rfl ?_
                  refine x_bipush (v := ((-2))) C d_M_goAlong_104 (by decide) ?_
                  refine x_iload C d_M_goAlong_106 rfl ?_
                  refine x_iload C d_M_goAlong_108 rfl ?_
                  refine x_isubN C d_M_goAlong_110 (by omega) ?_
                  refine x_imul C d_M_goAlong_111  ?_
                  refine x_top (y := (enc (0, (n + 30) / 31 - g))) ((fill_0 _).trans (enc_0 rfl).symm) ?_
                  refine x_callVV (wr := []) (rest := []) C (c_M_see (w := enc (0, (n + 30) / 31 - g)) (sn := W.length)) d_M_goAlong_112 cd_M_see lk_M_46 dd_M_see rfl ⟨Nat.le_of_ble_eq_true rfl, Nat.le_of_ble_eq_true rfl⟩ ⟨Nat.le_refl _, Nat.le_refl _⟩ 2 0 rfl rfl [0, 1, 2, 3, 4] [] rfl rfl (by decide) (by decide) (by decide) rfl (Nat.le_of_ble_eq_true rfl) ?_
                  intro u_ hp_
                  refine x_iload C d_M_goAlong_115 rfl ?_
                  refine x_istore (lv' := [(5, .int (nI ((n + 30) / 31))), (7, .int (nI ((n + 30) / 31))), (6, .int (nI 2147483647)), (4, .int (nI ((n + 30) / 31))), (0, .ref h), (1, .int (nI a)), (2, .int (nI (a + 2 * J.length))), (3, .int wt)]) C d_M_goAlong_117 (by decide) rfl ?_
                  refine x_goto (tgt := 238) C d_M_goAlong_119 (by decide) ?_
                  refine x_goto (tgt := 37) C d_M_goAlong_238 (by decide) ?_
                  refine x_lv (lv' := [(5, .int (nI ((n + 30) / 31))), (4, .int (nI ((n + 30) / 31))), (0, .ref h), (1, .int (nI a)), (2, .int (nI (a + 2 * J.length))), (3, .int wt)]) (Or.inr (List.forall_mem_cons.mpr ⟨rfl, List.forall_mem_cons.mpr ⟨rfl, List.forall_mem_cons.mpr ⟨rfl, List.forall_mem_cons.mpr ⟨rfl, List.forall_mem_cons.mpr ⟨rfl, List.forall_mem_cons.mpr ⟨rfl, fun _ h9 => absurd h9 List.not_mem_nil⟩⟩⟩⟩⟩⟩)) ?_
                  have h9 := gi_end hJ hI (by omega) hn2 hjJ (x := enc (0, (n + 30) / 31 - g)) rfl
                  have h8 := ih ((n + 30) / 31) j _ _ (by omega) h9
                  rw [List.length_append, List.length_singleton] at h8
                  exact h8
                · exact absurd c88 (by omega)
            · exact absurd c49 (by omega)
        · obtain ⟨q, hq⟩ : ∃ q, J[j]? = some q := ⟨J[j], List.getElem?_eq_getElem (by omega)⟩
          have hsq := hs j q hq
          have hq1 := ivs_at hJ.1 hq
          have hq2 := hJ.2.1 q (List.mem_of_getElem? hq)
          have hq3 := hhi q hq
          refine x_iload C d_M_goAlong_37 rfl ?_
          refine x_iload C d_M_goAlong_39 rfl ?_
          refine x_icmp_geN (tgt := 241) C d_M_goAlong_41 (by decide) (by omega) (by omega) (fun c41 => ?_) (fun c41 => ?_)
          · exact absurd c41 (by omega)
          · refine x_aload_n C d_M_goAlong_44 rfl rfl ?_
            refine x_get C d_M_goAlong_45 0 rfl rfl i_M 6 (by decide) lk_M_38 rfl rfl ?_
            refine x_iload_n C d_M_goAlong_48 rfl rfl ?_
            refine x_icmp_geN (tgt := 64) C d_M_goAlong_49 (by decide) (by omega) (by omega) (fun c49 => ?_) (fun c49 => ?_)
            · exact absurd c49 (by omega)
            · refine x_aload_n C d_M_goAlong_52 rfl rfl ?_
              refine x_get C d_M_goAlong_53 0 rfl rfl i_M 3 (by decide) lk_M_19 rfl rfl ?_
              refine x_aload_n C d_M_goAlong_56 rfl rfl ?_
              refine x_get C d_M_goAlong_57 0 rfl rfl i_M 6 (by decide) lk_M_38 rfl rfl ?_
              refine x_iald C d_M_goAlong_60 3 rfl (by omega) (by omega) ?_
              refine x_top (y := (nI (q.1))) hsq.1 ?_
              refine x_goto (tgt := 66) C d_M_goAlong_61 (by decide) ?_
              refine x_istore (lv' := [(6, .int (nI (q.1))), (5, .int (nI g)), (4, .int (nI ((n + 30) / 31))), (0, .ref h), (1, .int (nI a)), (2, .int (nI (a + 2 * J.length))), (3, .int wt)]) C d_M_goAlong_66 (by decide) rfl ?_
              refine x_iload C d_M_goAlong_68 rfl ?_
              refine x_bipush (v := (nI (31))) C d_M_goAlong_70 (by decide) ?_
              refine x_iload C d_M_goAlong_72 rfl ?_
              refine x_imulN C d_M_goAlong_74  ?_
              refine x_bipush (v := (nI (31))) C d_M_goAlong_75 (by decide) ?_
              refine x_iaddN C d_M_goAlong_77  ?_
              refine x_icmp_ltN (tgt := 122) C d_M_goAlong_78 (by decide) (by omega) (by omega) (fun c78 => ?_) (fun c78 => ?_)
              · refine x_iload C d_M_goAlong_122 rfl ?_
                refine x_bipush (v := (nI (31))) C d_M_goAlong_124 (by decide) ?_
                refine x_iload C d_M_goAlong_126 rfl ?_
                refine x_imulN C d_M_goAlong_128  ?_
                refine x_icmp_gtN (tgt := 224) C d_M_goAlong_129 (by decide) (by omega) (by omega) (fun c129 => ?_) (fun c129 => ?_)
                · refine x_aload_n C d_M_goAlong_224 rfl rfl ?_
                  refine x_aload_n C d_M_goAlong_225 rfl rfl ?_
                  refine x_iload C d_M_goAlong_226 rfl ?_
                  refine x_iload_n C d_M_goAlong_228 rfl rfl ?_
                  refine x_callVI (wr := []) (rest := [.ref h]) C (c_M_literal hJ hs hjl hlo hhi ha (by omega) hn2) d_M_goAlong_229 cd_M_literal lk_M_50 dd_M_literal rfl ⟨Nat.le_of_ble_eq_true rfl, Nat.le_of_ble_eq_true rfl⟩ ⟨Nat.le_refl _, Nat.le_refl _⟩ 2 0 rfl rfl [0, 1, 2, 3, 4] [] rfl rfl (by decide) (by decide) (by decide) rfl (Nat.le_of_ble_eq_true rfl) ?_
                  intro r_ u229 hp_
                  obtain ⟨rfl, hu1, hu2, hu3, hu4⟩ := hp_
                  refine x_callVV (wr := []) (rest := []) C (c_M_see (w := nI (gb f g)) (sn := W.length)) d_M_goAlong_232 cd_M_see lk_M_46 dd_M_see rfl ⟨Nat.le_of_ble_eq_true rfl, Nat.le_of_ble_eq_true rfl⟩ ⟨Nat.le_refl _, Nat.le_refl _⟩ 2 0 rfl rfl [0, 1, 2, 3, 4] [] rfl rfl (by decide) (by decide) (by decide) rfl (Nat.le_of_ble_eq_true rfl) ?_
                  intro u_ hp_
                  refine x_iincN (lv' := [(5, .int (nI (g + 1))), (6, .int (nI (q.1))), (4, .int (nI ((n + 30) / 31))), (0, .ref h), (1, .int (nI a)), (2, .int (nI (a + 2 * J.length))), (3, .int wt)]) C d_M_goAlong_235 rfl (by decide) rfl ?_
                  refine x_goto (tgt := 37) C d_M_goAlong_238 (by decide) ?_
                  refine x_lv (lv' := [(5, .int (nI (g + 1))), (4, .int (nI ((n + 30) / 31))), (0, .ref h), (1, .int (nI a)), (2, .int (nI (a + 2 * J.length))), (3, .int wt)]) (Or.inr (List.forall_mem_cons.mpr ⟨rfl, List.forall_mem_cons.mpr ⟨rfl, List.forall_mem_cons.mpr ⟨rfl, List.forall_mem_cons.mpr ⟨rfl, List.forall_mem_cons.mpr ⟨rfl, List.forall_mem_cons.mpr ⟨rfl, fun _ h9 => absurd h9 List.not_mem_nil⟩⟩⟩⟩⟩⟩)) ?_
                  have h9 := gi_lit hJ hI (by omega) hn2 hq c78 (Or.inl c129) hu1 hu3 hu4 (x := nI (gb f g)) rfl
                  have h8 := ih (g + 1) u229 _ _ (by omega) h9
                  rw [List.length_append, List.length_singleton] at h8
                  exact h8
                · refine x_aload_n C d_M_goAlong_132 rfl rfl ?_
                  refine x_get C d_M_goAlong_133 0 rfl rfl i_M 3 (by decide) lk_M_19 rfl rfl ?_
                  refine x_aload_n C d_M_goAlong_136 rfl rfl ?_
                  refine x_get C d_M_goAlong_137 0 rfl rfl i_M 6 (by decide) lk_M_38 rfl rfl ?_
                  refine x_iconst (v := (nI (1))) C d_M_goAlong_140 (by decide) ?_
                  refine x_iaddN C d_M_goAlong_141  ?_
                  refine x_iald C d_M_goAlong_142 3 rfl (by omega) (by omega) ?_
                  refine x_top (y := (nI (q.2))) hsq.2 ?_
                  refine x_bipush (v := (nI (31))) C d_M_goAlong_143 (by decide) ?_
                  refine x_iload C d_M_goAlong_145 rfl ?_
                  refine x_imulN C d_M_goAlong_147  ?_
                  refine x_bipush (v := (nI (31))) C d_M_goAlong_148 (by decide) ?_
                  refine x_iaddN C d_M_goAlong_150  ?_
                  refine x_icmp_ltN (tgt := 224) C d_M_goAlong_151 (by decide) (by omega) (by omega) (fun c151 => ?_) (fun c151 => ?_)
                  · refine x_aload_n C d_M_goAlong_224 rfl rfl ?_
                    refine x_aload_n C d_M_goAlong_225 rfl rfl ?_
                    refine x_iload C d_M_goAlong_226 rfl ?_
                    refine x_iload_n C d_M_goAlong_228 rfl rfl ?_
                    refine x_callVI (wr := []) (rest := [.ref h]) C (c_M_literal hJ hs hjl hlo hhi ha (by omega) hn2) d_M_goAlong_229 cd_M_literal lk_M_50 dd_M_literal rfl ⟨Nat.le_of_ble_eq_true rfl, Nat.le_of_ble_eq_true rfl⟩ ⟨Nat.le_refl _, Nat.le_refl _⟩ 2 0 rfl rfl [0, 1, 2, 3, 4] [] rfl rfl (by decide) (by decide) (by decide) rfl (Nat.le_of_ble_eq_true rfl) ?_
                    intro r_ u229 hp_
                    obtain ⟨rfl, hu1, hu2, hu3, hu4⟩ := hp_
                    refine x_callVV (wr := []) (rest := []) C (c_M_see (w := nI (gb f g)) (sn := W.length)) d_M_goAlong_232 cd_M_see lk_M_46 dd_M_see rfl ⟨Nat.le_of_ble_eq_true rfl, Nat.le_of_ble_eq_true rfl⟩ ⟨Nat.le_refl _, Nat.le_refl _⟩ 2 0 rfl rfl [0, 1, 2, 3, 4] [] rfl rfl (by decide) (by decide) (by decide) rfl (Nat.le_of_ble_eq_true rfl) ?_
                    intro u_ hp_
                    refine x_iincN (lv' := [(5, .int (nI (g + 1))), (6, .int (nI (q.1))), (4, .int (nI ((n + 30) / 31))), (0, .ref h), (1, .int (nI a)), (2, .int (nI (a + 2 * J.length))), (3, .int wt)]) C d_M_goAlong_235 rfl (by decide) rfl ?_
                    refine x_goto (tgt := 37) C d_M_goAlong_238 (by decide) ?_
                    refine x_lv (lv' := [(5, .int (nI (g + 1))), (4, .int (nI ((n + 30) / 31))), (0, .ref h), (1, .int (nI a)), (2, .int (nI (a + 2 * J.length))), (3, .int wt)]) (Or.inr (List.forall_mem_cons.mpr ⟨rfl, List.forall_mem_cons.mpr ⟨rfl, List.forall_mem_cons.mpr ⟨rfl, List.forall_mem_cons.mpr ⟨rfl, List.forall_mem_cons.mpr ⟨rfl, List.forall_mem_cons.mpr ⟨rfl, fun _ h9 => absurd h9 List.not_mem_nil⟩⟩⟩⟩⟩⟩)) ?_
                    have h9 := gi_lit hJ hI (by omega) hn2 hq c78 (Or.inr c151) hu1 hu3 hu4 (x := nI (gb f g)) rfl
                    have h8 := ih (g + 1) u229 _ _ (by omega) h9
                    rw [List.length_append, List.length_singleton] at h8
                    exact h8
                  · refine x_aload_n C d_M_goAlong_154 rfl rfl ?_
                    refine x_get C d_M_goAlong_155 0 rfl rfl i_M 3 (by decide) lk_M_19 rfl rfl ?_
                    refine x_aload_n C d_M_goAlong_158 rfl rfl ?_
                    refine x_get C d_M_goAlong_159 0 rfl rfl i_M 6 (by decide) lk_M_38 rfl rfl ?_
                    refine x_iconst (v := (nI (1))) C d_M_goAlong_162 (by decide) ?_
                    refine x_iaddN C d_M_goAlong_163  ?_
                    refine x_iald C d_M_goAlong_164 3 rfl (by omega) (by omega) ?_
                    refine x_top (y := (nI (q.2))) hsq.2 ?_
                    refine x_bipush (v := (nI (31))) C d_M_goAlong_165 (by decide) ?_
                    refine x_idivN C d_M_goAlong_167 (by omega) (by omega) (by omega) ?_
                    refine x_istore (lv' := [(7, .int (nI ((q.2) / 31))), (6, .int (nI (q.1))), (5, .int (nI g)), (4, .int (nI ((n + 30) / 31))), (0, .ref h), (1, .int (nI a)), (2, .int (nI (a + 2 * J.length))), (3, .int wt)]) C d_M_goAlong_168 (by decide) rfl ?_
                    refine x_aload_n C d_M_goAlong_170 rfl rfl ?_
                    refine x_bipush (v := ((-2))) C d_M_goAlong_171 (by decide) ?_
                    refine x_iload C d_M_goAlong_173 rfl ?_
                    refine x_iload C d_M_goAlong_175 rfl ?_
                    refine x_isubN C d_M_goAlong_177 (by omega) ?_
                    refine x_imul C d_M_goAlong_178  ?_
                    refine x_iconst (v := (nI (1))) C d_M_goAlong_179 (by decide) ?_
                    refine x_isub C d_M_goAlong_180  ?_
                    refine x_top (y := (enc (AL, q.2 / 31 - g))) ((fill_A _).trans (enc_A rfl).symm) ?_
                    refine x_callVV (wr := []) (rest := []) C (c_M_see (w := enc (AL, q.2 / 31 - g)) (sn := W.length)) d_M_goAlong_181 cd_M_see lk_M_46 dd_M_see rfl ⟨Nat.le_of_ble_eq_true rfl, Nat.le_of_ble_eq_true rfl⟩ ⟨Nat.le_refl _, Nat.le_refl _⟩ 2 0 rfl rfl [0, 1, 2, 3, 4] [] rfl rfl (by decide) (by decide) (by decide) rfl (Nat.le_of_ble_eq_true rfl) ?_
                    intro u_ hp_
                    refine x_iload C d_M_goAlong_184 rfl ?_
                    refine x_istore (lv' := [(5, .int (nI ((q.2) / 31))), (7, .int (nI ((q.2) / 31))), (6, .int (nI (q.1))), (4, .int (nI ((n + 30) / 31))), (0, .ref h), (1, .int (nI a)), (2, .int (nI (a + 2 * J.length))), (3, .int wt)]) C d_M_goAlong_186 (by decide) rfl ?_
                    refine x_aload_n C d_M_goAlong_188 rfl rfl ?_
                    refine x_dup C d_M_goAlong_189 rfl ?_
                    refine x_get C d_M_goAlong_190 0 rfl rfl i_M 6 (by decide) lk_M_38 rfl rfl ?_
                    refine x_aload_n C d_M_goAlong_193 rfl rfl ?_
                    refine x_get C d_M_goAlong_194 0 rfl rfl i_M 3 (by decide) lk_M_19 rfl rfl ?_
                    refine x_aload_n C d_M_goAlong_197 rfl rfl ?_
                    refine x_get C d_M_goAlong_198 0 rfl rfl i_M 6 (by decide) lk_M_38 rfl rfl ?_
                    refine x_iconst (v := (nI (1))) C d_M_goAlong_201 (by decide) ?_
                    refine x_iaddN C d_M_goAlong_202  ?_
                    refine x_iald C d_M_goAlong_203 3 rfl (by omega) (by omega) ?_
                    refine x_top (y := (nI (q.2))) hsq.2 ?_
                    refine x_bipush (v := (nI (31))) C d_M_goAlong_204 (by decide) ?_
                    refine x_iload C d_M_goAlong_206 rfl ?_
                    refine x_imulN C d_M_goAlong_208  ?_
                    refine x_icmp_neN (tgt := 216) C d_M_goAlong_209 (by decide) (by omega) (by omega) (fun c209 => ?_) (fun c209 => ?_)
                    · refine x_iconst (v := (nI (0))) C d_M_goAlong_216 (by decide) ?_
                      refine x_iaddN C d_M_goAlong_217  ?_
                      refine x_top (y := (nI (a + 2 * j))) (by congr 1) ?_
                      refine x_put (ty := .int) (v := .int (nI (a + 2 * j))) (ws' := [(h, .inr (2, [.ref e0, .ref v0, .int (nI rn), .ref l0, .ref b0, .int (nI ns), .int (nI (a + 2 * j)), .int (nI (W.length + 1)), .int wt, .int (if nI W.length = wt then enc (AL, q.2 / 31 - g) else fd)])), (e0, .inl (cA, 33000, .inl (E))), (v0, .inl (cA, 66000, .inl (V))), (l0, .inl (cA, 200000, .inl (L))), (b0, .inl (cA, 15, .inl (B)))]) C d_M_goAlong_218 0 rfl rfl i_M t_M t_M_ok n_M 6 (by decide) lk_M_38 rfl rfl (t_M_ok 6 (by decide)) rfl rfl (Nat.le_of_ble_eq_true rfl) rfl ?_
                      refine x_goto (tgt := 238) C d_M_goAlong_221 (by decide) ?_
                      refine x_goto (tgt := 37) C d_M_goAlong_238 (by decide) ?_
                      refine x_lv (lv' := [(5, .int (nI ((q.2) / 31))), (4, .int (nI ((n + 30) / 31))), (0, .ref h), (1, .int (nI a)), (2, .int (nI (a + 2 * J.length))), (3, .int wt)]) (Or.inr (List.forall_mem_cons.mpr ⟨rfl, List.forall_mem_cons.mpr ⟨rfl, List.forall_mem_cons.mpr ⟨rfl, List.forall_mem_cons.mpr ⟨rfl, List.forall_mem_cons.mpr ⟨rfl, List.forall_mem_cons.mpr ⟨rfl, fun _ h9 => absurd h9 List.not_mem_nil⟩⟩⟩⟩⟩⟩)) ?_
                      have h9 := gi_full (j' := j) hJ hI (by omega) hn2 hq c129 c151 (Or.inr ⟨c209, rfl⟩) (x := enc (AL, q.2 / 31 - g)) rfl
                      have h8 := ih (q.2 / 31) j _ _ (by omega) h9
                      rw [List.length_append, List.length_singleton] at h8
                      exact h8
                    · refine x_iconst (v := (nI (2))) C d_M_goAlong_212 (by decide) ?_
                      refine x_goto (tgt := 217) C d_M_goAlong_213 (by decide) ?_
                      refine x_iaddN C d_M_goAlong_217  ?_
                      refine x_top (y := (nI (a + 2 * (j + 1)))) (by congr 1) ?_
                      refine x_put (ty := .int) (v := .int (nI (a + 2 * (j + 1)))) (ws' := [(h, .inr (2, [.ref e0, .ref v0, .int (nI rn), .ref l0, .ref b0, .int (nI ns), .int (nI (a + 2 * (j + 1))), .int (nI (W.length + 1)), .int wt, .int (if nI W.length = wt then enc (AL, q.2 / 31 - g) else fd)])), (e0, .inl (cA, 33000, .inl (E))), (v0, .inl (cA, 66000, .inl (V))), (l0, .inl (cA, 200000, .inl (L))), (b0, .inl (cA, 15, .inl (B)))]) C d_M_goAlong_218 0 rfl rfl i_M t_M t_M_ok n_M 6 (by decide) lk_M_38 rfl rfl (t_M_ok 6 (by decide)) rfl rfl (Nat.le_of_ble_eq_true rfl) rfl ?_
                      refine x_goto (tgt := 238) C d_M_goAlong_221 (by decide) ?_
                      refine x_goto (tgt := 37) C d_M_goAlong_238 (by decide) ?_
                      refine x_lv (lv' := [(5, .int (nI ((q.2) / 31))), (4, .int (nI ((n + 30) / 31))), (0, .ref h), (1, .int (nI a)), (2, .int (nI (a + 2 * J.length))), (3, .int wt)]) (Or.inr (List.forall_mem_cons.mpr ⟨rfl, List.forall_mem_cons.mpr ⟨rfl, List.forall_mem_cons.mpr ⟨rfl, List.forall_mem_cons.mpr ⟨rfl, List.forall_mem_cons.mpr ⟨rfl, List.forall_mem_cons.mpr ⟨rfl, fun _ h9 => absurd h9 List.not_mem_nil⟩⟩⟩⟩⟩⟩)) ?_
                      have h9 := gi_full (j' := j + 1) hJ hI (by omega) hn2 hq c129 c151 (Or.inl ⟨c209, rfl⟩) (x := enc (AL, q.2 / 31 - g)) rfl
                      have h8 := ih (q.2 / 31) (j + 1) _ _ (by omega) h9
                      rw [List.length_append, List.length_singleton] at h8
                      exact h8
              · refine x_iload C d_M_goAlong_81 rfl ?_
                refine x_bipush (v := (nI (31))) C d_M_goAlong_83 (by decide) ?_
                refine x_idivN C d_M_goAlong_85 (by omega) (by omega) (by omega) ?_
                refine x_iload C d_M_goAlong_86 rfl ?_
                refine x_icmp_geN (tgt := 99) C d_M_goAlong_88 (by decide) (by omega) (by omega) (fun c88 => ?_) (fun c88 => ?_)
                · exact absurd c88 (by omega)
                · refine x_iload C d_M_goAlong_91 rfl ?_
                  refine x_bipush (v := (nI (31))) C d_M_goAlong_93 (by decide) ?_
                  refine x_idivN C d_M_goAlong_95 (by omega) (by omega) (by omega) ?_
                  refine x_goto (tgt := 101) C d_M_goAlong_96 (by decide) ?_
                  refine x_istore (lv' := [(7, .int (nI ((q.1) / 31))), (6, .int (nI (q.1))), (5, .int (nI g)), (4, .int (nI ((n + 30) / 31))), (0, .ref h), (1, .int (nI a)), (2, .int (nI (a + 2 * J.length))), (3, .int wt)]) C d_M_goAlong_101 (by decide) rfl ?_
                  refine x_aload_n C d_M_goAlong_103 rfl rfl ?_
                  refine x_bipush (v := ((-2))) C d_M_goAlong_104 (by decide) ?_
                  refine x_iload C d_M_goAlong_106 rfl ?_
                  refine x_iload C d_M_goAlong_108 rfl ?_
                  refine x_isubN C d_M_goAlong_110 (by omega) ?_
                  refine x_imul C d_M_goAlong_111  ?_
                  refine x_top (y := (enc (0, q.1 / 31 - g))) ((fill_0 _).trans (enc_0 rfl).symm) ?_
                  refine x_callVV (wr := []) (rest := []) C (c_M_see (w := enc (0, q.1 / 31 - g)) (sn := W.length)) d_M_goAlong_112 cd_M_see lk_M_46 dd_M_see rfl ⟨Nat.le_of_ble_eq_true rfl, Nat.le_of_ble_eq_true rfl⟩ ⟨Nat.le_refl _, Nat.le_refl _⟩ 2 0 rfl rfl [0, 1, 2, 3, 4] [] rfl rfl (by decide) (by decide) (by decide) rfl (Nat.le_of_ble_eq_true rfl) ?_
                  intro u_ hp_
                  refine x_iload C d_M_goAlong_115 rfl ?_
                  refine x_istore (lv' := [(5, .int (nI ((q.1) / 31))), (7, .int (nI ((q.1) / 31))), (6, .int (nI (q.1))), (4, .int (nI ((n + 30) / 31))), (0, .ref h), (1, .int (nI a)), (2, .int (nI (a + 2 * J.length))), (3, .int wt)]) C d_M_goAlong_117 (by decide) rfl ?_
                  refine x_goto (tgt := 238) C d_M_goAlong_119 (by decide) ?_
                  refine x_goto (tgt := 37) C d_M_goAlong_238 (by decide) ?_
                  refine x_lv (lv' := [(5, .int (nI ((q.1) / 31))), (4, .int (nI ((n + 30) / 31))), (0, .ref h), (1, .int (nI a)), (2, .int (nI (a + 2 * J.length))), (3, .int wt)]) (Or.inr (List.forall_mem_cons.mpr ⟨rfl, List.forall_mem_cons.mpr ⟨rfl, List.forall_mem_cons.mpr ⟨rfl, List.forall_mem_cons.mpr ⟨rfl, List.forall_mem_cons.mpr ⟨rfl, List.forall_mem_cons.mpr ⟨rfl, fun _ h9 => absurd h9 List.not_mem_nil⟩⟩⟩⟩⟩⟩)) ?_
                  have h9 := gi_empty hJ hI (by omega) hn2 hq c78 (x := enc (0, q.1 / 31 - g)) rfl
                  have h8 := ih (q.1 / 31) j _ _ (by omega) h9
                  rw [List.length_append, List.length_singleton] at h8
                  exact h8
  refine x_aload_n C d_M_goAlong_0 rfl rfl ?_
  refine x_callVI (wr := []) (rest := []) C (c_M_rows hE) d_M_goAlong_1 cd_M_rows lk_M_41 dd_M_rows rfl ⟨Nat.le_of_ble_eq_true rfl, Nat.le_of_ble_eq_true rfl⟩ ⟨Nat.le_refl _, Nat.le_refl _⟩ 2 0 rfl rfl [0, 1, 2, 3, 4] [] rfl rfl (by decide) (by decide) (by decide) rfl (Nat.le_of_ble_eq_true rfl) ?_
  intro r_ u_ hp_
  obtain rfl := hp_
  refine x_top (y := (nI (n))) (by rw [hn]) ?_
  refine x_bipush (v := (nI (31))) C d_M_goAlong_4 (by decide) ?_
  refine x_iaddN C d_M_goAlong_6  ?_
  refine x_iconst (v := (nI (1))) C d_M_goAlong_7 (by decide) ?_
  refine x_isubN C d_M_goAlong_8 (by omega) ?_
  refine x_bipush (v := (nI (31))) C d_M_goAlong_9 (by decide) ?_
  refine x_idivN C d_M_goAlong_11 (by omega) (by omega) (by omega) ?_
  refine x_top (y := (nI ((n + 30) / 31))) (by congr 1) ?_
  refine x_istore (lv' := [(4, .int (nI ((n + 30) / 31))), (0, .ref h), (1, .int (nI a)), (2, .int (nI (a + 2 * J.length))), (3, .int wt)]) C d_M_goAlong_12 (by decide) rfl ?_
  refine x_aload_n C d_M_goAlong_14 rfl rfl ?_
  refine x_iload_n C d_M_goAlong_15 rfl rfl ?_
  refine x_put (ty := .int) (v := .int (nI a)) (ws' := [(h, .inr (2, [.ref e0, .ref v0, .int (nI rn), .ref l0, .ref b0, .int (nI ns), .int (nI a), .int sn, .int wa, .int wf])), (e0, .inl (cA, 33000, .inl (E))), (v0, .inl (cA, 66000, .inl (V))), (l0, .inl (cA, 200000, .inl (L))), (b0, .inl (cA, 15, .inl (B)))]) C d_M_goAlong_16 0 rfl rfl i_M t_M t_M_ok n_M 6 (by decide) lk_M_38 rfl rfl (t_M_ok 6 (by decide)) rfl rfl (Nat.le_of_ble_eq_true rfl) rfl ?_
  refine x_aload_n C d_M_goAlong_19 rfl rfl ?_
  refine x_iconst (v := (nI (0))) C d_M_goAlong_20 (by decide) ?_
  refine x_put (ty := .int) (v := .int (nI 0)) (ws' := [(h, .inr (2, [.ref e0, .ref v0, .int (nI rn), .ref l0, .ref b0, .int (nI ns), .int (nI a), .int (nI 0), .int wa, .int wf])), (e0, .inl (cA, 33000, .inl (E))), (v0, .inl (cA, 66000, .inl (V))), (l0, .inl (cA, 200000, .inl (L))), (b0, .inl (cA, 15, .inl (B)))]) C d_M_goAlong_21 0 rfl rfl i_M t_M t_M_ok n_M 7 (by decide) lk_M_29 rfl rfl (t_M_ok 7 (by decide)) rfl rfl (Nat.le_of_ble_eq_true rfl) rfl ?_
  refine x_aload_n C d_M_goAlong_24 rfl rfl ?_
  refine x_iload_n C d_M_goAlong_25 rfl rfl ?_
  refine x_put (ty := .int) (v := .int wt) (ws' := [(h, .inr (2, [.ref e0, .ref v0, .int (nI rn), .ref l0, .ref b0, .int (nI ns), .int (nI a), .int (nI 0), .int wt, .int wf])), (e0, .inl (cA, 33000, .inl (E))), (v0, .inl (cA, 66000, .inl (V))), (l0, .inl (cA, 200000, .inl (L))), (b0, .inl (cA, 15, .inl (B)))]) C d_M_goAlong_26 0 rfl rfl i_M t_M t_M_ok n_M 8 (by decide) lk_M_32 rfl rfl (t_M_ok 8 (by decide)) rfl rfl (Nat.le_of_ble_eq_true rfl) rfl ?_
  refine x_aload_n C d_M_goAlong_29 rfl rfl ?_
  refine x_iconst (v := (nI (0))) C d_M_goAlong_30 (by decide) ?_
  refine x_put (ty := .int) (v := .int (nI 0)) (ws' := [(h, .inr (2, [.ref e0, .ref v0, .int (nI rn), .ref l0, .ref b0, .int (nI ns), .int (nI a), .int (nI 0), .int wt, .int (nI 0)])), (e0, .inl (cA, 33000, .inl (E))), (v0, .inl (cA, 66000, .inl (V))), (l0, .inl (cA, 200000, .inl (L))), (b0, .inl (cA, 15, .inl (B)))]) C d_M_goAlong_31 0 rfl rfl i_M t_M t_M_ok n_M 9 (by decide) lk_M_35 rfl rfl (t_M_ok 9 (by decide)) rfl rfl (Nat.le_of_ble_eq_true rfl) rfl ?_
  refine x_iconst (v := (nI (0))) C d_M_goAlong_34 (by decide) ?_
  refine x_istore (lv' := [(5, .int (nI 0)), (4, .int (nI ((n + 30) / 31))), (0, .ref h), (1, .int (nI a)), (2, .int (nI (a + 2 * J.length))), (3, .int wt)]) C d_M_goAlong_35 (by decide) rfl ?_
  refine x_lv (lv' := [(5, .int (nI 0)), (4, .int (nI ((n + 30) / 31))), (0, .ref h), (1, .int (nI a)), (2, .int (nI (a + 2 * J.length))), (3, .int wt)]) (Or.inr (List.forall_mem_cons.mpr ⟨rfl, List.forall_mem_cons.mpr ⟨rfl, List.forall_mem_cons.mpr ⟨rfl, List.forall_mem_cons.mpr ⟨rfl, List.forall_mem_cons.mpr ⟨rfl, List.forall_mem_cons.mpr ⟨rfl, fun _ h9 => absurd h9 List.not_mem_nil⟩⟩⟩⟩⟩⟩)) ?_
  exact LP ((n + 30) / 31) 0 0 [] (nI 0) (by omega) (gi_start hJ)
