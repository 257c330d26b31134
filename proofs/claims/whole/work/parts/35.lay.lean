/-! two sets of intervals joined -/
def nx (J : List (Nat × Nat)) (i row n : Nat) : Nat := match J[i]? with
  | none => n
  | some q => if q.1 ≤ row then q.2 else q.1
theorem nx_none {J : List (Nat × Nat)} {i row n : Nat} (h : J.length ≤ i) : nx J i row n = n := by
  have : J[i]? = none := List.getElem?_eq_none h
  simp [nx, this]
theorem nx_in {J : List (Nat × Nat)} {i row n : Nat} {q : Nat × Nat} (h : J[i]? = some q) (h1 : q.1 ≤ row) : nx J i row n = q.2 := by simp [nx, h, h1]
theorem nx_out {J : List (Nat × Nat)} {i row n : Nat} {q : Nat × Nat} (h : J[i]? = some q) (h1 : row < q.1) : nx J i row n = q.1 := by
  have : ¬ q.1 ≤ row := by omega
  simp [nx, h, this]
/-- place i is right for a row: all intervals ahead end there or before, this one behind it -/
def at_row (J : List (Nat × Nat)) (i row : Nat) : Prop := i ≤ J.length ∧ (∀ k q, k < i → J[k]? = some q → q.2 ≤ row) ∧ (∀ q, J[i]? = some q → row < q.2)
theorem now_none {n : Nat} {f : Nat → Bool} {J : List (Nat × Nat)} {i row : Nat} (h : Iv n f J) (ha : at_row J i row) (h1 : J.length ≤ i) : f row = false := f_gap (j := i) h ha.2.1 (fun q hq => absurd (List.getElem?_eq_some_iff.mp hq).1 (by omega))
theorem now_out {n : Nat} {f : Nat → Bool} {J : List (Nat × Nat)} {i row : Nat} {q : Nat × Nat} (h : Iv n f J) (ha : at_row J i row) (hq : J[i]? = some q) (h1 : row < q.1) : f row = false := f_gap (j := i) h ha.2.1 (fun p hp => by rw [hq] at hp; cases hp; exact h1)
theorem now_in {n : Nat} {f : Nat → Bool} {J : List (Nat × Nat)} {i row : Nat} {q : Nat × Nat} (h : Iv n f J) (ha : at_row J i row) (hq : J[i]? = some q) (h1 : q.1 ≤ row) : f row = true := f_in h hq h1 (ha.2.2 q hq)
theorem nx_gt {J : List (Nat × Nat)} {i row n : Nat} (ha : at_row J i row) (hn : row < n) : row < nx J i row n := by
  by_cases h : i < J.length
  · have hq : J[i]? = some J[i] := List.getElem?_eq_getElem h
    by_cases h1 : J[i].1 ≤ row
    · rw [nx_in hq h1]; exact ha.2.2 _ hq
    · rw [nx_out hq (by omega)]; omega
  · rw [nx_none (by omega)]; exact hn
theorem nx_const {n : Nat} {f : Nat → Bool} {J : List (Nat × Nat)} {i row : Nat} (h : Iv n f J) (ha : at_row J i row) : ∀ r, row ≤ r → r < nx J i row n → f r = f row := by
  intro r h1 h2
  by_cases h3 : i < J.length
  · have hq : J[i]? = some J[i] := List.getElem?_eq_getElem h3
    by_cases h4 : J[i].1 ≤ row
    · rw [nx_in hq h4] at h2
      rw [f_in h hq (by omega) h2, now_in h ha hq h4]
    · rw [nx_out hq (by omega)] at h2
      rw [now_out h ha hq (by omega)]
      exact f_gap (j := i) h (fun k q h5 h6 => Nat.le_trans (ha.2.1 k q h5 h6) h1) (fun p hp => by rw [hq] at hp; cases hp; exact h2)
  · rw [now_none h ha (by omega)]
    exact f_gap (j := i) h (fun k q h5 h6 => Nat.le_trans (ha.2.1 k q h5 h6) h1) (fun q hq => absurd (List.getElem?_eq_some_iff.mp hq).1 (by omega))
theorem nx_bnd {en : Nat → Nat} {rn : Nat} {f : Nat → Bool} {J : List (Nat × Nat)} {i row : Nat} (h : Ik en rn f J) : ∃ t, t ≤ rn ∧ nx J i row (bnd en rn) = bnd en t := by
  by_cases h3 : i < J.length
  · have hq : J[i]? = some J[i] := List.getElem?_eq_getElem h3
    obtain ⟨a, b, h4, h5, h6, h7⟩ := h.2.1 _ (List.mem_of_getElem? hq)
    by_cases h8 : J[i].1 ≤ row
    · exact ⟨b, h5, by rw [nx_in hq h8, h7]⟩
    · exact ⟨a, by omega, by rw [nx_out hq (by omega), h6]⟩
  · exact ⟨rn, Nat.le_refl _, nx_none (by omega)⟩
theorem gl_skip {en : Nat → Nat} {t t' : Nat} {f f' : Nat → Bool} {J : List (Nat × Nat)} (h : Ik en t f J) (ht : t ≤ t') (hf : ∀ r, f' r = f r) : Ik en t' f' J := ⟨h.1, fun p hp => by
  obtain ⟨i, j, h1, h2, h3⟩ := h.2.1 p hp
  exact ⟨i, j, h1, by omega, h3⟩, Nat.le_trans h.2.2.1 ht, fun r => by rw [hf r]; exact h.2.2.2 r⟩
theorem gl_new {en : Nat → Nat} {t t' : Nat} {f f' : Nat → Bool} {J : List (Nat × Nat)} (h : Ik en t f J) (ht : t < t') (hb : bnd en t < bnd en t') (hl : ∀ p, J.getLast? = some p → p.2 < bnd en t) (hf : ∀ r, f' r = (f r || (decide (bnd en t ≤ r) && decide (r < bnd en t')))) : Ik en t' f' (J ++ [(bnd en t, bnd en t')]) := by
  refine ⟨ivs_snoc.mpr ⟨h.1, hb, Nat.zero_le _, hl⟩, fun p hp => ?_, ?_, fun r => ?_⟩
  · rcases List.mem_append.mp hp with hp | hp
    · obtain ⟨i, j, h1, h2, h3⟩ := h.2.1 p hp
      exact ⟨i, j, h1, by omega, h3⟩
    · rw [List.mem_singleton.mp hp]
      exact ⟨t, t', ht, Nat.le_refl _, rfl, rfl⟩
  · rw [List.length_append, List.length_singleton]
    have := h.2.2.1
    omega
  · rw [mem_app, mem_one, ← h.2.2.2 r, hf r]
theorem gl_ext {en : Nat → Nat} {t t' : Nat} {f f' : Nat → Bool} {J : List (Nat × Nat)} {p : Nat × Nat} (h : Ik en t f (J ++ [p])) (ht : t < t') (hb : bnd en t < bnd en t') (hl : p.2 = bnd en t) (hf : ∀ r, f' r = (f r || (decide (bnd en t ≤ r) && decide (r < bnd en t')))) : Ik en t' f' (J ++ [(p.1, bnd en t')]) := by
  have h0 := ivs_snoc.mp h.1
  refine ⟨ivs_snoc.mpr ⟨h0.1, by dsimp only; omega, h0.2.2.1, h0.2.2.2⟩, fun q hq => ?_, ?_, fun r => ?_⟩
  · rcases List.mem_append.mp hq with hq | hq
    · obtain ⟨i, j, h1, h2, h3⟩ := h.2.1 q (List.mem_append_left _ hq)
      exact ⟨i, j, h1, by omega, h3⟩
    · rw [List.mem_singleton.mp hq]
      obtain ⟨i, j, h1, h2, h3, h4⟩ := h.2.1 p (by simp)
      exact ⟨i, t', by omega, Nat.le_refl _, h3, rfl⟩
  · have := h.2.2.1
    rw [List.length_append, List.length_singleton] at this ⊢
    omega
  · have h1 := h.2.2.2 r
    rw [mem_app, mem_one] at h1 ⊢
    rw [hf r, h1]
    have h5 : (decide (p.1 ≤ r) && decide (r < bnd en t')) = ((decide (p.1 ≤ r) && decide (r < p.2)) || (decide (bnd en t ≤ r) && decide (r < bnd en t'))) := by
      rw [← Bool.decide_and, ← Bool.decide_and, ← Bool.decide_and, ← Bool.decide_or]
      congr 1
      have h6 := h0.2.1
      exact propext ⟨fun q => by omega, fun q => by omega⟩
    dsimp only
    rw [h5, Bool.or_assoc]
def f3 (en : Nat → Nat) (op : Nat) (f1 f2 : Nat → Bool) (t : Nat) : Nat → Bool := fun r => decide (r < bnd en t) && jbb op (f1 r) (f2 r)
theorem f3_step {en : Nat → Nat} {op t t' : Nat} {f1 f2 : Nat → Bool} (hb : bnd en t < bnd en t') (h1 : ∀ r, bnd en t ≤ r → r < bnd en t' → f1 r = f1 (bnd en t)) (h2 : ∀ r, bnd en t ≤ r → r < bnd en t' → f2 r = f2 (bnd en t)) (r : Nat) : f3 en op f1 f2 t' r = (f3 en op f1 f2 t r || ((decide (bnd en t ≤ r) && decide (r < bnd en t')) && jbb op (f1 (bnd en t)) (f2 (bnd en t)))) := by
  unfold f3
  by_cases h3 : r < bnd en t
  · have h4 : r < bnd en t' := by omega
    have h5 : ¬ bnd en t ≤ r := by omega
    simp [h3, h4, h5]
  · by_cases h4 : r < bnd en t'
    · have h5 : bnd en t ≤ r := by omega
      rw [h1 r h5 h4, h2 r h5 h4]
      simp [h3, h4, h5]
    · simp [h3, h4]
theorem seg_keep {L La : Nat → Int32} {a b : Nat} {J : List (Nat × Nat)} (h : seg L a J) (hl : ∀ x, x < b → La x = L x) (hb : a + 2 * J.length ≤ b) : seg La a J := fun i p hp => by
  have hi : i < J.length := (List.getElem?_eq_some_iff.mp hp).1
  rw [hl _ (by omega), hl _ (by omega)]
  exact h i p hp
theorem row_up {J : List (Nat × Nat)} {i row row' : Nat} (h : ∀ k q, k < i → J[k]? = some q → q.2 ≤ row) (hr : row ≤ row') : ∀ k q, k < i → J[k]? = some q → q.2 ≤ row' := fun k q h1 h2 => Nat.le_trans (h k q h1 h2) hr
theorem row_next {J : List (Nat × Nat)} {i row : Nat} {q : Nat × Nat} (h : ∀ k q, k < i → J[k]? = some q → q.2 ≤ row) (hq : J[i]? = some q) (h0 : q.2 ≤ row) : ∀ k q, k < i + 1 → J[k]? = some q → q.2 ≤ row := by
  intro k q2 h1 h2
  rcases Nat.lt_or_ge k i with h3 | h3
  · exact h k q2 h3 h2
  · have h4 : k = i := by omega
    subst h4
    rw [hq] at h2
    cases h2
    exact h0
theorem bool_of_zero {b : Bool} (h : b.toNat = 0) : b = false := by cases b; rfl; cases h
theorem bool_of_pos {b : Bool} (h : 0 < b.toNat) : b = true := by cases b; cases h; rfl
set_option maxHeartbeats 8000000 in
theorem c_M_layJoined {l : Launch} {D : va_G} {cA : ClassId} {h e0 v0 l0 b0 rn ns : Nat} {E V L B : Nat → Int32} {pl sn wa wf : Int32} {en : Nat → Nat} {vl : Nat → Nat → Nat} (hE : Rn E V rn en vl) {n a1 a2 a3 op : Nat} {f1 f2 : Nat → Bool} {J1 J2 : List (Nat × Nat)} (hn : bnd en rn = n) (h1 : Ik en rn f1 J1) (h2 : Ik en rn f2 J2) (s1 : seg L a1 J1) (s2 : seg L a2 J2) (e1 : a1 + 2 * J1.length ≤ a3) (e2 : a2 + 2 * J2.length ≤ a3) (ha : a3 + 2 * rn + 2 ≤ 200000) (ho : op ≤ 3)  : CtI l D cA y_M_layJoined b_M_layJoined 16 (some .int) ({ frames := 1, cells := 0, slots := 0, locals := 22 } : Room) [.ref h, .int (nI op), .int (nI a1), .int (nI (a1 + 2 * J1.length)), .int (nI a2), .int (nI (a2 + 2 * J2.length)), .int (nI a3)] (mW cA h e0 v0 l0 b0 E V L B rn ns pl sn wa wf) (fun r (u : (Nat → Int32) × List (Nat × Nat)) => r = nI (a3 + 2 * u.2.length) ∧ Ik en rn (f3 en op f1 f2 rn) u.2 ∧ seg u.1 a3 u.2 ∧ ∀ x, x < a3 → u.1 x = L x) (fun u => (mW cA h e0 v0 l0 b0 E V (u.1) B rn ns pl sn wa wf)) := by
  refine CtI.start (lv0 := [(0, .ref h), (1, .int (nI op)), (2, .int (nI a1)), (3, .int (nI (a1 + 2 * J1.length))), (4, .int (nI a2)), (5, .int (nI (a2 + 2 * J2.length))), (6, .int (nI a3))]) (by decide) rfl (Nat.le_of_ble_eq_true rfl) ?_
  intro p_ e_ s_ m_ args_ below_ meth_ c_ A_ C hr hin
  have hr0 := hE.1
  have hn2 : n ≤ 1000000 := by rw [← hn]; exact bnd_le hE rn (Nat.le_refl _)
  have iv1 : Iv n f1 J1 := by rw [← hn]; exact h1.iv hE (Nat.le_refl _)
  have iv2 : Iv n f2 J2 := by rw [← hn]; exact h2.iv hE (Nat.le_refl _)
  have LP : ∀ (d t i j at_ x_ y_ : Nat) (J3 : List (Nat × Nat)) (La : Nat → Int32), rn ≤ t + d → t ≤ rn → at_ = a3 + 2 * J3.length → Ik en t (f3 en op f1 f2 t) J3 → seg La a3 J3 → (∀ x, x < a3 → La x = L x) → i ≤ J1.length → x_ = a1 + 2 * i → (∀ k q, k < i → J1[k]? = some q → q.2 ≤ bnd en t) → j ≤ J2.length → y_ = a2 + 2 * j → (∀ k q, k < j → J2[k]? = some q → q.2 ≤ bnd en t) → X p_ l e_ ({ frames := 1, cells := 0, slots := 0, locals := 22 } : Room) s_ m_ args_ below_ meth_ c_ D A_ 16 0 0 (MQ below_ (va_Qi (fun r (u : (Nat → Int32) × List (Nat × Nat)) => r = nI (a3 + 2 * u.2.length) ∧ Ik en rn (f3 en op f1 f2 rn) u.2 ∧ seg u.1 a3 u.2 ∧ ∀ x, x < a3 → u.1 x = L x) (Bw D A_ (fun u => (mW cA h e0 v0 l0 b0 E V (u.1) B rn ns pl sn wa wf))) A_) args_ s_ 0 0 A_) [(h, .inr (2, [.ref e0, .ref v0, .int (nI rn), .ref l0, .ref b0, .int (nI ns), .int pl, .int sn, .int wa, .int wf])), (e0, .inl (cA, 33000, .inl (E))), (v0, .inl (cA, 66000, .inl (V))), (l0, .inl (cA, 200000, .inl (La))), (b0, .inl (cA, 15, .inl (B)))] 14 [(10, .int (nI (bnd en t))), (9, .int (nI y_)), (8, .int (nI x_)), (7, .int (nI at_)), (0, .ref h), (1, .int (nI op)), (2, .int (nI a1)), (3, .int (nI (a1 + 2 * J1.length))), (4, .int (nI a2)), (5, .int (nI (a2 + 2 * J2.length))), (6, .int (nI a3))] [] := by
    intro d
    induction d with
    | zero =>
      intro t i j at_ x_ y_ J3 La hd ht hat hI hsg hlo hi hx hi1 hj hy hj1
      have hJ3 := hI.2.2.1
      have hbt := bnd_le hE t ht
      have ht2 : t = rn := by omega
      subst ht2
      refine x_iload C d_M_layJoined_14 rfl ?_
      refine x_aload_n C d_M_layJoined_16 rfl rfl ?_
      refine x_callVI (wr := []) (rest := [.int (nI (bnd en t))]) C (c_M_rows hE) d_M_layJoined_17 cd_M_rows lk_M_41 dd_M_rows rfl ⟨Nat.le_of_ble_eq_true rfl, Nat.le_of_ble_eq_true rfl⟩ ⟨Nat.le_refl _, Nat.le_refl _⟩ 2 0 rfl rfl [0, 1, 2, 3, 4] [] rfl rfl (by decide) (by decide) (by decide) rfl (Nat.le_of_ble_eq_true rfl) ?_
      intro r_ u_ hp_
      obtain rfl := hp_
      refine x_top (y := (nI (n))) (by rw [hn]) ?_
      refine x_icmp_geN (tgt := 316) C d_M_layJoined_20 (by decide) (by omega) (by omega) (fun c20 => ?_) (fun c20 => ?_)
      · refine x_iload C d_M_layJoined_316 rfl ?_
        exact x_iret C hr d_M_layJoined_318 (La, J3) rfl (⟨by rw [hat], hI, hsg, hlo⟩)
      · exact absurd c20 (by omega)
    | succ d ih =>
      intro t i j at_ x_ y_ J3 La hd ht hat hI hsg hlo hi hx hi1 hj hy hj1
      have hJ3 := hI.2.2.1
      have hbt := bnd_le hE t ht
      by_cases htr : t = rn
      · subst htr
        refine x_iload C d_M_layJoined_14 rfl ?_
        refine x_aload_n C d_M_layJoined_16 rfl rfl ?_
        refine x_callVI (wr := []) (rest := [.int (nI (bnd en t))]) C (c_M_rows hE) d_M_layJoined_17 cd_M_rows lk_M_41 dd_M_rows rfl ⟨Nat.le_of_ble_eq_true rfl, Nat.le_of_ble_eq_true rfl⟩ ⟨Nat.le_refl _, Nat.le_refl _⟩ 2 0 rfl rfl [0, 1, 2, 3, 4] [] rfl rfl (by decide) (by decide) (by decide) rfl (Nat.le_of_ble_eq_true rfl) ?_
        intro r_ u_ hp_
        obtain rfl := hp_
        refine x_top (y := (nI (n))) (by rw [hn]) ?_
        refine x_icmp_geN (tgt := 316) C d_M_layJoined_20 (by decide) (by omega) (by omega) (fun c20 => ?_) (fun c20 => ?_)
        · refine x_iload C d_M_layJoined_316 rfl ?_
          exact x_iret C hr d_M_layJoined_318 (La, J3) rfl (⟨by rw [hat], hI, hsg, hlo⟩)
        · exact absurd c20 (by omega)
      · have hrow : bnd en t < n := by rw [← hn]; exact bnd_lt hE (by omega) (Nat.le_refl _)
        have s1a := seg_keep s1 hlo e1
        have s2a := seg_keep s2 hlo e2
        have H76 : ∀ (i j x_ y_ : Nat), at_row J1 i (bnd en t) → x_ = a1 + 2 * i → at_row J2 j (bnd en t) → y_ = a2 + 2 * j → X p_ l e_ ({ frames := 1, cells := 0, slots := 0, locals := 22 } : Room) s_ m_ args_ below_ meth_ c_ D A_ 16 0 0 (MQ below_ (va_Qi (fun r (u : (Nat → Int32) × List (Nat × Nat)) => r = nI (a3 + 2 * u.2.length) ∧ Ik en rn (f3 en op f1 f2 rn) u.2 ∧ seg u.1 a3 u.2 ∧ ∀ x, x < a3 → u.1 x = L x) (Bw D A_ (fun u => (mW cA h e0 v0 l0 b0 E V (u.1) B rn ns pl sn wa wf))) A_) args_ s_ 0 0 A_) [(h, .inr (2, [.ref e0, .ref v0, .int (nI rn), .ref l0, .ref b0, .int (nI ns), .int pl, .int sn, .int wa, .int wf])), (e0, .inl (cA, 33000, .inl (E))), (v0, .inl (cA, 66000, .inl (V))), (l0, .inl (cA, 200000, .inl (La))), (b0, .inl (cA, 15, .inl (B)))] 76 [(10, .int (nI (bnd en t))), (9, .int (nI y_)), (8, .int (nI x_)), (7, .int (nI at_)), (0, .ref h), (1, .int (nI op)), (2, .int (nI a1)), (3, .int (nI (a1 + 2 * J1.length))), (4, .int (nI a2)), (5, .int (nI (a2 + 2 * J2.length))), (6, .int (nI a3))] [] := by
          intro i j x_ y_ r1 hx r2 hy
          have g1 := nx_gt r1 hrow
          have g2 := nx_gt r2 hrow
          have k1 := nx_const iv1 r1
          have k2 := nx_const iv2 r2
          have hi := r1.1
          have hj := r2.1
          obtain ⟨t', ht1, ht2, ht3⟩ : ∃ t', t < t' ∧ t' ≤ rn ∧ min (nx J2 j (bnd en t) n) (min (nx J1 i (bnd en t) n) n) = bnd en t' := by
            obtain ⟨ta, b1, b2⟩ := nx_bnd (i := i) (row := bnd en t) h1
            obtain ⟨tb, b3, b4⟩ := nx_bnd (i := j) (row := bnd en t) h2
            rw [hn] at b2 b4
            have key : ∀ z, z ≤ rn → bnd en t < bnd en z → t < z := by
              intro z hz h9
              rcases Nat.lt_or_ge t z with h8 | h8
              · exact h8
              · have := bnd_mono hE h8 ht
                omega
            have kn := key rn (Nat.le_refl _) (by omega)
            have ka := key ta b1 (by omega)
            have kb := key tb b3 (by omega)
            rcases Nat.le_total (nx J2 j (bnd en t) n) (min (nx J1 i (bnd en t) n) n) with q | q
            · exact ⟨tb, kb, b3, by rw [Nat.min_eq_left q, b4]⟩
            · rw [Nat.min_eq_right q]
              rcases Nat.le_total (nx J1 i (bnd en t) n) n with q2 | q2
              · exact ⟨ta, ka, b1, by rw [Nat.min_eq_left q2, b2]⟩
              · exact ⟨rn, kn, Nat.le_refl _, by rw [Nat.min_eq_right q2, hn]⟩
          have hb9 : bnd en t < bnd en t' := bnd_lt hE ht1 ht2
          have hb8 := bnd_le hE t' ht2
          have hst := f3_step (op := op) hb9 (fun r a b => k1 r a (by omega)) (fun r a b => k2 r a (by omega))
          have hup1 := row_up r1.2.1 (Nat.le_of_lt hb9)
          have hup2 := row_up r2.2.1 (Nat.le_of_lt hb9)
          have H240 : X p_ l e_ ({ frames := 1, cells := 0, slots := 0, locals := 22 } : Room) s_ m_ args_ below_ meth_ c_ D A_ 16 0 0 (MQ below_ (va_Qi (fun r (u : (Nat → Int32) × List (Nat × Nat)) => r = nI (a3 + 2 * u.2.length) ∧ Ik en rn (f3 en op f1 f2 rn) u.2 ∧ seg u.1 a3 u.2 ∧ ∀ x, x < a3 → u.1 x = L x) (Bw D A_ (fun u => (mW cA h e0 v0 l0 b0 E V (u.1) B rn ns pl sn wa wf))) A_) args_ s_ 0 0 A_) [(h, .inr (2, [.ref e0, .ref v0, .int (nI rn), .ref l0, .ref b0, .int (nI ns), .int pl, .int sn, .int wa, .int wf])), (e0, .inl (cA, 33000, .inl (E))), (v0, .inl (cA, 66000, .inl (V))), (l0, .inl (cA, 200000, .inl (La))), (b0, .inl (cA, 15, .inl (B)))] 240 [(13, .int (nI (min (nx J2 j (bnd en t) n) (min (nx J1 i (bnd en t) n) n)))), (12, .int (nI ((f2 (bnd en t)).toNat))), (11, .int (nI ((f1 (bnd en t)).toNat))), (10, .int (nI (bnd en t))), (9, .int (nI y_)), (8, .int (nI x_)), (7, .int (nI at_)), (0, .ref h), (1, .int (nI op)), (2, .int (nI a1)), (3, .int (nI (a1 + 2 * J1.length))), (4, .int (nI a2)), (5, .int (nI (a2 + 2 * J2.length))), (6, .int (nI a3))] [] := by
            rw [ht3]
            rcases List.eq_nil_or_concat J3 with rfl | ⟨J0, p, rfl⟩
            · have hat2 : at_ = a3 := by simpa using hat
              refine x_iload_n C d_M_layJoined_240 rfl rfl ?_
              refine x_iload C d_M_layJoined_241 rfl ?_
              refine x_iload C d_M_layJoined_243 rfl ?_
              refine x_callSI (wr := [(h, .inr (2, [.ref e0, .ref v0, .int (nI rn), .ref l0, .ref b0, .int (nI ns), .int pl, .int sn, .int wa, .int wf])), (e0, .inl (cA, 33000, .inl (E))), (v0, .inl (cA, 66000, .inl (V))), (l0, .inl (cA, 200000, .inl (La))), (b0, .inl (cA, 15, .inl (B)))]) (rest := []) C (c_M_is (x := f1 (bnd en t)) (y := f2 (bnd en t)) ho) d_M_layJoined_245 cd_M_is lk_M_79 dd_M_is rfl ⟨Nat.le_of_ble_eq_true rfl, Nat.le_of_ble_eq_true rfl⟩ ⟨Nat.le_refl _, Nat.le_refl _⟩ [] [0, 1, 2, 3, 4] rfl rfl (by decide) (by decide) (by decide) rfl (Nat.le_of_ble_eq_true rfl) ?_
              intro r_ u_ hp_
              obtain rfl := hp_
              refine x_if_eqN (tgt := 309) C d_M_layJoined_248 (by decide) (by have := Bool.toNat_lt (jbb op (f1 (bnd en t)) (f2 (bnd en t))); omega) (fun c248 => ?_) (fun c248 => ?_)
              · refine x_iload C d_M_layJoined_309 rfl ?_
                refine x_istore (lv' := [(10, .int (nI (bnd en t'))), (13, .int (nI (bnd en t'))), (12, .int (nI ((f2 (bnd en t)).toNat))), (11, .int (nI ((f1 (bnd en t)).toNat))), (9, .int (nI y_)), (8, .int (nI x_)), (7, .int (nI at_)), (0, .ref h), (1, .int (nI op)), (2, .int (nI a1)), (3, .int (nI (a1 + 2 * J1.length))), (4, .int (nI a2)), (5, .int (nI (a2 + 2 * J2.length))), (6, .int (nI a3))]) C d_M_layJoined_311 (by decide) rfl ?_
                refine x_goto (tgt := 14) C d_M_layJoined_313 (by decide) ?_
                refine x_lv (lv' := [(10, .int (nI (bnd en t'))), (9, .int (nI y_)), (8, .int (nI x_)), (7, .int (nI at_)), (0, .ref h), (1, .int (nI op)), (2, .int (nI a1)), (3, .int (nI (a1 + 2 * J1.length))), (4, .int (nI a2)), (5, .int (nI (a2 + 2 * J2.length))), (6, .int (nI a3))]) (Or.inr (List.forall_mem_cons.mpr ⟨rfl, List.forall_mem_cons.mpr ⟨rfl, List.forall_mem_cons.mpr ⟨rfl, List.forall_mem_cons.mpr ⟨rfl, List.forall_mem_cons.mpr ⟨rfl, List.forall_mem_cons.mpr ⟨rfl, List.forall_mem_cons.mpr ⟨rfl, List.forall_mem_cons.mpr ⟨rfl, List.forall_mem_cons.mpr ⟨rfl, List.forall_mem_cons.mpr ⟨rfl, List.forall_mem_cons.mpr ⟨rfl, fun _ h9 => absurd h9 List.not_mem_nil⟩⟩⟩⟩⟩⟩⟩⟩⟩⟩⟩)) ?_
                exact ih t' i j (at_) x_ y_ ([]) (La) (by omega) ht2 hat (gl_skip hI (Nat.le_of_lt ht1) (fun r => by rw [hst r, bool_of_zero c248]; simp)) hsg hlo hi hx hup1 hj hy hup2
              · refine x_iload C d_M_layJoined_251 rfl ?_
                refine x_iload C d_M_layJoined_253 rfl ?_
                refine x_icmp_leN (tgt := 286) C d_M_layJoined_255 (by decide) (by omega) (by omega) (fun c255 => ?_) (fun c255 => ?_)
                · refine x_aload_n C d_M_layJoined_286 rfl rfl ?_
                  refine x_get C d_M_layJoined_287 0 rfl rfl i_M 3 (by decide) lk_M_19 rfl rfl ?_
                  refine x_iload C d_M_layJoined_290 rfl ?_
                  refine x_iload C d_M_layJoined_292 rfl ?_
                  refine x_iast (ws' := [(h, .inr (2, [.ref e0, .ref v0, .int (nI rn), .ref l0, .ref b0, .int (nI ns), .int pl, .int sn, .int wa, .int wf])), (e0, .inl (cA, 33000, .inl (E))), (v0, .inl (cA, 66000, .inl (V))), (l0, .inl (cA, 200000, .inl (upd La (at_) (nI (bnd en t))))), (b0, .inl (cA, 15, .inl (B)))]) C d_M_layJoined_294 3 rfl (by omega) (by omega) rfl ?_
                  refine x_aload_n C d_M_layJoined_295 rfl rfl ?_
                  refine x_get C d_M_layJoined_296 0 rfl rfl i_M 3 (by decide) lk_M_19 rfl rfl ?_
                  refine x_iload C d_M_layJoined_299 rfl ?_
                  refine x_iconst (v := (nI (1))) C d_M_layJoined_301 (by decide) ?_
                  refine x_iaddN C d_M_layJoined_302  ?_
                  refine x_iload C d_M_layJoined_303 rfl ?_
                  refine x_iast (ws' := [(h, .inr (2, [.ref e0, .ref v0, .int (nI rn), .ref l0, .ref b0, .int (nI ns), .int pl, .int sn, .int wa, .int wf])), (e0, .inl (cA, 33000, .inl (E))), (v0, .inl (cA, 66000, .inl (V))), (l0, .inl (cA, 200000, .inl (upd (upd La (at_) (nI (bnd en t))) (at_ + 1) (nI (bnd en t'))))), (b0, .inl (cA, 15, .inl (B)))]) C d_M_layJoined_305 3 rfl (by omega) (by omega) rfl ?_
                  refine x_iinc (v := (nI (at_ + 2))) (lv' := [(7, .int (nI (at_ + 2))), (13, .int (nI (bnd en t'))), (12, .int (nI ((f2 (bnd en t)).toNat))), (11, .int (nI ((f1 (bnd en t)).toNat))), (10, .int (nI (bnd en t))), (9, .int (nI y_)), (8, .int (nI x_)), (0, .ref h), (1, .int (nI op)), (2, .int (nI a1)), (3, .int (nI (a1 + 2 * J1.length))), (4, .int (nI a2)), (5, .int (nI (a2 + 2 * J2.length))), (6, .int (nI a3))]) C d_M_layJoined_306 rfl (nI_add _ 2) (by decide) rfl ?_
                  refine x_iload C d_M_layJoined_309 rfl ?_
                  refine x_istore (lv' := [(10, .int (nI (bnd en t'))), (7, .int (nI (at_ + 2))), (13, .int (nI (bnd en t'))), (12, .int (nI ((f2 (bnd en t)).toNat))), (11, .int (nI ((f1 (bnd en t)).toNat))), (9, .int (nI y_)), (8, .int (nI x_)), (0, .ref h), (1, .int (nI op)), (2, .int (nI a1)), (3, .int (nI (a1 + 2 * J1.length))), (4, .int (nI a2)), (5, .int (nI (a2 + 2 * J2.length))), (6, .int (nI a3))]) C d_M_layJoined_311 (by decide) rfl ?_
                  refine x_goto (tgt := 14) C d_M_layJoined_313 (by decide) ?_
                  refine x_lv (lv' := [(10, .int (nI (bnd en t'))), (9, .int (nI y_)), (8, .int (nI x_)), (7, .int (nI (at_ + 2))), (0, .ref h), (1, .int (nI op)), (2, .int (nI a1)), (3, .int (nI (a1 + 2 * J1.length))), (4, .int (nI a2)), (5, .int (nI (a2 + 2 * J2.length))), (6, .int (nI a3))]) (Or.inr (List.forall_mem_cons.mpr ⟨rfl, List.forall_mem_cons.mpr ⟨rfl, List.forall_mem_cons.mpr ⟨rfl, List.forall_mem_cons.mpr ⟨rfl, List.forall_mem_cons.mpr ⟨rfl, List.forall_mem_cons.mpr ⟨rfl, List.forall_mem_cons.mpr ⟨rfl, List.forall_mem_cons.mpr ⟨rfl, List.forall_mem_cons.mpr ⟨rfl, List.forall_mem_cons.mpr ⟨rfl, List.forall_mem_cons.mpr ⟨rfl, fun _ h9 => absurd h9 List.not_mem_nil⟩⟩⟩⟩⟩⟩⟩⟩⟩⟩⟩)) ?_
                  exact ih t' i j (at_ + 2) x_ y_ ([(bnd en t, bnd en t')]) (upd (upd La at_ (nI (bnd en t))) (at_ + 1) (nI (bnd en t'))) (by omega) ht2 (by simp; omega) (gl_new hI ht1 hb9 (fun p h9 => by simp at h9) (fun r => by rw [hst r, bool_of_pos c248]; simp)) (seg_new hsg hat) (fun x hx => by rw [pk_un (by omega), pk_un (by omega)]; exact hlo x hx) hi hx hup1 hj hy hup2
                · exact absurd c255 (by omega)
            · rw [List.concat_eq_append] at *
              have hat2 : at_ = a3 + 2 * J0.length + 2 := by rw [hat, List.length_append, List.length_singleton]; omega
              rw [List.length_append, List.length_singleton] at hJ3
              have hp1 : p.2 ≤ bnd en t := by
                obtain ⟨i9, j9, b1, b2, b3, b4⟩ := hI.2.1 p (by simp)
                rw [b4]
                exact bnd_mono hE b2 ht
              refine x_iload_n C d_M_layJoined_240 rfl rfl ?_
              refine x_iload C d_M_layJoined_241 rfl ?_
              refine x_iload C d_M_layJoined_243 rfl ?_
              refine x_callSI (wr := [(h, .inr (2, [.ref e0, .ref v0, .int (nI rn), .ref l0, .ref b0, .int (nI ns), .int pl, .int sn, .int wa, .int wf])), (e0, .inl (cA, 33000, .inl (E))), (v0, .inl (cA, 66000, .inl (V))), (l0, .inl (cA, 200000, .inl (La))), (b0, .inl (cA, 15, .inl (B)))]) (rest := []) C (c_M_is (x := f1 (bnd en t)) (y := f2 (bnd en t)) ho) d_M_layJoined_245 cd_M_is lk_M_79 dd_M_is rfl ⟨Nat.le_of_ble_eq_true rfl, Nat.le_of_ble_eq_true rfl⟩ ⟨Nat.le_refl _, Nat.le_refl _⟩ [] [0, 1, 2, 3, 4] rfl rfl (by decide) (by decide) (by decide) rfl (Nat.le_of_ble_eq_true rfl) ?_
              intro r_ u_ hp_
              obtain rfl := hp_
              refine x_if_eqN (tgt := 309) C d_M_layJoined_248 (by decide) (by have := Bool.toNat_lt (jbb op (f1 (bnd en t)) (f2 (bnd en t))); omega) (fun c248 => ?_) (fun c248 => ?_)
              · refine x_iload C d_M_layJoined_309 rfl ?_
                refine x_istore (lv' := [(10, .int (nI (bnd en t'))), (13, .int (nI (bnd en t'))), (12, .int (nI ((f2 (bnd en t)).toNat))), (11, .int (nI ((f1 (bnd en t)).toNat))), (9, .int (nI y_)), (8, .int (nI x_)), (7, .int (nI at_)), (0, .ref h), (1, .int (nI op)), (2, .int (nI a1)), (3, .int (nI (a1 + 2 * J1.length))), (4, .int (nI a2)), (5, .int (nI (a2 + 2 * J2.length))), (6, .int (nI a3))]) C d_M_layJoined_311 (by decide) rfl ?_
                refine x_goto (tgt := 14) C d_M_layJoined_313 (by decide) ?_
                refine x_lv (lv' := [(10, .int (nI (bnd en t'))), (9, .int (nI y_)), (8, .int (nI x_)), (7, .int (nI at_)), (0, .ref h), (1, .int (nI op)), (2, .int (nI a1)), (3, .int (nI (a1 + 2 * J1.length))), (4, .int (nI a2)), (5, .int (nI (a2 + 2 * J2.length))), (6, .int (nI a3))]) (Or.inr (List.forall_mem_cons.mpr ⟨rfl, List.forall_mem_cons.mpr ⟨rfl, List.forall_mem_cons.mpr ⟨rfl, List.forall_mem_cons.mpr ⟨rfl, List.forall_mem_cons.mpr ⟨rfl, List.forall_mem_cons.mpr ⟨rfl, List.forall_mem_cons.mpr ⟨rfl, List.forall_mem_cons.mpr ⟨rfl, List.forall_mem_cons.mpr ⟨rfl, List.forall_mem_cons.mpr ⟨rfl, List.forall_mem_cons.mpr ⟨rfl, fun _ h9 => absurd h9 List.not_mem_nil⟩⟩⟩⟩⟩⟩⟩⟩⟩⟩⟩)) ?_
                exact ih t' i j (at_) x_ y_ (J0 ++ [p]) (La) (by omega) ht2 hat (gl_skip hI (Nat.le_of_lt ht1) (fun r => by rw [hst r, bool_of_zero c248]; simp)) hsg hlo hi hx hup1 hj hy hup2
              · refine x_iload C d_M_layJoined_251 rfl ?_
                refine x_iload C d_M_layJoined_253 rfl ?_
                refine x_icmp_leN (tgt := 286) C d_M_layJoined_255 (by decide) (by omega) (by omega) (fun c255 => ?_) (fun c255 => ?_)
                · exact absurd c255 (by omega)
                · refine x_aload_n C d_M_layJoined_258 rfl rfl ?_
                  refine x_get C d_M_layJoined_259 0 rfl rfl i_M 3 (by decide) lk_M_19 rfl rfl ?_
                  refine x_iload C d_M_layJoined_262 rfl ?_
                  refine x_iconst (v := (nI (1))) C d_M_layJoined_264 (by decide) ?_
                  refine x_isubN C d_M_layJoined_265 (by omega) ?_
                  refine x_iald C d_M_layJoined_266 3 rfl (by omega) (by omega) ?_
                  refine x_top (y := (nI (p.2))) (seg_last hsg hat) ?_
                  refine x_iload C d_M_layJoined_267 rfl ?_
                  refine x_icmp_neN (tgt := 286) C d_M_layJoined_269 (by decide) (by omega) (by omega) (fun c269 => ?_) (fun c269 => ?_)
                  · refine x_aload_n C d_M_layJoined_286 rfl rfl ?_
                    refine x_get C d_M_layJoined_287 0 rfl rfl i_M 3 (by decide) lk_M_19 rfl rfl ?_
                    refine x_iload C d_M_layJoined_290 rfl ?_
                    refine x_iload C d_M_layJoined_292 rfl ?_
                    refine x_iast (ws' := [(h, .inr (2, [.ref e0, .ref v0, .int (nI rn), .ref l0, .ref b0, .int (nI ns), .int pl, .int sn, .int wa, .int wf])), (e0, .inl (cA, 33000, .inl (E))), (v0, .inl (cA, 66000, .inl (V))), (l0, .inl (cA, 200000, .inl (upd La (at_) (nI (bnd en t))))), (b0, .inl (cA, 15, .inl (B)))]) C d_M_layJoined_294 3 rfl (by omega) (by omega) rfl ?_
                    refine x_aload_n C d_M_layJoined_295 rfl rfl ?_
                    refine x_get C d_M_layJoined_296 0 rfl rfl i_M 3 (by decide) lk_M_19 rfl rfl ?_
                    refine x_iload C d_M_layJoined_299 rfl ?_
                    refine x_iconst (v := (nI (1))) C d_M_layJoined_301 (by decide) ?_
                    refine x_iaddN C d_M_layJoined_302  ?_
                    refine x_iload C d_M_layJoined_303 rfl ?_
                    refine x_iast (ws' := [(h, .inr (2, [.ref e0, .ref v0, .int (nI rn), .ref l0, .ref b0, .int (nI ns), .int pl, .int sn, .int wa, .int wf])), (e0, .inl (cA, 33000, .inl (E))), (v0, .inl (cA, 66000, .inl (V))), (l0, .inl (cA, 200000, .inl (upd (upd La (at_) (nI (bnd en t))) (at_ + 1) (nI (bnd en t'))))), (b0, .inl (cA, 15, .inl (B)))]) C d_M_layJoined_305 3 rfl (by omega) (by omega) rfl ?_
                    refine x_iinc (v := (nI (at_ + 2))) (lv' := [(7, .int (nI (at_ + 2))), (13, .int (nI (bnd en t'))), (12, .int (nI ((f2 (bnd en t)).toNat))), (11, .int (nI ((f1 (bnd en t)).toNat))), (10, .int (nI (bnd en t))), (9, .int (nI y_)), (8, .int (nI x_)), (0, .ref h), (1, .int (nI op)), (2, .int (nI a1)), (3, .int (nI (a1 + 2 * J1.length))), (4, .int (nI a2)), (5, .int (nI (a2 + 2 * J2.length))), (6, .int (nI a3))]) C d_M_layJoined_306 rfl (nI_add _ 2) (by decide) rfl ?_
                    refine x_iload C d_M_layJoined_309 rfl ?_
                    refine x_istore (lv' := [(10, .int (nI (bnd en t'))), (7, .int (nI (at_ + 2))), (13, .int (nI (bnd en t'))), (12, .int (nI ((f2 (bnd en t)).toNat))), (11, .int (nI ((f1 (bnd en t)).toNat))), (9, .int (nI y_)), (8, .int (nI x_)), (0, .ref h), (1, .int (nI op)), (2, .int (nI a1)), (3, .int (nI (a1 + 2 * J1.length))), (4, .int (nI a2)), (5, .int (nI (a2 + 2 * J2.length))), (6, .int (nI a3))]) C d_M_layJoined_311 (by decide) rfl ?_
                    refine x_goto (tgt := 14) C d_M_layJoined_313 (by decide) ?_
                    refine x_lv (lv' := [(10, .int (nI (bnd en t'))), (9, .int (nI y_)), (8, .int (nI x_)), (7, .int (nI (at_ + 2))), (0, .ref h), (1, .int (nI op)), (2, .int (nI a1)), (3, .int (nI (a1 + 2 * J1.length))), (4, .int (nI a2)), (5, .int (nI (a2 + 2 * J2.length))), (6, .int (nI a3))]) (Or.inr (List.forall_mem_cons.mpr ⟨rfl, List.forall_mem_cons.mpr ⟨rfl, List.forall_mem_cons.mpr ⟨rfl, List.forall_mem_cons.mpr ⟨rfl, List.forall_mem_cons.mpr ⟨rfl, List.forall_mem_cons.mpr ⟨rfl, List.forall_mem_cons.mpr ⟨rfl, List.forall_mem_cons.mpr ⟨rfl, List.forall_mem_cons.mpr ⟨rfl, List.forall_mem_cons.mpr ⟨rfl, List.forall_mem_cons.mpr ⟨rfl, fun _ h9 => absurd h9 List.not_mem_nil⟩⟩⟩⟩⟩⟩⟩⟩⟩⟩⟩)) ?_
                    exact ih t' i j (at_ + 2) x_ y_ (J0 ++ [p] ++ [(bnd en t, bnd en t')]) (upd (upd La at_ (nI (bnd en t))) (at_ + 1) (nI (bnd en t'))) (by omega) ht2 (by rw [List.length_append, List.length_singleton]; omega) (gl_new hI ht1 hb9 (fun p2 h9 => by rw [List.getLast?_concat] at h9; cases h9; omega) (fun r => by rw [hst r, bool_of_pos c248]; simp)) (seg_new hsg hat) (fun x hx => by rw [pk_un (by omega), pk_un (by omega)]; exact hlo x hx) hi hx hup1 hj hy hup2
                  · refine x_aload_n C d_M_layJoined_272 rfl rfl ?_
                    refine x_get C d_M_layJoined_273 0 rfl rfl i_M 3 (by decide) lk_M_19 rfl rfl ?_
                    refine x_iload C d_M_layJoined_276 rfl ?_
                    refine x_iconst (v := (nI (1))) C d_M_layJoined_278 (by decide) ?_
                    refine x_isubN C d_M_layJoined_279 (by omega) ?_
                    refine x_iload C d_M_layJoined_280 rfl ?_
                    refine x_iast (ws' := [(h, .inr (2, [.ref e0, .ref v0, .int (nI rn), .ref l0, .ref b0, .int (nI ns), .int pl, .int sn, .int wa, .int wf])), (e0, .inl (cA, 33000, .inl (E))), (v0, .inl (cA, 66000, .inl (V))), (l0, .inl (cA, 200000, .inl (upd La (at_ - 1) (nI (bnd en t'))))), (b0, .inl (cA, 15, .inl (B)))]) C d_M_layJoined_282 3 rfl (by omega) (by omega) rfl ?_
                    refine x_goto (tgt := 309) C d_M_layJoined_283 (by decide) ?_
                    refine x_iload C d_M_layJoined_309 rfl ?_
                    refine x_istore (lv' := [(10, .int (nI (bnd en t'))), (13, .int (nI (bnd en t'))), (12, .int (nI ((f2 (bnd en t)).toNat))), (11, .int (nI ((f1 (bnd en t)).toNat))), (9, .int (nI y_)), (8, .int (nI x_)), (7, .int (nI at_)), (0, .ref h), (1, .int (nI op)), (2, .int (nI a1)), (3, .int (nI (a1 + 2 * J1.length))), (4, .int (nI a2)), (5, .int (nI (a2 + 2 * J2.length))), (6, .int (nI a3))]) C d_M_layJoined_311 (by decide) rfl ?_
                    refine x_goto (tgt := 14) C d_M_layJoined_313 (by decide) ?_
                    refine x_lv (lv' := [(10, .int (nI (bnd en t'))), (9, .int (nI y_)), (8, .int (nI x_)), (7, .int (nI at_)), (0, .ref h), (1, .int (nI op)), (2, .int (nI a1)), (3, .int (nI (a1 + 2 * J1.length))), (4, .int (nI a2)), (5, .int (nI (a2 + 2 * J2.length))), (6, .int (nI a3))]) (Or.inr (List.forall_mem_cons.mpr ⟨rfl, List.forall_mem_cons.mpr ⟨rfl, List.forall_mem_cons.mpr ⟨rfl, List.forall_mem_cons.mpr ⟨rfl, List.forall_mem_cons.mpr ⟨rfl, List.forall_mem_cons.mpr ⟨rfl, List.forall_mem_cons.mpr ⟨rfl, List.forall_mem_cons.mpr ⟨rfl, List.forall_mem_cons.mpr ⟨rfl, List.forall_mem_cons.mpr ⟨rfl, List.forall_mem_cons.mpr ⟨rfl, fun _ h9 => absurd h9 List.not_mem_nil⟩⟩⟩⟩⟩⟩⟩⟩⟩⟩⟩)) ?_
                    exact ih t' i j (at_) x_ y_ (J0 ++ [(p.1, bnd en t')]) (upd La (at_ - 1) (nI (bnd en t'))) (by omega) ht2 (by rw [hat, List.length_append, List.length_append]; rfl) (gl_ext hI ht1 hb9 c269 (fun r => by rw [hst r, bool_of_pos c248]; simp)) (seg_ext hsg hat) (fun x hx => by rw [pk_un (by omega)]; exact hlo x hx) hi hx hup1 hj hy hup2
          have z1 : nx J1 i (bnd en t) n ≤ 1000000 := by
            obtain ⟨ta, b1, b2⟩ := nx_bnd (i := i) (row := bnd en t) h1
            rw [hn] at b2
            rw [b2]
            exact bnd_le hE ta b1
          have z2 : nx J2 j (bnd en t) n ≤ 1000000 := by
            obtain ⟨ta, b1, b2⟩ := nx_bnd (i := j) (row := bnd en t) h2
            rw [hn] at b2
            rw [b2]
            exact bnd_le hE ta b1
          have H208 : X p_ l e_ ({ frames := 1, cells := 0, slots := 0, locals := 22 } : Room) s_ m_ args_ below_ meth_ c_ D A_ 16 0 0 (MQ below_ (va_Qi (fun r (u : (Nat → Int32) × List (Nat × Nat)) => r = nI (a3 + 2 * u.2.length) ∧ Ik en rn (f3 en op f1 f2 rn) u.2 ∧ seg u.1 a3 u.2 ∧ ∀ x, x < a3 → u.1 x = L x) (Bw D A_ (fun u => (mW cA h e0 v0 l0 b0 E V (u.1) B rn ns pl sn wa wf))) A_) args_ s_ 0 0 A_) [(h, .inr (2, [.ref e0, .ref v0, .int (nI rn), .ref l0, .ref b0, .int (nI ns), .int pl, .int sn, .int wa, .int wf])), (e0, .inl (cA, 33000, .inl (E))), (v0, .inl (cA, 66000, .inl (V))), (l0, .inl (cA, 200000, .inl (La))), (b0, .inl (cA, 15, .inl (B)))] 208 [(15, .int (nI (nx J2 j (bnd en t) n))), (14, .int (nI (nx J1 i (bnd en t) n))), (13, .int (nI n)), (12, .int (nI ((f2 (bnd en t)).toNat))), (11, .int (nI ((f1 (bnd en t)).toNat))), (10, .int (nI (bnd en t))), (9, .int (nI y_)), (8, .int (nI x_)), (7, .int (nI at_)), (0, .ref h), (1, .int (nI op)), (2, .int (nI a1)), (3, .int (nI (a1 + 2 * J1.length))), (4, .int (nI a2)), (5, .int (nI (a2 + 2 * J2.length))), (6, .int (nI a3))] [] := by
            refine x_iload C d_M_layJoined_208 rfl ?_
            refine x_iload C d_M_layJoined_210 rfl ?_
            refine x_icmp_geN (tgt := 220) C d_M_layJoined_212 (by decide) (by omega) (by omega) (fun c212 => ?_) (fun c212 => ?_)
            · refine x_iload C d_M_layJoined_220 rfl ?_
              refine x_top (y := (nI (min (nx J1 i (bnd en t) n) n))) (by congr 1; omega) ?_
              refine x_istore (lv' := [(13, .int (nI (min (nx J1 i (bnd en t) n) n))), (15, .int (nI (nx J2 j (bnd en t) n))), (14, .int (nI (nx J1 i (bnd en t) n))), (12, .int (nI ((f2 (bnd en t)).toNat))), (11, .int (nI ((f1 (bnd en t)).toNat))), (10, .int (nI (bnd en t))), (9, .int (nI y_)), (8, .int (nI x_)), (7, .int (nI at_)), (0, .ref h), (1, .int (nI op)), (2, .int (nI a1)), (3, .int (nI (a1 + 2 * J1.length))), (4, .int (nI a2)), (5, .int (nI (a2 + 2 * J2.length))), (6, .int (nI a3))]) C d_M_layJoined_222 (by decide) rfl ?_
              refine x_iload C d_M_layJoined_224 rfl ?_
              refine x_iload C d_M_layJoined_226 rfl ?_
              refine x_icmp_geN (tgt := 236) C d_M_layJoined_228 (by decide) (by omega) (by omega) (fun c228 => ?_) (fun c228 => ?_)
              · refine x_iload C d_M_layJoined_236 rfl ?_
                refine x_top (y := (nI (min (nx J2 j (bnd en t) n) (min (nx J1 i (bnd en t) n) n)))) (by congr 1; omega) ?_
                refine x_istore (lv' := [(13, .int (nI (min (nx J2 j (bnd en t) n) (min (nx J1 i (bnd en t) n) n)))), (15, .int (nI (nx J2 j (bnd en t) n))), (14, .int (nI (nx J1 i (bnd en t) n))), (12, .int (nI ((f2 (bnd en t)).toNat))), (11, .int (nI ((f1 (bnd en t)).toNat))), (10, .int (nI (bnd en t))), (9, .int (nI y_)), (8, .int (nI x_)), (7, .int (nI at_)), (0, .ref h), (1, .int (nI op)), (2, .int (nI a1)), (3, .int (nI (a1 + 2 * J1.length))), (4, .int (nI a2)), (5, .int (nI (a2 + 2 * J2.length))), (6, .int (nI a3))]) C d_M_layJoined_238 (by decide) rfl ?_
                refine x_lv (lv' := [(13, .int (nI (min (nx J2 j (bnd en t) n) (min (nx J1 i (bnd en t) n) n)))), (12, .int (nI ((f2 (bnd en t)).toNat))), (11, .int (nI ((f1 (bnd en t)).toNat))), (10, .int (nI (bnd en t))), (9, .int (nI y_)), (8, .int (nI x_)), (7, .int (nI at_)), (0, .ref h), (1, .int (nI op)), (2, .int (nI a1)), (3, .int (nI (a1 + 2 * J1.length))), (4, .int (nI a2)), (5, .int (nI (a2 + 2 * J2.length))), (6, .int (nI a3))]) (Or.inr (List.forall_mem_cons.mpr ⟨rfl, List.forall_mem_cons.mpr ⟨rfl, List.forall_mem_cons.mpr ⟨rfl, List.forall_mem_cons.mpr ⟨rfl, List.forall_mem_cons.mpr ⟨rfl, List.forall_mem_cons.mpr ⟨rfl, List.forall_mem_cons.mpr ⟨rfl, List.forall_mem_cons.mpr ⟨rfl, List.forall_mem_cons.mpr ⟨rfl, List.forall_mem_cons.mpr ⟨rfl, List.forall_mem_cons.mpr ⟨rfl, List.forall_mem_cons.mpr ⟨rfl, List.forall_mem_cons.mpr ⟨rfl, List.forall_mem_cons.mpr ⟨rfl, fun _ h9 => absurd h9 List.not_mem_nil⟩⟩⟩⟩⟩⟩⟩⟩⟩⟩⟩⟩⟩⟩)) ?_
                exact H240
              · refine x_iload C d_M_layJoined_231 rfl ?_
                refine x_top (y := (nI (min (nx J2 j (bnd en t) n) (min (nx J1 i (bnd en t) n) n)))) (by congr 1; omega) ?_
                refine x_goto (tgt := 238) C d_M_layJoined_233 (by decide) ?_
                refine x_istore (lv' := [(13, .int (nI (min (nx J2 j (bnd en t) n) (min (nx J1 i (bnd en t) n) n)))), (15, .int (nI (nx J2 j (bnd en t) n))), (14, .int (nI (nx J1 i (bnd en t) n))), (12, .int (nI ((f2 (bnd en t)).toNat))), (11, .int (nI ((f1 (bnd en t)).toNat))), (10, .int (nI (bnd en t))), (9, .int (nI y_)), (8, .int (nI x_)), (7, .int (nI at_)), (0, .ref h), (1, .int (nI op)), (2, .int (nI a1)), (3, .int (nI (a1 + 2 * J1.length))), (4, .int (nI a2)), (5, .int (nI (a2 + 2 * J2.length))), (6, .int (nI a3))]) C d_M_layJoined_238 (by decide) rfl ?_
                refine x_lv (lv' := [(13, .int (nI (min (nx J2 j (bnd en t) n) (min (nx J1 i (bnd en t) n) n)))), (12, .int (nI ((f2 (bnd en t)).toNat))), (11, .int (nI ((f1 (bnd en t)).toNat))), (10, .int (nI (bnd en t))), (9, .int (nI y_)), (8, .int (nI x_)), (7, .int (nI at_)), (0, .ref h), (1, .int (nI op)), (2, .int (nI a1)), (3, .int (nI (a1 + 2 * J1.length))), (4, .int (nI a2)), (5, .int (nI (a2 + 2 * J2.length))), (6, .int (nI a3))]) (Or.inr (List.forall_mem_cons.mpr ⟨rfl, List.forall_mem_cons.mpr ⟨rfl, List.forall_mem_cons.mpr ⟨rfl, List.forall_mem_cons.mpr ⟨rfl, List.forall_mem_cons.mpr ⟨rfl, List.forall_mem_cons.mpr ⟨rfl, List.forall_mem_cons.mpr ⟨rfl, List.forall_mem_cons.mpr ⟨rfl, List.forall_mem_cons.mpr ⟨rfl, List.forall_mem_cons.mpr ⟨rfl, List.forall_mem_cons.mpr ⟨rfl, List.forall_mem_cons.mpr ⟨rfl, List.forall_mem_cons.mpr ⟨rfl, List.forall_mem_cons.mpr ⟨rfl, fun _ h9 => absurd h9 List.not_mem_nil⟩⟩⟩⟩⟩⟩⟩⟩⟩⟩⟩⟩⟩⟩)) ?_
                exact H240
            · refine x_iload C d_M_layJoined_215 rfl ?_
              refine x_top (y := (nI (min (nx J1 i (bnd en t) n) n))) (by congr 1; omega) ?_
              refine x_goto (tgt := 222) C d_M_layJoined_217 (by decide) ?_
              refine x_istore (lv' := [(13, .int (nI (min (nx J1 i (bnd en t) n) n))), (15, .int (nI (nx J2 j (bnd en t) n))), (14, .int (nI (nx J1 i (bnd en t) n))), (12, .int (nI ((f2 (bnd en t)).toNat))), (11, .int (nI ((f1 (bnd en t)).toNat))), (10, .int (nI (bnd en t))), (9, .int (nI y_)), (8, .int (nI x_)), (7, .int (nI at_)), (0, .ref h), (1, .int (nI op)), (2, .int (nI a1)), (3, .int (nI (a1 + 2 * J1.length))), (4, .int (nI a2)), (5, .int (nI (a2 + 2 * J2.length))), (6, .int (nI a3))]) C d_M_layJoined_222 (by decide) rfl ?_
              refine x_iload C d_M_layJoined_224 rfl ?_
              refine x_iload C d_M_layJoined_226 rfl ?_
              refine x_icmp_geN (tgt := 236) C d_M_layJoined_228 (by decide) (by omega) (by omega) (fun c228 => ?_) (fun c228 => ?_)
              · refine x_iload C d_M_layJoined_236 rfl ?_
                refine x_top (y := (nI (min (nx J2 j (bnd en t) n) (min (nx J1 i (bnd en t) n) n)))) (by congr 1; omega) ?_
                refine x_istore (lv' := [(13, .int (nI (min (nx J2 j (bnd en t) n) (min (nx J1 i (bnd en t) n) n)))), (15, .int (nI (nx J2 j (bnd en t) n))), (14, .int (nI (nx J1 i (bnd en t) n))), (12, .int (nI ((f2 (bnd en t)).toNat))), (11, .int (nI ((f1 (bnd en t)).toNat))), (10, .int (nI (bnd en t))), (9, .int (nI y_)), (8, .int (nI x_)), (7, .int (nI at_)), (0, .ref h), (1, .int (nI op)), (2, .int (nI a1)), (3, .int (nI (a1 + 2 * J1.length))), (4, .int (nI a2)), (5, .int (nI (a2 + 2 * J2.length))), (6, .int (nI a3))]) C d_M_layJoined_238 (by decide) rfl ?_
                refine x_lv (lv' := [(13, .int (nI (min (nx J2 j (bnd en t) n) (min (nx J1 i (bnd en t) n) n)))), (12, .int (nI ((f2 (bnd en t)).toNat))), (11, .int (nI ((f1 (bnd en t)).toNat))), (10, .int (nI (bnd en t))), (9, .int (nI y_)), (8, .int (nI x_)), (7, .int (nI at_)), (0, .ref h), (1, .int (nI op)), (2, .int (nI a1)), (3, .int (nI (a1 + 2 * J1.length))), (4, .int (nI a2)), (5, .int (nI (a2 + 2 * J2.length))), (6, .int (nI a3))]) (Or.inr (List.forall_mem_cons.mpr ⟨rfl, List.forall_mem_cons.mpr ⟨rfl, List.forall_mem_cons.mpr ⟨rfl, List.forall_mem_cons.mpr ⟨rfl, List.forall_mem_cons.mpr ⟨rfl, List.forall_mem_cons.mpr ⟨rfl, List.forall_mem_cons.mpr ⟨rfl, List.forall_mem_cons.mpr ⟨rfl, List.forall_mem_cons.mpr ⟨rfl, List.forall_mem_cons.mpr ⟨rfl, List.forall_mem_cons.mpr ⟨rfl, List.forall_mem_cons.mpr ⟨rfl, List.forall_mem_cons.mpr ⟨rfl, List.forall_mem_cons.mpr ⟨rfl, fun _ h9 => absurd h9 List.not_mem_nil⟩⟩⟩⟩⟩⟩⟩⟩⟩⟩⟩⟩⟩⟩)) ?_
                exact H240
              · refine x_iload C d_M_layJoined_231 rfl ?_
                refine x_top (y := (nI (min (nx J2 j (bnd en t) n) (min (nx J1 i (bnd en t) n) n)))) (by congr 1; omega) ?_
                refine x_goto (tgt := 238) C d_M_layJoined_233 (by decide) ?_
                refine x_istore (lv' := [(13, .int (nI (min (nx J2 j (bnd en t) n) (min (nx J1 i (bnd en t) n) n)))), (15, .int (nI (nx J2 j (bnd en t) n))), (14, .int (nI (nx J1 i (bnd en t) n))), (12, .int (nI ((f2 (bnd en t)).toNat))), (11, .int (nI ((f1 (bnd en t)).toNat))), (10, .int (nI (bnd en t))), (9, .int (nI y_)), (8, .int (nI x_)), (7, .int (nI at_)), (0, .ref h), (1, .int (nI op)), (2, .int (nI a1)), (3, .int (nI (a1 + 2 * J1.length))), (4, .int (nI a2)), (5, .int (nI (a2 + 2 * J2.length))), (6, .int (nI a3))]) C d_M_layJoined_238 (by decide) rfl ?_
                refine x_lv (lv' := [(13, .int (nI (min (nx J2 j (bnd en t) n) (min (nx J1 i (bnd en t) n) n)))), (12, .int (nI ((f2 (bnd en t)).toNat))), (11, .int (nI ((f1 (bnd en t)).toNat))), (10, .int (nI (bnd en t))), (9, .int (nI y_)), (8, .int (nI x_)), (7, .int (nI at_)), (0, .ref h), (1, .int (nI op)), (2, .int (nI a1)), (3, .int (nI (a1 + 2 * J1.length))), (4, .int (nI a2)), (5, .int (nI (a2 + 2 * J2.length))), (6, .int (nI a3))]) (Or.inr (List.forall_mem_cons.mpr ⟨rfl, List.forall_mem_cons.mpr ⟨rfl, List.forall_mem_cons.mpr ⟨rfl, List.forall_mem_cons.mpr ⟨rfl, List.forall_mem_cons.mpr ⟨rfl, List.forall_mem_cons.mpr ⟨rfl, List.forall_mem_cons.mpr ⟨rfl, List.forall_mem_cons.mpr ⟨rfl, List.forall_mem_cons.mpr ⟨rfl, List.forall_mem_cons.mpr ⟨rfl, List.forall_mem_cons.mpr ⟨rfl, List.forall_mem_cons.mpr ⟨rfl, List.forall_mem_cons.mpr ⟨rfl, List.forall_mem_cons.mpr ⟨rfl, fun _ h9 => absurd h9 List.not_mem_nil⟩⟩⟩⟩⟩⟩⟩⟩⟩⟩⟩⟩⟩⟩)) ?_
                exact H240
          have H170 : X p_ l e_ ({ frames := 1, cells := 0, slots := 0, locals := 22 } : Room) s_ m_ args_ below_ meth_ c_ D A_ 16 0 0 (MQ below_ (va_Qi (fun r (u : (Nat → Int32) × List (Nat × Nat)) => r = nI (a3 + 2 * u.2.length) ∧ Ik en rn (f3 en op f1 f2 rn) u.2 ∧ seg u.1 a3 u.2 ∧ ∀ x, x < a3 → u.1 x = L x) (Bw D A_ (fun u => (mW cA h e0 v0 l0 b0 E V (u.1) B rn ns pl sn wa wf))) A_) args_ s_ 0 0 A_) [(h, .inr (2, [.ref e0, .ref v0, .int (nI rn), .ref l0, .ref b0, .int (nI ns), .int pl, .int sn, .int wa, .int wf])), (e0, .inl (cA, 33000, .inl (E))), (v0, .inl (cA, 66000, .inl (V))), (l0, .inl (cA, 200000, .inl (La))), (b0, .inl (cA, 15, .inl (B)))] 170 [(14, .int (nI (nx J1 i (bnd en t) n))), (13, .int (nI n)), (12, .int (nI ((f2 (bnd en t)).toNat))), (11, .int (nI ((f1 (bnd en t)).toNat))), (10, .int (nI (bnd en t))), (9, .int (nI y_)), (8, .int (nI x_)), (7, .int (nI at_)), (0, .ref h), (1, .int (nI op)), (2, .int (nI a1)), (3, .int (nI (a1 + 2 * J1.length))), (4, .int (nI a2)), (5, .int (nI (a2 + 2 * J2.length))), (6, .int (nI a3))] [] := by
            refine x_iload C d_M_layJoined_170 rfl ?_
            refine x_iload C d_M_layJoined_172 rfl ?_
            refine x_icmp_neN (tgt := 182) C d_M_layJoined_174 (by decide) (by omega) (by omega) (fun c174 => ?_) (fun c174 => ?_)
            · obtain ⟨q, hq⟩ : ∃ q, J2[j]? = some q := ⟨J2[j], List.getElem?_eq_getElem (by omega)⟩
              have hsq := s2a j q hq
              rw [← hy] at hsq
              refine x_iload C d_M_layJoined_182 rfl ?_
              refine x_if_eqN (tgt := 199) C d_M_layJoined_184 (by decide) (by have := Bool.toNat_lt (f2 (bnd en t)); omega) (fun c184 => ?_) (fun c184 => ?_)
              · refine x_aload_n C d_M_layJoined_199 rfl rfl ?_
                refine x_get C d_M_layJoined_200 0 rfl rfl i_M 3 (by decide) lk_M_19 rfl rfl ?_
                refine x_iload C d_M_layJoined_203 rfl ?_
                refine x_iald C d_M_layJoined_205 3 rfl (by omega) (by omega) ?_
                refine x_top (y := (nI (nx J2 j (bnd en t) n))) (by rw [hsq.1, nx_out hq (by rcases Nat.lt_or_ge (bnd en t) q.1 with h9 | h9; exact h9; (rw [now_in iv2 r2 hq h9] at c184; cases c184))]) ?_
                refine x_istore (lv' := [(15, .int (nI (nx J2 j (bnd en t) n))), (14, .int (nI (nx J1 i (bnd en t) n))), (13, .int (nI n)), (12, .int (nI ((f2 (bnd en t)).toNat))), (11, .int (nI ((f1 (bnd en t)).toNat))), (10, .int (nI (bnd en t))), (9, .int (nI y_)), (8, .int (nI x_)), (7, .int (nI at_)), (0, .ref h), (1, .int (nI op)), (2, .int (nI a1)), (3, .int (nI (a1 + 2 * J1.length))), (4, .int (nI a2)), (5, .int (nI (a2 + 2 * J2.length))), (6, .int (nI a3))]) C d_M_layJoined_206 (by decide) rfl ?_
                refine x_lv (lv' := [(15, .int (nI (nx J2 j (bnd en t) n))), (14, .int (nI (nx J1 i (bnd en t) n))), (13, .int (nI n)), (12, .int (nI ((f2 (bnd en t)).toNat))), (11, .int (nI ((f1 (bnd en t)).toNat))), (10, .int (nI (bnd en t))), (9, .int (nI y_)), (8, .int (nI x_)), (7, .int (nI at_)), (0, .ref h), (1, .int (nI op)), (2, .int (nI a1)), (3, .int (nI (a1 + 2 * J1.length))), (4, .int (nI a2)), (5, .int (nI (a2 + 2 * J2.length))), (6, .int (nI a3))]) (Or.inr (List.forall_mem_cons.mpr ⟨rfl, List.forall_mem_cons.mpr ⟨rfl, List.forall_mem_cons.mpr ⟨rfl, List.forall_mem_cons.mpr ⟨rfl, List.forall_mem_cons.mpr ⟨rfl, List.forall_mem_cons.mpr ⟨rfl, List.forall_mem_cons.mpr ⟨rfl, List.forall_mem_cons.mpr ⟨rfl, List.forall_mem_cons.mpr ⟨rfl, List.forall_mem_cons.mpr ⟨rfl, List.forall_mem_cons.mpr ⟨rfl, List.forall_mem_cons.mpr ⟨rfl, List.forall_mem_cons.mpr ⟨rfl, List.forall_mem_cons.mpr ⟨rfl, List.forall_mem_cons.mpr ⟨rfl, List.forall_mem_cons.mpr ⟨rfl, fun _ h9 => absurd h9 List.not_mem_nil⟩⟩⟩⟩⟩⟩⟩⟩⟩⟩⟩⟩⟩⟩⟩⟩)) ?_
                exact H208
              · refine x_aload_n C d_M_layJoined_187 rfl rfl ?_
                refine x_get C d_M_layJoined_188 0 rfl rfl i_M 3 (by decide) lk_M_19 rfl rfl ?_
                refine x_iload C d_M_layJoined_191 rfl ?_
                refine x_iconst (v := (nI (1))) C d_M_layJoined_193 (by decide) ?_
                refine x_iaddN C d_M_layJoined_194  ?_
                refine x_iald C d_M_layJoined_195 3 rfl (by omega) (by omega) ?_
                refine x_top (y := (nI (nx J2 j (bnd en t) n))) (by rw [hsq.2, nx_in hq (by rcases Nat.lt_or_ge (bnd en t) q.1 with h9 | h9; (rw [now_out iv2 r2 hq h9] at c184; cases c184); exact h9)]) ?_
                refine x_goto (tgt := 206) C d_M_layJoined_196 (by decide) ?_
                refine x_istore (lv' := [(15, .int (nI (nx J2 j (bnd en t) n))), (14, .int (nI (nx J1 i (bnd en t) n))), (13, .int (nI n)), (12, .int (nI ((f2 (bnd en t)).toNat))), (11, .int (nI ((f1 (bnd en t)).toNat))), (10, .int (nI (bnd en t))), (9, .int (nI y_)), (8, .int (nI x_)), (7, .int (nI at_)), (0, .ref h), (1, .int (nI op)), (2, .int (nI a1)), (3, .int (nI (a1 + 2 * J1.length))), (4, .int (nI a2)), (5, .int (nI (a2 + 2 * J2.length))), (6, .int (nI a3))]) C d_M_layJoined_206 (by decide) rfl ?_
                refine x_lv (lv' := [(15, .int (nI (nx J2 j (bnd en t) n))), (14, .int (nI (nx J1 i (bnd en t) n))), (13, .int (nI n)), (12, .int (nI ((f2 (bnd en t)).toNat))), (11, .int (nI ((f1 (bnd en t)).toNat))), (10, .int (nI (bnd en t))), (9, .int (nI y_)), (8, .int (nI x_)), (7, .int (nI at_)), (0, .ref h), (1, .int (nI op)), (2, .int (nI a1)), (3, .int (nI (a1 + 2 * J1.length))), (4, .int (nI a2)), (5, .int (nI (a2 + 2 * J2.length))), (6, .int (nI a3))]) (Or.inr (List.forall_mem_cons.mpr ⟨rfl, List.forall_mem_cons.mpr ⟨rfl, List.forall_mem_cons.mpr ⟨rfl, List.forall_mem_cons.mpr ⟨rfl, List.forall_mem_cons.mpr ⟨rfl, List.forall_mem_cons.mpr ⟨rfl, List.forall_mem_cons.mpr ⟨rfl, List.forall_mem_cons.mpr ⟨rfl, List.forall_mem_cons.mpr ⟨rfl, List.forall_mem_cons.mpr ⟨rfl, List.forall_mem_cons.mpr ⟨rfl, List.forall_mem_cons.mpr ⟨rfl, List.forall_mem_cons.mpr ⟨rfl, List.forall_mem_cons.mpr ⟨rfl, List.forall_mem_cons.mpr ⟨rfl, List.forall_mem_cons.mpr ⟨rfl, fun _ h9 => absurd h9 List.not_mem_nil⟩⟩⟩⟩⟩⟩⟩⟩⟩⟩⟩⟩⟩⟩⟩⟩)) ?_
                exact H208
            · refine x_iload C d_M_layJoined_177 rfl ?_
              refine x_top (y := (nI (nx J2 j (bnd en t) n))) (by rw [nx_none (by omega)]) ?_
              refine x_goto (tgt := 206) C d_M_layJoined_179 (by decide) ?_
              refine x_istore (lv' := [(15, .int (nI (nx J2 j (bnd en t) n))), (14, .int (nI (nx J1 i (bnd en t) n))), (13, .int (nI n)), (12, .int (nI ((f2 (bnd en t)).toNat))), (11, .int (nI ((f1 (bnd en t)).toNat))), (10, .int (nI (bnd en t))), (9, .int (nI y_)), (8, .int (nI x_)), (7, .int (nI at_)), (0, .ref h), (1, .int (nI op)), (2, .int (nI a1)), (3, .int (nI (a1 + 2 * J1.length))), (4, .int (nI a2)), (5, .int (nI (a2 + 2 * J2.length))), (6, .int (nI a3))]) C d_M_layJoined_206 (by decide) rfl ?_
              refine x_lv (lv' := [(15, .int (nI (nx J2 j (bnd en t) n))), (14, .int (nI (nx J1 i (bnd en t) n))), (13, .int (nI n)), (12, .int (nI ((f2 (bnd en t)).toNat))), (11, .int (nI ((f1 (bnd en t)).toNat))), (10, .int (nI (bnd en t))), (9, .int (nI y_)), (8, .int (nI x_)), (7, .int (nI at_)), (0, .ref h), (1, .int (nI op)), (2, .int (nI a1)), (3, .int (nI (a1 + 2 * J1.length))), (4, .int (nI a2)), (5, .int (nI (a2 + 2 * J2.length))), (6, .int (nI a3))]) (Or.inr (List.forall_mem_cons.mpr ⟨rfl, List.forall_mem_cons.mpr ⟨rfl, List.forall_mem_cons.mpr ⟨rfl, List.forall_mem_cons.mpr ⟨rfl, List.forall_mem_cons.mpr ⟨rfl, List.forall_mem_cons.mpr ⟨rfl, List.forall_mem_cons.mpr ⟨rfl, List.forall_mem_cons.mpr ⟨rfl, List.forall_mem_cons.mpr ⟨rfl, List.forall_mem_cons.mpr ⟨rfl, List.forall_mem_cons.mpr ⟨rfl, List.forall_mem_cons.mpr ⟨rfl, List.forall_mem_cons.mpr ⟨rfl, List.forall_mem_cons.mpr ⟨rfl, List.forall_mem_cons.mpr ⟨rfl, List.forall_mem_cons.mpr ⟨rfl, fun _ h9 => absurd h9 List.not_mem_nil⟩⟩⟩⟩⟩⟩⟩⟩⟩⟩⟩⟩⟩⟩⟩⟩)) ?_
              exact H208
          have H133 : X p_ l e_ ({ frames := 1, cells := 0, slots := 0, locals := 22 } : Room) s_ m_ args_ below_ meth_ c_ D A_ 16 0 0 (MQ below_ (va_Qi (fun r (u : (Nat → Int32) × List (Nat × Nat)) => r = nI (a3 + 2 * u.2.length) ∧ Ik en rn (f3 en op f1 f2 rn) u.2 ∧ seg u.1 a3 u.2 ∧ ∀ x, x < a3 → u.1 x = L x) (Bw D A_ (fun u => (mW cA h e0 v0 l0 b0 E V (u.1) B rn ns pl sn wa wf))) A_) args_ s_ 0 0 A_) [(h, .inr (2, [.ref e0, .ref v0, .int (nI rn), .ref l0, .ref b0, .int (nI ns), .int pl, .int sn, .int wa, .int wf])), (e0, .inl (cA, 33000, .inl (E))), (v0, .inl (cA, 66000, .inl (V))), (l0, .inl (cA, 200000, .inl (La))), (b0, .inl (cA, 15, .inl (B)))] 133 [(13, .int (nI n)), (12, .int (nI ((f2 (bnd en t)).toNat))), (11, .int (nI ((f1 (bnd en t)).toNat))), (10, .int (nI (bnd en t))), (9, .int (nI y_)), (8, .int (nI x_)), (7, .int (nI at_)), (0, .ref h), (1, .int (nI op)), (2, .int (nI a1)), (3, .int (nI (a1 + 2 * J1.length))), (4, .int (nI a2)), (5, .int (nI (a2 + 2 * J2.length))), (6, .int (nI a3))] [] := by
            refine x_iload C d_M_layJoined_133 rfl ?_
            refine x_iload_n C d_M_layJoined_135 rfl rfl ?_
            refine x_icmp_neN (tgt := 144) C d_M_layJoined_136 (by decide) (by omega) (by omega) (fun c136 => ?_) (fun c136 => ?_)
            · obtain ⟨q, hq⟩ : ∃ q, J1[i]? = some q := ⟨J1[i], List.getElem?_eq_getElem (by omega)⟩
              have hsq := s1a i q hq
              rw [← hx] at hsq
              refine x_iload C d_M_layJoined_144 rfl ?_
              refine x_if_eqN (tgt := 161) C d_M_layJoined_146 (by decide) (by have := Bool.toNat_lt (f1 (bnd en t)); omega) (fun c146 => ?_) (fun c146 => ?_)
              · refine x_aload_n C d_M_layJoined_161 rfl rfl ?_
                refine x_get C d_M_layJoined_162 0 rfl rfl i_M 3 (by decide) lk_M_19 rfl rfl ?_
                refine x_iload C d_M_layJoined_165 rfl ?_
                refine x_iald C d_M_layJoined_167 3 rfl (by omega) (by omega) ?_
                refine x_top (y := (nI (nx J1 i (bnd en t) n))) (by rw [hsq.1, nx_out hq (by rcases Nat.lt_or_ge (bnd en t) q.1 with h9 | h9; exact h9; (rw [now_in iv1 r1 hq h9] at c146; cases c146))]) ?_
                refine x_istore (lv' := [(14, .int (nI (nx J1 i (bnd en t) n))), (13, .int (nI n)), (12, .int (nI ((f2 (bnd en t)).toNat))), (11, .int (nI ((f1 (bnd en t)).toNat))), (10, .int (nI (bnd en t))), (9, .int (nI y_)), (8, .int (nI x_)), (7, .int (nI at_)), (0, .ref h), (1, .int (nI op)), (2, .int (nI a1)), (3, .int (nI (a1 + 2 * J1.length))), (4, .int (nI a2)), (5, .int (nI (a2 + 2 * J2.length))), (6, .int (nI a3))]) C d_M_layJoined_168 (by decide) rfl ?_
                refine x_lv (lv' := [(14, .int (nI (nx J1 i (bnd en t) n))), (13, .int (nI n)), (12, .int (nI ((f2 (bnd en t)).toNat))), (11, .int (nI ((f1 (bnd en t)).toNat))), (10, .int (nI (bnd en t))), (9, .int (nI y_)), (8, .int (nI x_)), (7, .int (nI at_)), (0, .ref h), (1, .int (nI op)), (2, .int (nI a1)), (3, .int (nI (a1 + 2 * J1.length))), (4, .int (nI a2)), (5, .int (nI (a2 + 2 * J2.length))), (6, .int (nI a3))]) (Or.inr (List.forall_mem_cons.mpr ⟨rfl, List.forall_mem_cons.mpr ⟨rfl, List.forall_mem_cons.mpr ⟨rfl, List.forall_mem_cons.mpr ⟨rfl, List.forall_mem_cons.mpr ⟨rfl, List.forall_mem_cons.mpr ⟨rfl, List.forall_mem_cons.mpr ⟨rfl, List.forall_mem_cons.mpr ⟨rfl, List.forall_mem_cons.mpr ⟨rfl, List.forall_mem_cons.mpr ⟨rfl, List.forall_mem_cons.mpr ⟨rfl, List.forall_mem_cons.mpr ⟨rfl, List.forall_mem_cons.mpr ⟨rfl, List.forall_mem_cons.mpr ⟨rfl, List.forall_mem_cons.mpr ⟨rfl, fun _ h9 => absurd h9 List.not_mem_nil⟩⟩⟩⟩⟩⟩⟩⟩⟩⟩⟩⟩⟩⟩⟩)) ?_
                exact H170
              · refine x_aload_n C d_M_layJoined_149 rfl rfl ?_
                refine x_get C d_M_layJoined_150 0 rfl rfl i_M 3 (by decide) lk_M_19 rfl rfl ?_
                refine x_iload C d_M_layJoined_153 rfl ?_
                refine x_iconst (v := (nI (1))) C d_M_layJoined_155 (by decide) ?_
                refine x_iaddN C d_M_layJoined_156  ?_
                refine x_iald C d_M_layJoined_157 3 rfl (by omega) (by omega) ?_
                refine x_top (y := (nI (nx J1 i (bnd en t) n))) (by rw [hsq.2, nx_in hq (by rcases Nat.lt_or_ge (bnd en t) q.1 with h9 | h9; (rw [now_out iv1 r1 hq h9] at c146; cases c146); exact h9)]) ?_
                refine x_goto (tgt := 168) C d_M_layJoined_158 (by decide) ?_
                refine x_istore (lv' := [(14, .int (nI (nx J1 i (bnd en t) n))), (13, .int (nI n)), (12, .int (nI ((f2 (bnd en t)).toNat))), (11, .int (nI ((f1 (bnd en t)).toNat))), (10, .int (nI (bnd en t))), (9, .int (nI y_)), (8, .int (nI x_)), (7, .int (nI at_)), (0, .ref h), (1, .int (nI op)), (2, .int (nI a1)), (3, .int (nI (a1 + 2 * J1.length))), (4, .int (nI a2)), (5, .int (nI (a2 + 2 * J2.length))), (6, .int (nI a3))]) C d_M_layJoined_168 (by decide) rfl ?_
                refine x_lv (lv' := [(14, .int (nI (nx J1 i (bnd en t) n))), (13, .int (nI n)), (12, .int (nI ((f2 (bnd en t)).toNat))), (11, .int (nI ((f1 (bnd en t)).toNat))), (10, .int (nI (bnd en t))), (9, .int (nI y_)), (8, .int (nI x_)), (7, .int (nI at_)), (0, .ref h), (1, .int (nI op)), (2, .int (nI a1)), (3, .int (nI (a1 + 2 * J1.length))), (4, .int (nI a2)), (5, .int (nI (a2 + 2 * J2.length))), (6, .int (nI a3))]) (Or.inr (List.forall_mem_cons.mpr ⟨rfl, List.forall_mem_cons.mpr ⟨rfl, List.forall_mem_cons.mpr ⟨rfl, List.forall_mem_cons.mpr ⟨rfl, List.forall_mem_cons.mpr ⟨rfl, List.forall_mem_cons.mpr ⟨rfl, List.forall_mem_cons.mpr ⟨rfl, List.forall_mem_cons.mpr ⟨rfl, List.forall_mem_cons.mpr ⟨rfl, List.forall_mem_cons.mpr ⟨rfl, List.forall_mem_cons.mpr ⟨rfl, List.forall_mem_cons.mpr ⟨rfl, List.forall_mem_cons.mpr ⟨rfl, List.forall_mem_cons.mpr ⟨rfl, List.forall_mem_cons.mpr ⟨rfl, fun _ h9 => absurd h9 List.not_mem_nil⟩⟩⟩⟩⟩⟩⟩⟩⟩⟩⟩⟩⟩⟩⟩)) ?_
                exact H170
            · refine x_iload C d_M_layJoined_139 rfl ?_
              refine x_top (y := (nI (nx J1 i (bnd en t) n))) (by rw [nx_none (by omega)]) ?_
              refine x_goto (tgt := 168) C d_M_layJoined_141 (by decide) ?_
              refine x_istore (lv' := [(14, .int (nI (nx J1 i (bnd en t) n))), (13, .int (nI n)), (12, .int (nI ((f2 (bnd en t)).toNat))), (11, .int (nI ((f1 (bnd en t)).toNat))), (10, .int (nI (bnd en t))), (9, .int (nI y_)), (8, .int (nI x_)), (7, .int (nI at_)), (0, .ref h), (1, .int (nI op)), (2, .int (nI a1)), (3, .int (nI (a1 + 2 * J1.length))), (4, .int (nI a2)), (5, .int (nI (a2 + 2 * J2.length))), (6, .int (nI a3))]) C d_M_layJoined_168 (by decide) rfl ?_
              refine x_lv (lv' := [(14, .int (nI (nx J1 i (bnd en t) n))), (13, .int (nI n)), (12, .int (nI ((f2 (bnd en t)).toNat))), (11, .int (nI ((f1 (bnd en t)).toNat))), (10, .int (nI (bnd en t))), (9, .int (nI y_)), (8, .int (nI x_)), (7, .int (nI at_)), (0, .ref h), (1, .int (nI op)), (2, .int (nI a1)), (3, .int (nI (a1 + 2 * J1.length))), (4, .int (nI a2)), (5, .int (nI (a2 + 2 * J2.length))), (6, .int (nI a3))]) (Or.inr (List.forall_mem_cons.mpr ⟨rfl, List.forall_mem_cons.mpr ⟨rfl, List.forall_mem_cons.mpr ⟨rfl, List.forall_mem_cons.mpr ⟨rfl, List.forall_mem_cons.mpr ⟨rfl, List.forall_mem_cons.mpr ⟨rfl, List.forall_mem_cons.mpr ⟨rfl, List.forall_mem_cons.mpr ⟨rfl, List.forall_mem_cons.mpr ⟨rfl, List.forall_mem_cons.mpr ⟨rfl, List.forall_mem_cons.mpr ⟨rfl, List.forall_mem_cons.mpr ⟨rfl, List.forall_mem_cons.mpr ⟨rfl, List.forall_mem_cons.mpr ⟨rfl, List.forall_mem_cons.mpr ⟨rfl, fun _ h9 => absurd h9 List.not_mem_nil⟩⟩⟩⟩⟩⟩⟩⟩⟩⟩⟩⟩⟩⟩⟩)) ?_
              exact H170
          have H101 : X p_ l e_ ({ frames := 1, cells := 0, slots := 0, locals := 22 } : Room) s_ m_ args_ below_ meth_ c_ D A_ 16 0 0 (MQ below_ (va_Qi (fun r (u : (Nat → Int32) × List (Nat × Nat)) => r = nI (a3 + 2 * u.2.length) ∧ Ik en rn (f3 en op f1 f2 rn) u.2 ∧ seg u.1 a3 u.2 ∧ ∀ x, x < a3 → u.1 x = L x) (Bw D A_ (fun u => (mW cA h e0 v0 l0 b0 E V (u.1) B rn ns pl sn wa wf))) A_) args_ s_ 0 0 A_) [(h, .inr (2, [.ref e0, .ref v0, .int (nI rn), .ref l0, .ref b0, .int (nI ns), .int pl, .int sn, .int wa, .int wf])), (e0, .inl (cA, 33000, .inl (E))), (v0, .inl (cA, 66000, .inl (V))), (l0, .inl (cA, 200000, .inl (La))), (b0, .inl (cA, 15, .inl (B)))] 101 [(11, .int (nI ((f1 (bnd en t)).toNat))), (10, .int (nI (bnd en t))), (9, .int (nI y_)), (8, .int (nI x_)), (7, .int (nI at_)), (0, .ref h), (1, .int (nI op)), (2, .int (nI a1)), (3, .int (nI (a1 + 2 * J1.length))), (4, .int (nI a2)), (5, .int (nI (a2 + 2 * J2.length))), (6, .int (nI a3))] [] := by
            refine x_iload C d_M_layJoined_101 rfl ?_
            refine x_iload C d_M_layJoined_103 rfl ?_
            refine x_icmp_geN (tgt := 124) C d_M_layJoined_105 (by decide) (by omega) (by omega) (fun c105 => ?_) (fun c105 => ?_)
            · refine x_iconst (v := (nI (0))) C d_M_layJoined_124 (by decide) ?_
              refine x_top (y := (nI ((f2 (bnd en t)).toNat))) (by rw [now_none iv2 r2 (by omega)]; rfl) ?_
              refine x_istore (lv' := [(12, .int (nI ((f2 (bnd en t)).toNat))), (11, .int (nI ((f1 (bnd en t)).toNat))), (10, .int (nI (bnd en t))), (9, .int (nI y_)), (8, .int (nI x_)), (7, .int (nI at_)), (0, .ref h), (1, .int (nI op)), (2, .int (nI a1)), (3, .int (nI (a1 + 2 * J1.length))), (4, .int (nI a2)), (5, .int (nI (a2 + 2 * J2.length))), (6, .int (nI a3))]) C d_M_layJoined_125 (by decide) rfl ?_
              refine x_aload_n C d_M_layJoined_127 rfl rfl ?_
              refine x_callVI (wr := []) (rest := []) C (c_M_rows hE) d_M_layJoined_128 cd_M_rows lk_M_41 dd_M_rows rfl ⟨Nat.le_of_ble_eq_true rfl, Nat.le_of_ble_eq_true rfl⟩ ⟨Nat.le_refl _, Nat.le_refl _⟩ 2 0 rfl rfl [0, 1, 2, 3, 4] [] rfl rfl (by decide) (by decide) (by decide) rfl (Nat.le_of_ble_eq_true rfl) ?_
              intro r_ u_ hp_
              obtain rfl := hp_
              refine x_top (y := (nI (n))) (by rw [hn]) ?_
              refine x_istore (lv' := [(13, .int (nI n)), (12, .int (nI ((f2 (bnd en t)).toNat))), (11, .int (nI ((f1 (bnd en t)).toNat))), (10, .int (nI (bnd en t))), (9, .int (nI y_)), (8, .int (nI x_)), (7, .int (nI at_)), (0, .ref h), (1, .int (nI op)), (2, .int (nI a1)), (3, .int (nI (a1 + 2 * J1.length))), (4, .int (nI a2)), (5, .int (nI (a2 + 2 * J2.length))), (6, .int (nI a3))]) C d_M_layJoined_131 (by decide) rfl ?_
              refine x_lv (lv' := [(13, .int (nI n)), (12, .int (nI ((f2 (bnd en t)).toNat))), (11, .int (nI ((f1 (bnd en t)).toNat))), (10, .int (nI (bnd en t))), (9, .int (nI y_)), (8, .int (nI x_)), (7, .int (nI at_)), (0, .ref h), (1, .int (nI op)), (2, .int (nI a1)), (3, .int (nI (a1 + 2 * J1.length))), (4, .int (nI a2)), (5, .int (nI (a2 + 2 * J2.length))), (6, .int (nI a3))]) (Or.inr (List.forall_mem_cons.mpr ⟨rfl, List.forall_mem_cons.mpr ⟨rfl, List.forall_mem_cons.mpr ⟨rfl, List.forall_mem_cons.mpr ⟨rfl, List.forall_mem_cons.mpr ⟨rfl, List.forall_mem_cons.mpr ⟨rfl, List.forall_mem_cons.mpr ⟨rfl, List.forall_mem_cons.mpr ⟨rfl, List.forall_mem_cons.mpr ⟨rfl, List.forall_mem_cons.mpr ⟨rfl, List.forall_mem_cons.mpr ⟨rfl, List.forall_mem_cons.mpr ⟨rfl, List.forall_mem_cons.mpr ⟨rfl, List.forall_mem_cons.mpr ⟨rfl, fun _ h9 => absurd h9 List.not_mem_nil⟩⟩⟩⟩⟩⟩⟩⟩⟩⟩⟩⟩⟩⟩)) ?_
              exact H133
            · obtain ⟨q, hq⟩ : ∃ q, J2[j]? = some q := ⟨J2[j], List.getElem?_eq_getElem (by omega)⟩
              have hsq := s2a j q hq
              rw [← hy] at hsq
              have hq1 := ivs_at iv2.1 hq
              have hq2 := iv2.2.1 q (List.mem_of_getElem? hq)
              refine x_aload_n C d_M_layJoined_108 rfl rfl ?_
              refine x_get C d_M_layJoined_109 0 rfl rfl i_M 3 (by decide) lk_M_19 rfl rfl ?_
              refine x_iload C d_M_layJoined_112 rfl ?_
              refine x_iald C d_M_layJoined_114 3 rfl (by omega) (by omega) ?_
              refine x_top (y := (nI (q.1))) hsq.1 ?_
              refine x_iload C d_M_layJoined_115 rfl ?_
              refine x_icmp_gtN (tgt := 124) C d_M_layJoined_117 (by decide) (by omega) (by omega) (fun c117 => ?_) (fun c117 => ?_)
              · refine x_iconst (v := (nI (0))) C d_M_layJoined_124 (by decide) ?_
                refine x_top (y := (nI ((f2 (bnd en t)).toNat))) (by rw [now_out iv2 r2 hq c117]; rfl) ?_
                refine x_istore (lv' := [(12, .int (nI ((f2 (bnd en t)).toNat))), (11, .int (nI ((f1 (bnd en t)).toNat))), (10, .int (nI (bnd en t))), (9, .int (nI y_)), (8, .int (nI x_)), (7, .int (nI at_)), (0, .ref h), (1, .int (nI op)), (2, .int (nI a1)), (3, .int (nI (a1 + 2 * J1.length))), (4, .int (nI a2)), (5, .int (nI (a2 + 2 * J2.length))), (6, .int (nI a3))]) C d_M_layJoined_125 (by decide) rfl ?_
                refine x_aload_n C d_M_layJoined_127 rfl rfl ?_
                refine x_callVI (wr := []) (rest := []) C (c_M_rows hE) d_M_layJoined_128 cd_M_rows lk_M_41 dd_M_rows rfl ⟨Nat.le_of_ble_eq_true rfl, Nat.le_of_ble_eq_true rfl⟩ ⟨Nat.le_refl _, Nat.le_refl _⟩ 2 0 rfl rfl [0, 1, 2, 3, 4] [] rfl rfl (by decide) (by decide) (by decide) rfl (Nat.le_of_ble_eq_true rfl) ?_
                intro r_ u_ hp_
                obtain rfl := hp_
                refine x_top (y := (nI (n))) (by rw [hn]) ?_
                refine x_istore (lv' := [(13, .int (nI n)), (12, .int (nI ((f2 (bnd en t)).toNat))), (11, .int (nI ((f1 (bnd en t)).toNat))), (10, .int (nI (bnd en t))), (9, .int (nI y_)), (8, .int (nI x_)), (7, .int (nI at_)), (0, .ref h), (1, .int (nI op)), (2, .int (nI a1)), (3, .int (nI (a1 + 2 * J1.length))), (4, .int (nI a2)), (5, .int (nI (a2 + 2 * J2.length))), (6, .int (nI a3))]) C d_M_layJoined_131 (by decide) rfl ?_
                refine x_lv (lv' := [(13, .int (nI n)), (12, .int (nI ((f2 (bnd en t)).toNat))), (11, .int (nI ((f1 (bnd en t)).toNat))), (10, .int (nI (bnd en t))), (9, .int (nI y_)), (8, .int (nI x_)), (7, .int (nI at_)), (0, .ref h), (1, .int (nI op)), (2, .int (nI a1)), (3, .int (nI (a1 + 2 * J1.length))), (4, .int (nI a2)), (5, .int (nI (a2 + 2 * J2.length))), (6, .int (nI a3))]) (Or.inr (List.forall_mem_cons.mpr ⟨rfl, List.forall_mem_cons.mpr ⟨rfl, List.forall_mem_cons.mpr ⟨rfl, List.forall_mem_cons.mpr ⟨rfl, List.forall_mem_cons.mpr ⟨rfl, List.forall_mem_cons.mpr ⟨rfl, List.forall_mem_cons.mpr ⟨rfl, List.forall_mem_cons.mpr ⟨rfl, List.forall_mem_cons.mpr ⟨rfl, List.forall_mem_cons.mpr ⟨rfl, List.forall_mem_cons.mpr ⟨rfl, List.forall_mem_cons.mpr ⟨rfl, List.forall_mem_cons.mpr ⟨rfl, List.forall_mem_cons.mpr ⟨rfl, fun _ h9 => absurd h9 List.not_mem_nil⟩⟩⟩⟩⟩⟩⟩⟩⟩⟩⟩⟩⟩⟩)) ?_
                exact H133
              · refine x_iconst (v := (nI (1))) C d_M_layJoined_120 (by decide) ?_
                refine x_top (y := (nI ((f2 (bnd en t)).toNat))) (by rw [now_in iv2 r2 hq c117]; rfl) ?_
                refine x_goto (tgt := 125) C d_M_layJoined_121 (by decide) ?_
                refine x_istore (lv' := [(12, .int (nI ((f2 (bnd en t)).toNat))), (11, .int (nI ((f1 (bnd en t)).toNat))), (10, .int (nI (bnd en t))), (9, .int (nI y_)), (8, .int (nI x_)), (7, .int (nI at_)), (0, .ref h), (1, .int (nI op)), (2, .int (nI a1)), (3, .int (nI (a1 + 2 * J1.length))), (4, .int (nI a2)), (5, .int (nI (a2 + 2 * J2.length))), (6, .int (nI a3))]) C d_M_layJoined_125 (by decide) rfl ?_
                refine x_aload_n C d_M_layJoined_127 rfl rfl ?_
                refine x_callVI (wr := []) (rest := []) C (c_M_rows hE) d_M_layJoined_128 cd_M_rows lk_M_41 dd_M_rows rfl ⟨Nat.le_of_ble_eq_true rfl, Nat.le_of_ble_eq_true rfl⟩ ⟨Nat.le_refl _, Nat.le_refl _⟩ 2 0 rfl rfl [0, 1, 2, 3, 4] [] rfl rfl (by decide) (by decide) (by decide) rfl (Nat.le_of_ble_eq_true rfl) ?_
                intro r_ u_ hp_
                obtain rfl := hp_
                refine x_top (y := (nI (n))) (by rw [hn]) ?_
                refine x_istore (lv' := [(13, .int (nI n)), (12, .int (nI ((f2 (bnd en t)).toNat))), (11, .int (nI ((f1 (bnd en t)).toNat))), (10, .int (nI (bnd en t))), (9, .int (nI y_)), (8, .int (nI x_)), (7, .int (nI at_)), (0, .ref h), (1, .int (nI op)), (2, .int (nI a1)), (3, .int (nI (a1 + 2 * J1.length))), (4, .int (nI a2)), (5, .int (nI (a2 + 2 * J2.length))), (6, .int (nI a3))]) C d_M_layJoined_131 (by decide) rfl ?_
                refine x_lv (lv' := [(13, .int (nI n)), (12, .int (nI ((f2 (bnd en t)).toNat))), (11, .int (nI ((f1 (bnd en t)).toNat))), (10, .int (nI (bnd en t))), (9, .int (nI y_)), (8, .int (nI x_)), (7, .int (nI at_)), (0, .ref h), (1, .int (nI op)), (2, .int (nI a1)), (3, .int (nI (a1 + 2 * J1.length))), (4, .int (nI a2)), (5, .int (nI (a2 + 2 * J2.length))), (6, .int (nI a3))]) (Or.inr (List.forall_mem_cons.mpr ⟨rfl, List.forall_mem_cons.mpr ⟨rfl, List.forall_mem_cons.mpr ⟨rfl, List.forall_mem_cons.mpr ⟨rfl, List.forall_mem_cons.mpr ⟨rfl, List.forall_mem_cons.mpr ⟨rfl, List.forall_mem_cons.mpr ⟨rfl, List.forall_mem_cons.mpr ⟨rfl, List.forall_mem_cons.mpr ⟨rfl, List.forall_mem_cons.mpr ⟨rfl, List.forall_mem_cons.mpr ⟨rfl, List.forall_mem_cons.mpr ⟨rfl, List.forall_mem_cons.mpr ⟨rfl, List.forall_mem_cons.mpr ⟨rfl, fun _ h9 => absurd h9 List.not_mem_nil⟩⟩⟩⟩⟩⟩⟩⟩⟩⟩⟩⟩⟩⟩)) ?_
                exact H133
          refine x_iload C d_M_layJoined_76 rfl ?_
          refine x_iload_n C d_M_layJoined_78 rfl rfl ?_
          refine x_icmp_geN (tgt := 98) C d_M_layJoined_79 (by decide) (by omega) (by omega) (fun c79 => ?_) (fun c79 => ?_)
          · refine x_iconst (v := (nI (0))) C d_M_layJoined_98 (by decide) ?_
            refine x_top (y := (nI ((f1 (bnd en t)).toNat))) (by rw [now_none iv1 r1 (by omega)]; rfl) ?_
            refine x_istore (lv' := [(11, .int (nI ((f1 (bnd en t)).toNat))), (10, .int (nI (bnd en t))), (9, .int (nI y_)), (8, .int (nI x_)), (7, .int (nI at_)), (0, .ref h), (1, .int (nI op)), (2, .int (nI a1)), (3, .int (nI (a1 + 2 * J1.length))), (4, .int (nI a2)), (5, .int (nI (a2 + 2 * J2.length))), (6, .int (nI a3))]) C d_M_layJoined_99 (by decide) rfl ?_
            refine x_lv (lv' := [(11, .int (nI ((f1 (bnd en t)).toNat))), (10, .int (nI (bnd en t))), (9, .int (nI y_)), (8, .int (nI x_)), (7, .int (nI at_)), (0, .ref h), (1, .int (nI op)), (2, .int (nI a1)), (3, .int (nI (a1 + 2 * J1.length))), (4, .int (nI a2)), (5, .int (nI (a2 + 2 * J2.length))), (6, .int (nI a3))]) (Or.inr (List.forall_mem_cons.mpr ⟨rfl, List.forall_mem_cons.mpr ⟨rfl, List.forall_mem_cons.mpr ⟨rfl, List.forall_mem_cons.mpr ⟨rfl, List.forall_mem_cons.mpr ⟨rfl, List.forall_mem_cons.mpr ⟨rfl, List.forall_mem_cons.mpr ⟨rfl, List.forall_mem_cons.mpr ⟨rfl, List.forall_mem_cons.mpr ⟨rfl, List.forall_mem_cons.mpr ⟨rfl, List.forall_mem_cons.mpr ⟨rfl, List.forall_mem_cons.mpr ⟨rfl, fun _ h9 => absurd h9 List.not_mem_nil⟩⟩⟩⟩⟩⟩⟩⟩⟩⟩⟩⟩)) ?_
            exact H101
          · obtain ⟨q, hq⟩ : ∃ q, J1[i]? = some q := ⟨J1[i], List.getElem?_eq_getElem (by omega)⟩
            have hsq := s1a i q hq
            rw [← hx] at hsq
            have hq1 := ivs_at iv1.1 hq
            have hq2 := iv1.2.1 q (List.mem_of_getElem? hq)
            refine x_aload_n C d_M_layJoined_82 rfl rfl ?_
            refine x_get C d_M_layJoined_83 0 rfl rfl i_M 3 (by decide) lk_M_19 rfl rfl ?_
            refine x_iload C d_M_layJoined_86 rfl ?_
            refine x_iald C d_M_layJoined_88 3 rfl (by omega) (by omega) ?_
            refine x_top (y := (nI (q.1))) hsq.1 ?_
            refine x_iload C d_M_layJoined_89 rfl ?_
            refine x_icmp_gtN (tgt := 98) C d_M_layJoined_91 (by decide) (by omega) (by omega) (fun c91 => ?_) (fun c91 => ?_)
            · refine x_iconst (v := (nI (0))) C d_M_layJoined_98 (by decide) ?_
              refine x_top (y := (nI ((f1 (bnd en t)).toNat))) (by rw [now_out iv1 r1 hq c91]; rfl) ?_
              refine x_istore (lv' := [(11, .int (nI ((f1 (bnd en t)).toNat))), (10, .int (nI (bnd en t))), (9, .int (nI y_)), (8, .int (nI x_)), (7, .int (nI at_)), (0, .ref h), (1, .int (nI op)), (2, .int (nI a1)), (3, .int (nI (a1 + 2 * J1.length))), (4, .int (nI a2)), (5, .int (nI (a2 + 2 * J2.length))), (6, .int (nI a3))]) C d_M_layJoined_99 (by decide) rfl ?_
              refine x_lv (lv' := [(11, .int (nI ((f1 (bnd en t)).toNat))), (10, .int (nI (bnd en t))), (9, .int (nI y_)), (8, .int (nI x_)), (7, .int (nI at_)), (0, .ref h), (1, .int (nI op)), (2, .int (nI a1)), (3, .int (nI (a1 + 2 * J1.length))), (4, .int (nI a2)), (5, .int (nI (a2 + 2 * J2.length))), (6, .int (nI a3))]) (Or.inr (List.forall_mem_cons.mpr ⟨rfl, List.forall_mem_cons.mpr ⟨rfl, List.forall_mem_cons.mpr ⟨rfl, List.forall_mem_cons.mpr ⟨rfl, List.forall_mem_cons.mpr ⟨rfl, List.forall_mem_cons.mpr ⟨rfl, List.forall_mem_cons.mpr ⟨rfl, List.forall_mem_cons.mpr ⟨rfl, List.forall_mem_cons.mpr ⟨rfl, List.forall_mem_cons.mpr ⟨rfl, List.forall_mem_cons.mpr ⟨rfl, List.forall_mem_cons.mpr ⟨rfl, fun _ h9 => absurd h9 List.not_mem_nil⟩⟩⟩⟩⟩⟩⟩⟩⟩⟩⟩⟩)) ?_
              exact H101
            · refine x_iconst (v := (nI (1))) C d_M_layJoined_94 (by decide) ?_
              refine x_top (y := (nI ((f1 (bnd en t)).toNat))) (by rw [now_in iv1 r1 hq c91]; rfl) ?_
              refine x_goto (tgt := 99) C d_M_layJoined_95 (by decide) ?_
              refine x_istore (lv' := [(11, .int (nI ((f1 (bnd en t)).toNat))), (10, .int (nI (bnd en t))), (9, .int (nI y_)), (8, .int (nI x_)), (7, .int (nI at_)), (0, .ref h), (1, .int (nI op)), (2, .int (nI a1)), (3, .int (nI (a1 + 2 * J1.length))), (4, .int (nI a2)), (5, .int (nI (a2 + 2 * J2.length))), (6, .int (nI a3))]) C d_M_layJoined_99 (by decide) rfl ?_
              refine x_lv (lv' := [(11, .int (nI ((f1 (bnd en t)).toNat))), (10, .int (nI (bnd en t))), (9, .int (nI y_)), (8, .int (nI x_)), (7, .int (nI at_)), (0, .ref h), (1, .int (nI op)), (2, .int (nI a1)), (3, .int (nI (a1 + 2 * J1.length))), (4, .int (nI a2)), (5, .int (nI (a2 + 2 * J2.length))), (6, .int (nI a3))]) (Or.inr (List.forall_mem_cons.mpr ⟨rfl, List.forall_mem_cons.mpr ⟨rfl, List.forall_mem_cons.mpr ⟨rfl, List.forall_mem_cons.mpr ⟨rfl, List.forall_mem_cons.mpr ⟨rfl, List.forall_mem_cons.mpr ⟨rfl, List.forall_mem_cons.mpr ⟨rfl, List.forall_mem_cons.mpr ⟨rfl, List.forall_mem_cons.mpr ⟨rfl, List.forall_mem_cons.mpr ⟨rfl, List.forall_mem_cons.mpr ⟨rfl, List.forall_mem_cons.mpr ⟨rfl, fun _ h9 => absurd h9 List.not_mem_nil⟩⟩⟩⟩⟩⟩⟩⟩⟩⟩⟩⟩)) ?_
              exact H101
        have L2 : ∀ (e i j x_ y_ : Nat), j + e = J2.length → at_row J1 i (bnd en t) → x_ = a1 + 2 * i → y_ = a2 + 2 * j → (∀ k q, k < j → J2[k]? = some q → q.2 ≤ bnd en t) → X p_ l e_ ({ frames := 1, cells := 0, slots := 0, locals := 22 } : Room) s_ m_ args_ below_ meth_ c_ D A_ 16 0 0 (MQ below_ (va_Qi (fun r (u : (Nat → Int32) × List (Nat × Nat)) => r = nI (a3 + 2 * u.2.length) ∧ Ik en rn (f3 en op f1 f2 rn) u.2 ∧ seg u.1 a3 u.2 ∧ ∀ x, x < a3 → u.1 x = L x) (Bw D A_ (fun u => (mW cA h e0 v0 l0 b0 E V (u.1) B rn ns pl sn wa wf))) A_) args_ s_ 0 0 A_) [(h, .inr (2, [.ref e0, .ref v0, .int (nI rn), .ref l0, .ref b0, .int (nI ns), .int pl, .int sn, .int wa, .int wf])), (e0, .inl (cA, 33000, .inl (E))), (v0, .inl (cA, 66000, .inl (V))), (l0, .inl (cA, 200000, .inl (La))), (b0, .inl (cA, 15, .inl (B)))] 49 [(10, .int (nI (bnd en t))), (9, .int (nI y_)), (8, .int (nI x_)), (7, .int (nI at_)), (0, .ref h), (1, .int (nI op)), (2, .int (nI a1)), (3, .int (nI (a1 + 2 * J1.length))), (4, .int (nI a2)), (5, .int (nI (a2 + 2 * J2.length))), (6, .int (nI a3))] [] := by
          intro e
          induction e with
          | zero =>
            intro i j x_ y_ hje r1 hx hy hj1
            have hi := r1.1
            refine x_iload C d_M_layJoined_49 rfl ?_
            refine x_iload C d_M_layJoined_51 rfl ?_
            refine x_icmp_geN (tgt := 76) C d_M_layJoined_53 (by decide) (by omega) (by omega) (fun c53 => ?_) (fun c53 => ?_)
            · refine x_lv (lv' := [(10, .int (nI (bnd en t))), (9, .int (nI y_)), (8, .int (nI x_)), (7, .int (nI at_)), (0, .ref h), (1, .int (nI op)), (2, .int (nI a1)), (3, .int (nI (a1 + 2 * J1.length))), (4, .int (nI a2)), (5, .int (nI (a2 + 2 * J2.length))), (6, .int (nI a3))]) (Or.inr (List.forall_mem_cons.mpr ⟨rfl, List.forall_mem_cons.mpr ⟨rfl, List.forall_mem_cons.mpr ⟨rfl, List.forall_mem_cons.mpr ⟨rfl, List.forall_mem_cons.mpr ⟨rfl, List.forall_mem_cons.mpr ⟨rfl, List.forall_mem_cons.mpr ⟨rfl, List.forall_mem_cons.mpr ⟨rfl, List.forall_mem_cons.mpr ⟨rfl, List.forall_mem_cons.mpr ⟨rfl, List.forall_mem_cons.mpr ⟨rfl, fun _ h9 => absurd h9 List.not_mem_nil⟩⟩⟩⟩⟩⟩⟩⟩⟩⟩⟩)) ?_
              exact H76 i j x_ y_ r1 hx ⟨by omega, hj1, fun q hq => absurd (List.getElem?_eq_some_iff.mp hq).1 (by omega)⟩ hy
            · exact absurd c53 (by omega)
          | succ e ihe =>
            intro i j x_ y_ hje r1 hx hy hj1
            have hi := r1.1
            obtain ⟨q, hq⟩ : ∃ q, J2[j]? = some q := ⟨J2[j], List.getElem?_eq_getElem (by omega)⟩
            have hsq := s2a j q hq
            rw [← hy] at hsq
            have hq2 := iv2.2.1 q (List.mem_of_getElem? hq)
            refine x_iload C d_M_layJoined_49 rfl ?_
            refine x_iload C d_M_layJoined_51 rfl ?_
            refine x_icmp_geN (tgt := 76) C d_M_layJoined_53 (by decide) (by omega) (by omega) (fun c53 => ?_) (fun c53 => ?_)
            · exact absurd c53 (by omega)
            · refine x_aload_n C d_M_layJoined_56 rfl rfl ?_
              refine x_get C d_M_layJoined_57 0 rfl rfl i_M 3 (by decide) lk_M_19 rfl rfl ?_
              refine x_iload C d_M_layJoined_60 rfl ?_
              refine x_iconst (v := (nI (1))) C d_M_layJoined_62 (by decide) ?_
              refine x_iaddN C d_M_layJoined_63  ?_
              refine x_iald C d_M_layJoined_64 3 rfl (by omega) (by omega) ?_
              refine x_top (y := (nI (q.2))) hsq.2 ?_
              refine x_iload C d_M_layJoined_65 rfl ?_
              refine x_icmp_gtN (tgt := 76) C d_M_layJoined_67 (by decide) (by omega) (by omega) (fun c67 => ?_) (fun c67 => ?_)
              · refine x_lv (lv' := [(10, .int (nI (bnd en t))), (9, .int (nI y_)), (8, .int (nI x_)), (7, .int (nI at_)), (0, .ref h), (1, .int (nI op)), (2, .int (nI a1)), (3, .int (nI (a1 + 2 * J1.length))), (4, .int (nI a2)), (5, .int (nI (a2 + 2 * J2.length))), (6, .int (nI a3))]) (Or.inr (List.forall_mem_cons.mpr ⟨rfl, List.forall_mem_cons.mpr ⟨rfl, List.forall_mem_cons.mpr ⟨rfl, List.forall_mem_cons.mpr ⟨rfl, List.forall_mem_cons.mpr ⟨rfl, List.forall_mem_cons.mpr ⟨rfl, List.forall_mem_cons.mpr ⟨rfl, List.forall_mem_cons.mpr ⟨rfl, List.forall_mem_cons.mpr ⟨rfl, List.forall_mem_cons.mpr ⟨rfl, List.forall_mem_cons.mpr ⟨rfl, fun _ h9 => absurd h9 List.not_mem_nil⟩⟩⟩⟩⟩⟩⟩⟩⟩⟩⟩)) ?_
                exact H76 i j x_ y_ r1 hx ⟨by omega, hj1, fun q2 h9 => by rw [hq] at h9; cases h9; exact c67⟩ hy
              · refine x_iinc (v := (nI (y_ + 2))) (lv' := [(9, .int (nI (y_ + 2))), (10, .int (nI (bnd en t))), (8, .int (nI x_)), (7, .int (nI at_)), (0, .ref h), (1, .int (nI op)), (2, .int (nI a1)), (3, .int (nI (a1 + 2 * J1.length))), (4, .int (nI a2)), (5, .int (nI (a2 + 2 * J2.length))), (6, .int (nI a3))]) C d_M_layJoined_70 rfl (nI_add _ 2) (by decide) rfl ?_
                refine x_goto (tgt := 49) C d_M_layJoined_73 (by decide) ?_
                refine x_lv (lv' := [(10, .int (nI (bnd en t))), (9, .int (nI (y_ + 2))), (8, .int (nI x_)), (7, .int (nI at_)), (0, .ref h), (1, .int (nI op)), (2, .int (nI a1)), (3, .int (nI (a1 + 2 * J1.length))), (4, .int (nI a2)), (5, .int (nI (a2 + 2 * J2.length))), (6, .int (nI a3))]) (Or.inr (List.forall_mem_cons.mpr ⟨rfl, List.forall_mem_cons.mpr ⟨rfl, List.forall_mem_cons.mpr ⟨rfl, List.forall_mem_cons.mpr ⟨rfl, List.forall_mem_cons.mpr ⟨rfl, List.forall_mem_cons.mpr ⟨rfl, List.forall_mem_cons.mpr ⟨rfl, List.forall_mem_cons.mpr ⟨rfl, List.forall_mem_cons.mpr ⟨rfl, List.forall_mem_cons.mpr ⟨rfl, List.forall_mem_cons.mpr ⟨rfl, fun _ h9 => absurd h9 List.not_mem_nil⟩⟩⟩⟩⟩⟩⟩⟩⟩⟩⟩)) ?_
                exact ihe i (j + 1) x_ (y_ + 2) (by omega) r1 hx (by omega) (row_next hj1 hq c67)
        have L1 : ∀ (e i x_ : Nat), i + e = J1.length → x_ = a1 + 2 * i → (∀ k q, k < i → J1[k]? = some q → q.2 ≤ bnd en t) → X p_ l e_ ({ frames := 1, cells := 0, slots := 0, locals := 22 } : Room) s_ m_ args_ below_ meth_ c_ D A_ 16 0 0 (MQ below_ (va_Qi (fun r (u : (Nat → Int32) × List (Nat × Nat)) => r = nI (a3 + 2 * u.2.length) ∧ Ik en rn (f3 en op f1 f2 rn) u.2 ∧ seg u.1 a3 u.2 ∧ ∀ x, x < a3 → u.1 x = L x) (Bw D A_ (fun u => (mW cA h e0 v0 l0 b0 E V (u.1) B rn ns pl sn wa wf))) A_) args_ s_ 0 0 A_) [(h, .inr (2, [.ref e0, .ref v0, .int (nI rn), .ref l0, .ref b0, .int (nI ns), .int pl, .int sn, .int wa, .int wf])), (e0, .inl (cA, 33000, .inl (E))), (v0, .inl (cA, 66000, .inl (V))), (l0, .inl (cA, 200000, .inl (La))), (b0, .inl (cA, 15, .inl (B)))] 23 [(10, .int (nI (bnd en t))), (9, .int (nI y_)), (8, .int (nI x_)), (7, .int (nI at_)), (0, .ref h), (1, .int (nI op)), (2, .int (nI a1)), (3, .int (nI (a1 + 2 * J1.length))), (4, .int (nI a2)), (5, .int (nI (a2 + 2 * J2.length))), (6, .int (nI a3))] [] := by
          intro e
          induction e with
          | zero =>
            intro i x_ hie hx hi1
            refine x_iload C d_M_layJoined_23 rfl ?_
            refine x_iload_n C d_M_layJoined_25 rfl rfl ?_
            refine x_icmp_geN (tgt := 49) C d_M_layJoined_26 (by decide) (by omega) (by omega) (fun c26 => ?_) (fun c26 => ?_)
            · refine x_lv (lv' := [(10, .int (nI (bnd en t))), (9, .int (nI y_)), (8, .int (nI x_)), (7, .int (nI at_)), (0, .ref h), (1, .int (nI op)), (2, .int (nI a1)), (3, .int (nI (a1 + 2 * J1.length))), (4, .int (nI a2)), (5, .int (nI (a2 + 2 * J2.length))), (6, .int (nI a3))]) (Or.inr (List.forall_mem_cons.mpr ⟨rfl, List.forall_mem_cons.mpr ⟨rfl, List.forall_mem_cons.mpr ⟨rfl, List.forall_mem_cons.mpr ⟨rfl, List.forall_mem_cons.mpr ⟨rfl, List.forall_mem_cons.mpr ⟨rfl, List.forall_mem_cons.mpr ⟨rfl, List.forall_mem_cons.mpr ⟨rfl, List.forall_mem_cons.mpr ⟨rfl, List.forall_mem_cons.mpr ⟨rfl, List.forall_mem_cons.mpr ⟨rfl, fun _ h9 => absurd h9 List.not_mem_nil⟩⟩⟩⟩⟩⟩⟩⟩⟩⟩⟩)) ?_
              exact L2 (J2.length - j) i j x_ y_ (by omega) ⟨by omega, hi1, fun q hq => absurd (List.getElem?_eq_some_iff.mp hq).1 (by omega)⟩ hx hy hj1
            · exact absurd c26 (by omega)
          | succ e ihe =>
            intro i x_ hie hx hi1
            obtain ⟨q, hq⟩ : ∃ q, J1[i]? = some q := ⟨J1[i], List.getElem?_eq_getElem (by omega)⟩
            have hsq := s1a i q hq
            rw [← hx] at hsq
            have hq2 := iv1.2.1 q (List.mem_of_getElem? hq)
            refine x_iload C d_M_layJoined_23 rfl ?_
            refine x_iload_n C d_M_layJoined_25 rfl rfl ?_
            refine x_icmp_geN (tgt := 49) C d_M_layJoined_26 (by decide) (by omega) (by omega) (fun c26 => ?_) (fun c26 => ?_)
            · exact absurd c26 (by omega)
            · refine x_aload_n C d_M_layJoined_29 rfl rfl ?_
              refine x_get C d_M_layJoined_30 0 rfl rfl i_M 3 (by decide) lk_M_19 rfl rfl ?_
              refine x_iload C d_M_layJoined_33 rfl ?_
              refine x_iconst (v := (nI (1))) C d_M_layJoined_35 (by decide) ?_
              refine x_iaddN C d_M_layJoined_36  ?_
              refine x_iald C d_M_layJoined_37 3 rfl (by omega) (by omega) ?_
              refine x_top (y := (nI (q.2))) hsq.2 ?_
              refine x_iload C d_M_layJoined_38 rfl ?_
              refine x_icmp_gtN (tgt := 49) C d_M_layJoined_40 (by decide) (by omega) (by omega) (fun c40 => ?_) (fun c40 => ?_)
              · refine x_lv (lv' := [(10, .int (nI (bnd en t))), (9, .int (nI y_)), (8, .int (nI x_)), (7, .int (nI at_)), (0, .ref h), (1, .int (nI op)), (2, .int (nI a1)), (3, .int (nI (a1 + 2 * J1.length))), (4, .int (nI a2)), (5, .int (nI (a2 + 2 * J2.length))), (6, .int (nI a3))]) (Or.inr (List.forall_mem_cons.mpr ⟨rfl, List.forall_mem_cons.mpr ⟨rfl, List.forall_mem_cons.mpr ⟨rfl, List.forall_mem_cons.mpr ⟨rfl, List.forall_mem_cons.mpr ⟨rfl, List.forall_mem_cons.mpr ⟨rfl, List.forall_mem_cons.mpr ⟨rfl, List.forall_mem_cons.mpr ⟨rfl, List.forall_mem_cons.mpr ⟨rfl, List.forall_mem_cons.mpr ⟨rfl, List.forall_mem_cons.mpr ⟨rfl, fun _ h9 => absurd h9 List.not_mem_nil⟩⟩⟩⟩⟩⟩⟩⟩⟩⟩⟩)) ?_
                exact L2 (J2.length - j) i j x_ y_ (by omega) ⟨by omega, hi1, fun q2 h9 => by rw [hq] at h9; cases h9; exact c40⟩ hx hy hj1
              · refine x_iinc (v := (nI (x_ + 2))) (lv' := [(8, .int (nI (x_ + 2))), (10, .int (nI (bnd en t))), (9, .int (nI y_)), (7, .int (nI at_)), (0, .ref h), (1, .int (nI op)), (2, .int (nI a1)), (3, .int (nI (a1 + 2 * J1.length))), (4, .int (nI a2)), (5, .int (nI (a2 + 2 * J2.length))), (6, .int (nI a3))]) C d_M_layJoined_43 rfl (nI_add _ 2) (by decide) rfl ?_
                refine x_goto (tgt := 23) C d_M_layJoined_46 (by decide) ?_
                refine x_lv (lv' := [(10, .int (nI (bnd en t))), (9, .int (nI y_)), (8, .int (nI (x_ + 2))), (7, .int (nI at_)), (0, .ref h), (1, .int (nI op)), (2, .int (nI a1)), (3, .int (nI (a1 + 2 * J1.length))), (4, .int (nI a2)), (5, .int (nI (a2 + 2 * J2.length))), (6, .int (nI a3))]) (Or.inr (List.forall_mem_cons.mpr ⟨rfl, List.forall_mem_cons.mpr ⟨rfl, List.forall_mem_cons.mpr ⟨rfl, List.forall_mem_cons.mpr ⟨rfl, List.forall_mem_cons.mpr ⟨rfl, List.forall_mem_cons.mpr ⟨rfl, List.forall_mem_cons.mpr ⟨rfl, List.forall_mem_cons.mpr ⟨rfl, List.forall_mem_cons.mpr ⟨rfl, List.forall_mem_cons.mpr ⟨rfl, List.forall_mem_cons.mpr ⟨rfl, fun _ h9 => absurd h9 List.not_mem_nil⟩⟩⟩⟩⟩⟩⟩⟩⟩⟩⟩)) ?_
                exact ihe (i + 1) (x_ + 2) (by omega) (by omega) (row_next hi1 hq c40)
        refine x_iload C d_M_layJoined_14 rfl ?_
        refine x_aload_n C d_M_layJoined_16 rfl rfl ?_
        refine x_callVI (wr := []) (rest := [.int (nI (bnd en t))]) C (c_M_rows hE) d_M_layJoined_17 cd_M_rows lk_M_41 dd_M_rows rfl ⟨Nat.le_of_ble_eq_true rfl, Nat.le_of_ble_eq_true rfl⟩ ⟨Nat.le_refl _, Nat.le_refl _⟩ 2 0 rfl rfl [0, 1, 2, 3, 4] [] rfl rfl (by decide) (by decide) (by decide) rfl (Nat.le_of_ble_eq_true rfl) ?_
        intro r_ u_ hp_
        obtain rfl := hp_
        refine x_top (y := (nI (n))) (by rw [hn]) ?_
        refine x_icmp_geN (tgt := 316) C d_M_layJoined_20 (by decide) (by omega) (by omega) (fun c20 => ?_) (fun c20 => ?_)
        · exact absurd c20 (by omega)
        · refine x_lv (lv' := [(10, .int (nI (bnd en t))), (9, .int (nI y_)), (8, .int (nI x_)), (7, .int (nI at_)), (0, .ref h), (1, .int (nI op)), (2, .int (nI a1)), (3, .int (nI (a1 + 2 * J1.length))), (4, .int (nI a2)), (5, .int (nI (a2 + 2 * J2.length))), (6, .int (nI a3))]) (Or.inr (List.forall_mem_cons.mpr ⟨rfl, List.forall_mem_cons.mpr ⟨rfl, List.forall_mem_cons.mpr ⟨rfl, List.forall_mem_cons.mpr ⟨rfl, List.forall_mem_cons.mpr ⟨rfl, List.forall_mem_cons.mpr ⟨rfl, List.forall_mem_cons.mpr ⟨rfl, List.forall_mem_cons.mpr ⟨rfl, List.forall_mem_cons.mpr ⟨rfl, List.forall_mem_cons.mpr ⟨rfl, List.forall_mem_cons.mpr ⟨rfl, fun _ h9 => absurd h9 List.not_mem_nil⟩⟩⟩⟩⟩⟩⟩⟩⟩⟩⟩)) ?_
          exact L1 (J1.length - i) i x_ (by omega) hx hi1
  refine x_iload C d_M_layJoined_0 rfl ?_
  refine x_istore (lv' := [(7, .int (nI a3)), (0, .ref h), (1, .int (nI op)), (2, .int (nI a1)), (3, .int (nI (a1 + 2 * J1.length))), (4, .int (nI a2)), (5, .int (nI (a2 + 2 * J2.length))), (6, .int (nI a3))]) C d_M_layJoined_2 (by decide) rfl ?_
  refine x_iload_n C d_M_layJoined_4 rfl rfl ?_
  refine x_istore (lv' := [(8, .int (nI a1)), (7, .int (nI a3)), (0, .ref h), (1, .int (nI op)), (2, .int (nI a1)), (3, .int (nI (a1 + 2 * J1.length))), (4, .int (nI a2)), (5, .int (nI (a2 + 2 * J2.length))), (6, .int (nI a3))]) C d_M_layJoined_5 (by decide) rfl ?_
  refine x_iload C d_M_layJoined_7 rfl ?_
  refine x_istore (lv' := [(9, .int (nI a2)), (8, .int (nI a1)), (7, .int (nI a3)), (0, .ref h), (1, .int (nI op)), (2, .int (nI a1)), (3, .int (nI (a1 + 2 * J1.length))), (4, .int (nI a2)), (5, .int (nI (a2 + 2 * J2.length))), (6, .int (nI a3))]) C d_M_layJoined_9 (by decide) rfl ?_
  refine x_iconst (v := (nI (0))) C d_M_layJoined_11 (by decide) ?_
  refine x_istore (lv' := [(10, .int (nI 0)), (9, .int (nI a2)), (8, .int (nI a1)), (7, .int (nI a3)), (0, .ref h), (1, .int (nI op)), (2, .int (nI a1)), (3, .int (nI (a1 + 2 * J1.length))), (4, .int (nI a2)), (5, .int (nI (a2 + 2 * J2.length))), (6, .int (nI a3))]) C d_M_layJoined_12 (by decide) rfl ?_
  refine x_lv (lv' := [(10, .int (nI 0)), (9, .int (nI a2)), (8, .int (nI a1)), (7, .int (nI a3)), (0, .ref h), (1, .int (nI op)), (2, .int (nI a1)), (3, .int (nI (a1 + 2 * J1.length))), (4, .int (nI a2)), (5, .int (nI (a2 + 2 * J2.length))), (6, .int (nI a3))]) (Or.inr (List.forall_mem_cons.mpr ⟨rfl, List.forall_mem_cons.mpr ⟨rfl, List.forall_mem_cons.mpr ⟨rfl, List.forall_mem_cons.mpr ⟨rfl, List.forall_mem_cons.mpr ⟨rfl, List.forall_mem_cons.mpr ⟨rfl, List.forall_mem_cons.mpr ⟨rfl, List.forall_mem_cons.mpr ⟨rfl, List.forall_mem_cons.mpr ⟨rfl, List.forall_mem_cons.mpr ⟨rfl, List.forall_mem_cons.mpr ⟨rfl, fun _ h9 => absurd h9 List.not_mem_nil⟩⟩⟩⟩⟩⟩⟩⟩⟩⟩⟩)) ?_
  exact LP rn 0 0 0 a3 a1 a2 [] L (by omega) (Nat.zero_le _) rfl ⟨trivial, fun p hp => by simp at hp, Nat.le_refl _, fun r => by simp [f3, bnd, mem]⟩ (seg_nil L a3) (fun _ _ => rfl) (Nat.zero_le _) rfl (fun k _ h9 => absurd h9 (Nat.not_lt_zero k)) (Nat.zero_le _) rfl (fun k _ h9 => absurd h9 (Nat.not_lt_zero k))
