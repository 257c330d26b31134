/-! the reference: its cells, its runs -/
abbrev mW (cA : ClassId) (h e0 v0 l0 b0 : Nat) (E V L B : Nat → Int32) (rn ns : Nat) (pl sn wa wf : Int32) : va_W := [(h, .inr (2, [.ref e0, .ref v0, .int (nI rn), .ref l0, .ref b0, .int (nI ns), .int pl, .int sn, .int wa, .int wf])), (e0, .inl (cA, 33000, .inl E)), (v0, .inl (cA, 66000, .inl V)), (l0, .inl (cA, 200000, .inl L)), (b0, .inl (cA, 15, .inl B))]
def bnd (en : Nat → Nat) : Nat → Nat
  | 0 => 0
  | k + 1 => en k
def Rn (E V : Nat → Int32) (rn : Nat) (en : Nat → Nat) (vl : Nat → Nat → Nat) : Prop := rn ≤ 520 ∧ (∀ k, k < rn → E k = nI (en k) ∧ bnd en k < en k ∧ en k ≤ 1000000) ∧ (∀ k c, k < rn → c < 2 → V (2 * k + c) = nI (vl k c) ∧ vl k c < 16)
theorem bnd_le {E V : Nat → Int32} {rn : Nat} {en : Nat → Nat} {vl : Nat → Nat → Nat} (h : Rn E V rn en vl) : ∀ k, k ≤ rn → bnd en k ≤ 1000000
  | 0, _ => by show 0 ≤ _; omega
  | k + 1, hk => (h.2.1 k (by omega)).2.2
set_option maxHeartbeats 4000000 in
theorem c_M_rows {l : Launch} {D : va_G} {cA : ClassId} {h e0 v0 l0 b0 rn ns : Nat} {E V L B : Nat → Int32} {pl sn wa wf : Int32} {en : Nat → Nat} {vl : Nat → Nat → Nat} (hE : Rn E V rn en vl)  : CtI l D cA y_M_rows b_M_rows 1 (some .int) ({ frames := 0, cells := 0, slots := 0, locals := 0 } : Room) [.ref h] (mW cA h e0 v0 l0 b0 E V L B rn ns pl sn wa wf) (fun r (_ : Unit) => r = nI (bnd en rn)) (fun _ => (mW cA h e0 v0 l0 b0 E V L B rn ns pl sn wa wf)) := by
  refine CtI.start (lv0 := [(0, .ref h)]) (by decide) rfl (Nat.le_of_ble_eq_true rfl) ?_
  intro p_ e_ s_ m_ args_ below_ meth_ c_ A_ C hr hin
  have hr0 := hE.1
  refine x_aload_n C d_M_rows_0 rfl rfl ?_
  refine x_get C d_M_rows_1 0 rfl rfl i_M 2 (by decide) lk_M_25 rfl rfl ?_
  refine x_if_neN (tgt := 11) C d_M_rows_4 (by decide) (by omega) (fun c4 => ?_) (fun c4 => ?_)
  · refine x_aload_n C d_M_rows_11 rfl rfl ?_
    refine x_get C d_M_rows_12 0 rfl rfl i_M 0 (by decide) lk_M_8 rfl rfl ?_
    refine x_aload_n C d_M_rows_15 rfl rfl ?_
    refine x_get C d_M_rows_16 0 rfl rfl i_M 2 (by decide) lk_M_25 rfl rfl ?_
    refine x_iconst (v := (nI (1))) C d_M_rows_19 (by decide) ?_
    refine x_isubN C d_M_rows_20 (by omega) ?_
    refine x_iald C d_M_rows_21 1 rfl (by omega) (by omega) ?_
    refine x_top (y := (nI (bnd en rn))) (by rw [(hE.2.1 (rn - 1) (by omega)).1]; congr 1; rw [show rn = rn - 1 + 1 by omega]; rfl) ?_
    exact x_iret C hr d_M_rows_22 () rfl (rfl)
  · refine x_iconst (v := (nI (0))) C d_M_rows_7 (by decide) ?_
    refine x_top (y := (nI (bnd en rn))) (by rw [c4]; rfl) ?_
    refine x_goto (tgt := 22) C d_M_rows_8 (by decide) ?_
    exact x_iret C hr d_M_rows_22 () rfl (rfl)
set_option maxHeartbeats 4000000 in
theorem c_M_see {l : Launch} {D : va_G} {cA : ClassId} {h e0 v0 l0 b0 rn ns : Nat} {E V L B : Nat → Int32} {pl wa wf w : Int32} {sn : Nat}  : CtV l D cA y_M_see b_M_see 2 ({ frames := 0, cells := 0, slots := 0, locals := 0 } : Room) [.ref h, .int w] (mW cA h e0 v0 l0 b0 E V L B rn ns pl (nI sn) wa wf) (fun _ : Unit => True) (fun _ => (mW cA h e0 v0 l0 b0 E V L B rn ns pl (nI (sn + 1)) wa (if nI sn = wa then w else wf))) := by
  refine CtV.start (lv0 := [(0, .ref h), (1, .int w)]) (by decide) rfl (Nat.le_of_ble_eq_true rfl) ?_
  intro p_ e_ s_ m_ args_ below_ meth_ c_ A_ C hr hin
  refine x_aload_n C d_M_see_0 rfl rfl ?_
  refine x_aload_n C d_M_see_1 rfl rfl ?_
  refine x_get C d_M_see_2 0 rfl rfl i_M 7 (by decide) lk_M_29 rfl rfl ?_
  refine x_aload_n C d_M_see_5 rfl rfl ?_
  refine x_get C d_M_see_6 0 rfl rfl i_M 8 (by decide) lk_M_32 rfl rfl ?_
  refine x_icmp_ne (tgt := 16) C d_M_see_9 (by decide)  (fun c9 => ?_) (fun c9 => ?_)
  · refine x_aload_n C d_M_see_16 rfl rfl ?_
    refine x_get C d_M_see_17 0 rfl rfl i_M 9 (by decide) lk_M_35 rfl rfl ?_
    refine x_top (y := (if nI sn = wa then w else wf)) (if_neg c9).symm ?_
    refine x_put (ty := .int) (v := .int (if nI sn = wa then w else wf)) (ws' := [(h, .inr (2, [.ref e0, .ref v0, .int (nI rn), .ref l0, .ref b0, .int (nI ns), .int pl, .int (nI sn), .int wa, .int (if nI sn = wa then w else wf)])), (e0, .inl (cA, 33000, .inl (E))), (v0, .inl (cA, 66000, .inl (V))), (l0, .inl (cA, 200000, .inl (L))), (b0, .inl (cA, 15, .inl (B)))]) C d_M_see_20 0 rfl rfl i_M t_M t_M_ok n_M 9 (by decide) lk_M_35 rfl rfl (t_M_ok 9 (by decide)) rfl rfl (Nat.le_of_ble_eq_true rfl) rfl ?_
    refine x_aload_n C d_M_see_23 rfl rfl ?_
    refine x_dup C d_M_see_24 rfl ?_
    refine x_get C d_M_see_25 0 rfl rfl i_M 7 (by decide) lk_M_29 rfl rfl ?_
    refine x_iconst (v := (nI (1))) C d_M_see_28 (by decide) ?_
    refine x_iaddN C d_M_see_29  ?_
    refine x_put (ty := .int) (v := .int (nI (sn + 1))) (ws' := [(h, .inr (2, [.ref e0, .ref v0, .int (nI rn), .ref l0, .ref b0, .int (nI ns), .int pl, .int (nI (sn + 1)), .int wa, .int (if nI sn = wa then w else wf)])), (e0, .inl (cA, 33000, .inl (E))), (v0, .inl (cA, 66000, .inl (V))), (l0, .inl (cA, 200000, .inl (L))), (b0, .inl (cA, 15, .inl (B)))]) C d_M_see_30 0 rfl rfl i_M t_M t_M_ok n_M 7 (by decide) lk_M_29 rfl rfl (t_M_ok 7 (by decide)) rfl rfl (Nat.le_of_ble_eq_true rfl) rfl ?_
    exact x_vret C hr d_M_see_33 () rfl (trivial)
  · refine x_iload_n C d_M_see_12 rfl rfl ?_
    refine x_top (y := (if nI sn = wa then w else wf)) (if_pos c9).symm ?_
    refine x_goto (tgt := 20) C d_M_see_13 (by decide) ?_
    refine x_put (ty := .int) (v := .int (if nI sn = wa then w else wf)) (ws' := [(h, .inr (2, [.ref e0, .ref v0, .int (nI rn), .ref l0, .ref b0, .int (nI ns), .int pl, .int (nI sn), .int wa, .int (if nI sn = wa then w else wf)])), (e0, .inl (cA, 33000, .inl (E))), (v0, .inl (cA, 66000, .inl (V))), (l0, .inl (cA, 200000, .inl (L))), (b0, .inl (cA, 15, .inl (B)))]) C d_M_see_20 0 rfl rfl i_M t_M t_M_ok n_M 9 (by decide) lk_M_35 rfl rfl (t_M_ok 9 (by decide)) rfl rfl (Nat.le_of_ble_eq_true rfl) rfl ?_
    refine x_aload_n C d_M_see_23 rfl rfl ?_
    refine x_dup C d_M_see_24 rfl ?_
    refine x_get C d_M_see_25 0 rfl rfl i_M 7 (by decide) lk_M_29 rfl rfl ?_
    refine x_iconst (v := (nI (1))) C d_M_see_28 (by decide) ?_
    refine x_iaddN C d_M_see_29  ?_
    refine x_put (ty := .int) (v := .int (nI (sn + 1))) (ws' := [(h, .inr (2, [.ref e0, .ref v0, .int (nI rn), .ref l0, .ref b0, .int (nI ns), .int pl, .int (nI (sn + 1)), .int wa, .int (if nI sn = wa then w else wf)])), (e0, .inl (cA, 33000, .inl (E))), (v0, .inl (cA, 66000, .inl (V))), (l0, .inl (cA, 200000, .inl (L))), (b0, .inl (cA, 15, .inl (B)))]) C d_M_see_30 0 rfl rfl i_M t_M t_M_ok n_M 7 (by decide) lk_M_29 rfl rfl (t_M_ok 7 (by decide)) rfl rfl (Nat.le_of_ble_eq_true rfl) rfl ?_
    exact x_vret C hr d_M_see_33 () rfl (trivial)
theorem lit_start {J : List (Nat × Nat)} {g j : Nat} (hb : ∀ i q, i < j → J[i]? = some q → q.2 ≤ 31 * g) : gb (mem (J.take j)) g = 0 := by
  rw [gb_zero]
  intro k hk
  rw [mem_false]
  intro q hq
  obtain ⟨i, hi⟩ := List.getElem?_of_mem hq
  have h1 : i < j := by
    have := (List.getElem?_eq_some_iff.mp hi).1
    rw [List.length_take] at this
    omega
  rw [List.getElem?_take_of_lt h1] at hi
  have := hb i q h1 hi
  omega
set_option maxHeartbeats 4000000 in
theorem c_M_literal {l : Launch} {D : va_G} {cA : ClassId} {h e0 v0 l0 b0 rn ns : Nat} {E V L B : Nat → Int32} {sn wa wf : Int32} {n g j a : Nat} {f : Nat → Bool} {J : List (Nat × Nat)} (hJ : Iv n f J) (hs : seg L a J) (hjl : j ≤ J.length) (hb : ∀ i q, i < j → J[i]? = some q → q.2 ≤ 31 * g) (hj2 : ∀ q, J[j]? = some q → 31 * g < q.2) (ha : a + 2 * J.length ≤ 200000) (hg : g ≤ 40000) (hn : n ≤ 1000000)  : CtI l D cA y_M_literal b_M_literal 9 (some .int) ({ frames := 0, cells := 0, slots := 0, locals := 0 } : Room) [.ref h, .int (nI g), .int (nI (a + 2 * J.length))] (mW cA h e0 v0 l0 b0 E V L B rn ns (nI (a + 2 * j)) sn wa wf) (fun r (u : Nat) => r = nI (gb f g) ∧ u ≤ J.length ∧ j ≤ u ∧ (∀ i q, i < u → J[i]? = some q → q.2 ≤ 31 * g + 31) ∧ (∀ q, J[u]? = some q → 31 * g + 31 < q.2)) (fun u => (mW cA h e0 v0 l0 b0 E V L B rn ns (nI (a + 2 * u)) sn wa wf)) := by
  refine CtI.start (lv0 := [(0, .ref h), (1, .int (nI g)), (2, .int (nI (a + 2 * J.length)))]) (by decide) rfl (Nat.le_of_ble_eq_true rfl) ?_
  intro p_ e_ s_ m_ args_ below_ meth_ c_ A_ C hr hin
  have LP : ∀ (d x : Nat), x + d = J.length → j ≤ x → (∀ i q, i < x → J[i]? = some q → q.2 ≤ 31 * g + 31) → X p_ l e_ ({ frames := 0, cells := 0, slots := 0, locals := 0 } : Room) s_ m_ args_ below_ meth_ c_ D A_ 9 0 0 (MQ below_ (va_Qi (fun r (u : Nat) => r = nI (gb f g) ∧ u ≤ J.length ∧ j ≤ u ∧ (∀ i q, i < u → J[i]? = some q → q.2 ≤ 31 * g + 31) ∧ (∀ q, J[u]? = some q → 31 * g + 31 < q.2)) (Bw D A_ (fun u => (mW cA h e0 v0 l0 b0 E V L B rn ns (nI (a + 2 * u)) sn wa wf))) A_) args_ s_ 0 0 A_) [(h, .inr (2, [.ref e0, .ref v0, .int (nI rn), .ref l0, .ref b0, .int (nI ns), .int (nI (a + 2 * x)), .int sn, .int wa, .int wf])), (e0, .inl (cA, 33000, .inl (E))), (v0, .inl (cA, 66000, .inl (V))), (l0, .inl (cA, 200000, .inl (L))), (b0, .inl (cA, 15, .inl (B)))] 11 [(5, .int (nI 1)), (4, .int (nI (gb (mem (J.take x)) g))), (3, .int (nI (31 * g))), (0, .ref h), (1, .int (nI g)), (2, .int (nI (a + 2 * J.length)))] [] := by
    intro d
    induction d with
    | zero =>
      intro x hx hjx hlo
      refine x_iload C d_M_literal_11 rfl ?_
      refine x_if_eqN (tgt := 181) C d_M_literal_13 (by decide) (by omega) (fun c13 => ?_) (fun c13 => ?_)
      · exact absurd c13 (by omega)
      · refine x_aload_n C d_M_literal_16 rfl rfl ?_
        refine x_get C d_M_literal_17 0 rfl rfl i_M 6 (by decide) lk_M_38 rfl rfl ?_
        refine x_iload_n C d_M_literal_20 rfl rfl ?_
        refine x_icmp_geN (tgt := 181) C d_M_literal_21 (by decide) (by omega) (by omega) (fun c21 => ?_) (fun c21 => ?_)
        · refine x_iload C d_M_literal_181 rfl ?_
          exact x_iret C hr d_M_literal_183 x rfl (⟨by rw [lit_end hJ (fun i q h1 h2 => absurd (List.getElem?_eq_some_iff.mp h2).1 (by omega))], by omega, hjx, hlo, fun q h2 => absurd (List.getElem?_eq_some_iff.mp h2).1 (by omega)⟩)
        · exact absurd c21 (by omega)
    | succ d ih =>
      intro x hx hjx hlo
      obtain ⟨q, hq⟩ : ∃ q, J[x]? = some q := ⟨J[x], List.getElem?_eq_getElem (by omega)⟩
      have hsq := hs x q hq
      have hq1 := ivs_at hJ.1 hq
      have hq2 := hJ.2.1 q (List.mem_of_getElem? hq)
      have hlit := lit_step (g := g) hq
      have hle := gb_le (mem (J.take x)) g
      have hq4 : 31 * g < q.2 := by
        rcases Nat.lt_or_ge j x with h3 | h3
        · have h5 : J[j]? = some J[j] := List.getElem?_eq_getElem (by omega)
          have h4 := ivs_two hJ.1 h3 h5 hq
          have h6 := hj2 _ h5
          omega
        · have h4 : x = j := by omega
          subst h4
          exact hj2 q hq
      have hup : q.2 ≤ 31 * g + 31 → ∀ i q2, i < x + 1 → J[i]? = some q2 → q2.2 ≤ 31 * g + 31 := by
        intro h0 i q2 h1 h2
        rcases Nat.lt_or_ge i x with h3 | h3
        · exact hlo i q2 h3 h2
        · have h4 : i = x := by omega
          subst h4
          rw [hq] at h2
          cases h2
          exact h0
      have hge : 31 * g + 31 ≤ q.1 → ∀ i q2, x ≤ i → J[i]? = some q2 → 31 * g + 31 ≤ q2.1 := by
        intro h0 i q2 h1 h2
        rcases Nat.lt_or_ge x i with h3 | h3
        · have h4 := ivs_two hJ.1 h3 hq h2
          omega
        · have h4 : i = x := by omega
          subst h4
          rw [hq] at h2
          cases h2
          exact h0
      have LI : q.1 < 31 * g + 31 → ∀ (e k : Nat), k + e = min (q.2 - 31 * g) 31 → q.1 - 31 * g ≤ k → X p_ l e_ ({ frames := 0, cells := 0, slots := 0, locals := 0 } : Room) s_ m_ args_ below_ meth_ c_ D A_ 9 0 0 (MQ below_ (va_Qi (fun r (u : Nat) => r = nI (gb f g) ∧ u ≤ J.length ∧ j ≤ u ∧ (∀ i q, i < u → J[i]? = some q → q.2 ≤ 31 * g + 31) ∧ (∀ q, J[u]? = some q → 31 * g + 31 < q.2)) (Bw D A_ (fun u => (mW cA h e0 v0 l0 b0 E V L B rn ns (nI (a + 2 * u)) sn wa wf))) A_) args_ s_ 0 0 A_) [(h, .inr (2, [.ref e0, .ref v0, .int (nI rn), .ref l0, .ref b0, .int (nI ns), .int (nI (a + 2 * x)), .int sn, .int wa, .int wf])), (e0, .inl (cA, 33000, .inl (E))), (v0, .inl (cA, 66000, .inl (V))), (l0, .inl (cA, 200000, .inl (L))), (b0, .inl (cA, 15, .inl (B)))] 112 [(8, .int (nI k)), (4, .int (nI (gb (mem (J.take x)) g ||| rg (q.1 - 31 * g) k))), (7, .int (nI (min (q.2 - 31 * g) 31))), (6, .int (nI (q.1 - 31 * g))), (5, .int (nI 1)), (3, .int (nI (31 * g))), (0, .ref h), (1, .int (nI g)), (2, .int (nI (a + 2 * J.length)))] [] := by
        intro hq3 e
        induction e with
        | zero =>
          intro k hk hfk
          have hk2 : k = min (q.2 - 31 * g) 31 := by omega
          subst hk2
          refine x_lv (lv' := [(8, .int (nI (min (q.2 - 31 * g) 31))), (4, .int (nI (gb (mem (J.take (x + 1))) g))), (7, .int (nI (min (q.2 - 31 * g) 31))), (6, .int (nI (q.1 - 31 * g))), (5, .int (nI 1)), (3, .int (nI (31 * g))), (0, .ref h), (1, .int (nI g)), (2, .int (nI (a + 2 * J.length)))]) (Or.inr (List.forall_mem_cons.mpr ⟨rfl, List.forall_mem_cons.mpr ⟨(by rw [← hlit]; rfl), List.forall_mem_cons.mpr ⟨rfl, List.forall_mem_cons.mpr ⟨rfl, List.forall_mem_cons.mpr ⟨rfl, List.forall_mem_cons.mpr ⟨rfl, List.forall_mem_cons.mpr ⟨rfl, List.forall_mem_cons.mpr ⟨rfl, List.forall_mem_cons.mpr ⟨rfl, fun _ h9 => absurd h9 List.not_mem_nil⟩⟩⟩⟩⟩⟩⟩⟩⟩)) ?_
          refine x_iload C d_M_literal_112 rfl ?_
          refine x_iload C d_M_literal_114 rfl ?_
          refine x_icmp_geN (tgt := 134) C d_M_literal_116 (by decide) (by omega) (by omega) (fun c116 => ?_) (fun c116 => ?_)
          · refine x_aload_n C d_M_literal_134 rfl rfl ?_
            refine x_get C d_M_literal_135 0 rfl rfl i_M 3 (by decide) lk_M_19 rfl rfl ?_
            refine x_aload_n C d_M_literal_138 rfl rfl ?_
            refine x_get C d_M_literal_139 0 rfl rfl i_M 6 (by decide) lk_M_38 rfl rfl ?_
            refine x_iconst (v := (nI (1))) C d_M_literal_142 (by decide) ?_
            refine x_iaddN C d_M_literal_143  ?_
            refine x_iald C d_M_literal_144 3 rfl (by omega) (by omega) ?_
            refine x_top (y := (nI (q.2))) hsq.2 ?_
            refine x_iload_n C d_M_literal_145 rfl rfl ?_
            refine x_bipush (v := (nI (31))) C d_M_literal_146 (by decide) ?_
            refine x_iaddN C d_M_literal_148  ?_
            refine x_icmp_gtN (tgt := 156) C d_M_literal_149 (by decide) (by omega) (by omega) (fun c149 => ?_) (fun c149 => ?_)
            · refine x_iconst (v := (nI (0))) C d_M_literal_156 (by decide) ?_
              refine x_istore (lv' := [(5, .int (nI 0)), (8, .int (nI (min (q.2 - 31 * g) 31))), (4, .int (nI (gb (mem (J.take (x + 1))) g))), (7, .int (nI (min (q.2 - 31 * g) 31))), (6, .int (nI (q.1 - 31 * g))), (3, .int (nI (31 * g))), (0, .ref h), (1, .int (nI g)), (2, .int (nI (a + 2 * J.length)))]) C d_M_literal_157 (by decide) rfl ?_
              refine x_aload_n C d_M_literal_159 rfl rfl ?_
              refine x_dup C d_M_literal_160 rfl ?_
              refine x_get C d_M_literal_161 0 rfl rfl i_M 6 (by decide) lk_M_38 rfl rfl ?_
              refine x_iload C d_M_literal_164 rfl ?_
              refine x_if_eqN (tgt := 173) C d_M_literal_166 (by decide) (by omega) (fun c166 => ?_) (fun c166 => ?_)
              · refine x_iconst (v := (nI (0))) C d_M_literal_173 (by decide) ?_
                refine x_iaddN C d_M_literal_174  ?_
                refine x_top (y := (nI (a + 2 * x))) (by congr 1) ?_
                refine x_put (ty := .int) (v := .int (nI (a + 2 * x))) (ws' := [(h, .inr (2, [.ref e0, .ref v0, .int (nI rn), .ref l0, .ref b0, .int (nI ns), .int (nI (a + 2 * x)), .int sn, .int wa, .int wf])), (e0, .inl (cA, 33000, .inl (E))), (v0, .inl (cA, 66000, .inl (V))), (l0, .inl (cA, 200000, .inl (L))), (b0, .inl (cA, 15, .inl (B)))]) C d_M_literal_175 0 rfl rfl i_M t_M t_M_ok n_M 6 (by decide) lk_M_38 rfl rfl (t_M_ok 6 (by decide)) rfl rfl (Nat.le_of_ble_eq_true rfl) rfl ?_
                refine x_goto (tgt := 11) C d_M_literal_178 (by decide) ?_
                refine x_iload C d_M_literal_11 rfl ?_
                refine x_if_eqN (tgt := 181) C d_M_literal_13 (by decide) (by omega) (fun c13 => ?_) (fun c13 => ?_)
                · refine x_iload C d_M_literal_181 rfl ?_
                  exact x_iret C hr d_M_literal_183 x rfl (⟨by rw [lit_end hJ (fun i q2 h1 h2 => by have h3 := ivs_two hJ.1 (show x < i by omega) hq h2; omega)], by omega, hjx, hlo, fun q2 h2 => by rw [hq] at h2; cases h2; omega⟩)
                · exact absurd c13 (by omega)
              · exact absurd c166 (by omega)
            · refine x_iconst (v := (nI (1))) C d_M_literal_152 (by decide) ?_
              refine x_goto (tgt := 157) C d_M_literal_153 (by decide) ?_
              refine x_istore (lv' := [(5, .int (nI 1)), (8, .int (nI (min (q.2 - 31 * g) 31))), (4, .int (nI (gb (mem (J.take (x + 1))) g))), (7, .int (nI (min (q.2 - 31 * g) 31))), (6, .int (nI (q.1 - 31 * g))), (3, .int (nI (31 * g))), (0, .ref h), (1, .int (nI g)), (2, .int (nI (a + 2 * J.length)))]) C d_M_literal_157 (by decide) rfl ?_
              refine x_aload_n C d_M_literal_159 rfl rfl ?_
              refine x_dup C d_M_literal_160 rfl ?_
              refine x_get C d_M_literal_161 0 rfl rfl i_M 6 (by decide) lk_M_38 rfl rfl ?_
              refine x_iload C d_M_literal_164 rfl ?_
              refine x_if_eqN (tgt := 173) C d_M_literal_166 (by decide) (by omega) (fun c166 => ?_) (fun c166 => ?_)
              · exact absurd c166 (by omega)
              · refine x_iconst (v := (nI (2))) C d_M_literal_169 (by decide) ?_
                refine x_goto (tgt := 174) C d_M_literal_170 (by decide) ?_
                refine x_iaddN C d_M_literal_174  ?_
                refine x_top (y := (nI (a + 2 * (x + 1)))) (by congr 1) ?_
                refine x_put (ty := .int) (v := .int (nI (a + 2 * (x + 1)))) (ws' := [(h, .inr (2, [.ref e0, .ref v0, .int (nI rn), .ref l0, .ref b0, .int (nI ns), .int (nI (a + 2 * (x + 1))), .int sn, .int wa, .int wf])), (e0, .inl (cA, 33000, .inl (E))), (v0, .inl (cA, 66000, .inl (V))), (l0, .inl (cA, 200000, .inl (L))), (b0, .inl (cA, 15, .inl (B)))]) C d_M_literal_175 0 rfl rfl i_M t_M t_M_ok n_M 6 (by decide) lk_M_38 rfl rfl (t_M_ok 6 (by decide)) rfl rfl (Nat.le_of_ble_eq_true rfl) rfl ?_
                refine x_goto (tgt := 11) C d_M_literal_178 (by decide) ?_
                refine x_lv (lv' := [(5, .int (nI 1)), (4, .int (nI (gb (mem (J.take (x + 1))) g))), (3, .int (nI (31 * g))), (0, .ref h), (1, .int (nI g)), (2, .int (nI (a + 2 * J.length)))]) (Or.inr (List.forall_mem_cons.mpr ⟨rfl, List.forall_mem_cons.mpr ⟨rfl, List.forall_mem_cons.mpr ⟨rfl, List.forall_mem_cons.mpr ⟨rfl, List.forall_mem_cons.mpr ⟨rfl, List.forall_mem_cons.mpr ⟨rfl, fun _ h9 => absurd h9 List.not_mem_nil⟩⟩⟩⟩⟩⟩)) ?_
                exact ih (x + 1) (by omega) (by omega) (hup c149)
          · exact absurd c116 (by omega)
        | succ e ihe =>
          intro k hk hfk
          refine x_iload C d_M_literal_112 rfl ?_
          refine x_iload C d_M_literal_114 rfl ?_
          refine x_icmp_geN (tgt := 134) C d_M_literal_116 (by decide) (by omega) (by omega) (fun c116 => ?_) (fun c116 => ?_)
          · exact absurd c116 (by omega)
          · refine x_iload C d_M_literal_119 rfl ?_
            refine x_iconst (v := (nI (1))) C d_M_literal_121 (by decide) ?_
            refine x_iload C d_M_literal_122 rfl ?_
            refine x_ishl C d_M_literal_124 ?_
            refine x_top (y := (nI (2 ^ k))) (by rw [nx_shl (by omega) (by rw [Nat.one_mul]; exact Nat.pow_lt_pow_right (by omega) (by omega)), Nat.one_mul]) ?_
            refine x_ior C d_M_literal_125 ?_
            refine x_top (y := (nI (gb (mem (J.take x)) g ||| rg (q.1 - 31 * g) (k + 1)))) (by rw [nx_or, rg_succ hfk, Nat.or_assoc]) ?_
            refine x_istore (lv' := [(4, .int (nI (gb (mem (J.take x)) g ||| rg (q.1 - 31 * g) (k + 1)))), (8, .int (nI k)), (7, .int (nI (min (q.2 - 31 * g) 31))), (6, .int (nI (q.1 - 31 * g))), (5, .int (nI 1)), (3, .int (nI (31 * g))), (0, .ref h), (1, .int (nI g)), (2, .int (nI (a + 2 * J.length)))]) C d_M_literal_126 (by decide) rfl ?_
            refine x_iincN (lv' := [(8, .int (nI (k + 1))), (4, .int (nI (gb (mem (J.take x)) g ||| rg (q.1 - 31 * g) (k + 1)))), (7, .int (nI (min (q.2 - 31 * g) 31))), (6, .int (nI (q.1 - 31 * g))), (5, .int (nI 1)), (3, .int (nI (31 * g))), (0, .ref h), (1, .int (nI g)), (2, .int (nI (a + 2 * J.length)))]) C d_M_literal_128 rfl (by decide) rfl ?_
            refine x_goto (tgt := 112) C d_M_literal_131 (by decide) ?_
            refine x_lv (lv' := [(8, .int (nI (k + 1))), (4, .int (nI (gb (mem (J.take x)) g ||| rg (q.1 - 31 * g) (k + 1)))), (7, .int (nI (min (q.2 - 31 * g) 31))), (6, .int (nI (q.1 - 31 * g))), (5, .int (nI 1)), (3, .int (nI (31 * g))), (0, .ref h), (1, .int (nI g)), (2, .int (nI (a + 2 * J.length)))]) (Or.inr (List.forall_mem_cons.mpr ⟨rfl, List.forall_mem_cons.mpr ⟨rfl, List.forall_mem_cons.mpr ⟨rfl, List.forall_mem_cons.mpr ⟨rfl, List.forall_mem_cons.mpr ⟨rfl, List.forall_mem_cons.mpr ⟨rfl, List.forall_mem_cons.mpr ⟨rfl, List.forall_mem_cons.mpr ⟨rfl, List.forall_mem_cons.mpr ⟨rfl, fun _ h9 => absurd h9 List.not_mem_nil⟩⟩⟩⟩⟩⟩⟩⟩⟩)) ?_
            exact ihe (k + 1) (by omega) (by omega)
      have H106 : q.1 < 31 * g + 31 → X p_ l e_ ({ frames := 0, cells := 0, slots := 0, locals := 0 } : Room) s_ m_ args_ below_ meth_ c_ D A_ 9 0 0 (MQ below_ (va_Qi (fun r (u : Nat) => r = nI (gb f g) ∧ u ≤ J.length ∧ j ≤ u ∧ (∀ i q, i < u → J[i]? = some q → q.2 ≤ 31 * g + 31) ∧ (∀ q, J[u]? = some q → 31 * g + 31 < q.2)) (Bw D A_ (fun u => (mW cA h e0 v0 l0 b0 E V L B rn ns (nI (a + 2 * u)) sn wa wf))) A_) args_ s_ 0 0 A_) [(h, .inr (2, [.ref e0, .ref v0, .int (nI rn), .ref l0, .ref b0, .int (nI ns), .int (nI (a + 2 * x)), .int sn, .int wa, .int wf])), (e0, .inl (cA, 33000, .inl (E))), (v0, .inl (cA, 66000, .inl (V))), (l0, .inl (cA, 200000, .inl (L))), (b0, .inl (cA, 15, .inl (B)))] 106 [(6, .int (nI (q.1 - 31 * g))), (5, .int (nI 1)), (4, .int (nI (gb (mem (J.take x)) g))), (3, .int (nI (31 * g))), (0, .ref h), (1, .int (nI g)), (2, .int (nI (a + 2 * J.length)))] [.int (nI (min (q.2 - 31 * g) 31))] := by
        intro hq3
        refine x_istore (lv' := [(7, .int (nI (min (q.2 - 31 * g) 31))), (6, .int (nI (q.1 - 31 * g))), (5, .int (nI 1)), (4, .int (nI (gb (mem (J.take x)) g))), (3, .int (nI (31 * g))), (0, .ref h), (1, .int (nI g)), (2, .int (nI (a + 2 * J.length)))]) C d_M_literal_106 (by decide) rfl ?_
        refine x_iload C d_M_literal_108 rfl ?_
        refine x_istore (lv' := [(8, .int (nI (q.1 - 31 * g))), (7, .int (nI (min (q.2 - 31 * g) 31))), (6, .int (nI (q.1 - 31 * g))), (5, .int (nI 1)), (4, .int (nI (gb (mem (J.take x)) g))), (3, .int (nI (31 * g))), (0, .ref h), (1, .int (nI g)), (2, .int (nI (a + 2 * J.length)))]) C d_M_literal_110 (by decide) rfl ?_
        refine x_lv (lv' := [(8, .int (nI (q.1 - 31 * g))), (4, .int (nI (gb (mem (J.take x)) g ||| rg (q.1 - 31 * g) (q.1 - 31 * g)))), (7, .int (nI (min (q.2 - 31 * g) 31))), (6, .int (nI (q.1 - 31 * g))), (5, .int (nI 1)), (3, .int (nI (31 * g))), (0, .ref h), (1, .int (nI g)), (2, .int (nI (a + 2 * J.length)))]) (Or.inr (List.forall_mem_cons.mpr ⟨rfl, List.forall_mem_cons.mpr ⟨(by rw [rg_self, Nat.or_zero]; rfl), List.forall_mem_cons.mpr ⟨rfl, List.forall_mem_cons.mpr ⟨rfl, List.forall_mem_cons.mpr ⟨rfl, List.forall_mem_cons.mpr ⟨rfl, List.forall_mem_cons.mpr ⟨rfl, List.forall_mem_cons.mpr ⟨rfl, List.forall_mem_cons.mpr ⟨rfl, fun _ h9 => absurd h9 List.not_mem_nil⟩⟩⟩⟩⟩⟩⟩⟩⟩)) ?_
        exact LI hq3 (min (q.2 - 31 * g) 31 - (q.1 - 31 * g)) (q.1 - 31 * g) (by omega) (Nat.le_refl _)
      have H68 : q.1 < 31 * g + 31 → X p_ l e_ ({ frames := 0, cells := 0, slots := 0, locals := 0 } : Room) s_ m_ args_ below_ meth_ c_ D A_ 9 0 0 (MQ below_ (va_Qi (fun r (u : Nat) => r = nI (gb f g) ∧ u ≤ J.length ∧ j ≤ u ∧ (∀ i q, i < u → J[i]? = some q → q.2 ≤ 31 * g + 31) ∧ (∀ q, J[u]? = some q → 31 * g + 31 < q.2)) (Bw D A_ (fun u => (mW cA h e0 v0 l0 b0 E V L B rn ns (nI (a + 2 * u)) sn wa wf))) A_) args_ s_ 0 0 A_) [(h, .inr (2, [.ref e0, .ref v0, .int (nI rn), .ref l0, .ref b0, .int (nI ns), .int (nI (a + 2 * x)), .int sn, .int wa, .int wf])), (e0, .inl (cA, 33000, .inl (E))), (v0, .inl (cA, 66000, .inl (V))), (l0, .inl (cA, 200000, .inl (L))), (b0, .inl (cA, 15, .inl (B)))] 68 [(5, .int (nI 1)), (4, .int (nI (gb (mem (J.take x)) g))), (3, .int (nI (31 * g))), (0, .ref h), (1, .int (nI g)), (2, .int (nI (a + 2 * J.length)))] [.int (nI (q.1 - 31 * g))] := by
        intro hq3
        refine x_istore (lv' := [(6, .int (nI (q.1 - 31 * g))), (5, .int (nI 1)), (4, .int (nI (gb (mem (J.take x)) g))), (3, .int (nI (31 * g))), (0, .ref h), (1, .int (nI g)), (2, .int (nI (a + 2 * J.length)))]) C d_M_literal_68 (by decide) rfl ?_
        refine x_aload_n C d_M_literal_70 rfl rfl ?_
        refine x_get C d_M_literal_71 0 rfl rfl i_M 3 (by decide) lk_M_19 rfl rfl ?_
        refine x_aload_n C d_M_literal_74 rfl rfl ?_
        refine x_get C d_M_literal_75 0 rfl rfl i_M 6 (by decide) lk_M_38 rfl rfl ?_
        refine x_iconst (v := (nI (1))) C d_M_literal_78 (by decide) ?_
        refine x_iaddN C d_M_literal_79  ?_
        refine x_iald C d_M_literal_80 3 rfl (by omega) (by omega) ?_
        refine x_top (y := (nI (q.2))) hsq.2 ?_
        refine x_iload_n C d_M_literal_81 rfl rfl ?_
        refine x_bipush (v := (nI (31))) C d_M_literal_82 (by decide) ?_
        refine x_iaddN C d_M_literal_84  ?_
        refine x_icmp_geN (tgt := 104) C d_M_literal_85 (by decide) (by omega) (by omega) (fun c85 => ?_) (fun c85 => ?_)
        · refine x_bipush (v := (nI (31))) C d_M_literal_104 (by decide) ?_
          refine x_top (y := (nI (min (q.2 - 31 * g) 31))) (by congr 1; omega) ?_
          refine x_lv (lv' := [(6, .int (nI (q.1 - 31 * g))), (5, .int (nI 1)), (4, .int (nI (gb (mem (J.take x)) g))), (3, .int (nI (31 * g))), (0, .ref h), (1, .int (nI g)), (2, .int (nI (a + 2 * J.length)))]) (Or.inr (List.forall_mem_cons.mpr ⟨rfl, List.forall_mem_cons.mpr ⟨rfl, List.forall_mem_cons.mpr ⟨rfl, List.forall_mem_cons.mpr ⟨rfl, List.forall_mem_cons.mpr ⟨rfl, List.forall_mem_cons.mpr ⟨rfl, List.forall_mem_cons.mpr ⟨rfl, fun _ h9 => absurd h9 List.not_mem_nil⟩⟩⟩⟩⟩⟩⟩)) ?_
          exact H106 hq3
        · refine x_aload_n C d_M_literal_88 rfl rfl ?_
          refine x_get C d_M_literal_89 0 rfl rfl i_M 3 (by decide) lk_M_19 rfl rfl ?_
          refine x_aload_n C d_M_literal_92 rfl rfl ?_
          refine x_get C d_M_literal_93 0 rfl rfl i_M 6 (by decide) lk_M_38 rfl rfl ?_
          refine x_iconst (v := (nI (1))) C d_M_literal_96 (by decide) ?_
          refine x_iaddN C d_M_literal_97  ?_
          refine x_iald C d_M_literal_98 3 rfl (by omega) (by omega) ?_
          refine x_top (y := (nI (q.2))) hsq.2 ?_
          refine x_iload_n C d_M_literal_99 rfl rfl ?_
          refine x_isubN C d_M_literal_100 (by omega) ?_
          refine x_top (y := (nI (min (q.2 - 31 * g) 31))) (by congr 1; omega) ?_
          refine x_goto (tgt := 106) C d_M_literal_101 (by decide) ?_
          refine x_lv (lv' := [(6, .int (nI (q.1 - 31 * g))), (5, .int (nI 1)), (4, .int (nI (gb (mem (J.take x)) g))), (3, .int (nI (31 * g))), (0, .ref h), (1, .int (nI g)), (2, .int (nI (a + 2 * J.length)))]) (Or.inr (List.forall_mem_cons.mpr ⟨rfl, List.forall_mem_cons.mpr ⟨rfl, List.forall_mem_cons.mpr ⟨rfl, List.forall_mem_cons.mpr ⟨rfl, List.forall_mem_cons.mpr ⟨rfl, List.forall_mem_cons.mpr ⟨rfl, List.forall_mem_cons.mpr ⟨rfl, fun _ h9 => absurd h9 List.not_mem_nil⟩⟩⟩⟩⟩⟩⟩)) ?_
          exact H106 hq3
      refine x_iload C d_M_literal_11 rfl ?_
      refine x_if_eqN (tgt := 181) C d_M_literal_13 (by decide) (by omega) (fun c13 => ?_) (fun c13 => ?_)
      · exact absurd c13 (by omega)
      · refine x_aload_n C d_M_literal_16 rfl rfl ?_
        refine x_get C d_M_literal_17 0 rfl rfl i_M 6 (by decide) lk_M_38 rfl rfl ?_
        refine x_iload_n C d_M_literal_20 rfl rfl ?_
        refine x_icmp_geN (tgt := 181) C d_M_literal_21 (by decide) (by omega) (by omega) (fun c21 => ?_) (fun c21 => ?_)
        · exact absurd c21 (by omega)
        · refine x_aload_n C d_M_literal_24 rfl rfl ?_
          refine x_get C d_M_literal_25 0 rfl rfl i_M 3 (by decide) lk_M_19 rfl rfl ?_
          refine x_aload_n C d_M_literal_28 rfl rfl ?_
          refine x_get C d_M_literal_29 0 rfl rfl i_M 6 (by decide) lk_M_38 rfl rfl ?_
          refine x_iald C d_M_literal_32 3 rfl (by omega) (by omega) ?_
          refine x_top (y := (nI (q.1))) hsq.1 ?_
          refine x_iload_n C d_M_literal_33 rfl rfl ?_
          refine x_bipush (v := (nI (31))) C d_M_literal_34 (by decide) ?_
          refine x_iaddN C d_M_literal_36  ?_
          refine x_icmp_geN (tgt := 181) C d_M_literal_37 (by decide) (by omega) (by omega) (fun c37 => ?_) (fun c37 => ?_)
          · refine x_iload C d_M_literal_181 rfl ?_
            exact x_iret C hr d_M_literal_183 x rfl (⟨by rw [lit_end hJ (hge c37)], by omega, hjx, hlo, fun q2 h2 => by rw [hq] at h2; cases h2; omega⟩)
          · refine x_aload_n C d_M_literal_40 rfl rfl ?_
            refine x_get C d_M_literal_41 0 rfl rfl i_M 3 (by decide) lk_M_19 rfl rfl ?_
            refine x_aload_n C d_M_literal_44 rfl rfl ?_
            refine x_get C d_M_literal_45 0 rfl rfl i_M 6 (by decide) lk_M_38 rfl rfl ?_
            refine x_iald C d_M_literal_48 3 rfl (by omega) (by omega) ?_
            refine x_top (y := (nI (q.1))) hsq.1 ?_
            refine x_iload_n C d_M_literal_49 rfl rfl ?_
            refine x_icmp_leN (tgt := 67) C d_M_literal_50 (by decide) (by omega) (by omega) (fun c50 => ?_) (fun c50 => ?_)
            · refine x_iconst (v := (nI (0))) C d_M_literal_67 (by decide) ?_
              refine x_top (y := (nI (q.1 - 31 * g))) (by congr 1; omega) ?_
              refine x_lv (lv' := [(5, .int (nI 1)), (4, .int (nI (gb (mem (J.take x)) g))), (3, .int (nI (31 * g))), (0, .ref h), (1, .int (nI g)), (2, .int (nI (a + 2 * J.length)))]) (Or.inr (List.forall_mem_cons.mpr ⟨rfl, List.forall_mem_cons.mpr ⟨rfl, List.forall_mem_cons.mpr ⟨rfl, List.forall_mem_cons.mpr ⟨rfl, List.forall_mem_cons.mpr ⟨rfl, List.forall_mem_cons.mpr ⟨rfl, fun _ h9 => absurd h9 List.not_mem_nil⟩⟩⟩⟩⟩⟩)) ?_
              exact H68 c37
            · refine x_aload_n C d_M_literal_53 rfl rfl ?_
              refine x_get C d_M_literal_54 0 rfl rfl i_M 3 (by decide) lk_M_19 rfl rfl ?_
              refine x_aload_n C d_M_literal_57 rfl rfl ?_
              refine x_get C d_M_literal_58 0 rfl rfl i_M 6 (by decide) lk_M_38 rfl rfl ?_
              refine x_iald C d_M_literal_61 3 rfl (by omega) (by omega) ?_
              refine x_top (y := (nI (q.1))) hsq.1 ?_
              refine x_iload_n C d_M_literal_62 rfl rfl ?_
              refine x_isubN C d_M_literal_63 (by omega) ?_
              refine x_goto (tgt := 68) C d_M_literal_64 (by decide) ?_
              refine x_lv (lv' := [(5, .int (nI 1)), (4, .int (nI (gb (mem (J.take x)) g))), (3, .int (nI (31 * g))), (0, .ref h), (1, .int (nI g)), (2, .int (nI (a + 2 * J.length)))]) (Or.inr (List.forall_mem_cons.mpr ⟨rfl, List.forall_mem_cons.mpr ⟨rfl, List.forall_mem_cons.mpr ⟨rfl, List.forall_mem_cons.mpr ⟨rfl, List.forall_mem_cons.mpr ⟨rfl, List.forall_mem_cons.mpr ⟨rfl, fun _ h9 => absurd h9 List.not_mem_nil⟩⟩⟩⟩⟩⟩)) ?_
              exact H68 c37
  refine x_bipush (v := (nI (31))) C d_M_literal_0 (by decide) ?_
  refine x_iload_n C d_M_literal_2 rfl rfl ?_
  refine x_imulN C d_M_literal_3  ?_
  refine x_istore_n (lv' := [(3, .int (nI (31 * g))), (0, .ref h), (1, .int (nI g)), (2, .int (nI (a + 2 * J.length)))]) C d_M_literal_4 rfl (by decide) rfl ?_
  refine x_iconst (v := (nI (0))) C d_M_literal_5 (by decide) ?_
  refine x_top (y := (nI (gb (mem (J.take j)) g))) (by rw [lit_start hb]) ?_
  refine x_istore (lv' := [(4, .int (nI (gb (mem (J.take j)) g))), (3, .int (nI (31 * g))), (0, .ref h), (1, .int (nI g)), (2, .int (nI (a + 2 * J.length)))]) C d_M_literal_6 (by decide) rfl ?_
  refine x_iconst (v := (nI (1))) C d_M_literal_8 (by decide) ?_
  refine x_istore (lv' := [(5, .int (nI 1)), (4, .int (nI (gb (mem (J.take j)) g))), (3, .int (nI (31 * g))), (0, .ref h), (1, .int (nI g)), (2, .int (nI (a + 2 * J.length)))]) C d_M_literal_9 (by decide) rfl ?_
  refine x_lv (lv' := [(5, .int (nI 1)), (4, .int (nI (gb (mem (J.take j)) g))), (3, .int (nI (31 * g))), (0, .ref h), (1, .int (nI g)), (2, .int (nI (a + 2 * J.length)))]) (Or.inr (List.forall_mem_cons.mpr ⟨rfl, List.forall_mem_cons.mpr ⟨rfl, List.forall_mem_cons.mpr ⟨rfl, List.forall_mem_cons.mpr ⟨rfl, List.forall_mem_cons.mpr ⟨rfl, List.forall_mem_cons.mpr ⟨rfl, fun _ h9 => absurd h9 List.not_mem_nil⟩⟩⟩⟩⟩⟩)) ?_
  exact LP (J.length - j) j (by omega) (Nat.le_refl _) (fun i q h1 h2 => by have := hb i q h1 h2; omega)
