/-! the sets of values, out of the runs -/
def fvk (en : Nat → Nat) (vl : Nat → Nat → Nat) (c v : Nat) : Nat → Nat → Bool
  | 0, _ => false
  | k + 1, r => fvk en vl c v k r || ((decide (bnd en k ≤ r) && decide (r < en k)) && decide (vl k c = v))
/-- intervals between bounds of runs -/
def Ik (en : Nat → Nat) (k : Nat) (f : Nat → Bool) (J : List (Nat × Nat)) : Prop := ivs 0 J ∧ (∀ p ∈ J, ∃ i j, i < j ∧ j ≤ k ∧ p.1 = bnd en i ∧ p.2 = bnd en j) ∧ J.length ≤ k ∧ ∀ r, f r = mem J r
theorem bnd_lt {E V : Nat → Int32} {rn : Nat} {en : Nat → Nat} {vl : Nat → Nat → Nat} (h : Rn E V rn en vl) {i : Nat} : ∀ {j : Nat}, i < j → j ≤ rn → bnd en i < bnd en j
  | 0, h1, _ => absurd h1 (Nat.not_lt_zero i)
  | j + 1, h1, h2 => by
    have h3 := (h.2.1 j (by omega)).2.1
    show bnd en i < en j
    by_cases h4 : i = j
    · subst h4; exact h3
    · have := bnd_lt h (i := i) (j := j) (by omega) (by omega)
      omega
theorem bnd_mono {E V : Nat → Int32} {rn : Nat} {en : Nat → Nat} {vl : Nat → Nat → Nat} (h : Rn E V rn en vl) {i j : Nat} (h1 : i ≤ j) (h2 : j ≤ rn) : bnd en i ≤ bnd en j := by
  by_cases h3 : i = j
  · subst h3; exact Nat.le_refl _
  · exact Nat.le_of_lt (bnd_lt h (by omega) h2)
theorem Ik.iv {E V : Nat → Int32} {rn : Nat} {en : Nat → Nat} {vl : Nat → Nat → Nat} (hE : Rn E V rn en vl) {k : Nat} {f : Nat → Bool} {J : List (Nat × Nat)} (hk : k ≤ rn) (h : Ik en k f J) : Iv (bnd en k) f J := ⟨h.1, fun p hp => by
  obtain ⟨i, j, h1, h2, h3, h4⟩ := h.2.1 p hp
  rw [h4]
  exact bnd_mono hE h2 hk, h.2.2.2⟩
theorem lay_skip {en : Nat → Nat} {vl : Nat → Nat → Nat} {c v k : Nat} {J : List (Nat × Nat)} (h : Ik en k (fvk en vl c v k) J) (hv : vl k c ≠ v) : Ik en (k + 1) (fvk en vl c v (k + 1)) J := ⟨h.1, fun p hp => by
  obtain ⟨i, j, h1, h2, h3⟩ := h.2.1 p hp
  exact ⟨i, j, h1, by omega, h3⟩, Nat.le_succ_of_le h.2.2.1, fun r => by
  rw [← h.2.2.2 r]
  simp [fvk, hv]⟩
theorem lay_new {en : Nat → Nat} {vl : Nat → Nat → Nat} {c v k : Nat} {J : List (Nat × Nat)} (h : Ik en k (fvk en vl c v k) J) (hv : vl k c = v) (hk : bnd en k < en k) (hl : ∀ p, J.getLast? = some p → p.2 < bnd en k) : Ik en (k + 1) (fvk en vl c v (k + 1)) (J ++ [(bnd en k, en k)]) := by
  refine ⟨ivs_snoc.mpr ⟨h.1, hk, Nat.zero_le _, hl⟩, fun p hp => ?_, ?_, fun r => ?_⟩
  · rcases List.mem_append.mp hp with hp | hp
    · obtain ⟨i, j, h1, h2, h3⟩ := h.2.1 p hp
      exact ⟨i, j, h1, by omega, h3⟩
    · rw [List.mem_singleton.mp hp]
      exact ⟨k, k + 1, by omega, Nat.le_refl _, rfl, rfl⟩
  · rw [List.length_append, List.length_singleton]
    have := h.2.2.1
    omega
  · rw [mem_app, mem_one, ← h.2.2.2 r]
    simp [fvk, hv]
theorem lay_ext {en : Nat → Nat} {vl : Nat → Nat → Nat} {c v k : Nat} {J : List (Nat × Nat)} {p : Nat × Nat} (h : Ik en k (fvk en vl c v k) (J ++ [p])) (hv : vl k c = v) (hk : bnd en k < en k) (hl : p.2 = bnd en k) : Ik en (k + 1) (fvk en vl c v (k + 1)) (J ++ [(p.1, en k)]) := by
  have h0 := ivs_snoc.mp h.1
  refine ⟨ivs_snoc.mpr ⟨h0.1, by dsimp only; omega, h0.2.2.1, h0.2.2.2⟩, fun q hq => ?_, ?_, fun r => ?_⟩
  · rcases List.mem_append.mp hq with hq | hq
    · obtain ⟨i, j, h1, h2, h3⟩ := h.2.1 q (List.mem_append_left _ hq)
      exact ⟨i, j, h1, by omega, h3⟩
    · rw [List.mem_singleton.mp hq]
      obtain ⟨i, j, h1, h2, h3, h4⟩ := h.2.1 p (by simp)
      exact ⟨i, k + 1, by omega, Nat.le_refl _, h3, rfl⟩
  · have := h.2.2.1
    rw [List.length_append, List.length_singleton] at this ⊢
    omega
  · have h1 := h.2.2.2 r
    rw [mem_app, mem_one] at h1 ⊢
    show (fvk en vl c v k r || _) = _
    rw [h1]
    have h5 : (decide (p.1 ≤ r) && decide (r < en k)) = ((decide (p.1 ≤ r) && decide (r < p.2)) || (decide (bnd en k ≤ r) && decide (r < en k))) := by
      rw [← Bool.decide_and, ← Bool.decide_and, ← Bool.decide_and, ← Bool.decide_or]
      congr 1
      have h6 := h0.2.1
      exact propext ⟨fun q => by omega, fun q => by omega⟩
    dsimp only
    rw [h5]
    simp [hv, Bool.or_assoc]
theorem seg_new {L : Nat → Int32} {a at_ x y : Nat} {J : List (Nat × Nat)} (h : seg L a J) (hat : at_ = a + 2 * J.length) : seg (upd (upd L at_ (nI x)) (at_ + 1) (nI y)) a (J ++ [(x, y)]) := by
  intro i p hp
  by_cases hi : i < J.length
  · rw [List.getElem?_append_left hi] at hp
    have := h i p hp
    rw [pk_un (by omega), pk_un (by omega), pk_un (by omega), pk_un (by omega)]
    exact this
  · rw [List.getElem?_append_right (by omega)] at hp
    have h4 : i - J.length < 1 := (List.getElem?_eq_some_iff.mp hp).1
    have h5 : i = J.length := by omega
    subst h5
    rw [Nat.sub_self] at hp
    cases hp
    rw [← hat, pk_un (by omega), pk_us, pk_us]
    exact ⟨rfl, rfl⟩
theorem seg_ext {L : Nat → Int32} {a at_ y : Nat} {J : List (Nat × Nat)} {p : Nat × Nat} (h : seg L a (J ++ [p])) (hat : at_ = a + 2 * (J ++ [p]).length) : seg (upd L (at_ - 1) (nI y)) a (J ++ [(p.1, y)]) := by
  rw [List.length_append, List.length_singleton] at hat
  intro i q hq
  by_cases hi : i < J.length
  · rw [List.getElem?_append_left hi] at hq
    have := h i q (by rw [List.getElem?_append_left hi]; exact hq)
    rw [pk_un (by omega), pk_un (by omega)]
    exact this
  · rw [List.getElem?_append_right (by omega)] at hq
    have h4 : i - J.length < 1 := (List.getElem?_eq_some_iff.mp hq).1
    have h5 : i = J.length := by omega
    subst h5
    rw [Nat.sub_self] at hq
    cases hq
    have := h J.length p (by simp)
    rw [pk_un (by omega), show a + 2 * J.length + 1 = at_ - 1 by omega, pk_us]
    exact ⟨this.1, rfl⟩
theorem seg_last {L : Nat → Int32} {a at_ : Nat} {J : List (Nat × Nat)} {p : Nat × Nat} (h : seg L a (J ++ [p])) (hat : at_ = a + 2 * (J ++ [p]).length) : L (at_ - 1) = nI p.2 := by
  rw [List.length_append, List.length_singleton] at hat
  have := h J.length p (by simp)
  rw [show at_ - 1 = a + 2 * J.length + 1 by omega]
  exact this.2
theorem seg_nil (L : Nat → Int32) (a : Nat) : seg L a [] := fun i p h => by simp at h
set_option maxHeartbeats 4000000 in
theorem c_M_layValue {l : Launch} {D : va_G} {cA : ClassId} {h e0 v0 l0 b0 rn ns : Nat} {E V L B : Nat → Int32} {pl sn wa wf : Int32} {a c v : Nat} {en : Nat → Nat} {vl : Nat → Nat → Nat} (hE : Rn E V rn en vl) (hc : c < 2) (hv : v < 16) (ha : a + 2 * rn + 2 ≤ 200000)  : CtI l D cA y_M_layValue b_M_layValue 7 (some .int) ({ frames := 0, cells := 0, slots := 0, locals := 0 } : Room) [.ref h, .int (nI c), .int (nI v), .int (nI a)] (mW cA h e0 v0 l0 b0 E V L B rn ns pl sn wa wf) (fun r (u : (Nat → Int32) × List (Nat × Nat)) => r = nI (a + 2 * u.2.length) ∧ Ik en rn (fvk en vl c v rn) u.2 ∧ seg u.1 a u.2 ∧ ∀ x, x < a → u.1 x = L x) (fun u => (mW cA h e0 v0 l0 b0 E V (u.1) B rn ns pl sn wa wf)) := by
  refine CtI.start (lv0 := [(0, .ref h), (1, .int (nI c)), (2, .int (nI v)), (3, .int (nI a))]) (by decide) rfl (Nat.le_of_ble_eq_true rfl) ?_
  intro p_ e_ s_ m_ args_ below_ meth_ c_ A_ C hr hin
  have hr0 := hE.1
  have LP : ∀ (d k at_ : Nat) (J : List (Nat × Nat)) (La : Nat → Int32), k + d = rn → at_ = a + 2 * J.length → Ik en k (fvk en vl c v k) J → seg La a J → (∀ x, x < a → La x = L x) → X p_ l e_ ({ frames := 0, cells := 0, slots := 0, locals := 0 } : Room) s_ m_ args_ below_ meth_ c_ D A_ 7 0 0 (MQ below_ (va_Qi (fun r (u : (Nat → Int32) × List (Nat × Nat)) => r = nI (a + 2 * u.2.length) ∧ Ik en rn (fvk en vl c v rn) u.2 ∧ seg u.1 a u.2 ∧ ∀ x, x < a → u.1 x = L x) (Bw D A_ (fun u => (mW cA h e0 v0 l0 b0 E V (u.1) B rn ns pl sn wa wf))) A_) args_ s_ 0 0 A_) [(h, .inr (2, [.ref e0, .ref v0, .int (nI rn), .ref l0, .ref b0, .int (nI ns), .int pl, .int sn, .int wa, .int wf])), (e0, .inl (cA, 33000, .inl (E))), (v0, .inl (cA, 66000, .inl (V))), (l0, .inl (cA, 200000, .inl (La))), (b0, .inl (cA, 15, .inl (B)))] 9 [(6, .int (nI k)), (5, .int (nI (bnd en k))), (4, .int (nI at_)), (0, .ref h), (1, .int (nI c)), (2, .int (nI v)), (3, .int (nI a))] [] := by
    intro d
    induction d with
    | zero =>
      intro k at_ J La hk hat hI hsg hlo
      have hk2 : k = rn := by omega
      subst hk2
      have hJl := hI.2.2.1
      refine x_iload C d_M_layValue_9 rfl ?_
      refine x_aload_n C d_M_layValue_11 rfl rfl ?_
      refine x_get C d_M_layValue_12 0 rfl rfl i_M 2 (by decide) lk_M_25 rfl rfl ?_
      refine x_icmp_geN (tgt := 115) C d_M_layValue_15 (by decide) (by omega) (by omega) (fun c15 => ?_) (fun c15 => ?_)
      · refine x_iload C d_M_layValue_115 rfl ?_
        exact x_iret C hr d_M_layValue_117 (La, J) rfl (⟨by rw [hat], hI, hsg, hlo⟩)
      · exact absurd c15 (by omega)
    | succ d ih =>
      intro k at_ J La hk hat hI hsg hlo
      have hJl := hI.2.2.1
      have hEk := hE.2.1 k (by omega)
      have hVk := hE.2.2 k c (by omega) hc
      have hbk := bnd_le hE k (by omega)
      rcases List.eq_nil_or_concat J with rfl | ⟨J0, p, rfl⟩
      · have hat2 : at_ = a := by simpa using hat
        refine x_iload C d_M_layValue_9 rfl ?_
        refine x_aload_n C d_M_layValue_11 rfl rfl ?_
        refine x_get C d_M_layValue_12 0 rfl rfl i_M 2 (by decide) lk_M_25 rfl rfl ?_
        refine x_icmp_geN (tgt := 115) C d_M_layValue_15 (by decide) (by omega) (by omega) (fun c15 => ?_) (fun c15 => ?_)
        · exact absurd c15 (by omega)
        · refine x_aload_n C d_M_layValue_18 rfl rfl ?_
          refine x_get C d_M_layValue_19 0 rfl rfl i_M 1 (by decide) lk_M_15 rfl rfl ?_
          refine x_iconst (v := (nI (2))) C d_M_layValue_22 (by decide) ?_
          refine x_iload C d_M_layValue_23 rfl ?_
          refine x_imulN C d_M_layValue_25  ?_
          refine x_iload_n C d_M_layValue_26 rfl rfl ?_
          refine x_iaddN C d_M_layValue_27  ?_
          refine x_iald C d_M_layValue_28 2 rfl (by omega) (by omega) ?_
          refine x_top (y := (nI (vl k c))) hVk.1 ?_
          refine x_iload_n C d_M_layValue_29 rfl rfl ?_
          refine x_icmp_neN (tgt := 100) C d_M_layValue_30 (by decide) (by omega) (by omega) (fun c30 => ?_) (fun c30 => ?_)
          · refine x_aload_n C d_M_layValue_100 rfl rfl ?_
            refine x_get C d_M_layValue_101 0 rfl rfl i_M 0 (by decide) lk_M_8 rfl rfl ?_
            refine x_iload C d_M_layValue_104 rfl ?_
            refine x_iald C d_M_layValue_106 1 rfl (by omega) (by omega) ?_
            refine x_top (y := (nI (en k))) hEk.1 ?_
            refine x_istore (lv' := [(5, .int (nI (en k))), (6, .int (nI k)), (4, .int (nI at_)), (0, .ref h), (1, .int (nI c)), (2, .int (nI v)), (3, .int (nI a))]) C d_M_layValue_107 (by decide) rfl ?_
            refine x_iincN (lv' := [(6, .int (nI (k + 1))), (5, .int (nI (en k))), (4, .int (nI at_)), (0, .ref h), (1, .int (nI c)), (2, .int (nI v)), (3, .int (nI a))]) C d_M_layValue_109 rfl (by decide) rfl ?_
            refine x_goto (tgt := 9) C d_M_layValue_112 (by decide) ?_
            refine x_lv (lv' := [(6, .int (nI (k + 1))), (5, .int (nI (en k))), (4, .int (nI at_)), (0, .ref h), (1, .int (nI c)), (2, .int (nI v)), (3, .int (nI a))]) (Or.inr (List.forall_mem_cons.mpr ⟨rfl, List.forall_mem_cons.mpr ⟨rfl, List.forall_mem_cons.mpr ⟨rfl, List.forall_mem_cons.mpr ⟨rfl, List.forall_mem_cons.mpr ⟨rfl, List.forall_mem_cons.mpr ⟨rfl, List.forall_mem_cons.mpr ⟨rfl, fun _ h9 => absurd h9 List.not_mem_nil⟩⟩⟩⟩⟩⟩⟩)) ?_
            exact ih (k + 1) (at_) ([]) (La) (by omega) hat (lay_skip hI c30) hsg hlo
          · refine x_iload C d_M_layValue_33 rfl ?_
            refine x_iload_n C d_M_layValue_35 rfl rfl ?_
            refine x_icmp_leN (tgt := 72) C d_M_layValue_36 (by decide) (by omega) (by omega) (fun c36 => ?_) (fun c36 => ?_)
            · refine x_aload_n C d_M_layValue_72 rfl rfl ?_
              refine x_get C d_M_layValue_73 0 rfl rfl i_M 3 (by decide) lk_M_19 rfl rfl ?_
              refine x_iload C d_M_layValue_76 rfl ?_
              refine x_iload C d_M_layValue_78 rfl ?_
              refine x_iast (ws' := [(h, .inr (2, [.ref e0, .ref v0, .int (nI rn), .ref l0, .ref b0, .int (nI ns), .int pl, .int sn, .int wa, .int wf])), (e0, .inl (cA, 33000, .inl (E))), (v0, .inl (cA, 66000, .inl (V))), (l0, .inl (cA, 200000, .inl (upd La (at_) (nI (bnd en k))))), (b0, .inl (cA, 15, .inl (B)))]) C d_M_layValue_80 3 rfl (by omega) (by omega) rfl ?_
              refine x_aload_n C d_M_layValue_81 rfl rfl ?_
              refine x_get C d_M_layValue_82 0 rfl rfl i_M 3 (by decide) lk_M_19 rfl rfl ?_
              refine x_iload C d_M_layValue_85 rfl ?_
              refine x_iconst (v := (nI (1))) C d_M_layValue_87 (by decide) ?_
              refine x_iaddN C d_M_layValue_88  ?_
              refine x_aload_n C d_M_layValue_89 rfl rfl ?_
              refine x_get C d_M_layValue_90 0 rfl rfl i_M 0 (by decide) lk_M_8 rfl rfl ?_
              refine x_iload C d_M_layValue_93 rfl ?_
              refine x_iald C d_M_layValue_95 1 rfl (by omega) (by omega) ?_
              refine x_top (y := (nI (en k))) hEk.1 ?_
              refine x_iast (ws' := [(h, .inr (2, [.ref e0, .ref v0, .int (nI rn), .ref l0, .ref b0, .int (nI ns), .int pl, .int sn, .int wa, .int wf])), (e0, .inl (cA, 33000, .inl (E))), (v0, .inl (cA, 66000, .inl (V))), (l0, .inl (cA, 200000, .inl (upd (upd La (at_) (nI (bnd en k))) (at_ + 1) (nI (en k))))), (b0, .inl (cA, 15, .inl (B)))]) C d_M_layValue_96 3 rfl (by omega) (by omega) rfl ?_
              refine x_iinc (v := (nI (at_ + 2))) (lv' := [(4, .int (nI (at_ + 2))), (6, .int (nI k)), (5, .int (nI (bnd en k))), (0, .ref h), (1, .int (nI c)), (2, .int (nI v)), (3, .int (nI a))]) C d_M_layValue_97 rfl (nI_add _ 2) (by decide) rfl ?_
              refine x_aload_n C d_M_layValue_100 rfl rfl ?_
              refine x_get C d_M_layValue_101 0 rfl rfl i_M 0 (by decide) lk_M_8 rfl rfl ?_
              refine x_iload C d_M_layValue_104 rfl ?_
              refine x_iald C d_M_layValue_106 1 rfl (by omega) (by omega) ?_
              refine x_top (y := (nI (en k))) hEk.1 ?_
              refine x_istore (lv' := [(5, .int (nI (en k))), (4, .int (nI (at_ + 2))), (6, .int (nI k)), (0, .ref h), (1, .int (nI c)), (2, .int (nI v)), (3, .int (nI a))]) C d_M_layValue_107 (by decide) rfl ?_
              refine x_iincN (lv' := [(6, .int (nI (k + 1))), (5, .int (nI (en k))), (4, .int (nI (at_ + 2))), (0, .ref h), (1, .int (nI c)), (2, .int (nI v)), (3, .int (nI a))]) C d_M_layValue_109 rfl (by decide) rfl ?_
              refine x_goto (tgt := 9) C d_M_layValue_112 (by decide) ?_
              refine x_lv (lv' := [(6, .int (nI (k + 1))), (5, .int (nI (en k))), (4, .int (nI (at_ + 2))), (0, .ref h), (1, .int (nI c)), (2, .int (nI v)), (3, .int (nI a))]) (Or.inr (List.forall_mem_cons.mpr ⟨rfl, List.forall_mem_cons.mpr ⟨rfl, List.forall_mem_cons.mpr ⟨rfl, List.forall_mem_cons.mpr ⟨rfl, List.forall_mem_cons.mpr ⟨rfl, List.forall_mem_cons.mpr ⟨rfl, List.forall_mem_cons.mpr ⟨rfl, fun _ h9 => absurd h9 List.not_mem_nil⟩⟩⟩⟩⟩⟩⟩)) ?_
              exact ih (k + 1) (at_ + 2) ([(bnd en k, en k)]) (upd (upd La at_ (nI (bnd en k))) (at_ + 1) (nI (en k))) (by omega) (by simp; omega) (lay_new hI c30 hEk.2.1 (fun p h9 => by simp at h9)) (seg_new hsg hat) (fun x hx => by rw [pk_un (by omega), pk_un (by omega)]; exact hlo x hx)
            · exact absurd c36 (by omega)
      · rw [List.concat_eq_append] at *
        have hat2 : at_ = a + 2 * J0.length + 2 := by rw [hat, List.length_append, List.length_singleton]; omega
        rw [List.length_append, List.length_singleton] at hJl
        have hp1 : p.2 ≤ bnd en k := by
          obtain ⟨i, j, h1, h2, h3, h4⟩ := hI.2.1 p (by simp)
          rw [h4]
          exact bnd_mono hE h2 (by omega)
        refine x_iload C d_M_layValue_9 rfl ?_
        refine x_aload_n C d_M_layValue_11 rfl rfl ?_
        refine x_get C d_M_layValue_12 0 rfl rfl i_M 2 (by decide) lk_M_25 rfl rfl ?_
        refine x_icmp_geN (tgt := 115) C d_M_layValue_15 (by decide) (by omega) (by omega) (fun c15 => ?_) (fun c15 => ?_)
        · exact absurd c15 (by omega)
        · refine x_aload_n C d_M_layValue_18 rfl rfl ?_
          refine x_get C d_M_layValue_19 0 rfl rfl i_M 1 (by decide) lk_M_15 rfl rfl ?_
          refine x_iconst (v := (nI (2))) C d_M_layValue_22 (by decide) ?_
          refine x_iload C d_M_layValue_23 rfl ?_
          refine x_imulN C d_M_layValue_25  ?_
          refine x_iload_n C d_M_layValue_26 rfl rfl ?_
          refine x_iaddN C d_M_layValue_27  ?_
          refine x_iald C d_M_layValue_28 2 rfl (by omega) (by omega) ?_
          refine x_top (y := (nI (vl k c))) hVk.1 ?_
          refine x_iload_n C d_M_layValue_29 rfl rfl ?_
          refine x_icmp_neN (tgt := 100) C d_M_layValue_30 (by decide) (by omega) (by omega) (fun c30 => ?_) (fun c30 => ?_)
          · refine x_aload_n C d_M_layValue_100 rfl rfl ?_
            refine x_get C d_M_layValue_101 0 rfl rfl i_M 0 (by decide) lk_M_8 rfl rfl ?_
            refine x_iload C d_M_layValue_104 rfl ?_
            refine x_iald C d_M_layValue_106 1 rfl (by omega) (by omega) ?_
            refine x_top (y := (nI (en k))) hEk.1 ?_
            refine x_istore (lv' := [(5, .int (nI (en k))), (6, .int (nI k)), (4, .int (nI at_)), (0, .ref h), (1, .int (nI c)), (2, .int (nI v)), (3, .int (nI a))]) C d_M_layValue_107 (by decide) rfl ?_
            refine x_iincN (lv' := [(6, .int (nI (k + 1))), (5, .int (nI (en k))), (4, .int (nI at_)), (0, .ref h), (1, .int (nI c)), (2, .int (nI v)), (3, .int (nI a))]) C d_M_layValue_109 rfl (by decide) rfl ?_
            refine x_goto (tgt := 9) C d_M_layValue_112 (by decide) ?_
            refine x_lv (lv' := [(6, .int (nI (k + 1))), (5, .int (nI (en k))), (4, .int (nI at_)), (0, .ref h), (1, .int (nI c)), (2, .int (nI v)), (3, .int (nI a))]) (Or.inr (List.forall_mem_cons.mpr ⟨rfl, List.forall_mem_cons.mpr ⟨rfl, List.forall_mem_cons.mpr ⟨rfl, List.forall_mem_cons.mpr ⟨rfl, List.forall_mem_cons.mpr ⟨rfl, List.forall_mem_cons.mpr ⟨rfl, List.forall_mem_cons.mpr ⟨rfl, fun _ h9 => absurd h9 List.not_mem_nil⟩⟩⟩⟩⟩⟩⟩)) ?_
            exact ih (k + 1) (at_) (J0 ++ [p]) (La) (by omega) hat (lay_skip hI c30) hsg hlo
          · refine x_iload C d_M_layValue_33 rfl ?_
            refine x_iload_n C d_M_layValue_35 rfl rfl ?_
            refine x_icmp_leN (tgt := 72) C d_M_layValue_36 (by decide) (by omega) (by omega) (fun c36 => ?_) (fun c36 => ?_)
            · exact absurd c36 (by omega)
            · refine x_aload_n C d_M_layValue_39 rfl rfl ?_
              refine x_get C d_M_layValue_40 0 rfl rfl i_M 3 (by decide) lk_M_19 rfl rfl ?_
              refine x_iload C d_M_layValue_43 rfl ?_
              refine x_iconst (v := (nI (1))) C d_M_layValue_45 (by decide) ?_
              refine x_isubN C d_M_layValue_46 (by omega) ?_
              refine x_iald C d_M_layValue_47 3 rfl (by omega) (by omega) ?_
              refine x_top (y := (nI (p.2))) (seg_last hsg hat) ?_
              refine x_iload C d_M_layValue_48 rfl ?_
              refine x_icmp_neN (tgt := 72) C d_M_layValue_50 (by decide) (by omega) (by omega) (fun c50 => ?_) (fun c50 => ?_)
              · refine x_aload_n C d_M_layValue_72 rfl rfl ?_
                refine x_get C d_M_layValue_73 0 rfl rfl i_M 3 (by decide) lk_M_19 rfl rfl ?_
                refine x_iload C d_M_layValue_76 rfl ?_
                refine x_iload C d_M_layValue_78 rfl ?_
                refine x_iast (ws' := [(h, .inr (2, [.ref e0, .ref v0, .int (nI rn), .ref l0, .ref b0, .int (nI ns), .int pl, .int sn, .int wa, .int wf])), (e0, .inl (cA, 33000, .inl (E))), (v0, .inl (cA, 66000, .inl (V))), (l0, .inl (cA, 200000, .inl (upd La (at_) (nI (bnd en k))))), (b0, .inl (cA, 15, .inl (B)))]) C d_M_layValue_80 3 rfl (by omega) (by omega) rfl ?_
                refine x_aload_n C d_M_layValue_81 rfl rfl ?_
                refine x_get C d_M_layValue_82 0 rfl rfl i_M 3 (by decide) lk_M_19 rfl rfl ?_
                refine x_iload C d_M_layValue_85 rfl ?_
                refine x_iconst (v := (nI (1))) C d_M_layValue_87 (by decide) ?_
                refine x_iaddN C d_M_layValue_88  ?_
                refine x_aload_n C d_M_layValue_89 rfl rfl ?_
                refine x_get C d_M_layValue_90 0 rfl rfl i_M 0 (by decide) lk_M_8 rfl rfl ?_
                refine x_iload C d_M_layValue_93 rfl ?_
                refine x_iald C d_M_layValue_95 1 rfl (by omega) (by omega) ?_
                refine x_top (y := (nI (en k))) hEk.1 ?_
                refine x_iast (ws' := [(h, .inr (2, [.ref e0, .ref v0, .int (nI rn), .ref l0, .ref b0, .int (nI ns), .int pl, .int sn, .int wa, .int wf])), (e0, .inl (cA, 33000, .inl (E))), (v0, .inl (cA, 66000, .inl (V))), (l0, .inl (cA, 200000, .inl (upd (upd La (at_) (nI (bnd en k))) (at_ + 1) (nI (en k))))), (b0, .inl (cA, 15, .inl (B)))]) C d_M_layValue_96 3 rfl (by omega) (by omega) rfl ?_
                refine x_iinc (v := (nI (at_ + 2))) (lv' := [(4, .int (nI (at_ + 2))), (6, .int (nI k)), (5, .int (nI (bnd en k))), (0, .ref h), (1, .int (nI c)), (2, .int (nI v)), (3, .int (nI a))]) C d_M_layValue_97 rfl (nI_add _ 2) (by decide) rfl ?_
                refine x_aload_n C d_M_layValue_100 rfl rfl ?_
                refine x_get C d_M_layValue_101 0 rfl rfl i_M 0 (by decide) lk_M_8 rfl rfl ?_
                refine x_iload C d_M_layValue_104 rfl ?_
                refine x_iald C d_M_layValue_106 1 rfl (by omega) (by omega) ?_
                refine x_top (y := (nI (en k))) hEk.1 ?_
                refine x_istore (lv' := [(5, .int (nI (en k))), (4, .int (nI (at_ + 2))), (6, .int (nI k)), (0, .ref h), (1, .int (nI c)), (2, .int (nI v)), (3, .int (nI a))]) C d_M_layValue_107 (by decide) rfl ?_
                refine x_iincN (lv' := [(6, .int (nI (k + 1))), (5, .int (nI (en k))), (4, .int (nI (at_ + 2))), (0, .ref h), (1, .int (nI c)), (2, .int (nI v)), (3, .int (nI a))]) C d_M_layValue_109 rfl (by decide) rfl ?_
                refine x_goto (tgt := 9) C d_M_layValue_112 (by decide) ?_
                refine x_lv (lv' := [(6, .int (nI (k + 1))), (5, .int (nI (en k))), (4, .int (nI (at_ + 2))), (0, .ref h), (1, .int (nI c)), (2, .int (nI v)), (3, .int (nI a))]) (Or.inr (List.forall_mem_cons.mpr ⟨rfl, List.forall_mem_cons.mpr ⟨rfl, List.forall_mem_cons.mpr ⟨rfl, List.forall_mem_cons.mpr ⟨rfl, List.forall_mem_cons.mpr ⟨rfl, List.forall_mem_cons.mpr ⟨rfl, List.forall_mem_cons.mpr ⟨rfl, fun _ h9 => absurd h9 List.not_mem_nil⟩⟩⟩⟩⟩⟩⟩)) ?_
                exact ih (k + 1) (at_ + 2) (J0 ++ [p] ++ [(bnd en k, en k)]) (upd (upd La at_ (nI (bnd en k))) (at_ + 1) (nI (en k))) (by omega) (by rw [List.length_append, List.length_singleton]; omega) (lay_new hI c30 hEk.2.1 (fun p2 h9 => by rw [List.getLast?_concat] at h9; cases h9; omega)) (seg_new hsg hat) (fun x hx => by rw [pk_un (by omega), pk_un (by omega)]; exact hlo x hx)
              · refine x_aload_n C d_M_layValue_53 rfl rfl ?_
                refine x_get C d_M_layValue_54 0 rfl rfl i_M 3 (by decide) lk_M_19 rfl rfl ?_
                refine x_iload C d_M_layValue_57 rfl ?_
                refine x_iconst (v := (nI (1))) C d_M_layValue_59 (by decide) ?_
                refine x_isubN C d_M_layValue_60 (by omega) ?_
                refine x_aload_n C d_M_layValue_61 rfl rfl ?_
                refine x_get C d_M_layValue_62 0 rfl rfl i_M 0 (by decide) lk_M_8 rfl rfl ?_
                refine x_iload C d_M_layValue_65 rfl ?_
                refine x_iald C d_M_layValue_67 1 rfl (by omega) (by omega) ?_
                refine x_top (y := (nI (en k))) hEk.1 ?_
                refine x_iast (ws' := [(h, .inr (2, [.ref e0, .ref v0, .int (nI rn), .ref l0, .ref b0, .int (nI ns), .int pl, .int sn, .int wa, .int wf])), (e0, .inl (cA, 33000, .inl (E))), (v0, .inl (cA, 66000, .inl (V))), (l0, .inl (cA, 200000, .inl (upd La (at_ - 1) (nI (en k))))), (b0, .inl (cA, 15, .inl (B)))]) C d_M_layValue_68 3 rfl (by omega) (by omega) rfl ?_
                refine x_goto (tgt := 100) C d_M_layValue_69 (by decide) ?_
                refine x_aload_n C d_M_layValue_100 rfl rfl ?_
                refine x_get C d_M_layValue_101 0 rfl rfl i_M 0 (by decide) lk_M_8 rfl rfl ?_
                refine x_iload C d_M_layValue_104 rfl ?_
                refine x_iald C d_M_layValue_106 1 rfl (by omega) (by omega) ?_
                refine x_top (y := (nI (en k))) hEk.1 ?_
                refine x_istore (lv' := [(5, .int (nI (en k))), (6, .int (nI k)), (4, .int (nI at_)), (0, .ref h), (1, .int (nI c)), (2, .int (nI v)), (3, .int (nI a))]) C d_M_layValue_107 (by decide) rfl ?_
                refine x_iincN (lv' := [(6, .int (nI (k + 1))), (5, .int (nI (en k))), (4, .int (nI at_)), (0, .ref h), (1, .int (nI c)), (2, .int (nI v)), (3, .int (nI a))]) C d_M_layValue_109 rfl (by decide) rfl ?_
                refine x_goto (tgt := 9) C d_M_layValue_112 (by decide) ?_
                refine x_lv (lv' := [(6, .int (nI (k + 1))), (5, .int (nI (en k))), (4, .int (nI at_)), (0, .ref h), (1, .int (nI c)), (2, .int (nI v)), (3, .int (nI a))]) (Or.inr (List.forall_mem_cons.mpr ⟨rfl, List.forall_mem_cons.mpr ⟨rfl, List.forall_mem_cons.mpr ⟨rfl, List.forall_mem_cons.mpr ⟨rfl, List.forall_mem_cons.mpr ⟨rfl, List.forall_mem_cons.mpr ⟨rfl, List.forall_mem_cons.mpr ⟨rfl, fun _ h9 => absurd h9 List.not_mem_nil⟩⟩⟩⟩⟩⟩⟩)) ?_
                exact ih (k + 1) (at_) (J0 ++ [(p.1, en k)]) (upd La (at_ - 1) (nI (en k))) (by omega) (by rw [hat, List.length_append, List.length_append]; rfl) (lay_ext hI c30 hEk.2.1 c50) (seg_ext hsg hat) (fun x hx => by rw [pk_un (by omega)]; exact hlo x hx)
  refine x_iload_n C d_M_layValue_0 rfl rfl ?_
  refine x_istore (lv' := [(4, .int (nI a)), (0, .ref h), (1, .int (nI c)), (2, .int (nI v)), (3, .int (nI a))]) C d_M_layValue_1 (by decide) rfl ?_
  refine x_iconst (v := (nI (0))) C d_M_layValue_3 (by decide) ?_
  refine x_istore (lv' := [(5, .int (nI 0)), (4, .int (nI a)), (0, .ref h), (1, .int (nI c)), (2, .int (nI v)), (3, .int (nI a))]) C d_M_layValue_4 (by decide) rfl ?_
  refine x_iconst (v := (nI (0))) C d_M_layValue_6 (by decide) ?_
  refine x_istore (lv' := [(6, .int (nI 0)), (5, .int (nI 0)), (4, .int (nI a)), (0, .ref h), (1, .int (nI c)), (2, .int (nI v)), (3, .int (nI a))]) C d_M_layValue_7 (by decide) rfl ?_
  refine x_lv (lv' := [(6, .int (nI 0)), (5, .int (nI 0)), (4, .int (nI a)), (0, .ref h), (1, .int (nI c)), (2, .int (nI v)), (3, .int (nI a))]) (Or.inr (List.forall_mem_cons.mpr ⟨rfl, List.forall_mem_cons.mpr ⟨rfl, List.forall_mem_cons.mpr ⟨rfl, List.forall_mem_cons.mpr ⟨rfl, List.forall_mem_cons.mpr ⟨rfl, List.forall_mem_cons.mpr ⟨rfl, List.forall_mem_cons.mpr ⟨rfl, fun _ h9 => absurd h9 List.not_mem_nil⟩⟩⟩⟩⟩⟩⟩)) ?_
  exact LP rn 0 a [] L (by omega) rfl ⟨trivial, fun p hp => by simp at hp, Nat.le_refl _, fun r => rfl⟩ (seg_nil L a) (fun _ _ => rfl)
