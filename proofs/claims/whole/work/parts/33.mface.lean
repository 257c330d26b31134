/-! the reference's answers -/
def FM (en : Nat → Nat) (vl : Nat → Nat → Nat) (rn v : Nat) : Nat → Bool := fvk en vl (v / 16) (v % 16) rn
def sI : List (Nat × Nat) → Nat
  | [] => 0
  | p :: J => (p.2 - p.1) + sI J
theorem sI_snoc (p : Nat × Nat) : ∀ J, sI (J ++ [p]) = sI J + (p.2 - p.1)
  | [] => by simp [sI]
  | q :: J => by
    show (q.2 - q.1) + sI (J ++ [p]) = (q.2 - q.1) + sI J + _
    rw [sI_snoc p J]
    omega
theorem cn_congr {f g : Nat → Bool} : ∀ {n : Nat}, (∀ r, r < n → f r = g r) → cn f n = cn g n
  | 0, _ => rfl
  | n + 1, h => by
    show cn f n + (f n).toNat = cn g n + (g n).toNat
    rw [cn_congr (n := n) (fun r hr => h r (by omega)), h n (by omega)]
theorem cn_true {f : Nat → Bool} {a : Nat} : ∀ {d : Nat}, (∀ r, a ≤ r → r < a + d → f r = true) → cn f (a + d) = cn f a + d
  | 0, _ => rfl
  | d + 1, h => by
    show cn f (a + d) + (f (a + d)).toNat = _
    rw [cn_true (d := d) (fun r h1 h2 => h r h1 (by omega)), h (a + d) (by omega) (by omega)]
    rfl
theorem cn_sI : ∀ (k : Nat) (J : List (Nat × Nat)) (n : Nat), J.length = k → ivs 0 J → (∀ p ∈ J, p.2 ≤ n) → cn (mem J) n = sI J
  | 0, J, n, h, _, _ => by
    rw [List.eq_nil_of_length_eq_zero h]
    have h0 : sup 0 (mem []) := fun r _ => rfl
    have := cn_sup h0 n
    rw [Nat.zero_add] at this
    rw [this]
    rfl
  | k + 1, J, n, h, hi, hb => by
    rcases List.eq_nil_or_concat J with rfl | ⟨J0, p, rfl⟩
    · cases h
    · rw [List.concat_eq_append] at *
      rw [List.length_append, List.length_singleton] at h
      have h0 := ivs_snoc.mp hi
      have h1 : ∀ q ∈ J0, q.2 < p.1 := by
        intro q hq
        obtain ⟨i, hi2⟩ := List.getElem?_of_mem hq
        have hl : i < J0.length := (List.getElem?_eq_some_iff.mp hi2).1
        exact ivs_two hi (show i < J0.length by omega) (by rw [List.getElem?_append_left hl]; exact hi2) (by simp)
      have h2 := cn_sI k J0 p.1 (by omega) h0.1 (fun q hq => Nat.le_of_lt (h1 q hq))
      have h3 : cn (mem (J0 ++ [p])) p.1 = cn (mem J0) p.1 := cn_congr fun r hr => by
        have : ¬ p.1 ≤ r := by omega
        rw [mem_app, mem_one]
        simp [this]
      have h4 : cn (mem (J0 ++ [p])) (p.1 + (p.2 - p.1)) = cn (mem (J0 ++ [p])) p.1 + (p.2 - p.1) := cn_true fun r a1 a2 => by
        have b2 : r < p.2 := by omega
        rw [mem_app, mem_one]
        simp [a1, b2]
      have h5 := hb p (by simp)
      have h6 : sup p.2 (mem (J0 ++ [p])) := fun r hr => by
        rw [mem_false]
        intro q hq
        rcases List.mem_append.mp hq with hq | hq
        · have := h1 q hq
          have := h0.2.1
          omega
        · rw [List.mem_singleton.mp hq]
          omega
      have h7 := cn_sup h6 (n - p.2)
      have hp := h0.2.1
      rw [show p.2 + (n - p.2) = n by omega] at h7
      rw [show p.1 + (p.2 - p.1) = p.2 by omega] at h4
      rw [h7, h4, h3, h2, sI_snoc]
theorem Iv.count {n : Nat} {f : Nat → Bool} {J : List (Nat × Nat)} (h : Iv n f J) : sI J = cn f n := by
  rw [← cn_sI J.length J n rfl h.1 h.2.1]
  exact cn_congr fun r _ => (h.2.2 r).symm
theorem fst_uni {f : Nat → Bool} {row : Nat} {r1 r2 : Int32} (h1 : fst f row r1) (h2 : fst f row r2) : r1 = r2 := by
  rcases h1 with ⟨x, a1, a2, a3, rfl⟩ | ⟨a1, rfl⟩ <;> rcases h2 with ⟨y, b1, b2, b3, rfl⟩ | ⟨b1, rfl⟩
  · congr 1
    rcases Nat.lt_trichotomy x y with h | h | h
    · rw [b3 x a1 h] at a2; cases a2
    · exact h
    · rw [a3 y b1 h] at b2; cases b2
  · rw [b1 x a1] at a2; cases a2
  · rw [a1 y b1] at b2; cases b2
  · rfl
theorem aft_at {n : Nat} {f : Nat → Bool} {J : List (Nat × Nat)} {i row : Nat} {q : Nat × Nat} (h : Iv n f J) (hq : J[i]? = some q) (hlo : ∀ k p, k < i → J[k]? = some p → p.2 ≤ row) (h2 : row < q.2) : fst f row (nI (max q.1 row)) := by
  have hq1 := ivs_at h.1 hq
  refine Or.inl ⟨max q.1 row, by omega, f_in h hq (by omega) (by omega), fun y h3 h4 => ?_, rfl⟩
  exact f_gap (j := i) h (fun k p h5 h6 => Nat.le_trans (hlo k p h5 h6) h3) (fun p h6 => by rw [hq] at h6; cases h6; omega)
theorem aft_none {n : Nat} {f : Nat → Bool} {J : List (Nat × Nat)} {row : Nat} (h : Iv n f J) (hlo : ∀ (k : Nat) (p : Nat × Nat), J[k]? = some p → p.2 ≤ row) : fst f row (-1) := by
  refine Or.inr ⟨fun y h3 => ?_, rfl⟩
  exact f_gap (j := J.length) h (fun k p _ h6 => Nat.le_trans (hlo k p h6) h3) (fun p h6 => absurd (List.getElem?_eq_some_iff.mp h6).1 (Nat.lt_irrefl _))
set_option maxHeartbeats 4000000 in
theorem c_M_room {l : Launch} {D : va_G} {cA : ClassId} {h e0 v0 l0 b0 rn ns : Nat} {E V L B : Nat → Int32} {pl sn wa wf : Int32} {en : Nat → Nat} {vl : Nat → Nat → Nat} (hE : Rn E V rn en vl) {n : Nat} {st : List ((Nat → Bool) × List (Nat × Nat))} (hn : bnd en rn = n) (hO : Ok en rn st) (hL : Hs 200000 15 L B (iS st)) (hns : st.length = ns) (h13 : st.length ≤ 12)  : CtI l D cA y_M_room b_M_room 5 (some .int) ({ frames := 2, cells := 0, slots := 0, locals := 55 } : Room) [.ref h] (mW cA h e0 v0 l0 b0 E V L B rn ns pl sn wa wf) (fun r (u : ((Nat → Int32) × (Int32 × Int32 × Int32 × Int32))) => r = nI (tot (cS n (FM en vl rn) 32)) ∧ Hs 200000 15 u.1 B (iS st)) (fun u => (mW cA h e0 v0 l0 b0 E V (u.1) B rn ns (u.2.1) (u.2.2.1) (u.2.2.2.1) (u.2.2.2.2))) := by
  refine CtI.start (lv0 := [(0, .ref h)]) (by decide) rfl (Nat.le_of_ble_eq_true rfl) ?_
  intro p_ e_ s_ m_ args_ below_ meth_ c_ A_ C hr hin
  have hnm := hL.nums
  rw [iS_len] at hnm
  have hsm := iS_small hE hO (by omega)
  have hr0 := hE.1
  have hn2 : n ≤ 1000000 := by rw [← hn]; exact bnd_le hE rn (Nat.le_refl _)
  have htop : B ns = nI (tot (iS st)) := by rw [← hns, ← iS_len st]; exact hL.top
  have LP : ∀ (d v : Nat) (La : Nat → Int32) (y1 y2 y3 y4 : Int32), v + d = 32 → Hs 200000 15 La B (iS st) → X p_ l e_ ({ frames := 2, cells := 0, slots := 0, locals := 55 } : Room) s_ m_ args_ below_ meth_ c_ D A_ 5 0 0 (MQ below_ (va_Qi (fun r (u : ((Nat → Int32) × (Int32 × Int32 × Int32 × Int32))) => r = nI (tot (cS n (FM en vl rn) 32)) ∧ Hs 200000 15 u.1 B (iS st)) (Bw D A_ (fun u => (mW cA h e0 v0 l0 b0 E V (u.1) B rn ns (u.2.1) (u.2.2.1) (u.2.2.2.1) (u.2.2.2.2)))) A_) args_ s_ 0 0 A_) [(h, .inr (2, [.ref e0, .ref v0, .int (nI rn), .ref l0, .ref b0, .int (nI ns), .int y1, .int y2, .int y3, .int y4])), (e0, .inl (cA, 33000, .inl (E))), (v0, .inl (cA, 66000, .inl (V))), (l0, .inl (cA, 200000, .inl (La))), (b0, .inl (cA, 15, .inl (B)))] 14 [(3, .int (nI v)), (2, .int (nI (tot (iS st)))), (1, .int (nI (tot (cS n (FM en vl rn) v)))), (0, .ref h)] [] := by
    intro d
    induction d with
    | zero =>
      intro v La y1 y2 y3 y4 hv hLa
      have hv2 : v = 32 := by omega
      subst hv2
      refine x_iload_n C d_M_room_14 rfl rfl ?_
      refine x_bipush (v := (nI (32))) C d_M_room_15 (by decide) ?_
      refine x_icmp_geN (tgt := 52) C d_M_room_17 (by decide) (by omega) (by omega) (fun c17 => ?_) (fun c17 => ?_)
      · refine x_iload_n C d_M_room_52 rfl rfl ?_
        exact x_iret C hr d_M_room_53 (La, y1, y2, y3, y4) rfl (⟨rfl, hLa⟩)
      · exact absurd c17 (by omega)
    | succ d ih =>
      intro v La y1 y2 y3 y4 hv hLa
      refine x_iload_n C d_M_room_14 rfl rfl ?_
      refine x_bipush (v := (nI (32))) C d_M_room_15 (by decide) ?_
      refine x_icmp_geN (tgt := 52) C d_M_room_17 (by decide) (by omega) (by omega) (fun c17 => ?_) (fun c17 => ?_)
      · exact absurd c17 (by omega)
      · refine x_aload_n C d_M_room_20 rfl rfl ?_
        refine x_iload_n C d_M_room_21 rfl rfl ?_
        refine x_bipush (v := (nI (16))) C d_M_room_22 (by decide) ?_
        refine x_idivN C d_M_room_24 (by omega) (by omega) (by omega) ?_
        refine x_iload_n C d_M_room_25 rfl rfl ?_
        refine x_bipush (v := (nI (16))) C d_M_room_26 (by decide) ?_
        refine x_iremN C d_M_room_28 (by omega) (by omega) (by omega) ?_
        refine x_iload_n C d_M_room_29 rfl rfl ?_
        refine x_callVI (wr := []) (rest := []) C (c_M_layValue (L := La) (a := tot (iS st)) hE (by omega) (by omega) (by omega)) d_M_room_30 cd_M_layValue lk_M_57 dd_M_layValue rfl ⟨Nat.le_of_ble_eq_true rfl, Nat.le_of_ble_eq_true rfl⟩ ⟨Nat.le_refl _, Nat.le_refl _⟩ 2 0 rfl rfl [0, 1, 2, 3, 4] [] rfl rfl (by decide) (by decide) (by decide) rfl (Nat.le_of_ble_eq_true rfl) ?_
        intro r_ u30 hp_
        obtain ⟨rfl, hI, hsg, hlo⟩ := hp_
        have hJl := hI.2.2.1
        refine x_istore (lv' := [(4, .int (nI (tot (iS st) + 2 * u30.2.length))), (3, .int (nI v)), (2, .int (nI (tot (iS st)))), (1, .int (nI (tot (cS n (FM en vl rn) v)))), (0, .ref h)]) C d_M_room_33 (by decide) rfl ?_
        refine x_iload_n C d_M_room_35 rfl rfl ?_
        refine x_aload_n C d_M_room_36 rfl rfl ?_
        refine x_iload_n C d_M_room_37 rfl rfl ?_
        refine x_iload C d_M_room_38 rfl ?_
        refine x_iconst (v := ((-1))) C d_M_room_40 (by decide) ?_
        refine x_callVI (wr := []) (rest := [.int (nI (tot (cS n (FM en vl rn) v)))]) C (c_M_goAlong (wt := (-1)) (a := tot (iS st)) (J := u30.2) hE hn (by rw [← hn]; exact hI.iv hE (Nat.le_refl _)) hsg (by omega)) d_M_room_41 cd_M_goAlong lk_M_61 dd_M_goAlong rfl ⟨Nat.le_of_ble_eq_true rfl, Nat.le_of_ble_eq_true rfl⟩ ⟨Nat.le_refl _, Nat.le_refl _⟩ 2 0 rfl rfl [0, 1, 2, 3, 4] [] rfl rfl (by decide) (by decide) (by decide) rfl (Nat.le_of_ble_eq_true rfl) ?_
        intro r_ ug hp_
        obtain ⟨rfl, -, hfd⟩ := hp_
        refine x_iaddN C d_M_room_44  ?_
        refine x_top (y := (nI (tot (cS n (FM en vl rn) (v + 1))))) (by rw [cS_succ, tot_app, tot_one, wI_len]; rfl) ?_
        refine x_istore_n (lv' := [(1, .int (nI (tot (cS n (FM en vl rn) (v + 1))))), (4, .int (nI (tot (iS st) + 2 * u30.2.length))), (3, .int (nI v)), (2, .int (nI (tot (iS st)))), (0, .ref h)]) C d_M_room_45 rfl (by decide) rfl ?_
        refine x_iincN (lv' := [(3, .int (nI (v + 1))), (1, .int (nI (tot (cS n (FM en vl rn) (v + 1))))), (4, .int (nI (tot (iS st) + 2 * u30.2.length))), (2, .int (nI (tot (iS st)))), (0, .ref h)]) C d_M_room_46 rfl (by decide) rfl ?_
        refine x_goto (tgt := 14) C d_M_room_49 (by decide) ?_
        refine x_lv (lv' := [(3, .int (nI (v + 1))), (2, .int (nI (tot (iS st)))), (1, .int (nI (tot (cS n (FM en vl rn) (v + 1))))), (0, .ref h)]) (Or.inr (List.forall_mem_cons.mpr ⟨rfl, List.forall_mem_cons.mpr ⟨rfl, List.forall_mem_cons.mpr ⟨rfl, List.forall_mem_cons.mpr ⟨rfl, fun _ h9 => absurd h9 List.not_mem_nil⟩⟩⟩⟩)) ?_
        exact ih (v + 1) u30.1 _ _ _ _ (by omega) (hLa.scratch hlo)
  refine x_iconst (v := (nI (0))) C d_M_room_0 (by decide) ?_
  refine x_istore_n (lv' := [(1, .int (nI 0)), (0, .ref h)]) C d_M_room_1 rfl (by decide) rfl ?_
  refine x_aload_n C d_M_room_2 rfl rfl ?_
  refine x_get C d_M_room_3 0 rfl rfl i_M 4 (by decide) lk_M_22 rfl rfl ?_
  refine x_aload_n C d_M_room_6 rfl rfl ?_
  refine x_get C d_M_room_7 0 rfl rfl i_M 5 (by decide) lk_M_54 rfl rfl ?_
  refine x_iald C d_M_room_10 4 rfl (by omega) (by omega) ?_
  refine x_top (y := (nI (tot (iS st)))) htop ?_
  refine x_istore_n (lv' := [(2, .int (nI (tot (iS st)))), (1, .int (nI 0)), (0, .ref h)]) C d_M_room_11 rfl (by decide) rfl ?_
  refine x_iconst (v := (nI (0))) C d_M_room_12 (by decide) ?_
  refine x_istore_n (lv' := [(3, .int (nI 0)), (2, .int (nI (tot (iS st)))), (1, .int (nI 0)), (0, .ref h)]) C d_M_room_13 rfl (by decide) rfl ?_
  refine x_lv (lv' := [(3, .int (nI 0)), (2, .int (nI (tot (iS st)))), (1, .int (nI 0)), (0, .ref h)]) (Or.inr (List.forall_mem_cons.mpr ⟨rfl, List.forall_mem_cons.mpr ⟨rfl, List.forall_mem_cons.mpr ⟨rfl, List.forall_mem_cons.mpr ⟨rfl, fun _ h9 => absurd h9 List.not_mem_nil⟩⟩⟩⟩)) ?_
  exact LP 32 0 L _ _ _ _ (by omega) hL
set_option maxHeartbeats 4000000 in
theorem c_M_push {l : Launch} {D : va_G} {cA : ClassId} {h e0 v0 l0 b0 rn ns : Nat} {E V L B : Nat → Int32} {pl sn wa wf : Int32} {c v : Nat} {en : Nat → Nat} {vl : Nat → Nat → Nat} (hE : Rn E V rn en vl) {n : Nat} {st : List ((Nat → Bool) × List (Nat × Nat))} (hn : bnd en rn = n) (hO : Ok en rn st) (hL : Hs 200000 15 L B (iS st)) (hns : st.length = ns) (hc : c < 2) (hv : v < 16) (h13 : st.length ≤ 12) (h12 : st.length < 12) (hfit : tot (kT n st) + (wI n (fvk en vl c v rn)).length ≤ 3000)  : CtI l D cA y_M_push b_M_push 3 (some .int) ({ frames := 5, cells := 0, slots := 0, locals := 119 } : Room) [.ref h, .int (nI c), .int (nI v)] (mW cA h e0 v0 l0 b0 E V L B rn ns pl sn wa wf) (fun r (u : ((Nat → Int32) × (Nat → Int32) × (Int32 × Int32 × Int32 × Int32))) => r = nI (ns + 1) ∧ ∃ J, Ik en rn (fvk en vl c v rn) J ∧ Hs 200000 15 u.1 u.2.1 (iS st ++ [fl J])) (fun u => (mW cA h e0 v0 l0 b0 E V (u.1) (u.2.1) rn (ns + 1) (u.2.2.1) (u.2.2.2.1) (u.2.2.2.2.1) (u.2.2.2.2.2))) := by
  refine CtI.start (lv0 := [(0, .ref h), (1, .int (nI c)), (2, .int (nI v))]) (by decide) rfl (Nat.le_of_ble_eq_true rfl) ?_
  intro p_ e_ s_ m_ args_ below_ meth_ c_ A_ C hr hin
  have hnm := hL.nums
  rw [iS_len] at hnm
  have hsm := iS_small hE hO (by omega)
  have hr0 := hE.1
  have hn2 : n ≤ 1000000 := by rw [← hn]; exact bnd_le hE rn (Nat.le_refl _)
  have htop : B ns = nI (tot (iS st)) := by rw [← hns, ← iS_len st]; exact hL.top
  refine x_iload_n C d_M_push_0 rfl rfl ?_
  refine x_if_ltN (tgt := 19) C d_M_push_1 (by decide) (by omega) ?_
  refine x_iload_n C d_M_push_4 rfl rfl ?_
  refine x_iconst (v := (nI (1))) C d_M_push_5 (by decide) ?_
  refine x_icmp_gtN (tgt := 19) C d_M_push_6 (by decide) (by omega) (by omega) (fun c6 => ?_) (fun c6 => ?_)
  · exact absurd c6 (by omega)
  · refine x_iload_n C d_M_push_9 rfl rfl ?_
    refine x_if_ltN (tgt := 19) C d_M_push_10 (by decide) (by omega) ?_
    refine x_iload_n C d_M_push_13 rfl rfl ?_
    refine x_bipush (v := (nI (15))) C d_M_push_14 (by decide) ?_
    refine x_icmp_leN (tgt := 21) C d_M_push_16 (by decide) (by omega) (by omega) (fun c16 => ?_) (fun c16 => ?_)
    · refine x_aload_n C d_M_push_21 rfl rfl ?_
      refine x_aload_n C d_M_push_22 rfl rfl ?_
      refine x_iload_n C d_M_push_23 rfl rfl ?_
      refine x_iload_n C d_M_push_24 rfl rfl ?_
      refine x_aload_n C d_M_push_25 rfl rfl ?_
      refine x_get C d_M_push_26 0 rfl rfl i_M 4 (by decide) lk_M_22 rfl rfl ?_
      refine x_aload_n C d_M_push_29 rfl rfl ?_
      refine x_get C d_M_push_30 0 rfl rfl i_M 5 (by decide) lk_M_54 rfl rfl ?_
      refine x_iald C d_M_push_33 4 rfl (by omega) (by omega) ?_
      refine x_top (y := (nI (tot (iS st)))) htop ?_
      refine x_callVI (wr := []) (rest := [.ref h]) C (c_M_layValue (a := tot (iS st)) hE hc hv (by omega)) d_M_push_34 cd_M_layValue lk_M_57 dd_M_layValue rfl ⟨Nat.le_of_ble_eq_true rfl, Nat.le_of_ble_eq_true rfl⟩ ⟨Nat.le_refl _, Nat.le_refl _⟩ 2 0 rfl rfl [0, 1, 2, 3, 4] [] rfl rfl (by decide) (by decide) (by decide) rfl (Nat.le_of_ble_eq_true rfl) ?_
      intro r_ u34 hp_
      obtain ⟨rfl, hI, hsg, hlo⟩ := hp_
      have hJl := hI.2.2.1
      have hL2 := hL.scratch hlo
      refine x_callVI (wr := []) (rest := []) C (c_M_comes hE hn hO hL2 hns hI hsg h13 h12 hfit) d_M_push_37 cd_M_comes lk_M_75 dd_M_comes rfl ⟨Nat.le_of_ble_eq_true rfl, Nat.le_of_ble_eq_true rfl⟩ ⟨Nat.le_refl _, Nat.le_refl _⟩ 2 0 rfl rfl [0, 1, 2, 3, 4] [] rfl rfl (by decide) (by decide) (by decide) rfl (Nat.le_of_ble_eq_true rfl) ?_
      intro r_ u37 hp_
      obtain ⟨rfl, hH37⟩ := hp_
      refine x_if_eqN (tgt := 50) C d_M_push_40 (by decide) (by omega) (fun c40 => ?_) (fun c40 => ?_)
      · exact absurd c40 (by omega)
      · refine x_aload_n C d_M_push_43 rfl rfl ?_
        refine x_get C d_M_push_44 0 rfl rfl i_M 5 (by decide) lk_M_54 rfl rfl ?_
        refine x_goto (tgt := 52) C d_M_push_47 (by decide) ?_
        exact x_iret C hr d_M_push_52 (u34.1, u37.1, ((u37.2.1), (u37.2.2.1), (u37.2.2.2.1), (u37.2.2.2.2))) rfl (⟨rfl, u34.2, hI, hH37⟩)
    · exact absurd c16 (by omega)
set_option maxHeartbeats 4000000 in
theorem c_M_push_full {l : Launch} {D : va_G} {cA : ClassId} {h e0 v0 l0 b0 rn ns : Nat} {E V L B : Nat → Int32} {pl sn wa wf : Int32} {c v : Nat} {en : Nat → Nat} {vl : Nat → Nat → Nat} (hE : Rn E V rn en vl) {n : Nat} {st : List ((Nat → Bool) × List (Nat × Nat))} (hn : bnd en rn = n) (hO : Ok en rn st) (hL : Hs 200000 15 L B (iS st)) (hns : st.length = ns) (hc : c < 2) (hv : v < 16) (h13 : st.length ≤ 12) (hno : st.length = 12 ∨ 3000 < tot (kT n st) + (wI n (fvk en vl c v rn)).length)  : CtI l D cA y_M_push b_M_push 3 (some .int) ({ frames := 5, cells := 0, slots := 0, locals := 119 } : Room) [.ref h, .int (nI c), .int (nI v)] (mW cA h e0 v0 l0 b0 E V L B rn ns pl sn wa wf) (fun r (u : ((Nat → Int32) × (Int32 × Int32 × Int32 × Int32))) => r = -3 ∧ Hs 200000 15 u.1 B (iS st)) (fun u => (mW cA h e0 v0 l0 b0 E V (u.1) B rn ns (u.2.1) (u.2.2.1) (u.2.2.2.1) (u.2.2.2.2))) := by
  refine CtI.start (lv0 := [(0, .ref h), (1, .int (nI c)), (2, .int (nI v))]) (by decide) rfl (Nat.le_of_ble_eq_true rfl) ?_
  intro p_ e_ s_ m_ args_ below_ meth_ c_ A_ C hr hin
  have hnm := hL.nums
  rw [iS_len] at hnm
  have hsm := iS_small hE hO (by omega)
  have hr0 := hE.1
  have hn2 : n ≤ 1000000 := by rw [← hn]; exact bnd_le hE rn (Nat.le_refl _)
  have htop : B ns = nI (tot (iS st)) := by rw [← hns, ← iS_len st]; exact hL.top
  refine x_iload_n C d_M_push_0 rfl rfl ?_
  refine x_if_ltN (tgt := 19) C d_M_push_1 (by decide) (by omega) ?_
  refine x_iload_n C d_M_push_4 rfl rfl ?_
  refine x_iconst (v := (nI (1))) C d_M_push_5 (by decide) ?_
  refine x_icmp_gtN (tgt := 19) C d_M_push_6 (by decide) (by omega) (by omega) (fun c6 => ?_) (fun c6 => ?_)
  · exact absurd c6 (by omega)
  · refine x_iload_n C d_M_push_9 rfl rfl ?_
    refine x_if_ltN (tgt := 19) C d_M_push_10 (by decide) (by omega) ?_
    refine x_iload_n C d_M_push_13 rfl rfl ?_
    refine x_bipush (v := (nI (15))) C d_M_push_14 (by decide) ?_
    refine x_icmp_leN (tgt := 21) C d_M_push_16 (by decide) (by omega) (by omega) (fun c16 => ?_) (fun c16 => ?_)
    · refine x_aload_n C d_M_push_21 rfl rfl ?_
      refine x_aload_n C d_M_push_22 rfl rfl ?_
      refine x_iload_n C d_M_push_23 rfl rfl ?_
      refine x_iload_n C d_M_push_24 rfl rfl ?_
      refine x_aload_n C d_M_push_25 rfl rfl ?_
      refine x_get C d_M_push_26 0 rfl rfl i_M 4 (by decide) lk_M_22 rfl rfl ?_
      refine x_aload_n C d_M_push_29 rfl rfl ?_
      refine x_get C d_M_push_30 0 rfl rfl i_M 5 (by decide) lk_M_54 rfl rfl ?_
      refine x_iald C d_M_push_33 4 rfl (by omega) (by omega) ?_
      refine x_top (y := (nI (tot (iS st)))) htop ?_
      refine x_callVI (wr := []) (rest := [.ref h]) C (c_M_layValue (a := tot (iS st)) hE hc hv (by omega)) d_M_push_34 cd_M_layValue lk_M_57 dd_M_layValue rfl ⟨Nat.le_of_ble_eq_true rfl, Nat.le_of_ble_eq_true rfl⟩ ⟨Nat.le_refl _, Nat.le_refl _⟩ 2 0 rfl rfl [0, 1, 2, 3, 4] [] rfl rfl (by decide) (by decide) (by decide) rfl (Nat.le_of_ble_eq_true rfl) ?_
      intro r_ u34 hp_
      obtain ⟨rfl, hI, hsg, hlo⟩ := hp_
      have hJl := hI.2.2.1
      have hL2 := hL.scratch hlo
      refine x_callVI (wr := []) (rest := []) C (c_M_comes_full hE hn hO hL2 hns hI hsg h13 hno) d_M_push_37 cd_M_comes lk_M_75 dd_M_comes rfl ⟨Nat.le_of_ble_eq_true rfl, Nat.le_of_ble_eq_true rfl⟩ ⟨Nat.le_refl _, Nat.le_refl _⟩ 2 0 rfl rfl [0, 1, 2, 3, 4] [] rfl rfl (by decide) (by decide) (by decide) rfl (Nat.le_of_ble_eq_true rfl) ?_
      intro r_ u37 hp_
      obtain rfl := hp_
      refine x_if_eqN (tgt := 50) C d_M_push_40 (by decide) (by omega) (fun c40 => ?_) (fun c40 => ?_)
      · refine x_bipush (v := ((-3))) C d_M_push_50 (by decide) ?_
        exact x_iret C hr d_M_push_52 (u34.1, ((u37.1), (u37.2.1), (u37.2.2.1), (u37.2.2.2))) rfl (⟨rfl, hL2⟩)
      · exact absurd c40 (by omega)
    · exact absurd c16 (by omega)
set_option maxHeartbeats 4000000 in
theorem c_M_push_bad {l : Launch} {D : va_G} {cA : ClassId} {h e0 v0 l0 b0 rn ns : Nat} {E V L B : Nat → Int32} {pl sn wa wf : Int32} {x y : Int32} (hb : x < 0 ∨ nI 1 < x ∨ y < 0 ∨ nI 15 < y)  : CtI l D cA y_M_push b_M_push 3 (some .int) ({ frames := 5, cells := 0, slots := 0, locals := 119 } : Room) [.ref h, .int x, .int y] (mW cA h e0 v0 l0 b0 E V L B rn ns pl sn wa wf) (fun r (_ : Unit) => r = -1) (fun _ => (mW cA h e0 v0 l0 b0 E V L B rn ns pl sn wa wf)) := by
  refine CtI.start (lv0 := [(0, .ref h), (1, .int x), (2, .int y)]) (by decide) rfl (Nat.le_of_ble_eq_true rfl) ?_
  intro p_ e_ s_ m_ args_ below_ meth_ c_ A_ C hr hin
  refine x_iload_n C d_M_push_0 rfl rfl ?_
  refine x_if_lt (tgt := 19) C d_M_push_1 (by decide)  (fun c1 => ?_) (fun c1 => ?_)
  · refine x_iconst (v := ((-1))) C d_M_push_19 (by decide) ?_
    exact x_iret C hr d_M_push_20 () rfl (rfl)
  · refine x_iload_n C d_M_push_4 rfl rfl ?_
    refine x_iconst (v := (nI (1))) C d_M_push_5 (by decide) ?_
    refine x_icmp_gt (tgt := 19) C d_M_push_6 (by decide)  (fun c6 => ?_) (fun c6 => ?_)
    · refine x_iconst (v := ((-1))) C d_M_push_19 (by decide) ?_
      exact x_iret C hr d_M_push_20 () rfl (rfl)
    · refine x_iload_n C d_M_push_9 rfl rfl ?_
      refine x_if_lt (tgt := 19) C d_M_push_10 (by decide)  (fun c10 => ?_) (fun c10 => ?_)
      · refine x_iconst (v := ((-1))) C d_M_push_19 (by decide) ?_
        exact x_iret C hr d_M_push_20 () rfl (rfl)
      · refine x_iload_n C d_M_push_13 rfl rfl ?_
        refine x_bipush (v := (nI (15))) C d_M_push_14 (by decide) ?_
        refine x_icmp_le (tgt := 21) C d_M_push_16 (by decide)  (fun c16 => ?_) (fun c16 => ?_)
        · exact absurd hb (fun z => z.elim c1 (fun z => z.elim c6 (fun z => z.elim c10 (fun z => absurd c16 (Int32.not_le.mpr z)))))
        · refine x_iconst (v := ((-1))) C d_M_push_19 (by decide) ?_
          exact x_iret C hr d_M_push_20 () rfl (rfl)
set_option maxHeartbeats 4000000 in
theorem c_M_words_none {l : Launch} {D : va_G} {cA : ClassId} {h e0 v0 l0 b0 rn : Nat} {E V L B : Nat → Int32} {pl sn wa wf : Int32}  : CtI l D cA y_M_words b_M_words 1 (some .int) ({ frames := 3, cells := 0, slots := 0, locals := 76 } : Room) [.ref h] (mW cA h e0 v0 l0 b0 E V L B rn 0 pl sn wa wf) (fun r (_ : Unit) => r = (-1)) (fun _ => (mW cA h e0 v0 l0 b0 E V L B rn 0 pl sn wa wf)) := by
  refine CtI.start (lv0 := [(0, .ref h)]) (by decide) rfl (Nat.le_of_ble_eq_true rfl) ?_
  intro p_ e_ s_ m_ args_ below_ meth_ c_ A_ C hr hin
  refine x_aload_n C d_M_words_0 rfl rfl ?_
  refine x_get C d_M_words_1 0 rfl rfl i_M 5 (by decide) lk_M_54 rfl rfl ?_
  refine x_if_neN (tgt := 11) C d_M_words_4 (by decide) (by omega) (fun c4 => ?_) (fun c4 => ?_)
  · exact absurd c4 (by omega)
  · refine x_iconst (v := ((-1))) C d_M_words_7 (by decide) ?_
    refine x_goto (tgt := 21) C d_M_words_8 (by decide) ?_
    exact x_iret C hr d_M_words_21 () rfl (rfl)
set_option maxHeartbeats 4000000 in
theorem c_M_count_none {l : Launch} {D : va_G} {cA : ClassId} {h e0 v0 l0 b0 rn : Nat} {E V L B : Nat → Int32} {pl sn wa wf : Int32}  : CtI l D cA y_M_count b_M_count 3 (some .int) ({ frames := 0, cells := 0, slots := 0, locals := 0 } : Room) [.ref h] (mW cA h e0 v0 l0 b0 E V L B rn 0 pl sn wa wf) (fun r (_ : Unit) => r = (-1)) (fun _ => (mW cA h e0 v0 l0 b0 E V L B rn 0 pl sn wa wf)) := by
  refine CtI.start (lv0 := [(0, .ref h)]) (by decide) rfl (Nat.le_of_ble_eq_true rfl) ?_
  intro p_ e_ s_ m_ args_ below_ meth_ c_ A_ C hr hin
  refine x_aload_n C d_M_count_0 rfl rfl ?_
  refine x_get C d_M_count_1 0 rfl rfl i_M 5 (by decide) lk_M_54 rfl rfl ?_
  refine x_if_neN (tgt := 9) C d_M_count_4 (by decide) (by omega) (fun c4 => ?_) (fun c4 => ?_)
  · exact absurd c4 (by omega)
  · refine x_iconst (v := ((-1))) C d_M_count_7 (by decide) ?_
    exact x_iret C hr d_M_count_8 () rfl (rfl)
set_option maxHeartbeats 4000000 in
theorem c_M_pop_none {l : Launch} {D : va_G} {cA : ClassId} {h e0 v0 l0 b0 rn : Nat} {E V L B : Nat → Int32} {pl sn wa wf : Int32}  : CtI l D cA y_M_pop b_M_pop 1 (some .int) ({ frames := 0, cells := 0, slots := 0, locals := 0 } : Room) [.ref h] (mW cA h e0 v0 l0 b0 E V L B rn 0 pl sn wa wf) (fun r (_ : Unit) => r = (-4)) (fun _ => (mW cA h e0 v0 l0 b0 E V L B rn 0 pl sn wa wf)) := by
  refine CtI.start (lv0 := [(0, .ref h)]) (by decide) rfl (Nat.le_of_ble_eq_true rfl) ?_
  intro p_ e_ s_ m_ args_ below_ meth_ c_ A_ C hr hin
  refine x_aload_n C d_M_pop_0 rfl rfl ?_
  refine x_get C d_M_pop_1 0 rfl rfl i_M 5 (by decide) lk_M_54 rfl rfl ?_
  refine x_if_neN (tgt := 10) C d_M_pop_4 (by decide) (by omega) (fun c4 => ?_) (fun c4 => ?_)
  · exact absurd c4 (by omega)
  · refine x_bipush (v := ((-4))) C d_M_pop_7 (by decide) ?_
    exact x_iret C hr d_M_pop_9 () rfl (rfl)
set_option maxHeartbeats 4000000 in
theorem c_M_copy_none {l : Launch} {D : va_G} {cA : ClassId} {h e0 v0 l0 b0 rn : Nat} {E V L B : Nat → Int32} {pl sn wa wf : Int32}  : CtI l D cA y_M_copy b_M_copy 4 (some .int) ({ frames := 5, cells := 0, slots := 0, locals := 119 } : Room) [.ref h] (mW cA h e0 v0 l0 b0 E V L B rn 0 pl sn wa wf) (fun r (_ : Unit) => r = (-4)) (fun _ => (mW cA h e0 v0 l0 b0 E V L B rn 0 pl sn wa wf)) := by
  refine CtI.start (lv0 := [(0, .ref h)]) (by decide) rfl (Nat.le_of_ble_eq_true rfl) ?_
  intro p_ e_ s_ m_ args_ below_ meth_ c_ A_ C hr hin
  refine x_aload_n C d_M_copy_0 rfl rfl ?_
  refine x_get C d_M_copy_1 0 rfl rfl i_M 5 (by decide) lk_M_54 rfl rfl ?_
  refine x_if_neN (tgt := 10) C d_M_copy_4 (by decide) (by omega) (fun c4 => ?_) (fun c4 => ?_)
  · exact absurd c4 (by omega)
  · refine x_bipush (v := ((-4))) C d_M_copy_7 (by decide) ?_
    exact x_iret C hr d_M_copy_9 () rfl (rfl)
set_option maxHeartbeats 4000000 in
theorem c_M_not_none {l : Launch} {D : va_G} {cA : ClassId} {h e0 v0 l0 b0 rn : Nat} {E V L B : Nat → Int32} {pl sn wa wf : Int32}  : CtI l D cA y_M_not b_M_not 5 (some .int) ({ frames := 4, cells := 0, slots := 0, locals := 102 } : Room) [.ref h] (mW cA h e0 v0 l0 b0 E V L B rn 0 pl sn wa wf) (fun r (_ : Unit) => r = (-4)) (fun _ => (mW cA h e0 v0 l0 b0 E V L B rn 0 pl sn wa wf)) := by
  refine CtI.start (lv0 := [(0, .ref h)]) (by decide) rfl (Nat.le_of_ble_eq_true rfl) ?_
  intro p_ e_ s_ m_ args_ below_ meth_ c_ A_ C hr hin
  refine x_aload_n C d_M_not_0 rfl rfl ?_
  refine x_get C d_M_not_1 0 rfl rfl i_M 5 (by decide) lk_M_54 rfl rfl ?_
  refine x_if_neN (tgt := 10) C d_M_not_4 (by decide) (by omega) (fun c4 => ?_) (fun c4 => ?_)
  · exact absurd c4 (by omega)
  · refine x_bipush (v := ((-4))) C d_M_not_7 (by decide) ?_
    exact x_iret C hr d_M_not_9 () rfl (rfl)
set_option maxHeartbeats 4000000 in
theorem c_M_words {l : Launch} {D : va_G} {cA : ClassId} {h e0 v0 l0 b0 rn ns : Nat} {E V L B : Nat → Int32} {pl sn wa wf : Int32} {en : Nat → Nat} {vl : Nat → Nat → Nat} (hE : Rn E V rn en vl) {n : Nat} {st : List ((Nat → Bool) × List (Nat × Nat))} {p : (Nat → Bool) × List (Nat × Nat)} (hn : bnd en rn = n) (hO : Ok en rn (st ++ [p])) (hL : Hs 200000 15 L B (iS (st ++ [p]))) (hns : st.length + 1 = ns)  : CtI l D cA y_M_words b_M_words 1 (some .int) ({ frames := 3, cells := 0, slots := 0, locals := 76 } : Room) [.ref h] (mW cA h e0 v0 l0 b0 E V L B rn ns pl sn wa wf) (fun r (_ : (Int32 × Int32 × Int32 × Int32)) => r = nI (wI n p.1).length) (fun u => (mW cA h e0 v0 l0 b0 E V L B rn ns (u.1) (u.2.1) (u.2.2.1) (u.2.2.2))) := by
  subst hns
  refine CtI.start (lv0 := [(0, .ref h)]) (by decide) rfl (Nat.le_of_ble_eq_true rfl) ?_
  intro p_ e_ s_ m_ args_ below_ meth_ c_ A_ C hr hin
  have hnm := hL.nums
  rw [iS_len, List.length_append, List.length_singleton] at hnm
  refine x_aload_n C d_M_words_0 rfl rfl ?_
  refine x_get C d_M_words_1 0 rfl rfl i_M 5 (by decide) lk_M_54 rfl rfl ?_
  refine x_if_neN (tgt := 11) C d_M_words_4 (by decide) (by omega) (fun c4 => ?_) (fun c4 => ?_)
  · refine x_aload_n C d_M_words_11 rfl rfl ?_
    refine x_aload_n C d_M_words_12 rfl rfl ?_
    refine x_get C d_M_words_13 0 rfl rfl i_M 5 (by decide) lk_M_54 rfl rfl ?_
    refine x_iconst (v := (nI (1))) C d_M_words_16 (by decide) ?_
    refine x_isubN C d_M_words_17 (by omega) ?_
    refine x_top (y := (nI (st.length))) (by congr 1) ?_
    refine x_callVI (wr := []) (rest := []) C (c_M_wordsOf (i := st.length) (p := p) hE hn hO hL (by simp) (by simp)) d_M_words_18 cd_M_wordsOf lk_M_68 dd_M_wordsOf rfl ⟨Nat.le_of_ble_eq_true rfl, Nat.le_of_ble_eq_true rfl⟩ ⟨Nat.le_refl _, Nat.le_refl _⟩ 2 0 rfl rfl [0, 1, 2, 3, 4] [] rfl rfl (by decide) (by decide) (by decide) rfl (Nat.le_of_ble_eq_true rfl) ?_
    intro r_ u18 hp_
    obtain rfl := hp_
    exact x_iret C hr d_M_words_21 ((u18.1), (u18.2.1), (u18.2.2.1), (u18.2.2.2)) rfl (rfl)
  · exact absurd c4 (by omega)
set_option maxHeartbeats 4000000 in
theorem c_M_pop {l : Launch} {D : va_G} {cA : ClassId} {h e0 v0 l0 b0 rn : Nat} {E V L B : Nat → Int32} {pl sn wa wf : Int32} {k : Nat} (hk : k < 1000)  : CtI l D cA y_M_pop b_M_pop 1 (some .int) ({ frames := 0, cells := 0, slots := 0, locals := 0 } : Room) [.ref h] (mW cA h e0 v0 l0 b0 E V L B rn (k + 1) pl sn wa wf) (fun r (_ : Unit) => r = nI k) (fun _ => (mW cA h e0 v0 l0 b0 E V L B rn k pl sn wa wf)) := by
  refine CtI.start (lv0 := [(0, .ref h)]) (by decide) rfl (Nat.le_of_ble_eq_true rfl) ?_
  intro p_ e_ s_ m_ args_ below_ meth_ c_ A_ C hr hin
  refine x_aload_n C d_M_pop_0 rfl rfl ?_
  refine x_get C d_M_pop_1 0 rfl rfl i_M 5 (by decide) lk_M_54 rfl rfl ?_
  refine x_if_neN (tgt := 10) C d_M_pop_4 (by decide) (by omega) (fun c4 => ?_) (fun c4 => ?_)
  · refine x_aload_n C d_M_pop_10 rfl rfl ?_
    refine x_dup C d_M_pop_11 rfl ?_
    refine x_get C d_M_pop_12 0 rfl rfl i_M 5 (by decide) lk_M_54 rfl rfl ?_
    refine x_iconst (v := (nI (1))) C d_M_pop_15 (by decide) ?_
    refine x_isubN C d_M_pop_16 (by omega) ?_
    refine x_top (y := (nI (k))) (by congr 1) ?_
    refine x_put (ty := .int) (v := .int (nI k)) (ws' := [(h, .inr (2, [.ref e0, .ref v0, .int (nI rn), .ref l0, .ref b0, .int (nI k), .int pl, .int sn, .int wa, .int wf])), (e0, .inl (cA, 33000, .inl (E))), (v0, .inl (cA, 66000, .inl (V))), (l0, .inl (cA, 200000, .inl (L))), (b0, .inl (cA, 15, .inl (B)))]) C d_M_pop_17 0 rfl rfl i_M t_M t_M_ok n_M 5 (by decide) lk_M_54 rfl rfl (t_M_ok 5 (by decide)) rfl rfl (Nat.le_of_ble_eq_true rfl) rfl ?_
    refine x_aload_n C d_M_pop_20 rfl rfl ?_
    refine x_get C d_M_pop_21 0 rfl rfl i_M 5 (by decide) lk_M_54 rfl rfl ?_
    exact x_iret C hr d_M_pop_24 () rfl (rfl)
  · exact absurd c4 (by omega)
set_option maxHeartbeats 4000000 in
theorem c_M_word_none {l : Launch} {D : va_G} {cA : ClassId} {h e0 v0 l0 b0 rn : Nat} {E V L B : Nat → Int32} {pl sn wa wf : Int32} {x : Int32}  : CtI l D cA y_M_word b_M_word 3 (some .int) ({ frames := 2, cells := 0, slots := 0, locals := 55 } : Room) [.ref h, .int x] (mW cA h e0 v0 l0 b0 E V L B rn 0 pl sn wa wf) (fun r (_ : Unit) => r = nI 0) (fun _ => (mW cA h e0 v0 l0 b0 E V L B rn 0 pl sn wa wf)) := by
  refine CtI.start (lv0 := [(0, .ref h), (1, .int x)]) (by decide) rfl (Nat.le_of_ble_eq_true rfl) ?_
  intro p_ e_ s_ m_ args_ below_ meth_ c_ A_ C hr hin
  refine x_aload_n C d_M_word_0 rfl rfl ?_
  refine x_get C d_M_word_1 0 rfl rfl i_M 5 (by decide) lk_M_54 rfl rfl ?_
  refine x_if_eqN (tgt := 11) C d_M_word_4 (by decide) (by omega) (fun c4 => ?_) (fun c4 => ?_)
  · refine x_iconst (v := (nI (0))) C d_M_word_11 (by decide) ?_
    exact x_iret C hr d_M_word_12 () rfl (rfl)
  · exact absurd c4 (by omega)
set_option maxHeartbeats 4000000 in
theorem c_M_word_neg {l : Launch} {D : va_G} {cA : ClassId} {h e0 v0 l0 b0 rn ns : Nat} {E V L B : Nat → Int32} {pl sn wa wf : Int32} {x : Int32} (hx : x < 0) (hk : 0 < ns) (hk2 : ns < 1000)  : CtI l D cA y_M_word b_M_word 3 (some .int) ({ frames := 2, cells := 0, slots := 0, locals := 55 } : Room) [.ref h, .int x] (mW cA h e0 v0 l0 b0 E V L B rn ns pl sn wa wf) (fun r (_ : Unit) => r = nI 0) (fun _ => (mW cA h e0 v0 l0 b0 E V L B rn ns pl sn wa wf)) := by
  refine CtI.start (lv0 := [(0, .ref h), (1, .int x)]) (by decide) rfl (Nat.le_of_ble_eq_true rfl) ?_
  intro p_ e_ s_ m_ args_ below_ meth_ c_ A_ C hr hin
  refine x_aload_n C d_M_word_0 rfl rfl ?_
  refine x_get C d_M_word_1 0 rfl rfl i_M 5 (by decide) lk_M_54 rfl rfl ?_
  refine x_if_eqN (tgt := 11) C d_M_word_4 (by decide) (by omega) (fun c4 => ?_) (fun c4 => ?_)
  · exact absurd c4 (by omega)
  · refine x_iload_n C d_M_word_7 rfl rfl ?_
    refine x_if_ge (tgt := 13) C d_M_word_8 (by decide)  (fun c8 => ?_) (fun c8 => ?_)
    · exact absurd hx (Int32.not_lt.mpr c8)
    · refine x_iconst (v := (nI (0))) C d_M_word_11 (by decide) ?_
      exact x_iret C hr d_M_word_12 () rfl (rfl)
set_option maxHeartbeats 4000000 in
theorem c_M_word {l : Launch} {D : va_G} {cA : ClassId} {h e0 v0 l0 b0 rn ns : Nat} {E V L B : Nat → Int32} {pl sn wa wf : Int32} {en : Nat → Nat} {vl : Nat → Nat → Nat} (hE : Rn E V rn en vl) {n : Nat} {st : List ((Nat → Bool) × List (Nat × Nat))} {p : (Nat → Bool) × List (Nat × Nat)} (hn : bnd en rn = n) (hO : Ok en rn (st ++ [p])) (hL : Hs 200000 15 L B (iS (st ++ [p]))) (hns : st.length + 1 = ns) {x : Nat} (hx : x < 2 ^ 31)  : CtI l D cA y_M_word b_M_word 3 (some .int) ({ frames := 2, cells := 0, slots := 0, locals := 55 } : Room) [.ref h, .int (nI x)] (mW cA h e0 v0 l0 b0 E V L B rn ns pl sn wa wf) (fun r (_ : (Int32 × Int32 × Int32 × Int32)) => r = (wI n p.1).getD x 0) (fun u => (mW cA h e0 v0 l0 b0 E V L B rn ns (u.1) (u.2.1) (u.2.2.1) (u.2.2.2))) := by
  subst hns
  refine CtI.start (lv0 := [(0, .ref h), (1, .int (nI x))]) (by decide) rfl (Nat.le_of_ble_eq_true rfl) ?_
  intro p_ e_ s_ m_ args_ below_ meth_ c_ A_ C hr hin
  have hnm := hL.nums
  have hil := iS_len (st ++ [p])
  rw [List.length_append, List.length_singleton] at hil
  rw [hil] at hnm
  have hsp : (st ++ [p])[st.length]? = some p := by simp
  have hs0 := set_in hO hL hsp
  have htt : off (iS (st ++ [p])) (st.length + 1) = tot (iS (st ++ [p])) := by rw [← hil]; exact off_len _
  have hbt : B (st.length + 1) = nI (off (iS (st ++ [p])) st.length + 2 * p.2.length) := by rw [hL.bd (by omega), hs0.2.2.1]
  have hb0 : B st.length = nI (off (iS (st ++ [p])) st.length) := hL.bd (by omega)
  have hiv : Iv n p.1 p.2 := by rw [← hn]; exact hs0.1.iv hE (Nat.le_refl _)
  have hn2 : n ≤ 1000000 := by rw [← hn]; exact bnd_le hE rn (Nat.le_refl _)
  refine x_aload_n C d_M_word_0 rfl rfl ?_
  refine x_get C d_M_word_1 0 rfl rfl i_M 5 (by decide) lk_M_54 rfl rfl ?_
  refine x_if_eqN (tgt := 11) C d_M_word_4 (by decide) (by omega) (fun c4 => ?_) (fun c4 => ?_)
  · exact absurd c4 (by omega)
  · refine x_iload_n C d_M_word_7 rfl rfl ?_
    refine x_if_geN (tgt := 13) C d_M_word_8 (by decide) (by omega) ?_
    refine x_aload_n C d_M_word_13 rfl rfl ?_
    refine x_aload_n C d_M_word_14 rfl rfl ?_
    refine x_get C d_M_word_15 0 rfl rfl i_M 4 (by decide) lk_M_22 rfl rfl ?_
    refine x_aload_n C d_M_word_18 rfl rfl ?_
    refine x_get C d_M_word_19 0 rfl rfl i_M 5 (by decide) lk_M_54 rfl rfl ?_
    refine x_iconst (v := (nI (1))) C d_M_word_22 (by decide) ?_
    refine x_isubN C d_M_word_23 (by omega) ?_
    refine x_top (y := (nI (st.length))) (by congr 1) ?_
    refine x_iald C d_M_word_24 4 rfl (by omega) (by omega) ?_
    refine x_top (y := (nI (off (iS (st ++ [p])) st.length))) hb0 ?_
    refine x_aload_n C d_M_word_25 rfl rfl ?_
    refine x_get C d_M_word_26 0 rfl rfl i_M 4 (by decide) lk_M_22 rfl rfl ?_
    refine x_aload_n C d_M_word_29 rfl rfl ?_
    refine x_get C d_M_word_30 0 rfl rfl i_M 5 (by decide) lk_M_54 rfl rfl ?_
    refine x_iald C d_M_word_33 4 rfl (by omega) (by omega) ?_
    refine x_top (y := (nI (off (iS (st ++ [p])) st.length + 2 * p.2.length))) hbt ?_
    refine x_iload_n C d_M_word_34 rfl rfl ?_
    refine x_callVI (wr := []) (rest := []) C (c_M_goAlong (wt := nI x) (a := off (iS (st ++ [p])) st.length) (J := p.2) hE hn hiv hs0.2.1 (by omega)) d_M_word_35 cd_M_goAlong lk_M_61 dd_M_goAlong rfl ⟨Nat.le_of_ble_eq_true rfl, Nat.le_of_ble_eq_true rfl⟩ ⟨Nat.le_refl _, Nat.le_refl _⟩ 2 0 rfl rfl [0, 1, 2, 3, 4] [] rfl rfl (by decide) (by decide) (by decide) rfl (Nat.le_of_ble_eq_true rfl) ?_
    intro r_ ug hp_
    obtain ⟨rfl, -, hfd⟩ := hp_
    refine x_istore_n (lv' := [(2, .int (nI ((Wd n p.1).length))), (0, .ref h), (1, .int (nI x))]) C d_M_word_38 rfl (by decide) rfl ?_
    refine x_iload_n C d_M_word_39 rfl rfl ?_
    refine x_iload_n C d_M_word_40 rfl rfl ?_
    refine x_icmp_geN (tgt := 51) C d_M_word_41 (by decide) (by omega) (by have := Wd_len (n := n) (f := p.1) hn2; omega) (fun c41 => ?_) (fun c41 => ?_)
    · refine x_iconst (v := (nI (0))) C d_M_word_51 (by decide) ?_
      exact x_iret C hr d_M_word_52 ((nI (off (iS (st ++ [p])) st.length + 2 * ug.1)), (nI ((Wd n p.1).length)), (nI x), (ug.2)) rfl (by rw [List.getD_eq_getElem?_getD, List.getElem?_eq_none (by rw [wI_len]; exact c41)]; rfl)
    · refine x_aload_n C d_M_word_44 rfl rfl ?_
      refine x_get C d_M_word_45 0 rfl rfl i_M 9 (by decide) lk_M_35 rfl rfl ?_
      refine x_goto (tgt := 52) C d_M_word_48 (by decide) ?_
      exact x_iret C hr d_M_word_52 ((nI (off (iS (st ++ [p])) st.length + 2 * ug.1)), (nI ((Wd n p.1).length)), (nI x), (ug.2)) rfl (by rw [hfd x _ rfl hx (List.getElem?_eq_getElem c41), wI, List.getD_eq_getElem?_getD, List.getElem?_map, List.getElem?_eq_getElem c41]; rfl)
set_option maxHeartbeats 4000000 in
theorem c_M_count {l : Launch} {D : va_G} {cA : ClassId} {h e0 v0 l0 b0 rn ns : Nat} {E V L B : Nat → Int32} {pl sn wa wf : Int32} {en : Nat → Nat} {vl : Nat → Nat → Nat} (hE : Rn E V rn en vl) {n : Nat} {st : List ((Nat → Bool) × List (Nat × Nat))} {p : (Nat → Bool) × List (Nat × Nat)} (hn : bnd en rn = n) (hO : Ok en rn (st ++ [p])) (hL : Hs 200000 15 L B (iS (st ++ [p]))) (hns : st.length + 1 = ns)  : CtI l D cA y_M_count b_M_count 3 (some .int) ({ frames := 0, cells := 0, slots := 0, locals := 0 } : Room) [.ref h] (mW cA h e0 v0 l0 b0 E V L B rn ns pl sn wa wf) (fun r (_ : Unit) => r = nI (cn p.1 n)) (fun _ => (mW cA h e0 v0 l0 b0 E V L B rn ns pl sn wa wf)) := by
  subst hns
  refine CtI.start (lv0 := [(0, .ref h)]) (by decide) rfl (Nat.le_of_ble_eq_true rfl) ?_
  intro p_ e_ s_ m_ args_ below_ meth_ c_ A_ C hr hin
  have hnm := hL.nums
  have hil := iS_len (st ++ [p])
  rw [List.length_append, List.length_singleton] at hil
  rw [hil] at hnm
  have hsp : (st ++ [p])[st.length]? = some p := by simp
  have hs0 := set_in hO hL hsp
  have htt : off (iS (st ++ [p])) (st.length + 1) = tot (iS (st ++ [p])) := by rw [← hil]; exact off_len _
  have hbt : B (st.length + 1) = nI (off (iS (st ++ [p])) st.length + 2 * p.2.length) := by rw [hL.bd (by omega), hs0.2.2.1]
  have hb0 : B st.length = nI (off (iS (st ++ [p])) st.length) := hL.bd (by omega)
  have hiv : Iv n p.1 p.2 := by rw [← hn]; exact hs0.1.iv hE (Nat.le_refl _)
  have hn2 : n ≤ 1000000 := by rw [← hn]; exact bnd_le hE rn (Nat.le_refl _)
  have LP : ∀ (d i kk : Nat), i + d = p.2.length → kk = off (iS (st ++ [p])) st.length + 2 * i → X p_ l e_ ({ frames := 0, cells := 0, slots := 0, locals := 0 } : Room) s_ m_ args_ below_ meth_ c_ D A_ 3 0 0 (MQ below_ (va_Qi (fun r (_ : Unit) => r = nI (cn p.1 n)) (Bw D A_ (fun _ => (mW cA h e0 v0 l0 b0 E V L B rn (st.length + 1) pl sn wa wf))) A_) args_ s_ 0 0 A_) [(h, .inr (2, [.ref e0, .ref v0, .int (nI rn), .ref l0, .ref b0, .int (nI (st.length + 1)), .int pl, .int sn, .int wa, .int wf])), (e0, .inl (cA, 33000, .inl (E))), (v0, .inl (cA, 66000, .inl (V))), (l0, .inl (cA, 200000, .inl (L))), (b0, .inl (cA, 15, .inl (B)))] 23 [(2, .int (nI kk)), (1, .int (nI (sI (p.2.take i)))), (0, .ref h)] [] := by
    intro d
    induction d with
    | zero =>
      intro i kk hi hkk
      refine x_iload_n C d_M_count_23 rfl rfl ?_
      refine x_aload_n C d_M_count_24 rfl rfl ?_
      refine x_get C d_M_count_25 0 rfl rfl i_M 4 (by decide) lk_M_22 rfl rfl ?_
      refine x_aload_n C d_M_count_28 rfl rfl ?_
      refine x_get C d_M_count_29 0 rfl rfl i_M 5 (by decide) lk_M_54 rfl rfl ?_
      refine x_iald C d_M_count_32 4 rfl (by omega) (by omega) ?_
      refine x_top (y := (nI (off (iS (st ++ [p])) st.length + 2 * p.2.length))) hbt ?_
      refine x_icmp_geN (tgt := 60) C d_M_count_33 (by decide) (by omega) (by omega) (fun c33 => ?_) (fun c33 => ?_)
      · refine x_iload_n C d_M_count_60 rfl rfl ?_
        exact x_iret C hr d_M_count_61 () rfl (by rw [List.take_of_length_le (by omega), hiv.count])
      · exact absurd c33 (by omega)
    | succ d ih =>
      intro i kk hi hkk
      obtain ⟨q, hq⟩ : ∃ q, p.2[i]? = some q := ⟨p.2[i], List.getElem?_eq_getElem (by omega)⟩
      have hsq := hs0.2.1 i q hq
      rw [← hkk] at hsq
      have hq1 := ivs_at hiv.1 hq
      have hq2 := hiv.2.1 q (List.mem_of_getElem? hq)
      refine x_iload_n C d_M_count_23 rfl rfl ?_
      refine x_aload_n C d_M_count_24 rfl rfl ?_
      refine x_get C d_M_count_25 0 rfl rfl i_M 4 (by decide) lk_M_22 rfl rfl ?_
      refine x_aload_n C d_M_count_28 rfl rfl ?_
      refine x_get C d_M_count_29 0 rfl rfl i_M 5 (by decide) lk_M_54 rfl rfl ?_
      refine x_iald C d_M_count_32 4 rfl (by omega) (by omega) ?_
      refine x_top (y := (nI (off (iS (st ++ [p])) st.length + 2 * p.2.length))) hbt ?_
      refine x_icmp_geN (tgt := 60) C d_M_count_33 (by decide) (by omega) (by omega) (fun c33 => ?_) (fun c33 => ?_)
      · exact absurd c33 (by omega)
      · refine x_iload_n C d_M_count_36 rfl rfl ?_
        refine x_aload_n C d_M_count_37 rfl rfl ?_
        refine x_get C d_M_count_38 0 rfl rfl i_M 3 (by decide) lk_M_19 rfl rfl ?_
        refine x_iload_n C d_M_count_41 rfl rfl ?_
        refine x_iconst (v := (nI (1))) C d_M_count_42 (by decide) ?_
        refine x_iaddN C d_M_count_43  ?_
        refine x_iald C d_M_count_44 3 rfl (by omega) (by omega) ?_
        refine x_top (y := (nI (q.2))) hsq.2 ?_
        refine x_aload_n C d_M_count_45 rfl rfl ?_
        refine x_get C d_M_count_46 0 rfl rfl i_M 3 (by decide) lk_M_19 rfl rfl ?_
        refine x_iload_n C d_M_count_49 rfl rfl ?_
        refine x_iald C d_M_count_50 3 rfl (by omega) (by omega) ?_
        refine x_top (y := (nI (q.1))) hsq.1 ?_
        refine x_isubN C d_M_count_51 (by omega) ?_
        refine x_iaddN C d_M_count_52  ?_
        refine x_top (y := (nI (sI (p.2.take (i + 1))))) (by rw [take_snoc hq, sI_snoc]) ?_
        refine x_istore_n (lv' := [(1, .int (nI (sI (p.2.take (i + 1))))), (2, .int (nI kk)), (0, .ref h)]) C d_M_count_53 rfl (by decide) rfl ?_
        refine x_iinc (v := (nI (kk + 2))) (lv' := [(2, .int (nI (kk + 2))), (1, .int (nI (sI (p.2.take (i + 1))))), (0, .ref h)]) C d_M_count_54 rfl (nI_add _ 2) (by decide) rfl ?_
        refine x_goto (tgt := 23) C d_M_count_57 (by decide) ?_
        refine x_lv (lv' := [(2, .int (nI (kk + 2))), (1, .int (nI (sI (p.2.take (i + 1))))), (0, .ref h)]) (Or.inr (List.forall_mem_cons.mpr ⟨rfl, List.forall_mem_cons.mpr ⟨rfl, List.forall_mem_cons.mpr ⟨rfl, fun _ h9 => absurd h9 List.not_mem_nil⟩⟩⟩)) ?_
        exact ih (i + 1) (kk + 2) (by omega) (by omega)
  refine x_aload_n C d_M_count_0 rfl rfl ?_
  refine x_get C d_M_count_1 0 rfl rfl i_M 5 (by decide) lk_M_54 rfl rfl ?_
  refine x_if_neN (tgt := 9) C d_M_count_4 (by decide) (by omega) (fun c4 => ?_) (fun c4 => ?_)
  · refine x_iconst (v := (nI (0))) C d_M_count_9 (by decide) ?_
    refine x_istore_n (lv' := [(1, .int (nI 0)), (0, .ref h)]) C d_M_count_10 rfl (by decide) rfl ?_
    refine x_aload_n C d_M_count_11 rfl rfl ?_
    refine x_get C d_M_count_12 0 rfl rfl i_M 4 (by decide) lk_M_22 rfl rfl ?_
    refine x_aload_n C d_M_count_15 rfl rfl ?_
    refine x_get C d_M_count_16 0 rfl rfl i_M 5 (by decide) lk_M_54 rfl rfl ?_
    refine x_iconst (v := (nI (1))) C d_M_count_19 (by decide) ?_
    refine x_isubN C d_M_count_20 (by omega) ?_
    refine x_top (y := (nI (st.length))) (by congr 1) ?_
    refine x_iald C d_M_count_21 4 rfl (by omega) (by omega) ?_
    refine x_top (y := (nI (off (iS (st ++ [p])) st.length))) hb0 ?_
    refine x_istore_n (lv' := [(2, .int (nI (off (iS (st ++ [p])) st.length))), (1, .int (nI 0)), (0, .ref h)]) C d_M_count_22 rfl (by decide) rfl ?_
    refine x_lv (lv' := [(2, .int (nI (off (iS (st ++ [p])) st.length))), (1, .int (nI 0)), (0, .ref h)]) (Or.inr (List.forall_mem_cons.mpr ⟨rfl, List.forall_mem_cons.mpr ⟨rfl, List.forall_mem_cons.mpr ⟨rfl, fun _ h9 => absurd h9 List.not_mem_nil⟩⟩⟩)) ?_
    exact LP p.2.length 0 (off (iS (st ++ [p])) st.length) (by omega) rfl
  · exact absurd c4 (by omega)
set_option maxHeartbeats 4000000 in
theorem c_M_after_none {l : Launch} {D : va_G} {cA : ClassId} {h e0 v0 l0 b0 rn : Nat} {E V L B : Nat → Int32} {pl sn wa wf : Int32} {x : Int32} (hB : B 0 = nI 0)  : CtI l D cA y_M_after b_M_after 3 (some .int) ({ frames := 0, cells := 0, slots := 0, locals := 0 } : Room) [.ref h, .int x] (mW cA h e0 v0 l0 b0 E V L B rn 0 pl sn wa wf) (fun r (_ : Unit) => r = -1) (fun _ => (mW cA h e0 v0 l0 b0 E V L B rn 0 pl sn wa wf)) := by
  refine CtI.start (lv0 := [(0, .ref h), (1, .int x)]) (by decide) rfl (Nat.le_of_ble_eq_true rfl) ?_
  intro p_ e_ s_ m_ args_ below_ meth_ c_ A_ C hr hin
  refine x_aload_n C d_M_after_0 rfl rfl ?_
  refine x_get C d_M_after_1 0 rfl rfl i_M 5 (by decide) lk_M_54 rfl rfl ?_
  refine x_if_neN (tgt := 11) C d_M_after_4 (by decide) (by omega) (fun c4 => ?_) (fun c4 => ?_)
  · exact absurd c4 (by omega)
  · refine x_iconst (v := (nI (0))) C d_M_after_7 (by decide) ?_
    refine x_goto (tgt := 22) C d_M_after_8 (by decide) ?_
    refine x_istore_n (lv' := [(2, .int (nI 0)), (0, .ref h), (1, .int x)]) C d_M_after_22 rfl (by decide) rfl ?_
    refine x_iload_n C d_M_after_23 rfl rfl ?_
    refine x_aload_n C d_M_after_24 rfl rfl ?_
    refine x_get C d_M_after_25 0 rfl rfl i_M 4 (by decide) lk_M_22 rfl rfl ?_
    refine x_aload_n C d_M_after_28 rfl rfl ?_
    refine x_get C d_M_after_29 0 rfl rfl i_M 5 (by decide) lk_M_54 rfl rfl ?_
    refine x_iald C d_M_after_32 4 rfl (by omega) (by omega) ?_
    refine x_top (y := (nI (0))) hB ?_
    refine x_icmp_geN (tgt := 79) C d_M_after_33 (by decide) (by omega) (by omega) (fun c33 => ?_) (fun c33 => ?_)
    · refine x_iconst (v := ((-1))) C d_M_after_79 (by decide) ?_
      exact x_iret C hr d_M_after_80 () rfl (rfl)
    · exact absurd c33 (by omega)
set_option maxHeartbeats 4000000 in
theorem c_M_after_neg {l : Launch} {D : va_G} {cA : ClassId} {h e0 v0 l0 b0 rn ns : Nat} {E V L B : Nat → Int32} {pl sn wa wf : Int32} {en : Nat → Nat} {vl : Nat → Nat → Nat} (hE : Rn E V rn en vl) {n : Nat} {st : List ((Nat → Bool) × List (Nat × Nat))} {p : (Nat → Bool) × List (Nat × Nat)} (hn : bnd en rn = n) (hO : Ok en rn (st ++ [p])) (hL : Hs 200000 15 L B (iS (st ++ [p]))) (hns : st.length + 1 = ns) {x : Int32} (hx : x < 0)  : CtI l D cA y_M_after b_M_after 3 (some .int) ({ frames := 0, cells := 0, slots := 0, locals := 0 } : Room) [.ref h, .int x] (mW cA h e0 v0 l0 b0 E V L B rn ns pl sn wa wf) (fun r (_ : Unit) => fst p.1 0 r) (fun _ => (mW cA h e0 v0 l0 b0 E V L B rn ns pl sn wa wf)) := by
  subst hns
  refine CtI.start (lv0 := [(0, .ref h), (1, .int x)]) (by decide) rfl (Nat.le_of_ble_eq_true rfl) ?_
  intro p_ e_ s_ m_ args_ below_ meth_ c_ A_ C hr hin
  have hnm := hL.nums
  have hil := iS_len (st ++ [p])
  rw [List.length_append, List.length_singleton] at hil
  rw [hil] at hnm
  have hsp : (st ++ [p])[st.length]? = some p := by simp
  have hs0 := set_in hO hL hsp
  have htt : off (iS (st ++ [p])) (st.length + 1) = tot (iS (st ++ [p])) := by rw [← hil]; exact off_len _
  have hbt : B (st.length + 1) = nI (off (iS (st ++ [p])) st.length + 2 * p.2.length) := by rw [hL.bd (by omega), hs0.2.2.1]
  have hb0 : B st.length = nI (off (iS (st ++ [p])) st.length) := hL.bd (by omega)
  have hiv : Iv n p.1 p.2 := by rw [← hn]; exact hs0.1.iv hE (Nat.le_refl _)
  have hn2 : n ≤ 1000000 := by rw [← hn]; exact bnd_le hE rn (Nat.le_refl _)
  by_cases hJ0 : p.2.length = 0
  · refine x_aload_n C d_M_after_0 rfl rfl ?_
    refine x_get C d_M_after_1 0 rfl rfl i_M 5 (by decide) lk_M_54 rfl rfl ?_
    refine x_if_neN (tgt := 11) C d_M_after_4 (by decide) (by omega) (fun c4 => ?_) (fun c4 => ?_)
    · refine x_aload_n C d_M_after_11 rfl rfl ?_
      refine x_get C d_M_after_12 0 rfl rfl i_M 4 (by decide) lk_M_22 rfl rfl ?_
      refine x_aload_n C d_M_after_15 rfl rfl ?_
      refine x_get C d_M_after_16 0 rfl rfl i_M 5 (by decide) lk_M_54 rfl rfl ?_
      refine x_iconst (v := (nI (1))) C d_M_after_19 (by decide) ?_
      refine x_isubN C d_M_after_20 (by omega) ?_
      refine x_top (y := (nI (st.length))) (by congr 1) ?_
      refine x_iald C d_M_after_21 4 rfl (by omega) (by omega) ?_
      refine x_top (y := (nI (off (iS (st ++ [p])) st.length))) hb0 ?_
      refine x_istore_n (lv' := [(2, .int (nI (off (iS (st ++ [p])) st.length))), (0, .ref h), (1, .int x)]) C d_M_after_22 rfl (by decide) rfl ?_
      refine x_iload_n C d_M_after_23 rfl rfl ?_
      refine x_aload_n C d_M_after_24 rfl rfl ?_
      refine x_get C d_M_after_25 0 rfl rfl i_M 4 (by decide) lk_M_22 rfl rfl ?_
      refine x_aload_n C d_M_after_28 rfl rfl ?_
      refine x_get C d_M_after_29 0 rfl rfl i_M 5 (by decide) lk_M_54 rfl rfl ?_
      refine x_iald C d_M_after_32 4 rfl (by omega) (by omega) ?_
      refine x_top (y := (nI (off (iS (st ++ [p])) st.length + 2 * p.2.length))) hbt ?_
      refine x_icmp_geN (tgt := 79) C d_M_after_33 (by decide) (by omega) (by omega) (fun c33 => ?_) (fun c33 => ?_)
      · refine x_iconst (v := ((-1))) C d_M_after_79 (by decide) ?_
        exact x_iret C hr d_M_after_80 () rfl (aft_none hiv (fun k q h9 => absurd (List.getElem?_eq_some_iff.mp h9).1 (by omega)))
      · exact absurd c33 (by omega)
    · exact absurd c4 (by omega)
  · obtain ⟨q, hq⟩ : ∃ q, p.2[0]? = some q := ⟨p.2[0], List.getElem?_eq_getElem (by omega)⟩
    have hsq := hs0.2.1 0 q hq
    rw [Nat.mul_zero, Nat.add_zero] at hsq
    have hq1 := ivs_at hiv.1 hq
    have hq2 := hiv.2.1 q (List.mem_of_getElem? hq)
    have hneg : ∀ y : Nat, y < 2 ^ 31 → ¬ nI y ≤ x := fun y hy h9 => absurd hx (Int32.not_lt.mpr (Int32.le_trans (nI_pos' hy) h9))
    refine x_aload_n C d_M_after_0 rfl rfl ?_
    refine x_get C d_M_after_1 0 rfl rfl i_M 5 (by decide) lk_M_54 rfl rfl ?_
    refine x_if_neN (tgt := 11) C d_M_after_4 (by decide) (by omega) (fun c4 => ?_) (fun c4 => ?_)
    · refine x_aload_n C d_M_after_11 rfl rfl ?_
      refine x_get C d_M_after_12 0 rfl rfl i_M 4 (by decide) lk_M_22 rfl rfl ?_
      refine x_aload_n C d_M_after_15 rfl rfl ?_
      refine x_get C d_M_after_16 0 rfl rfl i_M 5 (by decide) lk_M_54 rfl rfl ?_
      refine x_iconst (v := (nI (1))) C d_M_after_19 (by decide) ?_
      refine x_isubN C d_M_after_20 (by omega) ?_
      refine x_top (y := (nI (st.length))) (by congr 1) ?_
      refine x_iald C d_M_after_21 4 rfl (by omega) (by omega) ?_
      refine x_top (y := (nI (off (iS (st ++ [p])) st.length))) hb0 ?_
      refine x_istore_n (lv' := [(2, .int (nI (off (iS (st ++ [p])) st.length))), (0, .ref h), (1, .int x)]) C d_M_after_22 rfl (by decide) rfl ?_
      refine x_iload_n C d_M_after_23 rfl rfl ?_
      refine x_aload_n C d_M_after_24 rfl rfl ?_
      refine x_get C d_M_after_25 0 rfl rfl i_M 4 (by decide) lk_M_22 rfl rfl ?_
      refine x_aload_n C d_M_after_28 rfl rfl ?_
      refine x_get C d_M_after_29 0 rfl rfl i_M 5 (by decide) lk_M_54 rfl rfl ?_
      refine x_iald C d_M_after_32 4 rfl (by omega) (by omega) ?_
      refine x_top (y := (nI (off (iS (st ++ [p])) st.length + 2 * p.2.length))) hbt ?_
      refine x_icmp_geN (tgt := 79) C d_M_after_33 (by decide) (by omega) (by omega) (fun c33 => ?_) (fun c33 => ?_)
      · exact absurd c33 (by omega)
      · refine x_aload_n C d_M_after_36 rfl rfl ?_
        refine x_get C d_M_after_37 0 rfl rfl i_M 3 (by decide) lk_M_19 rfl rfl ?_
        refine x_iload_n C d_M_after_40 rfl rfl ?_
        refine x_iconst (v := (nI (1))) C d_M_after_41 (by decide) ?_
        refine x_iaddN C d_M_after_42  ?_
        refine x_iald C d_M_after_43 3 rfl (by omega) (by omega) ?_
        refine x_top (y := (nI (q.2))) hsq.2 ?_
        refine x_iconst (v := (nI (1))) C d_M_after_44 (by decide) ?_
        refine x_isubN C d_M_after_45 (by omega) ?_
        refine x_iload_n C d_M_after_46 rfl rfl ?_
        refine x_icmp_le (tgt := 73) C d_M_after_47 (by decide)  (fun c47 => ?_) (fun c47 => ?_)
        · exact absurd c47 (hneg _ (by omega))
        · refine x_aload_n C d_M_after_50 rfl rfl ?_
          refine x_get C d_M_after_51 0 rfl rfl i_M 3 (by decide) lk_M_19 rfl rfl ?_
          refine x_iload_n C d_M_after_54 rfl rfl ?_
          refine x_iald C d_M_after_55 3 rfl (by omega) (by omega) ?_
          refine x_top (y := (nI (q.1))) hsq.1 ?_
          refine x_iload_n C d_M_after_56 rfl rfl ?_
          refine x_icmp_le (tgt := 69) C d_M_after_57 (by decide)  (fun c57 => ?_) (fun c57 => ?_)
          · exact absurd c57 (hneg _ (by omega))
          · refine x_aload_n C d_M_after_60 rfl rfl ?_
            refine x_get C d_M_after_61 0 rfl rfl i_M 3 (by decide) lk_M_19 rfl rfl ?_
            refine x_iload_n C d_M_after_64 rfl rfl ?_
            refine x_iald C d_M_after_65 3 rfl (by omega) (by omega) ?_
            refine x_top (y := (nI (q.1))) hsq.1 ?_
            refine x_goto (tgt := 72) C d_M_after_66 (by decide) ?_
            exact x_iret C hr d_M_after_72 () rfl (by have h9 := aft_at (row := 0) hiv hq (fun k _ h8 => absurd h8 (Nat.not_lt_zero k)) (by omega); rw [Nat.max_eq_left (Nat.zero_le _)] at h9; exact h9)
    · exact absurd c4 (by omega)
set_option maxHeartbeats 4000000 in
theorem c_M_after_pos {l : Launch} {D : va_G} {cA : ClassId} {h e0 v0 l0 b0 rn ns : Nat} {E V L B : Nat → Int32} {pl sn wa wf : Int32} {en : Nat → Nat} {vl : Nat → Nat → Nat} (hE : Rn E V rn en vl) {n : Nat} {st : List ((Nat → Bool) × List (Nat × Nat))} {p : (Nat → Bool) × List (Nat × Nat)} (hn : bnd en rn = n) (hO : Ok en rn (st ++ [p])) (hL : Hs 200000 15 L B (iS (st ++ [p]))) (hns : st.length + 1 = ns) {j : Nat} (hj : j < 2 ^ 31)  : CtI l D cA y_M_after b_M_after 3 (some .int) ({ frames := 0, cells := 0, slots := 0, locals := 0 } : Room) [.ref h, .int (nI j)] (mW cA h e0 v0 l0 b0 E V L B rn ns pl sn wa wf) (fun r (_ : Unit) => fst p.1 (j + 1) r) (fun _ => (mW cA h e0 v0 l0 b0 E V L B rn ns pl sn wa wf)) := by
  subst hns
  refine CtI.start (lv0 := [(0, .ref h), (1, .int (nI j))]) (by decide) rfl (Nat.le_of_ble_eq_true rfl) ?_
  intro p_ e_ s_ m_ args_ below_ meth_ c_ A_ C hr hin
  have hnm := hL.nums
  have hil := iS_len (st ++ [p])
  rw [List.length_append, List.length_singleton] at hil
  rw [hil] at hnm
  have hsp : (st ++ [p])[st.length]? = some p := by simp
  have hs0 := set_in hO hL hsp
  have htt : off (iS (st ++ [p])) (st.length + 1) = tot (iS (st ++ [p])) := by rw [← hil]; exact off_len _
  have hbt : B (st.length + 1) = nI (off (iS (st ++ [p])) st.length + 2 * p.2.length) := by rw [hL.bd (by omega), hs0.2.2.1]
  have hb0 : B st.length = nI (off (iS (st ++ [p])) st.length) := hL.bd (by omega)
  have hiv : Iv n p.1 p.2 := by rw [← hn]; exact hs0.1.iv hE (Nat.le_refl _)
  have hn2 : n ≤ 1000000 := by rw [← hn]; exact bnd_le hE rn (Nat.le_refl _)
  have LP : ∀ (d i kk : Nat), i + d = p.2.length → kk = off (iS (st ++ [p])) st.length + 2 * i → (∀ k q, k < i → p.2[k]? = some q → q.2 ≤ j + 1) → X p_ l e_ ({ frames := 0, cells := 0, slots := 0, locals := 0 } : Room) s_ m_ args_ below_ meth_ c_ D A_ 3 0 0 (MQ below_ (va_Qi (fun r (_ : Unit) => fst p.1 (j + 1) r) (Bw D A_ (fun _ => (mW cA h e0 v0 l0 b0 E V L B rn (st.length + 1) pl sn wa wf))) A_) args_ s_ 0 0 A_) [(h, .inr (2, [.ref e0, .ref v0, .int (nI rn), .ref l0, .ref b0, .int (nI (st.length + 1)), .int pl, .int sn, .int wa, .int wf])), (e0, .inl (cA, 33000, .inl (E))), (v0, .inl (cA, 66000, .inl (V))), (l0, .inl (cA, 200000, .inl (L))), (b0, .inl (cA, 15, .inl (B)))] 23 [(2, .int (nI kk)), (0, .ref h), (1, .int (nI j))] [] := by
    intro d
    induction d with
    | zero =>
      intro i kk hi hkk hlo
      refine x_iload_n C d_M_after_23 rfl rfl ?_
      refine x_aload_n C d_M_after_24 rfl rfl ?_
      refine x_get C d_M_after_25 0 rfl rfl i_M 4 (by decide) lk_M_22 rfl rfl ?_
      refine x_aload_n C d_M_after_28 rfl rfl ?_
      refine x_get C d_M_after_29 0 rfl rfl i_M 5 (by decide) lk_M_54 rfl rfl ?_
      refine x_iald C d_M_after_32 4 rfl (by omega) (by omega) ?_
      refine x_top (y := (nI (off (iS (st ++ [p])) st.length + 2 * p.2.length))) hbt ?_
      refine x_icmp_geN (tgt := 79) C d_M_after_33 (by decide) (by omega) (by omega) (fun c33 => ?_) (fun c33 => ?_)
      · refine x_iconst (v := ((-1))) C d_M_after_79 (by decide) ?_
        exact x_iret C hr d_M_after_80 () rfl (aft_none hiv (fun k q h9 => hlo k q (by have := (List.getElem?_eq_some_iff.mp h9).1; omega) h9))
      · exact absurd c33 (by omega)
    | succ d ih =>
      intro i kk hi hkk hlo
      obtain ⟨q, hq⟩ : ∃ q, p.2[i]? = some q := ⟨p.2[i], List.getElem?_eq_getElem (by omega)⟩
      have hsq := hs0.2.1 i q hq
      rw [← hkk] at hsq
      have hq1 := ivs_at hiv.1 hq
      have hq2 := hiv.2.1 q (List.mem_of_getElem? hq)
      have hup : q.2 ≤ j + 1 → ∀ k q2, k < i + 1 → p.2[k]? = some q2 → q2.2 ≤ j + 1 := by
        intro h0 k q2 h1 h2
        rcases Nat.lt_or_ge k i with h3 | h3
        · exact hlo k q2 h3 h2
        · have h4 : k = i := by omega
          subst h4
          rw [hq] at h2
          cases h2
          exact h0
      refine x_iload_n C d_M_after_23 rfl rfl ?_
      refine x_aload_n C d_M_after_24 rfl rfl ?_
      refine x_get C d_M_after_25 0 rfl rfl i_M 4 (by decide) lk_M_22 rfl rfl ?_
      refine x_aload_n C d_M_after_28 rfl rfl ?_
      refine x_get C d_M_after_29 0 rfl rfl i_M 5 (by decide) lk_M_54 rfl rfl ?_
      refine x_iald C d_M_after_32 4 rfl (by omega) (by omega) ?_
      refine x_top (y := (nI (off (iS (st ++ [p])) st.length + 2 * p.2.length))) hbt ?_
      refine x_icmp_geN (tgt := 79) C d_M_after_33 (by decide) (by omega) (by omega) (fun c33 => ?_) (fun c33 => ?_)
      · exact absurd c33 (by omega)
      · refine x_aload_n C d_M_after_36 rfl rfl ?_
        refine x_get C d_M_after_37 0 rfl rfl i_M 3 (by decide) lk_M_19 rfl rfl ?_
        refine x_iload_n C d_M_after_40 rfl rfl ?_
        refine x_iconst (v := (nI (1))) C d_M_after_41 (by decide) ?_
        refine x_iaddN C d_M_after_42  ?_
        refine x_iald C d_M_after_43 3 rfl (by omega) (by omega) ?_
        refine x_top (y := (nI (q.2))) hsq.2 ?_
        refine x_iconst (v := (nI (1))) C d_M_after_44 (by decide) ?_
        refine x_isubN C d_M_after_45 (by omega) ?_
        refine x_iload_n C d_M_after_46 rfl rfl ?_
        refine x_icmp_leN (tgt := 73) C d_M_after_47 (by decide) (by omega) (by omega) (fun c47 => ?_) (fun c47 => ?_)
        · refine x_iinc (v := (nI (kk + 2))) (lv' := [(2, .int (nI (kk + 2))), (0, .ref h), (1, .int (nI j))]) C d_M_after_73 rfl (nI_add _ 2) (by decide) rfl ?_
          refine x_goto (tgt := 23) C d_M_after_76 (by decide) ?_
          refine x_lv (lv' := [(2, .int (nI (kk + 2))), (0, .ref h), (1, .int (nI j))]) (Or.inr (List.forall_mem_cons.mpr ⟨rfl, List.forall_mem_cons.mpr ⟨rfl, List.forall_mem_cons.mpr ⟨rfl, fun _ h9 => absurd h9 List.not_mem_nil⟩⟩⟩)) ?_
          exact ih (i + 1) (kk + 2) (by omega) (by omega) (hup (by omega))
        · refine x_aload_n C d_M_after_50 rfl rfl ?_
          refine x_get C d_M_after_51 0 rfl rfl i_M 3 (by decide) lk_M_19 rfl rfl ?_
          refine x_iload_n C d_M_after_54 rfl rfl ?_
          refine x_iald C d_M_after_55 3 rfl (by omega) (by omega) ?_
          refine x_top (y := (nI (q.1))) hsq.1 ?_
          refine x_iload_n C d_M_after_56 rfl rfl ?_
          refine x_icmp_leN (tgt := 69) C d_M_after_57 (by decide) (by omega) (by omega) (fun c57 => ?_) (fun c57 => ?_)
          · refine x_iload_n C d_M_after_69 rfl rfl ?_
            refine x_iconst (v := (nI (1))) C d_M_after_70 (by decide) ?_
            refine x_iaddN C d_M_after_71  ?_
            exact x_iret C hr d_M_after_72 () rfl (by have h9 := aft_at (row := j + 1) hiv hq hlo (by omega); rw [Nat.max_eq_right (by omega)] at h9; exact h9)
          · refine x_aload_n C d_M_after_60 rfl rfl ?_
            refine x_get C d_M_after_61 0 rfl rfl i_M 3 (by decide) lk_M_19 rfl rfl ?_
            refine x_iload_n C d_M_after_64 rfl rfl ?_
            refine x_iald C d_M_after_65 3 rfl (by omega) (by omega) ?_
            refine x_top (y := (nI (q.1))) hsq.1 ?_
            refine x_goto (tgt := 72) C d_M_after_66 (by decide) ?_
            exact x_iret C hr d_M_after_72 () rfl (by have h9 := aft_at (row := j + 1) hiv hq hlo (by omega); rw [Nat.max_eq_left (by omega)] at h9; exact h9)
  refine x_aload_n C d_M_after_0 rfl rfl ?_
  refine x_get C d_M_after_1 0 rfl rfl i_M 5 (by decide) lk_M_54 rfl rfl ?_
  refine x_if_neN (tgt := 11) C d_M_after_4 (by decide) (by omega) (fun c4 => ?_) (fun c4 => ?_)
  · refine x_aload_n C d_M_after_11 rfl rfl ?_
    refine x_get C d_M_after_12 0 rfl rfl i_M 4 (by decide) lk_M_22 rfl rfl ?_
    refine x_aload_n C d_M_after_15 rfl rfl ?_
    refine x_get C d_M_after_16 0 rfl rfl i_M 5 (by decide) lk_M_54 rfl rfl ?_
    refine x_iconst (v := (nI (1))) C d_M_after_19 (by decide) ?_
    refine x_isubN C d_M_after_20 (by omega) ?_
    refine x_top (y := (nI (st.length))) (by congr 1) ?_
    refine x_iald C d_M_after_21 4 rfl (by omega) (by omega) ?_
    refine x_top (y := (nI (off (iS (st ++ [p])) st.length))) hb0 ?_
    refine x_istore_n (lv' := [(2, .int (nI (off (iS (st ++ [p])) st.length))), (0, .ref h), (1, .int (nI j))]) C d_M_after_22 rfl (by decide) rfl ?_
    refine x_lv (lv' := [(2, .int (nI (off (iS (st ++ [p])) st.length))), (0, .ref h), (1, .int (nI j))]) (Or.inr (List.forall_mem_cons.mpr ⟨rfl, List.forall_mem_cons.mpr ⟨rfl, List.forall_mem_cons.mpr ⟨rfl, fun _ h9 => absurd h9 List.not_mem_nil⟩⟩⟩)) ?_
    exact LP p.2.length 0 (off (iS (st ++ [p])) st.length) (by omega) rfl (fun k _ h8 => absurd h8 (Nat.not_lt_zero k))
  · exact absurd c4 (by omega)
