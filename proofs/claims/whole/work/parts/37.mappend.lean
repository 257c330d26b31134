/-! the reference: append, its constructor -/
theorem fvk_congr {en en' : Nat → Nat} {vl vl' : Nat → Nat → Nat} {c v : Nat} : ∀ {k : Nat}, (∀ i, i < k → en' i = en i ∧ vl' i c = vl i c) → fvk en' vl' c v k = fvk en vl c v k
  | 0, _ => rfl
  | k + 1, h => by
    funext r
    have h1 := fvk_congr (v := v) (k := k) (fun i hi => h i (by omega))
    have h2 := h k (by omega)
    have h3 : bnd en' k = bnd en k := by
      cases k with
      | zero => rfl
      | succ k => exact (h k (by omega)).1
    show (fvk en' vl' c v k r || _) = (fvk en vl c v k r || _)
    rw [h1, h3, h2.1, h2.2]
theorem cS_congr {n : Nat} {F F' : Nat → Nat → Bool} : ∀ {k : Nat}, (∀ v, v < k → F v = F' v) → cS n F k = cS n F' k
  | 0, _ => rfl
  | k + 1, h => by rw [cS_succ, cS_succ, cS_congr (k := k) (fun v hv => h v (by omega)), h k (by omega)]
def apF (en : Nat → Nat) (vl : Nat → Nat → Nat) (rn n m a b v : Nat) : Nat → Bool := addr (FM en vl rn v) n m (decide (v % 16 = if v / 16 = 0 then a else b))
def Nrun (en' : Nat → Nat) (vl' : Nat → Nat → Nat) (rn' : Nat) (en : Nat → Nat) (vl : Nat → Nat → Nat) (rn n m a b : Nat) : Prop := bnd en' rn' = n + m ∧ (∀ v, v < 32 → FM en' vl' rn' v = apF en vl rn n m a b v) ∧ rn' ≤ rn + 1
theorem app_new {E V : Nat → Int32} {rn : Nat} {en : Nat → Nat} {vl : Nat → Nat → Nat} {n m a b : Nat} (h : Rn E V rn en vl) (hn : bnd en rn = n) (ha : a < 16) (hb : b < 16) (hm : 1 ≤ m) (hl : n + m ≤ 1000000) (hr : rn < 520) : ∃ en' vl', Rn (upd E rn (nI (n + m))) (upd (upd V (2 * rn) (nI a)) (2 * rn + 1) (nI b)) (rn + 1) en' vl' ∧ Nrun en' vl' (rn + 1) en vl rn n m a b := by
  have hbk : ∀ k, k ≤ rn → bnd (fun i => if i = rn then n + m else en i) k = bnd en k := by
    intro k hk
    cases k with
    | zero => rfl
    | succ k => exact if_neg (by omega)
  refine ⟨fun k => if k = rn then n + m else en k, fun k c => if k = rn then (if c = 0 then a else b) else vl k c, ⟨by omega, fun k hk => ?_, fun k c hk hc => ?_⟩, ?_, fun v hv => ?_, Nat.le_refl _⟩
  · rw [hbk k (by omega)]
    dsimp only
    by_cases h1 : k = rn
    · subst h1
      rw [pk_us, if_pos rfl]
      exact ⟨rfl, by omega, hl⟩
    · rw [pk_un h1, if_neg h1]
      exact h.2.1 k (by omega)
  · dsimp only
    by_cases h1 : k = rn
    · subst h1
      rw [if_pos rfl]
      rcases (show c = 0 ∨ c = 1 by omega) with rfl | rfl
      · rw [pk_un (by omega), show 2 * k + 0 = 2 * k from rfl, pk_us]
        exact ⟨rfl, ha⟩
      · rw [pk_us]
        exact ⟨rfl, hb⟩
    · rw [if_neg h1, pk_un (by omega), pk_un (by omega)]
      exact h.2.2 k c (by omega) hc
  · show (if rn = rn then n + m else en rn) = n + m
    rw [if_pos rfl]
  · unfold FM apF FM
    funext r
    have h1 := fvk_congr (en := en) (en' := fun k => if k = rn then n + m else en k) (vl := vl) (vl' := fun k c => if k = rn then (if c = 0 then a else b) else vl k c) (c := v / 16) (v := v % 16) (k := rn) (fun i hi => ⟨if_neg (by omega), if_neg (by omega)⟩)
    show (fvk _ _ (v / 16) (v % 16) rn r || _) = _
    rw [h1, hbk rn (Nat.le_refl _), hn]
    simp only [↓reduceIte]
    unfold addr
    congr 1
    rw [Bool.and_comm]
    congr 1
    congr 1
    exact propext ⟨fun q => q.symm, fun q => q.symm⟩
theorem app_ext {E V : Nat → Int32} {q : Nat} {en : Nat → Nat} {vl : Nat → Nat → Nat} {n m a b : Nat} (h : Rn E V (q + 1) en vl) (hn : bnd en (q + 1) = n) (ha : a < 16) (hb : b < 16) (hm : 1 ≤ m) (hl : n + m ≤ 1000000) (ha2 : vl q 0 = a) (hb2 : vl q 1 = b) : ∃ en' vl', Rn (upd E q (nI (n + m))) (upd (upd V (2 * q) (nI a)) (2 * q + 1) (nI b)) (q + 1) en' vl' ∧ Nrun en' vl' (q + 1) en vl (q + 1) n m a b := by
  have hq := h.2.1 q (by omega)
  have hn' : en q = n := hn
  have hbk : ∀ k, k ≤ q → bnd (fun i => if i = q then n + m else en i) k = bnd en k := by
    intro k hk
    cases k with
    | zero => rfl
    | succ k => exact if_neg (by omega)
  refine ⟨fun k => if k = q then n + m else en k, vl, ⟨h.1, fun k hk => ?_, fun k c hk hc => ?_⟩, ?_, fun v hv => ?_, by omega⟩
  · rw [hbk k (by omega)]
    dsimp only
    by_cases h1 : k = q
    · subst h1
      rw [pk_us, if_pos rfl]
      exact ⟨rfl, by omega, hl⟩
    · rw [pk_un h1, if_neg h1]
      exact h.2.1 k (by omega)
  · by_cases h1 : k = q
    · subst h1
      rcases (show c = 0 ∨ c = 1 by omega) with rfl | rfl
      · rw [pk_un (by omega), show 2 * k + 0 = 2 * k from rfl, pk_us, ha2]
        exact ⟨rfl, ha⟩
      · rw [pk_us, hb2]
        exact ⟨rfl, hb⟩
    · rw [pk_un (by omega), pk_un (by omega)]
      exact h.2.2 k c (by omega) hc
  · show (if q = q then n + m else en q) = n + m
    rw [if_pos rfl]
  · unfold FM apF FM
    funext r
    have h1 := fvk_congr (en := en) (en' := fun k => if k = q then n + m else en k) (vl := vl) (vl' := vl) (c := v / 16) (v := v % 16) (k := q) (fun i hi => ⟨if_neg (by omega), rfl⟩)
    have hc : vl q (v / 16) = if v / 16 = 0 then a else b := by
      rcases (show v / 16 = 0 ∨ v / 16 = 1 by omega) with e | e
      · rw [e, if_pos rfl]; exact ha2
      · rw [e, if_neg (by omega)]; exact hb2
    show (fvk _ vl (v / 16) (v % 16) q r || _) = addr (fun r => fvk en vl (v / 16) (v % 16) q r || _) n m _ r
    rw [h1, hbk q (Nat.le_refl _), hc]
    simp only [↓reduceIte]
    unfold addr
    dsimp only
    rw [hn', Bool.or_assoc]
    congr 1
    by_cases e : v % 16 = if v / 16 = 0 then a else b
    · have e2 : (if v / 16 = 0 then a else b) = v % 16 := e.symm
      rw [decide_eq_true e2, decide_eq_true e, Bool.and_true, Bool.and_true, Bool.true_and, ← Bool.decide_and, ← Bool.decide_and, ← Bool.decide_and, ← Bool.decide_or]
      congr 1
      have := hq.2.1
      exact propext ⟨fun z => by omega, fun z => by omega⟩
    · have e2 : ¬ (if v / 16 = 0 then a else b) = v % 16 := fun z => e z.symm
      rw [decide_eq_false e2, decide_eq_false e]
      simp
theorem app_back {E V : Nat → Int32} {rn : Nat} {en : Nat → Nat} {vl : Nat → Nat → Nat} {n x : Nat} {y z : Int32} (h : Rn E V rn en vl) : Rn (upd (upd E rn y) rn (nI n)) (upd (upd V (2 * rn) z) (2 * rn + 1) (nI x)) rn en vl := ⟨h.1, fun k hk => by rw [pk_un (by omega), pk_un (by omega)]; exact h.2.1 k hk, fun k c hk hc => by rw [pk_un (by omega), pk_un (by omega)]; exact h.2.2 k c hk hc⟩
theorem app_back2 {E V : Nat → Int32} {q : Nat} {en : Nat → Nat} {vl : Nat → Nat → Nat} {n a b : Nat} {y : Int32} (h : Rn E V (q + 1) en vl) (hn : bnd en (q + 1) = n) (ha2 : vl q 0 = a) (hb2 : vl q 1 = b) : Rn (upd (upd E q y) q (nI n)) (upd (upd V (2 * q) (nI a)) (2 * q + 1) (nI b)) (q + 1) en vl := by
  have hn' : en q = n := hn
  refine ⟨h.1, fun k hk => ?_, fun k c hk hc => ?_⟩
  · by_cases h1 : k = q
    · subst h1
      have h2 := h.2.1 k hk
      rw [pk_us, hn']
      exact ⟨rfl, by omega, by omega⟩
    · rw [pk_un h1, pk_un h1]
      exact h.2.1 k hk
  · by_cases h1 : k = q
    · subst h1
      have h2 := h.2.2 k c hk hc
      rcases (show c = 0 ∨ c = 1 by omega) with rfl | rfl
      · rw [pk_un (by omega), show 2 * k + 0 = 2 * k from rfl, pk_us, ha2]
        exact ⟨rfl, by omega⟩
      · rw [pk_us, hb2]
        exact ⟨rfl, by omega⟩
    · rw [pk_un (by omega), pk_un (by omega)]
      exact h.2.2 k c hk hc
theorem cS_small {n : Nat} {F : Nat → Nat → Bool} (hn : n ≤ 1000000) : ∀ k, tot (cS n F k) ≤ 40000 * k
  | 0 => by simp [cS, tot]
  | k + 1 => by
    have h1 := cS_small (F := F) hn k
    have h2 := Wd_len (n := n) (f := F k) hn
    rw [cS_succ, tot_app, tot_one, wI_len]
    omega
set_option maxHeartbeats 4000000 in
theorem c_M_append_bad {l : Launch} {D : va_G} {cA : ClassId} {h e0 v0 l0 b0 rn ns : Nat} {E V L B : Nat → Int32} {pl sn wa wf : Int32} {x y z : Int32} (hb : (x < 0 ∨ nI 15 < x) ∨ (y < 0 ∨ nI 15 < y) ∨ z < nI 1 ∨ nI 1000000 < z)  : CtI l D cA y_M_append b_M_append 6 (some .int) ({ frames := 3, cells := 0, slots := 0, locals := 79 } : Room) [.ref h, .int x, .int y, .int z] (mW cA h e0 v0 l0 b0 E V L B rn ns pl sn wa wf) (fun r (_ : Unit) => r = -1) (fun _ => (mW cA h e0 v0 l0 b0 E V L B rn ns pl sn wa wf)) := by
  refine CtI.start (lv0 := [(0, .ref h), (1, .int x), (2, .int y), (3, .int z)]) (by decide) rfl (Nat.le_of_ble_eq_true rfl) ?_
  intro p_ e_ s_ m_ args_ below_ meth_ c_ A_ C hr hin
  refine x_iload_n C d_M_append_0 rfl rfl ?_
  refine x_if_lt (tgt := 31) C d_M_append_1 (by decide)  (fun c1 => ?_) (fun c1 => ?_)
  · refine x_iconst (v := ((-1))) C d_M_append_31 (by decide) ?_
    exact x_iret C hr d_M_append_32 () rfl (rfl)
  · refine x_iload_n C d_M_append_4 rfl rfl ?_
    refine x_bipush (v := (nI (15))) C d_M_append_5 (by decide) ?_
    refine x_icmp_gt (tgt := 31) C d_M_append_7 (by decide)  (fun c7 => ?_) (fun c7 => ?_)
    · refine x_iconst (v := ((-1))) C d_M_append_31 (by decide) ?_
      exact x_iret C hr d_M_append_32 () rfl (rfl)
    · refine x_iload_n C d_M_append_10 rfl rfl ?_
      refine x_if_lt (tgt := 31) C d_M_append_11 (by decide)  (fun c11 => ?_) (fun c11 => ?_)
      · refine x_iconst (v := ((-1))) C d_M_append_31 (by decide) ?_
        exact x_iret C hr d_M_append_32 () rfl (rfl)
      · refine x_iload_n C d_M_append_14 rfl rfl ?_
        refine x_bipush (v := (nI (15))) C d_M_append_15 (by decide) ?_
        refine x_icmp_gt (tgt := 31) C d_M_append_17 (by decide)  (fun c17 => ?_) (fun c17 => ?_)
        · refine x_iconst (v := ((-1))) C d_M_append_31 (by decide) ?_
          exact x_iret C hr d_M_append_32 () rfl (rfl)
        · refine x_iload_n C d_M_append_20 rfl rfl ?_
          refine x_iconst (v := (nI (1))) C d_M_append_21 (by decide) ?_
          refine x_icmp_lt (tgt := 31) C d_M_append_22 (by decide)  (fun c22 => ?_) (fun c22 => ?_)
          · refine x_iconst (v := ((-1))) C d_M_append_31 (by decide) ?_
            exact x_iret C hr d_M_append_32 () rfl (rfl)
          · refine x_iload_n C d_M_append_25 rfl rfl ?_
            refine x_ldc C d_M_append_26 lk_M_64 ?_
            refine x_top (y := nI 1000000) (by decide) ?_
            refine x_icmp_le (tgt := 33) C d_M_append_28 (by decide)  (fun c28 => ?_) (fun c28 => ?_)
            · exact absurd hb (fun q => q.elim (fun q => q.elim c1 c7) (fun q => q.elim (fun q => q.elim c11 c17) (fun q => q.elim c22 (fun q => absurd c28 (Int32.not_le.mpr q)))))
            · refine x_iconst (v := ((-1))) C d_M_append_31 (by decide) ?_
              exact x_iret C hr d_M_append_32 () rfl (rfl)
set_option maxHeartbeats 4000000 in
theorem c_M_append_busy {l : Launch} {D : va_G} {cA : ClassId} {h e0 v0 l0 b0 rn ns : Nat} {E V L B : Nat → Int32} {pl sn wa wf : Int32} {a b m : Nat} (ha : a < 16) (hb : b < 16) (hm : 1 ≤ m) (hm2 : m ≤ 1000000) (hk : 0 < ns) (hk2 : ns < 1000)  : CtI l D cA y_M_append b_M_append 6 (some .int) ({ frames := 3, cells := 0, slots := 0, locals := 79 } : Room) [.ref h, .int (nI a), .int (nI b), .int (nI m)] (mW cA h e0 v0 l0 b0 E V L B rn ns pl sn wa wf) (fun r (_ : Unit) => r = -2) (fun _ => (mW cA h e0 v0 l0 b0 E V L B rn ns pl sn wa wf)) := by
  refine CtI.start (lv0 := [(0, .ref h), (1, .int (nI a)), (2, .int (nI b)), (3, .int (nI m))]) (by decide) rfl (Nat.le_of_ble_eq_true rfl) ?_
  intro p_ e_ s_ m_ args_ below_ meth_ c_ A_ C hr hin
  refine x_iload_n C d_M_append_0 rfl rfl ?_
  refine x_if_ltN (tgt := 31) C d_M_append_1 (by decide) (by omega) ?_
  refine x_iload_n C d_M_append_4 rfl rfl ?_
  refine x_bipush (v := (nI (15))) C d_M_append_5 (by decide) ?_
  refine x_icmp_gtN (tgt := 31) C d_M_append_7 (by decide) (by omega) (by omega) (fun c7 => ?_) (fun c7 => ?_)
  · exact absurd c7 (by omega)
  · refine x_iload_n C d_M_append_10 rfl rfl ?_
    refine x_if_ltN (tgt := 31) C d_M_append_11 (by decide) (by omega) ?_
    refine x_iload_n C d_M_append_14 rfl rfl ?_
    refine x_bipush (v := (nI (15))) C d_M_append_15 (by decide) ?_
    refine x_icmp_gtN (tgt := 31) C d_M_append_17 (by decide) (by omega) (by omega) (fun c17 => ?_) (fun c17 => ?_)
    · exact absurd c17 (by omega)
    · refine x_iload_n C d_M_append_20 rfl rfl ?_
      refine x_iconst (v := (nI (1))) C d_M_append_21 (by decide) ?_
      refine x_icmp_ltN (tgt := 31) C d_M_append_22 (by decide) (by omega) (by omega) (fun c22 => ?_) (fun c22 => ?_)
      · exact absurd c22 (by omega)
      · refine x_iload_n C d_M_append_25 rfl rfl ?_
        refine x_ldc C d_M_append_26 lk_M_64 ?_
        refine x_top (y := nI 1000000) (by decide) ?_
        refine x_icmp_leN (tgt := 33) C d_M_append_28 (by decide) (by omega) (by omega) (fun c28 => ?_) (fun c28 => ?_)
        · refine x_aload_n C d_M_append_33 rfl rfl ?_
          refine x_get C d_M_append_34 0 rfl rfl i_M 5 (by decide) lk_M_54 rfl rfl ?_
          refine x_if_leN (tgt := 43) C d_M_append_37 (by decide) (by omega) (fun c37 => ?_) (fun c37 => ?_)
          · exact absurd c37 (by omega)
          · refine x_bipush (v := ((-2))) C d_M_append_40 (by decide) ?_
            exact x_iret C hr d_M_append_42 () rfl (rfl)
        · exact absurd c28 (by omega)
set_option maxHeartbeats 4000000 in
theorem c_M_append_many {l : Launch} {D : va_G} {cA : ClassId} {h e0 v0 l0 b0 rn : Nat} {E V L B : Nat → Int32} {pl sn wa wf : Int32} {en : Nat → Nat} {vl : Nat → Nat → Nat} (hE : Rn E V rn en vl) {n : Nat} (hn : bnd en rn = n) {a b m : Nat} (ha : a < 16) (hb : b < 16) (hm : 1 ≤ m) (hm2 : m ≤ 1000000) (hno : 1000000 < n + m)  : CtI l D cA y_M_append b_M_append 6 (some .int) ({ frames := 3, cells := 0, slots := 0, locals := 79 } : Room) [.ref h, .int (nI a), .int (nI b), .int (nI m)] (mW cA h e0 v0 l0 b0 E V L B rn 0 pl sn wa wf) (fun r (_ : Unit) => r = -3) (fun _ => (mW cA h e0 v0 l0 b0 E V L B rn 0 pl sn wa wf)) := by
  refine CtI.start (lv0 := [(0, .ref h), (1, .int (nI a)), (2, .int (nI b)), (3, .int (nI m))]) (by decide) rfl (Nat.le_of_ble_eq_true rfl) ?_
  intro p_ e_ s_ m_ args_ below_ meth_ c_ A_ C hr hin
  have hn2 : n ≤ 1000000 := by rw [← hn]; exact bnd_le hE rn (Nat.le_refl _)
  refine x_iload_n C d_M_append_0 rfl rfl ?_
  refine x_if_ltN (tgt := 31) C d_M_append_1 (by decide) (by omega) ?_
  refine x_iload_n C d_M_append_4 rfl rfl ?_
  refine x_bipush (v := (nI (15))) C d_M_append_5 (by decide) ?_
  refine x_icmp_gtN (tgt := 31) C d_M_append_7 (by decide) (by omega) (by omega) (fun c7 => ?_) (fun c7 => ?_)
  · exact absurd c7 (by omega)
  · refine x_iload_n C d_M_append_10 rfl rfl ?_
    refine x_if_ltN (tgt := 31) C d_M_append_11 (by decide) (by omega) ?_
    refine x_iload_n C d_M_append_14 rfl rfl ?_
    refine x_bipush (v := (nI (15))) C d_M_append_15 (by decide) ?_
    refine x_icmp_gtN (tgt := 31) C d_M_append_17 (by decide) (by omega) (by omega) (fun c17 => ?_) (fun c17 => ?_)
    · exact absurd c17 (by omega)
    · refine x_iload_n C d_M_append_20 rfl rfl ?_
      refine x_iconst (v := (nI (1))) C d_M_append_21 (by decide) ?_
      refine x_icmp_ltN (tgt := 31) C d_M_append_22 (by decide) (by omega) (by omega) (fun c22 => ?_) (fun c22 => ?_)
      · exact absurd c22 (by omega)
      · refine x_iload_n C d_M_append_25 rfl rfl ?_
        refine x_ldc C d_M_append_26 lk_M_64 ?_
        refine x_top (y := nI 1000000) (by decide) ?_
        refine x_icmp_leN (tgt := 33) C d_M_append_28 (by decide) (by omega) (by omega) (fun c28 => ?_) (fun c28 => ?_)
        · refine x_aload_n C d_M_append_33 rfl rfl ?_
          refine x_get C d_M_append_34 0 rfl rfl i_M 5 (by decide) lk_M_54 rfl rfl ?_
          refine x_if_leN (tgt := 43) C d_M_append_37 (by decide) (by omega) (fun c37 => ?_) (fun c37 => ?_)
          · refine x_aload_n C d_M_append_43 rfl rfl ?_
            refine x_callVI (wr := []) (rest := []) C (c_M_rows hE) d_M_append_44 cd_M_rows lk_M_41 dd_M_rows rfl ⟨Nat.le_of_ble_eq_true rfl, Nat.le_of_ble_eq_true rfl⟩ ⟨Nat.le_refl _, Nat.le_refl _⟩ 2 0 rfl rfl [0, 1, 2, 3, 4] [] rfl rfl (by decide) (by decide) (by decide) rfl (Nat.le_of_ble_eq_true rfl) ?_
            intro r_ u_ hp_
            obtain rfl := hp_
            refine x_top (y := (nI (n))) (by rw [hn]) ?_
            refine x_istore (lv' := [(4, .int (nI n)), (0, .ref h), (1, .int (nI a)), (2, .int (nI b)), (3, .int (nI m))]) C d_M_append_47 (by decide) rfl ?_
            refine x_iload_n C d_M_append_49 rfl rfl ?_
            refine x_ldc C d_M_append_50 lk_M_64 ?_
            refine x_top (y := nI 1000000) (by decide) ?_
            refine x_iload C d_M_append_52 rfl ?_
            refine x_isubN C d_M_append_54 (by omega) ?_
            refine x_icmp_leN (tgt := 61) C d_M_append_55 (by decide) (by omega) (by omega) (fun c55 => ?_) (fun c55 => ?_)
            · exact absurd c55 (by omega)
            · refine x_bipush (v := ((-3))) C d_M_append_58 (by decide) ?_
              exact x_iret C hr d_M_append_60 () rfl (rfl)
          · exact absurd c37 (by omega)
        · exact absurd c28 (by omega)
set_option maxHeartbeats 4000000 in
theorem c_M_append {l : Launch} {D : va_G} {cA : ClassId} {h e0 v0 l0 b0 rn : Nat} {E V L B : Nat → Int32} {pl sn wa wf : Int32} {en : Nat → Nat} {vl : Nat → Nat → Nat} (hE : Rn E V rn en vl) {n : Nat} (hn : bnd en rn = n) {a b m : Nat} (ha : a < 16) (hb : b < 16) (hm : 1 ≤ m) (hm2 : m ≤ 1000000) (hl : n + m ≤ 1000000) (hrn : rn < 519) (hL : Hs 200000 15 L B []) (hfit : tot (cS (n + m) (apF en vl rn n m a b) 32) ≤ 2000)  : CtI l D cA y_M_append b_M_append 6 (some .int) ({ frames := 3, cells := 0, slots := 0, locals := 79 } : Room) [.ref h, .int (nI a), .int (nI b), .int (nI m)] (mW cA h e0 v0 l0 b0 E V L B rn 0 pl sn wa wf) (fun r (u : (((Nat → Int32) × (Nat → Int32) × (Nat → Int32)) × Nat × (Int32 × Int32 × Int32 × Int32))) => r = nI (n + m) ∧ (∃ en' vl', Rn u.1.1 u.1.2.1 u.2.1 en' vl' ∧ Nrun en' vl' u.2.1 en vl rn n m a b) ∧ Hs 200000 15 u.1.2.2 B []) (fun u => (mW cA h e0 v0 l0 b0 (u.1.1) (u.1.2.1) (u.1.2.2) B (u.2.1) 0 (u.2.2.1) (u.2.2.2.1) (u.2.2.2.2.1) (u.2.2.2.2.2))) := by
  refine CtI.start (lv0 := [(0, .ref h), (1, .int (nI a)), (2, .int (nI b)), (3, .int (nI m))]) (by decide) rfl (Nat.le_of_ble_eq_true rfl) ?_
  intro p_ e_ s_ m_ args_ below_ meth_ c_ A_ C hr hin
  have hn2 : n ≤ 1000000 := by omega
  have hO : Ok en rn [] := fun p hp => by simp at hp
  have HN : X p_ l e_ ({ frames := 3, cells := 0, slots := 0, locals := 79 } : Room) s_ m_ args_ below_ meth_ c_ D A_ 6 0 0 (MQ below_ (va_Qi (fun r (u : (((Nat → Int32) × (Nat → Int32) × (Nat → Int32)) × Nat × (Int32 × Int32 × Int32 × Int32))) => r = nI (n + m) ∧ (∃ en' vl', Rn u.1.1 u.1.2.1 u.2.1 en' vl' ∧ Nrun en' vl' u.2.1 en vl rn n m a b) ∧ Hs 200000 15 u.1.2.2 B []) (Bw D A_ (fun u => (mW cA h e0 v0 l0 b0 (u.1.1) (u.1.2.1) (u.1.2.2) B (u.2.1) 0 (u.2.2.1) (u.2.2.2.1) (u.2.2.2.2.1) (u.2.2.2.2.2)))) A_) args_ s_ 0 0 A_) [(h, .inr (2, [.ref e0, .ref v0, .int (nI rn), .ref l0, .ref b0, .int (nI 0), .int pl, .int sn, .int wa, .int wf])), (e0, .inl (cA, 33000, .inl (E))), (v0, .inl (cA, 66000, .inl (V))), (l0, .inl (cA, 200000, .inl (L))), (b0, .inl (cA, 15, .inl (B)))] 109 [(5, .int (nI 0)), (4, .int (nI n)), (0, .ref h), (1, .int (nI a)), (2, .int (nI b)), (3, .int (nI m))] [] := by
    obtain ⟨en', vl', hE2, hN2⟩ := app_new hE hn ha hb hm hl (by omega)
    refine x_aload_n C d_M_append_109 rfl rfl ?_
    refine x_dup C d_M_append_110 rfl ?_
    refine x_get C d_M_append_111 0 rfl rfl i_M 2 (by decide) lk_M_25 rfl rfl ?_
    refine x_iload C d_M_append_114 rfl ?_
    refine x_if_eqN (tgt := 123) C d_M_append_116 (by decide) (by omega) (fun c116 => ?_) (fun c116 => ?_)
    · refine x_iconst (v := (nI (1))) C d_M_append_123 (by decide) ?_
      refine x_iaddN C d_M_append_124  ?_
      refine x_put (ty := .int) (v := .int (nI (rn + 1))) (ws' := [(h, .inr (2, [.ref e0, .ref v0, .int (nI (rn + 1)), .ref l0, .ref b0, .int (nI 0), .int pl, .int sn, .int wa, .int wf])), (e0, .inl (cA, 33000, .inl (E))), (v0, .inl (cA, 66000, .inl (V))), (l0, .inl (cA, 200000, .inl (L))), (b0, .inl (cA, 15, .inl (B)))]) C d_M_append_125 0 rfl rfl i_M t_M t_M_ok n_M 2 (by decide) lk_M_25 rfl rfl (t_M_ok 2 (by decide)) rfl rfl (Nat.le_of_ble_eq_true rfl) rfl ?_
      refine x_aload_n C d_M_append_128 rfl rfl ?_
      refine x_get C d_M_append_129 0 rfl rfl i_M 0 (by decide) lk_M_8 rfl rfl ?_
      refine x_aload_n C d_M_append_132 rfl rfl ?_
      refine x_get C d_M_append_133 0 rfl rfl i_M 2 (by decide) lk_M_25 rfl rfl ?_
      refine x_iconst (v := (nI (1))) C d_M_append_136 (by decide) ?_
      refine x_isubN C d_M_append_137 (by omega) ?_
      refine x_top (y := (nI (rn))) (by congr 1) ?_
      refine x_iload C d_M_append_138 rfl ?_
      refine x_iload_n C d_M_append_140 rfl rfl ?_
      refine x_iaddN C d_M_append_141  ?_
      refine x_iast (ws' := [(h, .inr (2, [.ref e0, .ref v0, .int (nI (rn + 1)), .ref l0, .ref b0, .int (nI 0), .int pl, .int sn, .int wa, .int wf])), (e0, .inl (cA, 33000, .inl (upd E (rn) (nI (n + m))))), (v0, .inl (cA, 66000, .inl (V))), (l0, .inl (cA, 200000, .inl (L))), (b0, .inl (cA, 15, .inl (B)))]) C d_M_append_142 1 rfl (by omega) (by omega) rfl ?_
      refine x_aload_n C d_M_append_143 rfl rfl ?_
      refine x_get C d_M_append_144 0 rfl rfl i_M 1 (by decide) lk_M_15 rfl rfl ?_
      refine x_iconst (v := (nI (2))) C d_M_append_147 (by decide) ?_
      refine x_aload_n C d_M_append_148 rfl rfl ?_
      refine x_get C d_M_append_149 0 rfl rfl i_M 2 (by decide) lk_M_25 rfl rfl ?_
      refine x_imulN C d_M_append_152  ?_
      refine x_iconst (v := (nI (2))) C d_M_append_153 (by decide) ?_
      refine x_isubN C d_M_append_154 (by omega) ?_
      refine x_top (y := (nI (2 * rn))) (by congr 1) ?_
      refine x_iload_n C d_M_append_155 rfl rfl ?_
      refine x_iast (ws' := [(h, .inr (2, [.ref e0, .ref v0, .int (nI (rn + 1)), .ref l0, .ref b0, .int (nI 0), .int pl, .int sn, .int wa, .int wf])), (e0, .inl (cA, 33000, .inl (upd E (rn) (nI (n + m))))), (v0, .inl (cA, 66000, .inl (upd V (2 * rn) (nI (a))))), (l0, .inl (cA, 200000, .inl (L))), (b0, .inl (cA, 15, .inl (B)))]) C d_M_append_156 2 rfl (by omega) (by omega) rfl ?_
      refine x_aload_n C d_M_append_157 rfl rfl ?_
      refine x_get C d_M_append_158 0 rfl rfl i_M 1 (by decide) lk_M_15 rfl rfl ?_
      refine x_iconst (v := (nI (2))) C d_M_append_161 (by decide) ?_
      refine x_aload_n C d_M_append_162 rfl rfl ?_
      refine x_get C d_M_append_163 0 rfl rfl i_M 2 (by decide) lk_M_25 rfl rfl ?_
      refine x_imulN C d_M_append_166  ?_
      refine x_iconst (v := (nI (1))) C d_M_append_167 (by decide) ?_
      refine x_isubN C d_M_append_168 (by omega) ?_
      refine x_top (y := (nI (2 * rn + 1))) (by congr 1) ?_
      refine x_iload_n C d_M_append_169 rfl rfl ?_
      refine x_iast (ws' := [(h, .inr (2, [.ref e0, .ref v0, .int (nI (rn + 1)), .ref l0, .ref b0, .int (nI 0), .int pl, .int sn, .int wa, .int wf])), (e0, .inl (cA, 33000, .inl (upd E (rn) (nI (n + m))))), (v0, .inl (cA, 66000, .inl (upd (upd V (2 * rn) (nI (a))) (2 * rn + 1) (nI (b))))), (l0, .inl (cA, 200000, .inl (L))), (b0, .inl (cA, 15, .inl (B)))]) C d_M_append_170 2 rfl (by omega) (by omega) rfl ?_
      refine x_aload_n C d_M_append_171 rfl rfl ?_
      refine x_callVI (wr := []) (rest := []) C (c_M_room (n := n + m) (st := []) hE2 hN2.1 (fun p hp => by simp at hp) hL rfl (by simp)) d_M_append_172 cd_M_room lk_M_65 dd_M_room rfl ⟨Nat.le_of_ble_eq_true rfl, Nat.le_of_ble_eq_true rfl⟩ ⟨Nat.le_refl _, Nat.le_refl _⟩ 2 0 rfl rfl [0, 1, 2, 3, 4] [] rfl rfl (by decide) (by decide) (by decide) rfl (Nat.le_of_ble_eq_true rfl) ?_
      intro r_ u172 hp_
      obtain ⟨rfl, hL3⟩ := hp_
      rw [cS_congr hN2.2.1]
      refine x_sipush (v := (nI (2000))) C d_M_append_175 (by decide) ?_
      refine x_icmp_leN (tgt := 216) C d_M_append_178 (by decide) (by omega) (by omega) (fun c178 => ?_) (fun c178 => ?_)
      · refine x_iload C d_M_append_216 rfl ?_
        refine x_iload_n C d_M_append_218 rfl rfl ?_
        refine x_iaddN C d_M_append_219  ?_
        exact x_iret C hr d_M_append_220 ((upd E (rn) (nI (n + m)), upd (upd V (2 * rn) (nI (a))) (2 * rn + 1) (nI (b)), u172.1), rn + 1, ((u172.2.1), (u172.2.2.1), (u172.2.2.2.1), (u172.2.2.2.2))) rfl (⟨rfl, ⟨en', vl', hE2, hN2⟩, hL3⟩)
      · exact absurd c178 (by omega)
    · exact absurd c116 (by omega)
  have HE : ∀ q, rn = q + 1 → vl q 0 = a → vl q 1 = b → X p_ l e_ ({ frames := 3, cells := 0, slots := 0, locals := 79 } : Room) s_ m_ args_ below_ meth_ c_ D A_ 6 0 0 (MQ below_ (va_Qi (fun r (u : (((Nat → Int32) × (Nat → Int32) × (Nat → Int32)) × Nat × (Int32 × Int32 × Int32 × Int32))) => r = nI (n + m) ∧ (∃ en' vl', Rn u.1.1 u.1.2.1 u.2.1 en' vl' ∧ Nrun en' vl' u.2.1 en vl rn n m a b) ∧ Hs 200000 15 u.1.2.2 B []) (Bw D A_ (fun u => (mW cA h e0 v0 l0 b0 (u.1.1) (u.1.2.1) (u.1.2.2) B (u.2.1) 0 (u.2.2.1) (u.2.2.2.1) (u.2.2.2.2.1) (u.2.2.2.2.2)))) A_) args_ s_ 0 0 A_) [(h, .inr (2, [.ref e0, .ref v0, .int (nI rn), .ref l0, .ref b0, .int (nI 0), .int pl, .int sn, .int wa, .int wf])), (e0, .inl (cA, 33000, .inl (E))), (v0, .inl (cA, 66000, .inl (V))), (l0, .inl (cA, 200000, .inl (L))), (b0, .inl (cA, 15, .inl (B)))] 109 [(5, .int (nI 1)), (4, .int (nI n)), (0, .ref h), (1, .int (nI a)), (2, .int (nI b)), (3, .int (nI m))] [] := by
    intro q hq hc1 hc2
    subst hq
    obtain ⟨en', vl', hE2, hN2⟩ := app_ext hE hn ha hb hm hl hc1 hc2
    refine x_aload_n C d_M_append_109 rfl rfl ?_
    refine x_dup C d_M_append_110 rfl ?_
    refine x_get C d_M_append_111 0 rfl rfl i_M 2 (by decide) lk_M_25 rfl rfl ?_
    refine x_iload C d_M_append_114 rfl ?_
    refine x_if_eqN (tgt := 123) C d_M_append_116 (by decide) (by omega) (fun c116 => ?_) (fun c116 => ?_)
    · exact absurd c116 (by omega)
    · refine x_iconst (v := (nI (0))) C d_M_append_119 (by decide) ?_
      refine x_goto (tgt := 124) C d_M_append_120 (by decide) ?_
      refine x_iaddN C d_M_append_124  ?_
      refine x_top (y := (nI (q + 1))) (by congr 1) ?_
      refine x_put (ty := .int) (v := .int (nI (q + 1))) (ws' := [(h, .inr (2, [.ref e0, .ref v0, .int (nI (q + 1)), .ref l0, .ref b0, .int (nI 0), .int pl, .int sn, .int wa, .int wf])), (e0, .inl (cA, 33000, .inl (E))), (v0, .inl (cA, 66000, .inl (V))), (l0, .inl (cA, 200000, .inl (L))), (b0, .inl (cA, 15, .inl (B)))]) C d_M_append_125 0 rfl rfl i_M t_M t_M_ok n_M 2 (by decide) lk_M_25 rfl rfl (t_M_ok 2 (by decide)) rfl rfl (Nat.le_of_ble_eq_true rfl) rfl ?_
      refine x_aload_n C d_M_append_128 rfl rfl ?_
      refine x_get C d_M_append_129 0 rfl rfl i_M 0 (by decide) lk_M_8 rfl rfl ?_
      refine x_aload_n C d_M_append_132 rfl rfl ?_
      refine x_get C d_M_append_133 0 rfl rfl i_M 2 (by decide) lk_M_25 rfl rfl ?_
      refine x_iconst (v := (nI (1))) C d_M_append_136 (by decide) ?_
      refine x_isubN C d_M_append_137 (by omega) ?_
      refine x_top (y := (nI (q))) (by congr 1) ?_
      refine x_iload C d_M_append_138 rfl ?_
      refine x_iload_n C d_M_append_140 rfl rfl ?_
      refine x_iaddN C d_M_append_141  ?_
      refine x_iast (ws' := [(h, .inr (2, [.ref e0, .ref v0, .int (nI (q + 1)), .ref l0, .ref b0, .int (nI 0), .int pl, .int sn, .int wa, .int wf])), (e0, .inl (cA, 33000, .inl (upd E (q) (nI (n + m))))), (v0, .inl (cA, 66000, .inl (V))), (l0, .inl (cA, 200000, .inl (L))), (b0, .inl (cA, 15, .inl (B)))]) C d_M_append_142 1 rfl (by omega) (by omega) rfl ?_
      refine x_aload_n C d_M_append_143 rfl rfl ?_
      refine x_get C d_M_append_144 0 rfl rfl i_M 1 (by decide) lk_M_15 rfl rfl ?_
      refine x_iconst (v := (nI (2))) C d_M_append_147 (by decide) ?_
      refine x_aload_n C d_M_append_148 rfl rfl ?_
      refine x_get C d_M_append_149 0 rfl rfl i_M 2 (by decide) lk_M_25 rfl rfl ?_
      refine x_imulN C d_M_append_152  ?_
      refine x_iconst (v := (nI (2))) C d_M_append_153 (by decide) ?_
      refine x_isubN C d_M_append_154 (by omega) ?_
      refine x_top (y := (nI (2 * q))) (by congr 1) ?_
      refine x_iload_n C d_M_append_155 rfl rfl ?_
      refine x_iast (ws' := [(h, .inr (2, [.ref e0, .ref v0, .int (nI (q + 1)), .ref l0, .ref b0, .int (nI 0), .int pl, .int sn, .int wa, .int wf])), (e0, .inl (cA, 33000, .inl (upd E (q) (nI (n + m))))), (v0, .inl (cA, 66000, .inl (upd V (2 * q) (nI (a))))), (l0, .inl (cA, 200000, .inl (L))), (b0, .inl (cA, 15, .inl (B)))]) C d_M_append_156 2 rfl (by omega) (by omega) rfl ?_
      refine x_aload_n C d_M_append_157 rfl rfl ?_
      refine x_get C d_M_append_158 0 rfl rfl i_M 1 (by decide) lk_M_15 rfl rfl ?_
      refine x_iconst (v := (nI (2))) C d_M_append_161 (by decide) ?_
      refine x_aload_n C d_M_append_162 rfl rfl ?_
      refine x_get C d_M_append_163 0 rfl rfl i_M 2 (by decide) lk_M_25 rfl rfl ?_
      refine x_imulN C d_M_append_166  ?_
      refine x_iconst (v := (nI (1))) C d_M_append_167 (by decide) ?_
      refine x_isubN C d_M_append_168 (by omega) ?_
      refine x_top (y := (nI (2 * q + 1))) (by congr 1) ?_
      refine x_iload_n C d_M_append_169 rfl rfl ?_
      refine x_iast (ws' := [(h, .inr (2, [.ref e0, .ref v0, .int (nI (q + 1)), .ref l0, .ref b0, .int (nI 0), .int pl, .int sn, .int wa, .int wf])), (e0, .inl (cA, 33000, .inl (upd E (q) (nI (n + m))))), (v0, .inl (cA, 66000, .inl (upd (upd V (2 * q) (nI (a))) (2 * q + 1) (nI (b))))), (l0, .inl (cA, 200000, .inl (L))), (b0, .inl (cA, 15, .inl (B)))]) C d_M_append_170 2 rfl (by omega) (by omega) rfl ?_
      refine x_aload_n C d_M_append_171 rfl rfl ?_
      refine x_callVI (wr := []) (rest := []) C (c_M_room (n := n + m) (st := []) hE2 hN2.1 (fun p hp => by simp at hp) hL rfl (by simp)) d_M_append_172 cd_M_room lk_M_65 dd_M_room rfl ⟨Nat.le_of_ble_eq_true rfl, Nat.le_of_ble_eq_true rfl⟩ ⟨Nat.le_refl _, Nat.le_refl _⟩ 2 0 rfl rfl [0, 1, 2, 3, 4] [] rfl rfl (by decide) (by decide) (by decide) rfl (Nat.le_of_ble_eq_true rfl) ?_
      intro r_ u172 hp_
      obtain ⟨rfl, hL3⟩ := hp_
      rw [cS_congr hN2.2.1]
      refine x_sipush (v := (nI (2000))) C d_M_append_175 (by decide) ?_
      refine x_icmp_leN (tgt := 216) C d_M_append_178 (by decide) (by omega) (by omega) (fun c178 => ?_) (fun c178 => ?_)
      · refine x_iload C d_M_append_216 rfl ?_
        refine x_iload_n C d_M_append_218 rfl rfl ?_
        refine x_iaddN C d_M_append_219  ?_
        exact x_iret C hr d_M_append_220 ((upd E (q) (nI (n + m)), upd (upd V (2 * q) (nI (a))) (2 * q + 1) (nI (b)), u172.1), q + 1, ((u172.2.1), (u172.2.2.1), (u172.2.2.2.1), (u172.2.2.2.2))) rfl (⟨rfl, ⟨en', vl', hE2, hN2⟩, hL3⟩)
      · exact absurd c178 (by omega)
  refine x_iload_n C d_M_append_0 rfl rfl ?_
  refine x_if_ltN (tgt := 31) C d_M_append_1 (by decide) (by omega) ?_
  refine x_iload_n C d_M_append_4 rfl rfl ?_
  refine x_bipush (v := (nI (15))) C d_M_append_5 (by decide) ?_
  refine x_icmp_gtN (tgt := 31) C d_M_append_7 (by decide) (by omega) (by omega) (fun c7 => ?_) (fun c7 => ?_)
  · exact absurd c7 (by omega)
  · refine x_iload_n C d_M_append_10 rfl rfl ?_
    refine x_if_ltN (tgt := 31) C d_M_append_11 (by decide) (by omega) ?_
    refine x_iload_n C d_M_append_14 rfl rfl ?_
    refine x_bipush (v := (nI (15))) C d_M_append_15 (by decide) ?_
    refine x_icmp_gtN (tgt := 31) C d_M_append_17 (by decide) (by omega) (by omega) (fun c17 => ?_) (fun c17 => ?_)
    · exact absurd c17 (by omega)
    · refine x_iload_n C d_M_append_20 rfl rfl ?_
      refine x_iconst (v := (nI (1))) C d_M_append_21 (by decide) ?_
      refine x_icmp_ltN (tgt := 31) C d_M_append_22 (by decide) (by omega) (by omega) (fun c22 => ?_) (fun c22 => ?_)
      · exact absurd c22 (by omega)
      · refine x_iload_n C d_M_append_25 rfl rfl ?_
        refine x_ldc C d_M_append_26 lk_M_64 ?_
        refine x_top (y := nI 1000000) (by decide) ?_
        refine x_icmp_leN (tgt := 33) C d_M_append_28 (by decide) (by omega) (by omega) (fun c28 => ?_) (fun c28 => ?_)
        · refine x_aload_n C d_M_append_33 rfl rfl ?_
          refine x_get C d_M_append_34 0 rfl rfl i_M 5 (by decide) lk_M_54 rfl rfl ?_
          refine x_if_leN (tgt := 43) C d_M_append_37 (by decide) (by omega) (fun c37 => ?_) (fun c37 => ?_)
          · refine x_aload_n C d_M_append_43 rfl rfl ?_
            refine x_callVI (wr := []) (rest := []) C (c_M_rows hE) d_M_append_44 cd_M_rows lk_M_41 dd_M_rows rfl ⟨Nat.le_of_ble_eq_true rfl, Nat.le_of_ble_eq_true rfl⟩ ⟨Nat.le_refl _, Nat.le_refl _⟩ 2 0 rfl rfl [0, 1, 2, 3, 4] [] rfl rfl (by decide) (by decide) (by decide) rfl (Nat.le_of_ble_eq_true rfl) ?_
            intro r_ u_ hp_
            obtain rfl := hp_
            refine x_top (y := (nI (n))) (by rw [hn]) ?_
            refine x_istore (lv' := [(4, .int (nI n)), (0, .ref h), (1, .int (nI a)), (2, .int (nI b)), (3, .int (nI m))]) C d_M_append_47 (by decide) rfl ?_
            refine x_iload_n C d_M_append_49 rfl rfl ?_
            refine x_ldc C d_M_append_50 lk_M_64 ?_
            refine x_top (y := nI 1000000) (by decide) ?_
            refine x_iload C d_M_append_52 rfl ?_
            refine x_isubN C d_M_append_54 (by omega) ?_
            refine x_icmp_leN (tgt := 61) C d_M_append_55 (by decide) (by omega) (by omega) (fun c55 => ?_) (fun c55 => ?_)
            · refine x_aload_n C d_M_append_61 rfl rfl ?_
              refine x_get C d_M_append_62 0 rfl rfl i_M 2 (by decide) lk_M_25 rfl rfl ?_
              refine x_if_leN (tgt := 106) C d_M_append_65 (by decide) (by omega) (fun c65 => ?_) (fun c65 => ?_)
              · refine x_iconst (v := (nI (0))) C d_M_append_106 (by decide) ?_
                refine x_istore (lv' := [(5, .int (nI 0)), (4, .int (nI n)), (0, .ref h), (1, .int (nI a)), (2, .int (nI b)), (3, .int (nI m))]) C d_M_append_107 (by decide) rfl ?_
                refine x_lv (lv' := [(5, .int (nI 0)), (4, .int (nI n)), (0, .ref h), (1, .int (nI a)), (2, .int (nI b)), (3, .int (nI m))]) (Or.inr (List.forall_mem_cons.mpr ⟨rfl, List.forall_mem_cons.mpr ⟨rfl, List.forall_mem_cons.mpr ⟨rfl, List.forall_mem_cons.mpr ⟨rfl, List.forall_mem_cons.mpr ⟨rfl, List.forall_mem_cons.mpr ⟨rfl, fun _ h9 => absurd h9 List.not_mem_nil⟩⟩⟩⟩⟩⟩)) ?_
                exact HN
              · obtain ⟨q, rfl⟩ : ∃ q, rn = q + 1 := ⟨rn - 1, by omega⟩
                have hv0 := hE.2.2 q 0 (by omega) (by omega)
                have hv1 := hE.2.2 q 1 (by omega) (by omega)
                refine x_aload_n C d_M_append_68 rfl rfl ?_
                refine x_get C d_M_append_69 0 rfl rfl i_M 1 (by decide) lk_M_15 rfl rfl ?_
                refine x_iconst (v := (nI (2))) C d_M_append_72 (by decide) ?_
                refine x_aload_n C d_M_append_73 rfl rfl ?_
                refine x_get C d_M_append_74 0 rfl rfl i_M 2 (by decide) lk_M_25 rfl rfl ?_
                refine x_imulN C d_M_append_77  ?_
                refine x_iconst (v := (nI (2))) C d_M_append_78 (by decide) ?_
                refine x_isubN C d_M_append_79 (by omega) ?_
                refine x_top (y := (nI (2 * q))) (by congr 1) ?_
                refine x_iald C d_M_append_80 2 rfl (by omega) (by omega) ?_
                refine x_top (y := (nI (vl q 0))) hv0.1 ?_
                refine x_iload_n C d_M_append_81 rfl rfl ?_
                refine x_icmp_neN (tgt := 106) C d_M_append_82 (by decide) (by omega) (by omega) (fun c82 => ?_) (fun c82 => ?_)
                · refine x_iconst (v := (nI (0))) C d_M_append_106 (by decide) ?_
                  refine x_istore (lv' := [(5, .int (nI 0)), (4, .int (nI n)), (0, .ref h), (1, .int (nI a)), (2, .int (nI b)), (3, .int (nI m))]) C d_M_append_107 (by decide) rfl ?_
                  refine x_lv (lv' := [(5, .int (nI 0)), (4, .int (nI n)), (0, .ref h), (1, .int (nI a)), (2, .int (nI b)), (3, .int (nI m))]) (Or.inr (List.forall_mem_cons.mpr ⟨rfl, List.forall_mem_cons.mpr ⟨rfl, List.forall_mem_cons.mpr ⟨rfl, List.forall_mem_cons.mpr ⟨rfl, List.forall_mem_cons.mpr ⟨rfl, List.forall_mem_cons.mpr ⟨rfl, fun _ h9 => absurd h9 List.not_mem_nil⟩⟩⟩⟩⟩⟩)) ?_
                  exact HN
                · refine x_aload_n C d_M_append_85 rfl rfl ?_
                  refine x_get C d_M_append_86 0 rfl rfl i_M 1 (by decide) lk_M_15 rfl rfl ?_
                  refine x_iconst (v := (nI (2))) C d_M_append_89 (by decide) ?_
                  refine x_aload_n C d_M_append_90 rfl rfl ?_
                  refine x_get C d_M_append_91 0 rfl rfl i_M 2 (by decide) lk_M_25 rfl rfl ?_
                  refine x_imulN C d_M_append_94  ?_
                  refine x_iconst (v := (nI (1))) C d_M_append_95 (by decide) ?_
                  refine x_isubN C d_M_append_96 (by omega) ?_
                  refine x_top (y := (nI (2 * q + 1))) (by congr 1) ?_
                  refine x_iald C d_M_append_97 2 rfl (by omega) (by omega) ?_
                  refine x_top (y := (nI (vl q 1))) hv1.1 ?_
                  refine x_iload_n C d_M_append_98 rfl rfl ?_
                  refine x_icmp_neN (tgt := 106) C d_M_append_99 (by decide) (by omega) (by omega) (fun c99 => ?_) (fun c99 => ?_)
                  · refine x_iconst (v := (nI (0))) C d_M_append_106 (by decide) ?_
                    refine x_istore (lv' := [(5, .int (nI 0)), (4, .int (nI n)), (0, .ref h), (1, .int (nI a)), (2, .int (nI b)), (3, .int (nI m))]) C d_M_append_107 (by decide) rfl ?_
                    refine x_lv (lv' := [(5, .int (nI 0)), (4, .int (nI n)), (0, .ref h), (1, .int (nI a)), (2, .int (nI b)), (3, .int (nI m))]) (Or.inr (List.forall_mem_cons.mpr ⟨rfl, List.forall_mem_cons.mpr ⟨rfl, List.forall_mem_cons.mpr ⟨rfl, List.forall_mem_cons.mpr ⟨rfl, List.forall_mem_cons.mpr ⟨rfl, List.forall_mem_cons.mpr ⟨rfl, fun _ h9 => absurd h9 List.not_mem_nil⟩⟩⟩⟩⟩⟩)) ?_
                    exact HN
                  · refine x_iconst (v := (nI (1))) C d_M_append_102 (by decide) ?_
                    refine x_goto (tgt := 107) C d_M_append_103 (by decide) ?_
                    refine x_istore (lv' := [(5, .int (nI 1)), (4, .int (nI n)), (0, .ref h), (1, .int (nI a)), (2, .int (nI b)), (3, .int (nI m))]) C d_M_append_107 (by decide) rfl ?_
                    refine x_lv (lv' := [(5, .int (nI 1)), (4, .int (nI n)), (0, .ref h), (1, .int (nI a)), (2, .int (nI b)), (3, .int (nI m))]) (Or.inr (List.forall_mem_cons.mpr ⟨rfl, List.forall_mem_cons.mpr ⟨rfl, List.forall_mem_cons.mpr ⟨rfl, List.forall_mem_cons.mpr ⟨rfl, List.forall_mem_cons.mpr ⟨rfl, List.forall_mem_cons.mpr ⟨rfl, fun _ h9 => absurd h9 List.not_mem_nil⟩⟩⟩⟩⟩⟩)) ?_
                    exact HE q rfl c82 c99
            · exact absurd c55 (by omega)
          · exact absurd c37 (by omega)
        · exact absurd c28 (by omega)
set_option maxHeartbeats 4000000 in
theorem c_M_append_words {l : Launch} {D : va_G} {cA : ClassId} {h e0 v0 l0 b0 rn : Nat} {E V L B : Nat → Int32} {pl sn wa wf : Int32} {en : Nat → Nat} {vl : Nat → Nat → Nat} (hE : Rn E V rn en vl) {n : Nat} (hn : bnd en rn = n) {a b m : Nat} (ha : a < 16) (hb : b < 16) (hm : 1 ≤ m) (hm2 : m ≤ 1000000) (hl : n + m ≤ 1000000) (hrn : rn < 519) (hL : Hs 200000 15 L B []) (hno : 2000 < tot (cS (n + m) (apF en vl rn n m a b) 32))  : CtI l D cA y_M_append b_M_append 6 (some .int) ({ frames := 3, cells := 0, slots := 0, locals := 79 } : Room) [.ref h, .int (nI a), .int (nI b), .int (nI m)] (mW cA h e0 v0 l0 b0 E V L B rn 0 pl sn wa wf) (fun r (u : (((Nat → Int32) × (Nat → Int32) × (Nat → Int32)) × (Int32 × Int32 × Int32 × Int32))) => r = -3 ∧ Rn u.1.1 u.1.2.1 rn en vl ∧ Hs 200000 15 u.1.2.2 B []) (fun u => (mW cA h e0 v0 l0 b0 (u.1.1) (u.1.2.1) (u.1.2.2) B rn 0 (u.2.1) (u.2.2.1) (u.2.2.2.1) (u.2.2.2.2))) := by
  refine CtI.start (lv0 := [(0, .ref h), (1, .int (nI a)), (2, .int (nI b)), (3, .int (nI m))]) (by decide) rfl (Nat.le_of_ble_eq_true rfl) ?_
  intro p_ e_ s_ m_ args_ below_ meth_ c_ A_ C hr hin
  have hn2 : n ≤ 1000000 := by omega
  have hO : Ok en rn [] := fun p hp => by simp at hp
  have hsmall : tot (cS (n + m) (apF en vl rn n m a b) 32) < 2 ^ 31 := by
    have h9 := cS_small (n := n + m) (F := apF en vl rn n m a b) hl 32
    omega
  have HN : X p_ l e_ ({ frames := 3, cells := 0, slots := 0, locals := 79 } : Room) s_ m_ args_ below_ meth_ c_ D A_ 6 0 0 (MQ below_ (va_Qi (fun r (u : (((Nat → Int32) × (Nat → Int32) × (Nat → Int32)) × (Int32 × Int32 × Int32 × Int32))) => r = -3 ∧ Rn u.1.1 u.1.2.1 rn en vl ∧ Hs 200000 15 u.1.2.2 B []) (Bw D A_ (fun u => (mW cA h e0 v0 l0 b0 (u.1.1) (u.1.2.1) (u.1.2.2) B rn 0 (u.2.1) (u.2.2.1) (u.2.2.2.1) (u.2.2.2.2)))) A_) args_ s_ 0 0 A_) [(h, .inr (2, [.ref e0, .ref v0, .int (nI rn), .ref l0, .ref b0, .int (nI 0), .int pl, .int sn, .int wa, .int wf])), (e0, .inl (cA, 33000, .inl (E))), (v0, .inl (cA, 66000, .inl (V))), (l0, .inl (cA, 200000, .inl (L))), (b0, .inl (cA, 15, .inl (B)))] 109 [(5, .int (nI 0)), (4, .int (nI n)), (0, .ref h), (1, .int (nI a)), (2, .int (nI b)), (3, .int (nI m))] [] := by
    obtain ⟨en', vl', hE2, hN2⟩ := app_new hE hn ha hb hm hl (by omega)
    refine x_aload_n C d_M_append_109 rfl rfl ?_
    refine x_dup C d_M_append_110 rfl ?_
    refine x_get C d_M_append_111 0 rfl rfl i_M 2 (by decide) lk_M_25 rfl rfl ?_
    refine x_iload C d_M_append_114 rfl ?_
    refine x_if_eqN (tgt := 123) C d_M_append_116 (by decide) (by omega) (fun c116 => ?_) (fun c116 => ?_)
    · refine x_iconst (v := (nI (1))) C d_M_append_123 (by decide) ?_
      refine x_iaddN C d_M_append_124  ?_
      refine x_put (ty := .int) (v := .int (nI (rn + 1))) (ws' := [(h, .inr (2, [.ref e0, .ref v0, .int (nI (rn + 1)), .ref l0, .ref b0, .int (nI 0), .int pl, .int sn, .int wa, .int wf])), (e0, .inl (cA, 33000, .inl (E))), (v0, .inl (cA, 66000, .inl (V))), (l0, .inl (cA, 200000, .inl (L))), (b0, .inl (cA, 15, .inl (B)))]) C d_M_append_125 0 rfl rfl i_M t_M t_M_ok n_M 2 (by decide) lk_M_25 rfl rfl (t_M_ok 2 (by decide)) rfl rfl (Nat.le_of_ble_eq_true rfl) rfl ?_
      refine x_aload_n C d_M_append_128 rfl rfl ?_
      refine x_get C d_M_append_129 0 rfl rfl i_M 0 (by decide) lk_M_8 rfl rfl ?_
      refine x_aload_n C d_M_append_132 rfl rfl ?_
      refine x_get C d_M_append_133 0 rfl rfl i_M 2 (by decide) lk_M_25 rfl rfl ?_
      refine x_iconst (v := (nI (1))) C d_M_append_136 (by decide) ?_
      refine x_isubN C d_M_append_137 (by omega) ?_
      refine x_top (y := (nI (rn))) (by congr 1) ?_
      refine x_iload C d_M_append_138 rfl ?_
      refine x_iload_n C d_M_append_140 rfl rfl ?_
      refine x_iaddN C d_M_append_141  ?_
      refine x_iast (ws' := [(h, .inr (2, [.ref e0, .ref v0, .int (nI (rn + 1)), .ref l0, .ref b0, .int (nI 0), .int pl, .int sn, .int wa, .int wf])), (e0, .inl (cA, 33000, .inl (upd E (rn) (nI (n + m))))), (v0, .inl (cA, 66000, .inl (V))), (l0, .inl (cA, 200000, .inl (L))), (b0, .inl (cA, 15, .inl (B)))]) C d_M_append_142 1 rfl (by omega) (by omega) rfl ?_
      refine x_aload_n C d_M_append_143 rfl rfl ?_
      refine x_get C d_M_append_144 0 rfl rfl i_M 1 (by decide) lk_M_15 rfl rfl ?_
      refine x_iconst (v := (nI (2))) C d_M_append_147 (by decide) ?_
      refine x_aload_n C d_M_append_148 rfl rfl ?_
      refine x_get C d_M_append_149 0 rfl rfl i_M 2 (by decide) lk_M_25 rfl rfl ?_
      refine x_imulN C d_M_append_152  ?_
      refine x_iconst (v := (nI (2))) C d_M_append_153 (by decide) ?_
      refine x_isubN C d_M_append_154 (by omega) ?_
      refine x_top (y := (nI (2 * rn))) (by congr 1) ?_
      refine x_iload_n C d_M_append_155 rfl rfl ?_
      refine x_iast (ws' := [(h, .inr (2, [.ref e0, .ref v0, .int (nI (rn + 1)), .ref l0, .ref b0, .int (nI 0), .int pl, .int sn, .int wa, .int wf])), (e0, .inl (cA, 33000, .inl (upd E (rn) (nI (n + m))))), (v0, .inl (cA, 66000, .inl (upd V (2 * rn) (nI (a))))), (l0, .inl (cA, 200000, .inl (L))), (b0, .inl (cA, 15, .inl (B)))]) C d_M_append_156 2 rfl (by omega) (by omega) rfl ?_
      refine x_aload_n C d_M_append_157 rfl rfl ?_
      refine x_get C d_M_append_158 0 rfl rfl i_M 1 (by decide) lk_M_15 rfl rfl ?_
      refine x_iconst (v := (nI (2))) C d_M_append_161 (by decide) ?_
      refine x_aload_n C d_M_append_162 rfl rfl ?_
      refine x_get C d_M_append_163 0 rfl rfl i_M 2 (by decide) lk_M_25 rfl rfl ?_
      refine x_imulN C d_M_append_166  ?_
      refine x_iconst (v := (nI (1))) C d_M_append_167 (by decide) ?_
      refine x_isubN C d_M_append_168 (by omega) ?_
      refine x_top (y := (nI (2 * rn + 1))) (by congr 1) ?_
      refine x_iload_n C d_M_append_169 rfl rfl ?_
      refine x_iast (ws' := [(h, .inr (2, [.ref e0, .ref v0, .int (nI (rn + 1)), .ref l0, .ref b0, .int (nI 0), .int pl, .int sn, .int wa, .int wf])), (e0, .inl (cA, 33000, .inl (upd E (rn) (nI (n + m))))), (v0, .inl (cA, 66000, .inl (upd (upd V (2 * rn) (nI (a))) (2 * rn + 1) (nI (b))))), (l0, .inl (cA, 200000, .inl (L))), (b0, .inl (cA, 15, .inl (B)))]) C d_M_append_170 2 rfl (by omega) (by omega) rfl ?_
      refine x_aload_n C d_M_append_171 rfl rfl ?_
      refine x_callVI (wr := []) (rest := []) C (c_M_room (n := n + m) (st := []) hE2 hN2.1 (fun p hp => by simp at hp) hL rfl (by simp)) d_M_append_172 cd_M_room lk_M_65 dd_M_room rfl ⟨Nat.le_of_ble_eq_true rfl, Nat.le_of_ble_eq_true rfl⟩ ⟨Nat.le_refl _, Nat.le_refl _⟩ 2 0 rfl rfl [0, 1, 2, 3, 4] [] rfl rfl (by decide) (by decide) (by decide) rfl (Nat.le_of_ble_eq_true rfl) ?_
      intro r_ u172 hp_
      obtain ⟨rfl, hL3⟩ := hp_
      rw [cS_congr hN2.2.1]
      refine x_sipush (v := (nI (2000))) C d_M_append_175 (by decide) ?_
      refine x_icmp_leN (tgt := 216) C d_M_append_178 (by decide) hsmall (by omega) (fun c178 => ?_) (fun c178 => ?_)
      · exact absurd c178 (by omega)
      · refine x_aload_n C d_M_append_181 rfl rfl ?_
        refine x_get C d_M_append_182 0 rfl rfl i_M 0 (by decide) lk_M_8 rfl rfl ?_
        refine x_aload_n C d_M_append_185 rfl rfl ?_
        refine x_get C d_M_append_186 0 rfl rfl i_M 2 (by decide) lk_M_25 rfl rfl ?_
        refine x_iconst (v := (nI (1))) C d_M_append_189 (by decide) ?_
        refine x_isubN C d_M_append_190 (by omega) ?_
        refine x_top (y := (nI (rn))) (by congr 1) ?_
        refine x_iload C d_M_append_191 rfl ?_
        refine x_iast (ws' := [(h, .inr (2, [.ref e0, .ref v0, .int (nI (rn + 1)), .ref l0, .ref b0, .int (nI 0), .int (u172.2.1), .int (u172.2.2.1), .int (u172.2.2.2.1), .int (u172.2.2.2.2)])), (e0, .inl (cA, 33000, .inl (upd (upd E (rn) (nI (n + m))) (rn) (nI (n))))), (v0, .inl (cA, 66000, .inl (upd (upd V (2 * rn) (nI (a))) (2 * rn + 1) (nI (b))))), (l0, .inl (cA, 200000, .inl (u172.1))), (b0, .inl (cA, 15, .inl (B)))]) C d_M_append_193 1 rfl (by omega) (by omega) rfl ?_
        refine x_aload_n C d_M_append_194 rfl rfl ?_
        refine x_dup C d_M_append_195 rfl ?_
        refine x_get C d_M_append_196 0 rfl rfl i_M 2 (by decide) lk_M_25 rfl rfl ?_
        refine x_iload C d_M_append_199 rfl ?_
        refine x_if_eqN (tgt := 208) C d_M_append_201 (by decide) (by omega) (fun c201 => ?_) (fun c201 => ?_)
        · refine x_iconst (v := (nI (1))) C d_M_append_208 (by decide) ?_
          refine x_isubN C d_M_append_209 (by omega) ?_
          refine x_top (y := (nI (rn))) (by congr 1) ?_
          refine x_put (ty := .int) (v := .int (nI rn)) (ws' := [(h, .inr (2, [.ref e0, .ref v0, .int (nI rn), .ref l0, .ref b0, .int (nI 0), .int (u172.2.1), .int (u172.2.2.1), .int (u172.2.2.2.1), .int (u172.2.2.2.2)])), (e0, .inl (cA, 33000, .inl (upd (upd E (rn) (nI (n + m))) (rn) (nI (n))))), (v0, .inl (cA, 66000, .inl (upd (upd V (2 * rn) (nI (a))) (2 * rn + 1) (nI (b))))), (l0, .inl (cA, 200000, .inl (u172.1))), (b0, .inl (cA, 15, .inl (B)))]) C d_M_append_210 0 rfl rfl i_M t_M t_M_ok n_M 2 (by decide) lk_M_25 rfl rfl (t_M_ok 2 (by decide)) rfl rfl (Nat.le_of_ble_eq_true rfl) rfl ?_
          refine x_bipush (v := ((-3))) C d_M_append_213 (by decide) ?_
          exact x_iret C hr d_M_append_215 ((upd (upd E (rn) (nI (n + m))) (rn) (nI (n)), upd (upd V (2 * rn) (nI (a))) (2 * rn + 1) (nI (b)), u172.1), ((u172.2.1), (u172.2.2.1), (u172.2.2.2.1), (u172.2.2.2.2))) rfl (⟨rfl, app_back hE, hL3⟩)
        · exact absurd c201 (by omega)
    · exact absurd c116 (by omega)
  have HE : ∀ q, rn = q + 1 → vl q 0 = a → vl q 1 = b → X p_ l e_ ({ frames := 3, cells := 0, slots := 0, locals := 79 } : Room) s_ m_ args_ below_ meth_ c_ D A_ 6 0 0 (MQ below_ (va_Qi (fun r (u : (((Nat → Int32) × (Nat → Int32) × (Nat → Int32)) × (Int32 × Int32 × Int32 × Int32))) => r = -3 ∧ Rn u.1.1 u.1.2.1 rn en vl ∧ Hs 200000 15 u.1.2.2 B []) (Bw D A_ (fun u => (mW cA h e0 v0 l0 b0 (u.1.1) (u.1.2.1) (u.1.2.2) B rn 0 (u.2.1) (u.2.2.1) (u.2.2.2.1) (u.2.2.2.2)))) A_) args_ s_ 0 0 A_) [(h, .inr (2, [.ref e0, .ref v0, .int (nI rn), .ref l0, .ref b0, .int (nI 0), .int pl, .int sn, .int wa, .int wf])), (e0, .inl (cA, 33000, .inl (E))), (v0, .inl (cA, 66000, .inl (V))), (l0, .inl (cA, 200000, .inl (L))), (b0, .inl (cA, 15, .inl (B)))] 109 [(5, .int (nI 1)), (4, .int (nI n)), (0, .ref h), (1, .int (nI a)), (2, .int (nI b)), (3, .int (nI m))] [] := by
    intro q hq hc1 hc2
    subst hq
    obtain ⟨en', vl', hE2, hN2⟩ := app_ext hE hn ha hb hm hl hc1 hc2
    refine x_aload_n C d_M_append_109 rfl rfl ?_
    refine x_dup C d_M_append_110 rfl ?_
    refine x_get C d_M_append_111 0 rfl rfl i_M 2 (by decide) lk_M_25 rfl rfl ?_
    refine x_iload C d_M_append_114 rfl ?_
    refine x_if_eqN (tgt := 123) C d_M_append_116 (by decide) (by omega) (fun c116 => ?_) (fun c116 => ?_)
    · exact absurd c116 (by omega)
    · refine x_iconst (v := (nI (0))) C d_M_append_119 (by decide) ?_
      refine x_goto (tgt := 124) C d_M_append_120 (by decide) ?_
      refine x_iaddN C d_M_append_124  ?_
      refine x_top (y := (nI (q + 1))) (by congr 1) ?_
      refine x_put (ty := .int) (v := .int (nI (q + 1))) (ws' := [(h, .inr (2, [.ref e0, .ref v0, .int (nI (q + 1)), .ref l0, .ref b0, .int (nI 0), .int pl, .int sn, .int wa, .int wf])), (e0, .inl (cA, 33000, .inl (E))), (v0, .inl (cA, 66000, .inl (V))), (l0, .inl (cA, 200000, .inl (L))), (b0, .inl (cA, 15, .inl (B)))]) C d_M_append_125 0 rfl rfl i_M t_M t_M_ok n_M 2 (by decide) lk_M_25 rfl rfl (t_M_ok 2 (by decide)) rfl rfl (Nat.le_of_ble_eq_true rfl) rfl ?_
      refine x_aload_n C d_M_append_128 rfl rfl ?_
      refine x_get C d_M_append_129 0 rfl rfl i_M 0 (by decide) lk_M_8 rfl rfl ?_
      refine x_aload_n C d_M_append_132 rfl rfl ?_
      refine x_get C d_M_append_133 0 rfl rfl i_M 2 (by decide) lk_M_25 rfl rfl ?_
      refine x_iconst (v := (nI (1))) C d_M_append_136 (by decide) ?_
      refine x_isubN C d_M_append_137 (by omega) ?_
      refine x_top (y := (nI (q))) (by congr 1) ?_
      refine x_iload C d_M_append_138 rfl ?_
      refine x_iload_n C d_M_append_140 rfl rfl ?_
      refine x_iaddN C d_M_append_141  ?_
      refine x_iast (ws' := [(h, .inr (2, [.ref e0, .ref v0, .int (nI (q + 1)), .ref l0, .ref b0, .int (nI 0), .int pl, .int sn, .int wa, .int wf])), (e0, .inl (cA, 33000, .inl (upd E (q) (nI (n + m))))), (v0, .inl (cA, 66000, .inl (V))), (l0, .inl (cA, 200000, .inl (L))), (b0, .inl (cA, 15, .inl (B)))]) C d_M_append_142 1 rfl (by omega) (by omega) rfl ?_
      refine x_aload_n C d_M_append_143 rfl rfl ?_
      refine x_get C d_M_append_144 0 rfl rfl i_M 1 (by decide) lk_M_15 rfl rfl ?_
      refine x_iconst (v := (nI (2))) C d_M_append_147 (by decide) ?_
      refine x_aload_n C d_M_append_148 rfl rfl ?_
      refine x_get C d_M_append_149 0 rfl rfl i_M 2 (by decide) lk_M_25 rfl rfl ?_
      refine x_imulN C d_M_append_152  ?_
      refine x_iconst (v := (nI (2))) C d_M_append_153 (by decide) ?_
      refine x_isubN C d_M_append_154 (by omega) ?_
      refine x_top (y := (nI (2 * q))) (by congr 1) ?_
      refine x_iload_n C d_M_append_155 rfl rfl ?_
      refine x_iast (ws' := [(h, .inr (2, [.ref e0, .ref v0, .int (nI (q + 1)), .ref l0, .ref b0, .int (nI 0), .int pl, .int sn, .int wa, .int wf])), (e0, .inl (cA, 33000, .inl (upd E (q) (nI (n + m))))), (v0, .inl (cA, 66000, .inl (upd V (2 * q) (nI (a))))), (l0, .inl (cA, 200000, .inl (L))), (b0, .inl (cA, 15, .inl (B)))]) C d_M_append_156 2 rfl (by omega) (by omega) rfl ?_
      refine x_aload_n C d_M_append_157 rfl rfl ?_
      refine x_get C d_M_append_158 0 rfl rfl i_M 1 (by decide) lk_M_15 rfl rfl ?_
      refine x_iconst (v := (nI (2))) C d_M_append_161 (by decide) ?_
      refine x_aload_n C d_M_append_162 rfl rfl ?_
      refine x_get C d_M_append_163 0 rfl rfl i_M 2 (by decide) lk_M_25 rfl rfl ?_
      refine x_imulN C d_M_append_166  ?_
      refine x_iconst (v := (nI (1))) C d_M_append_167 (by decide) ?_
      refine x_isubN C d_M_append_168 (by omega) ?_
      refine x_top (y := (nI (2 * q + 1))) (by congr 1) ?_
      refine x_iload_n C d_M_append_169 rfl rfl ?_
      refine x_iast (ws' := [(h, .inr (2, [.ref e0, .ref v0, .int (nI (q + 1)), .ref l0, .ref b0, .int (nI 0), .int pl, .int sn, .int wa, .int wf])), (e0, .inl (cA, 33000, .inl (upd E (q) (nI (n + m))))), (v0, .inl (cA, 66000, .inl (upd (upd V (2 * q) (nI (a))) (2 * q + 1) (nI (b))))), (l0, .inl (cA, 200000, .inl (L))), (b0, .inl (cA, 15, .inl (B)))]) C d_M_append_170 2 rfl (by omega) (by omega) rfl ?_
      refine x_aload_n C d_M_append_171 rfl rfl ?_
      refine x_callVI (wr := []) (rest := []) C (c_M_room (n := n + m) (st := []) hE2 hN2.1 (fun p hp => by simp at hp) hL rfl (by simp)) d_M_append_172 cd_M_room lk_M_65 dd_M_room rfl ⟨Nat.le_of_ble_eq_true rfl, Nat.le_of_ble_eq_true rfl⟩ ⟨Nat.le_refl _, Nat.le_refl _⟩ 2 0 rfl rfl [0, 1, 2, 3, 4] [] rfl rfl (by decide) (by decide) (by decide) rfl (Nat.le_of_ble_eq_true rfl) ?_
      intro r_ u172 hp_
      obtain ⟨rfl, hL3⟩ := hp_
      rw [cS_congr hN2.2.1]
      refine x_sipush (v := (nI (2000))) C d_M_append_175 (by decide) ?_
      refine x_icmp_leN (tgt := 216) C d_M_append_178 (by decide) hsmall (by omega) (fun c178 => ?_) (fun c178 => ?_)
      · exact absurd c178 (by omega)
      · refine x_aload_n C d_M_append_181 rfl rfl ?_
        refine x_get C d_M_append_182 0 rfl rfl i_M 0 (by decide) lk_M_8 rfl rfl ?_
        refine x_aload_n C d_M_append_185 rfl rfl ?_
        refine x_get C d_M_append_186 0 rfl rfl i_M 2 (by decide) lk_M_25 rfl rfl ?_
        refine x_iconst (v := (nI (1))) C d_M_append_189 (by decide) ?_
        refine x_isubN C d_M_append_190 (by omega) ?_
        refine x_top (y := (nI (q))) (by congr 1) ?_
        refine x_iload C d_M_append_191 rfl ?_
        refine x_iast (ws' := [(h, .inr (2, [.ref e0, .ref v0, .int (nI (q + 1)), .ref l0, .ref b0, .int (nI 0), .int (u172.2.1), .int (u172.2.2.1), .int (u172.2.2.2.1), .int (u172.2.2.2.2)])), (e0, .inl (cA, 33000, .inl (upd (upd E (q) (nI (n + m))) (q) (nI (n))))), (v0, .inl (cA, 66000, .inl (upd (upd V (2 * q) (nI (a))) (2 * q + 1) (nI (b))))), (l0, .inl (cA, 200000, .inl (u172.1))), (b0, .inl (cA, 15, .inl (B)))]) C d_M_append_193 1 rfl (by omega) (by omega) rfl ?_
        refine x_aload_n C d_M_append_194 rfl rfl ?_
        refine x_dup C d_M_append_195 rfl ?_
        refine x_get C d_M_append_196 0 rfl rfl i_M 2 (by decide) lk_M_25 rfl rfl ?_
        refine x_iload C d_M_append_199 rfl ?_
        refine x_if_eqN (tgt := 208) C d_M_append_201 (by decide) (by omega) (fun c201 => ?_) (fun c201 => ?_)
        · exact absurd c201 (by omega)
        · refine x_iconst (v := (nI (0))) C d_M_append_204 (by decide) ?_
          refine x_goto (tgt := 209) C d_M_append_205 (by decide) ?_
          refine x_isubN C d_M_append_209 (by omega) ?_
          refine x_top (y := (nI (q + 1))) (by congr 1) ?_
          refine x_put (ty := .int) (v := .int (nI (q + 1))) (ws' := [(h, .inr (2, [.ref e0, .ref v0, .int (nI (q + 1)), .ref l0, .ref b0, .int (nI 0), .int (u172.2.1), .int (u172.2.2.1), .int (u172.2.2.2.1), .int (u172.2.2.2.2)])), (e0, .inl (cA, 33000, .inl (upd (upd E (q) (nI (n + m))) (q) (nI (n))))), (v0, .inl (cA, 66000, .inl (upd (upd V (2 * q) (nI (a))) (2 * q + 1) (nI (b))))), (l0, .inl (cA, 200000, .inl (u172.1))), (b0, .inl (cA, 15, .inl (B)))]) C d_M_append_210 0 rfl rfl i_M t_M t_M_ok n_M 2 (by decide) lk_M_25 rfl rfl (t_M_ok 2 (by decide)) rfl rfl (Nat.le_of_ble_eq_true rfl) rfl ?_
          refine x_bipush (v := ((-3))) C d_M_append_213 (by decide) ?_
          exact x_iret C hr d_M_append_215 ((upd (upd E (q) (nI (n + m))) (q) (nI (n)), upd (upd V (2 * q) (nI (a))) (2 * q + 1) (nI (b)), u172.1), ((u172.2.1), (u172.2.2.1), (u172.2.2.2.1), (u172.2.2.2.2))) rfl (⟨rfl, app_back2 hE hn hc1 hc2, hL3⟩)
  refine x_iload_n C d_M_append_0 rfl rfl ?_
  refine x_if_ltN (tgt := 31) C d_M_append_1 (by decide) (by omega) ?_
  refine x_iload_n C d_M_append_4 rfl rfl ?_
  refine x_bipush (v := (nI (15))) C d_M_append_5 (by decide) ?_
  refine x_icmp_gtN (tgt := 31) C d_M_append_7 (by decide) (by omega) (by omega) (fun c7 => ?_) (fun c7 => ?_)
  · exact absurd c7 (by omega)
  · refine x_iload_n C d_M_append_10 rfl rfl ?_
    refine x_if_ltN (tgt := 31) C d_M_append_11 (by decide) (by omega) ?_
    refine x_iload_n C d_M_append_14 rfl rfl ?_
    refine x_bipush (v := (nI (15))) C d_M_append_15 (by decide) ?_
    refine x_icmp_gtN (tgt := 31) C d_M_append_17 (by decide) (by omega) (by omega) (fun c17 => ?_) (fun c17 => ?_)
    · exact absurd c17 (by omega)
    · refine x_iload_n C d_M_append_20 rfl rfl ?_
      refine x_iconst (v := (nI (1))) C d_M_append_21 (by decide) ?_
      refine x_icmp_ltN (tgt := 31) C d_M_append_22 (by decide) (by omega) (by omega) (fun c22 => ?_) (fun c22 => ?_)
      · exact absurd c22 (by omega)
      · refine x_iload_n C d_M_append_25 rfl rfl ?_
        refine x_ldc C d_M_append_26 lk_M_64 ?_
        refine x_top (y := nI 1000000) (by decide) ?_
        refine x_icmp_leN (tgt := 33) C d_M_append_28 (by decide) (by omega) (by omega) (fun c28 => ?_) (fun c28 => ?_)
        · refine x_aload_n C d_M_append_33 rfl rfl ?_
          refine x_get C d_M_append_34 0 rfl rfl i_M 5 (by decide) lk_M_54 rfl rfl ?_
          refine x_if_leN (tgt := 43) C d_M_append_37 (by decide) (by omega) (fun c37 => ?_) (fun c37 => ?_)
          · refine x_aload_n C d_M_append_43 rfl rfl ?_
            refine x_callVI (wr := []) (rest := []) C (c_M_rows hE) d_M_append_44 cd_M_rows lk_M_41 dd_M_rows rfl ⟨Nat.le_of_ble_eq_true rfl, Nat.le_of_ble_eq_true rfl⟩ ⟨Nat.le_refl _, Nat.le_refl _⟩ 2 0 rfl rfl [0, 1, 2, 3, 4] [] rfl rfl (by decide) (by decide) (by decide) rfl (Nat.le_of_ble_eq_true rfl) ?_
            intro r_ u_ hp_
            obtain rfl := hp_
            refine x_top (y := (nI (n))) (by rw [hn]) ?_
            refine x_istore (lv' := [(4, .int (nI n)), (0, .ref h), (1, .int (nI a)), (2, .int (nI b)), (3, .int (nI m))]) C d_M_append_47 (by decide) rfl ?_
            refine x_iload_n C d_M_append_49 rfl rfl ?_
            refine x_ldc C d_M_append_50 lk_M_64 ?_
            refine x_top (y := nI 1000000) (by decide) ?_
            refine x_iload C d_M_append_52 rfl ?_
            refine x_isubN C d_M_append_54 (by omega) ?_
            refine x_icmp_leN (tgt := 61) C d_M_append_55 (by decide) (by omega) (by omega) (fun c55 => ?_) (fun c55 => ?_)
            · refine x_aload_n C d_M_append_61 rfl rfl ?_
              refine x_get C d_M_append_62 0 rfl rfl i_M 2 (by decide) lk_M_25 rfl rfl ?_
              refine x_if_leN (tgt := 106) C d_M_append_65 (by decide) (by omega) (fun c65 => ?_) (fun c65 => ?_)
              · refine x_iconst (v := (nI (0))) C d_M_append_106 (by decide) ?_
                refine x_istore (lv' := [(5, .int (nI 0)), (4, .int (nI n)), (0, .ref h), (1, .int (nI a)), (2, .int (nI b)), (3, .int (nI m))]) C d_M_append_107 (by decide) rfl ?_
                refine x_lv (lv' := [(5, .int (nI 0)), (4, .int (nI n)), (0, .ref h), (1, .int (nI a)), (2, .int (nI b)), (3, .int (nI m))]) (Or.inr (List.forall_mem_cons.mpr ⟨rfl, List.forall_mem_cons.mpr ⟨rfl, List.forall_mem_cons.mpr ⟨rfl, List.forall_mem_cons.mpr ⟨rfl, List.forall_mem_cons.mpr ⟨rfl, List.forall_mem_cons.mpr ⟨rfl, fun _ h9 => absurd h9 List.not_mem_nil⟩⟩⟩⟩⟩⟩)) ?_
                exact HN
              · obtain ⟨q, rfl⟩ : ∃ q, rn = q + 1 := ⟨rn - 1, by omega⟩
                have hv0 := hE.2.2 q 0 (by omega) (by omega)
                have hv1 := hE.2.2 q 1 (by omega) (by omega)
                refine x_aload_n C d_M_append_68 rfl rfl ?_
                refine x_get C d_M_append_69 0 rfl rfl i_M 1 (by decide) lk_M_15 rfl rfl ?_
                refine x_iconst (v := (nI (2))) C d_M_append_72 (by decide) ?_
                refine x_aload_n C d_M_append_73 rfl rfl ?_
                refine x_get C d_M_append_74 0 rfl rfl i_M 2 (by decide) lk_M_25 rfl rfl ?_
                refine x_imulN C d_M_append_77  ?_
                refine x_iconst (v := (nI (2))) C d_M_append_78 (by decide) ?_
                refine x_isubN C d_M_append_79 (by omega) ?_
                refine x_top (y := (nI (2 * q))) (by congr 1) ?_
                refine x_iald C d_M_append_80 2 rfl (by omega) (by omega) ?_
                refine x_top (y := (nI (vl q 0))) hv0.1 ?_
                refine x_iload_n C d_M_append_81 rfl rfl ?_
                refine x_icmp_neN (tgt := 106) C d_M_append_82 (by decide) (by omega) (by omega) (fun c82 => ?_) (fun c82 => ?_)
                · refine x_iconst (v := (nI (0))) C d_M_append_106 (by decide) ?_
                  refine x_istore (lv' := [(5, .int (nI 0)), (4, .int (nI n)), (0, .ref h), (1, .int (nI a)), (2, .int (nI b)), (3, .int (nI m))]) C d_M_append_107 (by decide) rfl ?_
                  refine x_lv (lv' := [(5, .int (nI 0)), (4, .int (nI n)), (0, .ref h), (1, .int (nI a)), (2, .int (nI b)), (3, .int (nI m))]) (Or.inr (List.forall_mem_cons.mpr ⟨rfl, List.forall_mem_cons.mpr ⟨rfl, List.forall_mem_cons.mpr ⟨rfl, List.forall_mem_cons.mpr ⟨rfl, List.forall_mem_cons.mpr ⟨rfl, List.forall_mem_cons.mpr ⟨rfl, fun _ h9 => absurd h9 List.not_mem_nil⟩⟩⟩⟩⟩⟩)) ?_
                  exact HN
                · refine x_aload_n C d_M_append_85 rfl rfl ?_
                  refine x_get C d_M_append_86 0 rfl rfl i_M 1 (by decide) lk_M_15 rfl rfl ?_
                  refine x_iconst (v := (nI (2))) C d_M_append_89 (by decide) ?_
                  refine x_aload_n C d_M_append_90 rfl rfl ?_
                  refine x_get C d_M_append_91 0 rfl rfl i_M 2 (by decide) lk_M_25 rfl rfl ?_
                  refine x_imulN C d_M_append_94  ?_
                  refine x_iconst (v := (nI (1))) C d_M_append_95 (by decide) ?_
                  refine x_isubN C d_M_append_96 (by omega) ?_
                  refine x_top (y := (nI (2 * q + 1))) (by congr 1) ?_
                  refine x_iald C d_M_append_97 2 rfl (by omega) (by omega) ?_
                  refine x_top (y := (nI (vl q 1))) hv1.1 ?_
                  refine x_iload_n C d_M_append_98 rfl rfl ?_
                  refine x_icmp_neN (tgt := 106) C d_M_append_99 (by decide) (by omega) (by omega) (fun c99 => ?_) (fun c99 => ?_)
                  · refine x_iconst (v := (nI (0))) C d_M_append_106 (by decide) ?_
                    refine x_istore (lv' := [(5, .int (nI 0)), (4, .int (nI n)), (0, .ref h), (1, .int (nI a)), (2, .int (nI b)), (3, .int (nI m))]) C d_M_append_107 (by decide) rfl ?_
                    refine x_lv (lv' := [(5, .int (nI 0)), (4, .int (nI n)), (0, .ref h), (1, .int (nI a)), (2, .int (nI b)), (3, .int (nI m))]) (Or.inr (List.forall_mem_cons.mpr ⟨rfl, List.forall_mem_cons.mpr ⟨rfl, List.forall_mem_cons.mpr ⟨rfl, List.forall_mem_cons.mpr ⟨rfl, List.forall_mem_cons.mpr ⟨rfl, List.forall_mem_cons.mpr ⟨rfl, fun _ h9 => absurd h9 List.not_mem_nil⟩⟩⟩⟩⟩⟩)) ?_
                    exact HN
                  · refine x_iconst (v := (nI (1))) C d_M_append_102 (by decide) ?_
                    refine x_goto (tgt := 107) C d_M_append_103 (by decide) ?_
                    refine x_istore (lv' := [(5, .int (nI 1)), (4, .int (nI n)), (0, .ref h), (1, .int (nI a)), (2, .int (nI b)), (3, .int (nI m))]) C d_M_append_107 (by decide) rfl ?_
                    refine x_lv (lv' := [(5, .int (nI 1)), (4, .int (nI n)), (0, .ref h), (1, .int (nI a)), (2, .int (nI b)), (3, .int (nI m))]) (Or.inr (List.forall_mem_cons.mpr ⟨rfl, List.forall_mem_cons.mpr ⟨rfl, List.forall_mem_cons.mpr ⟨rfl, List.forall_mem_cons.mpr ⟨rfl, List.forall_mem_cons.mpr ⟨rfl, List.forall_mem_cons.mpr ⟨rfl, fun _ h9 => absurd h9 List.not_mem_nil⟩⟩⟩⟩⟩⟩)) ?_
                    exact HE q rfl c82 c99
            · exact absurd c55 (by omega)
          · exact absurd c37 (by omega)
        · exact absurd c28 (by omega)
set_option maxHeartbeats 4000000 in
theorem c_M_init {l : Launch} {D : va_G} {cA : ClassId} {h : Nat} : CtV l D cA y_M_init b_M_init 1 ({ frames := 1, cells := 4, slots := 299015, locals := 20 } : Room) [.ref h] [(h, .inr (2, [.null, .null, .int 0, .null, .null, .int 0, .int 0, .int 0, .int 0, .int 0]))] (fun _ : Nat × Nat × Nat × Nat => True) (fun u => mW cA h u.1 u.2.1 u.2.2.1 u.2.2.2 (fun _ => 0) (fun _ => 0) (fun _ => 0) (fun _ => 0) 0 0 0 0 0 0) := by
  refine CtV.start (lv0 := [(0, .ref h)]) (by decide) rfl (Nat.le_of_ble_eq_true rfl) ?_
  intro p_ e_ s_ m_ args_ below_ meth_ c_ A_ C hr hin
  refine x_aload_n C d_M_init_0 rfl rfl ?_
  refine x_objInit C d_M_init_1 lk_M_1 oi_inst oi_code (Nat.le_of_ble_eq_true rfl) (Nat.le_of_ble_eq_true rfl) ?_
  refine x_aload_n C d_M_init_4 rfl rfl ?_
  refine x_ldc C d_M_init_5 lk_M_7 ?_
  refine x_top (y := nI 33000) (by decide) ?_
  refine x_newa C d_M_init_7 arr_int (by omega) (Nat.le_of_ble_eq_true rfl) (Nat.le_of_ble_eq_true rfl) (fun q1 => ?_)
  refine x_putF (ty := .array .int) (v := .ref q1) (ws' := [(h, .inr (2, [.ref q1, .null, .int 0, .null, .null, .int 0, .int 0, .int 0, .int 0, .int 0])), (q1, .inl (cA, (33000), .inl (fun _ => 0)))]) C hin d_M_init_9 0 rfl rfl i_M t_M t_M_ok n_M 0 (by decide) lk_M_8 rfl rfl rfl (t_M_ok 0 (by decide)) rfl rfl (Nat.le_of_ble_eq_true rfl) rfl ?_
  refine x_aload_n C d_M_init_12 rfl rfl ?_
  refine x_ldc C d_M_init_13 lk_M_14 ?_
  refine x_top (y := nI 66000) (by decide) ?_
  refine x_newa C d_M_init_15 arr_int (by omega) (Nat.le_of_ble_eq_true rfl) (Nat.le_of_ble_eq_true rfl) (fun q2 => ?_)
  refine x_putF (ty := .array .int) (v := .ref q2) (ws' := [(h, .inr (2, [.ref q1, .ref q2, .int 0, .null, .null, .int 0, .int 0, .int 0, .int 0, .int 0])), (q1, .inl (cA, (33000), .inl (fun _ => 0))), (q2, .inl (cA, (66000), .inl (fun _ => 0)))]) C hin d_M_init_17 0 rfl rfl i_M t_M t_M_ok n_M 1 (by decide) lk_M_15 rfl rfl rfl (t_M_ok 1 (by decide)) rfl rfl (Nat.le_of_ble_eq_true rfl) rfl ?_
  refine x_aload_n C d_M_init_20 rfl rfl ?_
  refine x_ldc C d_M_init_21 lk_M_18 ?_
  refine x_top (y := nI 200000) (by decide) ?_
  refine x_newa C d_M_init_23 arr_int (by omega) (Nat.le_of_ble_eq_true rfl) (Nat.le_of_ble_eq_true rfl) (fun q3 => ?_)
  refine x_putF (ty := .array .int) (v := .ref q3) (ws' := [(h, .inr (2, [.ref q1, .ref q2, .int 0, .ref q3, .null, .int 0, .int 0, .int 0, .int 0, .int 0])), (q1, .inl (cA, (33000), .inl (fun _ => 0))), (q2, .inl (cA, (66000), .inl (fun _ => 0))), (q3, .inl (cA, (200000), .inl (fun _ => 0)))]) C hin d_M_init_25 0 rfl rfl i_M t_M t_M_ok n_M 3 (by decide) lk_M_19 rfl rfl rfl (t_M_ok 3 (by decide)) rfl rfl (Nat.le_of_ble_eq_true rfl) rfl ?_
  refine x_aload_n C d_M_init_28 rfl rfl ?_
  refine x_bipush (v := (nI (15))) C d_M_init_29 (by decide) ?_
  refine x_newa C d_M_init_31 arr_int (by omega) (Nat.le_of_ble_eq_true rfl) (Nat.le_of_ble_eq_true rfl) (fun q4 => ?_)
  refine x_putF (ty := .array .int) (v := .ref q4) (ws' := [(h, .inr (2, [.ref q1, .ref q2, .int 0, .ref q3, .ref q4, .int 0, .int 0, .int 0, .int 0, .int 0])), (q1, .inl (cA, (33000), .inl (fun _ => 0))), (q2, .inl (cA, (66000), .inl (fun _ => 0))), (q3, .inl (cA, (200000), .inl (fun _ => 0))), (q4, .inl (cA, (15), .inl (fun _ => 0)))]) C hin d_M_init_33 0 rfl rfl i_M t_M t_M_ok n_M 4 (by decide) lk_M_22 rfl rfl rfl (t_M_ok 4 (by decide)) rfl rfl (Nat.le_of_ble_eq_true rfl) rfl ?_
  refine x_widen (k := 4) (n := 299015) (Nat.le_of_ble_eq_true rfl) (Nat.le_of_ble_eq_true rfl) ?_
  exact x_vret C hr d_M_init_36 (q1, q2, q3, q4) rfl (trivial)
