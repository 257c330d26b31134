/-! two sets joined, word against word -/
def gz (W : List (Nat × Nat)) (x : Nat) : Nat := match W[x]? with
  | some w => w.2
  | none => 0
/-- what is left of the groups: la of word i, and all behind it -/
def rmn (W : List (Nat × Nat)) (i la : Nat) : List Nat := match W[i]? with
  | some w => List.replicate la w.1 ++ ex (W.drop (i + 1))
  | none => []
theorem gz_some {W : List (Nat × Nat)} {x : Nat} {w : Nat × Nat} (h : W[x]? = some w) : gz W x = w.2 := by simp [gz, h]
theorem gz_none {W : List (Nat × Nat)} {x : Nat} (h : W.length ≤ x) : gz W x = 0 := by
  have : W[x]? = none := List.getElem?_eq_none h
  simp [gz, this]
theorem rmn_some {W : List (Nat × Nat)} {i la : Nat} {w : Nat × Nat} (h : W[i]? = some w) : rmn W i la = List.replicate la w.1 ++ ex (W.drop (i + 1)) := by simp [rmn, h]
theorem rmn_none {W : List (Nat × Nat)} {i la : Nat} (h : W.length ≤ i) : rmn W i la = [] := by
  have : W[i]? = none := List.getElem?_eq_none h
  simp [rmn, this]
theorem rmn_all (W : List (Nat × Nat)) (i : Nat) : rmn W i (gz W i) = ex (W.drop i) := by
  by_cases h : i < W.length
  · have h1 : W[i]? = some W[i] := List.getElem?_eq_getElem h
    rw [rmn_some h1, gz_some h1, List.drop_eq_getElem_cons h, ex_cons]
  · rw [rmn_none (by omega), List.drop_eq_nil_of_le (by omega)]
    rfl
theorem rmn_next {W : List (Nat × Nat)} {i g : Nat} {w : Nat × Nat} (h : W[i]? = some w) (hg : i + 1 < W.length → g = gz W (i + 1)) : rmn W i 0 = rmn W (i + 1) g := by
  rw [rmn_some h]
  by_cases h2 : i + 1 < W.length
  · rw [hg h2, rmn_all]
    rfl
  · rw [rmn_none (by omega), List.drop_eq_nil_of_le (by omega)]
    rfl
theorem zip_step {o : Nat → Nat → Nat} {a b : Nat} {X Y : List Nat} : ∀ (m la lb : Nat), m ≤ la → m ≤ lb → List.zipWith o (List.replicate la a ++ X) (List.replicate lb b ++ Y) = List.replicate m (o a b) ++ List.zipWith o (List.replicate (la - m) a ++ X) (List.replicate (lb - m) b ++ Y)
  | 0, la, lb, _, _ => by simp
  | m + 1, la, lb, h1, h2 => by
    obtain ⟨la, rfl⟩ : ∃ x, la = x + 1 := ⟨la - 1, by omega⟩
    obtain ⟨lb, rfl⟩ : ∃ x, lb = x + 1 := ⟨lb - 1, by omega⟩
    rw [List.replicate_succ, List.replicate_succ, List.replicate_succ, List.cons_append, List.cons_append, List.cons_append, List.zipWith_cons_cons, zip_step m la lb (by omega) (by omega), Nat.add_sub_add_right, Nat.add_sub_add_right]
theorem okw_jb {op m : Nat} {a b : Nat × Nat} (ha : okw a) (hb : okw b) (ho : op ≤ 3) (h1 : 1 ≤ m) (h2 : m ≤ a.2) (h3 : m ≤ b.2) : okw (jb op a.1 b.1, m) := by
  refine ⟨h1, jb_le ha.2.1 hb.2.1, ?_⟩
  by_cases hm : m = 1
  · exact Or.inr (Or.inr hm)
  · have h4 := okw_fill ha (by omega)
    have h5 := okw_fill hb (by omega)
    dsimp only
    rcases (show op = 0 ∨ op = 1 ∨ op = 2 ∨ op = 3 by omega) with rfl | rfl | rfl | rfl <;> rcases h4 with q | q <;> rcases h5 with q2 | q2 <;> rw [q, q2] <;> first | exact Or.inl (by decide) | exact Or.inr (Or.inl (by decide))
/-- the state of the loop -/
def jInv (op : Nat) (A B : List (Nat × Nat)) (i j la lb st : Nat) (W : List (Nat × Nat)) : Prop :=
  i ≤ A.length ∧ j ≤ B.length ∧ (∀ w, A[i]? = some w → 1 ≤ la ∧ la ≤ w.2) ∧ (∀ w, B[j]? = some w → 1 ≤ lb ∧ lb ≤ w.2) ∧ ex W ++ List.zipWith (jb op) (rmn A i la) (rmn B j lb) = List.zipWith (jb op) (ex A) (ex B) ∧ (rmn A i la).length = (rmn B j lb).length ∧ canon W ∧ W.length ≤ st ∧ st + (A.length - i) + (B.length - j) ≤ A.length + B.length ∧ la < 2 ^ 24 ∧ lb < 2 ^ 24
theorem jInv.done {op : Nat} {A B : List (Nat × Nat)} {i j la lb st : Nat} {W : List (Nat × Nat)} (h : jInv op A B i j la lb st W) (hx : A.length ≤ i ∨ B.length ≤ j) (hs : st ≤ A.length + B.length) : canon W ∧ ex W = List.zipWith (jb op) (ex A) (ex B) ∧ W.length ≤ A.length + B.length := by
  obtain ⟨h1, h2, h3, h4, h5, h6, h7, h8, h9, -⟩ := h
  have h10 : rmn A i la = [] ∧ rmn B j lb = [] := by
    rcases hx with q | q
    · have := rmn_none (la := la) q
      rw [this] at h6
      exact ⟨this, List.eq_nil_of_length_eq_zero h6.symm⟩
    · have := rmn_none (la := lb) q
      rw [this] at h6
      exact ⟨List.eq_nil_of_length_eq_zero h6, this⟩
  rw [h10.1, h10.2] at h5
  refine ⟨h7, by simpa using h5, by omega⟩
theorem jInv.small {op : Nat} {A B : List (Nat × Nat)} {i j la lb st : Nat} {W : List (Nat × Nat)} (h : jInv op A B i j la lb st W) : (ex W).length ≤ (ex A).length := by
  have h5 := congrArg List.length h.2.2.2.2.1
  rw [List.length_append, List.length_zipWith, List.length_zipWith] at h5
  omega
theorem jInv.step {op : Nat} {A B : List (Nat × Nat)} {i j la lb st i' j' la' lb' : Nat} {W : List (Nat × Nat)} {a b : Nat × Nat} (h : jInv op A B i j la lb st W) (ho : op ≤ 3) (ha : A[i]? = some a) (hb : B[j]? = some b) (oa : okw a) (ob : okw b) (hA : ∀ w ∈ A, okw w ∧ w.2 < 2 ^ 24) (hB : ∀ w ∈ B, okw w ∧ w.2 < 2 ^ 24)
    (ci : (i' = i ∧ la' = la - min la lb ∧ 0 < la') ∨ (la - min la lb = 0 ∧ i' = i + 1 ∧ (i + 1 < A.length → la' = gz A (i + 1)) ∧ la' < 2 ^ 24)) (cj : (j' = j ∧ lb' = lb - min la lb ∧ 0 < lb') ∨ (lb - min la lb = 0 ∧ j' = j + 1 ∧ (j + 1 < B.length → lb' = gz B (j + 1)) ∧ lb' < 2 ^ 24)) : jInv op A B i' j' la' lb' (st + 1) (pg W (jb op a.1 b.1) (min la lb)) := by
  obtain ⟨h1, h2, h3, h4, h5, h6, h7, h8, h9, h10, h11⟩ := h
  have hla := h3 a ha
  have hlb := h4 b hb
  have hi : i < A.length := (List.getElem?_eq_some_iff.mp ha).1
  have hj : j < B.length := (List.getElem?_eq_some_iff.mp hb).1
  have hw : okw (jb op a.1 b.1, min la lb) := okw_jb oa ob ho (by omega) (by omega) (by omega)
  have hp := pg_ok (ws := W) h7 (fun _ => hw)
  have eA : rmn A i (la - min la lb) = rmn A i' la' := by
    rcases ci with ⟨rfl, rfl, -⟩ | ⟨e, rfl, e2, -⟩
    · rfl
    · rw [e]; exact rmn_next ha e2
  have eB : rmn B j (lb - min la lb) = rmn B j' lb' := by
    rcases cj with ⟨rfl, rfl, -⟩ | ⟨e, rfl, e2, -⟩
    · rfl
    · rw [e]; exact rmn_next hb e2
  refine ⟨by omega, by omega, fun w hw => ?_, fun w hw => ?_, ?_, ?_, hp.1, by omega, by omega, by omega, by omega⟩
  · rcases ci with ⟨rfl, rfl, q⟩ | ⟨e, rfl, e2, -⟩
    · rw [ha] at hw
      cases hw
      omega
    · have hl : i + 1 < A.length := (List.getElem?_eq_some_iff.mp hw).1
      rw [e2 hl, gz_some hw]
      have := (hA w (List.mem_of_getElem? hw)).1.1
      omega
  · rcases cj with ⟨rfl, rfl, q⟩ | ⟨e, rfl, e2, -⟩
    · rw [hb] at hw
      cases hw
      omega
    · have hl : j + 1 < B.length := (List.getElem?_eq_some_iff.mp hw).1
      rw [e2 hl, gz_some hw]
      have := (hB w (List.mem_of_getElem? hw)).1.1
      omega
  · rw [← eA, ← eB, hp.2.1, ← h5, rmn_some ha, rmn_some hb, rmn_some ha, rmn_some hb, zip_step (min la lb) la lb (by omega) (by omega), List.append_assoc]
  · rw [← eA, ← eB]
    rw [rmn_some ha, rmn_some hb, List.length_append, List.length_append, List.length_replicate, List.length_replicate] at h6 ⊢
    omega
theorem jInv.start {op : Nat} {A B : List (Nat × Nat)} {la lb : Nat} (hl : (ex A).length = (ex B).length) (ha : 0 < A.length → la = gz A 0) (hb : 0 < B.length → lb = gz B 0) (hA : ∀ w ∈ A, okw w ∧ w.2 < 2 ^ 24) (hB : ∀ w ∈ B, okw w ∧ w.2 < 2 ^ 24) (h1 : la < 2 ^ 24) (h2 : lb < 2 ^ 24) : jInv op A B 0 0 la lb 0 [] := by
  have eA : rmn A 0 la = ex A := by
    by_cases h : 0 < A.length
    · rw [ha h, rmn_all]; rfl
    · rw [rmn_none (by omega), List.eq_nil_of_length_eq_zero (l := A) (by omega)]; rfl
  have eB : rmn B 0 lb = ex B := by
    by_cases h : 0 < B.length
    · rw [hb h, rmn_all]; rfl
    · rw [rmn_none (by omega), List.eq_nil_of_length_eq_zero (l := B) (by omega)]; rfl
  refine ⟨by omega, by omega, fun w hw => ?_, fun w hw => ?_, by rw [eA, eB]; rfl, by rw [eA, eB]; exact hl, trivial, by simp, by omega, h1, h2⟩
  · rw [ha (List.getElem?_eq_some_iff.mp hw).1, gz_some hw]
    have := (hA w (List.mem_of_getElem? hw)).1.1
    omega
  · rw [hb (List.getElem?_eq_some_iff.mp hw).1, gz_some hw]
    have := (hB w (List.mem_of_getElem? hw)).1.1
    omega
theorem gz_lt {W : List (Nat × Nat)} {x : Nat} (h : ∀ w ∈ W, okw w ∧ w.2 < 2 ^ 24) : gz W x < 2 ^ 24 := by
  by_cases hx : x < W.length
  · have h1 : W[x]? = some W[x] := List.getElem?_eq_getElem hx
    rw [gz_some h1]
    exact (h _ (List.mem_of_getElem? h1)).2
  · rw [gz_none (by omega)]
    omega
theorem gz_app_l {A B : List (Nat × Nat)} {x : Nat} (h : x < A.length) : gz (A ++ B) x = gz A x := by
  unfold gz
  rw [List.getElem?_append_left h]
theorem gz_app_r {A B : List (Nat × Nat)} {x : Nat} : gz (A ++ B) (A.length + x) = gz B x := by
  unfold gz
  rw [List.getElem?_append_right (by omega), Nat.add_sub_cancel_left]
theorem jn_word {cap mx : Nat} {L Bd : Nat → Int32} {pre : List (List Int32)} {A B : List (Nat × Nat)} (h : Hs cap mx L Bd (pre ++ [A.map enc] ++ [B.map enc])) {x : Nat} {w : Nat × Nat} (hw : (A ++ B)[x]? = some w) : L (tot pre + x) = enc w := by
  by_cases hx : x < A.length
  · rw [List.getElem?_append_left hx] at hw
    exact nt_word h.drop hw
  · rw [List.getElem?_append_right (by omega)] at hw
    have := nt_word h hw
    rw [tot_app, tot_one, List.length_map] at this
    rw [← this]
    congr 1
    omega
theorem c_S_groupsAt_any {l : Launch} {D : va_G} {cA : ClassId} {h h1 h2 cap mx : Nat} {L Bd : Nat → Int32} {k : Nat} {ss : List (List Int32)} (hH : Hs cap mx L Bd ss) (hk : ss.length = k) {W : List (Nat × Nat)} {at_ : Nat} (x t0 : Nat) (hat : at_ = t0 + x) (hx : x ≤ W.length) (htot : tot ss = t0 + W.length) (hL : ∀ y w, W[y]? = some w → L (t0 + y) = enc w) (hok : ∀ w ∈ W, okw w ∧ w.2 < 2 ^ 24) : CtI l D cA y_S_groupsAt b_S_groupsAt 2 (some .int) ({ frames := 1, cells := 0, slots := 0, locals := 20 } : Room) [.ref h, .int (nI at_)] (shW cA h h1 h2 cap mx L Bd k) (fun r (_ : Unit) => r = nI (gz W x)) (fun _ => (shW cA h h1 h2 cap mx L Bd k)) := by
  by_cases h : x < W.length
  · have h1 : W[x]? = some W[x] := List.getElem?_eq_getElem h
    have h2 := hok _ (List.mem_of_getElem? h1)
    rw [gz_some h1]
    exact c_S_groupsAt hH hk (by omega) h2.1 (by omega) (by rw [hat]; exact hL x _ h1)
  · rw [gz_none (by omega)]
    exact c_S_groupsAt_end hH hk (by omega)
set_option maxHeartbeats 4000000 in
theorem c_S_addJoined {l : Launch} {D : va_G} {cA : ClassId} {h h1 h2 cap mx : Nat} {L Bd : Nat → Int32} {f0 f01 f02 cap2 mx2 : Nat} {L2 Bd2 : Nat → Int32} {k k2 : Nat} {ss pre : List (List Int32)} {A B : List (Nat × Nat)} {op : Nat} (hH : Hs cap mx L Bd (ss ++ [[]])) (hk : ss.length + 1 = k) (hF : Hs cap2 mx2 L2 Bd2 (pre ++ [A.map enc] ++ [B.map enc])) (hk2 : pre.length + 2 = k2) (ho : op ≤ 3) (hA : canon A) (hB : canon B) (hlen : (ex A).length = (ex B).length) (hsm : (ex A).length < 2 ^ 24) (hc : tot ss + (A.length + B.length) ≤ cap)  : CtV l D cA y_S_addJoined b_S_addJoined 14 ({ frames := 5, cells := 0, slots := 0, locals := 106 } : Room) [.ref h, .ref f0, .int (nI (pre.length)), .int (nI (pre.length + 1)), .int (nI op)] (shW cA h h1 h2 cap mx L Bd k ++ shW cA f0 f01 f02 cap2 mx2 L2 Bd2 k2) (fun u : (Nat → Int32) × (Nat → Int32) => ∃ W, canon W ∧ ex W = List.zipWith (jb op) (ex A) (ex B) ∧ W.length ≤ A.length + B.length ∧ Hs cap mx u.1 u.2 (ss ++ [W.map enc])) (fun u => shW cA h h1 h2 cap mx u.1 u.2 k ++ shW cA f0 f01 f02 cap2 mx2 L2 Bd2 k2) := by
  subst hk
  subst hk2
  refine CtV.start (lv0 := [(0, .ref h), (1, .ref f0), (2, .int (nI (pre.length))), (3, .int (nI (pre.length + 1))), (4, .int (nI op))]) (by decide) rfl (Nat.le_of_ble_eq_true rfl) ?_
  intro p_ e_ s_ m_ args_ below_ meth_ c_ A_ C hr hin
  have hok : ∀ w ∈ A, okw w ∧ w.2 < 2 ^ 24 := fun w hw => ⟨canon_mem hA w hw, by have := ex_mem_le hw; omega⟩
  have hok2 : ∀ w ∈ B, okw w ∧ w.2 < 2 ^ 24 := fun w hw => ⟨canon_mem hB w hw, by have := ex_mem_le hw; omega⟩
  have hokA : ∀ w ∈ A ++ B, okw w ∧ w.2 < 2 ^ 24 := fun w hw => (List.mem_append.mp hw).elim (hok w) (hok2 w)
  have hlab : (A ++ B).length = A.length + B.length := List.length_append
  have hm := hF.in
  have htot : tot (pre ++ [A.map enc] ++ [B.map enc]) = tot pre + (A ++ B).length := by
    rw [tot_app, tot_app, tot_one, tot_one, List.length_map, List.length_map]
    simp [Nat.add_assoc]
  rw [tot_app, tot_one, List.length_map, List.length_map] at hm
  have hkl : (pre ++ [A.map enc] ++ [B.map enc]).length = pre.length + 2 := by simp
  have ho0 : off (pre ++ [A.map enc] ++ [B.map enc]) pre.length = tot pre := by
    rw [List.append_assoc, off_app (Nat.le_refl _), off_len]
  have ho1 : off (pre ++ [A.map enc] ++ [B.map enc]) (pre.length + 1) = tot pre + A.length := by
    rw [off_app (by simp), off_snoc, List.length_map]
  have ho2 : off (pre ++ [A.map enc] ++ [B.map enc]) (pre.length + 1 + 1) = tot pre + A.length + B.length := by
    have h9 := off_snoc (pre ++ [A.map enc]) (B.map enc)
    rw [tot_app, tot_one, List.length_map, List.length_map, List.length_append, List.length_singleton] at h9
    exact h9
  have LP : ∀ (d i j la lb st : Nat) (W : List (Nat × Nat)) (La Ba : Nat → Int32), st + d = A.length + B.length → jInv op A B i j la lb st W → Hs cap mx La Ba (ss ++ [W.map enc]) → ∀ lv : List (Nat × Value), lv.lookup 0 = some (.ref h) → lv.lookup 1 = some (.ref f0) → lv.lookup 4 = some (.int (nI op)) → lv.lookup 5 = some (.int (nI (tot pre + i))) → lv.lookup 6 = some (.int (nI (tot pre + A.length + j))) → lv.lookup 7 = some (.int (nI (tot pre + A.length))) → lv.lookup 8 = some (.int (nI (tot pre + A.length + B.length))) → lv.lookup 9 = some (.int (nI la)) → lv.lookup 10 = some (.int (nI lb)) → lv.lookup 11 = some (.int (nI (A.length + B.length))) → lv.lookup 12 = some (.int (nI st)) → X p_ l e_ ({ frames := 5, cells := 0, slots := 0, locals := 106 } : Room) s_ m_ args_ below_ meth_ c_ D A_ 14 0 0 (MQ below_ (va_Qv (fun u : (Nat → Int32) × (Nat → Int32) => ∃ W, canon W ∧ ex W = List.zipWith (jb op) (ex A) (ex B) ∧ W.length ≤ A.length + B.length ∧ Hs cap mx u.1 u.2 (ss ++ [W.map enc])) (Bw D A_ (fun u => shW cA h h1 h2 cap mx u.1 u.2 (ss.length + 1) ++ shW cA f0 f01 f02 cap2 mx2 L2 Bd2 (pre.length + 2))) A_) args_ s_ 0 0 A_) [(h, .inr (0, [.ref h1, .ref h2, .int (nI (ss.length + 1))])), (h1, .inl (cA, cap, .inl (La))), (h2, .inl (cA, mx, .inl (Ba))), (f0, .inr (0, [.ref f01, .ref f02, .int (nI (pre.length + 2))])), (f01, .inl (cA, cap2, .inl (L2))), (f02, .inl (cA, mx2, .inl (Bd2)))] 64  lv [] := by
    intro d
    induction d with
    | zero =>
      intro i j la lb st W La Ba hst hI hHa lv_ l0 l1 l4 l5 l6 l7 l8 l9 l10 l11 l12
      refine x_lv (lv' := [(0, .ref h), (1, .ref f0), (4, .int (nI op)), (5, .int (nI (tot pre + i))), (6, .int (nI (tot pre + A.length + j))), (7, .int (nI (tot pre + A.length))), (8, .int (nI (tot pre + A.length + B.length))), (9, .int (nI la)), (10, .int (nI lb)), (11, .int (nI (A.length + B.length))), (12, .int (nI st))]) (Or.inr (fun q hq => by simp only [List.mem_cons, List.not_mem_nil, or_false] at hq; rcases hq with rfl | rfl | rfl | rfl | rfl | rfl | rfl | rfl | rfl | rfl | rfl <;> assumption)) ?_
      have hI0 := hI
      obtain ⟨hi1, hj1, -, -, -, -, -, -, hst2, hla1, hlb1⟩ := hI0
      refine x_iload C d_S_addJoined_64 rfl ?_
      refine x_iload C d_S_addJoined_66 rfl ?_
      refine x_icmp_geN (tgt := 177) C d_S_addJoined_68 (by decide) (by omega) (by omega) (fun c68 => ?_) (fun c68 => ?_)
      · exact x_vret C hr d_S_addJoined_177 (La, Ba) rfl (by
          have h9 := hI.done (by omega) (by omega)
          exact ⟨W, h9.1, h9.2.1, h9.2.2, hHa⟩)
      · exact absurd c68 (by omega)
    | succ d ih =>
      intro i j la lb st W La Ba hst hI hHa lv_ l0 l1 l4 l5 l6 l7 l8 l9 l10 l11 l12
      refine x_lv (lv' := [(0, .ref h), (1, .ref f0), (4, .int (nI op)), (5, .int (nI (tot pre + i))), (6, .int (nI (tot pre + A.length + j))), (7, .int (nI (tot pre + A.length))), (8, .int (nI (tot pre + A.length + B.length))), (9, .int (nI la)), (10, .int (nI lb)), (11, .int (nI (A.length + B.length))), (12, .int (nI st))]) (Or.inr (fun q hq => by simp only [List.mem_cons, List.not_mem_nil, or_false] at hq; rcases hq with rfl | rfl | rfl | rfl | rfl | rfl | rfl | rfl | rfl | rfl | rfl <;> assumption)) ?_
      have hI0 := hI
      obtain ⟨hi1, hj1, hla0, hlb0, -, -, hWc, hWl, hst2, hla1, hlb1⟩ := hI0
      refine x_iload C d_S_addJoined_64 rfl ?_
      refine x_iload C d_S_addJoined_66 rfl ?_
      refine x_icmp_geN (tgt := 177) C d_S_addJoined_68 (by decide) (by omega) (by omega) (fun c68 => ?_) (fun c68 => ?_)
      · exact absurd c68 (by omega)
      · refine x_iload C d_S_addJoined_71 rfl ?_
        refine x_iload C d_S_addJoined_73 rfl ?_
        refine x_icmp_geN (tgt := 177) C d_S_addJoined_75 (by decide) (by omega) (by omega) (fun c75 => ?_) (fun c75 => ?_)
        · exact x_vret C hr d_S_addJoined_177 (La, Ba) rfl (by
            have h9 := hI.done (by omega) (by omega)
            exact ⟨W, h9.1, h9.2.1, h9.2.2, hHa⟩)
        · refine x_iload C d_S_addJoined_78 rfl ?_
          refine x_iload C d_S_addJoined_80 rfl ?_
          refine x_icmp_geN (tgt := 177) C d_S_addJoined_82 (by decide) (by omega) (by omega) (fun c82 => ?_) (fun c82 => ?_)
          · exact x_vret C hr d_S_addJoined_177 (La, Ba) rfl (by
              have h9 := hI.done (by omega) (by omega)
              exact ⟨W, h9.1, h9.2.1, h9.2.2, hHa⟩)
          · obtain ⟨a, ha⟩ : ∃ a, A[i]? = some a := ⟨A[i], List.getElem?_eq_getElem (by omega)⟩
            obtain ⟨b, hb⟩ : ∃ b, B[j]? = some b := ⟨B[j], List.getElem?_eq_getElem (by omega)⟩
            have oa := hok a (List.mem_of_getElem? ha)
            have ob := hok2 b (List.mem_of_getElem? hb)
            have hla2 := hla0 a ha
            have hlb2 := hlb0 b hb
            have hxW := hI.small
            refine x_iload C d_S_addJoined_85 rfl ?_
            refine x_iload C d_S_addJoined_87 rfl ?_
            refine x_mminN C d_S_addJoined_89 lk_S_22 ma_min_st ini_Ma ma_min_cd ⟨Nat.le_of_ble_eq_true rfl, Nat.le_of_ble_eq_true rfl, Nat.zero_le _, Nat.zero_le _⟩ (by omega) (by omega) ?_
            refine x_istore (lv' := [(13, .int (nI (min la lb))), (0, .ref h), (1, .ref f0), (4, .int (nI op)), (5, .int (nI (tot pre + i))), (6, .int (nI (tot pre + A.length + j))), (7, .int (nI (tot pre + A.length))), (8, .int (nI (tot pre + A.length + B.length))), (9, .int (nI la)), (10, .int (nI lb)), (11, .int (nI (A.length + B.length))), (12, .int (nI st))]) C d_S_addJoined_92 (by decide) rfl ?_
            refine x_aload_n C d_S_addJoined_94 rfl rfl ?_
            refine x_iload C d_S_addJoined_95 rfl ?_
            refine x_aload_n C d_S_addJoined_97 rfl rfl ?_
            refine x_get C d_S_addJoined_98 3 rfl rfl i_S 0 (by decide) lk_S_15 rfl rfl ?_
            refine x_iload C d_S_addJoined_101 rfl ?_
            refine x_iald C d_S_addJoined_103 4 rfl (by omega) (by omega) ?_
            refine x_top (y := (enc a)) (jn_word hF (by rw [List.getElem?_append_left (by omega)]; exact ha)) ?_
            refine x_callSIN (wr := [(h, .inr (0, [.ref h1, .ref h2, .int (nI (ss.length + 1))])), (h1, .inl (cA, cap, .inl (La))), (h2, .inl (cA, mx, .inl (Ba))), (f0, .inr (0, [.ref f01, .ref f02, .int (nI (pre.length + 2))])), (f01, .inl (cA, cap2, .inl (L2))), (f02, .inl (cA, mx2, .inl (Bd2)))]) (rest := [.int (nI op), .ref h]) C (c_B_bitsOf oa.1 (by omega)) d_S_addJoined_104 cd_B_bitsOf lk_S_38 dd_B_bitsOf rfl ⟨Nat.le_of_ble_eq_true rfl, Nat.le_of_ble_eq_true rfl⟩ ⟨Nat.le_refl _, Nat.le_refl _⟩ [] [0, 1, 2, 3, 4, 5] rfl rfl (by decide) (by decide) (by decide) rfl (Nat.le_of_ble_eq_true rfl) ?_
            intro r_ u_ hp_
            obtain rfl := hp_
            refine x_aload_n C d_S_addJoined_107 rfl rfl ?_
            refine x_get C d_S_addJoined_108 3 rfl rfl i_S 0 (by decide) lk_S_15 rfl rfl ?_
            refine x_iload C d_S_addJoined_111 rfl ?_
            refine x_iald C d_S_addJoined_113 4 rfl (by omega) (by omega) ?_
            refine x_top (y := (enc b)) (by rw [Nat.add_assoc]; exact jn_word hF (by rw [List.getElem?_append_right (by omega), Nat.add_sub_cancel_left]; exact hb)) ?_
            refine x_callSIN (wr := [(h, .inr (0, [.ref h1, .ref h2, .int (nI (ss.length + 1))])), (h1, .inl (cA, cap, .inl (La))), (h2, .inl (cA, mx, .inl (Ba))), (f0, .inr (0, [.ref f01, .ref f02, .int (nI (pre.length + 2))])), (f01, .inl (cA, cap2, .inl (L2))), (f02, .inl (cA, mx2, .inl (Bd2)))]) (rest := [.int (nI (a.1)), .int (nI op), .ref h]) C (c_B_bitsOf ob.1 (by omega)) d_S_addJoined_114 cd_B_bitsOf lk_S_38 dd_B_bitsOf rfl ⟨Nat.le_of_ble_eq_true rfl, Nat.le_of_ble_eq_true rfl⟩ ⟨Nat.le_refl _, Nat.le_refl _⟩ [] [0, 1, 2, 3, 4, 5] rfl rfl (by decide) (by decide) (by decide) rfl (Nat.le_of_ble_eq_true rfl) ?_
            intro r_ u_ hp_
            obtain rfl := hp_
            refine x_callSIN (wr := [(h, .inr (0, [.ref h1, .ref h2, .int (nI (ss.length + 1))])), (h1, .inl (cA, cap, .inl (La))), (h2, .inl (cA, mx, .inl (Ba))), (f0, .inr (0, [.ref f01, .ref f02, .int (nI (pre.length + 2))])), (f01, .inl (cA, cap2, .inl (L2))), (f02, .inl (cA, mx2, .inl (Bd2)))]) (rest := [.ref h]) C (c_B_joinedBits ho oa.1.2.1 ob.1.2.1) d_S_addJoined_117 cd_B_joinedBits lk_S_79 dd_B_joinedBits rfl ⟨Nat.le_of_ble_eq_true rfl, Nat.le_of_ble_eq_true rfl⟩ ⟨Nat.le_refl _, Nat.le_refl _⟩ [] [0, 1, 2, 3, 4, 5] rfl rfl (by decide) (by decide) (by decide) rfl (Nat.le_of_ble_eq_true rfl) ?_
            intro r_ u_ hp_
            obtain rfl := hp_
            refine x_iload C d_S_addJoined_120 rfl ?_
            refine x_callVV (wr := [(f0, .inr (0, [.ref f01, .ref f02, .int (nI (pre.length + 2))])), (f01, .inl (cA, cap2, .inl (L2))), (f02, .inl (cA, mx2, .inl (Bd2)))]) (rest := []) C (c_S_addGroups hHa rfl hWc (by omega) (jb_le oa.1.2.1 ob.1.2.1) (fun h9 => okw_jb oa.1 ob.1 ho h9 (by omega) (by omega)) (by omega) (by omega)) d_S_addJoined_122 cd_S_addGroups lk_S_72 dd_S_addGroups rfl ⟨Nat.le_of_ble_eq_true rfl, Nat.le_of_ble_eq_true rfl⟩ ⟨Nat.le_refl _, Nat.le_refl _⟩ 0 0 rfl rfl [0, 1, 2] [3, 4, 5] rfl rfl (by decide) (by decide) (by decide) rfl (Nat.le_of_ble_eq_true rfl) ?_
            intro u122 hH2
            refine x_iload C d_S_addJoined_125 rfl ?_
            refine x_iload C d_S_addJoined_127 rfl ?_
            refine x_isubN C d_S_addJoined_129 (by omega) ?_
            refine x_istore (lv' := [(9, .int (nI (la - (min la lb)))), (13, .int (nI (min la lb))), (0, .ref h), (1, .ref f0), (4, .int (nI op)), (5, .int (nI (tot pre + i))), (6, .int (nI (tot pre + A.length + j))), (7, .int (nI (tot pre + A.length))), (8, .int (nI (tot pre + A.length + B.length))), (10, .int (nI lb)), (11, .int (nI (A.length + B.length))), (12, .int (nI st))]) C d_S_addJoined_130 (by decide) rfl ?_
            refine x_iload C d_S_addJoined_132 rfl ?_
            refine x_iload C d_S_addJoined_134 rfl ?_
            refine x_isubN C d_S_addJoined_136 (by omega) ?_
            refine x_istore (lv' := [(10, .int (nI (lb - (min la lb)))), (9, .int (nI (la - (min la lb)))), (13, .int (nI (min la lb))), (0, .ref h), (1, .ref f0), (4, .int (nI op)), (5, .int (nI (tot pre + i))), (6, .int (nI (tot pre + A.length + j))), (7, .int (nI (tot pre + A.length))), (8, .int (nI (tot pre + A.length + B.length))), (11, .int (nI (A.length + B.length))), (12, .int (nI st))]) C d_S_addJoined_137 (by decide) rfl ?_
            refine x_iload C d_S_addJoined_139 rfl ?_
            refine x_if_neN (tgt := 155) C d_S_addJoined_141 (by decide) (by omega) (fun c141 => ?_) (fun c141 => ?_)
            · refine x_iload C d_S_addJoined_155 rfl ?_
              refine x_if_neN (tgt := 171) C d_S_addJoined_157 (by decide) (by omega) (fun c157 => ?_) (fun c157 => ?_)
              · exact absurd c157 (by omega)
              · refine x_iincN (lv' := [(6, .int (nI (tot pre + A.length + j + 1))), (10, .int (nI (lb - (min la lb)))), (9, .int (nI (la - (min la lb)))), (13, .int (nI (min la lb))), (0, .ref h), (1, .ref f0), (4, .int (nI op)), (5, .int (nI (tot pre + i))), (7, .int (nI (tot pre + A.length))), (8, .int (nI (tot pre + A.length + B.length))), (11, .int (nI (A.length + B.length))), (12, .int (nI st))]) C d_S_addJoined_160 rfl (by decide) rfl ?_
                refine x_aload_n C d_S_addJoined_163 rfl rfl ?_
                refine x_iload C d_S_addJoined_164 rfl ?_
                refine x_callVI (wr := [(h, .inr (0, [.ref h1, .ref h2, .int (nI (ss.length + 1))])), (h1, .inl (cA, cap, .inl (u122.1))), (h2, .inl (cA, mx, .inl (u122.2)))]) (rest := []) C (c_S_groupsAt_any (at_ := tot pre + A.length + j + 1) hF hkl (A.length + (j + 1)) (tot pre) (by omega) (by omega) htot (fun y w h9 => jn_word hF h9) hokA) d_S_addJoined_166 cd_S_groupsAt lk_S_76 dd_S_groupsAt rfl ⟨Nat.le_of_ble_eq_true rfl, Nat.le_of_ble_eq_true rfl⟩ ⟨Nat.le_refl _, Nat.le_refl _⟩ 0 0 rfl rfl [0, 1, 2] [3, 4, 5] rfl rfl (by decide) (by decide) (by decide) rfl (Nat.le_of_ble_eq_true rfl) ?_
                intro r_ u_ hp_
                obtain rfl := hp_
                refine x_istore (lv' := [(10, .int (nI (gz (A ++ B) (A.length + (j + 1))))), (6, .int (nI (tot pre + A.length + j + 1))), (9, .int (nI (la - (min la lb)))), (13, .int (nI (min la lb))), (0, .ref h), (1, .ref f0), (4, .int (nI op)), (5, .int (nI (tot pre + i))), (7, .int (nI (tot pre + A.length))), (8, .int (nI (tot pre + A.length + B.length))), (11, .int (nI (A.length + B.length))), (12, .int (nI st))]) C d_S_addJoined_169 (by decide) rfl ?_
                refine x_iincN (lv' := [(12, .int (nI (st + 1))), (10, .int (nI (gz (A ++ B) (A.length + (j + 1))))), (6, .int (nI (tot pre + A.length + j + 1))), (9, .int (nI (la - (min la lb)))), (13, .int (nI (min la lb))), (0, .ref h), (1, .ref f0), (4, .int (nI op)), (5, .int (nI (tot pre + i))), (7, .int (nI (tot pre + A.length))), (8, .int (nI (tot pre + A.length + B.length))), (11, .int (nI (A.length + B.length)))]) C d_S_addJoined_171 rfl (by decide) rfl ?_
                refine x_goto (tgt := 64) C d_S_addJoined_174 (by decide) ?_
                exact ih i (j + 1) (la - min la lb) (gz (A ++ B) (A.length + (j + 1))) (st + 1) _ u122.1 u122.2 (by omega) (hI.step ho ha hb oa.1 ob.1 hok hok2 (Or.inl ⟨rfl, rfl, c141⟩) (Or.inr ⟨c157, rfl, fun _ => gz_app_r, gz_lt hokA⟩)) hH2 _ rfl rfl rfl rfl rfl rfl rfl rfl rfl rfl rfl
            · refine x_iincN (lv' := [(5, .int (nI (tot pre + i + 1))), (10, .int (nI (lb - (min la lb)))), (9, .int (nI (la - (min la lb)))), (13, .int (nI (min la lb))), (0, .ref h), (1, .ref f0), (4, .int (nI op)), (6, .int (nI (tot pre + A.length + j))), (7, .int (nI (tot pre + A.length))), (8, .int (nI (tot pre + A.length + B.length))), (11, .int (nI (A.length + B.length))), (12, .int (nI st))]) C d_S_addJoined_144 rfl (by decide) rfl ?_
              refine x_aload_n C d_S_addJoined_147 rfl rfl ?_
              refine x_iload C d_S_addJoined_148 rfl ?_
              refine x_callVI (wr := [(h, .inr (0, [.ref h1, .ref h2, .int (nI (ss.length + 1))])), (h1, .inl (cA, cap, .inl (u122.1))), (h2, .inl (cA, mx, .inl (u122.2)))]) (rest := []) C (c_S_groupsAt_any (at_ := tot pre + i + 1) hF hkl (i + 1) (tot pre) (by omega) (by omega) htot (fun y w h9 => jn_word hF h9) hokA) d_S_addJoined_150 cd_S_groupsAt lk_S_76 dd_S_groupsAt rfl ⟨Nat.le_of_ble_eq_true rfl, Nat.le_of_ble_eq_true rfl⟩ ⟨Nat.le_refl _, Nat.le_refl _⟩ 0 0 rfl rfl [0, 1, 2] [3, 4, 5] rfl rfl (by decide) (by decide) (by decide) rfl (Nat.le_of_ble_eq_true rfl) ?_
              intro r_ u_ hp_
              obtain rfl := hp_
              refine x_istore (lv' := [(9, .int (nI (gz (A ++ B) (i + 1)))), (5, .int (nI (tot pre + i + 1))), (10, .int (nI (lb - (min la lb)))), (13, .int (nI (min la lb))), (0, .ref h), (1, .ref f0), (4, .int (nI op)), (6, .int (nI (tot pre + A.length + j))), (7, .int (nI (tot pre + A.length))), (8, .int (nI (tot pre + A.length + B.length))), (11, .int (nI (A.length + B.length))), (12, .int (nI st))]) C d_S_addJoined_153 (by decide) rfl ?_
              refine x_iload C d_S_addJoined_155 rfl ?_
              refine x_if_neN (tgt := 171) C d_S_addJoined_157 (by decide) (by omega) (fun c157 => ?_) (fun c157 => ?_)
              · refine x_iincN (lv' := [(12, .int (nI (st + 1))), (9, .int (nI (gz (A ++ B) (i + 1)))), (5, .int (nI (tot pre + i + 1))), (10, .int (nI (lb - (min la lb)))), (13, .int (nI (min la lb))), (0, .ref h), (1, .ref f0), (4, .int (nI op)), (6, .int (nI (tot pre + A.length + j))), (7, .int (nI (tot pre + A.length))), (8, .int (nI (tot pre + A.length + B.length))), (11, .int (nI (A.length + B.length)))]) C d_S_addJoined_171 rfl (by decide) rfl ?_
                refine x_goto (tgt := 64) C d_S_addJoined_174 (by decide) ?_
                exact ih (i + 1) j (gz (A ++ B) (i + 1)) (lb - min la lb) (st + 1) _ u122.1 u122.2 (by omega) (hI.step ho ha hb oa.1 ob.1 hok hok2 (Or.inr ⟨c141, rfl, fun h9 => gz_app_l h9, gz_lt hokA⟩) (Or.inl ⟨rfl, rfl, c157⟩)) hH2 _ rfl rfl rfl rfl rfl rfl rfl rfl rfl rfl rfl
              · refine x_iincN (lv' := [(6, .int (nI (tot pre + A.length + j + 1))), (9, .int (nI (gz (A ++ B) (i + 1)))), (5, .int (nI (tot pre + i + 1))), (10, .int (nI (lb - (min la lb)))), (13, .int (nI (min la lb))), (0, .ref h), (1, .ref f0), (4, .int (nI op)), (7, .int (nI (tot pre + A.length))), (8, .int (nI (tot pre + A.length + B.length))), (11, .int (nI (A.length + B.length))), (12, .int (nI st))]) C d_S_addJoined_160 rfl (by decide) rfl ?_
                refine x_aload_n C d_S_addJoined_163 rfl rfl ?_
                refine x_iload C d_S_addJoined_164 rfl ?_
                refine x_callVI (wr := [(h, .inr (0, [.ref h1, .ref h2, .int (nI (ss.length + 1))])), (h1, .inl (cA, cap, .inl (u122.1))), (h2, .inl (cA, mx, .inl (u122.2)))]) (rest := []) C (c_S_groupsAt_any (at_ := tot pre + A.length + j + 1) hF hkl (A.length + (j + 1)) (tot pre) (by omega) (by omega) htot (fun y w h9 => jn_word hF h9) hokA) d_S_addJoined_166 cd_S_groupsAt lk_S_76 dd_S_groupsAt rfl ⟨Nat.le_of_ble_eq_true rfl, Nat.le_of_ble_eq_true rfl⟩ ⟨Nat.le_refl _, Nat.le_refl _⟩ 0 0 rfl rfl [3, 4, 5] [0, 1, 2] rfl rfl (by decide) (by decide) (by decide) rfl (Nat.le_of_ble_eq_true rfl) ?_
                intro r_ u_ hp_
                obtain rfl := hp_
                refine x_istore (lv' := [(10, .int (nI (gz (A ++ B) (A.length + (j + 1))))), (6, .int (nI (tot pre + A.length + j + 1))), (9, .int (nI (gz (A ++ B) (i + 1)))), (5, .int (nI (tot pre + i + 1))), (13, .int (nI (min la lb))), (0, .ref h), (1, .ref f0), (4, .int (nI op)), (7, .int (nI (tot pre + A.length))), (8, .int (nI (tot pre + A.length + B.length))), (11, .int (nI (A.length + B.length))), (12, .int (nI st))]) C d_S_addJoined_169 (by decide) rfl ?_
                refine x_iincN (lv' := [(12, .int (nI (st + 1))), (10, .int (nI (gz (A ++ B) (A.length + (j + 1))))), (6, .int (nI (tot pre + A.length + j + 1))), (9, .int (nI (gz (A ++ B) (i + 1)))), (5, .int (nI (tot pre + i + 1))), (13, .int (nI (min la lb))), (0, .ref h), (1, .ref f0), (4, .int (nI op)), (7, .int (nI (tot pre + A.length))), (8, .int (nI (tot pre + A.length + B.length))), (11, .int (nI (A.length + B.length)))]) C d_S_addJoined_171 rfl (by decide) rfl ?_
                refine x_goto (tgt := 64) C d_S_addJoined_174 (by decide) ?_
                exact ih (i + 1) (j + 1) (gz (A ++ B) (i + 1)) (gz (A ++ B) (A.length + (j + 1))) (st + 1) _ u122.1 u122.2 (by omega) (hI.step ho ha hb oa.1 ob.1 hok hok2 (Or.inr ⟨c141, rfl, fun h9 => gz_app_l h9, gz_lt hokA⟩) (Or.inr ⟨c157, rfl, fun _ => gz_app_r, gz_lt hokA⟩)) hH2 _ rfl rfl rfl rfl rfl rfl rfl rfl rfl rfl rfl
  refine x_aload_n C d_S_addJoined_0 rfl rfl ?_
  refine x_iload_n C d_S_addJoined_1 rfl rfl ?_
  refine x_callVI (wr := [(h, .inr (0, [.ref h1, .ref h2, .int (nI (ss.length + 1))])), (h1, .inl (cA, cap, .inl (L))), (h2, .inl (cA, mx, .inl (Bd)))]) (rest := []) C (c_S_startOf (i := pre.length) hF hkl (by omega)) d_S_addJoined_2 cd_S_startOf lk_S_31 dd_S_startOf rfl ⟨Nat.le_of_ble_eq_true rfl, Nat.le_of_ble_eq_true rfl⟩ ⟨Nat.le_refl _, Nat.le_refl _⟩ 0 0 rfl rfl [3, 4, 5] [0, 1, 2] rfl rfl (by decide) (by decide) (by decide) rfl (Nat.le_of_ble_eq_true rfl) ?_
  intro r_ u_ hp_
  obtain rfl := hp_
  refine x_top (y := (nI (tot pre))) (by rw [ho0]) ?_
  refine x_istore (lv' := [(5, .int (nI (tot pre))), (0, .ref h), (1, .ref f0), (2, .int (nI (pre.length))), (3, .int (nI (pre.length + 1))), (4, .int (nI op))]) C d_S_addJoined_5 (by decide) rfl ?_
  refine x_aload_n C d_S_addJoined_7 rfl rfl ?_
  refine x_iload_n C d_S_addJoined_8 rfl rfl ?_
  refine x_callVI (wr := [(h, .inr (0, [.ref h1, .ref h2, .int (nI (ss.length + 1))])), (h1, .inl (cA, cap, .inl (L))), (h2, .inl (cA, mx, .inl (Bd)))]) (rest := []) C (c_S_startOf (i := pre.length + 1) hF hkl (by omega)) d_S_addJoined_9 cd_S_startOf lk_S_31 dd_S_startOf rfl ⟨Nat.le_of_ble_eq_true rfl, Nat.le_of_ble_eq_true rfl⟩ ⟨Nat.le_refl _, Nat.le_refl _⟩ 0 0 rfl rfl [3, 4, 5] [0, 1, 2] rfl rfl (by decide) (by decide) (by decide) rfl (Nat.le_of_ble_eq_true rfl) ?_
  intro r_ u_ hp_
  obtain rfl := hp_
  refine x_top (y := (nI (tot pre + A.length))) (by rw [ho1]) ?_
  refine x_istore (lv' := [(6, .int (nI (tot pre + A.length))), (5, .int (nI (tot pre))), (0, .ref h), (1, .ref f0), (2, .int (nI (pre.length))), (3, .int (nI (pre.length + 1))), (4, .int (nI op))]) C d_S_addJoined_12 (by decide) rfl ?_
  refine x_aload_n C d_S_addJoined_14 rfl rfl ?_
  refine x_iload_n C d_S_addJoined_15 rfl rfl ?_
  refine x_iconst (v := (nI (1))) C d_S_addJoined_16 (by decide) ?_
  refine x_iaddN C d_S_addJoined_17  ?_
  refine x_callVI (wr := [(h, .inr (0, [.ref h1, .ref h2, .int (nI (ss.length + 1))])), (h1, .inl (cA, cap, .inl (L))), (h2, .inl (cA, mx, .inl (Bd)))]) (rest := []) C (c_S_startOf (i := pre.length + 1) hF hkl (by omega)) d_S_addJoined_18 cd_S_startOf lk_S_31 dd_S_startOf rfl ⟨Nat.le_of_ble_eq_true rfl, Nat.le_of_ble_eq_true rfl⟩ ⟨Nat.le_refl _, Nat.le_refl _⟩ 0 0 rfl rfl [3, 4, 5] [0, 1, 2] rfl rfl (by decide) (by decide) (by decide) rfl (Nat.le_of_ble_eq_true rfl) ?_
  intro r_ u_ hp_
  obtain rfl := hp_
  refine x_top (y := (nI (tot pre + A.length))) (by rw [ho1]) ?_
  refine x_istore (lv' := [(7, .int (nI (tot pre + A.length))), (6, .int (nI (tot pre + A.length))), (5, .int (nI (tot pre))), (0, .ref h), (1, .ref f0), (2, .int (nI (pre.length))), (3, .int (nI (pre.length + 1))), (4, .int (nI op))]) C d_S_addJoined_21 (by decide) rfl ?_
  refine x_aload_n C d_S_addJoined_23 rfl rfl ?_
  refine x_iload_n C d_S_addJoined_24 rfl rfl ?_
  refine x_iconst (v := (nI (1))) C d_S_addJoined_25 (by decide) ?_
  refine x_iaddN C d_S_addJoined_26  ?_
  refine x_callVI (wr := [(h, .inr (0, [.ref h1, .ref h2, .int (nI (ss.length + 1))])), (h1, .inl (cA, cap, .inl (L))), (h2, .inl (cA, mx, .inl (Bd)))]) (rest := []) C (c_S_startOf (i := pre.length + 1 + 1) hF hkl (by omega)) d_S_addJoined_27 cd_S_startOf lk_S_31 dd_S_startOf rfl ⟨Nat.le_of_ble_eq_true rfl, Nat.le_of_ble_eq_true rfl⟩ ⟨Nat.le_refl _, Nat.le_refl _⟩ 0 0 rfl rfl [3, 4, 5] [0, 1, 2] rfl rfl (by decide) (by decide) (by decide) rfl (Nat.le_of_ble_eq_true rfl) ?_
  intro r_ u_ hp_
  obtain rfl := hp_
  refine x_top (y := (nI (tot pre + A.length + B.length))) (by rw [ho2]) ?_
  refine x_istore (lv' := [(8, .int (nI (tot pre + A.length + B.length))), (7, .int (nI (tot pre + A.length))), (6, .int (nI (tot pre + A.length))), (5, .int (nI (tot pre))), (0, .ref h), (1, .ref f0), (2, .int (nI (pre.length))), (3, .int (nI (pre.length + 1))), (4, .int (nI op))]) C d_S_addJoined_30 (by decide) rfl ?_
  refine x_aload_n C d_S_addJoined_32 rfl rfl ?_
  refine x_iload C d_S_addJoined_33 rfl ?_
  refine x_callVI (wr := [(h, .inr (0, [.ref h1, .ref h2, .int (nI (ss.length + 1))])), (h1, .inl (cA, cap, .inl (L))), (h2, .inl (cA, mx, .inl (Bd)))]) (rest := []) C (c_S_groupsAt_any (at_ := tot pre) hF hkl 0 (tot pre) (by omega) (by omega) htot (fun y w h9 => jn_word hF h9) hokA) d_S_addJoined_35 cd_S_groupsAt lk_S_76 dd_S_groupsAt rfl ⟨Nat.le_of_ble_eq_true rfl, Nat.le_of_ble_eq_true rfl⟩ ⟨Nat.le_refl _, Nat.le_refl _⟩ 0 0 rfl rfl [3, 4, 5] [0, 1, 2] rfl rfl (by decide) (by decide) (by decide) rfl (Nat.le_of_ble_eq_true rfl) ?_
  intro r_ u_ hp_
  obtain rfl := hp_
  refine x_istore (lv' := [(9, .int (nI (gz (A ++ B) 0))), (8, .int (nI (tot pre + A.length + B.length))), (7, .int (nI (tot pre + A.length))), (6, .int (nI (tot pre + A.length))), (5, .int (nI (tot pre))), (0, .ref h), (1, .ref f0), (2, .int (nI (pre.length))), (3, .int (nI (pre.length + 1))), (4, .int (nI op))]) C d_S_addJoined_38 (by decide) rfl ?_
  refine x_aload_n C d_S_addJoined_40 rfl rfl ?_
  refine x_iload C d_S_addJoined_41 rfl ?_
  refine x_callVI (wr := [(h, .inr (0, [.ref h1, .ref h2, .int (nI (ss.length + 1))])), (h1, .inl (cA, cap, .inl (L))), (h2, .inl (cA, mx, .inl (Bd)))]) (rest := []) C (c_S_groupsAt_any (at_ := tot pre + A.length) hF hkl (A.length + 0) (tot pre) (by omega) (by omega) htot (fun y w h9 => jn_word hF h9) hokA) d_S_addJoined_43 cd_S_groupsAt lk_S_76 dd_S_groupsAt rfl ⟨Nat.le_of_ble_eq_true rfl, Nat.le_of_ble_eq_true rfl⟩ ⟨Nat.le_refl _, Nat.le_refl _⟩ 0 0 rfl rfl [3, 4, 5] [0, 1, 2] rfl rfl (by decide) (by decide) (by decide) rfl (Nat.le_of_ble_eq_true rfl) ?_
  intro r_ u_ hp_
  obtain rfl := hp_
  refine x_istore (lv' := [(10, .int (nI (gz (A ++ B) (A.length + 0)))), (9, .int (nI (gz (A ++ B) 0))), (8, .int (nI (tot pre + A.length + B.length))), (7, .int (nI (tot pre + A.length))), (6, .int (nI (tot pre + A.length))), (5, .int (nI (tot pre))), (0, .ref h), (1, .ref f0), (2, .int (nI (pre.length))), (3, .int (nI (pre.length + 1))), (4, .int (nI op))]) C d_S_addJoined_46 (by decide) rfl ?_
  refine x_iload C d_S_addJoined_48 rfl ?_
  refine x_iload C d_S_addJoined_50 rfl ?_
  refine x_isubN C d_S_addJoined_52 (by omega) ?_
  refine x_iload C d_S_addJoined_53 rfl ?_
  refine x_iaddN C d_S_addJoined_55  ?_
  refine x_iload C d_S_addJoined_56 rfl ?_
  refine x_isubN C d_S_addJoined_58 (by omega) ?_
  refine x_top (y := (nI (A.length + B.length))) (by congr 1; omega) ?_
  refine x_istore (lv' := [(11, .int (nI (A.length + B.length))), (10, .int (nI (gz (A ++ B) (A.length + 0)))), (9, .int (nI (gz (A ++ B) 0))), (8, .int (nI (tot pre + A.length + B.length))), (7, .int (nI (tot pre + A.length))), (6, .int (nI (tot pre + A.length))), (5, .int (nI (tot pre))), (0, .ref h), (1, .ref f0), (2, .int (nI (pre.length))), (3, .int (nI (pre.length + 1))), (4, .int (nI op))]) C d_S_addJoined_59 (by decide) rfl ?_
  refine x_iconst (v := (nI (0))) C d_S_addJoined_61 (by decide) ?_
  refine x_istore (lv' := [(12, .int (nI 0)), (11, .int (nI (A.length + B.length))), (10, .int (nI (gz (A ++ B) (A.length + 0)))), (9, .int (nI (gz (A ++ B) 0))), (8, .int (nI (tot pre + A.length + B.length))), (7, .int (nI (tot pre + A.length))), (6, .int (nI (tot pre + A.length))), (5, .int (nI (tot pre))), (0, .ref h), (1, .ref f0), (2, .int (nI (pre.length))), (3, .int (nI (pre.length + 1))), (4, .int (nI op))]) C d_S_addJoined_62 (by decide) rfl ?_
  exact LP (A.length + B.length) 0 0 _ _ 0 [] L Bd (by omega) (jInv.start hlen (fun h9 => gz_app_l h9) (fun _ => gz_app_r) hok hok2 (gz_lt hokA) (gz_lt hokA)) hH _ rfl rfl rfl rfl rfl rfl rfl rfl rfl rfl rfl
