/-! A shelf: lists one behind the other in one row of numbers; bounds tells where each begins -/
def off (ss : List (List Int32)) (i : Nat) : Nat := (ss.take i).flatten.length
def tot (ss : List (List Int32)) : Nat := ss.flatten.length
def Hs (cap mx : Nat) (L Bd : Nat → Int32) (ss : List (List Int32)) : Prop :=
  ss.length < mx ∧ tot ss ≤ cap ∧ cap < 2 ^ 20 ∧ mx < 2 ^ 20 ∧ (∀ i, i ≤ ss.length → Bd i = nI (off ss i)) ∧ (∀ j, j < tot ss → L j = ss.flatten.getD j 0)
theorem off_len (ss : List (List Int32)) : off ss ss.length = tot ss := by simp [off, tot]
theorem off_zero (ss : List (List Int32)) : off ss 0 = 0 := by simp [off]
theorem off_split (ss : List (List Int32)) (i : Nat) : ss.flatten = (ss.take i).flatten ++ (ss.drop i).flatten := by
  rw [← List.flatten_append, List.take_append_drop]
theorem off_le (ss : List (List Int32)) (i : Nat) : off ss i ≤ tot ss := by
  unfold off tot
  rw [off_split ss i, List.length_append]
  omega
theorem off_succ {ss : List (List Int32)} {i : Nat} (h : i < ss.length) : off ss (i + 1) = off ss i + (ss.getD i []).length := by
  unfold off
  rw [List.take_succ_eq_append_getElem h, List.flatten_append, List.length_append]
  simp [List.getD_eq_getElem?_getD, h]
theorem flat_at {ss : List (List Int32)} {i j : Nat} (h : i < ss.length) (hj : j < (ss.getD i []).length) : off ss i + j < tot ss ∧ ss.flatten.getD (off ss i + j) 0 = (ss.getD i []).getD j 0 := by
  have h1 := off_succ h
  have h2 := off_le ss (i + 1)
  refine ⟨by omega, ?_⟩
  have e : ss.flatten = (ss.take i).flatten ++ (ss.getD i [] ++ (ss.drop (i + 1)).flatten) := by
    rw [off_split ss i, List.drop_eq_getElem_cons h, List.flatten_cons]
    simp [List.getD_eq_getElem?_getD, h]
  rw [e, List.getD_eq_getElem?_getD, List.getElem?_append_right (by unfold off; omega)]
  rw [show off ss i + j - (ss.take i).flatten.length = j by unfold off; omega, List.getElem?_append_left hj, ← List.getD_eq_getElem?_getD]
theorem Hs.bd {cap mx : Nat} {L Bd : Nat → Int32} {ss : List (List Int32)} (h : Hs cap mx L Bd ss) {i : Nat} (hi : i ≤ ss.length) : Bd i = nI (off ss i) := h.2.2.2.2.1 i hi
theorem Hs.top {cap mx : Nat} {L Bd : Nat → Int32} {ss : List (List Int32)} (h : Hs cap mx L Bd ss) : Bd ss.length = nI (tot ss) := by rw [h.bd (Nat.le_refl _), off_len]
theorem Hs.ln {cap mx : Nat} {L Bd : Nat → Int32} {ss : List (List Int32)} (h : Hs cap mx L Bd ss) {i j : Nat} (hi : i < ss.length) (hj : j < (ss.getD i []).length) : L (off ss i + j) = (ss.getD i []).getD j 0 := by
  have := flat_at hi hj
  rw [h.2.2.2.2.2 _ this.1, this.2]
theorem Hs.nums {cap mx : Nat} {L Bd : Nat → Int32} {ss : List (List Int32)} (h : Hs cap mx L Bd ss) : ss.length < mx ∧ tot ss ≤ cap ∧ cap < 1048576 ∧ mx < 1048576 := ⟨h.1, h.2.1, h.2.2.1, h.2.2.2.1⟩
theorem tot_app (a b : List (List Int32)) : tot (a ++ b) = tot a + tot b := by simp [tot]
theorem tot_one (s : List Int32) : tot [s] = s.length := by simp [tot]
theorem off_app {a b : List (List Int32)} {i : Nat} (h : i ≤ a.length) : off (a ++ b) i = off a i := by
  unfold off
  rw [List.take_append_of_le_length h]
theorem off_snoc (a : List (List Int32)) (s : List Int32) : off (a ++ [s]) (a.length + 1) = tot a + s.length := by
  have := off_len (a ++ [s])
  rw [List.length_append] at this
  rw [show a.length + 1 = a.length + [s].length from rfl, this, tot_app, tot_one]
theorem Hs.clear {cap mx : Nat} {L Bd : Nat → Int32} {ss : List (List Int32)} (h : Hs cap mx L Bd ss) : Hs cap mx L Bd [] := by
  obtain ⟨h1, h2, h3, h4, h5, h6⟩ := h
  refine ⟨by simp; omega, by simp [tot], h3, h4, fun i hi => ?_, fun j hj => by simp [tot] at hj⟩
  have : i = 0 := by simpa using hi
  subst this
  rw [h5 0 (Nat.zero_le _), off_zero, off_zero]
theorem Hs.drop {cap mx : Nat} {L Bd : Nat → Int32} {ss : List (List Int32)} {s : List Int32} (h : Hs cap mx L Bd (ss ++ [s])) : Hs cap mx L Bd ss := by
  obtain ⟨h1, h2, h3, h4, h5, h6⟩ := h
  rw [List.length_append, List.length_singleton] at h1 h5
  rw [tot_app, tot_one] at h2 h6
  refine ⟨by omega, by omega, h3, h4, fun i hi => ?_, fun j hj => ?_⟩
  · rw [h5 i (by omega), off_app hi]
  · rw [h6 j (by omega), List.flatten_append, List.getD_eq_getElem?_getD, List.getElem?_append_left hj, ← List.getD_eq_getElem?_getD]
/-- the shelf's end anew: all that lies ahead of the last list is as it was -/
theorem Hs.last {cap mx : Nat} {L Bd L' Bd' : Nat → Int32} {ss : List (List Int32)} {s s' : List Int32} (h : Hs cap mx L Bd ss) (hm : ss.length + 1 < mx) (hc : tot ss + s'.length ≤ cap) (hB : ∀ i, i ≤ ss.length → Bd' i = Bd i) (hB' : Bd' (ss.length + 1) = nI (tot ss + s'.length)) (hL : ∀ j, j < tot ss → L' j = L j) (hL' : ∀ j, j < s'.length → L' (tot ss + j) = s'.getD j 0) : Hs cap mx L' Bd' (ss ++ [s']) := by
  obtain ⟨h1, h2, h3, h4, h5, h6⟩ := h
  refine ⟨by simpa using hm, by rw [tot_app, tot_one]; exact hc, h3, h4, fun i hi => ?_, fun j hj => ?_⟩
  · rw [List.length_append, List.length_singleton] at hi
    by_cases hi2 : i ≤ ss.length
    · rw [hB i hi2, h5 i hi2, off_app hi2]
    · have : i = ss.length + 1 := by omega
      subst this
      rw [hB', off_snoc]
  · rw [tot_app, tot_one] at hj
    rw [List.flatten_append, List.getD_eq_getElem?_getD]
    by_cases hj2 : j < tot ss
    · rw [List.getElem?_append_left hj2, hL j hj2, h6 j hj2, List.getD_eq_getElem?_getD]
    · obtain ⟨k, rfl⟩ : ∃ k, j = tot ss + k := ⟨j - tot ss, by omega⟩
      rw [List.getElem?_append_right (by unfold tot; omega), hL' k (by omega), show tot ss + k - ss.flatten.length = k by unfold tot; omega]
      simp [List.getD_eq_getElem?_getD]
theorem Hs.opened {cap mx : Nat} {L Bd : Nat → Int32} {ss : List (List Int32)} (h : Hs cap mx L Bd ss) (hm : ss.length + 1 < mx) : Hs cap mx L (upd Bd (ss.length + 1) (Bd ss.length)) (ss ++ [[]]) := by
  refine h.last (s := []) hm (by simpa using h.2.1) (fun i hi => pk_un (by omega)) ?_ (fun _ _ => rfl) (fun j hj => by simp at hj)
  rw [pk_us, h.top]
  simp
theorem Hs.in {cap mx : Nat} {L Bd : Nat → Int32} {ss : List (List Int32)} {s : List Int32} (h : Hs cap mx L Bd (ss ++ [s])) : ss.length + 1 < mx ∧ tot ss + s.length ≤ cap ∧ cap < 1048576 ∧ mx < 1048576 ∧ Bd (ss.length + 1) = nI (tot ss + s.length) ∧ (∀ j, j < s.length → L (tot ss + j) = s.getD j 0) := by
  obtain ⟨h1, h2, h3, h4, h5, h6⟩ := h
  rw [List.length_append, List.length_singleton] at h1 h5
  rw [tot_app, tot_one] at h2 h6
  refine ⟨h1, h2, h3, h4, ?_, fun j hj => ?_⟩
  · rw [h5 _ (Nat.le_refl _), off_snoc]
  · rw [h6 _ (by omega), List.flatten_append, List.getD_eq_getElem?_getD, List.getElem?_append_right (by unfold tot; omega), show tot ss + j - ss.flatten.length = j by unfold tot; omega]
    simp [List.getD_eq_getElem?_getD]
theorem Hs.word {cap mx : Nat} {L Bd : Nat → Int32} {ss : List (List Int32)} {s : List Int32} {w b : Int32} (h : Hs cap mx L Bd (ss ++ [s])) (hc : tot ss + s.length < cap) (hb : b = nI (tot ss + s.length + 1)) : Hs cap mx (upd L (tot ss + s.length) w) (upd Bd (ss.length + 1) b) (ss ++ [s ++ [w]]) := by
  have h1 := h.in
  refine h.drop.last (s := s) h1.1 (by simp; omega) (fun i hi => pk_un (by omega)) ?_ (fun j hj => pk_un (by omega)) (fun j hj => ?_)
  · rw [pk_us, hb]
    simp [Nat.add_assoc]
  · rw [List.length_append, List.length_singleton] at hj
    by_cases hj2 : j = s.length
    · subst hj2
      rw [pk_us]
      simp
    · rw [pk_un (by omega), h1.2.2.2.2.2 j (by omega)]
      rw [List.getD_eq_getElem?_getD, List.getD_eq_getElem?_getD, List.getElem?_append_left (by omega)]
theorem Hs.setw {cap mx : Nat} {L Bd : Nat → Int32} {ss : List (List Int32)} {s : List Int32} {v w : Int32} (h : Hs cap mx L Bd (ss ++ [s ++ [v]])) : Hs cap mx (upd L (tot ss + s.length) w) Bd (ss ++ [s ++ [w]]) := by
  have h1 := h.in
  rw [List.length_append, List.length_singleton] at h1
  refine h.drop.last (s := s) h1.1 (by simpa using h1.2.1) (fun i hi => rfl) (by rw [h1.2.2.2.2.1]; simp) (fun j hj => pk_un (by omega)) (fun j hj => ?_)
  rw [List.length_append, List.length_singleton] at hj
  by_cases hj2 : j = s.length
  · subst hj2
    rw [pk_us]
    simp
  · rw [pk_un (by omega), h1.2.2.2.2.2 j (by omega)]
    rw [List.getD_eq_getElem?_getD, List.getD_eq_getElem?_getD, List.getElem?_append_left (by omega), List.getElem?_append_left (by omega)]
theorem Hs.lessw {cap mx : Nat} {L Bd : Nat → Int32} {ss : List (List Int32)} {s : List Int32} {v b : Int32} (h : Hs cap mx L Bd (ss ++ [s ++ [v]])) (hb : b = nI (tot ss + s.length)) : Hs cap mx L (upd Bd (ss.length + 1) b) (ss ++ [s]) := by
  have h1 := h.in
  rw [List.length_append, List.length_singleton] at h1
  refine h.drop.last (s := s) h1.1 (by omega) (fun i hi => pk_un (by omega)) (by rw [pk_us, hb]) (fun j hj => rfl) (fun j hj => ?_)
  rw [h1.2.2.2.2.2 j (by omega), List.getD_eq_getElem?_getD, List.getD_eq_getElem?_getD, List.getElem?_append_left hj]
theorem Hs.addset {cap mx : Nat} {L Bd f : Nat → Int32} {ss : List (List Int32)} {s t : List Int32} {b : Int32} {sp : Nat} (h : Hs cap mx L Bd (ss ++ [s])) (hc : tot ss + s.length + t.length ≤ cap) (hf : ∀ j, j < t.length → f (sp + j) = t.getD j 0) (hb : b = nI (tot ss + s.length + t.length)) : Hs cap mx (va_cpy f L sp (tot ss + s.length) t.length) (upd Bd (ss.length + 1) b) (ss ++ [s ++ t]) := by
  have h1 := h.in
  refine h.drop.last (s := s) h1.1 (by simp; omega) (fun i hi => pk_un (by omega)) ?_ (fun j hj => pk_cpy_out (by omega)) (fun j hj => ?_)
  · rw [pk_us, hb]
    simp [Nat.add_assoc]
  · rw [List.length_append] at hj
    rw [List.getD_eq_getElem?_getD]
    by_cases hj2 : j < s.length
    · rw [pk_cpy_out (by omega), h1.2.2.2.2.2 j hj2, List.getElem?_append_left hj2, List.getD_eq_getElem?_getD]
    · rw [pk_cpy_in (by omega) (by omega), List.getElem?_append_right (by omega), show sp + (tot ss + j - (tot ss + s.length)) = sp + (j - s.length) by omega, hf _ (by omega), List.getD_eq_getElem?_getD]
