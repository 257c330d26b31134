/-! the words of a set, as a function of the set -/
def mkw (G : List Nat) : List (Nat × Nat) := G.foldl (fun ws b => push ws b 1) []
theorem mkw_snoc (G : List Nat) (b : Nat) : mkw (G ++ [b]) = push (mkw G) b 1 := by simp [mkw]
theorem mkw_ok : ∀ (k : Nat) (G : List Nat), G.length = k → (∀ b ∈ G, b ≤ AL) → canon (mkw G) ∧ ex (mkw G) = G
  | 0, G, h, _ => by
    rw [List.eq_nil_of_length_eq_zero h]
    exact ⟨trivial, rfl⟩
  | k + 1, G, h, hb => by
    rcases List.eq_nil_or_concat G with rfl | ⟨G0, b, rfl⟩
    · cases h
    · rw [List.concat_eq_append] at *
      rw [List.length_append, List.length_singleton] at h
      have h1 := mkw_ok k G0 (by omega) (fun x hx => hb x (List.mem_append_left _ hx))
      have h2 := push_ok (ws := mkw G0) (b := b) (k := 1) h1.1 (okw_one (hb b (by simp)))
      rw [mkw_snoc]
      exact ⟨h2.1, by rw [h2.2.1, h1.2]; rfl⟩
def Wd (n : Nat) (f : Nat → Bool) : List (Nat × Nat) := mkw (GL f n)
theorem Wd_rep (n : Nat) (f : Nat → Bool) : Rep n f (Wd n f) := mkw_ok _ (GL f n) rfl (fun b hb => by
  obtain ⟨g, -, rfl⟩ := List.mem_map.mp hb
  exact gb_le f g)
theorem Rep.eq {n : Nat} {f : Nat → Bool} {ws : List (Nat × Nat)} (h : Rep n f ws) : ws = Wd n f := h.inj (Wd_rep n f)
theorem Wd_ok {n : Nat} {f : Nat → Bool} (hn : n ≤ 1000000) : ∀ w ∈ Wd n f, okw w ∧ w.2 < 2 ^ 24 := fun w hw => ⟨canon_mem (Wd_rep n f).1 w hw, by
  have h1 := ex_mem_le hw
  have h2 := (Wd_rep n f).small hn
  omega⟩
/-- the words of a set as ints; the first k sets of values -/
def wI (n : Nat) (f : Nat → Bool) : List Int32 := (Wd n f).map enc
def cS (n : Nat) (F : Nat → Nat → Bool) (k : Nat) : List (List Int32) := (List.range k).map (fun v => wI n (F v))
theorem cS_succ (n : Nat) (F : Nat → Nat → Bool) (k : Nat) : cS n F (k + 1) = cS n F k ++ [wI n (F k)] := by simp [cS, List.range_succ]
theorem cS_len (n : Nat) (F : Nat → Nat → Bool) (k : Nat) : (cS n F k).length = k := by simp [cS]
theorem cS_get (n : Nat) (F : Nat → Nat → Bool) {k i : Nat} (h : i < k) : (cS n F k).getD i [] = wI n (F i) := by
  simp [cS, h]
theorem cS_tot_le (n : Nat) (F : Nat → Nat → Bool) {j : Nat} : ∀ {k : Nat}, j ≤ k → tot (cS n F j) ≤ tot (cS n F k)
  | 0, h => by rw [show j = 0 by omega]; exact Nat.le_refl _
  | k + 1, h => by
    by_cases hj : j = k + 1
    · rw [hj]; exact Nat.le_refl _
    · have := cS_tot_le n F (j := j) (k := k) (by omega)
      rw [cS_succ, tot_app, tot_one]
      omega
theorem wI_len (n : Nat) (f : Nat → Bool) : (wI n f).length = (Wd n f).length := by simp [wI]
/-- the stack's sets -/
def kS (n : Nat) (fs : List (Nat → Bool)) : List (List Int32) := fs.map (wI n)
theorem kS_snoc (n : Nat) (fs : List (Nat → Bool)) (f : Nat → Bool) : kS n (fs ++ [f]) = kS n fs ++ [wI n f] := by simp [kS]
theorem kS_len (n : Nat) (fs : List (Nat → Bool)) : (kS n fs).length = fs.length := by simp [kS]
