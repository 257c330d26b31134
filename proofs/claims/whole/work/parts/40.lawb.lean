/-! the law, the calls that change the stack or the rows -/
theorem LInv.push {n kd kr rn ks : Nat} {Lc Bc Ld Bd Ls Bs Lr Br E V L B : Nat → Int32} {dd rr : List (List Int32)} {en : Nat → Nat} {vl : Nat → Nat → Nat} {st : List ((Nat → Bool) × List (Nat × Nat))} {q : Nat} {Ls' Bs' L' B' : Nat → Int32} {f : Nat → Bool} {J : List (Nat × Nat)} (h : LInv n Lc Bc Ld Bd Ls Bs Lr Br kd kr dd rr E V L B rn en vl st ks q) (hq : q + 1 ≤ 512) (h11 : st.length + 1 ≤ 12) (hA : Hs 3000 13 Ls' Bs' (kT n st ++ [wI n f])) (hJ : Ik en rn f J) (hH : Hs 200000 15 L' B' (iS st ++ [fl J])) (hs : sup n f) : LInv n Lc Bc Ld Bd Ls' Bs' Lr Br kd kr dd rr E V L' B' rn en vl (st ++ [(f, J)]) (ks + 1) (q + 1) := by
  obtain ⟨hC, hD, hkd, hS, hR, hkr, hE, hn, hrq, hO, hL, h12, ht, hn9, hsF, hsS, hq5, hks⟩ := h
  refine ⟨hC, hD, hkd, by rw [kT_snoc]; exact hA, hR, hkr, hE, hn, by omega, fun y hy => ?_, by rw [iS_snoc]; exact hH, by rw [List.length_append, List.length_singleton]; exact h11, ht, hn9, hsF, fun y hy => ?_, hq, by rw [List.length_append, List.length_singleton, hks]⟩
  · rcases List.mem_append.mp hy with h9 | h9
    · exact hO y h9
    · rw [List.mem_singleton.mp h9]; exact hJ
  · rcases List.mem_append.mp hy with h9 | h9
    · exact hsS y h9
    · rw [List.mem_singleton.mp h9]; exact hs
theorem LInv.top {n kd kr rn ks : Nat} {Lc Bc Ld Bd Ls Bs Lr Br E V L B : Nat → Int32} {dd rr : List (List Int32)} {en : Nat → Nat} {vl : Nat → Nat → Nat} {st : List ((Nat → Bool) × List (Nat × Nat))} {q : Nat} {st0 : List ((Nat → Bool) × List (Nat × Nat))} {Ls' Bs' Lr' Br' L' B' : Nat → Int32} {f : Nat → Bool} {J : List (Nat × Nat)} {t1 : List Int32} (h : LInv n Lc Bc Ld Bd Ls Bs Lr Br kd kr dd rr E V L B rn en vl st ks q) (hq : q + 1 ≤ 512) (hO1 : Ok en rn st0) (h11 : st0.length + 1 ≤ 12) (hs1 : ∀ y ∈ st0, sup n y.1) (hA : Hs 3000 13 Ls' Bs' (kT n st0 ++ [wI n f])) (hR' : Hs 3001 2 Lr' Br' [t1]) (hJ : Ik en rn f J) (hH : Hs 200000 15 L' B' (iS st0 ++ [fl J])) (hs : sup n f) : LInv n Lc Bc Ld Bd Ls' Bs' Lr' Br' kd 1 dd [t1] E V L' B' rn en vl (st0 ++ [(f, J)]) (st0.length + 1) (q + 1) := by
  obtain ⟨hC, hD, hkd, hS, hR, hkr, hE, hn, hrq, hO, hL, h12, ht, hn9, hsF, hsS, hq5, hks⟩ := h
  refine ⟨hC, hD, hkd, by rw [kT_snoc]; exact hA, hR', rfl, hE, hn, by omega, fun y hy => ?_, by rw [iS_snoc]; exact hH, by rw [List.length_append, List.length_singleton]; exact h11, ht, hn9, hsF, fun y hy => ?_, hq, by rw [List.length_append, List.length_singleton]⟩
  · rcases List.mem_append.mp hy with h9 | h9
    · exact hO1 y h9
    · rw [List.mem_singleton.mp h9]; exact hJ
  · rcases List.mem_append.mp hy with h9 | h9
    · exact hs1 y h9
    · rw [List.mem_singleton.mp h9]; exact hs
set_option maxHeartbeats 8000000 in
theorem law_push {p : Program} {l : Launch} {e : Env} {s : State} {m : MethodId} {below : List Frame} {meth : Method} {c : Code} {D : va_G} {cA : ClassId} {b L0 : Nat} {xs : Nat → Int32} (hL0 : L0 ≤ 2048) (C : Cx p s m #[Value.ref b] meth c code 4 R_L D cA (fun q => s.heap.size ≤ q)) (hX : va_X b L0 xs s s.heap) (hbl : b < s.heap.size) {i q : Nat} (hi : i + 4 ≤ L0) (hq : q + 1 ≤ 512) (NEXT : Cont p l e s m below meth c D cA b i q) {hB hM c0 c01 c02 d0 d01 d02 s0 s01 s02 r0 r01 r02 n kd kr e0 v0 l0 b0 rn ks : Nat} {Lc Bc Ld Bd Ls Bs Lr Br E V L B : Nat → Int32} {pl sn wa wf : Int32} {dd rr : List (List Int32)} {en : Nat → Nat} {vl : Nat → Nat → Nat} {st : List ((Nat → Bool) × List (Nat × Nat))} (hI : LInv n Lc Bc Ld Bd Ls Bs Lr Br kd kr dd rr E V L B rn en vl st ks q) : XL p l e s m below meth c D b [(hB, .inr (1, [.ref c0, .ref d0, .ref s0, .ref r0, .int (nI n)])), (c0, .inr (0, [.ref c01, .ref c02, .int (nI 32)])), (c01, .inl (cA, 2096, .inl (Lc))), (c02, .inl (cA, 33, .inl (Bc))), (d0, .inr (0, [.ref d01, .ref d02, .int (nI kd)])), (d01, .inl (cA, 2096, .inl (Ld))), (d02, .inl (cA, 33, .inl (Bd))), (s0, .inr (0, [.ref s01, .ref s02, .int (nI ks)])), (s01, .inl (cA, 3000, .inl (Ls))), (s02, .inl (cA, 13, .inl (Bs))), (r0, .inr (0, [.ref r01, .ref r02, .int (nI kr)])), (r01, .inl (cA, 3001, .inl (Lr))), (r02, .inl (cA, 2, .inl (Br))), (hM, .inr (2, [.ref e0, .ref v0, .int (nI rn), .ref l0, .ref b0, .int (nI ks), .int pl, .int sn, .int wa, .int wf])), (e0, .inl (cA, 33000, .inl (E))), (v0, .inl (cA, 66000, .inl (V))), (l0, .inl (cA, 200000, .inl (L))), (b0, .inl (cA, 15, .inl (B)))] 143 [(3, .int (nI i)), (2, .ref hM), (1, .ref hB), (0, .ref b)] [] := by
  have hbA : ¬ (fun q => s.heap.size ≤ q) b := Nat.not_le.mpr hbl
  have hI0 := hI
  obtain ⟨hC, hD, hkd, hS, hR, hkr, hE, hn, hrq, hO, hL, h12, ht, hn9, hsF, hsS, hq5, hks⟩ := hI
  by_cases hb : xs (i + 1) < 0 ∨ nI 2 ≤ xs (i + 1) ∨ xs (i + 2) < 0 ∨ nI 16 ≤ xs (i + 2)
  · have hb2 : xs (i + 1) < 0 ∨ nI 1 < xs (i + 1) ∨ xs (i + 2) < 0 ∨ nI 15 < xs (i + 2) := by rw [← in_2, ← in_16]; exact hb
    refine x_aload_n C d_L_law_143 rfl rfl ?_
    refine x_aload_n C d_L_law_144 rfl rfl ?_
    refine x_iload_n C d_L_law_145 rfl rfl ?_
    refine x_iconst (v := (nI (1))) C d_L_law_146 (by decide) ?_
    refine x_iaddN C d_L_law_147  ?_
    refine x_sld C hX hbl hbA (by omega) (by omega) d_L_law_148 ?_
    refine x_aload_n C d_L_law_149 rfl rfl ?_
    refine x_iload_n C d_L_law_150 rfl rfl ?_
    refine x_iconst (v := (nI (2))) C d_L_law_151 (by decide) ?_
    refine x_iaddN C d_L_law_152  ?_
    refine x_sld C hX hbl hbA (by omega) (by omega) d_L_law_153 ?_
    refine x_callVI (wr := [(c0, .inr (0, [.ref c01, .ref c02, .int (nI 32)])), (c01, .inl (cA, 2096, .inl (Lc))), (c02, .inl (cA, 33, .inl (Bc))), (d0, .inr (0, [.ref d01, .ref d02, .int (nI kd)])), (d01, .inl (cA, 2096, .inl (Ld))), (d02, .inl (cA, 33, .inl (Bd))), (s0, .inr (0, [.ref s01, .ref s02, .int (nI ks)])), (s01, .inl (cA, 3000, .inl (Ls))), (s02, .inl (cA, 13, .inl (Bs))), (r0, .inr (0, [.ref r01, .ref r02, .int (nI kr)])), (r01, .inl (cA, 3001, .inl (Lr))), (r02, .inl (cA, 2, .inl (Br))), (hM, .inr (2, [.ref e0, .ref v0, .int (nI rn), .ref l0, .ref b0, .int (nI ks), .int pl, .int sn, .int wa, .int wf])), (e0, .inl (cA, 33000, .inl (E))), (v0, .inl (cA, 66000, .inl (V))), (l0, .inl (cA, 200000, .inl (L))), (b0, .inl (cA, 15, .inl (B)))]) (rest := []) C (c_B_push_bad hb) d_L_law_154 cd_B_push lk_L_18 dd_B_push rfl ⟨Nat.le_of_ble_eq_true rfl, Nat.le_of_ble_eq_true rfl⟩ ⟨Nat.le_of_ble_eq_true rfl, Nat.le_of_ble_eq_true rfl⟩ 1 0 rfl rfl [0] [1, 2, 3, 4, 5, 6, 7, 8, 9, 10, 11, 12, 13, 14, 15, 16, 17] rfl rfl (by decide) (by decide) (by decide) rfl (Nat.le_of_ble_eq_true rfl) ?_
    intro r_ u_ hp_
    obtain rfl := hp_
    refine x_aload_n C d_L_law_157 rfl rfl ?_
    refine x_aload_n C d_L_law_158 rfl rfl ?_
    refine x_iload_n C d_L_law_159 rfl rfl ?_
    refine x_iconst (v := (nI (1))) C d_L_law_160 (by decide) ?_
    refine x_iaddN C d_L_law_161  ?_
    refine x_sld C hX hbl hbA (by omega) (by omega) d_L_law_162 ?_
    refine x_aload_n C d_L_law_163 rfl rfl ?_
    refine x_iload_n C d_L_law_164 rfl rfl ?_
    refine x_iconst (v := (nI (2))) C d_L_law_165 (by decide) ?_
    refine x_iaddN C d_L_law_166  ?_
    refine x_sld C hX hbl hbA (by omega) (by omega) d_L_law_167 ?_
    refine x_callVI (wr := [(c0, .inr (0, [.ref c01, .ref c02, .int (nI 32)])), (c01, .inl (cA, 2096, .inl (Lc))), (c02, .inl (cA, 33, .inl (Bc))), (d0, .inr (0, [.ref d01, .ref d02, .int (nI kd)])), (d01, .inl (cA, 2096, .inl (Ld))), (d02, .inl (cA, 33, .inl (Bd))), (s0, .inr (0, [.ref s01, .ref s02, .int (nI ks)])), (s01, .inl (cA, 3000, .inl (Ls))), (s02, .inl (cA, 13, .inl (Bs))), (r0, .inr (0, [.ref r01, .ref r02, .int (nI kr)])), (r01, .inl (cA, 3001, .inl (Lr))), (r02, .inl (cA, 2, .inl (Br))), (hB, .inr (1, [.ref c0, .ref d0, .ref s0, .ref r0, .int (nI n)]))]) (rest := [.int ((-1))]) C (c_M_push_bad hb2) d_L_law_168 cd_M_push lk_L_22 dd_M_push rfl ⟨Nat.le_of_ble_eq_true rfl, Nat.le_of_ble_eq_true rfl⟩ ⟨Nat.le_of_ble_eq_true rfl, Nat.le_of_ble_eq_true rfl⟩ 2 0 rfl rfl [12, 13, 14, 15, 16] [0, 1, 2, 3, 4, 5, 6, 7, 8, 9, 10, 11, 17] rfl rfl (by decide) (by decide) (by decide) rfl (Nat.le_of_ble_eq_true rfl) ?_
    intro r_ u_ hp_
    obtain rfl := hp_
    refine x_icmp_eq (tgt := 349) C d_L_law_171 (by decide)  (fun c171 => ?_) (fun c171 => ?_)
    · refine x_perm (ws' := [(hB, .inr (1, [.ref c0, .ref d0, .ref s0, .ref r0, .int (nI n)])), (c0, .inr (0, [.ref c01, .ref c02, .int (nI 32)])), (c01, .inl (cA, 2096, .inl (Lc))), (c02, .inl (cA, 33, .inl (Bc))), (d0, .inr (0, [.ref d01, .ref d02, .int (nI kd)])), (d01, .inl (cA, 2096, .inl (Ld))), (d02, .inl (cA, 33, .inl (Bd))), (s0, .inr (0, [.ref s01, .ref s02, .int (nI ks)])), (s01, .inl (cA, 3000, .inl (Ls))), (s02, .inl (cA, 13, .inl (Bs))), (r0, .inr (0, [.ref r01, .ref r02, .int (nI kr)])), (r01, .inl (cA, 3001, .inl (Lr))), (r02, .inl (cA, 2, .inl (Br))), (hM, .inr (2, [.ref e0, .ref v0, .int (nI rn), .ref l0, .ref b0, .int (nI ks), .int pl, .int sn, .int wa, .int wf])), (e0, .inl (cA, 33000, .inl (E))), (v0, .inl (cA, 66000, .inl (V))), (l0, .inl (cA, 200000, .inl (L))), (b0, .inl (cA, 15, .inl (B)))]) [12, 0, 1, 2, 3, 4, 5, 6, 7, 8, 9, 10, 11, 13, 14, 15, 16, 17] (by decide) rfl ?_
      refine x_lv (lv' := [(3, .int (nI i)), (2, .ref hM), (1, .ref hB), (0, .ref b)]) (Or.inr (List.forall_mem_cons.mpr ⟨rfl, List.forall_mem_cons.mpr ⟨rfl, List.forall_mem_cons.mpr ⟨rfl, List.forall_mem_cons.mpr ⟨rfl, fun _ h9 => absurd h9 List.not_mem_nil⟩⟩⟩⟩)) ?_
      exact NEXT (hI0.next hq)
    · exact absurd rfl c171
  · have hx1 : ¬ xs (i + 1) < 0 := fun w => hb (Or.inl w)
    have hx2 : ¬ nI 2 ≤ xs (i + 1) := fun w => hb (Or.inr (Or.inl w))
    have hy1 : ¬ xs (i + 2) < 0 := fun w => hb (Or.inr (Or.inr (Or.inl w)))
    have hy2 : ¬ nI 16 ≤ xs (i + 2) := fun w => hb (Or.inr (Or.inr (Or.inr w)))
    obtain ⟨ci, hci, hxe⟩ := nat_of (by omega) hx1 hx2
    obtain ⟨v, hv, hye⟩ := nat_of (by omega) hy1 hy2
    have hF9 : FM en vl rn (ci * 16 + v) = (fvk en vl ci v rn) := by
      unfold FM
      rw [show (ci * 16 + v) / 16 = ci by omega, show (ci * 16 + v) % 16 = v by omega]
    have hget : (cS n (FM en vl rn) 32).getD (ci * 16 + v) [] = wI n (fvk en vl ci v rn) := by rw [cS_get n _ (by omega), hF9]
    have hij : ci * 16 + v < (cS n (FM en vl rn) 32).length := by rw [cS_len]; omega
    have hkk : (kT n st).length = ks := by rw [kT_len]; exact hks
    by_cases hfull : st.length = 12 ∨ 3000 < tot (kT n st) + (wI n (fvk en vl ci v rn)).length
    · refine x_aload_n C d_L_law_143 rfl rfl ?_
      refine x_aload_n C d_L_law_144 rfl rfl ?_
      refine x_iload_n C d_L_law_145 rfl rfl ?_
      refine x_iconst (v := (nI (1))) C d_L_law_146 (by decide) ?_
      refine x_iaddN C d_L_law_147  ?_
      refine x_sld C hX hbl hbA (by omega) (by omega) d_L_law_148 ?_
      refine x_top (y := (nI (ci))) hxe ?_
      refine x_aload_n C d_L_law_149 rfl rfl ?_
      refine x_iload_n C d_L_law_150 rfl rfl ?_
      refine x_iconst (v := (nI (2))) C d_L_law_151 (by decide) ?_
      refine x_iaddN C d_L_law_152  ?_
      refine x_sld C hX hbl hbA (by omega) (by omega) d_L_law_153 ?_
      refine x_top (y := (nI (v))) hye ?_
      refine x_callVI (wr := [(d0, .inr (0, [.ref d01, .ref d02, .int (nI kd)])), (d01, .inl (cA, 2096, .inl (Ld))), (d02, .inl (cA, 33, .inl (Bd))), (r0, .inr (0, [.ref r01, .ref r02, .int (nI kr)])), (r01, .inl (cA, 3001, .inl (Lr))), (r02, .inl (cA, 2, .inl (Br))), (hM, .inr (2, [.ref e0, .ref v0, .int (nI rn), .ref l0, .ref b0, .int (nI ks), .int pl, .int sn, .int wa, .int wf])), (e0, .inl (cA, 33000, .inl (E))), (v0, .inl (cA, 66000, .inl (V))), (l0, .inl (cA, 200000, .inl (L))), (b0, .inl (cA, 15, .inl (B)))]) (rest := []) C (c_B_push_full hC (cS_len _ _ _) hS hkk hci hv hij (by rw [hget]; omega)) d_L_law_154 cd_B_push lk_L_18 dd_B_push rfl ⟨Nat.le_of_ble_eq_true rfl, Nat.le_of_ble_eq_true rfl⟩ ⟨Nat.le_of_ble_eq_true rfl, Nat.le_of_ble_eq_true rfl⟩ 1 0 rfl rfl [0, 7, 8, 9, 1, 2, 3] [4, 5, 6, 10, 11, 12, 13, 14, 15, 16, 17] rfl rfl (by decide) (by decide) (by decide) rfl (Nat.le_of_ble_eq_true rfl) ?_
      intro r_ u_ hp_
      obtain rfl := hp_
      refine x_aload_n C d_L_law_157 rfl rfl ?_
      refine x_aload_n C d_L_law_158 rfl rfl ?_
      refine x_iload_n C d_L_law_159 rfl rfl ?_
      refine x_iconst (v := (nI (1))) C d_L_law_160 (by decide) ?_
      refine x_iaddN C d_L_law_161  ?_
      refine x_sld C hX hbl hbA (by omega) (by omega) d_L_law_162 ?_
      refine x_top (y := (nI (ci))) hxe ?_
      refine x_aload_n C d_L_law_163 rfl rfl ?_
      refine x_iload_n C d_L_law_164 rfl rfl ?_
      refine x_iconst (v := (nI (2))) C d_L_law_165 (by decide) ?_
      refine x_iaddN C d_L_law_166  ?_
      refine x_sld C hX hbl hbA (by omega) (by omega) d_L_law_167 ?_
      refine x_top (y := (nI (v))) hye ?_
      refine x_callVI (wr := [(d0, .inr (0, [.ref d01, .ref d02, .int (nI kd)])), (d01, .inl (cA, 2096, .inl (Ld))), (d02, .inl (cA, 33, .inl (Bd))), (r0, .inr (0, [.ref r01, .ref r02, .int (nI kr)])), (r01, .inl (cA, 3001, .inl (Lr))), (r02, .inl (cA, 2, .inl (Br))), (hB, .inr (1, [.ref c0, .ref d0, .ref s0, .ref r0, .int (nI n)])), (s0, .inr (0, [.ref s01, .ref s02, .int (nI ks)])), (s01, .inl (cA, 3000, .inl (Ls))), (s02, .inl (cA, 13, .inl (Bs))), (c0, .inr (0, [.ref c01, .ref c02, .int (nI 32)])), (c01, .inl (cA, 2096, .inl (Lc))), (c02, .inl (cA, 33, .inl (Bc)))]) (rest := [.int ((-3))]) C (c_M_push_full hE hn hO hL hks hci hv h12 hfull) d_L_law_168 cd_M_push lk_L_22 dd_M_push rfl ⟨Nat.le_of_ble_eq_true rfl, Nat.le_of_ble_eq_true rfl⟩ ⟨Nat.le_of_ble_eq_true rfl, Nat.le_of_ble_eq_true rfl⟩ 2 0 rfl rfl [6, 7, 8, 9, 10] [0, 1, 2, 3, 4, 5, 11, 12, 13, 14, 15, 16, 17] rfl rfl (by decide) (by decide) (by decide) rfl (Nat.le_of_ble_eq_true rfl) ?_
      intro r_ u9 hp_
      obtain ⟨rfl, hL9⟩ := hp_
      refine x_icmp_eq (tgt := 349) C d_L_law_171 (by decide)  (fun c171 => ?_) (fun c171 => ?_)
      · refine x_perm (ws' := [(hB, .inr (1, [.ref c0, .ref d0, .ref s0, .ref r0, .int (nI n)])), (c0, .inr (0, [.ref c01, .ref c02, .int (nI 32)])), (c01, .inl (cA, 2096, .inl (Lc))), (c02, .inl (cA, 33, .inl (Bc))), (d0, .inr (0, [.ref d01, .ref d02, .int (nI kd)])), (d01, .inl (cA, 2096, .inl (Ld))), (d02, .inl (cA, 33, .inl (Bd))), (s0, .inr (0, [.ref s01, .ref s02, .int (nI ks)])), (s01, .inl (cA, 3000, .inl (Ls))), (s02, .inl (cA, 13, .inl (Bs))), (r0, .inr (0, [.ref r01, .ref r02, .int (nI kr)])), (r01, .inl (cA, 3001, .inl (Lr))), (r02, .inl (cA, 2, .inl (Br))), (hM, .inr (2, [.ref e0, .ref v0, .int (nI rn), .ref l0, .ref b0, .int (nI ks), .int (u9.2.1), .int (u9.2.2.1), .int (u9.2.2.2.1), .int (u9.2.2.2.2)])), (e0, .inl (cA, 33000, .inl (E))), (v0, .inl (cA, 66000, .inl (V))), (l0, .inl (cA, 200000, .inl (u9.1))), (b0, .inl (cA, 15, .inl (B)))]) [6, 10, 11, 12, 0, 1, 2, 7, 8, 9, 3, 4, 5, 13, 14, 15, 16, 17] (by decide) rfl ?_
        refine x_lv (lv' := [(3, .int (nI i)), (2, .ref hM), (1, .ref hB), (0, .ref b)]) (Or.inr (List.forall_mem_cons.mpr ⟨rfl, List.forall_mem_cons.mpr ⟨rfl, List.forall_mem_cons.mpr ⟨rfl, List.forall_mem_cons.mpr ⟨rfl, fun _ h9 => absurd h9 List.not_mem_nil⟩⟩⟩⟩)) ?_
        exact NEXT (⟨hC, hD, hkd, hS, hR, hkr, hE, hn, by omega, hO, hL9, h12, ht, hn9, hsF, hsS, hq, hks⟩)
      · exact absurd rfl c171
    · refine x_aload_n C d_L_law_143 rfl rfl ?_
      refine x_aload_n C d_L_law_144 rfl rfl ?_
      refine x_iload_n C d_L_law_145 rfl rfl ?_
      refine x_iconst (v := (nI (1))) C d_L_law_146 (by decide) ?_
      refine x_iaddN C d_L_law_147  ?_
      refine x_sld C hX hbl hbA (by omega) (by omega) d_L_law_148 ?_
      refine x_top (y := (nI (ci))) hxe ?_
      refine x_aload_n C d_L_law_149 rfl rfl ?_
      refine x_iload_n C d_L_law_150 rfl rfl ?_
      refine x_iconst (v := (nI (2))) C d_L_law_151 (by decide) ?_
      refine x_iaddN C d_L_law_152  ?_
      refine x_sld C hX hbl hbA (by omega) (by omega) d_L_law_153 ?_
      refine x_top (y := (nI (v))) hye ?_
      refine x_callVI (wr := [(d0, .inr (0, [.ref d01, .ref d02, .int (nI kd)])), (d01, .inl (cA, 2096, .inl (Ld))), (d02, .inl (cA, 33, .inl (Bd))), (r0, .inr (0, [.ref r01, .ref r02, .int (nI kr)])), (r01, .inl (cA, 3001, .inl (Lr))), (r02, .inl (cA, 2, .inl (Br))), (hM, .inr (2, [.ref e0, .ref v0, .int (nI rn), .ref l0, .ref b0, .int (nI ks), .int pl, .int sn, .int wa, .int wf])), (e0, .inl (cA, 33000, .inl (E))), (v0, .inl (cA, 66000, .inl (V))), (l0, .inl (cA, 200000, .inl (L))), (b0, .inl (cA, 15, .inl (B)))]) (rest := []) C (c_B_push hC (cS_len _ _ _) hS hkk hci hv hij (by omega) (by rw [hget]; omega)) d_L_law_154 cd_B_push lk_L_18 dd_B_push rfl ⟨Nat.le_of_ble_eq_true rfl, Nat.le_of_ble_eq_true rfl⟩ ⟨Nat.le_of_ble_eq_true rfl, Nat.le_of_ble_eq_true rfl⟩ 1 0 rfl rfl [0, 7, 8, 9, 1, 2, 3] [4, 5, 6, 10, 11, 12, 13, 14, 15, 16, 17] rfl rfl (by decide) (by decide) (by decide) rfl (Nat.le_of_ble_eq_true rfl) ?_
      intro r_ u8 hp_
      obtain ⟨rfl, hA8⟩ := hp_
      rw [hget] at hA8
      refine x_aload_n C d_L_law_157 rfl rfl ?_
      refine x_aload_n C d_L_law_158 rfl rfl ?_
      refine x_iload_n C d_L_law_159 rfl rfl ?_
      refine x_iconst (v := (nI (1))) C d_L_law_160 (by decide) ?_
      refine x_iaddN C d_L_law_161  ?_
      refine x_sld C hX hbl hbA (by omega) (by omega) d_L_law_162 ?_
      refine x_top (y := (nI (ci))) hxe ?_
      refine x_aload_n C d_L_law_163 rfl rfl ?_
      refine x_iload_n C d_L_law_164 rfl rfl ?_
      refine x_iconst (v := (nI (2))) C d_L_law_165 (by decide) ?_
      refine x_iaddN C d_L_law_166  ?_
      refine x_sld C hX hbl hbA (by omega) (by omega) d_L_law_167 ?_
      refine x_top (y := (nI (v))) hye ?_
      refine x_callVI (wr := [(d0, .inr (0, [.ref d01, .ref d02, .int (nI kd)])), (d01, .inl (cA, 2096, .inl (Ld))), (d02, .inl (cA, 33, .inl (Bd))), (r0, .inr (0, [.ref r01, .ref r02, .int (nI kr)])), (r01, .inl (cA, 3001, .inl (Lr))), (r02, .inl (cA, 2, .inl (Br))), (hB, .inr (1, [.ref c0, .ref d0, .ref s0, .ref r0, .int (nI n)])), (s0, .inr (0, [.ref s01, .ref s02, .int (nI (ks + 1))])), (s01, .inl (cA, 3000, .inl (u8.1))), (s02, .inl (cA, 13, .inl (u8.2))), (c0, .inr (0, [.ref c01, .ref c02, .int (nI 32)])), (c01, .inl (cA, 2096, .inl (Lc))), (c02, .inl (cA, 33, .inl (Bc)))]) (rest := [.int (nI (ks + 1))]) C (c_M_push hE hn hO hL hks hci hv h12 (by omega) (by omega)) d_L_law_168 cd_M_push lk_L_22 dd_M_push rfl ⟨Nat.le_of_ble_eq_true rfl, Nat.le_of_ble_eq_true rfl⟩ ⟨Nat.le_of_ble_eq_true rfl, Nat.le_of_ble_eq_true rfl⟩ 2 0 rfl rfl [6, 7, 8, 9, 10] [0, 1, 2, 3, 4, 5, 11, 12, 13, 14, 15, 16, 17] rfl rfl (by decide) (by decide) (by decide) rfl (Nat.le_of_ble_eq_true rfl) ?_
      intro r_ u9 hp_
      obtain ⟨rfl, J9, hJ9, hH9⟩ := hp_
      refine x_icmp_eq (tgt := 349) C d_L_law_171 (by decide)  (fun c171 => ?_) (fun c171 => ?_)
      · refine x_perm (ws' := [(hB, .inr (1, [.ref c0, .ref d0, .ref s0, .ref r0, .int (nI n)])), (c0, .inr (0, [.ref c01, .ref c02, .int (nI 32)])), (c01, .inl (cA, 2096, .inl (Lc))), (c02, .inl (cA, 33, .inl (Bc))), (d0, .inr (0, [.ref d01, .ref d02, .int (nI kd)])), (d01, .inl (cA, 2096, .inl (Ld))), (d02, .inl (cA, 33, .inl (Bd))), (s0, .inr (0, [.ref s01, .ref s02, .int (nI (ks + 1))])), (s01, .inl (cA, 3000, .inl (u8.1))), (s02, .inl (cA, 13, .inl (u8.2))), (r0, .inr (0, [.ref r01, .ref r02, .int (nI kr)])), (r01, .inl (cA, 3001, .inl (Lr))), (r02, .inl (cA, 2, .inl (Br))), (hM, .inr (2, [.ref e0, .ref v0, .int (nI rn), .ref l0, .ref b0, .int (nI (ks + 1)), .int (u9.2.2.1), .int (u9.2.2.2.1), .int (u9.2.2.2.2.1), .int (u9.2.2.2.2.2)])), (e0, .inl (cA, 33000, .inl (E))), (v0, .inl (cA, 66000, .inl (V))), (l0, .inl (cA, 200000, .inl (u9.1))), (b0, .inl (cA, 15, .inl (u9.2.1)))]) [6, 10, 11, 12, 0, 1, 2, 7, 8, 9, 3, 4, 5, 13, 14, 15, 16, 17] (by decide) rfl ?_
        refine x_lv (lv' := [(3, .int (nI i)), (2, .ref hM), (1, .ref hB), (0, .ref b)]) (Or.inr (List.forall_mem_cons.mpr ⟨rfl, List.forall_mem_cons.mpr ⟨rfl, List.forall_mem_cons.mpr ⟨rfl, List.forall_mem_cons.mpr ⟨rfl, fun _ h9 => absurd h9 List.not_mem_nil⟩⟩⟩⟩)) ?_
        exact NEXT (LInv.push (f := (fvk en vl ci v rn)) (J := J9) hI0 hq (by omega) hA8 hJ9 hH9 (by rw [← hF9]; exact hsF _))
      · exact absurd rfl c171
set_option maxHeartbeats 8000000 in
theorem law_copy {p : Program} {l : Launch} {e : Env} {s : State} {m : MethodId} {below : List Frame} {meth : Method} {c : Code} {D : va_G} {cA : ClassId} {b L0 : Nat} {xs : Nat → Int32} (hL0 : L0 ≤ 2048) (C : Cx p s m #[Value.ref b] meth c code 4 R_L D cA (fun q => s.heap.size ≤ q)) (hX : va_X b L0 xs s s.heap) (hbl : b < s.heap.size) {i q : Nat} (hi : i + 4 ≤ L0) (hq : q + 1 ≤ 512) (NEXT : Cont p l e s m below meth c D cA b i q) {hB hM c0 c01 c02 d0 d01 d02 s0 s01 s02 r0 r01 r02 n kd kr e0 v0 l0 b0 rn ks : Nat} {Lc Bc Ld Bd Ls Bs Lr Br E V L B : Nat → Int32} {pl sn wa wf : Int32} {dd rr : List (List Int32)} {en : Nat → Nat} {vl : Nat → Nat → Nat} {st : List ((Nat → Bool) × List (Nat × Nat))} (hI : LInv n Lc Bc Ld Bd Ls Bs Lr Br kd kr dd rr E V L B rn en vl st ks q) : XL p l e s m below meth c D b [(hB, .inr (1, [.ref c0, .ref d0, .ref s0, .ref r0, .int (nI n)])), (c0, .inr (0, [.ref c01, .ref c02, .int (nI 32)])), (c01, .inl (cA, 2096, .inl (Lc))), (c02, .inl (cA, 33, .inl (Bc))), (d0, .inr (0, [.ref d01, .ref d02, .int (nI kd)])), (d01, .inl (cA, 2096, .inl (Ld))), (d02, .inl (cA, 33, .inl (Bd))), (s0, .inr (0, [.ref s01, .ref s02, .int (nI ks)])), (s01, .inl (cA, 3000, .inl (Ls))), (s02, .inl (cA, 13, .inl (Bs))), (r0, .inr (0, [.ref r01, .ref r02, .int (nI kr)])), (r01, .inl (cA, 3001, .inl (Lr))), (r02, .inl (cA, 2, .inl (Br))), (hM, .inr (2, [.ref e0, .ref v0, .int (nI rn), .ref l0, .ref b0, .int (nI ks), .int pl, .int sn, .int wa, .int wf])), (e0, .inl (cA, 33000, .inl (E))), (v0, .inl (cA, 66000, .inl (V))), (l0, .inl (cA, 200000, .inl (L))), (b0, .inl (cA, 15, .inl (B)))] 176 [(3, .int (nI i)), (2, .ref hM), (1, .ref hB), (0, .ref b)] [] := by
  have hbA : ¬ (fun q => s.heap.size ≤ q) b := Nat.not_le.mpr hbl
  have hI0 := hI
  obtain ⟨hC, hD, hkd, hS, hR, hkr, hE, hn, hrq, hO, hL, h12, ht, hn9, hsF, hsS, hq5, hks⟩ := hI
  rcases List.eq_nil_or_concat st with rfl | ⟨st0, z, rfl⟩
  · have hks0 : ks = 0 := by simpa using hks.symm
    subst hks0
    refine x_aload_n C d_L_law_176 rfl rfl ?_
    refine x_callVI (wr := [(c0, .inr (0, [.ref c01, .ref c02, .int (nI 32)])), (c01, .inl (cA, 2096, .inl (Lc))), (c02, .inl (cA, 33, .inl (Bc))), (d0, .inr (0, [.ref d01, .ref d02, .int (nI kd)])), (d01, .inl (cA, 2096, .inl (Ld))), (d02, .inl (cA, 33, .inl (Bd))), (r0, .inr (0, [.ref r01, .ref r02, .int (nI kr)])), (r01, .inl (cA, 3001, .inl (Lr))), (r02, .inl (cA, 2, .inl (Br))), (hM, .inr (2, [.ref e0, .ref v0, .int (nI rn), .ref l0, .ref b0, .int (nI 0), .int pl, .int sn, .int wa, .int wf])), (e0, .inl (cA, 33000, .inl (E))), (v0, .inl (cA, 66000, .inl (V))), (l0, .inl (cA, 200000, .inl (L))), (b0, .inl (cA, 15, .inl (B)))]) (rest := []) C (c_B_copy_none) d_L_law_177 cd_B_copy lk_L_23 dd_B_copy rfl ⟨Nat.le_of_ble_eq_true rfl, Nat.le_of_ble_eq_true rfl⟩ ⟨Nat.le_of_ble_eq_true rfl, Nat.le_of_ble_eq_true rfl⟩ 1 0 rfl rfl [0, 7, 8, 9] [1, 2, 3, 4, 5, 6, 10, 11, 12, 13, 14, 15, 16, 17] rfl rfl (by decide) (by decide) (by decide) rfl (Nat.le_of_ble_eq_true rfl) ?_
    intro r_ u_ hp_
    obtain rfl := hp_
    refine x_aload_n C d_L_law_180 rfl rfl ?_
    refine x_callVI (wr := [(c0, .inr (0, [.ref c01, .ref c02, .int (nI 32)])), (c01, .inl (cA, 2096, .inl (Lc))), (c02, .inl (cA, 33, .inl (Bc))), (d0, .inr (0, [.ref d01, .ref d02, .int (nI kd)])), (d01, .inl (cA, 2096, .inl (Ld))), (d02, .inl (cA, 33, .inl (Bd))), (r0, .inr (0, [.ref r01, .ref r02, .int (nI kr)])), (r01, .inl (cA, 3001, .inl (Lr))), (r02, .inl (cA, 2, .inl (Br))), (hB, .inr (1, [.ref c0, .ref d0, .ref s0, .ref r0, .int (nI n)])), (s0, .inr (0, [.ref s01, .ref s02, .int (nI 0)])), (s01, .inl (cA, 3000, .inl (Ls))), (s02, .inl (cA, 13, .inl (Bs)))]) (rest := [.int ((-4))]) C (c_M_copy_none) d_L_law_181 cd_M_copy lk_L_27 dd_M_copy rfl ⟨Nat.le_of_ble_eq_true rfl, Nat.le_of_ble_eq_true rfl⟩ ⟨Nat.le_of_ble_eq_true rfl, Nat.le_of_ble_eq_true rfl⟩ 2 0 rfl rfl [9, 10, 11, 12, 13] [0, 1, 2, 3, 4, 5, 6, 7, 8, 14, 15, 16, 17] rfl rfl (by decide) (by decide) (by decide) rfl (Nat.le_of_ble_eq_true rfl) ?_
    intro r_ u_ hp_
    obtain rfl := hp_
    refine x_icmp_eq (tgt := 349) C d_L_law_184 (by decide)  (fun c184 => ?_) (fun c184 => ?_)
    · refine x_perm (ws' := [(hB, .inr (1, [.ref c0, .ref d0, .ref s0, .ref r0, .int (nI n)])), (c0, .inr (0, [.ref c01, .ref c02, .int (nI 32)])), (c01, .inl (cA, 2096, .inl (Lc))), (c02, .inl (cA, 33, .inl (Bc))), (d0, .inr (0, [.ref d01, .ref d02, .int (nI kd)])), (d01, .inl (cA, 2096, .inl (Ld))), (d02, .inl (cA, 33, .inl (Bd))), (s0, .inr (0, [.ref s01, .ref s02, .int (nI 0)])), (s01, .inl (cA, 3000, .inl (Ls))), (s02, .inl (cA, 13, .inl (Bs))), (r0, .inr (0, [.ref r01, .ref r02, .int (nI kr)])), (r01, .inl (cA, 3001, .inl (Lr))), (r02, .inl (cA, 2, .inl (Br))), (hM, .inr (2, [.ref e0, .ref v0, .int (nI rn), .ref l0, .ref b0, .int (nI 0), .int pl, .int sn, .int wa, .int wf])), (e0, .inl (cA, 33000, .inl (E))), (v0, .inl (cA, 66000, .inl (V))), (l0, .inl (cA, 200000, .inl (L))), (b0, .inl (cA, 15, .inl (B)))]) [9, 0, 1, 2, 3, 4, 5, 10, 11, 12, 6, 7, 8, 13, 14, 15, 16, 17] (by decide) rfl ?_
      refine x_lv (lv' := [(3, .int (nI i)), (2, .ref hM), (1, .ref hB), (0, .ref b)]) (Or.inr (List.forall_mem_cons.mpr ⟨rfl, List.forall_mem_cons.mpr ⟨rfl, List.forall_mem_cons.mpr ⟨rfl, List.forall_mem_cons.mpr ⟨rfl, fun _ h9 => absurd h9 List.not_mem_nil⟩⟩⟩⟩)) ?_
      exact NEXT (hI0.next hq)
    · exact absurd rfl c184
  · rw [List.concat_eq_append] at *
    have hks0 : ks = st0.length + 1 := by rw [← hks]; simp
    subst hks0
    have hS1 := hS
    rw [kT_snoc] at hS1
    have hL1 := hL
    rw [iS_snoc] at hL1
    have hsz : sup n z.1 := hsS z (by simp)
    have hk1 : (kT n st0).length + 1 = st0.length + 1 := by rw [kT_len]
    have h11 : st0.length + 1 ≤ 12 := by simpa using h12
    have hO1 : Ok en rn st0 := fun y hy => hO y (List.mem_append_left _ hy)
    have hkt := kT_snoc n st0 z
    by_cases hfull : st0.length + 1 = 12 ∨ 3000 < tot (kT n (st0 ++ [z])) + (wI n z.1).length
    · refine x_aload_n C d_L_law_176 rfl rfl ?_
      refine x_callVI (wr := [(c0, .inr (0, [.ref c01, .ref c02, .int (nI 32)])), (c01, .inl (cA, 2096, .inl (Lc))), (c02, .inl (cA, 33, .inl (Bc))), (d0, .inr (0, [.ref d01, .ref d02, .int (nI kd)])), (d01, .inl (cA, 2096, .inl (Ld))), (d02, .inl (cA, 33, .inl (Bd))), (r0, .inr (0, [.ref r01, .ref r02, .int (nI kr)])), (r01, .inl (cA, 3001, .inl (Lr))), (r02, .inl (cA, 2, .inl (Br))), (hM, .inr (2, [.ref e0, .ref v0, .int (nI rn), .ref l0, .ref b0, .int (nI (st0.length + 1)), .int pl, .int sn, .int wa, .int wf])), (e0, .inl (cA, 33000, .inl (E))), (v0, .inl (cA, 66000, .inl (V))), (l0, .inl (cA, 200000, .inl (L))), (b0, .inl (cA, 15, .inl (B)))]) (rest := []) C (c_B_copy_full hS1 hk1 (by rw [← hkt]; omega)) d_L_law_177 cd_B_copy lk_L_23 dd_B_copy rfl ⟨Nat.le_of_ble_eq_true rfl, Nat.le_of_ble_eq_true rfl⟩ ⟨Nat.le_of_ble_eq_true rfl, Nat.le_of_ble_eq_true rfl⟩ 1 0 rfl rfl [0, 7, 8, 9] [1, 2, 3, 4, 5, 6, 10, 11, 12, 13, 14, 15, 16, 17] rfl rfl (by decide) (by decide) (by decide) rfl (Nat.le_of_ble_eq_true rfl) ?_
      intro r_ u_ hp_
      obtain rfl := hp_
      refine x_aload_n C d_L_law_180 rfl rfl ?_
      refine x_callVI (wr := [(c0, .inr (0, [.ref c01, .ref c02, .int (nI 32)])), (c01, .inl (cA, 2096, .inl (Lc))), (c02, .inl (cA, 33, .inl (Bc))), (d0, .inr (0, [.ref d01, .ref d02, .int (nI kd)])), (d01, .inl (cA, 2096, .inl (Ld))), (d02, .inl (cA, 33, .inl (Bd))), (r0, .inr (0, [.ref r01, .ref r02, .int (nI kr)])), (r01, .inl (cA, 3001, .inl (Lr))), (r02, .inl (cA, 2, .inl (Br))), (hB, .inr (1, [.ref c0, .ref d0, .ref s0, .ref r0, .int (nI n)])), (s0, .inr (0, [.ref s01, .ref s02, .int (nI (st0.length + 1))])), (s01, .inl (cA, 3000, .inl (Ls))), (s02, .inl (cA, 13, .inl (Bs)))]) (rest := [.int ((-3))]) C (c_M_copy_full (p := z) hE hn hO hL rfl h11 hfull) d_L_law_181 cd_M_copy lk_L_27 dd_M_copy rfl ⟨Nat.le_of_ble_eq_true rfl, Nat.le_of_ble_eq_true rfl⟩ ⟨Nat.le_of_ble_eq_true rfl, Nat.le_of_ble_eq_true rfl⟩ 2 0 rfl rfl [9, 10, 11, 12, 13] [0, 1, 2, 3, 4, 5, 6, 7, 8, 14, 15, 16, 17] rfl rfl (by decide) (by decide) (by decide) rfl (Nat.le_of_ble_eq_true rfl) ?_
      intro r_ u9 hp_
      obtain ⟨rfl, hL9⟩ := hp_
      refine x_icmp_eq (tgt := 349) C d_L_law_184 (by decide)  (fun c184 => ?_) (fun c184 => ?_)
      · refine x_perm (ws' := [(hB, .inr (1, [.ref c0, .ref d0, .ref s0, .ref r0, .int (nI n)])), (c0, .inr (0, [.ref c01, .ref c02, .int (nI 32)])), (c01, .inl (cA, 2096, .inl (Lc))), (c02, .inl (cA, 33, .inl (Bc))), (d0, .inr (0, [.ref d01, .ref d02, .int (nI kd)])), (d01, .inl (cA, 2096, .inl (Ld))), (d02, .inl (cA, 33, .inl (Bd))), (s0, .inr (0, [.ref s01, .ref s02, .int (nI (st0.length + 1))])), (s01, .inl (cA, 3000, .inl (Ls))), (s02, .inl (cA, 13, .inl (Bs))), (r0, .inr (0, [.ref r01, .ref r02, .int (nI kr)])), (r01, .inl (cA, 3001, .inl (Lr))), (r02, .inl (cA, 2, .inl (Br))), (hM, .inr (2, [.ref e0, .ref v0, .int (nI rn), .ref l0, .ref b0, .int (nI (st0.length + 1)), .int (u9.2.1), .int (u9.2.2.1), .int (u9.2.2.2.1), .int (u9.2.2.2.2)])), (e0, .inl (cA, 33000, .inl (E))), (v0, .inl (cA, 66000, .inl (V))), (l0, .inl (cA, 200000, .inl (u9.1))), (b0, .inl (cA, 15, .inl (B)))]) [9, 0, 1, 2, 3, 4, 5, 10, 11, 12, 6, 7, 8, 13, 14, 15, 16, 17] (by decide) rfl ?_
        refine x_lv (lv' := [(3, .int (nI i)), (2, .ref hM), (1, .ref hB), (0, .ref b)]) (Or.inr (List.forall_mem_cons.mpr ⟨rfl, List.forall_mem_cons.mpr ⟨rfl, List.forall_mem_cons.mpr ⟨rfl, List.forall_mem_cons.mpr ⟨rfl, fun _ h9 => absurd h9 List.not_mem_nil⟩⟩⟩⟩)) ?_
        exact NEXT (⟨hC, hD, hkd, hS, hR, hkr, hE, hn, by omega, hO, hL9, h12, ht, hn9, hsF, hsS, hq, hks⟩)
      · exact absurd rfl c184
    · refine x_aload_n C d_L_law_176 rfl rfl ?_
      refine x_callVI (wr := [(c0, .inr (0, [.ref c01, .ref c02, .int (nI 32)])), (c01, .inl (cA, 2096, .inl (Lc))), (c02, .inl (cA, 33, .inl (Bc))), (d0, .inr (0, [.ref d01, .ref d02, .int (nI kd)])), (d01, .inl (cA, 2096, .inl (Ld))), (d02, .inl (cA, 33, .inl (Bd))), (r0, .inr (0, [.ref r01, .ref r02, .int (nI kr)])), (r01, .inl (cA, 3001, .inl (Lr))), (r02, .inl (cA, 2, .inl (Br))), (hM, .inr (2, [.ref e0, .ref v0, .int (nI rn), .ref l0, .ref b0, .int (nI (st0.length + 1)), .int pl, .int sn, .int wa, .int wf])), (e0, .inl (cA, 33000, .inl (E))), (v0, .inl (cA, 66000, .inl (V))), (l0, .inl (cA, 200000, .inl (L))), (b0, .inl (cA, 15, .inl (B)))]) (rest := []) C (c_B_copy hS1 hk1 (by omega) (by rw [← hkt]; omega)) d_L_law_177 cd_B_copy lk_L_23 dd_B_copy rfl ⟨Nat.le_of_ble_eq_true rfl, Nat.le_of_ble_eq_true rfl⟩ ⟨Nat.le_of_ble_eq_true rfl, Nat.le_of_ble_eq_true rfl⟩ 1 0 rfl rfl [0, 7, 8, 9] [1, 2, 3, 4, 5, 6, 10, 11, 12, 13, 14, 15, 16, 17] rfl rfl (by decide) (by decide) (by decide) rfl (Nat.le_of_ble_eq_true rfl) ?_
      intro r_ u8 hp_
      obtain ⟨rfl, hA8⟩ := hp_
      refine x_aload_n C d_L_law_180 rfl rfl ?_
      refine x_callVI (wr := [(c0, .inr (0, [.ref c01, .ref c02, .int (nI 32)])), (c01, .inl (cA, 2096, .inl (Lc))), (c02, .inl (cA, 33, .inl (Bc))), (d0, .inr (0, [.ref d01, .ref d02, .int (nI kd)])), (d01, .inl (cA, 2096, .inl (Ld))), (d02, .inl (cA, 33, .inl (Bd))), (r0, .inr (0, [.ref r01, .ref r02, .int (nI kr)])), (r01, .inl (cA, 3001, .inl (Lr))), (r02, .inl (cA, 2, .inl (Br))), (hB, .inr (1, [.ref c0, .ref d0, .ref s0, .ref r0, .int (nI n)])), (s0, .inr (0, [.ref s01, .ref s02, .int (nI (st0.length + 1 + 1))])), (s01, .inl (cA, 3000, .inl (u8.1))), (s02, .inl (cA, 13, .inl (u8.2)))]) (rest := [.int (nI (st0.length + 1 + 1))]) C (c_M_copy (p := z) hE hn hO hL rfl (by omega) (by omega)) d_L_law_181 cd_M_copy lk_L_27 dd_M_copy rfl ⟨Nat.le_of_ble_eq_true rfl, Nat.le_of_ble_eq_true rfl⟩ ⟨Nat.le_of_ble_eq_true rfl, Nat.le_of_ble_eq_true rfl⟩ 2 0 rfl rfl [9, 10, 11, 12, 13] [0, 1, 2, 3, 4, 5, 6, 7, 8, 14, 15, 16, 17] rfl rfl (by decide) (by decide) (by decide) rfl (Nat.le_of_ble_eq_true rfl) ?_
      intro r_ u9 hp_
      obtain ⟨rfl, hH9⟩ := hp_
      refine x_icmp_eq (tgt := 349) C d_L_law_184 (by decide)  (fun c184 => ?_) (fun c184 => ?_)
      · refine x_perm (ws' := [(hB, .inr (1, [.ref c0, .ref d0, .ref s0, .ref r0, .int (nI n)])), (c0, .inr (0, [.ref c01, .ref c02, .int (nI 32)])), (c01, .inl (cA, 2096, .inl (Lc))), (c02, .inl (cA, 33, .inl (Bc))), (d0, .inr (0, [.ref d01, .ref d02, .int (nI kd)])), (d01, .inl (cA, 2096, .inl (Ld))), (d02, .inl (cA, 33, .inl (Bd))), (s0, .inr (0, [.ref s01, .ref s02, .int (nI (st0.length + 1 + 1))])), (s01, .inl (cA, 3000, .inl (u8.1))), (s02, .inl (cA, 13, .inl (u8.2))), (r0, .inr (0, [.ref r01, .ref r02, .int (nI kr)])), (r01, .inl (cA, 3001, .inl (Lr))), (r02, .inl (cA, 2, .inl (Br))), (hM, .inr (2, [.ref e0, .ref v0, .int (nI rn), .ref l0, .ref b0, .int (nI (st0.length + 1 + 1)), .int (u9.2.2.1), .int (u9.2.2.2.1), .int (u9.2.2.2.2.1), .int (u9.2.2.2.2.2)])), (e0, .inl (cA, 33000, .inl (E))), (v0, .inl (cA, 66000, .inl (V))), (l0, .inl (cA, 200000, .inl (u9.1))), (b0, .inl (cA, 15, .inl (u9.2.1)))]) [9, 0, 1, 2, 3, 4, 5, 10, 11, 12, 6, 7, 8, 13, 14, 15, 16, 17] (by decide) rfl ?_
        refine x_lv (lv' := [(3, .int (nI i)), (2, .ref hM), (1, .ref hB), (0, .ref b)]) (Or.inr (List.forall_mem_cons.mpr ⟨rfl, List.forall_mem_cons.mpr ⟨rfl, List.forall_mem_cons.mpr ⟨rfl, List.forall_mem_cons.mpr ⟨rfl, fun _ h9 => absurd h9 List.not_mem_nil⟩⟩⟩⟩)) ?_
        exact NEXT (LInv.push (f := z.1) (J := z.2) hI0 hq (by omega) (by rw [hkt]; exact hA8) (hO z (by simp)) hH9 hsz)
      · exact absurd rfl c184
set_option maxHeartbeats 8000000 in
theorem law_not {p : Program} {l : Launch} {e : Env} {s : State} {m : MethodId} {below : List Frame} {meth : Method} {c : Code} {D : va_G} {cA : ClassId} {b L0 : Nat} {xs : Nat → Int32} (hL0 : L0 ≤ 2048) (C : Cx p s m #[Value.ref b] meth c code 4 R_L D cA (fun q => s.heap.size ≤ q)) (hX : va_X b L0 xs s s.heap) (hbl : b < s.heap.size) {i q : Nat} (hi : i + 4 ≤ L0) (hq : q + 1 ≤ 512) (NEXT : Cont p l e s m below meth c D cA b i q) {hB hM c0 c01 c02 d0 d01 d02 s0 s01 s02 r0 r01 r02 n kd kr e0 v0 l0 b0 rn ks : Nat} {Lc Bc Ld Bd Ls Bs Lr Br E V L B : Nat → Int32} {pl sn wa wf : Int32} {dd rr : List (List Int32)} {en : Nat → Nat} {vl : Nat → Nat → Nat} {st : List ((Nat → Bool) × List (Nat × Nat))} (hI : LInv n Lc Bc Ld Bd Ls Bs Lr Br kd kr dd rr E V L B rn en vl st ks q) : XL p l e s m below meth c D b [(hB, .inr (1, [.ref c0, .ref d0, .ref s0, .ref r0, .int (nI n)])), (c0, .inr (0, [.ref c01, .ref c02, .int (nI 32)])), (c01, .inl (cA, 2096, .inl (Lc))), (c02, .inl (cA, 33, .inl (Bc))), (d0, .inr (0, [.ref d01, .ref d02, .int (nI kd)])), (d01, .inl (cA, 2096, .inl (Ld))), (d02, .inl (cA, 33, .inl (Bd))), (s0, .inr (0, [.ref s01, .ref s02, .int (nI ks)])), (s01, .inl (cA, 3000, .inl (Ls))), (s02, .inl (cA, 13, .inl (Bs))), (r0, .inr (0, [.ref r01, .ref r02, .int (nI kr)])), (r01, .inl (cA, 3001, .inl (Lr))), (r02, .inl (cA, 2, .inl (Br))), (hM, .inr (2, [.ref e0, .ref v0, .int (nI rn), .ref l0, .ref b0, .int (nI ks), .int pl, .int sn, .int wa, .int wf])), (e0, .inl (cA, 33000, .inl (E))), (v0, .inl (cA, 66000, .inl (V))), (l0, .inl (cA, 200000, .inl (L))), (b0, .inl (cA, 15, .inl (B)))] 212 [(3, .int (nI i)), (2, .ref hM), (1, .ref hB), (0, .ref b)] [] := by
  have hbA : ¬ (fun q => s.heap.size ≤ q) b := Nat.not_le.mpr hbl
  have hI0 := hI
  obtain ⟨hC, hD, hkd, hS, hR, hkr, hE, hn, hrq, hO, hL, h12, ht, hn9, hsF, hsS, hq5, hks⟩ := hI
  rcases List.eq_nil_or_concat st with rfl | ⟨st0, z, rfl⟩
  · have hks0 : ks = 0 := by simpa using hks.symm
    subst hks0
    refine x_aload_n C d_L_law_212 rfl rfl ?_
    refine x_callVI (wr := [(c0, .inr (0, [.ref c01, .ref c02, .int (nI 32)])), (c01, .inl (cA, 2096, .inl (Lc))), (c02, .inl (cA, 33, .inl (Bc))), (d0, .inr (0, [.ref d01, .ref d02, .int (nI kd)])), (d01, .inl (cA, 2096, .inl (Ld))), (d02, .inl (cA, 33, .inl (Bd))), (r0, .inr (0, [.ref r01, .ref r02, .int (nI kr)])), (r01, .inl (cA, 3001, .inl (Lr))), (r02, .inl (cA, 2, .inl (Br))), (hM, .inr (2, [.ref e0, .ref v0, .int (nI rn), .ref l0, .ref b0, .int (nI 0), .int pl, .int sn, .int wa, .int wf])), (e0, .inl (cA, 33000, .inl (E))), (v0, .inl (cA, 66000, .inl (V))), (l0, .inl (cA, 200000, .inl (L))), (b0, .inl (cA, 15, .inl (B)))]) (rest := []) C (c_B_not_none) d_L_law_213 cd_B_not lk_L_33 dd_B_not rfl ⟨Nat.le_of_ble_eq_true rfl, Nat.le_of_ble_eq_true rfl⟩ ⟨Nat.le_of_ble_eq_true rfl, Nat.le_of_ble_eq_true rfl⟩ 1 0 rfl rfl [0, 7, 8, 9] [1, 2, 3, 4, 5, 6, 10, 11, 12, 13, 14, 15, 16, 17] rfl rfl (by decide) (by decide) (by decide) rfl (Nat.le_of_ble_eq_true rfl) ?_
    intro r_ u_ hp_
    obtain rfl := hp_
    refine x_aload_n C d_L_law_216 rfl rfl ?_
    refine x_callVI (wr := [(c0, .inr (0, [.ref c01, .ref c02, .int (nI 32)])), (c01, .inl (cA, 2096, .inl (Lc))), (c02, .inl (cA, 33, .inl (Bc))), (d0, .inr (0, [.ref d01, .ref d02, .int (nI kd)])), (d01, .inl (cA, 2096, .inl (Ld))), (d02, .inl (cA, 33, .inl (Bd))), (r0, .inr (0, [.ref r01, .ref r02, .int (nI kr)])), (r01, .inl (cA, 3001, .inl (Lr))), (r02, .inl (cA, 2, .inl (Br))), (hB, .inr (1, [.ref c0, .ref d0, .ref s0, .ref r0, .int (nI n)])), (s0, .inr (0, [.ref s01, .ref s02, .int (nI 0)])), (s01, .inl (cA, 3000, .inl (Ls))), (s02, .inl (cA, 13, .inl (Bs)))]) (rest := [.int ((-4))]) C (c_M_not_none) d_L_law_217 cd_M_not lk_L_36 dd_M_not rfl ⟨Nat.le_of_ble_eq_true rfl, Nat.le_of_ble_eq_true rfl⟩ ⟨Nat.le_of_ble_eq_true rfl, Nat.le_of_ble_eq_true rfl⟩ 2 0 rfl rfl [9, 10, 11, 12, 13] [0, 1, 2, 3, 4, 5, 6, 7, 8, 14, 15, 16, 17] rfl rfl (by decide) (by decide) (by decide) rfl (Nat.le_of_ble_eq_true rfl) ?_
    intro r_ u_ hp_
    obtain rfl := hp_
    refine x_icmp_eq (tgt := 349) C d_L_law_220 (by decide)  (fun c220 => ?_) (fun c220 => ?_)
    · refine x_perm (ws' := [(hB, .inr (1, [.ref c0, .ref d0, .ref s0, .ref r0, .int (nI n)])), (c0, .inr (0, [.ref c01, .ref c02, .int (nI 32)])), (c01, .inl (cA, 2096, .inl (Lc))), (c02, .inl (cA, 33, .inl (Bc))), (d0, .inr (0, [.ref d01, .ref d02, .int (nI kd)])), (d01, .inl (cA, 2096, .inl (Ld))), (d02, .inl (cA, 33, .inl (Bd))), (s0, .inr (0, [.ref s01, .ref s02, .int (nI 0)])), (s01, .inl (cA, 3000, .inl (Ls))), (s02, .inl (cA, 13, .inl (Bs))), (r0, .inr (0, [.ref r01, .ref r02, .int (nI kr)])), (r01, .inl (cA, 3001, .inl (Lr))), (r02, .inl (cA, 2, .inl (Br))), (hM, .inr (2, [.ref e0, .ref v0, .int (nI rn), .ref l0, .ref b0, .int (nI 0), .int pl, .int sn, .int wa, .int wf])), (e0, .inl (cA, 33000, .inl (E))), (v0, .inl (cA, 66000, .inl (V))), (l0, .inl (cA, 200000, .inl (L))), (b0, .inl (cA, 15, .inl (B)))]) [9, 0, 1, 2, 3, 4, 5, 10, 11, 12, 6, 7, 8, 13, 14, 15, 16, 17] (by decide) rfl ?_
      refine x_lv (lv' := [(3, .int (nI i)), (2, .ref hM), (1, .ref hB), (0, .ref b)]) (Or.inr (List.forall_mem_cons.mpr ⟨rfl, List.forall_mem_cons.mpr ⟨rfl, List.forall_mem_cons.mpr ⟨rfl, List.forall_mem_cons.mpr ⟨rfl, fun _ h9 => absurd h9 List.not_mem_nil⟩⟩⟩⟩)) ?_
      exact NEXT (hI0.next hq)
    · exact absurd rfl c220
  · rw [List.concat_eq_append] at *
    have hks0 : ks = st0.length + 1 := by rw [← hks]; simp
    subst hks0
    have hS1 := hS
    rw [kT_snoc] at hS1
    have hL1 := hL
    rw [iS_snoc] at hL1
    have hsz : sup n z.1 := hsS z (by simp)
    have hk1 : (kT n st0).length + 1 = st0.length + 1 := by rw [kT_len]
    have h11 : st0.length + 1 ≤ 12 := by simpa using h12
    have hO1 : Ok en rn st0 := fun y hy => hO y (List.mem_append_left _ hy)
    by_cases hfull : 3000 < tot (kT n st0) + (wI n (fnot z.1 n)).length
    · refine x_aload_n C d_L_law_212 rfl rfl ?_
      refine x_callVI (wr := [(c0, .inr (0, [.ref c01, .ref c02, .int (nI 32)])), (c01, .inl (cA, 2096, .inl (Lc))), (c02, .inl (cA, 33, .inl (Bc))), (d0, .inr (0, [.ref d01, .ref d02, .int (nI kd)])), (d01, .inl (cA, 2096, .inl (Ld))), (d02, .inl (cA, 33, .inl (Bd))), (hM, .inr (2, [.ref e0, .ref v0, .int (nI rn), .ref l0, .ref b0, .int (nI (st0.length + 1)), .int pl, .int sn, .int wa, .int wf])), (e0, .inl (cA, 33000, .inl (E))), (v0, .inl (cA, 66000, .inl (V))), (l0, .inl (cA, 200000, .inl (L))), (b0, .inl (cA, 15, .inl (B)))]) (rest := []) C (c_B_not_full hS1 hk1 hR hkr hn9 hfull) d_L_law_213 cd_B_not lk_L_33 dd_B_not rfl ⟨Nat.le_of_ble_eq_true rfl, Nat.le_of_ble_eq_true rfl⟩ ⟨Nat.le_of_ble_eq_true rfl, Nat.le_of_ble_eq_true rfl⟩ 1 0 rfl rfl [0, 7, 8, 9, 10, 11, 12] [1, 2, 3, 4, 5, 6, 13, 14, 15, 16, 17] rfl rfl (by decide) (by decide) (by decide) rfl (Nat.le_of_ble_eq_true rfl) ?_
      intro r_ u8 hp_
      obtain ⟨rfl, hR8⟩ := hp_
      refine x_aload_n C d_L_law_216 rfl rfl ?_
      refine x_callVI (wr := [(c0, .inr (0, [.ref c01, .ref c02, .int (nI 32)])), (c01, .inl (cA, 2096, .inl (Lc))), (c02, .inl (cA, 33, .inl (Bc))), (d0, .inr (0, [.ref d01, .ref d02, .int (nI kd)])), (d01, .inl (cA, 2096, .inl (Ld))), (d02, .inl (cA, 33, .inl (Bd))), (hB, .inr (1, [.ref c0, .ref d0, .ref s0, .ref r0, .int (nI n)])), (s0, .inr (0, [.ref s01, .ref s02, .int (nI (st0.length + 1))])), (s01, .inl (cA, 3000, .inl (Ls))), (s02, .inl (cA, 13, .inl (Bs))), (r0, .inr (0, [.ref r01, .ref r02, .int (nI 1)])), (r01, .inl (cA, 3001, .inl (u8.1))), (r02, .inl (cA, 2, .inl (u8.2)))]) (rest := [.int ((-3))]) C (c_M_not_full (p := z) hE hn hO hL rfl h11 hfull) d_L_law_217 cd_M_not lk_L_36 dd_M_not rfl ⟨Nat.le_of_ble_eq_true rfl, Nat.le_of_ble_eq_true rfl⟩ ⟨Nat.le_of_ble_eq_true rfl, Nat.le_of_ble_eq_true rfl⟩ 2 0 rfl rfl [6, 7, 8, 9, 10] [0, 1, 2, 3, 4, 5, 11, 12, 13, 14, 15, 16, 17] rfl rfl (by decide) (by decide) (by decide) rfl (Nat.le_of_ble_eq_true rfl) ?_
      intro r_ u9 hp_
      obtain ⟨rfl, hL9⟩ := hp_
      refine x_icmp_eq (tgt := 349) C d_L_law_220 (by decide)  (fun c220 => ?_) (fun c220 => ?_)
      · refine x_perm (ws' := [(hB, .inr (1, [.ref c0, .ref d0, .ref s0, .ref r0, .int (nI n)])), (c0, .inr (0, [.ref c01, .ref c02, .int (nI 32)])), (c01, .inl (cA, 2096, .inl (Lc))), (c02, .inl (cA, 33, .inl (Bc))), (d0, .inr (0, [.ref d01, .ref d02, .int (nI kd)])), (d01, .inl (cA, 2096, .inl (Ld))), (d02, .inl (cA, 33, .inl (Bd))), (s0, .inr (0, [.ref s01, .ref s02, .int (nI (st0.length + 1))])), (s01, .inl (cA, 3000, .inl (Ls))), (s02, .inl (cA, 13, .inl (Bs))), (r0, .inr (0, [.ref r01, .ref r02, .int (nI 1)])), (r01, .inl (cA, 3001, .inl (u8.1))), (r02, .inl (cA, 2, .inl (u8.2))), (hM, .inr (2, [.ref e0, .ref v0, .int (nI rn), .ref l0, .ref b0, .int (nI (st0.length + 1)), .int (u9.2.1), .int (u9.2.2.1), .int (u9.2.2.2.1), .int (u9.2.2.2.2)])), (e0, .inl (cA, 33000, .inl (E))), (v0, .inl (cA, 66000, .inl (V))), (l0, .inl (cA, 200000, .inl (u9.1))), (b0, .inl (cA, 15, .inl (B)))]) [6, 0, 1, 2, 3, 4, 5, 7, 8, 9, 10, 11, 12, 13, 14, 15, 16, 17] (by decide) rfl ?_
        refine x_lv (lv' := [(3, .int (nI i)), (2, .ref hM), (1, .ref hB), (0, .ref b)]) (Or.inr (List.forall_mem_cons.mpr ⟨rfl, List.forall_mem_cons.mpr ⟨rfl, List.forall_mem_cons.mpr ⟨rfl, List.forall_mem_cons.mpr ⟨rfl, fun _ h9 => absurd h9 List.not_mem_nil⟩⟩⟩⟩)) ?_
        exact NEXT (⟨hC, hD, hkd, hS, hR8, rfl, hE, hn, by omega, hO, hL9, h12, ht, hn9, hsF, hsS, hq, hks⟩)
      · exact absurd rfl c220
    · refine x_aload_n C d_L_law_212 rfl rfl ?_
      refine x_callVI (wr := [(c0, .inr (0, [.ref c01, .ref c02, .int (nI 32)])), (c01, .inl (cA, 2096, .inl (Lc))), (c02, .inl (cA, 33, .inl (Bc))), (d0, .inr (0, [.ref d01, .ref d02, .int (nI kd)])), (d01, .inl (cA, 2096, .inl (Ld))), (d02, .inl (cA, 33, .inl (Bd))), (hM, .inr (2, [.ref e0, .ref v0, .int (nI rn), .ref l0, .ref b0, .int (nI (st0.length + 1)), .int pl, .int sn, .int wa, .int wf])), (e0, .inl (cA, 33000, .inl (E))), (v0, .inl (cA, 66000, .inl (V))), (l0, .inl (cA, 200000, .inl (L))), (b0, .inl (cA, 15, .inl (B)))]) (rest := []) C (c_B_not hS1 hk1 hR hkr hn9 (by omega)) d_L_law_213 cd_B_not lk_L_33 dd_B_not rfl ⟨Nat.le_of_ble_eq_true rfl, Nat.le_of_ble_eq_true rfl⟩ ⟨Nat.le_of_ble_eq_true rfl, Nat.le_of_ble_eq_true rfl⟩ 1 0 rfl rfl [0, 7, 8, 9, 10, 11, 12] [1, 2, 3, 4, 5, 6, 13, 14, 15, 16, 17] rfl rfl (by decide) (by decide) (by decide) rfl (Nat.le_of_ble_eq_true rfl) ?_
      intro r_ u8 hp_
      obtain ⟨rfl, hA8, hR8⟩ := hp_
      rw [kT_len]
      refine x_aload_n C d_L_law_216 rfl rfl ?_
      refine x_callVI (wr := [(c0, .inr (0, [.ref c01, .ref c02, .int (nI 32)])), (c01, .inl (cA, 2096, .inl (Lc))), (c02, .inl (cA, 33, .inl (Bc))), (d0, .inr (0, [.ref d01, .ref d02, .int (nI kd)])), (d01, .inl (cA, 2096, .inl (Ld))), (d02, .inl (cA, 33, .inl (Bd))), (hB, .inr (1, [.ref c0, .ref d0, .ref s0, .ref r0, .int (nI n)])), (s0, .inr (0, [.ref s01, .ref s02, .int (nI (st0.length + 1))])), (s01, .inl (cA, 3000, .inl (u8.1.1))), (s02, .inl (cA, 13, .inl (u8.1.2))), (r0, .inr (0, [.ref r01, .ref r02, .int (nI 1)])), (r01, .inl (cA, 3001, .inl (u8.2.1))), (r02, .inl (cA, 2, .inl (u8.2.2)))]) (rest := [.int (nI (st0.length + 1))]) C (c_M_not (p := z) hE hn hO hL rfl h11 (by omega)) d_L_law_217 cd_M_not lk_L_36 dd_M_not rfl ⟨Nat.le_of_ble_eq_true rfl, Nat.le_of_ble_eq_true rfl⟩ ⟨Nat.le_of_ble_eq_true rfl, Nat.le_of_ble_eq_true rfl⟩ 2 0 rfl rfl [6, 7, 8, 9, 10] [0, 1, 2, 3, 4, 5, 11, 12, 13, 14, 15, 16, 17] rfl rfl (by decide) (by decide) (by decide) rfl (Nat.le_of_ble_eq_true rfl) ?_
      intro r_ u9 hp_
      obtain ⟨rfl, J9, hJ9, hH9⟩ := hp_
      refine x_icmp_eq (tgt := 349) C d_L_law_220 (by decide)  (fun c220 => ?_) (fun c220 => ?_)
      · refine x_perm (ws' := [(hB, .inr (1, [.ref c0, .ref d0, .ref s0, .ref r0, .int (nI n)])), (c0, .inr (0, [.ref c01, .ref c02, .int (nI 32)])), (c01, .inl (cA, 2096, .inl (Lc))), (c02, .inl (cA, 33, .inl (Bc))), (d0, .inr (0, [.ref d01, .ref d02, .int (nI kd)])), (d01, .inl (cA, 2096, .inl (Ld))), (d02, .inl (cA, 33, .inl (Bd))), (s0, .inr (0, [.ref s01, .ref s02, .int (nI (st0.length + 1))])), (s01, .inl (cA, 3000, .inl (u8.1.1))), (s02, .inl (cA, 13, .inl (u8.1.2))), (r0, .inr (0, [.ref r01, .ref r02, .int (nI 1)])), (r01, .inl (cA, 3001, .inl (u8.2.1))), (r02, .inl (cA, 2, .inl (u8.2.2))), (hM, .inr (2, [.ref e0, .ref v0, .int (nI rn), .ref l0, .ref b0, .int (nI (st0.length + 1)), .int (u9.2.2.1), .int (u9.2.2.2.1), .int (u9.2.2.2.2.1), .int (u9.2.2.2.2.2)])), (e0, .inl (cA, 33000, .inl (E))), (v0, .inl (cA, 66000, .inl (V))), (l0, .inl (cA, 200000, .inl (u9.1))), (b0, .inl (cA, 15, .inl (u9.2.1)))]) [6, 0, 1, 2, 3, 4, 5, 7, 8, 9, 10, 11, 12, 13, 14, 15, 16, 17] (by decide) rfl ?_
        refine x_lv (lv' := [(3, .int (nI i)), (2, .ref hM), (1, .ref hB), (0, .ref b)]) (Or.inr (List.forall_mem_cons.mpr ⟨rfl, List.forall_mem_cons.mpr ⟨rfl, List.forall_mem_cons.mpr ⟨rfl, List.forall_mem_cons.mpr ⟨rfl, fun _ h9 => absurd h9 List.not_mem_nil⟩⟩⟩⟩)) ?_
        exact NEXT (LInv.top (f := fnot z.1 n) (J := J9) hI0 hq hO1 (by omega) (fun y hy => hsS y (List.mem_append_left _ hy)) hA8 hR8 hJ9 hH9 (fnot_sup _ _))
      · exact absurd rfl c220
set_option maxHeartbeats 8000000 in
theorem law_join {p : Program} {l : Launch} {e : Env} {s : State} {m : MethodId} {below : List Frame} {meth : Method} {c : Code} {D : va_G} {cA : ClassId} {b L0 : Nat} {xs : Nat → Int32} (hL0 : L0 ≤ 2048) (C : Cx p s m #[Value.ref b] meth c code 4 R_L D cA (fun q => s.heap.size ≤ q)) (hX : va_X b L0 xs s s.heap) (hbl : b < s.heap.size) {i q : Nat} (hi : i + 4 ≤ L0) (hq : q + 1 ≤ 512) (NEXT : Cont p l e s m below meth c D cA b i q) {hB hM c0 c01 c02 d0 d01 d02 s0 s01 s02 r0 r01 r02 n kd kr e0 v0 l0 b0 rn ks : Nat} {Lc Bc Ld Bd Ls Bs Lr Br E V L B : Nat → Int32} {pl sn wa wf : Int32} {dd rr : List (List Int32)} {en : Nat → Nat} {vl : Nat → Nat → Nat} {st : List ((Nat → Bool) × List (Nat × Nat))} (hI : LInv n Lc Bc Ld Bd Ls Bs Lr Br kd kr dd rr E V L B rn en vl st ks q) : XL p l e s m below meth c D b [(hB, .inr (1, [.ref c0, .ref d0, .ref s0, .ref r0, .int (nI n)])), (c0, .inr (0, [.ref c01, .ref c02, .int (nI 32)])), (c01, .inl (cA, 2096, .inl (Lc))), (c02, .inl (cA, 33, .inl (Bc))), (d0, .inr (0, [.ref d01, .ref d02, .int (nI kd)])), (d01, .inl (cA, 2096, .inl (Ld))), (d02, .inl (cA, 33, .inl (Bd))), (s0, .inr (0, [.ref s01, .ref s02, .int (nI ks)])), (s01, .inl (cA, 3000, .inl (Ls))), (s02, .inl (cA, 13, .inl (Bs))), (r0, .inr (0, [.ref r01, .ref r02, .int (nI kr)])), (r01, .inl (cA, 3001, .inl (Lr))), (r02, .inl (cA, 2, .inl (Br))), (hM, .inr (2, [.ref e0, .ref v0, .int (nI rn), .ref l0, .ref b0, .int (nI ks), .int pl, .int sn, .int wa, .int wf])), (e0, .inl (cA, 33000, .inl (E))), (v0, .inl (cA, 66000, .inl (V))), (l0, .inl (cA, 200000, .inl (L))), (b0, .inl (cA, 15, .inl (B)))] 189 [(3, .int (nI i)), (2, .ref hM), (1, .ref hB), (0, .ref b)] [] := by
  have hbA : ¬ (fun q => s.heap.size ≤ q) b := Nat.not_le.mpr hbl
  have hI0 := hI
  obtain ⟨hC, hD, hkd, hS, hR, hkr, hE, hn, hrq, hO, hL, h12, ht, hn9, hsF, hsS, hq5, hks⟩ := hI
  by_cases hb : xs (i + 1) < 0 ∨ nI 3 < xs (i + 1)
  · refine x_aload_n C d_L_law_189 rfl rfl ?_
    refine x_aload_n C d_L_law_190 rfl rfl ?_
    refine x_iload_n C d_L_law_191 rfl rfl ?_
    refine x_iconst (v := (nI (1))) C d_L_law_192 (by decide) ?_
    refine x_iaddN C d_L_law_193  ?_
    refine x_sld C hX hbl hbA (by omega) (by omega) d_L_law_194 ?_
    refine x_callVI (wr := [(c0, .inr (0, [.ref c01, .ref c02, .int (nI 32)])), (c01, .inl (cA, 2096, .inl (Lc))), (c02, .inl (cA, 33, .inl (Bc))), (d0, .inr (0, [.ref d01, .ref d02, .int (nI kd)])), (d01, .inl (cA, 2096, .inl (Ld))), (d02, .inl (cA, 33, .inl (Bd))), (s0, .inr (0, [.ref s01, .ref s02, .int (nI ks)])), (s01, .inl (cA, 3000, .inl (Ls))), (s02, .inl (cA, 13, .inl (Bs))), (r0, .inr (0, [.ref r01, .ref r02, .int (nI kr)])), (r01, .inl (cA, 3001, .inl (Lr))), (r02, .inl (cA, 2, .inl (Br))), (hM, .inr (2, [.ref e0, .ref v0, .int (nI rn), .ref l0, .ref b0, .int (nI ks), .int pl, .int sn, .int wa, .int wf])), (e0, .inl (cA, 33000, .inl (E))), (v0, .inl (cA, 66000, .inl (V))), (l0, .inl (cA, 200000, .inl (L))), (b0, .inl (cA, 15, .inl (B)))]) (rest := []) C (c_B_join_bad hb) d_L_law_195 cd_B_join lk_L_28 dd_B_join rfl ⟨Nat.le_of_ble_eq_true rfl, Nat.le_of_ble_eq_true rfl⟩ ⟨Nat.le_of_ble_eq_true rfl, Nat.le_of_ble_eq_true rfl⟩ 1 0 rfl rfl [0] [1, 2, 3, 4, 5, 6, 7, 8, 9, 10, 11, 12, 13, 14, 15, 16, 17] rfl rfl (by decide) (by decide) (by decide) rfl (Nat.le_of_ble_eq_true rfl) ?_
    intro r_ u_ hp_
    obtain rfl := hp_
    refine x_aload_n C d_L_law_198 rfl rfl ?_
    refine x_aload_n C d_L_law_199 rfl rfl ?_
    refine x_iload_n C d_L_law_200 rfl rfl ?_
    refine x_iconst (v := (nI (1))) C d_L_law_201 (by decide) ?_
    refine x_iaddN C d_L_law_202  ?_
    refine x_sld C hX hbl hbA (by omega) (by omega) d_L_law_203 ?_
    refine x_callVI (wr := [(c0, .inr (0, [.ref c01, .ref c02, .int (nI 32)])), (c01, .inl (cA, 2096, .inl (Lc))), (c02, .inl (cA, 33, .inl (Bc))), (d0, .inr (0, [.ref d01, .ref d02, .int (nI kd)])), (d01, .inl (cA, 2096, .inl (Ld))), (d02, .inl (cA, 33, .inl (Bd))), (s0, .inr (0, [.ref s01, .ref s02, .int (nI ks)])), (s01, .inl (cA, 3000, .inl (Ls))), (s02, .inl (cA, 13, .inl (Bs))), (r0, .inr (0, [.ref r01, .ref r02, .int (nI kr)])), (r01, .inl (cA, 3001, .inl (Lr))), (r02, .inl (cA, 2, .inl (Br))), (hB, .inr (1, [.ref c0, .ref d0, .ref s0, .ref r0, .int (nI n)]))]) (rest := [.int ((-1))]) C (c_M_join_bad hb) d_L_law_204 cd_M_join lk_L_32 dd_M_join rfl ⟨Nat.le_of_ble_eq_true rfl, Nat.le_of_ble_eq_true rfl⟩ ⟨Nat.le_of_ble_eq_true rfl, Nat.le_of_ble_eq_true rfl⟩ 2 0 rfl rfl [12, 13, 14, 15, 16] [0, 1, 2, 3, 4, 5, 6, 7, 8, 9, 10, 11, 17] rfl rfl (by decide) (by decide) (by decide) rfl (Nat.le_of_ble_eq_true rfl) ?_
    intro r_ u_ hp_
    obtain rfl := hp_
    refine x_icmp_eq (tgt := 349) C d_L_law_207 (by decide)  (fun c207 => ?_) (fun c207 => ?_)
    · refine x_perm (ws' := [(hB, .inr (1, [.ref c0, .ref d0, .ref s0, .ref r0, .int (nI n)])), (c0, .inr (0, [.ref c01, .ref c02, .int (nI 32)])), (c01, .inl (cA, 2096, .inl (Lc))), (c02, .inl (cA, 33, .inl (Bc))), (d0, .inr (0, [.ref d01, .ref d02, .int (nI kd)])), (d01, .inl (cA, 2096, .inl (Ld))), (d02, .inl (cA, 33, .inl (Bd))), (s0, .inr (0, [.ref s01, .ref s02, .int (nI ks)])), (s01, .inl (cA, 3000, .inl (Ls))), (s02, .inl (cA, 13, .inl (Bs))), (r0, .inr (0, [.ref r01, .ref r02, .int (nI kr)])), (r01, .inl (cA, 3001, .inl (Lr))), (r02, .inl (cA, 2, .inl (Br))), (hM, .inr (2, [.ref e0, .ref v0, .int (nI rn), .ref l0, .ref b0, .int (nI ks), .int pl, .int sn, .int wa, .int wf])), (e0, .inl (cA, 33000, .inl (E))), (v0, .inl (cA, 66000, .inl (V))), (l0, .inl (cA, 200000, .inl (L))), (b0, .inl (cA, 15, .inl (B)))]) [12, 0, 1, 2, 3, 4, 5, 6, 7, 8, 9, 10, 11, 13, 14, 15, 16, 17] (by decide) rfl ?_
      refine x_lv (lv' := [(3, .int (nI i)), (2, .ref hM), (1, .ref hB), (0, .ref b)]) (Or.inr (List.forall_mem_cons.mpr ⟨rfl, List.forall_mem_cons.mpr ⟨rfl, List.forall_mem_cons.mpr ⟨rfl, List.forall_mem_cons.mpr ⟨rfl, fun _ h9 => absurd h9 List.not_mem_nil⟩⟩⟩⟩)) ?_
      exact NEXT (hI0.next hq)
    · exact absurd rfl c207
  · obtain ⟨op, hop, hxe⟩ := nat_of (x := xs (i + 1)) (k := 4) (by omega) (fun w => hb (Or.inl w)) (fun w => hb (Or.inr (Int32.lt_of_lt_of_le (nI_lt (by omega) (by omega)) w)))
    have ho : op ≤ 3 := by omega
    by_cases hk2 : ks < 2
    · refine x_aload_n C d_L_law_189 rfl rfl ?_
      refine x_aload_n C d_L_law_190 rfl rfl ?_
      refine x_iload_n C d_L_law_191 rfl rfl ?_
      refine x_iconst (v := (nI (1))) C d_L_law_192 (by decide) ?_
      refine x_iaddN C d_L_law_193  ?_
      refine x_sld C hX hbl hbA (by omega) (by omega) d_L_law_194 ?_
      refine x_top (y := (nI (op))) hxe ?_
      refine x_callVI (wr := [(c0, .inr (0, [.ref c01, .ref c02, .int (nI 32)])), (c01, .inl (cA, 2096, .inl (Lc))), (c02, .inl (cA, 33, .inl (Bc))), (d0, .inr (0, [.ref d01, .ref d02, .int (nI kd)])), (d01, .inl (cA, 2096, .inl (Ld))), (d02, .inl (cA, 33, .inl (Bd))), (r0, .inr (0, [.ref r01, .ref r02, .int (nI kr)])), (r01, .inl (cA, 3001, .inl (Lr))), (r02, .inl (cA, 2, .inl (Br))), (hM, .inr (2, [.ref e0, .ref v0, .int (nI rn), .ref l0, .ref b0, .int (nI ks), .int pl, .int sn, .int wa, .int wf])), (e0, .inl (cA, 33000, .inl (E))), (v0, .inl (cA, 66000, .inl (V))), (l0, .inl (cA, 200000, .inl (L))), (b0, .inl (cA, 15, .inl (B)))]) (rest := []) C (c_B_join_none ho hk2) d_L_law_195 cd_B_join lk_L_28 dd_B_join rfl ⟨Nat.le_of_ble_eq_true rfl, Nat.le_of_ble_eq_true rfl⟩ ⟨Nat.le_of_ble_eq_true rfl, Nat.le_of_ble_eq_true rfl⟩ 1 0 rfl rfl [0, 7, 8, 9] [1, 2, 3, 4, 5, 6, 10, 11, 12, 13, 14, 15, 16, 17] rfl rfl (by decide) (by decide) (by decide) rfl (Nat.le_of_ble_eq_true rfl) ?_
      intro r_ u_ hp_
      obtain rfl := hp_
      refine x_aload_n C d_L_law_198 rfl rfl ?_
      refine x_aload_n C d_L_law_199 rfl rfl ?_
      refine x_iload_n C d_L_law_200 rfl rfl ?_
      refine x_iconst (v := (nI (1))) C d_L_law_201 (by decide) ?_
      refine x_iaddN C d_L_law_202  ?_
      refine x_sld C hX hbl hbA (by omega) (by omega) d_L_law_203 ?_
      refine x_top (y := (nI (op))) hxe ?_
      refine x_callVI (wr := [(c0, .inr (0, [.ref c01, .ref c02, .int (nI 32)])), (c01, .inl (cA, 2096, .inl (Lc))), (c02, .inl (cA, 33, .inl (Bc))), (d0, .inr (0, [.ref d01, .ref d02, .int (nI kd)])), (d01, .inl (cA, 2096, .inl (Ld))), (d02, .inl (cA, 33, .inl (Bd))), (r0, .inr (0, [.ref r01, .ref r02, .int (nI kr)])), (r01, .inl (cA, 3001, .inl (Lr))), (r02, .inl (cA, 2, .inl (Br))), (hB, .inr (1, [.ref c0, .ref d0, .ref s0, .ref r0, .int (nI n)])), (s0, .inr (0, [.ref s01, .ref s02, .int (nI ks)])), (s01, .inl (cA, 3000, .inl (Ls))), (s02, .inl (cA, 13, .inl (Bs)))]) (rest := [.int ((-4))]) C (c_M_join_none ho hk2) d_L_law_204 cd_M_join lk_L_32 dd_M_join rfl ⟨Nat.le_of_ble_eq_true rfl, Nat.le_of_ble_eq_true rfl⟩ ⟨Nat.le_of_ble_eq_true rfl, Nat.le_of_ble_eq_true rfl⟩ 2 0 rfl rfl [9, 10, 11, 12, 13] [0, 1, 2, 3, 4, 5, 6, 7, 8, 14, 15, 16, 17] rfl rfl (by decide) (by decide) (by decide) rfl (Nat.le_of_ble_eq_true rfl) ?_
      intro r_ u_ hp_
      obtain rfl := hp_
      refine x_icmp_eq (tgt := 349) C d_L_law_207 (by decide)  (fun c207 => ?_) (fun c207 => ?_)
      · refine x_perm (ws' := [(hB, .inr (1, [.ref c0, .ref d0, .ref s0, .ref r0, .int (nI n)])), (c0, .inr (0, [.ref c01, .ref c02, .int (nI 32)])), (c01, .inl (cA, 2096, .inl (Lc))), (c02, .inl (cA, 33, .inl (Bc))), (d0, .inr (0, [.ref d01, .ref d02, .int (nI kd)])), (d01, .inl (cA, 2096, .inl (Ld))), (d02, .inl (cA, 33, .inl (Bd))), (s0, .inr (0, [.ref s01, .ref s02, .int (nI ks)])), (s01, .inl (cA, 3000, .inl (Ls))), (s02, .inl (cA, 13, .inl (Bs))), (r0, .inr (0, [.ref r01, .ref r02, .int (nI kr)])), (r01, .inl (cA, 3001, .inl (Lr))), (r02, .inl (cA, 2, .inl (Br))), (hM, .inr (2, [.ref e0, .ref v0, .int (nI rn), .ref l0, .ref b0, .int (nI ks), .int pl, .int sn, .int wa, .int wf])), (e0, .inl (cA, 33000, .inl (E))), (v0, .inl (cA, 66000, .inl (V))), (l0, .inl (cA, 200000, .inl (L))), (b0, .inl (cA, 15, .inl (B)))]) [9, 0, 1, 2, 3, 4, 5, 10, 11, 12, 6, 7, 8, 13, 14, 15, 16, 17] (by decide) rfl ?_
        refine x_lv (lv' := [(3, .int (nI i)), (2, .ref hM), (1, .ref hB), (0, .ref b)]) (Or.inr (List.forall_mem_cons.mpr ⟨rfl, List.forall_mem_cons.mpr ⟨rfl, List.forall_mem_cons.mpr ⟨rfl, List.forall_mem_cons.mpr ⟨rfl, fun _ h9 => absurd h9 List.not_mem_nil⟩⟩⟩⟩)) ?_
        exact NEXT (hI0.next hq)
      · exact absurd rfl c207
    · obtain ⟨st0, zA, zB, rfl⟩ : ∃ st0 zA zB, st = st0 ++ [zA] ++ [zB] := by
        rcases List.eq_nil_or_concat st with rfl | ⟨st1, zB, rfl⟩
        · simp at hks
          omega
        · rcases List.eq_nil_or_concat st1 with rfl | ⟨st0, zA, rfl⟩
          · simp at hks
            omega
          · exact ⟨st0, zA, zB, by simp⟩
      have hks0 : ks = st0.length + 2 := by rw [← hks]; simp
      subst hks0
      have hS1 := hS
      rw [kT_snoc, kT_snoc] at hS1
      have h11 : st0.length + 2 ≤ 12 := by simpa using h12
      have hO1 : Ok en rn st0 := fun y hy => hO y (by simp [hy])
      have hsA : sup n zA.1 := hsS zA (by simp)
      have hsB : sup n zB.1 := hsS zB (by simp)
      have hfe := f3_eq (op := op) hn hsA hsB ho
      have hsC : sup n (fun r => jbb op (zA.1 r) (zB.1 r)) := by
        rw [← hfe]
        intro r hr
        unfold f3
        rw [hn]
        have h9 : ¬ r < n := by omega
        simp [h9]
      have hk1 : (kT n st0).length + 2 = st0.length + 2 := by rw [kT_len]
      by_cases hfull : 3000 < tot (kT n st0) + (wI n (fun r => jbb op (zA.1 r) (zB.1 r))).length
      · refine x_aload_n C d_L_law_189 rfl rfl ?_
        refine x_aload_n C d_L_law_190 rfl rfl ?_
        refine x_iload_n C d_L_law_191 rfl rfl ?_
        refine x_iconst (v := (nI (1))) C d_L_law_192 (by decide) ?_
        refine x_iaddN C d_L_law_193  ?_
        refine x_sld C hX hbl hbA (by omega) (by omega) d_L_law_194 ?_
        refine x_top (y := (nI (op))) hxe ?_
        refine x_callVI (wr := [(c0, .inr (0, [.ref c01, .ref c02, .int (nI 32)])), (c01, .inl (cA, 2096, .inl (Lc))), (c02, .inl (cA, 33, .inl (Bc))), (d0, .inr (0, [.ref d01, .ref d02, .int (nI kd)])), (d01, .inl (cA, 2096, .inl (Ld))), (d02, .inl (cA, 33, .inl (Bd))), (hM, .inr (2, [.ref e0, .ref v0, .int (nI rn), .ref l0, .ref b0, .int (nI (st0.length + 2)), .int pl, .int sn, .int wa, .int wf])), (e0, .inl (cA, 33000, .inl (E))), (v0, .inl (cA, 66000, .inl (V))), (l0, .inl (cA, 200000, .inl (L))), (b0, .inl (cA, 15, .inl (B)))]) (rest := []) C (c_B_join_full hS1 hk1 hR hkr ho hn9 hfull) d_L_law_195 cd_B_join lk_L_28 dd_B_join rfl ⟨Nat.le_of_ble_eq_true rfl, Nat.le_of_ble_eq_true rfl⟩ ⟨Nat.le_of_ble_eq_true rfl, Nat.le_of_ble_eq_true rfl⟩ 1 0 rfl rfl [0, 7, 8, 9, 10, 11, 12] [1, 2, 3, 4, 5, 6, 13, 14, 15, 16, 17] rfl rfl (by decide) (by decide) (by decide) rfl (Nat.le_of_ble_eq_true rfl) ?_
        intro r_ u8 hp_
        obtain ⟨rfl, hR8⟩ := hp_
        refine x_aload_n C d_L_law_198 rfl rfl ?_
        refine x_aload_n C d_L_law_199 rfl rfl ?_
        refine x_iload_n C d_L_law_200 rfl rfl ?_
        refine x_iconst (v := (nI (1))) C d_L_law_201 (by decide) ?_
        refine x_iaddN C d_L_law_202  ?_
        refine x_sld C hX hbl hbA (by omega) (by omega) d_L_law_203 ?_
        refine x_top (y := (nI (op))) hxe ?_
        refine x_callVI (wr := [(c0, .inr (0, [.ref c01, .ref c02, .int (nI 32)])), (c01, .inl (cA, 2096, .inl (Lc))), (c02, .inl (cA, 33, .inl (Bc))), (d0, .inr (0, [.ref d01, .ref d02, .int (nI kd)])), (d01, .inl (cA, 2096, .inl (Ld))), (d02, .inl (cA, 33, .inl (Bd))), (hB, .inr (1, [.ref c0, .ref d0, .ref s0, .ref r0, .int (nI n)])), (s0, .inr (0, [.ref s01, .ref s02, .int (nI (st0.length + 2))])), (s01, .inl (cA, 3000, .inl (Ls))), (s02, .inl (cA, 13, .inl (Bs))), (r0, .inr (0, [.ref r01, .ref r02, .int (nI 1)])), (r01, .inl (cA, 3001, .inl (u8.1))), (r02, .inl (cA, 2, .inl (u8.2)))]) (rest := [.int ((-3))]) C (c_M_join_full (pA := zA) (pB := zB) hE hn hO hL rfl ho h11 (by rw [hfe]; exact hfull)) d_L_law_204 cd_M_join lk_L_32 dd_M_join rfl ⟨Nat.le_of_ble_eq_true rfl, Nat.le_of_ble_eq_true rfl⟩ ⟨Nat.le_of_ble_eq_true rfl, Nat.le_of_ble_eq_true rfl⟩ 2 0 rfl rfl [6, 7, 8, 9, 10] [0, 1, 2, 3, 4, 5, 11, 12, 13, 14, 15, 16, 17] rfl rfl (by decide) (by decide) (by decide) rfl (Nat.le_of_ble_eq_true rfl) ?_
        intro r_ u9 hp_
        obtain ⟨rfl, hL9⟩ := hp_
        refine x_icmp_eq (tgt := 349) C d_L_law_207 (by decide)  (fun c207 => ?_) (fun c207 => ?_)
        · refine x_perm (ws' := [(hB, .inr (1, [.ref c0, .ref d0, .ref s0, .ref r0, .int (nI n)])), (c0, .inr (0, [.ref c01, .ref c02, .int (nI 32)])), (c01, .inl (cA, 2096, .inl (Lc))), (c02, .inl (cA, 33, .inl (Bc))), (d0, .inr (0, [.ref d01, .ref d02, .int (nI kd)])), (d01, .inl (cA, 2096, .inl (Ld))), (d02, .inl (cA, 33, .inl (Bd))), (s0, .inr (0, [.ref s01, .ref s02, .int (nI (st0.length + 2))])), (s01, .inl (cA, 3000, .inl (Ls))), (s02, .inl (cA, 13, .inl (Bs))), (r0, .inr (0, [.ref r01, .ref r02, .int (nI 1)])), (r01, .inl (cA, 3001, .inl (u8.1))), (r02, .inl (cA, 2, .inl (u8.2))), (hM, .inr (2, [.ref e0, .ref v0, .int (nI rn), .ref l0, .ref b0, .int (nI (st0.length + 2)), .int (u9.2.1), .int (u9.2.2.1), .int (u9.2.2.2.1), .int (u9.2.2.2.2)])), (e0, .inl (cA, 33000, .inl (E))), (v0, .inl (cA, 66000, .inl (V))), (l0, .inl (cA, 200000, .inl (u9.1))), (b0, .inl (cA, 15, .inl (B)))]) [6, 0, 1, 2, 3, 4, 5, 7, 8, 9, 10, 11, 12, 13, 14, 15, 16, 17] (by decide) rfl ?_
          refine x_lv (lv' := [(3, .int (nI i)), (2, .ref hM), (1, .ref hB), (0, .ref b)]) (Or.inr (List.forall_mem_cons.mpr ⟨rfl, List.forall_mem_cons.mpr ⟨rfl, List.forall_mem_cons.mpr ⟨rfl, List.forall_mem_cons.mpr ⟨rfl, fun _ h9 => absurd h9 List.not_mem_nil⟩⟩⟩⟩)) ?_
          exact NEXT (⟨hC, hD, hkd, hS, hR8, rfl, hE, hn, by omega, hO, hL9, h12, ht, hn9, hsF, hsS, hq, hks⟩)
        · exact absurd rfl c207
      · refine x_aload_n C d_L_law_189 rfl rfl ?_
        refine x_aload_n C d_L_law_190 rfl rfl ?_
        refine x_iload_n C d_L_law_191 rfl rfl ?_
        refine x_iconst (v := (nI (1))) C d_L_law_192 (by decide) ?_
        refine x_iaddN C d_L_law_193  ?_
        refine x_sld C hX hbl hbA (by omega) (by omega) d_L_law_194 ?_
        refine x_top (y := (nI (op))) hxe ?_
        refine x_callVI (wr := [(c0, .inr (0, [.ref c01, .ref c02, .int (nI 32)])), (c01, .inl (cA, 2096, .inl (Lc))), (c02, .inl (cA, 33, .inl (Bc))), (d0, .inr (0, [.ref d01, .ref d02, .int (nI kd)])), (d01, .inl (cA, 2096, .inl (Ld))), (d02, .inl (cA, 33, .inl (Bd))), (hM, .inr (2, [.ref e0, .ref v0, .int (nI rn), .ref l0, .ref b0, .int (nI (st0.length + 2)), .int pl, .int sn, .int wa, .int wf])), (e0, .inl (cA, 33000, .inl (E))), (v0, .inl (cA, 66000, .inl (V))), (l0, .inl (cA, 200000, .inl (L))), (b0, .inl (cA, 15, .inl (B)))]) (rest := []) C (c_B_join hS1 hk1 hR hkr ho hn9 (by omega)) d_L_law_195 cd_B_join lk_L_28 dd_B_join rfl ⟨Nat.le_of_ble_eq_true rfl, Nat.le_of_ble_eq_true rfl⟩ ⟨Nat.le_of_ble_eq_true rfl, Nat.le_of_ble_eq_true rfl⟩ 1 0 rfl rfl [0, 7, 8, 9, 10, 11, 12] [1, 2, 3, 4, 5, 6, 13, 14, 15, 16, 17] rfl rfl (by decide) (by decide) (by decide) rfl (Nat.le_of_ble_eq_true rfl) ?_
        intro r_ u8 hp_
        obtain ⟨rfl, hA8, hR8⟩ := hp_
        rw [kT_len]
        refine x_aload_n C d_L_law_198 rfl rfl ?_
        refine x_aload_n C d_L_law_199 rfl rfl ?_
        refine x_iload_n C d_L_law_200 rfl rfl ?_
        refine x_iconst (v := (nI (1))) C d_L_law_201 (by decide) ?_
        refine x_iaddN C d_L_law_202  ?_
        refine x_sld C hX hbl hbA (by omega) (by omega) d_L_law_203 ?_
        refine x_top (y := (nI (op))) hxe ?_
        refine x_callVI (wr := [(c0, .inr (0, [.ref c01, .ref c02, .int (nI 32)])), (c01, .inl (cA, 2096, .inl (Lc))), (c02, .inl (cA, 33, .inl (Bc))), (d0, .inr (0, [.ref d01, .ref d02, .int (nI kd)])), (d01, .inl (cA, 2096, .inl (Ld))), (d02, .inl (cA, 33, .inl (Bd))), (hB, .inr (1, [.ref c0, .ref d0, .ref s0, .ref r0, .int (nI n)])), (s0, .inr (0, [.ref s01, .ref s02, .int (nI (st0.length + 1))])), (s01, .inl (cA, 3000, .inl (u8.1.1))), (s02, .inl (cA, 13, .inl (u8.1.2))), (r0, .inr (0, [.ref r01, .ref r02, .int (nI 1)])), (r01, .inl (cA, 3001, .inl (u8.2.1))), (r02, .inl (cA, 2, .inl (u8.2.2)))]) (rest := [.int (nI (st0.length + 1))]) C (c_M_join (pA := zA) (pB := zB) hE hn hO hL rfl ho h11 (by rw [hfe]; omega)) d_L_law_204 cd_M_join lk_L_32 dd_M_join rfl ⟨Nat.le_of_ble_eq_true rfl, Nat.le_of_ble_eq_true rfl⟩ ⟨Nat.le_of_ble_eq_true rfl, Nat.le_of_ble_eq_true rfl⟩ 2 0 rfl rfl [6, 7, 8, 9, 10] [0, 1, 2, 3, 4, 5, 11, 12, 13, 14, 15, 16, 17] rfl rfl (by decide) (by decide) (by decide) rfl (Nat.le_of_ble_eq_true rfl) ?_
        intro r_ u9 hp_
        obtain ⟨rfl, J9, hJ9, hH9⟩ := hp_
        refine x_icmp_eq (tgt := 349) C d_L_law_207 (by decide)  (fun c207 => ?_) (fun c207 => ?_)
        · refine x_perm (ws' := [(hB, .inr (1, [.ref c0, .ref d0, .ref s0, .ref r0, .int (nI n)])), (c0, .inr (0, [.ref c01, .ref c02, .int (nI 32)])), (c01, .inl (cA, 2096, .inl (Lc))), (c02, .inl (cA, 33, .inl (Bc))), (d0, .inr (0, [.ref d01, .ref d02, .int (nI kd)])), (d01, .inl (cA, 2096, .inl (Ld))), (d02, .inl (cA, 33, .inl (Bd))), (s0, .inr (0, [.ref s01, .ref s02, .int (nI (st0.length + 1))])), (s01, .inl (cA, 3000, .inl (u8.1.1))), (s02, .inl (cA, 13, .inl (u8.1.2))), (r0, .inr (0, [.ref r01, .ref r02, .int (nI 1)])), (r01, .inl (cA, 3001, .inl (u8.2.1))), (r02, .inl (cA, 2, .inl (u8.2.2))), (hM, .inr (2, [.ref e0, .ref v0, .int (nI rn), .ref l0, .ref b0, .int (nI (st0.length + 1)), .int (u9.2.2.1), .int (u9.2.2.2.1), .int (u9.2.2.2.2.1), .int (u9.2.2.2.2.2)])), (e0, .inl (cA, 33000, .inl (E))), (v0, .inl (cA, 66000, .inl (V))), (l0, .inl (cA, 200000, .inl (u9.1))), (b0, .inl (cA, 15, .inl (u9.2.1)))]) [6, 0, 1, 2, 3, 4, 5, 7, 8, 9, 10, 11, 12, 13, 14, 15, 16, 17] (by decide) rfl ?_
          refine x_lv (lv' := [(3, .int (nI i)), (2, .ref hM), (1, .ref hB), (0, .ref b)]) (Or.inr (List.forall_mem_cons.mpr ⟨rfl, List.forall_mem_cons.mpr ⟨rfl, List.forall_mem_cons.mpr ⟨rfl, List.forall_mem_cons.mpr ⟨rfl, fun _ h9 => absurd h9 List.not_mem_nil⟩⟩⟩⟩)) ?_
          exact NEXT (LInv.top (f := (fun r => jbb op (zA.1 r) (zB.1 r))) (J := J9) hI0 hq hO1 (by omega) (fun y hy => hsS y (by simp [hy])) hA8 hR8 (by rw [← hfe]; exact hJ9) hH9 hsC)
        · exact absurd rfl c207
set_option maxHeartbeats 8000000 in
theorem law_append {p : Program} {l : Launch} {e : Env} {s : State} {m : MethodId} {below : List Frame} {meth : Method} {c : Code} {D : va_G} {cA : ClassId} {b L0 : Nat} {xs : Nat → Int32} (hL0 : L0 ≤ 2048) (C : Cx p s m #[Value.ref b] meth c code 4 R_L D cA (fun q => s.heap.size ≤ q)) (hX : va_X b L0 xs s s.heap) (hbl : b < s.heap.size) {i q : Nat} (hi : i + 4 ≤ L0) (hq : q + 1 ≤ 512) (NEXT : Cont p l e s m below meth c D cA b i q) {hB hM c0 c01 c02 d0 d01 d02 s0 s01 s02 r0 r01 r02 n kd kr e0 v0 l0 b0 rn ks : Nat} {Lc Bc Ld Bd Ls Bs Lr Br E V L B : Nat → Int32} {pl sn wa wf : Int32} {dd rr : List (List Int32)} {en : Nat → Nat} {vl : Nat → Nat → Nat} {st : List ((Nat → Bool) × List (Nat × Nat))} (hI : LInv n Lc Bc Ld Bd Ls Bs Lr Br kd kr dd rr E V L B rn en vl st ks q) : XL p l e s m below meth c D b [(hB, .inr (1, [.ref c0, .ref d0, .ref s0, .ref r0, .int (nI n)])), (c0, .inr (0, [.ref c01, .ref c02, .int (nI 32)])), (c01, .inl (cA, 2096, .inl (Lc))), (c02, .inl (cA, 33, .inl (Bc))), (d0, .inr (0, [.ref d01, .ref d02, .int (nI kd)])), (d01, .inl (cA, 2096, .inl (Ld))), (d02, .inl (cA, 33, .inl (Bd))), (s0, .inr (0, [.ref s01, .ref s02, .int (nI ks)])), (s01, .inl (cA, 3000, .inl (Ls))), (s02, .inl (cA, 13, .inl (Bs))), (r0, .inr (0, [.ref r01, .ref r02, .int (nI kr)])), (r01, .inl (cA, 3001, .inl (Lr))), (r02, .inl (cA, 2, .inl (Br))), (hM, .inr (2, [.ref e0, .ref v0, .int (nI rn), .ref l0, .ref b0, .int (nI ks), .int pl, .int sn, .int wa, .int wf])), (e0, .inl (cA, 33000, .inl (E))), (v0, .inl (cA, 66000, .inl (V))), (l0, .inl (cA, 200000, .inl (L))), (b0, .inl (cA, 15, .inl (B)))] 100 [(3, .int (nI i)), (2, .ref hM), (1, .ref hB), (0, .ref b)] [] := by
  have hbA : ¬ (fun q => s.heap.size ≤ q) b := Nat.not_le.mpr hbl
  have hI0 := hI
  obtain ⟨hC, hD, hkd, hS, hR, hkr, hE, hn, hrq, hO, hL, h12, ht, hn9, hsF, hsS, hq5, hks⟩ := hI
  by_cases hb : (xs (i + 1) < 0 ∨ nI 16 ≤ xs (i + 1)) ∨ (xs (i + 2) < 0 ∨ nI 16 ≤ xs (i + 2)) ∨ xs (i + 3) < nI 1 ∨ nI 1000000 < xs (i + 3)
  · have hb2 : (xs (i + 1) < 0 ∨ nI 15 < xs (i + 1)) ∨ (xs (i + 2) < 0 ∨ nI 15 < xs (i + 2)) ∨ xs (i + 3) < nI 1 ∨ nI 1000000 < xs (i + 3) := by rw [← in_16, ← in_16]; exact hb
    refine x_aload_n C d_L_law_100 rfl rfl ?_
    refine x_aload_n C d_L_law_101 rfl rfl ?_
    refine x_iload_n C d_L_law_102 rfl rfl ?_
    refine x_iconst (v := (nI (1))) C d_L_law_103 (by decide) ?_
    refine x_iaddN C d_L_law_104  ?_
    refine x_sld C hX hbl hbA (by omega) (by omega) d_L_law_105 ?_
    refine x_aload_n C d_L_law_106 rfl rfl ?_
    refine x_iload_n C d_L_law_107 rfl rfl ?_
    refine x_iconst (v := (nI (2))) C d_L_law_108 (by decide) ?_
    refine x_iaddN C d_L_law_109  ?_
    refine x_sld C hX hbl hbA (by omega) (by omega) d_L_law_110 ?_
    refine x_aload_n C d_L_law_111 rfl rfl ?_
    refine x_iload_n C d_L_law_112 rfl rfl ?_
    refine x_iconst (v := (nI (3))) C d_L_law_113 (by decide) ?_
    refine x_iaddN C d_L_law_114  ?_
    refine x_sld C hX hbl hbA (by omega) (by omega) d_L_law_115 ?_
    refine x_callVI (wr := [(c0, .inr (0, [.ref c01, .ref c02, .int (nI 32)])), (c01, .inl (cA, 2096, .inl (Lc))), (c02, .inl (cA, 33, .inl (Bc))), (d0, .inr (0, [.ref d01, .ref d02, .int (nI kd)])), (d01, .inl (cA, 2096, .inl (Ld))), (d02, .inl (cA, 33, .inl (Bd))), (s0, .inr (0, [.ref s01, .ref s02, .int (nI ks)])), (s01, .inl (cA, 3000, .inl (Ls))), (s02, .inl (cA, 13, .inl (Bs))), (r0, .inr (0, [.ref r01, .ref r02, .int (nI kr)])), (r01, .inl (cA, 3001, .inl (Lr))), (r02, .inl (cA, 2, .inl (Br))), (hM, .inr (2, [.ref e0, .ref v0, .int (nI rn), .ref l0, .ref b0, .int (nI ks), .int pl, .int sn, .int wa, .int wf])), (e0, .inl (cA, 33000, .inl (E))), (v0, .inl (cA, 66000, .inl (V))), (l0, .inl (cA, 200000, .inl (L))), (b0, .inl (cA, 15, .inl (B)))]) (rest := []) C (c_B_append_bad hb) d_L_law_116 cd_B_append lk_L_13 dd_B_append rfl ⟨Nat.le_of_ble_eq_true rfl, Nat.le_of_ble_eq_true rfl⟩ ⟨Nat.le_of_ble_eq_true rfl, Nat.le_of_ble_eq_true rfl⟩ 1 0 rfl rfl [0] [1, 2, 3, 4, 5, 6, 7, 8, 9, 10, 11, 12, 13, 14, 15, 16, 17] rfl rfl (by decide) (by decide) (by decide) rfl (Nat.le_of_ble_eq_true rfl) ?_
    intro r_ u_ hp_
    obtain rfl := hp_
    refine x_aload_n C d_L_law_119 rfl rfl ?_
    refine x_aload_n C d_L_law_120 rfl rfl ?_
    refine x_iload_n C d_L_law_121 rfl rfl ?_
    refine x_iconst (v := (nI (1))) C d_L_law_122 (by decide) ?_
    refine x_iaddN C d_L_law_123  ?_
    refine x_sld C hX hbl hbA (by omega) (by omega) d_L_law_124 ?_
    refine x_aload_n C d_L_law_125 rfl rfl ?_
    refine x_iload_n C d_L_law_126 rfl rfl ?_
    refine x_iconst (v := (nI (2))) C d_L_law_127 (by decide) ?_
    refine x_iaddN C d_L_law_128  ?_
    refine x_sld C hX hbl hbA (by omega) (by omega) d_L_law_129 ?_
    refine x_aload_n C d_L_law_130 rfl rfl ?_
    refine x_iload_n C d_L_law_131 rfl rfl ?_
    refine x_iconst (v := (nI (3))) C d_L_law_132 (by decide) ?_
    refine x_iaddN C d_L_law_133  ?_
    refine x_sld C hX hbl hbA (by omega) (by omega) d_L_law_134 ?_
    refine x_callVI (wr := [(c0, .inr (0, [.ref c01, .ref c02, .int (nI 32)])), (c01, .inl (cA, 2096, .inl (Lc))), (c02, .inl (cA, 33, .inl (Bc))), (d0, .inr (0, [.ref d01, .ref d02, .int (nI kd)])), (d01, .inl (cA, 2096, .inl (Ld))), (d02, .inl (cA, 33, .inl (Bd))), (s0, .inr (0, [.ref s01, .ref s02, .int (nI ks)])), (s01, .inl (cA, 3000, .inl (Ls))), (s02, .inl (cA, 13, .inl (Bs))), (r0, .inr (0, [.ref r01, .ref r02, .int (nI kr)])), (r01, .inl (cA, 3001, .inl (Lr))), (r02, .inl (cA, 2, .inl (Br))), (hB, .inr (1, [.ref c0, .ref d0, .ref s0, .ref r0, .int (nI n)]))]) (rest := [.int ((-1))]) C (c_M_append_bad hb2) d_L_law_135 cd_M_append lk_L_17 dd_M_append rfl ⟨Nat.le_of_ble_eq_true rfl, Nat.le_of_ble_eq_true rfl⟩ ⟨Nat.le_of_ble_eq_true rfl, Nat.le_of_ble_eq_true rfl⟩ 2 0 rfl rfl [12, 13, 14, 15, 16] [0, 1, 2, 3, 4, 5, 6, 7, 8, 9, 10, 11, 17] rfl rfl (by decide) (by decide) (by decide) rfl (Nat.le_of_ble_eq_true rfl) ?_
    intro r_ u_ hp_
    obtain rfl := hp_
    refine x_icmp_eq (tgt := 349) C d_L_law_138 (by decide)  (fun c138 => ?_) (fun c138 => ?_)
    · refine x_perm (ws' := [(hB, .inr (1, [.ref c0, .ref d0, .ref s0, .ref r0, .int (nI n)])), (c0, .inr (0, [.ref c01, .ref c02, .int (nI 32)])), (c01, .inl (cA, 2096, .inl (Lc))), (c02, .inl (cA, 33, .inl (Bc))), (d0, .inr (0, [.ref d01, .ref d02, .int (nI kd)])), (d01, .inl (cA, 2096, .inl (Ld))), (d02, .inl (cA, 33, .inl (Bd))), (s0, .inr (0, [.ref s01, .ref s02, .int (nI ks)])), (s01, .inl (cA, 3000, .inl (Ls))), (s02, .inl (cA, 13, .inl (Bs))), (r0, .inr (0, [.ref r01, .ref r02, .int (nI kr)])), (r01, .inl (cA, 3001, .inl (Lr))), (r02, .inl (cA, 2, .inl (Br))), (hM, .inr (2, [.ref e0, .ref v0, .int (nI rn), .ref l0, .ref b0, .int (nI ks), .int pl, .int sn, .int wa, .int wf])), (e0, .inl (cA, 33000, .inl (E))), (v0, .inl (cA, 66000, .inl (V))), (l0, .inl (cA, 200000, .inl (L))), (b0, .inl (cA, 15, .inl (B)))]) [12, 0, 1, 2, 3, 4, 5, 6, 7, 8, 9, 10, 11, 13, 14, 15, 16, 17] (by decide) rfl ?_
      refine x_lv (lv' := [(3, .int (nI i)), (2, .ref hM), (1, .ref hB), (0, .ref b)]) (Or.inr (List.forall_mem_cons.mpr ⟨rfl, List.forall_mem_cons.mpr ⟨rfl, List.forall_mem_cons.mpr ⟨rfl, List.forall_mem_cons.mpr ⟨rfl, fun _ h9 => absurd h9 List.not_mem_nil⟩⟩⟩⟩)) ?_
      exact NEXT (hI0.next hq)
    · exact absurd rfl c138
  · obtain ⟨a_, ha, hxe⟩ := nat_of (x := xs (i + 1)) (k := 16) (by omega) (fun w => hb (Or.inl (Or.inl w))) (fun w => hb (Or.inl (Or.inr w)))
    obtain ⟨b_, hb_, hye⟩ := nat_of (x := xs (i + 2)) (k := 16) (by omega) (fun w => hb (Or.inr (Or.inl (Or.inl w)))) (fun w => hb (Or.inr (Or.inl (Or.inr w))))
    have hz1 : ¬ xs (i + 3) < nI 1 := fun w => hb (Or.inr (Or.inr (Or.inl w)))
    have hz2 : ¬ nI 1000000 < xs (i + 3) := fun w => hb (Or.inr (Or.inr (Or.inr w)))
    obtain ⟨m_, hm0, hze⟩ := nI_of (x := xs (i + 3)) (fun w => hz1 (Int32.lt_of_lt_of_le w (nI_pos' (by omega))))
    have hm1 : 1 ≤ m_ := by
      rcases Nat.lt_or_ge m_ 1 with h9 | h9
      · exact absurd (by rw [hze]; exact nI_lt h9 (by omega)) hz1
      · exact h9
    have hm2 : m_ ≤ 1000000 := by
      rcases Nat.lt_or_ge 1000000 m_ with h9 | h9
      · exact absurd (by rw [hze]; exact nI_lt h9 hm0) hz2
      · exact h9
    by_cases hk0 : 0 < ks
    · refine x_aload_n C d_L_law_100 rfl rfl ?_
      refine x_aload_n C d_L_law_101 rfl rfl ?_
      refine x_iload_n C d_L_law_102 rfl rfl ?_
      refine x_iconst (v := (nI (1))) C d_L_law_103 (by decide) ?_
      refine x_iaddN C d_L_law_104  ?_
      refine x_sld C hX hbl hbA (by omega) (by omega) d_L_law_105 ?_
      refine x_top (y := (nI (a_))) hxe ?_
      refine x_aload_n C d_L_law_106 rfl rfl ?_
      refine x_iload_n C d_L_law_107 rfl rfl ?_
      refine x_iconst (v := (nI (2))) C d_L_law_108 (by decide) ?_
      refine x_iaddN C d_L_law_109  ?_
      refine x_sld C hX hbl hbA (by omega) (by omega) d_L_law_110 ?_
      refine x_top (y := (nI (b_))) hye ?_
      refine x_aload_n C d_L_law_111 rfl rfl ?_
      refine x_iload_n C d_L_law_112 rfl rfl ?_
      refine x_iconst (v := (nI (3))) C d_L_law_113 (by decide) ?_
      refine x_iaddN C d_L_law_114  ?_
      refine x_sld C hX hbl hbA (by omega) (by omega) d_L_law_115 ?_
      refine x_top (y := (nI (m_))) hze ?_
      refine x_callVI (wr := [(c0, .inr (0, [.ref c01, .ref c02, .int (nI 32)])), (c01, .inl (cA, 2096, .inl (Lc))), (c02, .inl (cA, 33, .inl (Bc))), (d0, .inr (0, [.ref d01, .ref d02, .int (nI kd)])), (d01, .inl (cA, 2096, .inl (Ld))), (d02, .inl (cA, 33, .inl (Bd))), (r0, .inr (0, [.ref r01, .ref r02, .int (nI kr)])), (r01, .inl (cA, 3001, .inl (Lr))), (r02, .inl (cA, 2, .inl (Br))), (hM, .inr (2, [.ref e0, .ref v0, .int (nI rn), .ref l0, .ref b0, .int (nI ks), .int pl, .int sn, .int wa, .int wf])), (e0, .inl (cA, 33000, .inl (E))), (v0, .inl (cA, 66000, .inl (V))), (l0, .inl (cA, 200000, .inl (L))), (b0, .inl (cA, 15, .inl (B)))]) (rest := []) C (c_B_append_busy ha hb_ hm1 hm2 hk0 (by omega)) d_L_law_116 cd_B_append lk_L_13 dd_B_append rfl ⟨Nat.le_of_ble_eq_true rfl, Nat.le_of_ble_eq_true rfl⟩ ⟨Nat.le_of_ble_eq_true rfl, Nat.le_of_ble_eq_true rfl⟩ 1 0 rfl rfl [0, 7, 8, 9] [1, 2, 3, 4, 5, 6, 10, 11, 12, 13, 14, 15, 16, 17] rfl rfl (by decide) (by decide) (by decide) rfl (Nat.le_of_ble_eq_true rfl) ?_
      intro r_ u_ hp_
      obtain rfl := hp_
      refine x_aload_n C d_L_law_119 rfl rfl ?_
      refine x_aload_n C d_L_law_120 rfl rfl ?_
      refine x_iload_n C d_L_law_121 rfl rfl ?_
      refine x_iconst (v := (nI (1))) C d_L_law_122 (by decide) ?_
      refine x_iaddN C d_L_law_123  ?_
      refine x_sld C hX hbl hbA (by omega) (by omega) d_L_law_124 ?_
      refine x_top (y := (nI (a_))) hxe ?_
      refine x_aload_n C d_L_law_125 rfl rfl ?_
      refine x_iload_n C d_L_law_126 rfl rfl ?_
      refine x_iconst (v := (nI (2))) C d_L_law_127 (by decide) ?_
      refine x_iaddN C d_L_law_128  ?_
      refine x_sld C hX hbl hbA (by omega) (by omega) d_L_law_129 ?_
      refine x_top (y := (nI (b_))) hye ?_
      refine x_aload_n C d_L_law_130 rfl rfl ?_
      refine x_iload_n C d_L_law_131 rfl rfl ?_
      refine x_iconst (v := (nI (3))) C d_L_law_132 (by decide) ?_
      refine x_iaddN C d_L_law_133  ?_
      refine x_sld C hX hbl hbA (by omega) (by omega) d_L_law_134 ?_
      refine x_top (y := (nI (m_))) hze ?_
      refine x_callVI (wr := [(c0, .inr (0, [.ref c01, .ref c02, .int (nI 32)])), (c01, .inl (cA, 2096, .inl (Lc))), (c02, .inl (cA, 33, .inl (Bc))), (d0, .inr (0, [.ref d01, .ref d02, .int (nI kd)])), (d01, .inl (cA, 2096, .inl (Ld))), (d02, .inl (cA, 33, .inl (Bd))), (r0, .inr (0, [.ref r01, .ref r02, .int (nI kr)])), (r01, .inl (cA, 3001, .inl (Lr))), (r02, .inl (cA, 2, .inl (Br))), (hB, .inr (1, [.ref c0, .ref d0, .ref s0, .ref r0, .int (nI n)])), (s0, .inr (0, [.ref s01, .ref s02, .int (nI ks)])), (s01, .inl (cA, 3000, .inl (Ls))), (s02, .inl (cA, 13, .inl (Bs)))]) (rest := [.int ((-2))]) C (c_M_append_busy ha hb_ hm1 hm2 hk0 (by omega)) d_L_law_135 cd_M_append lk_L_17 dd_M_append rfl ⟨Nat.le_of_ble_eq_true rfl, Nat.le_of_ble_eq_true rfl⟩ ⟨Nat.le_of_ble_eq_true rfl, Nat.le_of_ble_eq_true rfl⟩ 2 0 rfl rfl [9, 10, 11, 12, 13] [0, 1, 2, 3, 4, 5, 6, 7, 8, 14, 15, 16, 17] rfl rfl (by decide) (by decide) (by decide) rfl (Nat.le_of_ble_eq_true rfl) ?_
      intro r_ u_ hp_
      obtain rfl := hp_
      refine x_icmp_eq (tgt := 349) C d_L_law_138 (by decide)  (fun c138 => ?_) (fun c138 => ?_)
      · refine x_perm (ws' := [(hB, .inr (1, [.ref c0, .ref d0, .ref s0, .ref r0, .int (nI n)])), (c0, .inr (0, [.ref c01, .ref c02, .int (nI 32)])), (c01, .inl (cA, 2096, .inl (Lc))), (c02, .inl (cA, 33, .inl (Bc))), (d0, .inr (0, [.ref d01, .ref d02, .int (nI kd)])), (d01, .inl (cA, 2096, .inl (Ld))), (d02, .inl (cA, 33, .inl (Bd))), (s0, .inr (0, [.ref s01, .ref s02, .int (nI ks)])), (s01, .inl (cA, 3000, .inl (Ls))), (s02, .inl (cA, 13, .inl (Bs))), (r0, .inr (0, [.ref r01, .ref r02, .int (nI kr)])), (r01, .inl (cA, 3001, .inl (Lr))), (r02, .inl (cA, 2, .inl (Br))), (hM, .inr (2, [.ref e0, .ref v0, .int (nI rn), .ref l0, .ref b0, .int (nI ks), .int pl, .int sn, .int wa, .int wf])), (e0, .inl (cA, 33000, .inl (E))), (v0, .inl (cA, 66000, .inl (V))), (l0, .inl (cA, 200000, .inl (L))), (b0, .inl (cA, 15, .inl (B)))]) [9, 0, 1, 2, 3, 4, 5, 10, 11, 12, 6, 7, 8, 13, 14, 15, 16, 17] (by decide) rfl ?_
        refine x_lv (lv' := [(3, .int (nI i)), (2, .ref hM), (1, .ref hB), (0, .ref b)]) (Or.inr (List.forall_mem_cons.mpr ⟨rfl, List.forall_mem_cons.mpr ⟨rfl, List.forall_mem_cons.mpr ⟨rfl, List.forall_mem_cons.mpr ⟨rfl, fun _ h9 => absurd h9 List.not_mem_nil⟩⟩⟩⟩)) ?_
        exact NEXT (hI0.next hq)
      · exact absurd rfl c138
    · have hks0 : ks = 0 := by omega
      subst hks0
      have hst0 : st = [] := List.eq_nil_of_length_eq_zero hks
      subst hst0
      by_cases hmany : 1000000 < n + m_
      · refine x_aload_n C d_L_law_100 rfl rfl ?_
        refine x_aload_n C d_L_law_101 rfl rfl ?_
        refine x_iload_n C d_L_law_102 rfl rfl ?_
        refine x_iconst (v := (nI (1))) C d_L_law_103 (by decide) ?_
        refine x_iaddN C d_L_law_104  ?_
        refine x_sld C hX hbl hbA (by omega) (by omega) d_L_law_105 ?_
        refine x_top (y := (nI (a_))) hxe ?_
        refine x_aload_n C d_L_law_106 rfl rfl ?_
        refine x_iload_n C d_L_law_107 rfl rfl ?_
        refine x_iconst (v := (nI (2))) C d_L_law_108 (by decide) ?_
        refine x_iaddN C d_L_law_109  ?_
        refine x_sld C hX hbl hbA (by omega) (by omega) d_L_law_110 ?_
        refine x_top (y := (nI (b_))) hye ?_
        refine x_aload_n C d_L_law_111 rfl rfl ?_
        refine x_iload_n C d_L_law_112 rfl rfl ?_
        refine x_iconst (v := (nI (3))) C d_L_law_113 (by decide) ?_
        refine x_iaddN C d_L_law_114  ?_
        refine x_sld C hX hbl hbA (by omega) (by omega) d_L_law_115 ?_
        refine x_top (y := (nI (m_))) hze ?_
        refine x_callVI (wr := [(c0, .inr (0, [.ref c01, .ref c02, .int (nI 32)])), (c01, .inl (cA, 2096, .inl (Lc))), (c02, .inl (cA, 33, .inl (Bc))), (d0, .inr (0, [.ref d01, .ref d02, .int (nI kd)])), (d01, .inl (cA, 2096, .inl (Ld))), (d02, .inl (cA, 33, .inl (Bd))), (r0, .inr (0, [.ref r01, .ref r02, .int (nI kr)])), (r01, .inl (cA, 3001, .inl (Lr))), (r02, .inl (cA, 2, .inl (Br))), (hM, .inr (2, [.ref e0, .ref v0, .int (nI rn), .ref l0, .ref b0, .int (nI 0), .int pl, .int sn, .int wa, .int wf])), (e0, .inl (cA, 33000, .inl (E))), (v0, .inl (cA, 66000, .inl (V))), (l0, .inl (cA, 200000, .inl (L))), (b0, .inl (cA, 15, .inl (B)))]) (rest := []) C (c_B_append_many ha hb_ hm1 hm2 hn9 hmany) d_L_law_116 cd_B_append lk_L_13 dd_B_append rfl ⟨Nat.le_of_ble_eq_true rfl, Nat.le_of_ble_eq_true rfl⟩ ⟨Nat.le_of_ble_eq_true rfl, Nat.le_of_ble_eq_true rfl⟩ 1 0 rfl rfl [0, 7, 8, 9] [1, 2, 3, 4, 5, 6, 10, 11, 12, 13, 14, 15, 16, 17] rfl rfl (by decide) (by decide) (by decide) rfl (Nat.le_of_ble_eq_true rfl) ?_
        intro r_ u_ hp_
        obtain rfl := hp_
        refine x_aload_n C d_L_law_119 rfl rfl ?_
        refine x_aload_n C d_L_law_120 rfl rfl ?_
        refine x_iload_n C d_L_law_121 rfl rfl ?_
        refine x_iconst (v := (nI (1))) C d_L_law_122 (by decide) ?_
        refine x_iaddN C d_L_law_123  ?_
        refine x_sld C hX hbl hbA (by omega) (by omega) d_L_law_124 ?_
        refine x_top (y := (nI (a_))) hxe ?_
        refine x_aload_n C d_L_law_125 rfl rfl ?_
        refine x_iload_n C d_L_law_126 rfl rfl ?_
        refine x_iconst (v := (nI (2))) C d_L_law_127 (by decide) ?_
        refine x_iaddN C d_L_law_128  ?_
        refine x_sld C hX hbl hbA (by omega) (by omega) d_L_law_129 ?_
        refine x_top (y := (nI (b_))) hye ?_
        refine x_aload_n C d_L_law_130 rfl rfl ?_
        refine x_iload_n C d_L_law_131 rfl rfl ?_
        refine x_iconst (v := (nI (3))) C d_L_law_132 (by decide) ?_
        refine x_iaddN C d_L_law_133  ?_
        refine x_sld C hX hbl hbA (by omega) (by omega) d_L_law_134 ?_
        refine x_top (y := (nI (m_))) hze ?_
        refine x_callVI (wr := [(c0, .inr (0, [.ref c01, .ref c02, .int (nI 32)])), (c01, .inl (cA, 2096, .inl (Lc))), (c02, .inl (cA, 33, .inl (Bc))), (d0, .inr (0, [.ref d01, .ref d02, .int (nI kd)])), (d01, .inl (cA, 2096, .inl (Ld))), (d02, .inl (cA, 33, .inl (Bd))), (r0, .inr (0, [.ref r01, .ref r02, .int (nI kr)])), (r01, .inl (cA, 3001, .inl (Lr))), (r02, .inl (cA, 2, .inl (Br))), (hB, .inr (1, [.ref c0, .ref d0, .ref s0, .ref r0, .int (nI n)])), (s0, .inr (0, [.ref s01, .ref s02, .int (nI 0)])), (s01, .inl (cA, 3000, .inl (Ls))), (s02, .inl (cA, 13, .inl (Bs)))]) (rest := [.int ((-3))]) C (c_M_append_many hE hn ha hb_ hm1 hm2 hmany) d_L_law_135 cd_M_append lk_L_17 dd_M_append rfl ⟨Nat.le_of_ble_eq_true rfl, Nat.le_of_ble_eq_true rfl⟩ ⟨Nat.le_of_ble_eq_true rfl, Nat.le_of_ble_eq_true rfl⟩ 2 0 rfl rfl [9, 10, 11, 12, 13] [0, 1, 2, 3, 4, 5, 6, 7, 8, 14, 15, 16, 17] rfl rfl (by decide) (by decide) (by decide) rfl (Nat.le_of_ble_eq_true rfl) ?_
        intro r_ u_ hp_
        obtain rfl := hp_
        refine x_icmp_eq (tgt := 349) C d_L_law_138 (by decide)  (fun c138 => ?_) (fun c138 => ?_)
        · refine x_perm (ws' := [(hB, .inr (1, [.ref c0, .ref d0, .ref s0, .ref r0, .int (nI n)])), (c0, .inr (0, [.ref c01, .ref c02, .int (nI 32)])), (c01, .inl (cA, 2096, .inl (Lc))), (c02, .inl (cA, 33, .inl (Bc))), (d0, .inr (0, [.ref d01, .ref d02, .int (nI kd)])), (d01, .inl (cA, 2096, .inl (Ld))), (d02, .inl (cA, 33, .inl (Bd))), (s0, .inr (0, [.ref s01, .ref s02, .int (nI 0)])), (s01, .inl (cA, 3000, .inl (Ls))), (s02, .inl (cA, 13, .inl (Bs))), (r0, .inr (0, [.ref r01, .ref r02, .int (nI kr)])), (r01, .inl (cA, 3001, .inl (Lr))), (r02, .inl (cA, 2, .inl (Br))), (hM, .inr (2, [.ref e0, .ref v0, .int (nI rn), .ref l0, .ref b0, .int (nI 0), .int pl, .int sn, .int wa, .int wf])), (e0, .inl (cA, 33000, .inl (E))), (v0, .inl (cA, 66000, .inl (V))), (l0, .inl (cA, 200000, .inl (L))), (b0, .inl (cA, 15, .inl (B)))]) [9, 0, 1, 2, 3, 4, 5, 10, 11, 12, 6, 7, 8, 13, 14, 15, 16, 17] (by decide) rfl ?_
          refine x_lv (lv' := [(3, .int (nI i)), (2, .ref hM), (1, .ref hB), (0, .ref b)]) (Or.inr (List.forall_mem_cons.mpr ⟨rfl, List.forall_mem_cons.mpr ⟨rfl, List.forall_mem_cons.mpr ⟨rfl, List.forall_mem_cons.mpr ⟨rfl, fun _ h9 => absurd h9 List.not_mem_nil⟩⟩⟩⟩)) ?_
          exact NEXT (hI0.next hq)
        · exact absurd rfl c138
      · have hF0 : ∀ v, v < 16 → (apF en vl rn n m_ a_ b_) v = addr (FM en vl rn v) n m_ (decide (v = a_)) := by
          intro v hv
          unfold apF
          rw [show v % 16 = v by omega, if_pos (show v / 16 = 0 by omega)]
        have hF1 : ∀ v, v < 16 → (apF en vl rn n m_ a_ b_) (16 + v) = addr (FM en vl rn (16 + v)) n m_ (decide (v = b_)) := by
          intro v hv
          unfold apF
          rw [show (16 + v) % 16 = v by omega, if_neg (show ¬ (16 + v) / 16 = 0 by omega)]
        by_cases hw : tot (cS (n + m_) (apF en vl rn n m_ a_ b_) 32) ≤ 2000
        · refine x_aload_n C d_L_law_100 rfl rfl ?_
          refine x_aload_n C d_L_law_101 rfl rfl ?_
          refine x_iload_n C d_L_law_102 rfl rfl ?_
          refine x_iconst (v := (nI (1))) C d_L_law_103 (by decide) ?_
          refine x_iaddN C d_L_law_104  ?_
          refine x_sld C hX hbl hbA (by omega) (by omega) d_L_law_105 ?_
          refine x_top (y := (nI (a_))) hxe ?_
          refine x_aload_n C d_L_law_106 rfl rfl ?_
          refine x_iload_n C d_L_law_107 rfl rfl ?_
          refine x_iconst (v := (nI (2))) C d_L_law_108 (by decide) ?_
          refine x_iaddN C d_L_law_109  ?_
          refine x_sld C hX hbl hbA (by omega) (by omega) d_L_law_110 ?_
          refine x_top (y := (nI (b_))) hye ?_
          refine x_aload_n C d_L_law_111 rfl rfl ?_
          refine x_iload_n C d_L_law_112 rfl rfl ?_
          refine x_iconst (v := (nI (3))) C d_L_law_113 (by decide) ?_
          refine x_iaddN C d_L_law_114  ?_
          refine x_sld C hX hbl hbA (by omega) (by omega) d_L_law_115 ?_
          refine x_top (y := (nI (m_))) hze ?_
          refine x_callVI (wr := [(r0, .inr (0, [.ref r01, .ref r02, .int (nI kr)])), (r01, .inl (cA, 3001, .inl (Lr))), (r02, .inl (cA, 2, .inl (Br))), (hM, .inr (2, [.ref e0, .ref v0, .int (nI rn), .ref l0, .ref b0, .int (nI 0), .int pl, .int sn, .int wa, .int wf])), (e0, .inl (cA, 33000, .inl (E))), (v0, .inl (cA, 66000, .inl (V))), (l0, .inl (cA, 200000, .inl (L))), (b0, .inl (cA, 15, .inl (B)))]) (rest := []) C (c_B_append (F' := (apF en vl rn n m_ a_ b_)) ha hb_ hm1 (by omega) hC hD hkd hF0 hF1 hsF ht hw) d_L_law_116 cd_B_append lk_L_13 dd_B_append rfl ⟨Nat.le_of_ble_eq_true rfl, Nat.le_of_ble_eq_true rfl⟩ ⟨Nat.le_of_ble_eq_true rfl, Nat.le_of_ble_eq_true rfl⟩ 1 0 rfl rfl [0, 7, 8, 9, 1, 2, 3, 4, 5, 6] [10, 11, 12, 13, 14, 15, 16, 17] rfl rfl (by decide) (by decide) (by decide) rfl (Nat.le_of_ble_eq_true rfl) ?_
          intro r_ u8 hp_
          obtain ⟨rfl, hA8⟩ := hp_
          refine x_aload_n C d_L_law_119 rfl rfl ?_
          refine x_aload_n C d_L_law_120 rfl rfl ?_
          refine x_iload_n C d_L_law_121 rfl rfl ?_
          refine x_iconst (v := (nI (1))) C d_L_law_122 (by decide) ?_
          refine x_iaddN C d_L_law_123  ?_
          refine x_sld C hX hbl hbA (by omega) (by omega) d_L_law_124 ?_
          refine x_top (y := (nI (a_))) hxe ?_
          refine x_aload_n C d_L_law_125 rfl rfl ?_
          refine x_iload_n C d_L_law_126 rfl rfl ?_
          refine x_iconst (v := (nI (2))) C d_L_law_127 (by decide) ?_
          refine x_iaddN C d_L_law_128  ?_
          refine x_sld C hX hbl hbA (by omega) (by omega) d_L_law_129 ?_
          refine x_top (y := (nI (b_))) hye ?_
          refine x_aload_n C d_L_law_130 rfl rfl ?_
          refine x_iload_n C d_L_law_131 rfl rfl ?_
          refine x_iconst (v := (nI (3))) C d_L_law_132 (by decide) ?_
          refine x_iaddN C d_L_law_133  ?_
          refine x_sld C hX hbl hbA (by omega) (by omega) d_L_law_134 ?_
          refine x_top (y := (nI (m_))) hze ?_
          refine x_callVI (wr := [(r0, .inr (0, [.ref r01, .ref r02, .int (nI kr)])), (r01, .inl (cA, 3001, .inl (Lr))), (r02, .inl (cA, 2, .inl (Br))), (hB, .inr (1, [.ref d0, .ref c0, .ref s0, .ref r0, .int (nI (n + m_))])), (s0, .inr (0, [.ref s01, .ref s02, .int (nI 0)])), (s01, .inl (cA, 3000, .inl (Ls))), (s02, .inl (cA, 13, .inl (Bs))), (c0, .inr (0, [.ref c01, .ref c02, .int (nI 32)])), (c01, .inl (cA, 2096, .inl (Lc))), (c02, .inl (cA, 33, .inl (Bc))), (d0, .inr (0, [.ref d01, .ref d02, .int (nI 32)])), (d01, .inl (cA, 2096, .inl (u8.1))), (d02, .inl (cA, 33, .inl (u8.2)))]) (rest := [.int (nI (n + m_))]) C (c_M_append hE hn ha hb_ hm1 hm2 (by omega) (by omega) hL hw) d_L_law_135 cd_M_append lk_L_17 dd_M_append rfl ⟨Nat.le_of_ble_eq_true rfl, Nat.le_of_ble_eq_true rfl⟩ ⟨Nat.le_of_ble_eq_true rfl, Nat.le_of_ble_eq_true rfl⟩ 2 0 rfl rfl [3, 4, 5, 6, 7] [0, 1, 2, 8, 9, 10, 11, 12, 13, 14, 15, 16, 17] rfl rfl (by decide) (by decide) (by decide) rfl (Nat.le_of_ble_eq_true rfl) ?_
          intro r_ u9 hp_
          obtain ⟨rfl, ⟨en', vl', hE9, hN9⟩, hL9⟩ := hp_
          refine x_icmp_eq (tgt := 349) C d_L_law_138 (by decide)  (fun c138 => ?_) (fun c138 => ?_)
          · refine x_perm (ws' := [(hB, .inr (1, [.ref d0, .ref c0, .ref s0, .ref r0, .int (nI (n + m_))])), (d0, .inr (0, [.ref d01, .ref d02, .int (nI 32)])), (d01, .inl (cA, 2096, .inl (u8.1))), (d02, .inl (cA, 33, .inl (u8.2))), (c0, .inr (0, [.ref c01, .ref c02, .int (nI 32)])), (c01, .inl (cA, 2096, .inl (Lc))), (c02, .inl (cA, 33, .inl (Bc))), (s0, .inr (0, [.ref s01, .ref s02, .int (nI 0)])), (s01, .inl (cA, 3000, .inl (Ls))), (s02, .inl (cA, 13, .inl (Bs))), (r0, .inr (0, [.ref r01, .ref r02, .int (nI kr)])), (r01, .inl (cA, 3001, .inl (Lr))), (r02, .inl (cA, 2, .inl (Br))), (hM, .inr (2, [.ref e0, .ref v0, .int (nI (u9.2.1)), .ref l0, .ref b0, .int (nI 0), .int (u9.2.2.1), .int (u9.2.2.2.1), .int (u9.2.2.2.2.1), .int (u9.2.2.2.2.2)])), (e0, .inl (cA, 33000, .inl (u9.1.1))), (v0, .inl (cA, 66000, .inl (u9.1.2.1))), (l0, .inl (cA, 200000, .inl (u9.1.2.2))), (b0, .inl (cA, 15, .inl (B)))]) [3, 10, 11, 12, 7, 8, 9, 4, 5, 6, 0, 1, 2, 13, 14, 15, 16, 17] (by decide) rfl ?_
            refine x_lv (lv' := [(3, .int (nI i)), (2, .ref hM), (1, .ref hB), (0, .ref b)]) (Or.inr (List.forall_mem_cons.mpr ⟨rfl, List.forall_mem_cons.mpr ⟨rfl, List.forall_mem_cons.mpr ⟨rfl, List.forall_mem_cons.mpr ⟨rfl, fun _ h9 => absurd h9 List.not_mem_nil⟩⟩⟩⟩)) ?_
            have hS9 : Hs 3000 13 Ls Bs (kT (n + m_) ([] : List ((Nat → Bool) × List (Nat × Nat)))) := hS
            have hO9 : Ok en' u9.2.1 ([] : List ((Nat → Bool) × List (Nat × Nat))) := fun p hp => absurd hp List.not_mem_nil
            have hL8 : Hs 200000 15 u9.1.2.2 B (iS ([] : List ((Nat → Bool) × List (Nat × Nat)))) := hL9
            have hs8 : ∀ z ∈ ([] : List ((Nat → Bool) × List (Nat × Nat))), sup (n + m_) z.1 := fun p hp => absurd hp List.not_mem_nil
            exact NEXT (⟨by rw [cS_congr hN9.2.1]; exact hA8, hC, cS_len _ _ _, hS9, hR, hkr, hE9, hN9.1, by have := hN9.2.2; omega, hO9, hL8, Nat.zero_le _, by rw [cS_congr hN9.2.1]; exact hw, by omega, fun v => by rw [← hN9.1]; exact fvk_sup hE9 _ _ _ (Nat.le_refl _), hs8, hq, rfl⟩)
          · exact absurd rfl c138
        · refine x_aload_n C d_L_law_100 rfl rfl ?_
          refine x_aload_n C d_L_law_101 rfl rfl ?_
          refine x_iload_n C d_L_law_102 rfl rfl ?_
          refine x_iconst (v := (nI (1))) C d_L_law_103 (by decide) ?_
          refine x_iaddN C d_L_law_104  ?_
          refine x_sld C hX hbl hbA (by omega) (by omega) d_L_law_105 ?_
          refine x_top (y := (nI (a_))) hxe ?_
          refine x_aload_n C d_L_law_106 rfl rfl ?_
          refine x_iload_n C d_L_law_107 rfl rfl ?_
          refine x_iconst (v := (nI (2))) C d_L_law_108 (by decide) ?_
          refine x_iaddN C d_L_law_109  ?_
          refine x_sld C hX hbl hbA (by omega) (by omega) d_L_law_110 ?_
          refine x_top (y := (nI (b_))) hye ?_
          refine x_aload_n C d_L_law_111 rfl rfl ?_
          refine x_iload_n C d_L_law_112 rfl rfl ?_
          refine x_iconst (v := (nI (3))) C d_L_law_113 (by decide) ?_
          refine x_iaddN C d_L_law_114  ?_
          refine x_sld C hX hbl hbA (by omega) (by omega) d_L_law_115 ?_
          refine x_top (y := (nI (m_))) hze ?_
          refine x_callVI (wr := [(r0, .inr (0, [.ref r01, .ref r02, .int (nI kr)])), (r01, .inl (cA, 3001, .inl (Lr))), (r02, .inl (cA, 2, .inl (Br))), (hM, .inr (2, [.ref e0, .ref v0, .int (nI rn), .ref l0, .ref b0, .int (nI 0), .int pl, .int sn, .int wa, .int wf])), (e0, .inl (cA, 33000, .inl (E))), (v0, .inl (cA, 66000, .inl (V))), (l0, .inl (cA, 200000, .inl (L))), (b0, .inl (cA, 15, .inl (B)))]) (rest := []) C (c_B_append_words (F' := (apF en vl rn n m_ a_ b_)) ha hb_ hm1 (by omega) hC hD hkd hF0 hF1 hsF ht (by omega)) d_L_law_116 cd_B_append lk_L_13 dd_B_append rfl ⟨Nat.le_of_ble_eq_true rfl, Nat.le_of_ble_eq_true rfl⟩ ⟨Nat.le_of_ble_eq_true rfl, Nat.le_of_ble_eq_true rfl⟩ 1 0 rfl rfl [0, 7, 8, 9, 1, 2, 3, 4, 5, 6] [10, 11, 12, 13, 14, 15, 16, 17] rfl rfl (by decide) (by decide) (by decide) rfl (Nat.le_of_ble_eq_true rfl) ?_
          intro r_ u8 hp_
          obtain ⟨rfl, hA8⟩ := hp_
          refine x_aload_n C d_L_law_119 rfl rfl ?_
          refine x_aload_n C d_L_law_120 rfl rfl ?_
          refine x_iload_n C d_L_law_121 rfl rfl ?_
          refine x_iconst (v := (nI (1))) C d_L_law_122 (by decide) ?_
          refine x_iaddN C d_L_law_123  ?_
          refine x_sld C hX hbl hbA (by omega) (by omega) d_L_law_124 ?_
          refine x_top (y := (nI (a_))) hxe ?_
          refine x_aload_n C d_L_law_125 rfl rfl ?_
          refine x_iload_n C d_L_law_126 rfl rfl ?_
          refine x_iconst (v := (nI (2))) C d_L_law_127 (by decide) ?_
          refine x_iaddN C d_L_law_128  ?_
          refine x_sld C hX hbl hbA (by omega) (by omega) d_L_law_129 ?_
          refine x_top (y := (nI (b_))) hye ?_
          refine x_aload_n C d_L_law_130 rfl rfl ?_
          refine x_iload_n C d_L_law_131 rfl rfl ?_
          refine x_iconst (v := (nI (3))) C d_L_law_132 (by decide) ?_
          refine x_iaddN C d_L_law_133  ?_
          refine x_sld C hX hbl hbA (by omega) (by omega) d_L_law_134 ?_
          refine x_top (y := (nI (m_))) hze ?_
          refine x_callVI (wr := [(r0, .inr (0, [.ref r01, .ref r02, .int (nI kr)])), (r01, .inl (cA, 3001, .inl (Lr))), (r02, .inl (cA, 2, .inl (Br))), (hB, .inr (1, [.ref c0, .ref d0, .ref s0, .ref r0, .int (nI n)])), (s0, .inr (0, [.ref s01, .ref s02, .int (nI 0)])), (s01, .inl (cA, 3000, .inl (Ls))), (s02, .inl (cA, 13, .inl (Bs))), (c0, .inr (0, [.ref c01, .ref c02, .int (nI 32)])), (c01, .inl (cA, 2096, .inl (Lc))), (c02, .inl (cA, 33, .inl (Bc))), (d0, .inr (0, [.ref d01, .ref d02, .int (nI 32)])), (d01, .inl (cA, 2096, .inl (u8.1))), (d02, .inl (cA, 33, .inl (u8.2)))]) (rest := [.int ((-3))]) C (c_M_append_words hE hn ha hb_ hm1 hm2 (by omega) (by omega) hL (by omega)) d_L_law_135 cd_M_append lk_L_17 dd_M_append rfl ⟨Nat.le_of_ble_eq_true rfl, Nat.le_of_ble_eq_true rfl⟩ ⟨Nat.le_of_ble_eq_true rfl, Nat.le_of_ble_eq_true rfl⟩ 2 0 rfl rfl [3, 4, 5, 6, 7] [0, 1, 2, 8, 9, 10, 11, 12, 13, 14, 15, 16, 17] rfl rfl (by decide) (by decide) (by decide) rfl (Nat.le_of_ble_eq_true rfl) ?_
          intro r_ u9 hp_
          obtain ⟨rfl, hE9, hL9⟩ := hp_
          refine x_icmp_eq (tgt := 349) C d_L_law_138 (by decide)  (fun c138 => ?_) (fun c138 => ?_)
          · refine x_perm (ws' := [(hB, .inr (1, [.ref c0, .ref d0, .ref s0, .ref r0, .int (nI n)])), (c0, .inr (0, [.ref c01, .ref c02, .int (nI 32)])), (c01, .inl (cA, 2096, .inl (Lc))), (c02, .inl (cA, 33, .inl (Bc))), (d0, .inr (0, [.ref d01, .ref d02, .int (nI 32)])), (d01, .inl (cA, 2096, .inl (u8.1))), (d02, .inl (cA, 33, .inl (u8.2))), (s0, .inr (0, [.ref s01, .ref s02, .int (nI 0)])), (s01, .inl (cA, 3000, .inl (Ls))), (s02, .inl (cA, 13, .inl (Bs))), (r0, .inr (0, [.ref r01, .ref r02, .int (nI kr)])), (r01, .inl (cA, 3001, .inl (Lr))), (r02, .inl (cA, 2, .inl (Br))), (hM, .inr (2, [.ref e0, .ref v0, .int (nI rn), .ref l0, .ref b0, .int (nI 0), .int (u9.2.1), .int (u9.2.2.1), .int (u9.2.2.2.1), .int (u9.2.2.2.2)])), (e0, .inl (cA, 33000, .inl (u9.1.1))), (v0, .inl (cA, 66000, .inl (u9.1.2.1))), (l0, .inl (cA, 200000, .inl (u9.1.2.2))), (b0, .inl (cA, 15, .inl (B)))]) [3, 7, 8, 9, 10, 11, 12, 4, 5, 6, 0, 1, 2, 13, 14, 15, 16, 17] (by decide) rfl ?_
            refine x_lv (lv' := [(3, .int (nI i)), (2, .ref hM), (1, .ref hB), (0, .ref b)]) (Or.inr (List.forall_mem_cons.mpr ⟨rfl, List.forall_mem_cons.mpr ⟨rfl, List.forall_mem_cons.mpr ⟨rfl, List.forall_mem_cons.mpr ⟨rfl, fun _ h9 => absurd h9 List.not_mem_nil⟩⟩⟩⟩)) ?_
            exact NEXT (⟨hC, hA8, cS_len _ _ _, hS, hR, hkr, hE9, hn, by omega, hO, hL9, h12, ht, hn9, hsF, hsS, hq, hks⟩)
          · exact absurd rfl c138
