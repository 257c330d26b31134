/-! the law, call by call -/
def Cont (p : Program) (l : Launch) (e : Env) (s : State) (m : MethodId) (below : List Frame) (meth : Method) (c : Code) (D : va_G) (cA : ClassId) (b i q : Nat) : Prop := ∀ {hB hM c0 c01 c02 d0 d01 d02 s0 s01 s02 r0 r01 r02 n kd kr e0 v0 l0 b0 rn ks : Nat} {Lc Bc Ld Bd Ls Bs Lr Br E V L B : Nat → Int32} {pl sn wa wf : Int32} {dd rr : List (List Int32)} {en : Nat → Nat} {vl : Nat → Nat → Nat} {st : List ((Nat → Bool) × List (Nat × Nat))}, LInv n Lc Bc Ld Bd Ls Bs Lr Br kd kr dd rr E V L B rn en vl st ks (q + 1) → XL p l e s m below meth c D b [(hB, .inr (1, [.ref c0, .ref d0, .ref s0, .ref r0, .int (nI n)])), (c0, .inr (0, [.ref c01, .ref c02, .int (nI 32)])), (c01, .inl (cA, 2096, .inl (Lc))), (c02, .inl (cA, 33, .inl (Bc))), (d0, .inr (0, [.ref d01, .ref d02, .int (nI kd)])), (d01, .inl (cA, 2096, .inl (Ld))), (d02, .inl (cA, 33, .inl (Bd))), (s0, .inr (0, [.ref s01, .ref s02, .int (nI ks)])), (s01, .inl (cA, 3000, .inl (Ls))), (s02, .inl (cA, 13, .inl (Bs))), (r0, .inr (0, [.ref r01, .ref r02, .int (nI kr)])), (r01, .inl (cA, 3001, .inl (Lr))), (r02, .inl (cA, 2, .inl (Br))), (hM, .inr (2, [.ref e0, .ref v0, .int (nI rn), .ref l0, .ref b0, .int (nI ks), .int pl, .int sn, .int wa, .int wf])), (e0, .inl (cA, 33000, .inl (E))), (v0, .inl (cA, 66000, .inl (V))), (l0, .inl (cA, 200000, .inl (L))), (b0, .inl (cA, 15, .inl (B)))] 349 [(3, .int (nI i)), (2, .ref hM), (1, .ref hB), (0, .ref b)] []
theorem LInv.next {n kd kr rn ks : Nat} {Lc Bc Ld Bd Ls Bs Lr Br E V L B : Nat → Int32} {dd rr : List (List Int32)} {en : Nat → Nat} {vl : Nat → Nat → Nat} {st : List ((Nat → Bool) × List (Nat × Nat))} {q : Nat} (h : LInv n Lc Bc Ld Bd Ls Bs Lr Br kd kr dd rr E V L B rn en vl st ks q) (hq : q + 1 ≤ 512) : LInv n Lc Bc Ld Bd Ls Bs Lr Br kd kr dd rr E V L B rn en vl st ks (q + 1) := by
  obtain ⟨hC, hD, hkd, hS, hR, hkr, hE, hn, hrq, hO, hL, h12, ht, hn9, hsF, hsS, hq5, hks⟩ := h
  exact ⟨hC, hD, hkd, hS, hR, hkr, hE, hn, by omega, hO, hL, h12, ht, hn9, hsF, hsS, hq, hks⟩
set_option maxHeartbeats 8000000 in
theorem law_rows {p : Program} {l : Launch} {e : Env} {s : State} {m : MethodId} {below : List Frame} {meth : Method} {c : Code} {D : va_G} {cA : ClassId} {b L0 : Nat} {xs : Nat → Int32} (hL0 : L0 ≤ 2048) (C : Cx p s m #[Value.ref b] meth c code 4 R_L D cA (fun q => s.heap.size ≤ q)) (hX : va_X b L0 xs s s.heap) (hbl : b < s.heap.size) {i q : Nat} (hi : i + 4 ≤ L0) (hq : q + 1 ≤ 512) (NEXT : Cont p l e s m below meth c D cA b i q) {hB hM c0 c01 c02 d0 d01 d02 s0 s01 s02 r0 r01 r02 n kd kr e0 v0 l0 b0 rn ks : Nat} {Lc Bc Ld Bd Ls Bs Lr Br E V L B : Nat → Int32} {pl sn wa wf : Int32} {dd rr : List (List Int32)} {en : Nat → Nat} {vl : Nat → Nat → Nat} {st : List ((Nat → Bool) × List (Nat × Nat))} (hI : LInv n Lc Bc Ld Bd Ls Bs Lr Br kd kr dd rr E V L B rn en vl st ks q) : XL p l e s m below meth c D b [(hB, .inr (1, [.ref c0, .ref d0, .ref s0, .ref r0, .int (nI n)])), (c0, .inr (0, [.ref c01, .ref c02, .int (nI 32)])), (c01, .inl (cA, 2096, .inl (Lc))), (c02, .inl (cA, 33, .inl (Bc))), (d0, .inr (0, [.ref d01, .ref d02, .int (nI kd)])), (d01, .inl (cA, 2096, .inl (Ld))), (d02, .inl (cA, 33, .inl (Bd))), (s0, .inr (0, [.ref s01, .ref s02, .int (nI ks)])), (s01, .inl (cA, 3000, .inl (Ls))), (s02, .inl (cA, 13, .inl (Bs))), (r0, .inr (0, [.ref r01, .ref r02, .int (nI kr)])), (r01, .inl (cA, 3001, .inl (Lr))), (r02, .inl (cA, 2, .inl (Br))), (hM, .inr (2, [.ref e0, .ref v0, .int (nI rn), .ref l0, .ref b0, .int (nI ks), .int pl, .int sn, .int wa, .int wf])), (e0, .inl (cA, 33000, .inl (E))), (v0, .inl (cA, 66000, .inl (V))), (l0, .inl (cA, 200000, .inl (L))), (b0, .inl (cA, 15, .inl (B)))] 336 [(3, .int (nI i)), (2, .ref hM), (1, .ref hB), (0, .ref b)] [] := by
  have hbA : ¬ (fun q => s.heap.size ≤ q) b := Nat.not_le.mpr hbl
  have hI0 := hI
  obtain ⟨hC, hD, hkd, hS, hR, hkr, hE, hn, hrq, hO, hL, h12, ht, hn9, hsF, hsS, hq5, hks⟩ := hI
  refine x_aload_n C d_L_law_336 rfl rfl ?_
  refine x_callVI (wr := [(c0, .inr (0, [.ref c01, .ref c02, .int (nI 32)])), (c01, .inl (cA, 2096, .inl (Lc))), (c02, .inl (cA, 33, .inl (Bc))), (d0, .inr (0, [.ref d01, .ref d02, .int (nI kd)])), (d01, .inl (cA, 2096, .inl (Ld))), (d02, .inl (cA, 33, .inl (Bd))), (s0, .inr (0, [.ref s01, .ref s02, .int (nI ks)])), (s01, .inl (cA, 3000, .inl (Ls))), (s02, .inl (cA, 13, .inl (Bs))), (r0, .inr (0, [.ref r01, .ref r02, .int (nI kr)])), (r01, .inl (cA, 3001, .inl (Lr))), (r02, .inl (cA, 2, .inl (Br))), (hM, .inr (2, [.ref e0, .ref v0, .int (nI rn), .ref l0, .ref b0, .int (nI ks), .int pl, .int sn, .int wa, .int wf])), (e0, .inl (cA, 33000, .inl (E))), (v0, .inl (cA, 66000, .inl (V))), (l0, .inl (cA, 200000, .inl (L))), (b0, .inl (cA, 15, .inl (B)))]) (rest := []) C (c_B_rows) d_L_law_337 cd_B_rows lk_L_65 dd_B_rows rfl ⟨Nat.le_of_ble_eq_true rfl, Nat.le_of_ble_eq_true rfl⟩ ⟨Nat.le_of_ble_eq_true rfl, Nat.le_of_ble_eq_true rfl⟩ 1 0 rfl rfl [0] [1, 2, 3, 4, 5, 6, 7, 8, 9, 10, 11, 12, 13, 14, 15, 16, 17] rfl rfl (by decide) (by decide) (by decide) rfl (Nat.le_of_ble_eq_true rfl) ?_
  intro r_ u_ hp_
  obtain rfl := hp_
  refine x_aload_n C d_L_law_340 rfl rfl ?_
  refine x_callVI (wr := [(c0, .inr (0, [.ref c01, .ref c02, .int (nI 32)])), (c01, .inl (cA, 2096, .inl (Lc))), (c02, .inl (cA, 33, .inl (Bc))), (d0, .inr (0, [.ref d01, .ref d02, .int (nI kd)])), (d01, .inl (cA, 2096, .inl (Ld))), (d02, .inl (cA, 33, .inl (Bd))), (s0, .inr (0, [.ref s01, .ref s02, .int (nI ks)])), (s01, .inl (cA, 3000, .inl (Ls))), (s02, .inl (cA, 13, .inl (Bs))), (r0, .inr (0, [.ref r01, .ref r02, .int (nI kr)])), (r01, .inl (cA, 3001, .inl (Lr))), (r02, .inl (cA, 2, .inl (Br))), (hB, .inr (1, [.ref c0, .ref d0, .ref s0, .ref r0, .int (nI n)]))]) (rest := [.int (nI n)]) C (c_M_rows hE) d_L_law_341 cd_M_rows lk_L_68 dd_M_rows rfl ⟨Nat.le_of_ble_eq_true rfl, Nat.le_of_ble_eq_true rfl⟩ ⟨Nat.le_of_ble_eq_true rfl, Nat.le_of_ble_eq_true rfl⟩ 2 0 rfl rfl [12, 13, 14, 15, 16] [0, 1, 2, 3, 4, 5, 6, 7, 8, 9, 10, 11, 17] rfl rfl (by decide) (by decide) (by decide) rfl (Nat.le_of_ble_eq_true rfl) ?_
  intro r_ u_ hp_
  obtain rfl := hp_
  refine x_top (y := (nI (n))) (by rw [hn]) ?_
  refine x_icmp_eq (tgt := 349) C d_L_law_344 (by decide)  (fun c344 => ?_) (fun c344 => ?_)
  · refine x_perm (ws' := [(hB, .inr (1, [.ref c0, .ref d0, .ref s0, .ref r0, .int (nI n)])), (c0, .inr (0, [.ref c01, .ref c02, .int (nI 32)])), (c01, .inl (cA, 2096, .inl (Lc))), (c02, .inl (cA, 33, .inl (Bc))), (d0, .inr (0, [.ref d01, .ref d02, .int (nI kd)])), (d01, .inl (cA, 2096, .inl (Ld))), (d02, .inl (cA, 33, .inl (Bd))), (s0, .inr (0, [.ref s01, .ref s02, .int (nI ks)])), (s01, .inl (cA, 3000, .inl (Ls))), (s02, .inl (cA, 13, .inl (Bs))), (r0, .inr (0, [.ref r01, .ref r02, .int (nI kr)])), (r01, .inl (cA, 3001, .inl (Lr))), (r02, .inl (cA, 2, .inl (Br))), (hM, .inr (2, [.ref e0, .ref v0, .int (nI rn), .ref l0, .ref b0, .int (nI ks), .int pl, .int sn, .int wa, .int wf])), (e0, .inl (cA, 33000, .inl (E))), (v0, .inl (cA, 66000, .inl (V))), (l0, .inl (cA, 200000, .inl (L))), (b0, .inl (cA, 15, .inl (B)))]) [12, 0, 1, 2, 3, 4, 5, 6, 7, 8, 9, 10, 11, 13, 14, 15, 16, 17] (by decide) rfl ?_
    refine x_lv (lv' := [(3, .int (nI i)), (2, .ref hM), (1, .ref hB), (0, .ref b)]) (Or.inr (List.forall_mem_cons.mpr ⟨rfl, List.forall_mem_cons.mpr ⟨rfl, List.forall_mem_cons.mpr ⟨rfl, List.forall_mem_cons.mpr ⟨rfl, fun _ h9 => absurd h9 List.not_mem_nil⟩⟩⟩⟩)) ?_
    exact NEXT (hI0.next hq)
  · exact absurd rfl c344
set_option maxHeartbeats 8000000 in
theorem law_stackRoom {p : Program} {l : Launch} {e : Env} {s : State} {m : MethodId} {below : List Frame} {meth : Method} {c : Code} {D : va_G} {cA : ClassId} {b L0 : Nat} {xs : Nat → Int32} (hL0 : L0 ≤ 2048) (C : Cx p s m #[Value.ref b] meth c code 4 R_L D cA (fun q => s.heap.size ≤ q)) (hX : va_X b L0 xs s s.heap) (hbl : b < s.heap.size) {i q : Nat} (hi : i + 4 ≤ L0) (hq : q + 1 ≤ 512) (NEXT : Cont p l e s m below meth c D cA b i q) {hB hM c0 c01 c02 d0 d01 d02 s0 s01 s02 r0 r01 r02 n kd kr e0 v0 l0 b0 rn ks : Nat} {Lc Bc Ld Bd Ls Bs Lr Br E V L B : Nat → Int32} {pl sn wa wf : Int32} {dd rr : List (List Int32)} {en : Nat → Nat} {vl : Nat → Nat → Nat} {st : List ((Nat → Bool) × List (Nat × Nat))} (hI : LInv n Lc Bc Ld Bd Ls Bs Lr Br kd kr dd rr E V L B rn en vl st ks q) : XL p l e s m below meth c D b [(hB, .inr (1, [.ref c0, .ref d0, .ref s0, .ref r0, .int (nI n)])), (c0, .inr (0, [.ref c01, .ref c02, .int (nI 32)])), (c01, .inl (cA, 2096, .inl (Lc))), (c02, .inl (cA, 33, .inl (Bc))), (d0, .inr (0, [.ref d01, .ref d02, .int (nI kd)])), (d01, .inl (cA, 2096, .inl (Ld))), (d02, .inl (cA, 33, .inl (Bd))), (s0, .inr (0, [.ref s01, .ref s02, .int (nI ks)])), (s01, .inl (cA, 3000, .inl (Ls))), (s02, .inl (cA, 13, .inl (Bs))), (r0, .inr (0, [.ref r01, .ref r02, .int (nI kr)])), (r01, .inl (cA, 3001, .inl (Lr))), (r02, .inl (cA, 2, .inl (Br))), (hM, .inr (2, [.ref e0, .ref v0, .int (nI rn), .ref l0, .ref b0, .int (nI ks), .int pl, .int sn, .int wa, .int wf])), (e0, .inl (cA, 33000, .inl (E))), (v0, .inl (cA, 66000, .inl (V))), (l0, .inl (cA, 200000, .inl (L))), (b0, .inl (cA, 15, .inl (B)))] 323 [(3, .int (nI i)), (2, .ref hM), (1, .ref hB), (0, .ref b)] [] := by
  have hbA : ¬ (fun q => s.heap.size ≤ q) b := Nat.not_le.mpr hbl
  have hI0 := hI
  obtain ⟨hC, hD, hkd, hS, hR, hkr, hE, hn, hrq, hO, hL, h12, ht, hn9, hsF, hsS, hq5, hks⟩ := hI
  refine x_aload_n C d_L_law_323 rfl rfl ?_
  refine x_callVI (wr := [(c0, .inr (0, [.ref c01, .ref c02, .int (nI 32)])), (c01, .inl (cA, 2096, .inl (Lc))), (c02, .inl (cA, 33, .inl (Bc))), (d0, .inr (0, [.ref d01, .ref d02, .int (nI kd)])), (d01, .inl (cA, 2096, .inl (Ld))), (d02, .inl (cA, 33, .inl (Bd))), (r0, .inr (0, [.ref r01, .ref r02, .int (nI kr)])), (r01, .inl (cA, 3001, .inl (Lr))), (r02, .inl (cA, 2, .inl (Br))), (hM, .inr (2, [.ref e0, .ref v0, .int (nI rn), .ref l0, .ref b0, .int (nI ks), .int pl, .int sn, .int wa, .int wf])), (e0, .inl (cA, 33000, .inl (E))), (v0, .inl (cA, 66000, .inl (V))), (l0, .inl (cA, 200000, .inl (L))), (b0, .inl (cA, 15, .inl (B)))]) (rest := []) C (c_B_stackRoom hS (by rw [kT_len]; exact hks)) d_L_law_324 cd_B_stackRoom lk_L_61 dd_B_stackRoom rfl ⟨Nat.le_of_ble_eq_true rfl, Nat.le_of_ble_eq_true rfl⟩ ⟨Nat.le_of_ble_eq_true rfl, Nat.le_of_ble_eq_true rfl⟩ 1 0 rfl rfl [0, 7, 8, 9] [1, 2, 3, 4, 5, 6, 10, 11, 12, 13, 14, 15, 16, 17] rfl rfl (by decide) (by decide) (by decide) rfl (Nat.le_of_ble_eq_true rfl) ?_
  intro r_ u_ hp_
  obtain rfl := hp_
  refine x_aload_n C d_L_law_327 rfl rfl ?_
  refine x_callVI (wr := [(c0, .inr (0, [.ref c01, .ref c02, .int (nI 32)])), (c01, .inl (cA, 2096, .inl (Lc))), (c02, .inl (cA, 33, .inl (Bc))), (d0, .inr (0, [.ref d01, .ref d02, .int (nI kd)])), (d01, .inl (cA, 2096, .inl (Ld))), (d02, .inl (cA, 33, .inl (Bd))), (r0, .inr (0, [.ref r01, .ref r02, .int (nI kr)])), (r01, .inl (cA, 3001, .inl (Lr))), (r02, .inl (cA, 2, .inl (Br))), (hB, .inr (1, [.ref c0, .ref d0, .ref s0, .ref r0, .int (nI n)])), (s0, .inr (0, [.ref s01, .ref s02, .int (nI ks)])), (s01, .inl (cA, 3000, .inl (Ls))), (s02, .inl (cA, 13, .inl (Bs)))]) (rest := [.int (nI (tot (kT n st)))]) C (c_M_stackRoom hE hn hO hL hks) d_L_law_328 cd_M_stackRoom lk_L_64 dd_M_stackRoom rfl ⟨Nat.le_of_ble_eq_true rfl, Nat.le_of_ble_eq_true rfl⟩ ⟨Nat.le_of_ble_eq_true rfl, Nat.le_of_ble_eq_true rfl⟩ 2 0 rfl rfl [9, 10, 11, 12, 13] [0, 1, 2, 3, 4, 5, 6, 7, 8, 14, 15, 16, 17] rfl rfl (by decide) (by decide) (by decide) rfl (Nat.le_of_ble_eq_true rfl) ?_
  intro r_ u9 hp_
  obtain rfl := hp_
  refine x_icmp_eq (tgt := 349) C d_L_law_331 (by decide)  (fun c331 => ?_) (fun c331 => ?_)
  · refine x_perm (ws' := [(hB, .inr (1, [.ref c0, .ref d0, .ref s0, .ref r0, .int (nI n)])), (c0, .inr (0, [.ref c01, .ref c02, .int (nI 32)])), (c01, .inl (cA, 2096, .inl (Lc))), (c02, .inl (cA, 33, .inl (Bc))), (d0, .inr (0, [.ref d01, .ref d02, .int (nI kd)])), (d01, .inl (cA, 2096, .inl (Ld))), (d02, .inl (cA, 33, .inl (Bd))), (s0, .inr (0, [.ref s01, .ref s02, .int (nI ks)])), (s01, .inl (cA, 3000, .inl (Ls))), (s02, .inl (cA, 13, .inl (Bs))), (r0, .inr (0, [.ref r01, .ref r02, .int (nI kr)])), (r01, .inl (cA, 3001, .inl (Lr))), (r02, .inl (cA, 2, .inl (Br))), (hM, .inr (2, [.ref e0, .ref v0, .int (nI rn), .ref l0, .ref b0, .int (nI ks), .int (u9.1), .int (u9.2.1), .int (u9.2.2.1), .int (u9.2.2.2)])), (e0, .inl (cA, 33000, .inl (E))), (v0, .inl (cA, 66000, .inl (V))), (l0, .inl (cA, 200000, .inl (L))), (b0, .inl (cA, 15, .inl (B)))]) [9, 0, 1, 2, 3, 4, 5, 10, 11, 12, 6, 7, 8, 13, 14, 15, 16, 17] (by decide) rfl ?_
    refine x_lv (lv' := [(3, .int (nI i)), (2, .ref hM), (1, .ref hB), (0, .ref b)]) (Or.inr (List.forall_mem_cons.mpr ⟨rfl, List.forall_mem_cons.mpr ⟨rfl, List.forall_mem_cons.mpr ⟨rfl, List.forall_mem_cons.mpr ⟨rfl, fun _ h9 => absurd h9 List.not_mem_nil⟩⟩⟩⟩)) ?_
    exact NEXT (hI0.next hq)
  · exact absurd rfl c331
set_option maxHeartbeats 8000000 in
theorem law_room {p : Program} {l : Launch} {e : Env} {s : State} {m : MethodId} {below : List Frame} {meth : Method} {c : Code} {D : va_G} {cA : ClassId} {b L0 : Nat} {xs : Nat → Int32} (hL0 : L0 ≤ 2048) (C : Cx p s m #[Value.ref b] meth c code 4 R_L D cA (fun q => s.heap.size ≤ q)) (hX : va_X b L0 xs s s.heap) (hbl : b < s.heap.size) {i q : Nat} (hi : i + 4 ≤ L0) (hq : q + 1 ≤ 512) (NEXT : Cont p l e s m below meth c D cA b i q) {hB hM c0 c01 c02 d0 d01 d02 s0 s01 s02 r0 r01 r02 n kd kr e0 v0 l0 b0 rn ks : Nat} {Lc Bc Ld Bd Ls Bs Lr Br E V L B : Nat → Int32} {pl sn wa wf : Int32} {dd rr : List (List Int32)} {en : Nat → Nat} {vl : Nat → Nat → Nat} {st : List ((Nat → Bool) × List (Nat × Nat))} (hI : LInv n Lc Bc Ld Bd Ls Bs Lr Br kd kr dd rr E V L B rn en vl st ks q) : XL p l e s m below meth c D b [(hB, .inr (1, [.ref c0, .ref d0, .ref s0, .ref r0, .int (nI n)])), (c0, .inr (0, [.ref c01, .ref c02, .int (nI 32)])), (c01, .inl (cA, 2096, .inl (Lc))), (c02, .inl (cA, 33, .inl (Bc))), (d0, .inr (0, [.ref d01, .ref d02, .int (nI kd)])), (d01, .inl (cA, 2096, .inl (Ld))), (d02, .inl (cA, 33, .inl (Bd))), (s0, .inr (0, [.ref s01, .ref s02, .int (nI ks)])), (s01, .inl (cA, 3000, .inl (Ls))), (s02, .inl (cA, 13, .inl (Bs))), (r0, .inr (0, [.ref r01, .ref r02, .int (nI kr)])), (r01, .inl (cA, 3001, .inl (Lr))), (r02, .inl (cA, 2, .inl (Br))), (hM, .inr (2, [.ref e0, .ref v0, .int (nI rn), .ref l0, .ref b0, .int (nI ks), .int pl, .int sn, .int wa, .int wf])), (e0, .inl (cA, 33000, .inl (E))), (v0, .inl (cA, 66000, .inl (V))), (l0, .inl (cA, 200000, .inl (L))), (b0, .inl (cA, 15, .inl (B)))] 310 [(3, .int (nI i)), (2, .ref hM), (1, .ref hB), (0, .ref b)] [] := by
  have hbA : ¬ (fun q => s.heap.size ≤ q) b := Nat.not_le.mpr hbl
  have hI0 := hI
  obtain ⟨hC, hD, hkd, hS, hR, hkr, hE, hn, hrq, hO, hL, h12, ht, hn9, hsF, hsS, hq5, hks⟩ := hI
  refine x_aload_n C d_L_law_310 rfl rfl ?_
  refine x_callVI (wr := [(d0, .inr (0, [.ref d01, .ref d02, .int (nI kd)])), (d01, .inl (cA, 2096, .inl (Ld))), (d02, .inl (cA, 33, .inl (Bd))), (s0, .inr (0, [.ref s01, .ref s02, .int (nI ks)])), (s01, .inl (cA, 3000, .inl (Ls))), (s02, .inl (cA, 13, .inl (Bs))), (r0, .inr (0, [.ref r01, .ref r02, .int (nI kr)])), (r01, .inl (cA, 3001, .inl (Lr))), (r02, .inl (cA, 2, .inl (Br))), (hM, .inr (2, [.ref e0, .ref v0, .int (nI rn), .ref l0, .ref b0, .int (nI ks), .int pl, .int sn, .int wa, .int wf])), (e0, .inl (cA, 33000, .inl (E))), (v0, .inl (cA, 66000, .inl (V))), (l0, .inl (cA, 200000, .inl (L))), (b0, .inl (cA, 15, .inl (B)))]) (rest := []) C (c_B_room hC (cS_len _ _ _)) d_L_law_311 cd_B_room lk_L_57 dd_B_room rfl ⟨Nat.le_of_ble_eq_true rfl, Nat.le_of_ble_eq_true rfl⟩ ⟨Nat.le_of_ble_eq_true rfl, Nat.le_of_ble_eq_true rfl⟩ 1 0 rfl rfl [0, 1, 2, 3] [4, 5, 6, 7, 8, 9, 10, 11, 12, 13, 14, 15, 16, 17] rfl rfl (by decide) (by decide) (by decide) rfl (Nat.le_of_ble_eq_true rfl) ?_
  intro r_ u_ hp_
  obtain rfl := hp_
  refine x_aload_n C d_L_law_314 rfl rfl ?_
  refine x_callVI (wr := [(d0, .inr (0, [.ref d01, .ref d02, .int (nI kd)])), (d01, .inl (cA, 2096, .inl (Ld))), (d02, .inl (cA, 33, .inl (Bd))), (s0, .inr (0, [.ref s01, .ref s02, .int (nI ks)])), (s01, .inl (cA, 3000, .inl (Ls))), (s02, .inl (cA, 13, .inl (Bs))), (r0, .inr (0, [.ref r01, .ref r02, .int (nI kr)])), (r01, .inl (cA, 3001, .inl (Lr))), (r02, .inl (cA, 2, .inl (Br))), (hB, .inr (1, [.ref c0, .ref d0, .ref s0, .ref r0, .int (nI n)])), (c0, .inr (0, [.ref c01, .ref c02, .int (nI 32)])), (c01, .inl (cA, 2096, .inl (Lc))), (c02, .inl (cA, 33, .inl (Bc)))]) (rest := [.int (nI (tot (cS n (FM en vl rn) 32)))]) C (c_M_room hE hn hO hL hks h12) d_L_law_315 cd_M_room lk_L_60 dd_M_room rfl ⟨Nat.le_of_ble_eq_true rfl, Nat.le_of_ble_eq_true rfl⟩ ⟨Nat.le_of_ble_eq_true rfl, Nat.le_of_ble_eq_true rfl⟩ 2 0 rfl rfl [9, 10, 11, 12, 13] [0, 1, 2, 3, 4, 5, 6, 7, 8, 14, 15, 16, 17] rfl rfl (by decide) (by decide) (by decide) rfl (Nat.le_of_ble_eq_true rfl) ?_
  intro r_ u9 hp_
  obtain ⟨rfl, hL9⟩ := hp_
  refine x_icmp_eq (tgt := 349) C d_L_law_318 (by decide)  (fun c318 => ?_) (fun c318 => ?_)
  · refine x_perm (ws' := [(hB, .inr (1, [.ref c0, .ref d0, .ref s0, .ref r0, .int (nI n)])), (c0, .inr (0, [.ref c01, .ref c02, .int (nI 32)])), (c01, .inl (cA, 2096, .inl (Lc))), (c02, .inl (cA, 33, .inl (Bc))), (d0, .inr (0, [.ref d01, .ref d02, .int (nI kd)])), (d01, .inl (cA, 2096, .inl (Ld))), (d02, .inl (cA, 33, .inl (Bd))), (s0, .inr (0, [.ref s01, .ref s02, .int (nI ks)])), (s01, .inl (cA, 3000, .inl (Ls))), (s02, .inl (cA, 13, .inl (Bs))), (r0, .inr (0, [.ref r01, .ref r02, .int (nI kr)])), (r01, .inl (cA, 3001, .inl (Lr))), (r02, .inl (cA, 2, .inl (Br))), (hM, .inr (2, [.ref e0, .ref v0, .int (nI rn), .ref l0, .ref b0, .int (nI ks), .int (u9.2.1), .int (u9.2.2.1), .int (u9.2.2.2.1), .int (u9.2.2.2.2)])), (e0, .inl (cA, 33000, .inl (E))), (v0, .inl (cA, 66000, .inl (V))), (l0, .inl (cA, 200000, .inl (u9.1))), (b0, .inl (cA, 15, .inl (B)))]) [9, 10, 11, 12, 0, 1, 2, 3, 4, 5, 6, 7, 8, 13, 14, 15, 16, 17] (by decide) rfl ?_
    refine x_lv (lv' := [(3, .int (nI i)), (2, .ref hM), (1, .ref hB), (0, .ref b)]) (Or.inr (List.forall_mem_cons.mpr ⟨rfl, List.forall_mem_cons.mpr ⟨rfl, List.forall_mem_cons.mpr ⟨rfl, List.forall_mem_cons.mpr ⟨rfl, fun _ h9 => absurd h9 List.not_mem_nil⟩⟩⟩⟩)) ?_
    exact NEXT (⟨hC, hD, hkd, hS, hR, hkr, hE, hn, by omega, hO, hL9, h12, ht, hn9, hsF, hsS, hq, hks⟩)
  · exact absurd rfl c318
set_option maxHeartbeats 8000000 in
theorem law_count {p : Program} {l : Launch} {e : Env} {s : State} {m : MethodId} {below : List Frame} {meth : Method} {c : Code} {D : va_G} {cA : ClassId} {b L0 : Nat} {xs : Nat → Int32} (hL0 : L0 ≤ 2048) (C : Cx p s m #[Value.ref b] meth c code 4 R_L D cA (fun q => s.heap.size ≤ q)) (hX : va_X b L0 xs s s.heap) (hbl : b < s.heap.size) {i q : Nat} (hi : i + 4 ≤ L0) (hq : q + 1 ≤ 512) (NEXT : Cont p l e s m below meth c D cA b i q) {hB hM c0 c01 c02 d0 d01 d02 s0 s01 s02 r0 r01 r02 n kd kr e0 v0 l0 b0 rn ks : Nat} {Lc Bc Ld Bd Ls Bs Lr Br E V L B : Nat → Int32} {pl sn wa wf : Int32} {dd rr : List (List Int32)} {en : Nat → Nat} {vl : Nat → Nat → Nat} {st : List ((Nat → Bool) × List (Nat × Nat))} (hI : LInv n Lc Bc Ld Bd Ls Bs Lr Br kd kr dd rr E V L B rn en vl st ks q) : XL p l e s m below meth c D b [(hB, .inr (1, [.ref c0, .ref d0, .ref s0, .ref r0, .int (nI n)])), (c0, .inr (0, [.ref c01, .ref c02, .int (nI 32)])), (c01, .inl (cA, 2096, .inl (Lc))), (c02, .inl (cA, 33, .inl (Bc))), (d0, .inr (0, [.ref d01, .ref d02, .int (nI kd)])), (d01, .inl (cA, 2096, .inl (Ld))), (d02, .inl (cA, 33, .inl (Bd))), (s0, .inr (0, [.ref s01, .ref s02, .int (nI ks)])), (s01, .inl (cA, 3000, .inl (Ls))), (s02, .inl (cA, 13, .inl (Bs))), (r0, .inr (0, [.ref r01, .ref r02, .int (nI kr)])), (r01, .inl (cA, 3001, .inl (Lr))), (r02, .inl (cA, 2, .inl (Br))), (hM, .inr (2, [.ref e0, .ref v0, .int (nI rn), .ref l0, .ref b0, .int (nI ks), .int pl, .int sn, .int wa, .int wf])), (e0, .inl (cA, 33000, .inl (E))), (v0, .inl (cA, 66000, .inl (V))), (l0, .inl (cA, 200000, .inl (L))), (b0, .inl (cA, 15, .inl (B)))] 225 [(3, .int (nI i)), (2, .ref hM), (1, .ref hB), (0, .ref b)] [] := by
  have hbA : ¬ (fun q => s.heap.size ≤ q) b := Nat.not_le.mpr hbl
  have hI0 := hI
  obtain ⟨hC, hD, hkd, hS, hR, hkr, hE, hn, hrq, hO, hL, h12, ht, hn9, hsF, hsS, hq5, hks⟩ := hI
  rcases List.eq_nil_or_concat st with rfl | ⟨st0, z, rfl⟩
  · have hks0 : ks = 0 := by simpa using hks.symm
    subst hks0
    refine x_aload_n C d_L_law_225 rfl rfl ?_
    refine x_callVI (wr := [(c0, .inr (0, [.ref c01, .ref c02, .int (nI 32)])), (c01, .inl (cA, 2096, .inl (Lc))), (c02, .inl (cA, 33, .inl (Bc))), (d0, .inr (0, [.ref d01, .ref d02, .int (nI kd)])), (d01, .inl (cA, 2096, .inl (Ld))), (d02, .inl (cA, 33, .inl (Bd))), (r0, .inr (0, [.ref r01, .ref r02, .int (nI kr)])), (r01, .inl (cA, 3001, .inl (Lr))), (r02, .inl (cA, 2, .inl (Br))), (hM, .inr (2, [.ref e0, .ref v0, .int (nI rn), .ref l0, .ref b0, .int (nI 0), .int pl, .int sn, .int wa, .int wf])), (e0, .inl (cA, 33000, .inl (E))), (v0, .inl (cA, 66000, .inl (V))), (l0, .inl (cA, 200000, .inl (L))), (b0, .inl (cA, 15, .inl (B)))]) (rest := []) C (c_B_count_none) d_L_law_226 cd_B_count lk_L_37 dd_B_count rfl ⟨Nat.le_of_ble_eq_true rfl, Nat.le_of_ble_eq_true rfl⟩ ⟨Nat.le_of_ble_eq_true rfl, Nat.le_of_ble_eq_true rfl⟩ 1 0 rfl rfl [0, 7, 8, 9] [1, 2, 3, 4, 5, 6, 10, 11, 12, 13, 14, 15, 16, 17] rfl rfl (by decide) (by decide) (by decide) rfl (Nat.le_of_ble_eq_true rfl) ?_
    intro r_ u_ hp_
    obtain rfl := hp_
    refine x_aload_n C d_L_law_229 rfl rfl ?_
    refine x_callVI (wr := [(c0, .inr (0, [.ref c01, .ref c02, .int (nI 32)])), (c01, .inl (cA, 2096, .inl (Lc))), (c02, .inl (cA, 33, .inl (Bc))), (d0, .inr (0, [.ref d01, .ref d02, .int (nI kd)])), (d01, .inl (cA, 2096, .inl (Ld))), (d02, .inl (cA, 33, .inl (Bd))), (r0, .inr (0, [.ref r01, .ref r02, .int (nI kr)])), (r01, .inl (cA, 3001, .inl (Lr))), (r02, .inl (cA, 2, .inl (Br))), (hB, .inr (1, [.ref c0, .ref d0, .ref s0, .ref r0, .int (nI n)])), (s0, .inr (0, [.ref s01, .ref s02, .int (nI 0)])), (s01, .inl (cA, 3000, .inl (Ls))), (s02, .inl (cA, 13, .inl (Bs)))]) (rest := [.int ((-1))]) C (c_M_count_none) d_L_law_230 cd_M_count lk_L_40 dd_M_count rfl ⟨Nat.le_of_ble_eq_true rfl, Nat.le_of_ble_eq_true rfl⟩ ⟨Nat.le_of_ble_eq_true rfl, Nat.le_of_ble_eq_true rfl⟩ 2 0 rfl rfl [9, 10, 11, 12, 13] [0, 1, 2, 3, 4, 5, 6, 7, 8, 14, 15, 16, 17] rfl rfl (by decide) (by decide) (by decide) rfl (Nat.le_of_ble_eq_true rfl) ?_
    intro r_ u_ hp_
    obtain rfl := hp_
    refine x_icmp_eq (tgt := 349) C d_L_law_233 (by decide)  (fun c233 => ?_) (fun c233 => ?_)
    · refine x_perm (ws' := [(hB, .inr (1, [.ref c0, .ref d0, .ref s0, .ref r0, .int (nI n)])), (c0, .inr (0, [.ref c01, .ref c02, .int (nI 32)])), (c01, .inl (cA, 2096, .inl (Lc))), (c02, .inl (cA, 33, .inl (Bc))), (d0, .inr (0, [.ref d01, .ref d02, .int (nI kd)])), (d01, .inl (cA, 2096, .inl (Ld))), (d02, .inl (cA, 33, .inl (Bd))), (s0, .inr (0, [.ref s01, .ref s02, .int (nI 0)])), (s01, .inl (cA, 3000, .inl (Ls))), (s02, .inl (cA, 13, .inl (Bs))), (r0, .inr (0, [.ref r01, .ref r02, .int (nI kr)])), (r01, .inl (cA, 3001, .inl (Lr))), (r02, .inl (cA, 2, .inl (Br))), (hM, .inr (2, [.ref e0, .ref v0, .int (nI rn), .ref l0, .ref b0, .int (nI 0), .int pl, .int sn, .int wa, .int wf])), (e0, .inl (cA, 33000, .inl (E))), (v0, .inl (cA, 66000, .inl (V))), (l0, .inl (cA, 200000, .inl (L))), (b0, .inl (cA, 15, .inl (B)))]) [9, 0, 1, 2, 3, 4, 5, 10, 11, 12, 6, 7, 8, 13, 14, 15, 16, 17] (by decide) rfl ?_
      refine x_lv (lv' := [(3, .int (nI i)), (2, .ref hM), (1, .ref hB), (0, .ref b)]) (Or.inr (List.forall_mem_cons.mpr ⟨rfl, List.forall_mem_cons.mpr ⟨rfl, List.forall_mem_cons.mpr ⟨rfl, List.forall_mem_cons.mpr ⟨rfl, fun _ h9 => absurd h9 List.not_mem_nil⟩⟩⟩⟩)) ?_
      exact NEXT (hI0.next hq)
    · exact absurd rfl c233
  · rw [List.concat_eq_append] at *
    have hks0 : ks = st0.length + 1 := by rw [← hks]; simp
    subst hks0
    have hS1 := hS
    rw [kT_snoc] at hS1
    have hL1 := hL
    rw [iS_snoc] at hL1
    have hsz : sup n z.1 := hsS z (by simp)
    have hk1 : (kT n st0).length + 1 = st0.length + 1 := by rw [kT_len]
    have h11 : st0.length + 1 ≤ 12 := by simpa using h12
    have hO1 : Ok en rn st0 := fun y hy => hO y (List.mem_append_left _ hy)
    refine x_aload_n C d_L_law_225 rfl rfl ?_
    refine x_callVI (wr := [(c0, .inr (0, [.ref c01, .ref c02, .int (nI 32)])), (c01, .inl (cA, 2096, .inl (Lc))), (c02, .inl (cA, 33, .inl (Bc))), (d0, .inr (0, [.ref d01, .ref d02, .int (nI kd)])), (d01, .inl (cA, 2096, .inl (Ld))), (d02, .inl (cA, 33, .inl (Bd))), (r0, .inr (0, [.ref r01, .ref r02, .int (nI kr)])), (r01, .inl (cA, 3001, .inl (Lr))), (r02, .inl (cA, 2, .inl (Br))), (hM, .inr (2, [.ref e0, .ref v0, .int (nI rn), .ref l0, .ref b0, .int (nI (st0.length + 1)), .int pl, .int sn, .int wa, .int wf])), (e0, .inl (cA, 33000, .inl (E))), (v0, .inl (cA, 66000, .inl (V))), (l0, .inl (cA, 200000, .inl (L))), (b0, .inl (cA, 15, .inl (B)))]) (rest := []) C (c_B_count hS1 hk1 hsz hn9) d_L_law_226 cd_B_count lk_L_37 dd_B_count rfl ⟨Nat.le_of_ble_eq_true rfl, Nat.le_of_ble_eq_true rfl⟩ ⟨Nat.le_of_ble_eq_true rfl, Nat.le_of_ble_eq_true rfl⟩ 1 0 rfl rfl [0, 7, 8, 9] [1, 2, 3, 4, 5, 6, 10, 11, 12, 13, 14, 15, 16, 17] rfl rfl (by decide) (by decide) (by decide) rfl (Nat.le_of_ble_eq_true rfl) ?_
    intro r_ u_ hp_
    obtain rfl := hp_
    refine x_aload_n C d_L_law_229 rfl rfl ?_
    refine x_callVI (wr := [(c0, .inr (0, [.ref c01, .ref c02, .int (nI 32)])), (c01, .inl (cA, 2096, .inl (Lc))), (c02, .inl (cA, 33, .inl (Bc))), (d0, .inr (0, [.ref d01, .ref d02, .int (nI kd)])), (d01, .inl (cA, 2096, .inl (Ld))), (d02, .inl (cA, 33, .inl (Bd))), (r0, .inr (0, [.ref r01, .ref r02, .int (nI kr)])), (r01, .inl (cA, 3001, .inl (Lr))), (r02, .inl (cA, 2, .inl (Br))), (hB, .inr (1, [.ref c0, .ref d0, .ref s0, .ref r0, .int (nI n)])), (s0, .inr (0, [.ref s01, .ref s02, .int (nI (st0.length + 1))])), (s01, .inl (cA, 3000, .inl (Ls))), (s02, .inl (cA, 13, .inl (Bs)))]) (rest := [.int (nI (cn z.1 n))]) C (c_M_count (p := z) hE hn hO hL rfl) d_L_law_230 cd_M_count lk_L_40 dd_M_count rfl ⟨Nat.le_of_ble_eq_true rfl, Nat.le_of_ble_eq_true rfl⟩ ⟨Nat.le_of_ble_eq_true rfl, Nat.le_of_ble_eq_true rfl⟩ 2 0 rfl rfl [9, 10, 11, 12, 13] [0, 1, 2, 3, 4, 5, 6, 7, 8, 14, 15, 16, 17] rfl rfl (by decide) (by decide) (by decide) rfl (Nat.le_of_ble_eq_true rfl) ?_
    intro r_ u_ hp_
    obtain rfl := hp_
    refine x_icmp_eq (tgt := 349) C d_L_law_233 (by decide)  (fun c233 => ?_) (fun c233 => ?_)
    · refine x_perm (ws' := [(hB, .inr (1, [.ref c0, .ref d0, .ref s0, .ref r0, .int (nI n)])), (c0, .inr (0, [.ref c01, .ref c02, .int (nI 32)])), (c01, .inl (cA, 2096, .inl (Lc))), (c02, .inl (cA, 33, .inl (Bc))), (d0, .inr (0, [.ref d01, .ref d02, .int (nI kd)])), (d01, .inl (cA, 2096, .inl (Ld))), (d02, .inl (cA, 33, .inl (Bd))), (s0, .inr (0, [.ref s01, .ref s02, .int (nI (st0.length + 1))])), (s01, .inl (cA, 3000, .inl (Ls))), (s02, .inl (cA, 13, .inl (Bs))), (r0, .inr (0, [.ref r01, .ref r02, .int (nI kr)])), (r01, .inl (cA, 3001, .inl (Lr))), (r02, .inl (cA, 2, .inl (Br))), (hM, .inr (2, [.ref e0, .ref v0, .int (nI rn), .ref l0, .ref b0, .int (nI (st0.length + 1)), .int pl, .int sn, .int wa, .int wf])), (e0, .inl (cA, 33000, .inl (E))), (v0, .inl (cA, 66000, .inl (V))), (l0, .inl (cA, 200000, .inl (L))), (b0, .inl (cA, 15, .inl (B)))]) [9, 0, 1, 2, 3, 4, 5, 10, 11, 12, 6, 7, 8, 13, 14, 15, 16, 17] (by decide) rfl ?_
      refine x_lv (lv' := [(3, .int (nI i)), (2, .ref hM), (1, .ref hB), (0, .ref b)]) (Or.inr (List.forall_mem_cons.mpr ⟨rfl, List.forall_mem_cons.mpr ⟨rfl, List.forall_mem_cons.mpr ⟨rfl, List.forall_mem_cons.mpr ⟨rfl, fun _ h9 => absurd h9 List.not_mem_nil⟩⟩⟩⟩)) ?_
      exact NEXT (hI0.next hq)
    · exact absurd rfl c233
set_option maxHeartbeats 8000000 in
theorem law_words {p : Program} {l : Launch} {e : Env} {s : State} {m : MethodId} {below : List Frame} {meth : Method} {c : Code} {D : va_G} {cA : ClassId} {b L0 : Nat} {xs : Nat → Int32} (hL0 : L0 ≤ 2048) (C : Cx p s m #[Value.ref b] meth c code 4 R_L D cA (fun q => s.heap.size ≤ q)) (hX : va_X b L0 xs s s.heap) (hbl : b < s.heap.size) {i q : Nat} (hi : i + 4 ≤ L0) (hq : q + 1 ≤ 512) (NEXT : Cont p l e s m below meth c D cA b i q) {hB hM c0 c01 c02 d0 d01 d02 s0 s01 s02 r0 r01 r02 n kd kr e0 v0 l0 b0 rn ks : Nat} {Lc Bc Ld Bd Ls Bs Lr Br E V L B : Nat → Int32} {pl sn wa wf : Int32} {dd rr : List (List Int32)} {en : Nat → Nat} {vl : Nat → Nat → Nat} {st : List ((Nat → Bool) × List (Nat × Nat))} (hI : LInv n Lc Bc Ld Bd Ls Bs Lr Br kd kr dd rr E V L B rn en vl st ks q) : XL p l e s m below meth c D b [(hB, .inr (1, [.ref c0, .ref d0, .ref s0, .ref r0, .int (nI n)])), (c0, .inr (0, [.ref c01, .ref c02, .int (nI 32)])), (c01, .inl (cA, 2096, .inl (Lc))), (c02, .inl (cA, 33, .inl (Bc))), (d0, .inr (0, [.ref d01, .ref d02, .int (nI kd)])), (d01, .inl (cA, 2096, .inl (Ld))), (d02, .inl (cA, 33, .inl (Bd))), (s0, .inr (0, [.ref s01, .ref s02, .int (nI ks)])), (s01, .inl (cA, 3000, .inl (Ls))), (s02, .inl (cA, 13, .inl (Bs))), (r0, .inr (0, [.ref r01, .ref r02, .int (nI kr)])), (r01, .inl (cA, 3001, .inl (Lr))), (r02, .inl (cA, 2, .inl (Br))), (hM, .inr (2, [.ref e0, .ref v0, .int (nI rn), .ref l0, .ref b0, .int (nI ks), .int pl, .int sn, .int wa, .int wf])), (e0, .inl (cA, 33000, .inl (E))), (v0, .inl (cA, 66000, .inl (V))), (l0, .inl (cA, 200000, .inl (L))), (b0, .inl (cA, 15, .inl (B)))] 261 [(3, .int (nI i)), (2, .ref hM), (1, .ref hB), (0, .ref b)] [] := by
  have hbA : ¬ (fun q => s.heap.size ≤ q) b := Nat.not_le.mpr hbl
  have hI0 := hI
  obtain ⟨hC, hD, hkd, hS, hR, hkr, hE, hn, hrq, hO, hL, h12, ht, hn9, hsF, hsS, hq5, hks⟩ := hI
  rcases List.eq_nil_or_concat st with rfl | ⟨st0, z, rfl⟩
  · have hks0 : ks = 0 := by simpa using hks.symm
    subst hks0
    refine x_aload_n C d_L_law_261 rfl rfl ?_
    refine x_callVI (wr := [(c0, .inr (0, [.ref c01, .ref c02, .int (nI 32)])), (c01, .inl (cA, 2096, .inl (Lc))), (c02, .inl (cA, 33, .inl (Bc))), (d0, .inr (0, [.ref d01, .ref d02, .int (nI kd)])), (d01, .inl (cA, 2096, .inl (Ld))), (d02, .inl (cA, 33, .inl (Bd))), (r0, .inr (0, [.ref r01, .ref r02, .int (nI kr)])), (r01, .inl (cA, 3001, .inl (Lr))), (r02, .inl (cA, 2, .inl (Br))), (hM, .inr (2, [.ref e0, .ref v0, .int (nI rn), .ref l0, .ref b0, .int (nI 0), .int pl, .int sn, .int wa, .int wf])), (e0, .inl (cA, 33000, .inl (E))), (v0, .inl (cA, 66000, .inl (V))), (l0, .inl (cA, 200000, .inl (L))), (b0, .inl (cA, 15, .inl (B)))]) (rest := []) C (c_B_words_none) d_L_law_262 cd_B_words lk_L_45 dd_B_words rfl ⟨Nat.le_of_ble_eq_true rfl, Nat.le_of_ble_eq_true rfl⟩ ⟨Nat.le_of_ble_eq_true rfl, Nat.le_of_ble_eq_true rfl⟩ 1 0 rfl rfl [0, 7, 8, 9] [1, 2, 3, 4, 5, 6, 10, 11, 12, 13, 14, 15, 16, 17] rfl rfl (by decide) (by decide) (by decide) rfl (Nat.le_of_ble_eq_true rfl) ?_
    intro r_ u_ hp_
    obtain rfl := hp_
    refine x_aload_n C d_L_law_265 rfl rfl ?_
    refine x_callVI (wr := [(c0, .inr (0, [.ref c01, .ref c02, .int (nI 32)])), (c01, .inl (cA, 2096, .inl (Lc))), (c02, .inl (cA, 33, .inl (Bc))), (d0, .inr (0, [.ref d01, .ref d02, .int (nI kd)])), (d01, .inl (cA, 2096, .inl (Ld))), (d02, .inl (cA, 33, .inl (Bd))), (r0, .inr (0, [.ref r01, .ref r02, .int (nI kr)])), (r01, .inl (cA, 3001, .inl (Lr))), (r02, .inl (cA, 2, .inl (Br))), (hB, .inr (1, [.ref c0, .ref d0, .ref s0, .ref r0, .int (nI n)])), (s0, .inr (0, [.ref s01, .ref s02, .int (nI 0)])), (s01, .inl (cA, 3000, .inl (Ls))), (s02, .inl (cA, 13, .inl (Bs)))]) (rest := [.int ((-1))]) C (c_M_words_none) d_L_law_266 cd_M_words lk_L_48 dd_M_words rfl ⟨Nat.le_of_ble_eq_true rfl, Nat.le_of_ble_eq_true rfl⟩ ⟨Nat.le_of_ble_eq_true rfl, Nat.le_of_ble_eq_true rfl⟩ 2 0 rfl rfl [9, 10, 11, 12, 13] [0, 1, 2, 3, 4, 5, 6, 7, 8, 14, 15, 16, 17] rfl rfl (by decide) (by decide) (by decide) rfl (Nat.le_of_ble_eq_true rfl) ?_
    intro r_ u_ hp_
    obtain rfl := hp_
    refine x_icmp_eq (tgt := 349) C d_L_law_269 (by decide)  (fun c269 => ?_) (fun c269 => ?_)
    · refine x_perm (ws' := [(hB, .inr (1, [.ref c0, .ref d0, .ref s0, .ref r0, .int (nI n)])), (c0, .inr (0, [.ref c01, .ref c02, .int (nI 32)])), (c01, .inl (cA, 2096, .inl (Lc))), (c02, .inl (cA, 33, .inl (Bc))), (d0, .inr (0, [.ref d01, .ref d02, .int (nI kd)])), (d01, .inl (cA, 2096, .inl (Ld))), (d02, .inl (cA, 33, .inl (Bd))), (s0, .inr (0, [.ref s01, .ref s02, .int (nI 0)])), (s01, .inl (cA, 3000, .inl (Ls))), (s02, .inl (cA, 13, .inl (Bs))), (r0, .inr (0, [.ref r01, .ref r02, .int (nI kr)])), (r01, .inl (cA, 3001, .inl (Lr))), (r02, .inl (cA, 2, .inl (Br))), (hM, .inr (2, [.ref e0, .ref v0, .int (nI rn), .ref l0, .ref b0, .int (nI 0), .int pl, .int sn, .int wa, .int wf])), (e0, .inl (cA, 33000, .inl (E))), (v0, .inl (cA, 66000, .inl (V))), (l0, .inl (cA, 200000, .inl (L))), (b0, .inl (cA, 15, .inl (B)))]) [9, 0, 1, 2, 3, 4, 5, 10, 11, 12, 6, 7, 8, 13, 14, 15, 16, 17] (by decide) rfl ?_
      refine x_lv (lv' := [(3, .int (nI i)), (2, .ref hM), (1, .ref hB), (0, .ref b)]) (Or.inr (List.forall_mem_cons.mpr ⟨rfl, List.forall_mem_cons.mpr ⟨rfl, List.forall_mem_cons.mpr ⟨rfl, List.forall_mem_cons.mpr ⟨rfl, fun _ h9 => absurd h9 List.not_mem_nil⟩⟩⟩⟩)) ?_
      exact NEXT (hI0.next hq)
    · exact absurd rfl c269
  · rw [List.concat_eq_append] at *
    have hks0 : ks = st0.length + 1 := by rw [← hks]; simp
    subst hks0
    have hS1 := hS
    rw [kT_snoc] at hS1
    have hL1 := hL
    rw [iS_snoc] at hL1
    have hsz : sup n z.1 := hsS z (by simp)
    have hk1 : (kT n st0).length + 1 = st0.length + 1 := by rw [kT_len]
    have h11 : st0.length + 1 ≤ 12 := by simpa using h12
    have hO1 : Ok en rn st0 := fun y hy => hO y (List.mem_append_left _ hy)
    refine x_aload_n C d_L_law_261 rfl rfl ?_
    refine x_callVI (wr := [(c0, .inr (0, [.ref c01, .ref c02, .int (nI 32)])), (c01, .inl (cA, 2096, .inl (Lc))), (c02, .inl (cA, 33, .inl (Bc))), (d0, .inr (0, [.ref d01, .ref d02, .int (nI kd)])), (d01, .inl (cA, 2096, .inl (Ld))), (d02, .inl (cA, 33, .inl (Bd))), (r0, .inr (0, [.ref r01, .ref r02, .int (nI kr)])), (r01, .inl (cA, 3001, .inl (Lr))), (r02, .inl (cA, 2, .inl (Br))), (hM, .inr (2, [.ref e0, .ref v0, .int (nI rn), .ref l0, .ref b0, .int (nI (st0.length + 1)), .int pl, .int sn, .int wa, .int wf])), (e0, .inl (cA, 33000, .inl (E))), (v0, .inl (cA, 66000, .inl (V))), (l0, .inl (cA, 200000, .inl (L))), (b0, .inl (cA, 15, .inl (B)))]) (rest := []) C (c_B_words hS1 hk1) d_L_law_262 cd_B_words lk_L_45 dd_B_words rfl ⟨Nat.le_of_ble_eq_true rfl, Nat.le_of_ble_eq_true rfl⟩ ⟨Nat.le_of_ble_eq_true rfl, Nat.le_of_ble_eq_true rfl⟩ 1 0 rfl rfl [0, 7, 8, 9] [1, 2, 3, 4, 5, 6, 10, 11, 12, 13, 14, 15, 16, 17] rfl rfl (by decide) (by decide) (by decide) rfl (Nat.le_of_ble_eq_true rfl) ?_
    intro r_ u_ hp_
    obtain rfl := hp_
    refine x_aload_n C d_L_law_265 rfl rfl ?_
    refine x_callVI (wr := [(c0, .inr (0, [.ref c01, .ref c02, .int (nI 32)])), (c01, .inl (cA, 2096, .inl (Lc))), (c02, .inl (cA, 33, .inl (Bc))), (d0, .inr (0, [.ref d01, .ref d02, .int (nI kd)])), (d01, .inl (cA, 2096, .inl (Ld))), (d02, .inl (cA, 33, .inl (Bd))), (r0, .inr (0, [.ref r01, .ref r02, .int (nI kr)])), (r01, .inl (cA, 3001, .inl (Lr))), (r02, .inl (cA, 2, .inl (Br))), (hB, .inr (1, [.ref c0, .ref d0, .ref s0, .ref r0, .int (nI n)])), (s0, .inr (0, [.ref s01, .ref s02, .int (nI (st0.length + 1))])), (s01, .inl (cA, 3000, .inl (Ls))), (s02, .inl (cA, 13, .inl (Bs)))]) (rest := [.int (nI ((wI n z.1).length))]) C (c_M_words (p := z) hE hn hO hL rfl) d_L_law_266 cd_M_words lk_L_48 dd_M_words rfl ⟨Nat.le_of_ble_eq_true rfl, Nat.le_of_ble_eq_true rfl⟩ ⟨Nat.le_of_ble_eq_true rfl, Nat.le_of_ble_eq_true rfl⟩ 2 0 rfl rfl [9, 10, 11, 12, 13] [0, 1, 2, 3, 4, 5, 6, 7, 8, 14, 15, 16, 17] rfl rfl (by decide) (by decide) (by decide) rfl (Nat.le_of_ble_eq_true rfl) ?_
    intro r_ u9 hp_
    obtain rfl := hp_
    refine x_icmp_eq (tgt := 349) C d_L_law_269 (by decide)  (fun c269 => ?_) (fun c269 => ?_)
    · refine x_perm (ws' := [(hB, .inr (1, [.ref c0, .ref d0, .ref s0, .ref r0, .int (nI n)])), (c0, .inr (0, [.ref c01, .ref c02, .int (nI 32)])), (c01, .inl (cA, 2096, .inl (Lc))), (c02, .inl (cA, 33, .inl (Bc))), (d0, .inr (0, [.ref d01, .ref d02, .int (nI kd)])), (d01, .inl (cA, 2096, .inl (Ld))), (d02, .inl (cA, 33, .inl (Bd))), (s0, .inr (0, [.ref s01, .ref s02, .int (nI (st0.length + 1))])), (s01, .inl (cA, 3000, .inl (Ls))), (s02, .inl (cA, 13, .inl (Bs))), (r0, .inr (0, [.ref r01, .ref r02, .int (nI kr)])), (r01, .inl (cA, 3001, .inl (Lr))), (r02, .inl (cA, 2, .inl (Br))), (hM, .inr (2, [.ref e0, .ref v0, .int (nI rn), .ref l0, .ref b0, .int (nI (st0.length + 1)), .int (u9.1), .int (u9.2.1), .int (u9.2.2.1), .int (u9.2.2.2)])), (e0, .inl (cA, 33000, .inl (E))), (v0, .inl (cA, 66000, .inl (V))), (l0, .inl (cA, 200000, .inl (L))), (b0, .inl (cA, 15, .inl (B)))]) [9, 0, 1, 2, 3, 4, 5, 10, 11, 12, 6, 7, 8, 13, 14, 15, 16, 17] (by decide) rfl ?_
      refine x_lv (lv' := [(3, .int (nI i)), (2, .ref hM), (1, .ref hB), (0, .ref b)]) (Or.inr (List.forall_mem_cons.mpr ⟨rfl, List.forall_mem_cons.mpr ⟨rfl, List.forall_mem_cons.mpr ⟨rfl, List.forall_mem_cons.mpr ⟨rfl, fun _ h9 => absurd h9 List.not_mem_nil⟩⟩⟩⟩)) ?_
      exact NEXT (hI0.next hq)
    · exact absurd rfl c269
set_option maxHeartbeats 8000000 in
theorem law_pop {p : Program} {l : Launch} {e : Env} {s : State} {m : MethodId} {below : List Frame} {meth : Method} {c : Code} {D : va_G} {cA : ClassId} {b L0 : Nat} {xs : Nat → Int32} (hL0 : L0 ≤ 2048) (C : Cx p s m #[Value.ref b] meth c code 4 R_L D cA (fun q => s.heap.size ≤ q)) (hX : va_X b L0 xs s s.heap) (hbl : b < s.heap.size) {i q : Nat} (hi : i + 4 ≤ L0) (hq : q + 1 ≤ 512) (NEXT : Cont p l e s m below meth c D cA b i q) {hB hM c0 c01 c02 d0 d01 d02 s0 s01 s02 r0 r01 r02 n kd kr e0 v0 l0 b0 rn ks : Nat} {Lc Bc Ld Bd Ls Bs Lr Br E V L B : Nat → Int32} {pl sn wa wf : Int32} {dd rr : List (List Int32)} {en : Nat → Nat} {vl : Nat → Nat → Nat} {st : List ((Nat → Bool) × List (Nat × Nat))} (hI : LInv n Lc Bc Ld Bd Ls Bs Lr Br kd kr dd rr E V L B rn en vl st ks q) : XL p l e s m below meth c D b [(hB, .inr (1, [.ref c0, .ref d0, .ref s0, .ref r0, .int (nI n)])), (c0, .inr (0, [.ref c01, .ref c02, .int (nI 32)])), (c01, .inl (cA, 2096, .inl (Lc))), (c02, .inl (cA, 33, .inl (Bc))), (d0, .inr (0, [.ref d01, .ref d02, .int (nI kd)])), (d01, .inl (cA, 2096, .inl (Ld))), (d02, .inl (cA, 33, .inl (Bd))), (s0, .inr (0, [.ref s01, .ref s02, .int (nI ks)])), (s01, .inl (cA, 3000, .inl (Ls))), (s02, .inl (cA, 13, .inl (Bs))), (r0, .inr (0, [.ref r01, .ref r02, .int (nI kr)])), (r01, .inl (cA, 3001, .inl (Lr))), (r02, .inl (cA, 2, .inl (Br))), (hM, .inr (2, [.ref e0, .ref v0, .int (nI rn), .ref l0, .ref b0, .int (nI ks), .int pl, .int sn, .int wa, .int wf])), (e0, .inl (cA, 33000, .inl (E))), (v0, .inl (cA, 66000, .inl (V))), (l0, .inl (cA, 200000, .inl (L))), (b0, .inl (cA, 15, .inl (B)))] 297 [(3, .int (nI i)), (2, .ref hM), (1, .ref hB), (0, .ref b)] [] := by
  have hbA : ¬ (fun q => s.heap.size ≤ q) b := Nat.not_le.mpr hbl
  have hI0 := hI
  obtain ⟨hC, hD, hkd, hS, hR, hkr, hE, hn, hrq, hO, hL, h12, ht, hn9, hsF, hsS, hq5, hks⟩ := hI
  rcases List.eq_nil_or_concat st with rfl | ⟨st0, z, rfl⟩
  · have hks0 : ks = 0 := by simpa using hks.symm
    subst hks0
    refine x_aload_n C d_L_law_297 rfl rfl ?_
    refine x_callVI (wr := [(c0, .inr (0, [.ref c01, .ref c02, .int (nI 32)])), (c01, .inl (cA, 2096, .inl (Lc))), (c02, .inl (cA, 33, .inl (Bc))), (d0, .inr (0, [.ref d01, .ref d02, .int (nI kd)])), (d01, .inl (cA, 2096, .inl (Ld))), (d02, .inl (cA, 33, .inl (Bd))), (r0, .inr (0, [.ref r01, .ref r02, .int (nI kr)])), (r01, .inl (cA, 3001, .inl (Lr))), (r02, .inl (cA, 2, .inl (Br))), (hM, .inr (2, [.ref e0, .ref v0, .int (nI rn), .ref l0, .ref b0, .int (nI 0), .int pl, .int sn, .int wa, .int wf])), (e0, .inl (cA, 33000, .inl (E))), (v0, .inl (cA, 66000, .inl (V))), (l0, .inl (cA, 200000, .inl (L))), (b0, .inl (cA, 15, .inl (B)))]) (rest := []) C (c_B_pop_none) d_L_law_298 cd_B_pop lk_L_53 dd_B_pop rfl ⟨Nat.le_of_ble_eq_true rfl, Nat.le_of_ble_eq_true rfl⟩ ⟨Nat.le_of_ble_eq_true rfl, Nat.le_of_ble_eq_true rfl⟩ 1 0 rfl rfl [0, 7, 8, 9] [1, 2, 3, 4, 5, 6, 10, 11, 12, 13, 14, 15, 16, 17] rfl rfl (by decide) (by decide) (by decide) rfl (Nat.le_of_ble_eq_true rfl) ?_
    intro r_ u_ hp_
    obtain rfl := hp_
    refine x_aload_n C d_L_law_301 rfl rfl ?_
    refine x_callVI (wr := [(c0, .inr (0, [.ref c01, .ref c02, .int (nI 32)])), (c01, .inl (cA, 2096, .inl (Lc))), (c02, .inl (cA, 33, .inl (Bc))), (d0, .inr (0, [.ref d01, .ref d02, .int (nI kd)])), (d01, .inl (cA, 2096, .inl (Ld))), (d02, .inl (cA, 33, .inl (Bd))), (r0, .inr (0, [.ref r01, .ref r02, .int (nI kr)])), (r01, .inl (cA, 3001, .inl (Lr))), (r02, .inl (cA, 2, .inl (Br))), (hB, .inr (1, [.ref c0, .ref d0, .ref s0, .ref r0, .int (nI n)])), (s0, .inr (0, [.ref s01, .ref s02, .int (nI 0)])), (s01, .inl (cA, 3000, .inl (Ls))), (s02, .inl (cA, 13, .inl (Bs)))]) (rest := [.int ((-4))]) C (c_M_pop_none) d_L_law_302 cd_M_pop lk_L_56 dd_M_pop rfl ⟨Nat.le_of_ble_eq_true rfl, Nat.le_of_ble_eq_true rfl⟩ ⟨Nat.le_of_ble_eq_true rfl, Nat.le_of_ble_eq_true rfl⟩ 2 0 rfl rfl [9, 10, 11, 12, 13] [0, 1, 2, 3, 4, 5, 6, 7, 8, 14, 15, 16, 17] rfl rfl (by decide) (by decide) (by decide) rfl (Nat.le_of_ble_eq_true rfl) ?_
    intro r_ u_ hp_
    obtain rfl := hp_
    refine x_icmp_eq (tgt := 349) C d_L_law_305 (by decide)  (fun c305 => ?_) (fun c305 => ?_)
    · refine x_perm (ws' := [(hB, .inr (1, [.ref c0, .ref d0, .ref s0, .ref r0, .int (nI n)])), (c0, .inr (0, [.ref c01, .ref c02, .int (nI 32)])), (c01, .inl (cA, 2096, .inl (Lc))), (c02, .inl (cA, 33, .inl (Bc))), (d0, .inr (0, [.ref d01, .ref d02, .int (nI kd)])), (d01, .inl (cA, 2096, .inl (Ld))), (d02, .inl (cA, 33, .inl (Bd))), (s0, .inr (0, [.ref s01, .ref s02, .int (nI 0)])), (s01, .inl (cA, 3000, .inl (Ls))), (s02, .inl (cA, 13, .inl (Bs))), (r0, .inr (0, [.ref r01, .ref r02, .int (nI kr)])), (r01, .inl (cA, 3001, .inl (Lr))), (r02, .inl (cA, 2, .inl (Br))), (hM, .inr (2, [.ref e0, .ref v0, .int (nI rn), .ref l0, .ref b0, .int (nI 0), .int pl, .int sn, .int wa, .int wf])), (e0, .inl (cA, 33000, .inl (E))), (v0, .inl (cA, 66000, .inl (V))), (l0, .inl (cA, 200000, .inl (L))), (b0, .inl (cA, 15, .inl (B)))]) [9, 0, 1, 2, 3, 4, 5, 10, 11, 12, 6, 7, 8, 13, 14, 15, 16, 17] (by decide) rfl ?_
      refine x_lv (lv' := [(3, .int (nI i)), (2, .ref hM), (1, .ref hB), (0, .ref b)]) (Or.inr (List.forall_mem_cons.mpr ⟨rfl, List.forall_mem_cons.mpr ⟨rfl, List.forall_mem_cons.mpr ⟨rfl, List.forall_mem_cons.mpr ⟨rfl, fun _ h9 => absurd h9 List.not_mem_nil⟩⟩⟩⟩)) ?_
      exact NEXT (hI0.next hq)
    · exact absurd rfl c305
  · rw [List.concat_eq_append] at *
    have hks0 : ks = st0.length + 1 := by rw [← hks]; simp
    subst hks0
    have hS1 := hS
    rw [kT_snoc] at hS1
    have hL1 := hL
    rw [iS_snoc] at hL1
    have hsz : sup n z.1 := hsS z (by simp)
    have hk1 : (kT n st0).length + 1 = st0.length + 1 := by rw [kT_len]
    have h11 : st0.length + 1 ≤ 12 := by simpa using h12
    have hO1 : Ok en rn st0 := fun y hy => hO y (List.mem_append_left _ hy)
    refine x_aload_n C d_L_law_297 rfl rfl ?_
    refine x_callVI (wr := [(c0, .inr (0, [.ref c01, .ref c02, .int (nI 32)])), (c01, .inl (cA, 2096, .inl (Lc))), (c02, .inl (cA, 33, .inl (Bc))), (d0, .inr (0, [.ref d01, .ref d02, .int (nI kd)])), (d01, .inl (cA, 2096, .inl (Ld))), (d02, .inl (cA, 33, .inl (Bd))), (r0, .inr (0, [.ref r01, .ref r02, .int (nI kr)])), (r01, .inl (cA, 3001, .inl (Lr))), (r02, .inl (cA, 2, .inl (Br))), (hM, .inr (2, [.ref e0, .ref v0, .int (nI rn), .ref l0, .ref b0, .int (nI (st0.length + 1)), .int pl, .int sn, .int wa, .int wf])), (e0, .inl (cA, 33000, .inl (E))), (v0, .inl (cA, 66000, .inl (V))), (l0, .inl (cA, 200000, .inl (L))), (b0, .inl (cA, 15, .inl (B)))]) (rest := []) C (c_B_pop hS1 hk1) d_L_law_298 cd_B_pop lk_L_53 dd_B_pop rfl ⟨Nat.le_of_ble_eq_true rfl, Nat.le_of_ble_eq_true rfl⟩ ⟨Nat.le_of_ble_eq_true rfl, Nat.le_of_ble_eq_true rfl⟩ 1 0 rfl rfl [0, 7, 8, 9] [1, 2, 3, 4, 5, 6, 10, 11, 12, 13, 14, 15, 16, 17] rfl rfl (by decide) (by decide) (by decide) rfl (Nat.le_of_ble_eq_true rfl) ?_
    intro r_ u_ hp_
    obtain rfl := hp_
    refine x_top (y := (nI (st0.length))) (by congr 1) ?_
    refine x_aload_n C d_L_law_301 rfl rfl ?_
    refine x_callVI (wr := [(c0, .inr (0, [.ref c01, .ref c02, .int (nI 32)])), (c01, .inl (cA, 2096, .inl (Lc))), (c02, .inl (cA, 33, .inl (Bc))), (d0, .inr (0, [.ref d01, .ref d02, .int (nI kd)])), (d01, .inl (cA, 2096, .inl (Ld))), (d02, .inl (cA, 33, .inl (Bd))), (r0, .inr (0, [.ref r01, .ref r02, .int (nI kr)])), (r01, .inl (cA, 3001, .inl (Lr))), (r02, .inl (cA, 2, .inl (Br))), (hB, .inr (1, [.ref c0, .ref d0, .ref s0, .ref r0, .int (nI n)])), (s0, .inr (0, [.ref s01, .ref s02, .int (nI (st0.length + 1 - 1))])), (s01, .inl (cA, 3000, .inl (Ls))), (s02, .inl (cA, 13, .inl (Bs)))]) (rest := [.int (nI (st0.length))]) C (c_M_pop (k := st0.length) (by omega)) d_L_law_302 cd_M_pop lk_L_56 dd_M_pop rfl ⟨Nat.le_of_ble_eq_true rfl, Nat.le_of_ble_eq_true rfl⟩ ⟨Nat.le_of_ble_eq_true rfl, Nat.le_of_ble_eq_true rfl⟩ 2 0 rfl rfl [9, 10, 11, 12, 13] [0, 1, 2, 3, 4, 5, 6, 7, 8, 14, 15, 16, 17] rfl rfl (by decide) (by decide) (by decide) rfl (Nat.le_of_ble_eq_true rfl) ?_
    intro r_ u_ hp_
    obtain rfl := hp_
    refine x_icmp_eq (tgt := 349) C d_L_law_305 (by decide)  (fun c305 => ?_) (fun c305 => ?_)
    · refine x_perm (ws' := [(hB, .inr (1, [.ref c0, .ref d0, .ref s0, .ref r0, .int (nI n)])), (c0, .inr (0, [.ref c01, .ref c02, .int (nI 32)])), (c01, .inl (cA, 2096, .inl (Lc))), (c02, .inl (cA, 33, .inl (Bc))), (d0, .inr (0, [.ref d01, .ref d02, .int (nI kd)])), (d01, .inl (cA, 2096, .inl (Ld))), (d02, .inl (cA, 33, .inl (Bd))), (s0, .inr (0, [.ref s01, .ref s02, .int (nI (st0.length + 1 - 1))])), (s01, .inl (cA, 3000, .inl (Ls))), (s02, .inl (cA, 13, .inl (Bs))), (r0, .inr (0, [.ref r01, .ref r02, .int (nI kr)])), (r01, .inl (cA, 3001, .inl (Lr))), (r02, .inl (cA, 2, .inl (Br))), (hM, .inr (2, [.ref e0, .ref v0, .int (nI rn), .ref l0, .ref b0, .int (nI (st0.length)), .int pl, .int sn, .int wa, .int wf])), (e0, .inl (cA, 33000, .inl (E))), (v0, .inl (cA, 66000, .inl (V))), (l0, .inl (cA, 200000, .inl (L))), (b0, .inl (cA, 15, .inl (B)))]) [9, 0, 1, 2, 3, 4, 5, 10, 11, 12, 6, 7, 8, 13, 14, 15, 16, 17] (by decide) rfl ?_
      refine x_lv (lv' := [(3, .int (nI i)), (2, .ref hM), (1, .ref hB), (0, .ref b)]) (Or.inr (List.forall_mem_cons.mpr ⟨rfl, List.forall_mem_cons.mpr ⟨rfl, List.forall_mem_cons.mpr ⟨rfl, List.forall_mem_cons.mpr ⟨rfl, fun _ h9 => absurd h9 List.not_mem_nil⟩⟩⟩⟩)) ?_
      exact NEXT (⟨hC, hD, hkd, hS1.drop, hR, hkr, hE, hn, by omega, hO1, hL1.drop, by omega, ht, hn9, hsF, fun y hy => hsS y (List.mem_append_left _ hy), hq, rfl⟩)
    · exact absurd rfl c305
set_option maxHeartbeats 8000000 in
theorem law_word {p : Program} {l : Launch} {e : Env} {s : State} {m : MethodId} {below : List Frame} {meth : Method} {c : Code} {D : va_G} {cA : ClassId} {b L0 : Nat} {xs : Nat → Int32} (hL0 : L0 ≤ 2048) (C : Cx p s m #[Value.ref b] meth c code 4 R_L D cA (fun q => s.heap.size ≤ q)) (hX : va_X b L0 xs s s.heap) (hbl : b < s.heap.size) {i q : Nat} (hi : i + 4 ≤ L0) (hq : q + 1 ≤ 512) (NEXT : Cont p l e s m below meth c D cA b i q) {hB hM c0 c01 c02 d0 d01 d02 s0 s01 s02 r0 r01 r02 n kd kr e0 v0 l0 b0 rn ks : Nat} {Lc Bc Ld Bd Ls Bs Lr Br E V L B : Nat → Int32} {pl sn wa wf : Int32} {dd rr : List (List Int32)} {en : Nat → Nat} {vl : Nat → Nat → Nat} {st : List ((Nat → Bool) × List (Nat × Nat))} (hI : LInv n Lc Bc Ld Bd Ls Bs Lr Br kd kr dd rr E V L B rn en vl st ks q) : XL p l e s m below meth c D b [(hB, .inr (1, [.ref c0, .ref d0, .ref s0, .ref r0, .int (nI n)])), (c0, .inr (0, [.ref c01, .ref c02, .int (nI 32)])), (c01, .inl (cA, 2096, .inl (Lc))), (c02, .inl (cA, 33, .inl (Bc))), (d0, .inr (0, [.ref d01, .ref d02, .int (nI kd)])), (d01, .inl (cA, 2096, .inl (Ld))), (d02, .inl (cA, 33, .inl (Bd))), (s0, .inr (0, [.ref s01, .ref s02, .int (nI ks)])), (s01, .inl (cA, 3000, .inl (Ls))), (s02, .inl (cA, 13, .inl (Bs))), (r0, .inr (0, [.ref r01, .ref r02, .int (nI kr)])), (r01, .inl (cA, 3001, .inl (Lr))), (r02, .inl (cA, 2, .inl (Br))), (hM, .inr (2, [.ref e0, .ref v0, .int (nI rn), .ref l0, .ref b0, .int (nI ks), .int pl, .int sn, .int wa, .int wf])), (e0, .inl (cA, 33000, .inl (E))), (v0, .inl (cA, 66000, .inl (V))), (l0, .inl (cA, 200000, .inl (L))), (b0, .inl (cA, 15, .inl (B)))] 274 [(3, .int (nI i)), (2, .ref hM), (1, .ref hB), (0, .ref b)] [] := by
  have hbA : ¬ (fun q => s.heap.size ≤ q) b := Nat.not_le.mpr hbl
  have hI0 := hI
  obtain ⟨hC, hD, hkd, hS, hR, hkr, hE, hn, hrq, hO, hL, h12, ht, hn9, hsF, hsS, hq5, hks⟩ := hI
  rcases List.eq_nil_or_concat st with rfl | ⟨st0, z, rfl⟩
  · have hks0 : ks = 0 := by simpa using hks.symm
    subst hks0
    refine x_aload_n C d_L_law_274 rfl rfl ?_
    refine x_aload_n C d_L_law_275 rfl rfl ?_
    refine x_iload_n C d_L_law_276 rfl rfl ?_
    refine x_iconst (v := (nI (1))) C d_L_law_277 (by decide) ?_
    refine x_iaddN C d_L_law_278  ?_
    refine x_sld C hX hbl hbA (by omega) (by omega) d_L_law_279 ?_
    refine x_callVI (wr := [(c0, .inr (0, [.ref c01, .ref c02, .int (nI 32)])), (c01, .inl (cA, 2096, .inl (Lc))), (c02, .inl (cA, 33, .inl (Bc))), (d0, .inr (0, [.ref d01, .ref d02, .int (nI kd)])), (d01, .inl (cA, 2096, .inl (Ld))), (d02, .inl (cA, 33, .inl (Bd))), (r0, .inr (0, [.ref r01, .ref r02, .int (nI kr)])), (r01, .inl (cA, 3001, .inl (Lr))), (r02, .inl (cA, 2, .inl (Br))), (hM, .inr (2, [.ref e0, .ref v0, .int (nI rn), .ref l0, .ref b0, .int (nI 0), .int pl, .int sn, .int wa, .int wf])), (e0, .inl (cA, 33000, .inl (E))), (v0, .inl (cA, 66000, .inl (V))), (l0, .inl (cA, 200000, .inl (L))), (b0, .inl (cA, 15, .inl (B)))]) (rest := []) C (c_B_word_none) d_L_law_280 cd_B_word lk_L_49 dd_B_word rfl ⟨Nat.le_of_ble_eq_true rfl, Nat.le_of_ble_eq_true rfl⟩ ⟨Nat.le_of_ble_eq_true rfl, Nat.le_of_ble_eq_true rfl⟩ 1 0 rfl rfl [0, 7, 8, 9] [1, 2, 3, 4, 5, 6, 10, 11, 12, 13, 14, 15, 16, 17] rfl rfl (by decide) (by decide) (by decide) rfl (Nat.le_of_ble_eq_true rfl) ?_
    intro r_ u_ hp_
    obtain rfl := hp_
    refine x_aload_n C d_L_law_283 rfl rfl ?_
    refine x_aload_n C d_L_law_284 rfl rfl ?_
    refine x_iload_n C d_L_law_285 rfl rfl ?_
    refine x_iconst (v := (nI (1))) C d_L_law_286 (by decide) ?_
    refine x_iaddN C d_L_law_287  ?_
    refine x_sld C hX hbl hbA (by omega) (by omega) d_L_law_288 ?_
    refine x_callVI (wr := [(c0, .inr (0, [.ref c01, .ref c02, .int (nI 32)])), (c01, .inl (cA, 2096, .inl (Lc))), (c02, .inl (cA, 33, .inl (Bc))), (d0, .inr (0, [.ref d01, .ref d02, .int (nI kd)])), (d01, .inl (cA, 2096, .inl (Ld))), (d02, .inl (cA, 33, .inl (Bd))), (r0, .inr (0, [.ref r01, .ref r02, .int (nI kr)])), (r01, .inl (cA, 3001, .inl (Lr))), (r02, .inl (cA, 2, .inl (Br))), (hB, .inr (1, [.ref c0, .ref d0, .ref s0, .ref r0, .int (nI n)])), (s0, .inr (0, [.ref s01, .ref s02, .int (nI 0)])), (s01, .inl (cA, 3000, .inl (Ls))), (s02, .inl (cA, 13, .inl (Bs)))]) (rest := [.int (nI 0)]) C (c_M_word_none) d_L_law_289 cd_M_word lk_L_52 dd_M_word rfl ⟨Nat.le_of_ble_eq_true rfl, Nat.le_of_ble_eq_true rfl⟩ ⟨Nat.le_of_ble_eq_true rfl, Nat.le_of_ble_eq_true rfl⟩ 2 0 rfl rfl [9, 10, 11, 12, 13] [0, 1, 2, 3, 4, 5, 6, 7, 8, 14, 15, 16, 17] rfl rfl (by decide) (by decide) (by decide) rfl (Nat.le_of_ble_eq_true rfl) ?_
    intro r_ u_ hp_
    obtain rfl := hp_
    refine x_icmp_eq (tgt := 349) C d_L_law_292 (by decide)  (fun c292 => ?_) (fun c292 => ?_)
    · refine x_perm (ws' := [(hB, .inr (1, [.ref c0, .ref d0, .ref s0, .ref r0, .int (nI n)])), (c0, .inr (0, [.ref c01, .ref c02, .int (nI 32)])), (c01, .inl (cA, 2096, .inl (Lc))), (c02, .inl (cA, 33, .inl (Bc))), (d0, .inr (0, [.ref d01, .ref d02, .int (nI kd)])), (d01, .inl (cA, 2096, .inl (Ld))), (d02, .inl (cA, 33, .inl (Bd))), (s0, .inr (0, [.ref s01, .ref s02, .int (nI 0)])), (s01, .inl (cA, 3000, .inl (Ls))), (s02, .inl (cA, 13, .inl (Bs))), (r0, .inr (0, [.ref r01, .ref r02, .int (nI kr)])), (r01, .inl (cA, 3001, .inl (Lr))), (r02, .inl (cA, 2, .inl (Br))), (hM, .inr (2, [.ref e0, .ref v0, .int (nI rn), .ref l0, .ref b0, .int (nI 0), .int pl, .int sn, .int wa, .int wf])), (e0, .inl (cA, 33000, .inl (E))), (v0, .inl (cA, 66000, .inl (V))), (l0, .inl (cA, 200000, .inl (L))), (b0, .inl (cA, 15, .inl (B)))]) [9, 0, 1, 2, 3, 4, 5, 10, 11, 12, 6, 7, 8, 13, 14, 15, 16, 17] (by decide) rfl ?_
      refine x_lv (lv' := [(3, .int (nI i)), (2, .ref hM), (1, .ref hB), (0, .ref b)]) (Or.inr (List.forall_mem_cons.mpr ⟨rfl, List.forall_mem_cons.mpr ⟨rfl, List.forall_mem_cons.mpr ⟨rfl, List.forall_mem_cons.mpr ⟨rfl, fun _ h9 => absurd h9 List.not_mem_nil⟩⟩⟩⟩)) ?_
      exact NEXT (hI0.next hq)
    · exact absurd rfl c292
  · rw [List.concat_eq_append] at *
    have hks0 : ks = st0.length + 1 := by rw [← hks]; simp
    subst hks0
    have hS1 := hS
    rw [kT_snoc] at hS1
    have hL1 := hL
    rw [iS_snoc] at hL1
    have hsz : sup n z.1 := hsS z (by simp)
    have hk1 : (kT n st0).length + 1 = st0.length + 1 := by rw [kT_len]
    have h11 : st0.length + 1 ≤ 12 := by simpa using h12
    have hO1 : Ok en rn st0 := fun y hy => hO y (List.mem_append_left _ hy)
    by_cases hx9 : xs (i + 1) < 0
    · refine x_aload_n C d_L_law_274 rfl rfl ?_
      refine x_aload_n C d_L_law_275 rfl rfl ?_
      refine x_iload_n C d_L_law_276 rfl rfl ?_
      refine x_iconst (v := (nI (1))) C d_L_law_277 (by decide) ?_
      refine x_iaddN C d_L_law_278  ?_
      refine x_sld C hX hbl hbA (by omega) (by omega) d_L_law_279 ?_
      refine x_callVI (wr := [(c0, .inr (0, [.ref c01, .ref c02, .int (nI 32)])), (c01, .inl (cA, 2096, .inl (Lc))), (c02, .inl (cA, 33, .inl (Bc))), (d0, .inr (0, [.ref d01, .ref d02, .int (nI kd)])), (d01, .inl (cA, 2096, .inl (Ld))), (d02, .inl (cA, 33, .inl (Bd))), (r0, .inr (0, [.ref r01, .ref r02, .int (nI kr)])), (r01, .inl (cA, 3001, .inl (Lr))), (r02, .inl (cA, 2, .inl (Br))), (hM, .inr (2, [.ref e0, .ref v0, .int (nI rn), .ref l0, .ref b0, .int (nI (st0.length + 1)), .int pl, .int sn, .int wa, .int wf])), (e0, .inl (cA, 33000, .inl (E))), (v0, .inl (cA, 66000, .inl (V))), (l0, .inl (cA, 200000, .inl (L))), (b0, .inl (cA, 15, .inl (B)))]) (rest := []) C (c_B_word (x := xs (i + 1)) hS1 hk1) d_L_law_280 cd_B_word lk_L_49 dd_B_word rfl ⟨Nat.le_of_ble_eq_true rfl, Nat.le_of_ble_eq_true rfl⟩ ⟨Nat.le_of_ble_eq_true rfl, Nat.le_of_ble_eq_true rfl⟩ 1 0 rfl rfl [0, 7, 8, 9] [1, 2, 3, 4, 5, 6, 10, 11, 12, 13, 14, 15, 16, 17] rfl rfl (by decide) (by decide) (by decide) rfl (Nat.le_of_ble_eq_true rfl) ?_
      intro r1 u_ hp1
      refine x_aload_n C d_L_law_283 rfl rfl ?_
      refine x_aload_n C d_L_law_284 rfl rfl ?_
      refine x_iload_n C d_L_law_285 rfl rfl ?_
      refine x_iconst (v := (nI (1))) C d_L_law_286 (by decide) ?_
      refine x_iaddN C d_L_law_287  ?_
      refine x_sld C hX hbl hbA (by omega) (by omega) d_L_law_288 ?_
      refine x_callVI (wr := [(c0, .inr (0, [.ref c01, .ref c02, .int (nI 32)])), (c01, .inl (cA, 2096, .inl (Lc))), (c02, .inl (cA, 33, .inl (Bc))), (d0, .inr (0, [.ref d01, .ref d02, .int (nI kd)])), (d01, .inl (cA, 2096, .inl (Ld))), (d02, .inl (cA, 33, .inl (Bd))), (r0, .inr (0, [.ref r01, .ref r02, .int (nI kr)])), (r01, .inl (cA, 3001, .inl (Lr))), (r02, .inl (cA, 2, .inl (Br))), (hB, .inr (1, [.ref c0, .ref d0, .ref s0, .ref r0, .int (nI n)])), (s0, .inr (0, [.ref s01, .ref s02, .int (nI (st0.length + 1))])), (s01, .inl (cA, 3000, .inl (Ls))), (s02, .inl (cA, 13, .inl (Bs)))]) (rest := [.int r1]) C (c_M_word_neg hx9 (by omega) (by omega)) d_L_law_289 cd_M_word lk_L_52 dd_M_word rfl ⟨Nat.le_of_ble_eq_true rfl, Nat.le_of_ble_eq_true rfl⟩ ⟨Nat.le_of_ble_eq_true rfl, Nat.le_of_ble_eq_true rfl⟩ 2 0 rfl rfl [9, 10, 11, 12, 13] [0, 1, 2, 3, 4, 5, 6, 7, 8, 14, 15, 16, 17] rfl rfl (by decide) (by decide) (by decide) rfl (Nat.le_of_ble_eq_true rfl) ?_
      intro r_ u_ hp_
      obtain rfl := hp_
      refine x_icmp_eq (tgt := 349) C d_L_law_292 (by decide)  (fun c292 => ?_) (fun c292 => ?_)
      · refine x_perm (ws' := [(hB, .inr (1, [.ref c0, .ref d0, .ref s0, .ref r0, .int (nI n)])), (c0, .inr (0, [.ref c01, .ref c02, .int (nI 32)])), (c01, .inl (cA, 2096, .inl (Lc))), (c02, .inl (cA, 33, .inl (Bc))), (d0, .inr (0, [.ref d01, .ref d02, .int (nI kd)])), (d01, .inl (cA, 2096, .inl (Ld))), (d02, .inl (cA, 33, .inl (Bd))), (s0, .inr (0, [.ref s01, .ref s02, .int (nI (st0.length + 1))])), (s01, .inl (cA, 3000, .inl (Ls))), (s02, .inl (cA, 13, .inl (Bs))), (r0, .inr (0, [.ref r01, .ref r02, .int (nI kr)])), (r01, .inl (cA, 3001, .inl (Lr))), (r02, .inl (cA, 2, .inl (Br))), (hM, .inr (2, [.ref e0, .ref v0, .int (nI rn), .ref l0, .ref b0, .int (nI (st0.length + 1)), .int pl, .int sn, .int wa, .int wf])), (e0, .inl (cA, 33000, .inl (E))), (v0, .inl (cA, 66000, .inl (V))), (l0, .inl (cA, 200000, .inl (L))), (b0, .inl (cA, 15, .inl (B)))]) [9, 0, 1, 2, 3, 4, 5, 10, 11, 12, 6, 7, 8, 13, 14, 15, 16, 17] (by decide) rfl ?_
        refine x_lv (lv' := [(3, .int (nI i)), (2, .ref hM), (1, .ref hB), (0, .ref b)]) (Or.inr (List.forall_mem_cons.mpr ⟨rfl, List.forall_mem_cons.mpr ⟨rfl, List.forall_mem_cons.mpr ⟨rfl, List.forall_mem_cons.mpr ⟨rfl, fun _ h9 => absurd h9 List.not_mem_nil⟩⟩⟩⟩)) ?_
        exact NEXT (hI0.next hq)
      · exact absurd (by rw [hp1, if_neg (fun w => w.1 hx9)]) c292
    · obtain ⟨j, hj, hxj⟩ := nI_of hx9
      have hwl := Wd_len (n := n) (f := z.1) hn9
      have hwl2 := wI_len n z.1
      refine x_aload_n C d_L_law_274 rfl rfl ?_
      refine x_aload_n C d_L_law_275 rfl rfl ?_
      refine x_iload_n C d_L_law_276 rfl rfl ?_
      refine x_iconst (v := (nI (1))) C d_L_law_277 (by decide) ?_
      refine x_iaddN C d_L_law_278  ?_
      refine x_sld C hX hbl hbA (by omega) (by omega) d_L_law_279 ?_
      refine x_callVI (wr := [(c0, .inr (0, [.ref c01, .ref c02, .int (nI 32)])), (c01, .inl (cA, 2096, .inl (Lc))), (c02, .inl (cA, 33, .inl (Bc))), (d0, .inr (0, [.ref d01, .ref d02, .int (nI kd)])), (d01, .inl (cA, 2096, .inl (Ld))), (d02, .inl (cA, 33, .inl (Bd))), (r0, .inr (0, [.ref r01, .ref r02, .int (nI kr)])), (r01, .inl (cA, 3001, .inl (Lr))), (r02, .inl (cA, 2, .inl (Br))), (hM, .inr (2, [.ref e0, .ref v0, .int (nI rn), .ref l0, .ref b0, .int (nI (st0.length + 1)), .int pl, .int sn, .int wa, .int wf])), (e0, .inl (cA, 33000, .inl (E))), (v0, .inl (cA, 66000, .inl (V))), (l0, .inl (cA, 200000, .inl (L))), (b0, .inl (cA, 15, .inl (B)))]) (rest := []) C (c_B_word (x := xs (i + 1)) hS1 hk1) d_L_law_280 cd_B_word lk_L_49 dd_B_word rfl ⟨Nat.le_of_ble_eq_true rfl, Nat.le_of_ble_eq_true rfl⟩ ⟨Nat.le_of_ble_eq_true rfl, Nat.le_of_ble_eq_true rfl⟩ 1 0 rfl rfl [0, 7, 8, 9] [1, 2, 3, 4, 5, 6, 10, 11, 12, 13, 14, 15, 16, 17] rfl rfl (by decide) (by decide) (by decide) rfl (Nat.le_of_ble_eq_true rfl) ?_
      intro r1 u_ hp1
      refine x_aload_n C d_L_law_283 rfl rfl ?_
      refine x_aload_n C d_L_law_284 rfl rfl ?_
      refine x_iload_n C d_L_law_285 rfl rfl ?_
      refine x_iconst (v := (nI (1))) C d_L_law_286 (by decide) ?_
      refine x_iaddN C d_L_law_287  ?_
      refine x_sld C hX hbl hbA (by omega) (by omega) d_L_law_288 ?_
      refine x_top (y := (nI (j))) hxj ?_
      refine x_callVI (wr := [(c0, .inr (0, [.ref c01, .ref c02, .int (nI 32)])), (c01, .inl (cA, 2096, .inl (Lc))), (c02, .inl (cA, 33, .inl (Bc))), (d0, .inr (0, [.ref d01, .ref d02, .int (nI kd)])), (d01, .inl (cA, 2096, .inl (Ld))), (d02, .inl (cA, 33, .inl (Bd))), (r0, .inr (0, [.ref r01, .ref r02, .int (nI kr)])), (r01, .inl (cA, 3001, .inl (Lr))), (r02, .inl (cA, 2, .inl (Br))), (hB, .inr (1, [.ref c0, .ref d0, .ref s0, .ref r0, .int (nI n)])), (s0, .inr (0, [.ref s01, .ref s02, .int (nI (st0.length + 1))])), (s01, .inl (cA, 3000, .inl (Ls))), (s02, .inl (cA, 13, .inl (Bs)))]) (rest := [.int r1]) C (c_M_word (p := z) (x := j) hE hn hO hL rfl hj) d_L_law_289 cd_M_word lk_L_52 dd_M_word rfl ⟨Nat.le_of_ble_eq_true rfl, Nat.le_of_ble_eq_true rfl⟩ ⟨Nat.le_of_ble_eq_true rfl, Nat.le_of_ble_eq_true rfl⟩ 2 0 rfl rfl [9, 10, 11, 12, 13] [0, 1, 2, 3, 4, 5, 6, 7, 8, 14, 15, 16, 17] rfl rfl (by decide) (by decide) (by decide) rfl (Nat.le_of_ble_eq_true rfl) ?_
      intro r_ u9 hp_
      obtain rfl := hp_
      refine x_icmp_eq (tgt := 349) C d_L_law_292 (by decide)  (fun c292 => ?_) (fun c292 => ?_)
      · refine x_perm (ws' := [(hB, .inr (1, [.ref c0, .ref d0, .ref s0, .ref r0, .int (nI n)])), (c0, .inr (0, [.ref c01, .ref c02, .int (nI 32)])), (c01, .inl (cA, 2096, .inl (Lc))), (c02, .inl (cA, 33, .inl (Bc))), (d0, .inr (0, [.ref d01, .ref d02, .int (nI kd)])), (d01, .inl (cA, 2096, .inl (Ld))), (d02, .inl (cA, 33, .inl (Bd))), (s0, .inr (0, [.ref s01, .ref s02, .int (nI (st0.length + 1))])), (s01, .inl (cA, 3000, .inl (Ls))), (s02, .inl (cA, 13, .inl (Bs))), (r0, .inr (0, [.ref r01, .ref r02, .int (nI kr)])), (r01, .inl (cA, 3001, .inl (Lr))), (r02, .inl (cA, 2, .inl (Br))), (hM, .inr (2, [.ref e0, .ref v0, .int (nI rn), .ref l0, .ref b0, .int (nI (st0.length + 1)), .int (u9.1), .int (u9.2.1), .int (u9.2.2.1), .int (u9.2.2.2)])), (e0, .inl (cA, 33000, .inl (E))), (v0, .inl (cA, 66000, .inl (V))), (l0, .inl (cA, 200000, .inl (L))), (b0, .inl (cA, 15, .inl (B)))]) [9, 0, 1, 2, 3, 4, 5, 10, 11, 12, 6, 7, 8, 13, 14, 15, 16, 17] (by decide) rfl ?_
        refine x_lv (lv' := [(3, .int (nI i)), (2, .ref hM), (1, .ref hB), (0, .ref b)]) (Or.inr (List.forall_mem_cons.mpr ⟨rfl, List.forall_mem_cons.mpr ⟨rfl, List.forall_mem_cons.mpr ⟨rfl, List.forall_mem_cons.mpr ⟨rfl, fun _ h9 => absurd h9 List.not_mem_nil⟩⟩⟩⟩)) ?_
        exact NEXT (hI0.next hq)
      · refine absurd ?_ c292
        rw [hp1, hxj]
        by_cases h9 : j < (wI n z.1).length
        · rw [if_pos ⟨nI_pos hj, nI_lt h9 (by omega)⟩, nI_clamp hj]
        · rw [if_neg (fun w => h9 ((nI_ltI hj (by omega)).mp w.2)), List.getD_eq_getElem?_getD, List.getElem?_eq_none (by omega)]
          rfl
set_option maxHeartbeats 8000000 in
theorem law_after {p : Program} {l : Launch} {e : Env} {s : State} {m : MethodId} {below : List Frame} {meth : Method} {c : Code} {D : va_G} {cA : ClassId} {b L0 : Nat} {xs : Nat → Int32} (hL0 : L0 ≤ 2048) (C : Cx p s m #[Value.ref b] meth c code 4 R_L D cA (fun q => s.heap.size ≤ q)) (hX : va_X b L0 xs s s.heap) (hbl : b < s.heap.size) {i q : Nat} (hi : i + 4 ≤ L0) (hq : q + 1 ≤ 512) (NEXT : Cont p l e s m below meth c D cA b i q) {hB hM c0 c01 c02 d0 d01 d02 s0 s01 s02 r0 r01 r02 n kd kr e0 v0 l0 b0 rn ks : Nat} {Lc Bc Ld Bd Ls Bs Lr Br E V L B : Nat → Int32} {pl sn wa wf : Int32} {dd rr : List (List Int32)} {en : Nat → Nat} {vl : Nat → Nat → Nat} {st : List ((Nat → Bool) × List (Nat × Nat))} (hI : LInv n Lc Bc Ld Bd Ls Bs Lr Br kd kr dd rr E V L B rn en vl st ks q) : XL p l e s m below meth c D b [(hB, .inr (1, [.ref c0, .ref d0, .ref s0, .ref r0, .int (nI n)])), (c0, .inr (0, [.ref c01, .ref c02, .int (nI 32)])), (c01, .inl (cA, 2096, .inl (Lc))), (c02, .inl (cA, 33, .inl (Bc))), (d0, .inr (0, [.ref d01, .ref d02, .int (nI kd)])), (d01, .inl (cA, 2096, .inl (Ld))), (d02, .inl (cA, 33, .inl (Bd))), (s0, .inr (0, [.ref s01, .ref s02, .int (nI ks)])), (s01, .inl (cA, 3000, .inl (Ls))), (s02, .inl (cA, 13, .inl (Bs))), (r0, .inr (0, [.ref r01, .ref r02, .int (nI kr)])), (r01, .inl (cA, 3001, .inl (Lr))), (r02, .inl (cA, 2, .inl (Br))), (hM, .inr (2, [.ref e0, .ref v0, .int (nI rn), .ref l0, .ref b0, .int (nI ks), .int pl, .int sn, .int wa, .int wf])), (e0, .inl (cA, 33000, .inl (E))), (v0, .inl (cA, 66000, .inl (V))), (l0, .inl (cA, 200000, .inl (L))), (b0, .inl (cA, 15, .inl (B)))] 238 [(3, .int (nI i)), (2, .ref hM), (1, .ref hB), (0, .ref b)] [] := by
  have hbA : ¬ (fun q => s.heap.size ≤ q) b := Nat.not_le.mpr hbl
  have hI0 := hI
  obtain ⟨hC, hD, hkd, hS, hR, hkr, hE, hn, hrq, hO, hL, h12, ht, hn9, hsF, hsS, hq5, hks⟩ := hI
  rcases List.eq_nil_or_concat st with rfl | ⟨st0, z, rfl⟩
  · have hks0 : ks = 0 := by simpa using hks.symm
    subst hks0
    have hB0 : B 0 = nI 0 := by rw [hL.bd (Nat.zero_le _)]; rfl
    refine x_aload_n C d_L_law_238 rfl rfl ?_
    refine x_aload_n C d_L_law_239 rfl rfl ?_
    refine x_iload_n C d_L_law_240 rfl rfl ?_
    refine x_iconst (v := (nI (1))) C d_L_law_241 (by decide) ?_
    refine x_iaddN C d_L_law_242  ?_
    refine x_sld C hX hbl hbA (by omega) (by omega) d_L_law_243 ?_
    refine x_callVI (wr := [(c0, .inr (0, [.ref c01, .ref c02, .int (nI 32)])), (c01, .inl (cA, 2096, .inl (Lc))), (c02, .inl (cA, 33, .inl (Bc))), (d0, .inr (0, [.ref d01, .ref d02, .int (nI kd)])), (d01, .inl (cA, 2096, .inl (Ld))), (d02, .inl (cA, 33, .inl (Bd))), (r0, .inr (0, [.ref r01, .ref r02, .int (nI kr)])), (r01, .inl (cA, 3001, .inl (Lr))), (r02, .inl (cA, 2, .inl (Br))), (hM, .inr (2, [.ref e0, .ref v0, .int (nI rn), .ref l0, .ref b0, .int (nI 0), .int pl, .int sn, .int wa, .int wf])), (e0, .inl (cA, 33000, .inl (E))), (v0, .inl (cA, 66000, .inl (V))), (l0, .inl (cA, 200000, .inl (L))), (b0, .inl (cA, 15, .inl (B)))]) (rest := []) C (c_B_after_none) d_L_law_244 cd_B_after lk_L_41 dd_B_after rfl ⟨Nat.le_of_ble_eq_true rfl, Nat.le_of_ble_eq_true rfl⟩ ⟨Nat.le_of_ble_eq_true rfl, Nat.le_of_ble_eq_true rfl⟩ 1 0 rfl rfl [0, 7, 8, 9] [1, 2, 3, 4, 5, 6, 10, 11, 12, 13, 14, 15, 16, 17] rfl rfl (by decide) (by decide) (by decide) rfl (Nat.le_of_ble_eq_true rfl) ?_
    intro r_ u_ hp_
    obtain rfl := hp_
    refine x_aload_n C d_L_law_247 rfl rfl ?_
    refine x_aload_n C d_L_law_248 rfl rfl ?_
    refine x_iload_n C d_L_law_249 rfl rfl ?_
    refine x_iconst (v := (nI (1))) C d_L_law_250 (by decide) ?_
    refine x_iaddN C d_L_law_251  ?_
    refine x_sld C hX hbl hbA (by omega) (by omega) d_L_law_252 ?_
    refine x_callVI (wr := [(c0, .inr (0, [.ref c01, .ref c02, .int (nI 32)])), (c01, .inl (cA, 2096, .inl (Lc))), (c02, .inl (cA, 33, .inl (Bc))), (d0, .inr (0, [.ref d01, .ref d02, .int (nI kd)])), (d01, .inl (cA, 2096, .inl (Ld))), (d02, .inl (cA, 33, .inl (Bd))), (r0, .inr (0, [.ref r01, .ref r02, .int (nI kr)])), (r01, .inl (cA, 3001, .inl (Lr))), (r02, .inl (cA, 2, .inl (Br))), (hB, .inr (1, [.ref c0, .ref d0, .ref s0, .ref r0, .int (nI n)])), (s0, .inr (0, [.ref s01, .ref s02, .int (nI 0)])), (s01, .inl (cA, 3000, .inl (Ls))), (s02, .inl (cA, 13, .inl (Bs)))]) (rest := [.int ((-1))]) C (c_M_after_none hB0) d_L_law_253 cd_M_after lk_L_44 dd_M_after rfl ⟨Nat.le_of_ble_eq_true rfl, Nat.le_of_ble_eq_true rfl⟩ ⟨Nat.le_of_ble_eq_true rfl, Nat.le_of_ble_eq_true rfl⟩ 2 0 rfl rfl [9, 10, 11, 12, 13] [0, 1, 2, 3, 4, 5, 6, 7, 8, 14, 15, 16, 17] rfl rfl (by decide) (by decide) (by decide) rfl (Nat.le_of_ble_eq_true rfl) ?_
    intro r_ u_ hp_
    obtain rfl := hp_
    refine x_icmp_eq (tgt := 349) C d_L_law_256 (by decide)  (fun c256 => ?_) (fun c256 => ?_)
    · refine x_perm (ws' := [(hB, .inr (1, [.ref c0, .ref d0, .ref s0, .ref r0, .int (nI n)])), (c0, .inr (0, [.ref c01, .ref c02, .int (nI 32)])), (c01, .inl (cA, 2096, .inl (Lc))), (c02, .inl (cA, 33, .inl (Bc))), (d0, .inr (0, [.ref d01, .ref d02, .int (nI kd)])), (d01, .inl (cA, 2096, .inl (Ld))), (d02, .inl (cA, 33, .inl (Bd))), (s0, .inr (0, [.ref s01, .ref s02, .int (nI 0)])), (s01, .inl (cA, 3000, .inl (Ls))), (s02, .inl (cA, 13, .inl (Bs))), (r0, .inr (0, [.ref r01, .ref r02, .int (nI kr)])), (r01, .inl (cA, 3001, .inl (Lr))), (r02, .inl (cA, 2, .inl (Br))), (hM, .inr (2, [.ref e0, .ref v0, .int (nI rn), .ref l0, .ref b0, .int (nI 0), .int pl, .int sn, .int wa, .int wf])), (e0, .inl (cA, 33000, .inl (E))), (v0, .inl (cA, 66000, .inl (V))), (l0, .inl (cA, 200000, .inl (L))), (b0, .inl (cA, 15, .inl (B)))]) [9, 0, 1, 2, 3, 4, 5, 10, 11, 12, 6, 7, 8, 13, 14, 15, 16, 17] (by decide) rfl ?_
      refine x_lv (lv' := [(3, .int (nI i)), (2, .ref hM), (1, .ref hB), (0, .ref b)]) (Or.inr (List.forall_mem_cons.mpr ⟨rfl, List.forall_mem_cons.mpr ⟨rfl, List.forall_mem_cons.mpr ⟨rfl, List.forall_mem_cons.mpr ⟨rfl, fun _ h9 => absurd h9 List.not_mem_nil⟩⟩⟩⟩)) ?_
      exact NEXT (hI0.next hq)
    · exact absurd rfl c256
  · rw [List.concat_eq_append] at *
    have hks0 : ks = st0.length + 1 := by rw [← hks]; simp
    subst hks0
    have hS1 := hS
    rw [kT_snoc] at hS1
    have hL1 := hL
    rw [iS_snoc] at hL1
    have hsz : sup n z.1 := hsS z (by simp)
    have hk1 : (kT n st0).length + 1 = st0.length + 1 := by rw [kT_len]
    have h11 : st0.length + 1 ≤ 12 := by simpa using h12
    have hO1 : Ok en rn st0 := fun y hy => hO y (List.mem_append_left _ hy)
    by_cases hx9 : xs (i + 1) < 0
    · refine x_aload_n C d_L_law_238 rfl rfl ?_
      refine x_aload_n C d_L_law_239 rfl rfl ?_
      refine x_iload_n C d_L_law_240 rfl rfl ?_
      refine x_iconst (v := (nI (1))) C d_L_law_241 (by decide) ?_
      refine x_iaddN C d_L_law_242  ?_
      refine x_sld C hX hbl hbA (by omega) (by omega) d_L_law_243 ?_
      refine x_callVI (wr := [(c0, .inr (0, [.ref c01, .ref c02, .int (nI 32)])), (c01, .inl (cA, 2096, .inl (Lc))), (c02, .inl (cA, 33, .inl (Bc))), (d0, .inr (0, [.ref d01, .ref d02, .int (nI kd)])), (d01, .inl (cA, 2096, .inl (Ld))), (d02, .inl (cA, 33, .inl (Bd))), (r0, .inr (0, [.ref r01, .ref r02, .int (nI kr)])), (r01, .inl (cA, 3001, .inl (Lr))), (r02, .inl (cA, 2, .inl (Br))), (hM, .inr (2, [.ref e0, .ref v0, .int (nI rn), .ref l0, .ref b0, .int (nI (st0.length + 1)), .int pl, .int sn, .int wa, .int wf])), (e0, .inl (cA, 33000, .inl (E))), (v0, .inl (cA, 66000, .inl (V))), (l0, .inl (cA, 200000, .inl (L))), (b0, .inl (cA, 15, .inl (B)))]) (rest := []) C (c_B_after_neg hS1 hk1 hx9 hsz hn9) d_L_law_244 cd_B_after lk_L_41 dd_B_after rfl ⟨Nat.le_of_ble_eq_true rfl, Nat.le_of_ble_eq_true rfl⟩ ⟨Nat.le_of_ble_eq_true rfl, Nat.le_of_ble_eq_true rfl⟩ 1 0 rfl rfl [0, 7, 8, 9] [1, 2, 3, 4, 5, 6, 10, 11, 12, 13, 14, 15, 16, 17] rfl rfl (by decide) (by decide) (by decide) rfl (Nat.le_of_ble_eq_true rfl) ?_
      intro r1 u_ hp1
      refine x_aload_n C d_L_law_247 rfl rfl ?_
      refine x_aload_n C d_L_law_248 rfl rfl ?_
      refine x_iload_n C d_L_law_249 rfl rfl ?_
      refine x_iconst (v := (nI (1))) C d_L_law_250 (by decide) ?_
      refine x_iaddN C d_L_law_251  ?_
      refine x_sld C hX hbl hbA (by omega) (by omega) d_L_law_252 ?_
      refine x_callVI (wr := [(c0, .inr (0, [.ref c01, .ref c02, .int (nI 32)])), (c01, .inl (cA, 2096, .inl (Lc))), (c02, .inl (cA, 33, .inl (Bc))), (d0, .inr (0, [.ref d01, .ref d02, .int (nI kd)])), (d01, .inl (cA, 2096, .inl (Ld))), (d02, .inl (cA, 33, .inl (Bd))), (r0, .inr (0, [.ref r01, .ref r02, .int (nI kr)])), (r01, .inl (cA, 3001, .inl (Lr))), (r02, .inl (cA, 2, .inl (Br))), (hB, .inr (1, [.ref c0, .ref d0, .ref s0, .ref r0, .int (nI n)])), (s0, .inr (0, [.ref s01, .ref s02, .int (nI (st0.length + 1))])), (s01, .inl (cA, 3000, .inl (Ls))), (s02, .inl (cA, 13, .inl (Bs)))]) (rest := [.int r1]) C (c_M_after_neg (p := z) hE hn hO hL rfl hx9) d_L_law_253 cd_M_after lk_L_44 dd_M_after rfl ⟨Nat.le_of_ble_eq_true rfl, Nat.le_of_ble_eq_true rfl⟩ ⟨Nat.le_of_ble_eq_true rfl, Nat.le_of_ble_eq_true rfl⟩ 2 0 rfl rfl [9, 10, 11, 12, 13] [0, 1, 2, 3, 4, 5, 6, 7, 8, 14, 15, 16, 17] rfl rfl (by decide) (by decide) (by decide) rfl (Nat.le_of_ble_eq_true rfl) ?_
      intro r2 u_ hp2
      refine x_icmp_eq (tgt := 349) C d_L_law_256 (by decide)  (fun c256 => ?_) (fun c256 => ?_)
      · refine x_perm (ws' := [(hB, .inr (1, [.ref c0, .ref d0, .ref s0, .ref r0, .int (nI n)])), (c0, .inr (0, [.ref c01, .ref c02, .int (nI 32)])), (c01, .inl (cA, 2096, .inl (Lc))), (c02, .inl (cA, 33, .inl (Bc))), (d0, .inr (0, [.ref d01, .ref d02, .int (nI kd)])), (d01, .inl (cA, 2096, .inl (Ld))), (d02, .inl (cA, 33, .inl (Bd))), (s0, .inr (0, [.ref s01, .ref s02, .int (nI (st0.length + 1))])), (s01, .inl (cA, 3000, .inl (Ls))), (s02, .inl (cA, 13, .inl (Bs))), (r0, .inr (0, [.ref r01, .ref r02, .int (nI kr)])), (r01, .inl (cA, 3001, .inl (Lr))), (r02, .inl (cA, 2, .inl (Br))), (hM, .inr (2, [.ref e0, .ref v0, .int (nI rn), .ref l0, .ref b0, .int (nI (st0.length + 1)), .int pl, .int sn, .int wa, .int wf])), (e0, .inl (cA, 33000, .inl (E))), (v0, .inl (cA, 66000, .inl (V))), (l0, .inl (cA, 200000, .inl (L))), (b0, .inl (cA, 15, .inl (B)))]) [9, 0, 1, 2, 3, 4, 5, 10, 11, 12, 6, 7, 8, 13, 14, 15, 16, 17] (by decide) rfl ?_
        refine x_lv (lv' := [(3, .int (nI i)), (2, .ref hM), (1, .ref hB), (0, .ref b)]) (Or.inr (List.forall_mem_cons.mpr ⟨rfl, List.forall_mem_cons.mpr ⟨rfl, List.forall_mem_cons.mpr ⟨rfl, List.forall_mem_cons.mpr ⟨rfl, fun _ h9 => absurd h9 List.not_mem_nil⟩⟩⟩⟩)) ?_
        exact NEXT (hI0.next hq)
      · exact absurd (fst_uni hp1 hp2) c256
    · obtain ⟨j, hj, hxj⟩ := nI_of hx9
      by_cases hjn : j < n
      · refine x_aload_n C d_L_law_238 rfl rfl ?_
        refine x_aload_n C d_L_law_239 rfl rfl ?_
        refine x_iload_n C d_L_law_240 rfl rfl ?_
        refine x_iconst (v := (nI (1))) C d_L_law_241 (by decide) ?_
        refine x_iaddN C d_L_law_242  ?_
        refine x_sld C hX hbl hbA (by omega) (by omega) d_L_law_243 ?_
        refine x_top (y := (nI (j))) hxj ?_
        refine x_callVI (wr := [(c0, .inr (0, [.ref c01, .ref c02, .int (nI 32)])), (c01, .inl (cA, 2096, .inl (Lc))), (c02, .inl (cA, 33, .inl (Bc))), (d0, .inr (0, [.ref d01, .ref d02, .int (nI kd)])), (d01, .inl (cA, 2096, .inl (Ld))), (d02, .inl (cA, 33, .inl (Bd))), (r0, .inr (0, [.ref r01, .ref r02, .int (nI kr)])), (r01, .inl (cA, 3001, .inl (Lr))), (r02, .inl (cA, 2, .inl (Br))), (hM, .inr (2, [.ref e0, .ref v0, .int (nI rn), .ref l0, .ref b0, .int (nI (st0.length + 1)), .int pl, .int sn, .int wa, .int wf])), (e0, .inl (cA, 33000, .inl (E))), (v0, .inl (cA, 66000, .inl (V))), (l0, .inl (cA, 200000, .inl (L))), (b0, .inl (cA, 15, .inl (B)))]) (rest := []) C (c_B_after_pos (j := j) hS1 hk1 hjn hsz hn9) d_L_law_244 cd_B_after lk_L_41 dd_B_after rfl ⟨Nat.le_of_ble_eq_true rfl, Nat.le_of_ble_eq_true rfl⟩ ⟨Nat.le_of_ble_eq_true rfl, Nat.le_of_ble_eq_true rfl⟩ 1 0 rfl rfl [0, 7, 8, 9] [1, 2, 3, 4, 5, 6, 10, 11, 12, 13, 14, 15, 16, 17] rfl rfl (by decide) (by decide) (by decide) rfl (Nat.le_of_ble_eq_true rfl) ?_
        intro r1 u_ hp1
        refine x_aload_n C d_L_law_247 rfl rfl ?_
        refine x_aload_n C d_L_law_248 rfl rfl ?_
        refine x_iload_n C d_L_law_249 rfl rfl ?_
        refine x_iconst (v := (nI (1))) C d_L_law_250 (by decide) ?_
        refine x_iaddN C d_L_law_251  ?_
        refine x_sld C hX hbl hbA (by omega) (by omega) d_L_law_252 ?_
        refine x_top (y := (nI (j))) hxj ?_
        refine x_callVI (wr := [(c0, .inr (0, [.ref c01, .ref c02, .int (nI 32)])), (c01, .inl (cA, 2096, .inl (Lc))), (c02, .inl (cA, 33, .inl (Bc))), (d0, .inr (0, [.ref d01, .ref d02, .int (nI kd)])), (d01, .inl (cA, 2096, .inl (Ld))), (d02, .inl (cA, 33, .inl (Bd))), (r0, .inr (0, [.ref r01, .ref r02, .int (nI kr)])), (r01, .inl (cA, 3001, .inl (Lr))), (r02, .inl (cA, 2, .inl (Br))), (hB, .inr (1, [.ref c0, .ref d0, .ref s0, .ref r0, .int (nI n)])), (s0, .inr (0, [.ref s01, .ref s02, .int (nI (st0.length + 1))])), (s01, .inl (cA, 3000, .inl (Ls))), (s02, .inl (cA, 13, .inl (Bs)))]) (rest := [.int r1]) C (c_M_after_pos (p := z) (j := j) hE hn hO hL rfl hj) d_L_law_253 cd_M_after lk_L_44 dd_M_after rfl ⟨Nat.le_of_ble_eq_true rfl, Nat.le_of_ble_eq_true rfl⟩ ⟨Nat.le_of_ble_eq_true rfl, Nat.le_of_ble_eq_true rfl⟩ 2 0 rfl rfl [9, 10, 11, 12, 13] [0, 1, 2, 3, 4, 5, 6, 7, 8, 14, 15, 16, 17] rfl rfl (by decide) (by decide) (by decide) rfl (Nat.le_of_ble_eq_true rfl) ?_
        intro r2 u_ hp2
        refine x_icmp_eq (tgt := 349) C d_L_law_256 (by decide)  (fun c256 => ?_) (fun c256 => ?_)
        · refine x_perm (ws' := [(hB, .inr (1, [.ref c0, .ref d0, .ref s0, .ref r0, .int (nI n)])), (c0, .inr (0, [.ref c01, .ref c02, .int (nI 32)])), (c01, .inl (cA, 2096, .inl (Lc))), (c02, .inl (cA, 33, .inl (Bc))), (d0, .inr (0, [.ref d01, .ref d02, .int (nI kd)])), (d01, .inl (cA, 2096, .inl (Ld))), (d02, .inl (cA, 33, .inl (Bd))), (s0, .inr (0, [.ref s01, .ref s02, .int (nI (st0.length + 1))])), (s01, .inl (cA, 3000, .inl (Ls))), (s02, .inl (cA, 13, .inl (Bs))), (r0, .inr (0, [.ref r01, .ref r02, .int (nI kr)])), (r01, .inl (cA, 3001, .inl (Lr))), (r02, .inl (cA, 2, .inl (Br))), (hM, .inr (2, [.ref e0, .ref v0, .int (nI rn), .ref l0, .ref b0, .int (nI (st0.length + 1)), .int pl, .int sn, .int wa, .int wf])), (e0, .inl (cA, 33000, .inl (E))), (v0, .inl (cA, 66000, .inl (V))), (l0, .inl (cA, 200000, .inl (L))), (b0, .inl (cA, 15, .inl (B)))]) [9, 0, 1, 2, 3, 4, 5, 10, 11, 12, 6, 7, 8, 13, 14, 15, 16, 17] (by decide) rfl ?_
          refine x_lv (lv' := [(3, .int (nI i)), (2, .ref hM), (1, .ref hB), (0, .ref b)]) (Or.inr (List.forall_mem_cons.mpr ⟨rfl, List.forall_mem_cons.mpr ⟨rfl, List.forall_mem_cons.mpr ⟨rfl, List.forall_mem_cons.mpr ⟨rfl, fun _ h9 => absurd h9 List.not_mem_nil⟩⟩⟩⟩)) ?_
          exact NEXT (hI0.next hq)
        · exact absurd (fst_uni hp1 hp2) c256
      · refine x_aload_n C d_L_law_238 rfl rfl ?_
        refine x_aload_n C d_L_law_239 rfl rfl ?_
        refine x_iload_n C d_L_law_240 rfl rfl ?_
        refine x_iconst (v := (nI (1))) C d_L_law_241 (by decide) ?_
        refine x_iaddN C d_L_law_242  ?_
        refine x_sld C hX hbl hbA (by omega) (by omega) d_L_law_243 ?_
        refine x_top (y := (nI (j))) hxj ?_
        refine x_callVI (wr := [(c0, .inr (0, [.ref c01, .ref c02, .int (nI 32)])), (c01, .inl (cA, 2096, .inl (Lc))), (c02, .inl (cA, 33, .inl (Bc))), (d0, .inr (0, [.ref d01, .ref d02, .int (nI kd)])), (d01, .inl (cA, 2096, .inl (Ld))), (d02, .inl (cA, 33, .inl (Bd))), (r0, .inr (0, [.ref r01, .ref r02, .int (nI kr)])), (r01, .inl (cA, 3001, .inl (Lr))), (r02, .inl (cA, 2, .inl (Br))), (hM, .inr (2, [.ref e0, .ref v0, .int (nI rn), .ref l0, .ref b0, .int (nI (st0.length + 1)), .int pl, .int sn, .int wa, .int wf])), (e0, .inl (cA, 33000, .inl (E))), (v0, .inl (cA, 66000, .inl (V))), (l0, .inl (cA, 200000, .inl (L))), (b0, .inl (cA, 15, .inl (B)))]) (rest := []) C (c_B_after_out (x := nI j) hS1 hk1 (nI_le (by omega) hj)) d_L_law_244 cd_B_after lk_L_41 dd_B_after rfl ⟨Nat.le_of_ble_eq_true rfl, Nat.le_of_ble_eq_true rfl⟩ ⟨Nat.le_of_ble_eq_true rfl, Nat.le_of_ble_eq_true rfl⟩ 1 0 rfl rfl [0, 7, 8, 9] [1, 2, 3, 4, 5, 6, 10, 11, 12, 13, 14, 15, 16, 17] rfl rfl (by decide) (by decide) (by decide) rfl (Nat.le_of_ble_eq_true rfl) ?_
        intro r_ u_ hp_
        obtain rfl := hp_
        refine x_aload_n C d_L_law_247 rfl rfl ?_
        refine x_aload_n C d_L_law_248 rfl rfl ?_
        refine x_iload_n C d_L_law_249 rfl rfl ?_
        refine x_iconst (v := (nI (1))) C d_L_law_250 (by decide) ?_
        refine x_iaddN C d_L_law_251  ?_
        refine x_sld C hX hbl hbA (by omega) (by omega) d_L_law_252 ?_
        refine x_top (y := (nI (j))) hxj ?_
        refine x_callVI (wr := [(c0, .inr (0, [.ref c01, .ref c02, .int (nI 32)])), (c01, .inl (cA, 2096, .inl (Lc))), (c02, .inl (cA, 33, .inl (Bc))), (d0, .inr (0, [.ref d01, .ref d02, .int (nI kd)])), (d01, .inl (cA, 2096, .inl (Ld))), (d02, .inl (cA, 33, .inl (Bd))), (r0, .inr (0, [.ref r01, .ref r02, .int (nI kr)])), (r01, .inl (cA, 3001, .inl (Lr))), (r02, .inl (cA, 2, .inl (Br))), (hB, .inr (1, [.ref c0, .ref d0, .ref s0, .ref r0, .int (nI n)])), (s0, .inr (0, [.ref s01, .ref s02, .int (nI (st0.length + 1))])), (s01, .inl (cA, 3000, .inl (Ls))), (s02, .inl (cA, 13, .inl (Bs)))]) (rest := [.int ((-1))]) C (c_M_after_pos (p := z) (j := j) hE hn hO hL rfl hj) d_L_law_253 cd_M_after lk_L_44 dd_M_after rfl ⟨Nat.le_of_ble_eq_true rfl, Nat.le_of_ble_eq_true rfl⟩ ⟨Nat.le_of_ble_eq_true rfl, Nat.le_of_ble_eq_true rfl⟩ 2 0 rfl rfl [9, 10, 11, 12, 13] [0, 1, 2, 3, 4, 5, 6, 7, 8, 14, 15, 16, 17] rfl rfl (by decide) (by decide) (by decide) rfl (Nat.le_of_ble_eq_true rfl) ?_
        intro r2 u_ hp2
        refine x_icmp_eq (tgt := 349) C d_L_law_256 (by decide)  (fun c256 => ?_) (fun c256 => ?_)
        · refine x_perm (ws' := [(hB, .inr (1, [.ref c0, .ref d0, .ref s0, .ref r0, .int (nI n)])), (c0, .inr (0, [.ref c01, .ref c02, .int (nI 32)])), (c01, .inl (cA, 2096, .inl (Lc))), (c02, .inl (cA, 33, .inl (Bc))), (d0, .inr (0, [.ref d01, .ref d02, .int (nI kd)])), (d01, .inl (cA, 2096, .inl (Ld))), (d02, .inl (cA, 33, .inl (Bd))), (s0, .inr (0, [.ref s01, .ref s02, .int (nI (st0.length + 1))])), (s01, .inl (cA, 3000, .inl (Ls))), (s02, .inl (cA, 13, .inl (Bs))), (r0, .inr (0, [.ref r01, .ref r02, .int (nI kr)])), (r01, .inl (cA, 3001, .inl (Lr))), (r02, .inl (cA, 2, .inl (Br))), (hM, .inr (2, [.ref e0, .ref v0, .int (nI rn), .ref l0, .ref b0, .int (nI (st0.length + 1)), .int pl, .int sn, .int wa, .int wf])), (e0, .inl (cA, 33000, .inl (E))), (v0, .inl (cA, 66000, .inl (V))), (l0, .inl (cA, 200000, .inl (L))), (b0, .inl (cA, 15, .inl (B)))]) [9, 0, 1, 2, 3, 4, 5, 10, 11, 12, 6, 7, 8, 13, 14, 15, 16, 17] (by decide) rfl ?_
          refine x_lv (lv' := [(3, .int (nI i)), (2, .ref hM), (1, .ref hB), (0, .ref b)]) (Or.inr (List.forall_mem_cons.mpr ⟨rfl, List.forall_mem_cons.mpr ⟨rfl, List.forall_mem_cons.mpr ⟨rfl, List.forall_mem_cons.mpr ⟨rfl, fun _ h9 => absurd h9 List.not_mem_nil⟩⟩⟩⟩)) ?_
          exact NEXT (hI0.next hq)
        · exact absurd (fst_uni (Or.inr ⟨fun y hy => hsz y (by omega), rfl⟩) hp2) c256
