/-! the law's loop, and its start -/
theorem len_4 {L0 i : Nat} (h1 : L0 ≤ 2048) (h2 : i ≤ 4096) : nI L0 - nI 4 < nI i ↔ L0 < i + 4 := by
  rw [Int32.lt_iff_toInt_lt, pk_sub_toInt (by omega) (by omega), nI_toInt (by omega)]
  omega
set_option maxHeartbeats 8000000 in
theorem law_loop {p : Program} {l : Launch} {e : Env} {s : State} {m : MethodId} {below : List Frame} {meth : Method} {c : Code} {D : va_G} {cA : ClassId} {b L0 : Nat} {xs : Nat → Int32} (hL0 : L0 ≤ 2048) (C : Cx p s m #[Value.ref b] meth c code 4 R_L D cA (fun q => s.heap.size ≤ q)) (hX : va_X b L0 xs s s.heap) (hbl : b < s.heap.size) (hr : meth.sig.returnType = ret) : ∀ (d i q : Nat), L0 ≤ i + 4 * d + 3 → i = 4 * q → i ≤ L0 + 3 → ∀ {hB hM c0 c01 c02 d0 d01 d02 s0 s01 s02 r0 r01 r02 n kd kr e0 v0 l0 b0 rn ks : Nat} {Lc Bc Ld Bd Ls Bs Lr Br E V L B : Nat → Int32} {pl sn wa wf : Int32} {dd rr : List (List Int32)} {en : Nat → Nat} {vl : Nat → Nat → Nat} {st : List ((Nat → Bool) × List (Nat × Nat))}, LInv n Lc Bc Ld Bd Ls Bs Lr Br kd kr dd rr E V L B rn en vl st ks q → XL p l e s m below meth c D b [(hB, .inr (1, [.ref c0, .ref d0, .ref s0, .ref r0, .int (nI n)])), (c0, .inr (0, [.ref c01, .ref c02, .int (nI 32)])), (c01, .inl (cA, 2096, .inl (Lc))), (c02, .inl (cA, 33, .inl (Bc))), (d0, .inr (0, [.ref d01, .ref d02, .int (nI kd)])), (d01, .inl (cA, 2096, .inl (Ld))), (d02, .inl (cA, 33, .inl (Bd))), (s0, .inr (0, [.ref s01, .ref s02, .int (nI ks)])), (s01, .inl (cA, 3000, .inl (Ls))), (s02, .inl (cA, 13, .inl (Bs))), (r0, .inr (0, [.ref r01, .ref r02, .int (nI kr)])), (r01, .inl (cA, 3001, .inl (Lr))), (r02, .inl (cA, 2, .inl (Br))), (hM, .inr (2, [.ref e0, .ref v0, .int (nI rn), .ref l0, .ref b0, .int (nI ks), .int pl, .int sn, .int wa, .int wf])), (e0, .inl (cA, 33000, .inl (E))), (v0, .inl (cA, 66000, .inl (V))), (l0, .inl (cA, 200000, .inl (L))), (b0, .inl (cA, 15, .inl (B)))] 18 [(3, .int (nI i)), (2, .ref hM), (1, .ref hB), (0, .ref b)] [] := by
  have hbA : ¬ (fun q => s.heap.size ≤ q) b := Nat.not_le.mpr hbl
  intro d
  induction d with
  | zero =>
    intro i q hd hiq hil
    intro hB hM c0 c01 c02 d0 d01 d02 s0 s01 s02 r0 r01 r02 n kd kr e0 v0 l0 b0 rn ks Lc Bc Ld Bd Ls Bs Lr Br E V L B pl sn wa wf dd rr en vl st hI
    refine x_iload_n C d_L_law_18 rfl rfl ?_
    refine x_aload_n C d_L_law_19 rfl rfl ?_
    refine x_slen C hX hbl hbA d_L_law_20 ?_
    refine x_iconst (v := (nI (4))) C d_L_law_21 (by decide) ?_
    refine x_isub C d_L_law_22  ?_
    refine x_icmp_gt (tgt := 355) C d_L_law_23 (by decide)  (fun c23 => ?_) (fun c23 => ?_)
    · refine x_iconst (v := (nI (1))) C d_L_law_355 (by decide) ?_
      exact x_law C hr d_L_law_356
    · exact absurd ((len_4 hL0 (by omega)).mpr (by omega)) c23
  | succ d ih =>
    intro i q hd hiq hil
    intro hB hM c0 c01 c02 d0 d01 d02 s0 s01 s02 r0 r01 r02 n kd kr e0 v0 l0 b0 rn ks Lc Bc Ld Bd Ls Bs Lr Br E V L B pl sn wa wf dd rr en vl st hI
    refine x_iload_n C d_L_law_18 rfl rfl ?_
    refine x_aload_n C d_L_law_19 rfl rfl ?_
    refine x_slen C hX hbl hbA d_L_law_20 ?_
    refine x_iconst (v := (nI (4))) C d_L_law_21 (by decide) ?_
    refine x_isub C d_L_law_22  ?_
    refine x_icmp_gt (tgt := 355) C d_L_law_23 (by decide)  (fun c23 => ?_) (fun c23 => ?_)
    · refine x_iconst (v := (nI (1))) C d_L_law_355 (by decide) ?_
      exact x_law C hr d_L_law_356
    · have hi4 : i + 4 ≤ L0 := by
        rcases Nat.lt_or_ge L0 (i + 4) with h9 | h9
        · exact absurd ((len_4 hL0 (by omega)).mpr h9) c23
        · exact h9
      have hq : q + 1 ≤ 512 := by omega
      have NEXT : Cont p l e s m below meth c D cA b i q := by
        intro hB hM c0 c01 c02 d0 d01 d02 s0 s01 s02 r0 r01 r02 n kd kr e0 v0 l0 b0 rn ks Lc Bc Ld Bd Ls Bs Lr Br E V L B pl sn wa wf dd rr en vl st hJ
        refine x_iinc (v := (nI (i + 4))) (lv' := [(3, .int (nI (i + 4))), (2, .ref hM), (1, .ref hB), (0, .ref b)]) C d_L_law_349 rfl (nI_add _ 4) (by decide) rfl ?_
        refine x_goto (tgt := 18) C d_L_law_352 (by decide) ?_
        refine x_lv (lv' := [(3, .int (nI (i + 4))), (2, .ref hM), (1, .ref hB), (0, .ref b)]) (Or.inr (List.forall_mem_cons.mpr ⟨rfl, List.forall_mem_cons.mpr ⟨rfl, List.forall_mem_cons.mpr ⟨rfl, List.forall_mem_cons.mpr ⟨rfl, fun _ h9 => absurd h9 List.not_mem_nil⟩⟩⟩⟩)) ?_
        exact ih (i + 4) (q + 1) (by omega) (by omega) (by omega) hJ
      obtain ⟨k, hk, hke⟩ := pk_andE (xs i) (m := nI 15) 4 (by decide)
      refine x_aload_n C d_L_law_26 rfl rfl ?_
      refine x_iload_n C d_L_law_27 rfl rfl ?_
      refine x_sld C hX hbl hbA (by omega) (by omega) d_L_law_28 ?_
      refine x_bipush (v := (nI (15))) C d_L_law_29 (by decide) ?_
      refine x_iand C d_L_law_31 ?_
      refine x_top (y := (nI (k))) hke ?_
      rcases (show k = 0 ∨ k = 1 ∨ k = 2 ∨ k = 3 ∨ k = 4 ∨ k = 5 ∨ k = 6 ∨ k = 7 ∨ k = 8 ∨ k = 9 ∨ k = 10 ∨ k = 11 ∨ k = 12 ∨ k = 13 ∨ k = 14 ∨ k = 15 by omega) with rfl | rfl | rfl | rfl | rfl | rfl | rfl | rfl | rfl | rfl | rfl | rfl | rfl | rfl | rfl | rfl
      · refine x_tableIn (off := 68) (tgt := 100) C d_L_law_32 (by decide) (by decide) rfl (by decide) ?_
        exact law_append hL0 C hX hbl hi4 hq NEXT hI
      · refine x_tableIn (off := 111) (tgt := 143) C d_L_law_32 (by decide) (by decide) rfl (by decide) ?_
        exact law_push hL0 C hX hbl hi4 hq NEXT hI
      · refine x_tableIn (off := 144) (tgt := 176) C d_L_law_32 (by decide) (by decide) rfl (by decide) ?_
        exact law_copy hL0 C hX hbl hi4 hq NEXT hI
      · refine x_tableIn (off := 157) (tgt := 189) C d_L_law_32 (by decide) (by decide) rfl (by decide) ?_
        exact law_join hL0 C hX hbl hi4 hq NEXT hI
      · refine x_tableIn (off := 180) (tgt := 212) C d_L_law_32 (by decide) (by decide) rfl (by decide) ?_
        exact law_not hL0 C hX hbl hi4 hq NEXT hI
      · refine x_tableIn (off := 193) (tgt := 225) C d_L_law_32 (by decide) (by decide) rfl (by decide) ?_
        exact law_count hL0 C hX hbl hi4 hq NEXT hI
      · refine x_tableIn (off := 206) (tgt := 238) C d_L_law_32 (by decide) (by decide) rfl (by decide) ?_
        exact law_after hL0 C hX hbl hi4 hq NEXT hI
      · refine x_tableIn (off := 229) (tgt := 261) C d_L_law_32 (by decide) (by decide) rfl (by decide) ?_
        exact law_words hL0 C hX hbl hi4 hq NEXT hI
      · refine x_tableIn (off := 242) (tgt := 274) C d_L_law_32 (by decide) (by decide) rfl (by decide) ?_
        exact law_word hL0 C hX hbl hi4 hq NEXT hI
      · refine x_tableIn (off := 265) (tgt := 297) C d_L_law_32 (by decide) (by decide) rfl (by decide) ?_
        exact law_pop hL0 C hX hbl hi4 hq NEXT hI
      · refine x_tableIn (off := 278) (tgt := 310) C d_L_law_32 (by decide) (by decide) rfl (by decide) ?_
        exact law_room hL0 C hX hbl hi4 hq NEXT hI
      · refine x_tableIn (off := 291) (tgt := 323) C d_L_law_32 (by decide) (by decide) rfl (by decide) ?_
        exact law_stackRoom hL0 C hX hbl hi4 hq NEXT hI
      · refine x_tableIn (off := 304) (tgt := 336) C d_L_law_32 (by decide) (by decide) rfl (by decide) ?_
        exact law_rows hL0 C hX hbl hi4 hq NEXT hI
      · refine x_tableOut (tgt := 349) C d_L_law_32 (Or.inr (by decide)) (by decide) ?_
        exact NEXT (hI.next hq)
      · refine x_tableOut (tgt := 349) C d_L_law_32 (Or.inr (by decide)) (by decide) ?_
        exact NEXT (hI.next hq)
      · refine x_tableOut (tgt := 349) C d_L_law_32 (Or.inr (by decide)) (by decide) ?_
        exact NEXT (hI.next hq)
set_option maxHeartbeats 8000000 in
theorem whole_start {p : Program} {e : Env} {s : State} {m : MethodId} {below : List Frame} {meth : Method} {c : Code} (l : Launch) {b L : Nat} {xs : Nat → Int32} (hL : L ≤ 2048) (C0 : lw_At p s m meth c b L xs) : W p l e room_1 s m #[Value.ref b] below meth c s.heap [] 0 0 (lw_Z below #[Value.ref b] s) (entryFrame m ([Value.ref b] : List Value).toArray 4) := by
  obtain ⟨hx, hb, hr, hml, hown, hts, hX, hbl, hlocks, hgv⟩ := C0
  have hgw : ∀ w ∈ gw, w.before #[Value.ref b] s = true := fun w h => hts w (List.mem_filter.mp h).1
  have hnw : Nw s := fun w hw => by
    have hk := (List.mem_filter.mp hw).2
    have h1 := hts w (List.mem_filter.mp hw).1
    cases w <;> first | exact va_Nw.of rfl h1 | (simp [isNest] at hk; done)
  obtain ⟨k0, i0, hKn0⟩ := u_known (C := R_S) (T := F_S) (N := 3) (n := 3) hgw i_S (hgw _ ist_S)
  obtain ⟨k1, i1, hKn1⟩ := u_known (C := R_B) (T := F_B) (N := 5) (n := 5) hgw i_B (hgw _ ist_B)
  obtain ⟨k2, i2, hKn2⟩ := u_known (C := R_M) (T := F_M) (N := 10) (n := 10) hgw i_M (hgw _ ist_M)
  obtain ⟨D, hKc⟩ : ∃ D : va_G, ∀ (k : Nat) (q : vw_C), classes[k]? = some q → u_Kn s q.1 q.2.1 q.2.2 (D.1 k) (D.2 k) := by
    refine ⟨(fun k => if k = 0 then k0 else if k = 1 then k1 else k2, fun k => if k = 0 then i0 else if k = 1 then i1 else i2), ?_⟩
    intro k q hq
    match k, hq with
    | 0, hq => cases hq; exact hKn0
    | 1, hq => cases hq; exact hKn1
    | 2, hq => cases hq; exact hKn2
    | k + 3, hq => simp [classes] at hq
  obtain ⟨cA, kA, comp, hf, hkA, hkind⟩ := Cond.arrayClass_spec (hgw _ arr_int)
  have hK : va_K D classes [(cA, .int)] s := ⟨hKc, fun k q h => by
    have hk : k < 1 := (List.getElem?_eq_some_iff.mp h).1
    have hk0 : k = 0 := by omega
    subst hk0
    cases h
    exact ⟨fun n z => ⟨fun k h => (by cases h), kA, hkA, comp, hkind⟩, hf⟩⟩
  have C : Cx p s m #[Value.ref b] meth c code 4 R_L D cA (fun q => s.heap.size ≤ q) := ⟨hx, hb, hml, hown, hgw, hK, hnw, fun _ h => h, hlocks⟩
  have hS : va_S (fun q : Nat => s.heap.size ≤ q) s.heap s.heap [] := va_S.rf
  have hP : va_P D classes [] s.heap := fun k q h => by simp at h
  have hD : va_D (fun q : Nat => s.heap.size ≤ q) [] := ⟨fun i j p q h => by simp at h, fun k q h => by simp at h⟩
  have hl := lv_entry ([.ref b]) (n := 4) (Nat.le_of_ble_eq_true rfl)
  rw [lg_entry_eq]
  generalize (lg_sl ([.ref b]) ++ List.replicate (4 - (lg_sl ([.ref b])).length) Slot.unset).toArray = ls at hl ⊢
  have hl : lv_has ls 4 [(0, .ref b)] := hl
  suffices HX : X p l e room_1 s m #[Value.ref b] below meth c D (fun q => s.heap.size ≤ q) 4 0 0 (lw_Z below #[Value.ref b] s) [] 0 [(0, .ref b)] [] from HX s.heap [] ls hP hD hS hl
  refine x_new C d_L_law_0 (ci := 1) (fs := [.null, .null, .null, .null, .int 0]) rfl i_B t_B t_B_ok lk_L_7 ist_B ini_B (fun j hj => by rcases (show j = 0 ∨ j = 1 ∨ j = 2 ∨ j = 3 ∨ j = 4 by omega) with rfl | rfl | rfl | rfl | rfl <;> rfl) (Nat.le_of_ble_eq_true rfl) (Nat.le_of_ble_eq_true rfl) (fun q0 => ?_)
  refine x_dup C d_L_law_3 rfl ?_
  refine x_callIV (wr := []) (rest := [.ref q0]) C (c_B_init (h := q0)) d_L_law_4 cd_B_init lk_L_9 dd_B_init rfl ⟨Nat.le_of_ble_eq_true rfl, Nat.le_of_ble_eq_true rfl⟩ ⟨Nat.le_of_ble_eq_true rfl, Nat.le_of_ble_eq_true rfl⟩ [0] [] rfl rfl (by decide) (by decide) (by decide) rfl (Nat.le_of_ble_eq_true rfl) ?_
  intro u4 hp4
  refine x_astore_n (lv' := [(1, .ref q0), (0, .ref b)]) C d_L_law_7 rfl (by decide) rfl ?_
  refine x_new C d_L_law_8 (ci := 2) (fs := [.null, .null, .int 0, .null, .null, .int 0, .int 0, .int 0, .int 0, .int 0]) rfl i_M t_M t_M_ok lk_L_10 ist_M ini_M (fun j hj => by rcases (show j = 0 ∨ j = 1 ∨ j = 2 ∨ j = 3 ∨ j = 4 ∨ j = 5 ∨ j = 6 ∨ j = 7 ∨ j = 8 ∨ j = 9 by omega) with rfl | rfl | rfl | rfl | rfl | rfl | rfl | rfl | rfl | rfl <;> rfl) (Nat.le_of_ble_eq_true rfl) (Nat.le_of_ble_eq_true rfl) (fun q8 => ?_)
  refine x_dup C d_L_law_11 rfl ?_
  refine x_callIV (wr := [(q0, .inr (1, [.ref u4.1.1.1, .ref u4.1.2.1.1, .ref u4.1.2.2.1.1, .ref u4.1.2.2.2.1, .int (nI 0)])), (u4.1.1.1, .inr (0, [.ref u4.1.1.2.1, .ref u4.1.1.2.2, .int (nI 32)])), (u4.1.1.2.1, .inl (cA, 2096, .inl (u4.2.1))), (u4.1.1.2.2, .inl (cA, 33, .inl (u4.2.2))), (u4.1.2.1.1, .inr (0, [.ref u4.1.2.1.2.1, .ref u4.1.2.1.2.2, .int (nI 0)])), (u4.1.2.1.2.1, .inl (cA, 2096, .inl (fun _ => 0))), (u4.1.2.1.2.2, .inl (cA, 33, .inl (fun _ => 0))), (u4.1.2.2.1.1, .inr (0, [.ref u4.1.2.2.1.2.1, .ref u4.1.2.2.1.2.2, .int (nI 0)])), (u4.1.2.2.1.2.1, .inl (cA, 3000, .inl (fun _ => 0))), (u4.1.2.2.1.2.2, .inl (cA, 13, .inl (fun _ => 0))), (u4.1.2.2.2.1, .inr (0, [.ref u4.1.2.2.2.2.1, .ref u4.1.2.2.2.2.2, .int (nI 0)])), (u4.1.2.2.2.2.1, .inl (cA, 3001, .inl (fun _ => 0))), (u4.1.2.2.2.2.2, .inl (cA, 2, .inl (fun _ => 0)))]) (rest := [.ref q8]) C (c_M_init (h := q8)) d_L_law_12 cd_M_init lk_L_12 dd_M_init rfl ⟨Nat.le_of_ble_eq_true rfl, Nat.le_of_ble_eq_true rfl⟩ ⟨Nat.le_of_ble_eq_true rfl, Nat.le_of_ble_eq_true rfl⟩ [13] [0, 1, 2, 3, 4, 5, 6, 7, 8, 9, 10, 11, 12] rfl rfl (by decide) (by decide) (by decide) rfl (Nat.le_of_ble_eq_true rfl) ?_
  intro u12 hp12
  refine x_astore_n (lv' := [(2, .ref q8), (1, .ref q0), (0, .ref b)]) C d_L_law_15 rfl (by decide) rfl ?_
  refine x_iconst (v := (nI (0))) C d_L_law_16 (by decide) ?_
  refine x_istore_n (lv' := [(3, .int (nI 0)), (2, .ref q8), (1, .ref q0), (0, .ref b)]) C d_L_law_17 rfl (by decide) rfl ?_
  refine x_widen (k := 18) (n := 309316) (Nat.le_of_ble_eq_true rfl) (Nat.le_of_ble_eq_true rfl) ?_
  have hI : LInv 0 u4.2.1 u4.2.2 (fun _ => 0) (fun _ => 0) (fun _ => 0) (fun _ => 0) (fun _ => 0) (fun _ => 0) 0 0 [] [] (fun _ => 0) (fun _ => 0) (fun _ => 0) (fun _ => 0) 0 (fun _ => 0) (fun _ _ => 0) ([] : List ((Nat → Bool) × List (Nat × Nat))) 0 0 := by
    refine ⟨by rw [cS_zero]; exact hp4, Hs.new 2096 33 (by omega) (by omega) (by omega), rfl, Hs.new 3000 13 (by omega) (by omega) (by omega), Hs.new 3001 2 (by omega) (by omega) (by omega), rfl, ⟨by omega, fun k hk => absurd hk (Nat.not_lt_zero k), fun k c hk => absurd hk (Nat.not_lt_zero k)⟩, rfl, Nat.le_refl _, fun z hz => absurd hz List.not_mem_nil, Hs.new 200000 15 (by omega) (by omega) (by omega), Nat.zero_le _, by rw [cS_zero]; decide, Nat.zero_le _, fun v r _ => rfl, fun z hz => absurd hz List.not_mem_nil, Nat.zero_le _, rfl⟩
  refine x_lv (lv' := [(3, .int (nI 0)), (2, .ref q8), (1, .ref q0), (0, .ref b)]) (Or.inr (List.forall_mem_cons.mpr ⟨rfl, List.forall_mem_cons.mpr ⟨rfl, List.forall_mem_cons.mpr ⟨rfl, List.forall_mem_cons.mpr ⟨rfl, fun _ h9 => absurd h9 List.not_mem_nil⟩⟩⟩⟩)) ?_
  exact law_loop hL C hX hbl hr L 0 0 (by omega) rfl (Nat.zero_le _) hI
