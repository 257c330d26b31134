/-! constructors -/
theorem Hs.new (cap mx : Nat) (h1 : 0 < mx) (h2 : cap < 2 ^ 20) (h3 : mx < 2 ^ 20) : Hs cap mx (fun _ => 0) (fun _ => 0) [] := ⟨h1, Nat.zero_le _, h2, h3, fun i hi => by
  have : i = 0 := by simpa using hi
  subst this
  rfl, fun j hj => absurd hj (by simp [tot])⟩
theorem cS_zero (F : Nat → Nat → Bool) : ∀ k : Nat, cS 0 F k = List.replicate k []
  | 0 => rfl
  | k + 1 => by
    rw [cS_succ, cS_zero F k, List.replicate_succ']
    congr 1
set_option maxHeartbeats 4000000 in
theorem c_S_init {l : Launch} {D : va_G} {cA : ClassId} {h ms cap : Nat} (hms : ms < 1000) (hcap : cap < 10000) : CtV l D cA y_S_init b_S_init 3 ({ frames := 1, cells := 2, slots := cap + (ms + 1), locals := 20 } : Room) [.ref h, .int (nI ms), .int (nI cap)] [(h, .inr (0, [.null, .null, .int 0]))] (fun _ : Nat × Nat => True) (fun u => shW cA h u.1 u.2 cap (ms + 1) (fun _ => 0) (fun _ => 0) 0) := by
  refine CtV.start (lv0 := [(0, .ref h), (1, .int (nI ms)), (2, .int (nI cap))]) (by decide) rfl (Nat.le_of_ble_eq_true rfl) ?_
  intro p_ e_ s_ m_ args_ below_ meth_ c_ A_ C hr hin
  refine x_aload_n C d_S_init_0 rfl rfl ?_
  refine x_objInit C d_S_init_1 lk_S_3 oi_inst oi_code (Nat.le_of_ble_eq_true rfl) (Nat.le_of_ble_eq_true rfl) ?_
  refine x_aload_n C d_S_init_4 rfl rfl ?_
  refine x_iconst (v := (nI (0))) C d_S_init_5 (by decide) ?_
  refine x_put (ty := .int) (v := .int (nI 0)) (ws' := [(h, .inr (0, [.null, .null, .int (nI 0)]))]) C d_S_init_6 0 rfl rfl i_S t_S t_S_ok n_S 2 (by decide) lk_S_9 rfl rfl (t_S_ok 2 (by decide)) rfl rfl (Nat.le_of_ble_eq_true rfl) rfl ?_
  refine x_aload_n C d_S_init_9 rfl rfl ?_
  refine x_iload_n C d_S_init_10 rfl rfl ?_
  refine x_newa C d_S_init_11 arr_int (by omega) (Nat.le_of_ble_eq_true rfl) (show 0 + cap ≤ cap + (ms + 1) by omega) (fun q1 => ?_)
  refine x_putF (ty := .array .int) (v := .ref q1) (ws' := [(h, .inr (0, [.ref q1, .null, .int (nI 0)])), (q1, .inl (cA, (cap), .inl (fun _ => 0)))]) C hin d_S_init_13 0 rfl rfl i_S t_S t_S_ok n_S 0 (by decide) lk_S_15 rfl rfl rfl (t_S_ok 0 (by decide)) rfl rfl (Nat.le_of_ble_eq_true rfl) rfl ?_
  refine x_aload_n C d_S_init_16 rfl rfl ?_
  refine x_iload_n C d_S_init_17 rfl rfl ?_
  refine x_iconst (v := (nI (1))) C d_S_init_18 (by decide) ?_
  refine x_iaddN C d_S_init_19  ?_
  refine x_newa C d_S_init_20 arr_int (by omega) (Nat.le_of_ble_eq_true rfl) (show 0 + cap + (ms + 1) ≤ cap + (ms + 1) by omega) (fun q2 => ?_)
  refine x_putF (ty := .array .int) (v := .ref q2) (ws' := [(h, .inr (0, [.ref q1, .ref q2, .int (nI 0)])), (q1, .inl (cA, (cap), .inl (fun _ => 0))), (q2, .inl (cA, (ms + 1), .inl (fun _ => 0)))]) C hin d_S_init_22 0 rfl rfl i_S t_S t_S_ok n_S 1 (by decide) lk_S_19 rfl rfl rfl (t_S_ok 1 (by decide)) rfl rfl (Nat.le_of_ble_eq_true rfl) rfl ?_
  refine x_widen (k := 2) (n := cap + (ms + 1)) (Nat.le_refl _) (show 0 + cap + (ms + 1) ≤ cap + (ms + 1) by omega) ?_
  exact x_vret C hr d_S_init_25 (q1, q2) rfl (trivial)
set_option maxHeartbeats 4000000 in
theorem c_B_init {l : Launch} {D : va_G} {cA : ClassId} {h : Nat} : CtV l D cA y_B_init b_B_init 2 ({ frames := 2, cells := 12, slots := 10286, locals := 42 } : Room) [.ref h] [(h, .inr (1, [.null, .null, .null, .null, .int 0]))] (fun u : ((Nat × Nat × Nat) × (Nat × Nat × Nat) × (Nat × Nat × Nat) × (Nat × Nat × Nat)) × ((Nat → Int32) × (Nat → Int32)) => Hs 2096 33 u.2.1 u.2.2 (List.replicate 32 [])) (fun u => bo h u.1.1.1 u.1.2.1.1 u.1.2.2.1.1 u.1.2.2.2.1 0 :: (shW cA u.1.1.1 u.1.1.2.1 u.1.1.2.2 2096 33 u.2.1 u.2.2 32 ++ shW cA u.1.2.1.1 u.1.2.1.2.1 u.1.2.1.2.2 2096 33 (fun _ => 0) (fun _ => 0) 0 ++ shW cA u.1.2.2.1.1 u.1.2.2.1.2.1 u.1.2.2.1.2.2 3000 13 (fun _ => 0) (fun _ => 0) 0 ++ shW cA u.1.2.2.2.1 u.1.2.2.2.2.1 u.1.2.2.2.2.2 3001 2 (fun _ => 0) (fun _ => 0) 0)) := by
  refine CtV.start (lv0 := [(0, .ref h)]) (by decide) rfl (Nat.le_of_ble_eq_true rfl) ?_
  intro p_ e_ s_ m_ args_ below_ meth_ c_ A_ C hr hin
  refine x_aload_n C d_B_init_0 rfl rfl ?_
  refine x_objInit C d_B_init_1 lk_B_3 oi_inst oi_code (Nat.le_of_ble_eq_true rfl) (Nat.le_of_ble_eq_true rfl) ?_
  refine x_aload_n C d_B_init_4 rfl rfl ?_
  refine x_new C d_B_init_5 (ci := 0) (fs := [.null, .null, .int 0]) rfl i_S t_S t_S_ok lk_B_9 ist_S ini_S (fun j hj => by rcases (show j = 0 ∨ j = 1 ∨ j = 2 by omega) with rfl | rfl | rfl <;> rfl) (Nat.le_of_ble_eq_true rfl) (Nat.le_of_ble_eq_true rfl) (fun q5 => ?_)
  refine x_dup C d_B_init_8 rfl ?_
  refine x_bipush (v := (nI (32))) C d_B_init_9 (by decide) ?_
  refine x_sipush (v := (nI (2096))) C d_B_init_11 (by decide) ?_
  refine x_callIV (wr := [(h, .inr (1, [.null, .null, .null, .null, .int 0]))]) (rest := [.ref q5, .ref h]) C (c_S_init (h := q5) (ms := 32) (cap := 2096) (by omega) (by omega)) d_B_init_14 cd_S_init lk_B_11 dd_S_init rfl ⟨Nat.le_of_ble_eq_true rfl, Nat.le_of_ble_eq_true rfl⟩ ⟨Nat.le_of_ble_eq_true rfl, Nat.le_of_ble_eq_true rfl⟩ [1] [0] rfl rfl (by decide) (by decide) (by decide) rfl (Nat.le_of_ble_eq_true rfl) ?_
  intro u5 hp_
  refine x_put (ty := .object "RunBitmaps$Shelf") (v := .ref q5) (ws' := [(h, .inr (1, [.ref q5, .null, .null, .null, .int 0])), (q5, .inr (0, [.ref u5.1, .ref u5.2, .int (nI 0)])), (u5.1, .inl (cA, 2096, .inl (fun _ => 0))), (u5.2, .inl (cA, (32 + 1), .inl (fun _ => 0)))]) C d_B_init_17 0 rfl rfl i_B t_B t_B_ok n_B 0 (by decide) lk_B_14 rfl rfl (t_B_ok 0 (by decide)) rfl rfl (Nat.le_of_ble_eq_true rfl) rfl ?_
  refine x_aload_n C d_B_init_20 rfl rfl ?_
  refine x_new C d_B_init_21 (ci := 0) (fs := [.null, .null, .int 0]) rfl i_S t_S t_S_ok lk_B_9 ist_S ini_S (fun j hj => by rcases (show j = 0 ∨ j = 1 ∨ j = 2 by omega) with rfl | rfl | rfl <;> rfl) (Nat.le_of_ble_eq_true rfl) (Nat.le_of_ble_eq_true rfl) (fun q21 => ?_)
  refine x_dup C d_B_init_24 rfl ?_
  refine x_bipush (v := (nI (32))) C d_B_init_25 (by decide) ?_
  refine x_sipush (v := (nI (2096))) C d_B_init_27 (by decide) ?_
  refine x_callIV (wr := [(h, .inr (1, [.ref q5, .null, .null, .null, .int 0])), (q5, .inr (0, [.ref u5.1, .ref u5.2, .int (nI 0)])), (u5.1, .inl (cA, 2096, .inl (fun _ => 0))), (u5.2, .inl (cA, (32 + 1), .inl (fun _ => 0)))]) (rest := [.ref q21, .ref h]) C (c_S_init (h := q21) (ms := 32) (cap := 2096) (by omega) (by omega)) d_B_init_30 cd_S_init lk_B_11 dd_S_init rfl ⟨Nat.le_of_ble_eq_true rfl, Nat.le_of_ble_eq_true rfl⟩ ⟨Nat.le_of_ble_eq_true rfl, Nat.le_of_ble_eq_true rfl⟩ [4] [0, 1, 2, 3] rfl rfl (by decide) (by decide) (by decide) rfl (Nat.le_of_ble_eq_true rfl) ?_
  intro u21 hp_
  refine x_put (ty := .object "RunBitmaps$Shelf") (v := .ref q21) (ws' := [(h, .inr (1, [.ref q5, .ref q21, .null, .null, .int 0])), (q5, .inr (0, [.ref u5.1, .ref u5.2, .int (nI 0)])), (u5.1, .inl (cA, 2096, .inl (fun _ => 0))), (u5.2, .inl (cA, (32 + 1), .inl (fun _ => 0))), (q21, .inr (0, [.ref u21.1, .ref u21.2, .int (nI 0)])), (u21.1, .inl (cA, 2096, .inl (fun _ => 0))), (u21.2, .inl (cA, (32 + 1), .inl (fun _ => 0)))]) C d_B_init_33 0 rfl rfl i_B t_B t_B_ok n_B 1 (by decide) lk_B_18 rfl rfl (t_B_ok 1 (by decide)) rfl rfl (Nat.le_of_ble_eq_true rfl) rfl ?_
  refine x_aload_n C d_B_init_36 rfl rfl ?_
  refine x_new C d_B_init_37 (ci := 0) (fs := [.null, .null, .int 0]) rfl i_S t_S t_S_ok lk_B_9 ist_S ini_S (fun j hj => by rcases (show j = 0 ∨ j = 1 ∨ j = 2 by omega) with rfl | rfl | rfl <;> rfl) (Nat.le_of_ble_eq_true rfl) (Nat.le_of_ble_eq_true rfl) (fun q37 => ?_)
  refine x_dup C d_B_init_40 rfl ?_
  refine x_bipush (v := (nI (12))) C d_B_init_41 (by decide) ?_
  refine x_sipush (v := (nI (3000))) C d_B_init_43 (by decide) ?_
  refine x_callIV (wr := [(h, .inr (1, [.ref q5, .ref q21, .null, .null, .int 0])), (q5, .inr (0, [.ref u5.1, .ref u5.2, .int (nI 0)])), (u5.1, .inl (cA, 2096, .inl (fun _ => 0))), (u5.2, .inl (cA, (32 + 1), .inl (fun _ => 0))), (q21, .inr (0, [.ref u21.1, .ref u21.2, .int (nI 0)])), (u21.1, .inl (cA, 2096, .inl (fun _ => 0))), (u21.2, .inl (cA, (32 + 1), .inl (fun _ => 0)))]) (rest := [.ref q37, .ref h]) C (c_S_init (h := q37) (ms := 12) (cap := 3000) (by omega) (by omega)) d_B_init_46 cd_S_init lk_B_11 dd_S_init rfl ⟨Nat.le_of_ble_eq_true rfl, Nat.le_of_ble_eq_true rfl⟩ ⟨Nat.le_of_ble_eq_true rfl, Nat.le_of_ble_eq_true rfl⟩ [7] [0, 1, 2, 3, 4, 5, 6] rfl rfl (by decide) (by decide) (by decide) rfl (Nat.le_of_ble_eq_true rfl) ?_
  intro u37 hp_
  refine x_putF (ty := .object "RunBitmaps$Shelf") (v := .ref q37) (ws' := [(h, .inr (1, [.ref q5, .ref q21, .ref q37, .null, .int 0])), (q5, .inr (0, [.ref u5.1, .ref u5.2, .int (nI 0)])), (u5.1, .inl (cA, 2096, .inl (fun _ => 0))), (u5.2, .inl (cA, (32 + 1), .inl (fun _ => 0))), (q21, .inr (0, [.ref u21.1, .ref u21.2, .int (nI 0)])), (u21.1, .inl (cA, 2096, .inl (fun _ => 0))), (u21.2, .inl (cA, (32 + 1), .inl (fun _ => 0))), (q37, .inr (0, [.ref u37.1, .ref u37.2, .int (nI 0)])), (u37.1, .inl (cA, 3000, .inl (fun _ => 0))), (u37.2, .inl (cA, (12 + 1), .inl (fun _ => 0)))]) C hin d_B_init_49 0 rfl rfl i_B t_B t_B_ok n_B 2 (by decide) lk_B_21 rfl rfl rfl (t_B_ok 2 (by decide)) rfl rfl (Nat.le_of_ble_eq_true rfl) rfl ?_
  refine x_aload_n C d_B_init_52 rfl rfl ?_
  refine x_new C d_B_init_53 (ci := 0) (fs := [.null, .null, .int 0]) rfl i_S t_S t_S_ok lk_B_9 ist_S ini_S (fun j hj => by rcases (show j = 0 ∨ j = 1 ∨ j = 2 by omega) with rfl | rfl | rfl <;> rfl) (Nat.le_of_ble_eq_true rfl) (Nat.le_of_ble_eq_true rfl) (fun q53 => ?_)
  refine x_dup C d_B_init_56 rfl ?_
  refine x_iconst (v := (nI (1))) C d_B_init_57 (by decide) ?_
  refine x_sipush (v := (nI (3001))) C d_B_init_58 (by decide) ?_
  refine x_callIV (wr := [(h, .inr (1, [.ref q5, .ref q21, .ref q37, .null, .int 0])), (q5, .inr (0, [.ref u5.1, .ref u5.2, .int (nI 0)])), (u5.1, .inl (cA, 2096, .inl (fun _ => 0))), (u5.2, .inl (cA, (32 + 1), .inl (fun _ => 0))), (q21, .inr (0, [.ref u21.1, .ref u21.2, .int (nI 0)])), (u21.1, .inl (cA, 2096, .inl (fun _ => 0))), (u21.2, .inl (cA, (32 + 1), .inl (fun _ => 0))), (q37, .inr (0, [.ref u37.1, .ref u37.2, .int (nI 0)])), (u37.1, .inl (cA, 3000, .inl (fun _ => 0))), (u37.2, .inl (cA, (12 + 1), .inl (fun _ => 0)))]) (rest := [.ref q53, .ref h]) C (c_S_init (h := q53) (ms := 1) (cap := 3001) (by omega) (by omega)) d_B_init_61 cd_S_init lk_B_11 dd_S_init rfl ⟨Nat.le_of_ble_eq_true rfl, Nat.le_of_ble_eq_true rfl⟩ ⟨Nat.le_of_ble_eq_true rfl, Nat.le_of_ble_eq_true rfl⟩ [10] [0, 1, 2, 3, 4, 5, 6, 7, 8, 9] rfl rfl (by decide) (by decide) (by decide) rfl (Nat.le_of_ble_eq_true rfl) ?_
  intro u53 hp_
  refine x_putF (ty := .object "RunBitmaps$Shelf") (v := .ref q53) (ws' := [(h, .inr (1, [.ref q5, .ref q21, .ref q37, .ref q53, .int 0])), (q5, .inr (0, [.ref u5.1, .ref u5.2, .int (nI 0)])), (u5.1, .inl (cA, 2096, .inl (fun _ => 0))), (u5.2, .inl (cA, (32 + 1), .inl (fun _ => 0))), (q21, .inr (0, [.ref u21.1, .ref u21.2, .int (nI 0)])), (u21.1, .inl (cA, 2096, .inl (fun _ => 0))), (u21.2, .inl (cA, (32 + 1), .inl (fun _ => 0))), (q37, .inr (0, [.ref u37.1, .ref u37.2, .int (nI 0)])), (u37.1, .inl (cA, 3000, .inl (fun _ => 0))), (u37.2, .inl (cA, (12 + 1), .inl (fun _ => 0))), (q53, .inr (0, [.ref u53.1, .ref u53.2, .int (nI 0)])), (u53.1, .inl (cA, 3001, .inl (fun _ => 0))), (u53.2, .inl (cA, (1 + 1), .inl (fun _ => 0)))]) C hin d_B_init_64 0 rfl rfl i_B t_B t_B_ok n_B 3 (by decide) lk_B_24 rfl rfl rfl (t_B_ok 3 (by decide)) rfl rfl (Nat.le_of_ble_eq_true rfl) rfl ?_
  refine x_aload_n C d_B_init_67 rfl rfl ?_
  refine x_iconst (v := (nI (0))) C d_B_init_68 (by decide) ?_
  refine x_put (ty := .int) (v := .int (nI 0)) (ws' := [(h, .inr (1, [.ref q5, .ref q21, .ref q37, .ref q53, .int (nI 0)])), (q5, .inr (0, [.ref u5.1, .ref u5.2, .int (nI 0)])), (u5.1, .inl (cA, 2096, .inl (fun _ => 0))), (u5.2, .inl (cA, (32 + 1), .inl (fun _ => 0))), (q21, .inr (0, [.ref u21.1, .ref u21.2, .int (nI 0)])), (u21.1, .inl (cA, 2096, .inl (fun _ => 0))), (u21.2, .inl (cA, (32 + 1), .inl (fun _ => 0))), (q37, .inr (0, [.ref u37.1, .ref u37.2, .int (nI 0)])), (u37.1, .inl (cA, 3000, .inl (fun _ => 0))), (u37.2, .inl (cA, (12 + 1), .inl (fun _ => 0))), (q53, .inr (0, [.ref u53.1, .ref u53.2, .int (nI 0)])), (u53.1, .inl (cA, 3001, .inl (fun _ => 0))), (u53.2, .inl (cA, (1 + 1), .inl (fun _ => 0)))]) C d_B_init_69 0 rfl rfl i_B t_B t_B_ok n_B 4 (by decide) lk_B_27 rfl rfl (t_B_ok 4 (by decide)) rfl rfl (Nat.le_of_ble_eq_true rfl) rfl ?_
  refine x_iconst (v := (nI (0))) C d_B_init_72 (by decide) ?_
  refine x_istore_n (lv' := [(1, .int (nI 0)), (0, .ref h)]) C d_B_init_73 rfl (by decide) rfl ?_
  refine x_widen (k := 12) (n := 10286) (Nat.le_of_ble_eq_true rfl) (Nat.le_of_ble_eq_true rfl) ?_
  have LP : ∀ (d v : Nat) (La Ba : Nat → Int32), v + d = 32 → Hs 2096 33 La Ba (List.replicate v []) → X p_ l e_ ({ frames := 2, cells := 12, slots := 10286, locals := 42 } : Room) s_ m_ args_ below_ meth_ c_ D A_ 2 12 10286 (MQ below_ (va_Qv (fun u : ((Nat × Nat × Nat) × (Nat × Nat × Nat) × (Nat × Nat × Nat) × (Nat × Nat × Nat)) × ((Nat → Int32) × (Nat → Int32)) => Hs 2096 33 u.2.1 u.2.2 (List.replicate 32 [])) (Bw D A_ (fun u => bo h u.1.1.1 u.1.2.1.1 u.1.2.2.1.1 u.1.2.2.2.1 0 :: (shW cA u.1.1.1 u.1.1.2.1 u.1.1.2.2 2096 33 u.2.1 u.2.2 32 ++ shW cA u.1.2.1.1 u.1.2.1.2.1 u.1.2.1.2.2 2096 33 (fun _ => 0) (fun _ => 0) 0 ++ shW cA u.1.2.2.1.1 u.1.2.2.1.2.1 u.1.2.2.1.2.2 3000 13 (fun _ => 0) (fun _ => 0) 0 ++ shW cA u.1.2.2.2.1 u.1.2.2.2.2.1 u.1.2.2.2.2.2 3001 2 (fun _ => 0) (fun _ => 0) 0))) A_) args_ s_ 12 10286 A_) [(h, .inr (1, [.ref q5, .ref q21, .ref q37, .ref q53, .int (nI 0)])), (q5, .inr (0, [.ref u5.1, .ref u5.2, .int (nI v)])), (u5.1, .inl (cA, 2096, .inl (La))), (u5.2, .inl (cA, (32 + 1), .inl (Ba))), (q21, .inr (0, [.ref u21.1, .ref u21.2, .int (nI 0)])), (u21.1, .inl (cA, 2096, .inl (fun _ => 0))), (u21.2, .inl (cA, (32 + 1), .inl (fun _ => 0))), (q37, .inr (0, [.ref u37.1, .ref u37.2, .int (nI 0)])), (u37.1, .inl (cA, 3000, .inl (fun _ => 0))), (u37.2, .inl (cA, (12 + 1), .inl (fun _ => 0))), (q53, .inr (0, [.ref u53.1, .ref u53.2, .int (nI 0)])), (u53.1, .inl (cA, 3001, .inl (fun _ => 0))), (u53.2, .inl (cA, (1 + 1), .inl (fun _ => 0)))] 74 [(1, .int (nI v)), (0, .ref h)] [] := by
    intro d
    induction d with
    | zero =>
      intro v La Ba hv hLa
      have hv2 : v = 32 := by omega
      subst hv2
      refine x_iload_n C d_B_init_74 rfl rfl ?_
      refine x_bipush (v := (nI (32))) C d_B_init_75 (by decide) ?_
      refine x_icmp_geN (tgt := 93) C d_B_init_77 (by decide) (by omega) (by omega) (fun c77 => ?_) (fun c77 => ?_)
      · exact x_vret C hr d_B_init_93 (((q5, u5.1, u5.2), (q21, u21.1, u21.2), (q37, u37.1, u37.2), (q53, u53.1, u53.2)), (La, Ba)) rfl (hLa)
      · exact absurd c77 (by omega)
    | succ d ih =>
      intro v La Ba hv hLa
      refine x_iload_n C d_B_init_74 rfl rfl ?_
      refine x_bipush (v := (nI (32))) C d_B_init_75 (by decide) ?_
      refine x_icmp_geN (tgt := 93) C d_B_init_77 (by decide) (by omega) (by omega) (fun c77 => ?_) (fun c77 => ?_)
      · exact absurd c77 (by omega)
      · refine x_aload_n C d_B_init_80 rfl rfl ?_
        refine x_get C d_B_init_81 0 rfl rfl i_B 0 (by decide) lk_B_14 rfl rfl ?_
        refine x_callVV (wr := [(h, .inr (1, [.ref q5, .ref q21, .ref q37, .ref q53, .int (nI 0)])), (q21, .inr (0, [.ref u21.1, .ref u21.2, .int (nI 0)])), (u21.1, .inl (cA, 2096, .inl (fun _ => 0))), (u21.2, .inl (cA, (32 + 1), .inl (fun _ => 0))), (q37, .inr (0, [.ref u37.1, .ref u37.2, .int (nI 0)])), (u37.1, .inl (cA, 3000, .inl (fun _ => 0))), (u37.2, .inl (cA, (12 + 1), .inl (fun _ => 0))), (q53, .inr (0, [.ref u53.1, .ref u53.2, .int (nI 0)])), (u53.1, .inl (cA, 3001, .inl (fun _ => 0))), (u53.2, .inl (cA, (1 + 1), .inl (fun _ => 0)))]) (rest := []) C (c_S_open hLa (by simp) (by simp; omega)) d_B_init_84 cd_S_open lk_B_31 dd_S_open rfl ⟨Nat.le_of_ble_eq_true rfl, Nat.le_of_ble_eq_true rfl⟩ ⟨Nat.le_of_ble_eq_true rfl, Nat.le_of_ble_eq_true rfl⟩ 0 0 rfl rfl [1, 2, 3] [0, 4, 5, 6, 7, 8, 9, 10, 11, 12] rfl rfl (by decide) (by decide) (by decide) rfl (Nat.le_of_ble_eq_true rfl) ?_
        intro u84 hp84
        refine x_iincN (lv' := [(1, .int (nI (v + 1))), (0, .ref h)]) C d_B_init_87 rfl (by decide) rfl ?_
        refine x_goto (tgt := 74) C d_B_init_90 (by decide) ?_
        refine x_perm (ws' := [(h, .inr (1, [.ref q5, .ref q21, .ref q37, .ref q53, .int (nI 0)])), (q5, .inr (0, [.ref u5.1, .ref u5.2, .int (nI (v + 1))])), (u5.1, .inl (cA, 2096, .inl (u84.1))), (u5.2, .inl (cA, (32 + 1), .inl (u84.2))), (q21, .inr (0, [.ref u21.1, .ref u21.2, .int (nI 0)])), (u21.1, .inl (cA, 2096, .inl (fun _ => 0))), (u21.2, .inl (cA, (32 + 1), .inl (fun _ => 0))), (q37, .inr (0, [.ref u37.1, .ref u37.2, .int (nI 0)])), (u37.1, .inl (cA, 3000, .inl (fun _ => 0))), (u37.2, .inl (cA, (12 + 1), .inl (fun _ => 0))), (q53, .inr (0, [.ref u53.1, .ref u53.2, .int (nI 0)])), (u53.1, .inl (cA, 3001, .inl (fun _ => 0))), (u53.2, .inl (cA, (1 + 1), .inl (fun _ => 0)))]) [0, 10, 11, 12, 1, 2, 3, 4, 5, 6, 7, 8, 9] (by decide) rfl ?_
        refine x_lv (lv' := [(1, .int (nI (v + 1))), (0, .ref h)]) (Or.inr (List.forall_mem_cons.mpr ⟨rfl, List.forall_mem_cons.mpr ⟨rfl, fun _ h9 => absurd h9 List.not_mem_nil⟩⟩)) ?_
        exact ih (v + 1) u84.1 u84.2 (by omega) (by rw [List.replicate_succ']; exact hp84)
  exact LP 32 0 _ _ (by omega) (Hs.new 2096 33 (by omega) (by omega) (by omega))
