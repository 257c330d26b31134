set_option maxHeartbeats 4000000 in
theorem c_I_bitCount {l : Launch} {D : va_G} {cA : ClassId} {b : Nat} (hb : b < 2 ^ 31) : CtI l D cA y_I_bitCount b_I_bitCount 1 (some .int) ({ frames := 0, cells := 0, slots := 0, locals := 0 } : Room) [.int (nI b)] [] (fun r (_ : Unit) => r = nI (pcn 31 b)) (fun _ => []) := by
  refine CtI.start (lv0 := [(0, .int (nI b))]) (by decide) rfl (Nat.le_of_ble_eq_true rfl) ?_
  intro p_ e_ s_ m_ args_ below_ meth_ c_ A_ C hr hin
  have hf := bc_all hb
  refine x_iload_n C d_I_bitCount_0 rfl rfl ?_
  refine x_iload_n C d_I_bitCount_1 rfl rfl ?_
  refine x_iconst (v := (nI (1))) C d_I_bitCount_2 (by decide) ?_
  refine x_iushr (v := (nI (b / 2 ^ 1))) C d_I_bitCount_3 (nx_ushr (by omega) (by omega)) ?_
  refine x_ldcw C d_I_bitCount_4 lk_I_265 ?_
  refine x_top (y := nI 1431655765) (by decide) ?_
  refine x_iand C d_I_bitCount_7 ?_
  refine x_top (y := (nI (b / 2 ^ 1 &&& 1431655765))) (nx_and _ _) ?_
  refine x_isubN C d_I_bitCount_8 hf.1 ?_
  refine x_top (y := (nI (bc1 b))) rfl ?_
  refine x_istore_n (lv' := [(0, .int (nI (bc1 b)))]) C d_I_bitCount_9 rfl (by decide) rfl ?_
  refine x_iload_n C d_I_bitCount_10 rfl rfl ?_
  refine x_ldcw C d_I_bitCount_11 lk_I_266 ?_
  refine x_top (y := nI 858993459) (by decide) ?_
  refine x_iand C d_I_bitCount_14 ?_
  refine x_top (y := (nI (bc1 b &&& 858993459))) (nx_and _ _) ?_
  refine x_iload_n C d_I_bitCount_15 rfl rfl ?_
  refine x_iconst (v := (nI (2))) C d_I_bitCount_16 (by decide) ?_
  refine x_iushr (v := (nI ((bc1 b) / 2 ^ 2))) C d_I_bitCount_17 (nx_ushr (by omega) (by omega)) ?_
  refine x_ldcw C d_I_bitCount_18 lk_I_266 ?_
  refine x_top (y := nI 858993459) (by decide) ?_
  refine x_iand C d_I_bitCount_21 ?_
  refine x_top (y := (nI ((bc1 b) / 2 ^ 2 &&& 858993459))) (nx_and _ _) ?_
  refine x_iaddN C d_I_bitCount_22  ?_
  refine x_top (y := (nI (bc2 (bc1 b)))) rfl ?_
  refine x_istore_n (lv' := [(0, .int (nI (bc2 (bc1 b))))]) C d_I_bitCount_23 rfl (by decide) rfl ?_
  refine x_iload_n C d_I_bitCount_24 rfl rfl ?_
  refine x_iload_n C d_I_bitCount_25 rfl rfl ?_
  refine x_iconst (v := (nI (4))) C d_I_bitCount_26 (by decide) ?_
  refine x_iushr (v := (nI ((bc2 (bc1 b)) / 2 ^ 4))) C d_I_bitCount_27 (nx_ushr (by omega) (by omega)) ?_
  refine x_iaddN C d_I_bitCount_28  ?_
  refine x_ldcw C d_I_bitCount_29 lk_I_267 ?_
  refine x_top (y := nI 252645135) (by decide) ?_
  refine x_iand C d_I_bitCount_32 ?_
  refine x_top (y := (nI (bc3 (bc2 (bc1 b))))) (nx_and _ _) ?_
  refine x_istore_n (lv' := [(0, .int (nI (bc3 (bc2 (bc1 b)))))]) C d_I_bitCount_33 rfl (by decide) rfl ?_
  refine x_iload_n C d_I_bitCount_34 rfl rfl ?_
  refine x_iload_n C d_I_bitCount_35 rfl rfl ?_
  refine x_bipush (v := (nI (8))) C d_I_bitCount_36 (by decide) ?_
  refine x_iushr (v := (nI ((bc3 (bc2 (bc1 b))) / 2 ^ 8))) C d_I_bitCount_38 (nx_ushr (by omega) (by omega)) ?_
  refine x_iaddN C d_I_bitCount_39  ?_
  refine x_top (y := (nI (bc4 (bc3 (bc2 (bc1 b)))))) rfl ?_
  refine x_istore_n (lv' := [(0, .int (nI (bc4 (bc3 (bc2 (bc1 b))))))]) C d_I_bitCount_40 rfl (by decide) rfl ?_
  refine x_iload_n C d_I_bitCount_41 rfl rfl ?_
  refine x_iload_n C d_I_bitCount_42 rfl rfl ?_
  refine x_bipush (v := (nI (16))) C d_I_bitCount_43 (by decide) ?_
  refine x_iushr (v := (nI ((bc4 (bc3 (bc2 (bc1 b)))) / 2 ^ 16))) C d_I_bitCount_45 (nx_ushr (by omega) (by omega)) ?_
  refine x_iaddN C d_I_bitCount_46  ?_
  refine x_top (y := (nI (bc5 (bc4 (bc3 (bc2 (bc1 b))))))) rfl ?_
  refine x_istore_n (lv' := [(0, .int (nI (bc5 (bc4 (bc3 (bc2 (bc1 b)))))))]) C d_I_bitCount_47 rfl (by decide) rfl ?_
  refine x_iload_n C d_I_bitCount_48 rfl rfl ?_
  refine x_bipush (v := (nI (63))) C d_I_bitCount_49 (by decide) ?_
  refine x_iand C d_I_bitCount_51 ?_
  refine x_top (y := (nI (pcn 31 b))) ((nx_and _ _).trans (congrArg nI hf.2.2.2.2.2)) ?_
  exact x_iret C hr d_I_bitCount_52 () rfl (rfl)
set_option maxHeartbeats 4000000 in
theorem c_I_ntz {l : Launch} {D : va_G} {cA : ClassId} {x t q : Nat} (hx : x = 2 ^ t * (2 * q + 1)) (hx2 : x < 2 ^ 31) : CtI l D cA y_I_numberOfTrailingZeros b_I_numberOfTrailingZeros 2 (some .int) ({ frames := 0, cells := 0, slots := 0, locals := 0 } : Room) [.int (nI x)] [] (fun r (_ : Unit) => r = nI t) (fun _ => []) := by
  refine CtI.start (lv0 := [(0, .int (nI x))]) (by decide) rfl (Nat.le_of_ble_eq_true rfl) ?_
  intro p_ e_ s_ m_ args_ below_ meth_ c_ A_ C hr hin
  have ht : t < 31 := tz_small (q := q) (by omega)
  have hx0 : 0 < x := by rw [hx]; exact Nat.mul_pos (Nat.two_pow_pos t) (by omega)
  have hp : 0 < 2 ^ t := Nat.two_pow_pos t
  have hp2 : 2 ^ t < 2 ^ 31 := Nat.pow_lt_pow_right (by omega) ht
  refine x_iload_n C d_I_numberOfTrailingZeros_0 rfl rfl ?_
  refine x_iconst (v := ((-1))) C d_I_numberOfTrailingZeros_1 (by decide) ?_
  refine x_ixor C d_I_numberOfTrailingZeros_2 ?_
  refine x_iload_n C d_I_numberOfTrailingZeros_3 rfl rfl ?_
  refine x_iconst (v := (nI (1))) C d_I_numberOfTrailingZeros_4 (by decide) ?_
  refine x_isubN C d_I_numberOfTrailingZeros_5 (by omega) ?_
  refine x_iand C d_I_numberOfTrailingZeros_6 ?_
  refine x_top (y := (nI (2 ^ t - 1))) (by rw [show (-1 : Int32) = nI 4294967295 by decide, nx_xor, nx_and, hx, tz_mask (by omega)]) ?_
  refine x_istore_n (lv' := [(0, .int (nI (2 ^ t - 1)))]) C d_I_numberOfTrailingZeros_7 rfl (by decide) rfl ?_
  refine x_iload_n C d_I_numberOfTrailingZeros_8 rfl rfl ?_
  refine x_if_gtN (tgt := 17) C d_I_numberOfTrailingZeros_9 (by decide) (by omega) (fun c9 => ?_) (fun c9 => ?_)
  · refine x_iconst (v := (nI (1))) C d_I_numberOfTrailingZeros_17 (by decide) ?_
    refine x_istore_n (lv' := [(1, .int (nI 1)), (0, .int (nI (2 ^ t - 1)))]) C d_I_numberOfTrailingZeros_18 rfl (by decide) rfl ?_
    refine x_iload_n C d_I_numberOfTrailingZeros_19 rfl rfl ?_
    refine x_ldcw C d_I_numberOfTrailingZeros_20 lk_I_264 ?_
    refine x_top (y := nI 65536) (by decide) ?_
    refine x_icmp_leN (tgt := 34) C d_I_numberOfTrailingZeros_23 (by decide) (by omega) (by omega) (fun c23 => ?_) (fun c23 => ?_)
    · refine x_iload_n C d_I_numberOfTrailingZeros_34 rfl rfl ?_
      refine x_sipush (v := (nI (256))) C d_I_numberOfTrailingZeros_35 (by decide) ?_
      refine x_icmp_leN (tgt := 49) C d_I_numberOfTrailingZeros_38 (by decide) (by omega) (by omega) (fun c38 => ?_) (fun c38 => ?_)
      · refine x_iload_n C d_I_numberOfTrailingZeros_49 rfl rfl ?_
        refine x_bipush (v := (nI (16))) C d_I_numberOfTrailingZeros_50 (by decide) ?_
        refine x_icmp_leN (tgt := 62) C d_I_numberOfTrailingZeros_52 (by decide) (by omega) (by omega) (fun c52 => ?_) (fun c52 => ?_)
        · refine x_iload_n C d_I_numberOfTrailingZeros_62 rfl rfl ?_
          refine x_iconst (v := (nI (4))) C d_I_numberOfTrailingZeros_63 (by decide) ?_
          refine x_icmp_leN (tgt := 74) C d_I_numberOfTrailingZeros_64 (by decide) (by omega) (by omega) (fun c64 => ?_) (fun c64 => ?_)
          · refine x_iload_n C d_I_numberOfTrailingZeros_74 rfl rfl ?_
            refine x_iload_n C d_I_numberOfTrailingZeros_75 rfl rfl ?_
            refine x_iconst (v := (nI (1))) C d_I_numberOfTrailingZeros_76 (by decide) ?_
            refine x_iushr (v := (nI ((2 ^ t - 1) / 2 ^ 1))) C d_I_numberOfTrailingZeros_77 (nx_ushr (by omega) (by omega)) ?_
            refine x_iaddN C d_I_numberOfTrailingZeros_78  ?_
            exact x_iret C hr d_I_numberOfTrailingZeros_79 () rfl (by
              have e9 : ∀ u, u < 31 → (0 < 2 ^ u - 1 ∧ 2 ^ u - 1 ≤ 65536 ∧ 2 ^ u - 1 ≤ 256 ∧ 2 ^ u - 1 ≤ 16 ∧ 2 ^ u - 1 ≤ 4) → 1 + (2 ^ u - 1) / 2 ^ 1 = u := by decide
              exact congrArg nI (e9 t ht ⟨c9, c23, c38, c52, c64⟩))
          · refine x_iinc (v := (nI (1 + 2))) (lv' := [(1, .int (nI (1 + 2))), (0, .int (nI (2 ^ t - 1)))]) C d_I_numberOfTrailingZeros_67 rfl rfl (by decide) rfl ?_
            refine x_iload_n C d_I_numberOfTrailingZeros_70 rfl rfl ?_
            refine x_iconst (v := (nI (2))) C d_I_numberOfTrailingZeros_71 (by decide) ?_
            refine x_iushr (v := (nI ((2 ^ t - 1) / 2 ^ 2))) C d_I_numberOfTrailingZeros_72 (nx_ushr (by omega) (by omega)) ?_
            refine x_istore_n (lv' := [(0, .int (nI ((2 ^ t - 1) / 2 ^ 2))), (1, .int (nI (1 + 2)))]) C d_I_numberOfTrailingZeros_73 rfl (by decide) rfl ?_
            refine x_iload_n C d_I_numberOfTrailingZeros_74 rfl rfl ?_
            refine x_iload_n C d_I_numberOfTrailingZeros_75 rfl rfl ?_
            refine x_iconst (v := (nI (1))) C d_I_numberOfTrailingZeros_76 (by decide) ?_
            refine x_iushr (v := (nI (((2 ^ t - 1) / 2 ^ 2) / 2 ^ 1))) C d_I_numberOfTrailingZeros_77 (nx_ushr (by omega) (by omega)) ?_
            refine x_iaddN C d_I_numberOfTrailingZeros_78  ?_
            exact x_iret C hr d_I_numberOfTrailingZeros_79 () rfl (by
              have e9 : ∀ u, u < 31 → (0 < 2 ^ u - 1 ∧ 2 ^ u - 1 ≤ 65536 ∧ 2 ^ u - 1 ≤ 256 ∧ 2 ^ u - 1 ≤ 16 ∧ 4 < 2 ^ u - 1) → 1 + 2 + ((2 ^ u - 1) / 2 ^ 2) / 2 ^ 1 = u := by decide
              exact congrArg nI (e9 t ht ⟨c9, c23, c38, c52, c64⟩))
        · refine x_iinc (v := (nI (1 + 4))) (lv' := [(1, .int (nI (1 + 4))), (0, .int (nI (2 ^ t - 1)))]) C d_I_numberOfTrailingZeros_55 rfl rfl (by decide) rfl ?_
          refine x_iload_n C d_I_numberOfTrailingZeros_58 rfl rfl ?_
          refine x_iconst (v := (nI (4))) C d_I_numberOfTrailingZeros_59 (by decide) ?_
          refine x_iushr (v := (nI ((2 ^ t - 1) / 2 ^ 4))) C d_I_numberOfTrailingZeros_60 (nx_ushr (by omega) (by omega)) ?_
          refine x_istore_n (lv' := [(0, .int (nI ((2 ^ t - 1) / 2 ^ 4))), (1, .int (nI (1 + 4)))]) C d_I_numberOfTrailingZeros_61 rfl (by decide) rfl ?_
          refine x_iload_n C d_I_numberOfTrailingZeros_62 rfl rfl ?_
          refine x_iconst (v := (nI (4))) C d_I_numberOfTrailingZeros_63 (by decide) ?_
          refine x_icmp_leN (tgt := 74) C d_I_numberOfTrailingZeros_64 (by decide) (by omega) (by omega) (fun c64 => ?_) (fun c64 => ?_)
          · refine x_iload_n C d_I_numberOfTrailingZeros_74 rfl rfl ?_
            refine x_iload_n C d_I_numberOfTrailingZeros_75 rfl rfl ?_
            refine x_iconst (v := (nI (1))) C d_I_numberOfTrailingZeros_76 (by decide) ?_
            refine x_iushr (v := (nI (((2 ^ t - 1) / 2 ^ 4) / 2 ^ 1))) C d_I_numberOfTrailingZeros_77 (nx_ushr (by omega) (by omega)) ?_
            refine x_iaddN C d_I_numberOfTrailingZeros_78  ?_
            exact x_iret C hr d_I_numberOfTrailingZeros_79 () rfl (by
              have e9 : ∀ u, u < 31 → (0 < 2 ^ u - 1 ∧ 2 ^ u - 1 ≤ 65536 ∧ 2 ^ u - 1 ≤ 256 ∧ 16 < 2 ^ u - 1 ∧ (2 ^ u - 1) / 2 ^ 4 ≤ 4) → 1 + 4 + ((2 ^ u - 1) / 2 ^ 4) / 2 ^ 1 = u := by decide
              exact congrArg nI (e9 t ht ⟨c9, c23, c38, c52, c64⟩))
          · refine x_iinc (v := (nI (1 + 4 + 2))) (lv' := [(1, .int (nI (1 + 4 + 2))), (0, .int (nI ((2 ^ t - 1) / 2 ^ 4)))]) C d_I_numberOfTrailingZeros_67 rfl rfl (by decide) rfl ?_
            refine x_iload_n C d_I_numberOfTrailingZeros_70 rfl rfl ?_
            refine x_iconst (v := (nI (2))) C d_I_numberOfTrailingZeros_71 (by decide) ?_
            refine x_iushr (v := (nI (((2 ^ t - 1) / 2 ^ 4) / 2 ^ 2))) C d_I_numberOfTrailingZeros_72 (nx_ushr (by omega) (by omega)) ?_
            refine x_istore_n (lv' := [(0, .int (nI (((2 ^ t - 1) / 2 ^ 4) / 2 ^ 2))), (1, .int (nI (1 + 4 + 2)))]) C d_I_numberOfTrailingZeros_73 rfl (by decide) rfl ?_
            refine x_iload_n C d_I_numberOfTrailingZeros_74 rfl rfl ?_
            refine x_iload_n C d_I_numberOfTrailingZeros_75 rfl rfl ?_
            refine x_iconst (v := (nI (1))) C d_I_numberOfTrailingZeros_76 (by decide) ?_
            refine x_iushr (v := (nI ((((2 ^ t - 1) / 2 ^ 4) / 2 ^ 2) / 2 ^ 1))) C d_I_numberOfTrailingZeros_77 (nx_ushr (by omega) (by omega)) ?_
            refine x_iaddN C d_I_numberOfTrailingZeros_78  ?_
            exact x_iret C hr d_I_numberOfTrailingZeros_79 () rfl (by
              have e9 : ∀ u, u < 31 → (0 < 2 ^ u - 1 ∧ 2 ^ u - 1 ≤ 65536 ∧ 2 ^ u - 1 ≤ 256 ∧ 16 < 2 ^ u - 1 ∧ 4 < (2 ^ u - 1) / 2 ^ 4) → 1 + 4 + 2 + (((2 ^ u - 1) / 2 ^ 4) / 2 ^ 2) / 2 ^ 1 = u := by decide
              exact congrArg nI (e9 t ht ⟨c9, c23, c38, c52, c64⟩))
      · refine x_iinc (v := (nI (1 + 8))) (lv' := [(1, .int (nI (1 + 8))), (0, .int (nI (2 ^ t - 1)))]) C d_I_numberOfTrailingZeros_41 rfl rfl (by decide) rfl ?_
        refine x_iload_n C d_I_numberOfTrailingZeros_44 rfl rfl ?_
        refine x_bipush (v := (nI (8))) C d_I_numberOfTrailingZeros_45 (by decide) ?_
        refine x_iushr (v := (nI ((2 ^ t - 1) / 2 ^ 8))) C d_I_numberOfTrailingZeros_47 (nx_ushr (by omega) (by omega)) ?_
        refine x_istore_n (lv' := [(0, .int (nI ((2 ^ t - 1) / 2 ^ 8))), (1, .int (nI (1 + 8)))]) C d_I_numberOfTrailingZeros_48 rfl (by decide) rfl ?_
        refine x_iload_n C d_I_numberOfTrailingZeros_49 rfl rfl ?_
        refine x_bipush (v := (nI (16))) C d_I_numberOfTrailingZeros_50 (by decide) ?_
        refine x_icmp_leN (tgt := 62) C d_I_numberOfTrailingZeros_52 (by decide) (by omega) (by omega) (fun c52 => ?_) (fun c52 => ?_)
        · refine x_iload_n C d_I_numberOfTrailingZeros_62 rfl rfl ?_
          refine x_iconst (v := (nI (4))) C d_I_numberOfTrailingZeros_63 (by decide) ?_
          refine x_icmp_leN (tgt := 74) C d_I_numberOfTrailingZeros_64 (by decide) (by omega) (by omega) (fun c64 => ?_) (fun c64 => ?_)
          · refine x_iload_n C d_I_numberOfTrailingZeros_74 rfl rfl ?_
            refine x_iload_n C d_I_numberOfTrailingZeros_75 rfl rfl ?_
            refine x_iconst (v := (nI (1))) C d_I_numberOfTrailingZeros_76 (by decide) ?_
            refine x_iushr (v := (nI (((2 ^ t - 1) / 2 ^ 8) / 2 ^ 1))) C d_I_numberOfTrailingZeros_77 (nx_ushr (by omega) (by omega)) ?_
            refine x_iaddN C d_I_numberOfTrailingZeros_78  ?_
            exact x_iret C hr d_I_numberOfTrailingZeros_79 () rfl (by
              have e9 : ∀ u, u < 31 → (0 < 2 ^ u - 1 ∧ 2 ^ u - 1 ≤ 65536 ∧ 256 < 2 ^ u - 1 ∧ (2 ^ u - 1) / 2 ^ 8 ≤ 16 ∧ (2 ^ u - 1) / 2 ^ 8 ≤ 4) → 1 + 8 + ((2 ^ u - 1) / 2 ^ 8) / 2 ^ 1 = u := by decide
              exact congrArg nI (e9 t ht ⟨c9, c23, c38, c52, c64⟩))
          · refine x_iinc (v := (nI (1 + 8 + 2))) (lv' := [(1, .int (nI (1 + 8 + 2))), (0, .int (nI ((2 ^ t - 1) / 2 ^ 8)))]) C d_I_numberOfTrailingZeros_67 rfl rfl (by decide) rfl ?_
            refine x_iload_n C d_I_numberOfTrailingZeros_70 rfl rfl ?_
            refine x_iconst (v := (nI (2))) C d_I_numberOfTrailingZeros_71 (by decide) ?_
            refine x_iushr (v := (nI (((2 ^ t - 1) / 2 ^ 8) / 2 ^ 2))) C d_I_numberOfTrailingZeros_72 (nx_ushr (by omega) (by omega)) ?_
            refine x_istore_n (lv' := [(0, .int (nI (((2 ^ t - 1) / 2 ^ 8) / 2 ^ 2))), (1, .int (nI (1 + 8 + 2)))]) C d_I_numberOfTrailingZeros_73 rfl (by decide) rfl ?_
            refine x_iload_n C d_I_numberOfTrailingZeros_74 rfl rfl ?_
            refine x_iload_n C d_I_numberOfTrailingZeros_75 rfl rfl ?_
            refine x_iconst (v := (nI (1))) C d_I_numberOfTrailingZeros_76 (by decide) ?_
            refine x_iushr (v := (nI ((((2 ^ t - 1) / 2 ^ 8) / 2 ^ 2) / 2 ^ 1))) C d_I_numberOfTrailingZeros_77 (nx_ushr (by omega) (by omega)) ?_
            refine x_iaddN C d_I_numberOfTrailingZeros_78  ?_
            exact x_iret C hr d_I_numberOfTrailingZeros_79 () rfl (by
              have e9 : ∀ u, u < 31 → (0 < 2 ^ u - 1 ∧ 2 ^ u - 1 ≤ 65536 ∧ 256 < 2 ^ u - 1 ∧ (2 ^ u - 1) / 2 ^ 8 ≤ 16 ∧ 4 < (2 ^ u - 1) / 2 ^ 8) → 1 + 8 + 2 + (((2 ^ u - 1) / 2 ^ 8) / 2 ^ 2) / 2 ^ 1 = u := by decide
              exact congrArg nI (e9 t ht ⟨c9, c23, c38, c52, c64⟩))
        · refine x_iinc (v := (nI (1 + 8 + 4))) (lv' := [(1, .int (nI (1 + 8 + 4))), (0, .int (nI ((2 ^ t - 1) / 2 ^ 8)))]) C d_I_numberOfTrailingZeros_55 rfl rfl (by decide) rfl ?_
          refine x_iload_n C d_I_numberOfTrailingZeros_58 rfl rfl ?_
          refine x_iconst (v := (nI (4))) C d_I_numberOfTrailingZeros_59 (by decide) ?_
          refine x_iushr (v := (nI (((2 ^ t - 1) / 2 ^ 8) / 2 ^ 4))) C d_I_numberOfTrailingZeros_60 (nx_ushr (by omega) (by omega)) ?_
          refine x_istore_n (lv' := [(0, .int (nI (((2 ^ t - 1) / 2 ^ 8) / 2 ^ 4))), (1, .int (nI (1 + 8 + 4)))]) C d_I_numberOfTrailingZeros_61 rfl (by decide) rfl ?_
          refine x_iload_n C d_I_numberOfTrailingZeros_62 rfl rfl ?_
          refine x_iconst (v := (nI (4))) C d_I_numberOfTrailingZeros_63 (by decide) ?_
          refine x_icmp_leN (tgt := 74) C d_I_numberOfTrailingZeros_64 (by decide) (by omega) (by omega) (fun c64 => ?_) (fun c64 => ?_)
          · refine x_iload_n C d_I_numberOfTrailingZeros_74 rfl rfl ?_
            refine x_iload_n C d_I_numberOfTrailingZeros_75 rfl rfl ?_
            refine x_iconst (v := (nI (1))) C d_I_numberOfTrailingZeros_76 (by decide) ?_
            refine x_iushr (v := (nI ((((2 ^ t - 1) / 2 ^ 8) / 2 ^ 4) / 2 ^ 1))) C d_I_numberOfTrailingZeros_77 (nx_ushr (by omega) (by omega)) ?_
            refine x_iaddN C d_I_numberOfTrailingZeros_78  ?_
            exact x_iret C hr d_I_numberOfTrailingZeros_79 () rfl (by
              have e9 : ∀ u, u < 31 → (0 < 2 ^ u - 1 ∧ 2 ^ u - 1 ≤ 65536 ∧ 256 < 2 ^ u - 1 ∧ 16 < (2 ^ u - 1) / 2 ^ 8 ∧ ((2 ^ u - 1) / 2 ^ 8) / 2 ^ 4 ≤ 4) → 1 + 8 + 4 + (((2 ^ u - 1) / 2 ^ 8) / 2 ^ 4) / 2 ^ 1 = u := by decide
              exact congrArg nI (e9 t ht ⟨c9, c23, c38, c52, c64⟩))
          · refine x_iinc (v := (nI (1 + 8 + 4 + 2))) (lv' := [(1, .int (nI (1 + 8 + 4 + 2))), (0, .int (nI (((2 ^ t - 1) / 2 ^ 8) / 2 ^ 4)))]) C d_I_numberOfTrailingZeros_67 rfl rfl (by decide) rfl ?_
            refine x_iload_n C d_I_numberOfTrailingZeros_70 rfl rfl ?_
            refine x_iconst (v := (nI (2))) C d_I_numberOfTrailingZeros_71 (by decide) ?_
            refine x_iushr (v := (nI ((((2 ^ t - 1) / 2 ^ 8) / 2 ^ 4) / 2 ^ 2))) C d_I_numberOfTrailingZeros_72 (nx_ushr (by omega) (by omega)) ?_
            refine x_istore_n (lv' := [(0, .int (nI ((((2 ^ t - 1) / 2 ^ 8) / 2 ^ 4) / 2 ^ 2))), (1, .int (nI (1 + 8 + 4 + 2)))]) C d_I_numberOfTrailingZeros_73 rfl (by decide) rfl ?_
            refine x_iload_n C d_I_numberOfTrailingZeros_74 rfl rfl ?_
            refine x_iload_n C d_I_numberOfTrailingZeros_75 rfl rfl ?_
            refine x_iconst (v := (nI (1))) C d_I_numberOfTrailingZeros_76 (by decide) ?_
            refine x_iushr (v := (nI (((((2 ^ t - 1) / 2 ^ 8) / 2 ^ 4) / 2 ^ 2) / 2 ^ 1))) C d_I_numberOfTrailingZeros_77 (nx_ushr (by omega) (by omega)) ?_
            refine x_iaddN C d_I_numberOfTrailingZeros_78  ?_
            exact x_iret C hr d_I_numberOfTrailingZeros_79 () rfl (by
              have e9 : ∀ u, u < 31 → (0 < 2 ^ u - 1 ∧ 2 ^ u - 1 ≤ 65536 ∧ 256 < 2 ^ u - 1 ∧ 16 < (2 ^ u - 1) / 2 ^ 8 ∧ 4 < ((2 ^ u - 1) / 2 ^ 8) / 2 ^ 4) → 1 + 8 + 4 + 2 + ((((2 ^ u - 1) / 2 ^ 8) / 2 ^ 4) / 2 ^ 2) / 2 ^ 1 = u := by decide
              exact congrArg nI (e9 t ht ⟨c9, c23, c38, c52, c64⟩))
    · refine x_iinc (v := (nI (1 + 16))) (lv' := [(1, .int (nI (1 + 16))), (0, .int (nI (2 ^ t - 1)))]) C d_I_numberOfTrailingZeros_26 rfl rfl (by decide) rfl ?_
      refine x_iload_n C d_I_numberOfTrailingZeros_29 rfl rfl ?_
      refine x_bipush (v := (nI (16))) C d_I_numberOfTrailingZeros_30 (by decide) ?_
      refine x_iushr (v := (nI ((2 ^ t - 1) / 2 ^ 16))) C d_I_numberOfTrailingZeros_32 (nx_ushr (by omega) (by omega)) ?_
      refine x_istore_n (lv' := [(0, .int (nI ((2 ^ t - 1) / 2 ^ 16))), (1, .int (nI (1 + 16)))]) C d_I_numberOfTrailingZeros_33 rfl (by decide) rfl ?_
      refine x_iload_n C d_I_numberOfTrailingZeros_34 rfl rfl ?_
      refine x_sipush (v := (nI (256))) C d_I_numberOfTrailingZeros_35 (by decide) ?_
      refine x_icmp_leN (tgt := 49) C d_I_numberOfTrailingZeros_38 (by decide) (by omega) (by omega) (fun c38 => ?_) (fun c38 => ?_)
      · refine x_iload_n C d_I_numberOfTrailingZeros_49 rfl rfl ?_
        refine x_bipush (v := (nI (16))) C d_I_numberOfTrailingZeros_50 (by decide) ?_
        refine x_icmp_leN (tgt := 62) C d_I_numberOfTrailingZeros_52 (by decide) (by omega) (by omega) (fun c52 => ?_) (fun c52 => ?_)
        · refine x_iload_n C d_I_numberOfTrailingZeros_62 rfl rfl ?_
          refine x_iconst (v := (nI (4))) C d_I_numberOfTrailingZeros_63 (by decide) ?_
          refine x_icmp_leN (tgt := 74) C d_I_numberOfTrailingZeros_64 (by decide) (by omega) (by omega) (fun c64 => ?_) (fun c64 => ?_)
          · refine x_iload_n C d_I_numberOfTrailingZeros_74 rfl rfl ?_
            refine x_iload_n C d_I_numberOfTrailingZeros_75 rfl rfl ?_
            refine x_iconst (v := (nI (1))) C d_I_numberOfTrailingZeros_76 (by decide) ?_
            refine x_iushr (v := (nI (((2 ^ t - 1) / 2 ^ 16) / 2 ^ 1))) C d_I_numberOfTrailingZeros_77 (nx_ushr (by omega) (by omega)) ?_
            refine x_iaddN C d_I_numberOfTrailingZeros_78  ?_
            exact x_iret C hr d_I_numberOfTrailingZeros_79 () rfl (by
              have e9 : ∀ u, u < 31 → (0 < 2 ^ u - 1 ∧ 65536 < 2 ^ u - 1 ∧ (2 ^ u - 1) / 2 ^ 16 ≤ 256 ∧ (2 ^ u - 1) / 2 ^ 16 ≤ 16 ∧ (2 ^ u - 1) / 2 ^ 16 ≤ 4) → 1 + 16 + ((2 ^ u - 1) / 2 ^ 16) / 2 ^ 1 = u := by decide
              exact congrArg nI (e9 t ht ⟨c9, c23, c38, c52, c64⟩))
          · refine x_iinc (v := (nI (1 + 16 + 2))) (lv' := [(1, .int (nI (1 + 16 + 2))), (0, .int (nI ((2 ^ t - 1) / 2 ^ 16)))]) C d_I_numberOfTrailingZeros_67 rfl rfl (by decide) rfl ?_
            refine x_iload_n C d_I_numberOfTrailingZeros_70 rfl rfl ?_
            refine x_iconst (v := (nI (2))) C d_I_numberOfTrailingZeros_71 (by decide) ?_
            refine x_iushr (v := (nI (((2 ^ t - 1) / 2 ^ 16) / 2 ^ 2))) C d_I_numberOfTrailingZeros_72 (nx_ushr (by omega) (by omega)) ?_
            refine x_istore_n (lv' := [(0, .int (nI (((2 ^ t - 1) / 2 ^ 16) / 2 ^ 2))), (1, .int (nI (1 + 16 + 2)))]) C d_I_numberOfTrailingZeros_73 rfl (by decide) rfl ?_
            refine x_iload_n C d_I_numberOfTrailingZeros_74 rfl rfl ?_
            refine x_iload_n C d_I_numberOfTrailingZeros_75 rfl rfl ?_
            refine x_iconst (v := (nI (1))) C d_I_numberOfTrailingZeros_76 (by decide) ?_
            refine x_iushr (v := (nI ((((2 ^ t - 1) / 2 ^ 16) / 2 ^ 2) / 2 ^ 1))) C d_I_numberOfTrailingZeros_77 (nx_ushr (by omega) (by omega)) ?_
            refine x_iaddN C d_I_numberOfTrailingZeros_78  ?_
            exact x_iret C hr d_I_numberOfTrailingZeros_79 () rfl (by
              have e9 : ∀ u, u < 31 → (0 < 2 ^ u - 1 ∧ 65536 < 2 ^ u - 1 ∧ (2 ^ u - 1) / 2 ^ 16 ≤ 256 ∧ (2 ^ u - 1) / 2 ^ 16 ≤ 16 ∧ 4 < (2 ^ u - 1) / 2 ^ 16) → 1 + 16 + 2 + (((2 ^ u - 1) / 2 ^ 16) / 2 ^ 2) / 2 ^ 1 = u := by decide
              exact congrArg nI (e9 t ht ⟨c9, c23, c38, c52, c64⟩))
        · refine x_iinc (v := (nI (1 + 16 + 4))) (lv' := [(1, .int (nI (1 + 16 + 4))), (0, .int (nI ((2 ^ t - 1) / 2 ^ 16)))]) C d_I_numberOfTrailingZeros_55 rfl rfl (by decide) rfl ?_
          refine x_iload_n C d_I_numberOfTrailingZeros_58 rfl rfl ?_
          refine x_iconst (v := (nI (4))) C d_I_numberOfTrailingZeros_59 (by decide) ?_
          refine x_iushr (v := (nI (((2 ^ t - 1) / 2 ^ 16) / 2 ^ 4))) C d_I_numberOfTrailingZeros_60 (nx_ushr (by omega) (by omega)) ?_
          refine x_istore_n (lv' := [(0, .int (nI (((2 ^ t - 1) / 2 ^ 16) / 2 ^ 4))), (1, .int (nI (1 + 16 + 4)))]) C d_I_numberOfTrailingZeros_61 rfl (by decide) rfl ?_
          refine x_iload_n C d_I_numberOfTrailingZeros_62 rfl rfl ?_
          refine x_iconst (v := (nI (4))) C d_I_numberOfTrailingZeros_63 (by decide) ?_
          refine x_icmp_leN (tgt := 74) C d_I_numberOfTrailingZeros_64 (by decide) (by omega) (by omega) (fun c64 => ?_) (fun c64 => ?_)
          · refine x_iload_n C d_I_numberOfTrailingZeros_74 rfl rfl ?_
            refine x_iload_n C d_I_numberOfTrailingZeros_75 rfl rfl ?_
            refine x_iconst (v := (nI (1))) C d_I_numberOfTrailingZeros_76 (by decide) ?_
            refine x_iushr (v := (nI ((((2 ^ t - 1) / 2 ^ 16) / 2 ^ 4) / 2 ^ 1))) C d_I_numberOfTrailingZeros_77 (nx_ushr (by omega) (by omega)) ?_
            refine x_iaddN C d_I_numberOfTrailingZeros_78  ?_
            exact x_iret C hr d_I_numberOfTrailingZeros_79 () rfl (by
              have e9 : ∀ u, u < 31 → (0 < 2 ^ u - 1 ∧ 65536 < 2 ^ u - 1 ∧ (2 ^ u - 1) / 2 ^ 16 ≤ 256 ∧ 16 < (2 ^ u - 1) / 2 ^ 16 ∧ ((2 ^ u - 1) / 2 ^ 16) / 2 ^ 4 ≤ 4) → 1 + 16 + 4 + (((2 ^ u - 1) / 2 ^ 16) / 2 ^ 4) / 2 ^ 1 = u := by decide
              exact congrArg nI (e9 t ht ⟨c9, c23, c38, c52, c64⟩))
          · refine x_iinc (v := (nI (1 + 16 + 4 + 2))) (lv' := [(1, .int (nI (1 + 16 + 4 + 2))), (0, .int (nI (((2 ^ t - 1) / 2 ^ 16) / 2 ^ 4)))]) C d_I_numberOfTrailingZeros_67 rfl rfl (by decide) rfl ?_
            refine x_iload_n C d_I_numberOfTrailingZeros_70 rfl rfl ?_
            refine x_iconst (v := (nI (2))) C d_I_numberOfTrailingZeros_71 (by decide) ?_
            refine x_iushr (v := (nI ((((2 ^ t - 1) / 2 ^ 16) / 2 ^ 4) / 2 ^ 2))) C d_I_numberOfTrailingZeros_72 (nx_ushr (by omega) (by omega)) ?_
            refine x_istore_n (lv' := [(0, .int (nI ((((2 ^ t - 1) / 2 ^ 16) / 2 ^ 4) / 2 ^ 2))), (1, .int (nI (1 + 16 + 4 + 2)))]) C d_I_numberOfTrailingZeros_73 rfl (by decide) rfl ?_
            refine x_iload_n C d_I_numberOfTrailingZeros_74 rfl rfl ?_
            refine x_iload_n C d_I_numberOfTrailingZeros_75 rfl rfl ?_
            refine x_iconst (v := (nI (1))) C d_I_numberOfTrailingZeros_76 (by decide) ?_
            refine x_iushr (v := (nI (((((2 ^ t - 1) / 2 ^ 16) / 2 ^ 4) / 2 ^ 2) / 2 ^ 1))) C d_I_numberOfTrailingZeros_77 (nx_ushr (by omega) (by omega)) ?_
            refine x_iaddN C d_I_numberOfTrailingZeros_78  ?_
            exact x_iret C hr d_I_numberOfTrailingZeros_79 () rfl (by
              have e9 : ∀ u, u < 31 → (0 < 2 ^ u - 1 ∧ 65536 < 2 ^ u - 1 ∧ (2 ^ u - 1) / 2 ^ 16 ≤ 256 ∧ 16 < (2 ^ u - 1) / 2 ^ 16 ∧ 4 < ((2 ^ u - 1) / 2 ^ 16) / 2 ^ 4) → 1 + 16 + 4 + 2 + ((((2 ^ u - 1) / 2 ^ 16) / 2 ^ 4) / 2 ^ 2) / 2 ^ 1 = u := by decide
              exact congrArg nI (e9 t ht ⟨c9, c23, c38, c52, c64⟩))
      · refine x_iinc (v := (nI (1 + 16 + 8))) (lv' := [(1, .int (nI (1 + 16 + 8))), (0, .int (nI ((2 ^ t - 1) / 2 ^ 16)))]) C d_I_numberOfTrailingZeros_41 rfl rfl (by decide) rfl ?_
        refine x_iload_n C d_I_numberOfTrailingZeros_44 rfl rfl ?_
        refine x_bipush (v := (nI (8))) C d_I_numberOfTrailingZeros_45 (by decide) ?_
        refine x_iushr (v := (nI (((2 ^ t - 1) / 2 ^ 16) / 2 ^ 8))) C d_I_numberOfTrailingZeros_47 (nx_ushr (by omega) (by omega)) ?_
        refine x_istore_n (lv' := [(0, .int (nI (((2 ^ t - 1) / 2 ^ 16) / 2 ^ 8))), (1, .int (nI (1 + 16 + 8)))]) C d_I_numberOfTrailingZeros_48 rfl (by decide) rfl ?_
        refine x_iload_n C d_I_numberOfTrailingZeros_49 rfl rfl ?_
        refine x_bipush (v := (nI (16))) C d_I_numberOfTrailingZeros_50 (by decide) ?_
        refine x_icmp_leN (tgt := 62) C d_I_numberOfTrailingZeros_52 (by decide) (by omega) (by omega) (fun c52 => ?_) (fun c52 => ?_)
        · refine x_iload_n C d_I_numberOfTrailingZeros_62 rfl rfl ?_
          refine x_iconst (v := (nI (4))) C d_I_numberOfTrailingZeros_63 (by decide) ?_
          refine x_icmp_leN (tgt := 74) C d_I_numberOfTrailingZeros_64 (by decide) (by omega) (by omega) (fun c64 => ?_) (fun c64 => ?_)
          · refine x_iload_n C d_I_numberOfTrailingZeros_74 rfl rfl ?_
            refine x_iload_n C d_I_numberOfTrailingZeros_75 rfl rfl ?_
            refine x_iconst (v := (nI (1))) C d_I_numberOfTrailingZeros_76 (by decide) ?_
            refine x_iushr (v := (nI ((((2 ^ t - 1) / 2 ^ 16) / 2 ^ 8) / 2 ^ 1))) C d_I_numberOfTrailingZeros_77 (nx_ushr (by omega) (by omega)) ?_
            refine x_iaddN C d_I_numberOfTrailingZeros_78  ?_
            exact x_iret C hr d_I_numberOfTrailingZeros_79 () rfl (by
              have e9 : ∀ u, u < 31 → (0 < 2 ^ u - 1 ∧ 65536 < 2 ^ u - 1 ∧ 256 < (2 ^ u - 1) / 2 ^ 16 ∧ ((2 ^ u - 1) / 2 ^ 16) / 2 ^ 8 ≤ 16 ∧ ((2 ^ u - 1) / 2 ^ 16) / 2 ^ 8 ≤ 4) → 1 + 16 + 8 + (((2 ^ u - 1) / 2 ^ 16) / 2 ^ 8) / 2 ^ 1 = u := by decide
              exact congrArg nI (e9 t ht ⟨c9, c23, c38, c52, c64⟩))
          · refine x_iinc (v := (nI (1 + 16 + 8 + 2))) (lv' := [(1, .int (nI (1 + 16 + 8 + 2))), (0, .int (nI (((2 ^ t - 1) / 2 ^ 16) / 2 ^ 8)))]) C d_I_numberOfTrailingZeros_67 rfl rfl (by decide) rfl ?_
            refine x_iload_n C d_I_numberOfTrailingZeros_70 rfl rfl ?_
            refine x_iconst (v := (nI (2))) C d_I_numberOfTrailingZeros_71 (by decide) ?_
            refine x_iushr (v := (nI ((((2 ^ t - 1) / 2 ^ 16) / 2 ^ 8) / 2 ^ 2))) C d_I_numberOfTrailingZeros_72 (nx_ushr (by omega) (by omega)) ?_
            refine x_istore_n (lv' := [(0, .int (nI ((((2 ^ t - 1) / 2 ^ 16) / 2 ^ 8) / 2 ^ 2))), (1, .int (nI (1 + 16 + 8 + 2)))]) C d_I_numberOfTrailingZeros_73 rfl (by decide) rfl ?_
            refine x_iload_n C d_I_numberOfTrailingZeros_74 rfl rfl ?_
            refine x_iload_n C d_I_numberOfTrailingZeros_75 rfl rfl ?_
            refine x_iconst (v := (nI (1))) C d_I_numberOfTrailingZeros_76 (by decide) ?_
            refine x_iushr (v := (nI (((((2 ^ t - 1) / 2 ^ 16) / 2 ^ 8) / 2 ^ 2) / 2 ^ 1))) C d_I_numberOfTrailingZeros_77 (nx_ushr (by omega) (by omega)) ?_
            refine x_iaddN C d_I_numberOfTrailingZeros_78  ?_
            exact x_iret C hr d_I_numberOfTrailingZeros_79 () rfl (by
              have e9 : ∀ u, u < 31 → (0 < 2 ^ u - 1 ∧ 65536 < 2 ^ u - 1 ∧ 256 < (2 ^ u - 1) / 2 ^ 16 ∧ ((2 ^ u - 1) / 2 ^ 16) / 2 ^ 8 ≤ 16 ∧ 4 < ((2 ^ u - 1) / 2 ^ 16) / 2 ^ 8) → 1 + 16 + 8 + 2 + ((((2 ^ u - 1) / 2 ^ 16) / 2 ^ 8) / 2 ^ 2) / 2 ^ 1 = u := by decide
              exact congrArg nI (e9 t ht ⟨c9, c23, c38, c52, c64⟩))
        · refine x_iinc (v := (nI (1 + 16 + 8 + 4))) (lv' := [(1, .int (nI (1 + 16 + 8 + 4))), (0, .int (nI (((2 ^ t - 1) / 2 ^ 16) / 2 ^ 8)))]) C d_I_numberOfTrailingZeros_55 rfl rfl (by decide) rfl ?_
          refine x_iload_n C d_I_numberOfTrailingZeros_58 rfl rfl ?_
          refine x_iconst (v := (nI (4))) C d_I_numberOfTrailingZeros_59 (by decide) ?_
          refine x_iushr (v := (nI ((((2 ^ t - 1) / 2 ^ 16) / 2 ^ 8) / 2 ^ 4))) C d_I_numberOfTrailingZeros_60 (nx_ushr (by omega) (by omega)) ?_
          refine x_istore_n (lv' := [(0, .int (nI ((((2 ^ t - 1) / 2 ^ 16) / 2 ^ 8) / 2 ^ 4))), (1, .int (nI (1 + 16 + 8 + 4)))]) C d_I_numberOfTrailingZeros_61 rfl (by decide) rfl ?_
          refine x_iload_n C d_I_numberOfTrailingZeros_62 rfl rfl ?_
          refine x_iconst (v := (nI (4))) C d_I_numberOfTrailingZeros_63 (by decide) ?_
          refine x_icmp_leN (tgt := 74) C d_I_numberOfTrailingZeros_64 (by decide) (by omega) (by omega) (fun c64 => ?_) (fun c64 => ?_)
          · refine x_iload_n C d_I_numberOfTrailingZeros_74 rfl rfl ?_
            refine x_iload_n C d_I_numberOfTrailingZeros_75 rfl rfl ?_
            refine x_iconst (v := (nI (1))) C d_I_numberOfTrailingZeros_76 (by decide) ?_
            refine x_iushr (v := (nI (((((2 ^ t - 1) / 2 ^ 16) / 2 ^ 8) / 2 ^ 4) / 2 ^ 1))) C d_I_numberOfTrailingZeros_77 (nx_ushr (by omega) (by omega)) ?_
            refine x_iaddN C d_I_numberOfTrailingZeros_78  ?_
            exact x_iret C hr d_I_numberOfTrailingZeros_79 () rfl (by
              have e9 : ∀ u, u < 31 → (0 < 2 ^ u - 1 ∧ 65536 < 2 ^ u - 1 ∧ 256 < (2 ^ u - 1) / 2 ^ 16 ∧ 16 < ((2 ^ u - 1) / 2 ^ 16) / 2 ^ 8 ∧ (((2 ^ u - 1) / 2 ^ 16) / 2 ^ 8) / 2 ^ 4 ≤ 4) → 1 + 16 + 8 + 4 + ((((2 ^ u - 1) / 2 ^ 16) / 2 ^ 8) / 2 ^ 4) / 2 ^ 1 = u := by decide
              exact congrArg nI (e9 t ht ⟨c9, c23, c38, c52, c64⟩))
          · refine x_iinc (v := (nI (1 + 16 + 8 + 4 + 2))) (lv' := [(1, .int (nI (1 + 16 + 8 + 4 + 2))), (0, .int (nI ((((2 ^ t - 1) / 2 ^ 16) / 2 ^ 8) / 2 ^ 4)))]) C d_I_numberOfTrailingZeros_67 rfl rfl (by decide) rfl ?_
            refine x_iload_n C d_I_numberOfTrailingZeros_70 rfl rfl ?_
            refine x_iconst (v := (nI (2))) C d_I_numberOfTrailingZeros_71 (by decide) ?_
            refine x_iushr (v := (nI (((((2 ^ t - 1) / 2 ^ 16) / 2 ^ 8) / 2 ^ 4) / 2 ^ 2))) C d_I_numberOfTrailingZeros_72 (nx_ushr (by omega) (by omega)) ?_
            refine x_istore_n (lv' := [(0, .int (nI (((((2 ^ t - 1) / 2 ^ 16) / 2 ^ 8) / 2 ^ 4) / 2 ^ 2))), (1, .int (nI (1 + 16 + 8 + 4 + 2)))]) C d_I_numberOfTrailingZeros_73 rfl (by decide) rfl ?_
            refine x_iload_n C d_I_numberOfTrailingZeros_74 rfl rfl ?_
            refine x_iload_n C d_I_numberOfTrailingZeros_75 rfl rfl ?_
            refine x_iconst (v := (nI (1))) C d_I_numberOfTrailingZeros_76 (by decide) ?_
            refine x_iushr (v := (nI ((((((2 ^ t - 1) / 2 ^ 16) / 2 ^ 8) / 2 ^ 4) / 2 ^ 2) / 2 ^ 1))) C d_I_numberOfTrailingZeros_77 (nx_ushr (by omega) (by omega)) ?_
            refine x_iaddN C d_I_numberOfTrailingZeros_78  ?_
            exact x_iret C hr d_I_numberOfTrailingZeros_79 () rfl (by
              have e9 : ∀ u, u < 31 → (0 < 2 ^ u - 1 ∧ 65536 < 2 ^ u - 1 ∧ 256 < (2 ^ u - 1) / 2 ^ 16 ∧ 16 < ((2 ^ u - 1) / 2 ^ 16) / 2 ^ 8 ∧ 4 < (((2 ^ u - 1) / 2 ^ 16) / 2 ^ 8) / 2 ^ 4) → 1 + 16 + 8 + 4 + 2 + (((((2 ^ u - 1) / 2 ^ 16) / 2 ^ 8) / 2 ^ 4) / 2 ^ 2) / 2 ^ 1 = u := by decide
              exact congrArg nI (e9 t ht ⟨c9, c23, c38, c52, c64⟩))
  · refine x_iload_n C d_I_numberOfTrailingZeros_12 rfl rfl ?_
    refine x_bipush (v := (nI (32))) C d_I_numberOfTrailingZeros_13 (by decide) ?_
    refine x_iand C d_I_numberOfTrailingZeros_15 ?_
    refine x_top (y := (nI ((2 ^ t - 1) &&& 32))) (nx_and _ _) ?_
    exact x_iret C hr d_I_numberOfTrailingZeros_16 () rfl (by
      have h9 : t = 0 := by
        rcases Nat.eq_zero_or_pos t with q | q
        · exact q
        · have : 2 ^ 1 ≤ 2 ^ t := Nat.pow_le_pow_right (by omega) q
          omega
      subst h9
      rfl)
