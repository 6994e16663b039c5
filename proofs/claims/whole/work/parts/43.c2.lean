set_option maxHeartbeats 4000000 in
set_option maxRecDepth 100000 in
theorem c_IN_bitCount (l : Launch) (D : va_G) (tc : Nat → ClassId) (tb : Nat → Nat) (x : Int32) : Mi l D tc tb y_IN_bitCount prog_15_method_49_code 1 (some .int) ({ frames := 0, cells := 0, slots := 0, locals := 0 }) [.int (x)] [] (fun _ : Unit => True) (fun _ : Unit => bcF x) (fun _ : Unit => []) := by
  refine Mi.go (by decide) (Nat.le_of_ble_eq_true rfl) ?_
  intro p e s m below meth c A ls R args Q C
  obtain ⟨hx, hb, hr, hts, hown, hlk, hml, hin, hA, hST, hN, hK, hP, hD, hS, hl, hR, hQ⟩ := C
  have hw : ∀ w ∈ lw_g, w.before args s = true := fun w h => hts w (List.mem_cons_of_mem _ h)
  have hl : lv_has ls 1 [(0, .int (x))] := hl
  refine lv_iload_n hx hb d_IN_bitCount_0 rfl (lv_at hl 0 rfl) ?_
  refine lv_iload_n hx hb d_IN_bitCount_1 rfl (lv_at hl 0 rfl) ?_
  refine lv_iconst (v := nI 1) hx hb d_IN_bitCount_2 (by decide) ?_
  refine lv_iushr hx hb d_IN_bitCount_3 rfl ?_
  refine lv_ldcw (v := nI 1431655765) hx hb hown (hw _ wd_190) d_IN_bitCount_4 ?_
  refine lv_iand hx hb d_IN_bitCount_7 ?_
  refine lv_isub hx hb d_IN_bitCount_8 ?_
  refine lv_topi (fun x1 e_x1 => ?_)
  refine lv_istore_n (lv' := [(0, .int (x1))]) hx hb d_IN_bitCount_9 rfl hl (by decide) rfl (fun ls hl => ?_)
  refine lv_iload_n hx hb d_IN_bitCount_10 rfl (lv_at hl 0 rfl) ?_
  refine lv_ldcw (v := nI 858993459) hx hb hown (hw _ wd_191) d_IN_bitCount_11 ?_
  refine lv_iand hx hb d_IN_bitCount_14 ?_
  refine lv_iload_n hx hb d_IN_bitCount_15 rfl (lv_at hl 0 rfl) ?_
  refine lv_iconst (v := nI 2) hx hb d_IN_bitCount_16 (by decide) ?_
  refine lv_iushr hx hb d_IN_bitCount_17 rfl ?_
  refine lv_ldcw (v := nI 858993459) hx hb hown (hw _ wd_191) d_IN_bitCount_18 ?_
  refine lv_iand hx hb d_IN_bitCount_21 ?_
  refine lv_iadd hx hb d_IN_bitCount_22 ?_
  refine lv_topi (fun x2 e_x2 => ?_)
  refine lv_istore_n (lv' := [(0, .int (x2))]) hx hb d_IN_bitCount_23 rfl hl (by decide) rfl (fun ls hl => ?_)
  refine lv_iload_n hx hb d_IN_bitCount_24 rfl (lv_at hl 0 rfl) ?_
  refine lv_iload_n hx hb d_IN_bitCount_25 rfl (lv_at hl 0 rfl) ?_
  refine lv_iconst (v := nI 4) hx hb d_IN_bitCount_26 (by decide) ?_
  refine lv_iushr hx hb d_IN_bitCount_27 rfl ?_
  refine lv_iadd hx hb d_IN_bitCount_28 ?_
  refine lv_ldcw (v := nI 252645135) hx hb hown (hw _ wd_192) d_IN_bitCount_29 ?_
  refine lv_iand hx hb d_IN_bitCount_32 ?_
  refine lv_topi (fun x3 e_x3 => ?_)
  refine lv_istore_n (lv' := [(0, .int (x3))]) hx hb d_IN_bitCount_33 rfl hl (by decide) rfl (fun ls hl => ?_)
  refine lv_iload_n hx hb d_IN_bitCount_34 rfl (lv_at hl 0 rfl) ?_
  refine lv_iload_n hx hb d_IN_bitCount_35 rfl (lv_at hl 0 rfl) ?_
  refine lv_bipush (v := nI 8) hx hb d_IN_bitCount_36 (by decide) ?_
  refine lv_iushr hx hb d_IN_bitCount_38 rfl ?_
  refine lv_iadd hx hb d_IN_bitCount_39 ?_
  refine lv_topi (fun x4 e_x4 => ?_)
  refine lv_istore_n (lv' := [(0, .int (x4))]) hx hb d_IN_bitCount_40 rfl hl (by decide) rfl (fun ls hl => ?_)
  refine lv_iload_n hx hb d_IN_bitCount_41 rfl (lv_at hl 0 rfl) ?_
  refine lv_iload_n hx hb d_IN_bitCount_42 rfl (lv_at hl 0 rfl) ?_
  refine lv_bipush (v := nI 16) hx hb d_IN_bitCount_43 (by decide) ?_
  refine lv_iushr hx hb d_IN_bitCount_45 rfl ?_
  refine lv_iadd hx hb d_IN_bitCount_46 ?_
  refine lv_topi (fun x5 e_x5 => ?_)
  refine lv_istore_n (lv' := [(0, .int (x5))]) hx hb d_IN_bitCount_47 rfl hl (by decide) rfl (fun ls hl => ?_)
  refine lv_iload_n hx hb d_IN_bitCount_48 rfl (lv_at hl 0 rfl) ?_
  refine lv_bipush (v := nI 63) hx hb d_IN_bitCount_49 (by decide) ?_
  refine lv_iand hx hb d_IN_bitCount_51 ?_
  rw [hQ]
  exact k_iret () hx hb hr hlk hK hP hD hS [] (by decide) rfl trivial (by rw [e_x5, e_x4, e_x3, e_x2, e_x1]; rfl) d_IN_bitCount_52
set_option maxHeartbeats 4000000 in
set_option maxRecDepth 100000 in
theorem c_CL_codeOf (l : Launch) (D : va_G) (tc : Nat → ClassId) (tb : Nat → Nat) (x : Int32) (y : Int32) : Mi l D tc tb y_CL_codeOf prog_1_method_23_code 2 (some .int) ({ frames := 1, cells := 0, slots := 0, locals := 20 }) [.int (x), .int (y)] [] (fun _ : Unit => True) (fun _ : Unit => coF x y) (fun _ : Unit => []) := by
  refine Mi.go (by decide) (Nat.le_of_ble_eq_true rfl) ?_
  intro p e s m below meth c A ls R args Q C
  obtain ⟨hx, hb, hr, hts, hown, hlk, hml, hin, hA, hST, hN, hK, hP, hD, hS, hl, hR, hQ⟩ := C
  have hw : ∀ w ∈ lw_g, w.before args s = true := fun w h => hts w (List.mem_cons_of_mem _ h)
  have hl : lv_has ls 2 [(0, .int (x)), (1, .int (y))] := hl
  refine lv_iload_n hx hb d_CL_codeOf_0 rfl (lv_at hl 0 rfl) ?_
  refine lv_iload_n hx hb d_CL_codeOf_1 rfl (lv_at hl 1 rfl) ?_
  refine lv_iand hx hb d_CL_codeOf_2 ?_
  refine k_calli (wr := []) (k_runS (As := [.int (x &&& y)]) (rest := []) (wc := []) ⟨hx, hb, hml, hown, hts⟩ (c_IN_bitCount l D tc tb (x &&& y)  s.heap.size) (va_cwS 1 hts (k_goodS wd_187 wd_188 wd_10 wd_189) rfl rfl rfl hd_IN_bitCount ⟨by rw [hR]; exact Nat.le_of_ble_eq_true rfl, by rw [hR]; exact Nat.le_of_ble_eq_true rfl⟩) hK hP hD hS hST hN hA [] (by decide) rfl rfl hl.1 rfl (Nat.le_of_ble_eq_true rfl) d_CL_codeOf_3 ⟨by rw [hR]; exact Nat.le_of_ble_eq_true rfl, by rw [hR]; exact Nat.le_of_ble_eq_true rfl⟩) hP hD hS hA [] [] rfl rfl (by decide) (by decide) (fun _ H locs hp3 hP hD hS => ?_)
  have hP : va_P D classes [] H := hP
  have hD : va_D A [] := hD
  refine W.widen (k := 0) (n := 0) (Nat.le_of_ble_eq_true rfl) (Nat.le_of_ble_eq_true rfl) ?_
  refine W.eq (g2 := F0 m 6 ls [.int (bcF (x &&& y))]) rfl ?_
  refine lv_iconst (v := nI 1) hx hb d_CL_codeOf_6 (by decide) ?_
  refine lv_iand hx hb d_CL_codeOf_7 ?_
  rw [hQ]
  exact k_iret () hx hb hr hlk hK hP hD hS [] (by decide) rfl trivial rfl d_CL_codeOf_8
set_option maxHeartbeats 4000000 in
set_option maxRecDepth 100000 in
theorem c_CL_isThin (l : Launch) (D : va_G) (tc : Nat → ClassId) (tb : Nat → Nat) (r : Nat) (hr4 : r < 4) : Mi l D tc tb y_CL_isThin prog_1_method_20_code 1 (some .boolean) ({ frames := 0, cells := 0, slots := 0, locals := 0 }) [.int (nI r)] [] (fun _ : Unit => True) (fun _ : Unit => thN r) (fun _ : Unit => []) := by
  refine Mi.go (by decide) (Nat.le_of_ble_eq_true rfl) ?_
  intro p e s m below meth c A ls R args Q C
  obtain ⟨hx, hb, hr, hts, hown, hlk, hml, hin, hA, hST, hN, hK, hP, hD, hS, hl, hR, hQ⟩ := C
  have hw : ∀ w ∈ lw_g, w.before args s = true := fun w h => hts w (List.mem_cons_of_mem _ h)
  have hl : lv_has ls 1 [(0, .int (nI r))] := hl
  refine lv_iload_n hx hb d_CL_isThin_0 rfl (lv_at hl 0 rfl) ?_
  refine lv_iconst (v := nI 2) hx hb d_CL_isThin_1 (by decide) ?_
  refine k_icmp_lt (tgt := 9) hx hb d_CL_isThin_2 (by decide) (by omega) (by omega) (fun h2 => ?_) (fun h2 => ?_)
  · refine lv_iconst (v := nI 0) hx hb d_CL_isThin_9 (by decide) ?_
    rw [hQ]
    exact k_zret () hx hb hr hlk hK hP hD hS [] (by decide) rfl trivial rfl (by unfold thN; first | (rw [if_pos h2]; rfl) | (rw [if_neg (Nat.not_lt.mpr h2)]; rfl)) d_CL_isThin_10
  · refine lv_iconst (v := nI 1) hx hb d_CL_isThin_5 (by decide) ?_
    refine lv_goto (tgt := 10) hx hb d_CL_isThin_6 (by decide) ?_
    rw [hQ]
    exact k_zret () hx hb hr hlk hK hP hD hS [] (by decide) rfl trivial rfl (by unfold thN; first | (rw [if_pos h2]; rfl) | (rw [if_neg (Nat.not_lt.mpr h2)]; rfl)) d_CL_isThin_10
set_option maxHeartbeats 4000000 in
set_option maxRecDepth 100000 in
theorem c_CL_keepsA (l : Launch) (D : va_G) (tc : Nat → ClassId) (tb : Nat → Nat) (th : Int32) (k : Nat) (hk : k < 1000) : Mi l D tc tb y_CL_keepsA prog_1_method_21_code 2 (some .boolean) ({ frames := 0, cells := 0, slots := 0, locals := 0 }) [.int (th), .int (nI k)] [] (fun _ : Unit => True) (fun _ : Unit => kpA th k) (fun _ : Unit => []) := by
  refine Mi.go (by decide) (Nat.le_of_ble_eq_true rfl) ?_
  intro p e s m below meth c A ls R args Q C
  obtain ⟨hx, hb, hr, hts, hown, hlk, hml, hin, hA, hST, hN, hK, hP, hD, hS, hl, hR, hQ⟩ := C
  have hw : ∀ w ∈ lw_g, w.before args s = true := fun w h => hts w (List.mem_cons_of_mem _ h)
  have hl : lv_has ls 2 [(0, .int (th)), (1, .int (nI k))] := hl
  refine lv_iload_n hx hb d_CL_keepsA_0 rfl (lv_at hl 0 rfl) ?_
  refine lv_if_eq (tgt := 11) hx hb d_CL_keepsA_1 (by decide) (fun h1 => ?_) (fun h1 => ?_)
  · refine lv_iconst (v := nI 1) hx hb d_CL_keepsA_11 (by decide) ?_
    refine lv_goto (tgt := 16) hx hb d_CL_keepsA_12 (by decide) ?_
    rw [hQ]
    exact k_zret () hx hb hr hlk hK hP hD hS [] (by decide) rfl trivial rfl (by unfold kpA; first | (rw [if_pos h1]; rfl) | (rw [if_neg h1, if_pos h8]; rfl) | (rw [if_neg h1, if_neg h8]; rfl)) d_CL_keepsA_16
  · refine lv_iload_n hx hb d_CL_keepsA_4 rfl (lv_at hl 1 rfl) ?_
    refine lv_iconst (v := nI 3) hx hb d_CL_keepsA_5 (by decide) ?_
    refine k_irem hx hb d_CL_keepsA_6 (by omega) (by omega) (by omega) ?_
    refine lv_iconst (v := nI 2) hx hb d_CL_keepsA_7 (by decide) ?_
    refine k_icmp_eq (tgt := 15) hx hb d_CL_keepsA_8 (by decide) (by omega) (by omega) (fun h8 => ?_) (fun h8 => ?_)
    · refine lv_iconst (v := nI 0) hx hb d_CL_keepsA_15 (by decide) ?_
      rw [hQ]
      exact k_zret () hx hb hr hlk hK hP hD hS [] (by decide) rfl trivial rfl (by unfold kpA; first | (rw [if_pos h1]; rfl) | (rw [if_neg h1, if_pos h8]; rfl) | (rw [if_neg h1, if_neg h8]; rfl)) d_CL_keepsA_16
    · refine lv_iconst (v := nI 1) hx hb d_CL_keepsA_11 (by decide) ?_
      refine lv_goto (tgt := 16) hx hb d_CL_keepsA_12 (by decide) ?_
      rw [hQ]
      exact k_zret () hx hb hr hlk hK hP hD hS [] (by decide) rfl trivial rfl (by unfold kpA; first | (rw [if_pos h1]; rfl) | (rw [if_neg h1, if_pos h8]; rfl) | (rw [if_neg h1, if_neg h8]; rfl)) d_CL_keepsA_16
set_option maxHeartbeats 4000000 in
set_option maxRecDepth 100000 in
theorem c_CL_keepsB (l : Launch) (D : va_G) (tc : Nat → ClassId) (tb : Nat → Nat) (th : Int32) (k : Nat) (hk : k < 1000) : Mi l D tc tb y_CL_keepsB prog_1_method_22_code 2 (some .boolean) ({ frames := 0, cells := 0, slots := 0, locals := 0 }) [.int (th), .int (nI k)] [] (fun _ : Unit => True) (fun _ : Unit => kpB th k) (fun _ : Unit => []) := by
  refine Mi.go (by decide) (Nat.le_of_ble_eq_true rfl) ?_
  intro p e s m below meth c A ls R args Q C
  obtain ⟨hx, hb, hr, hts, hown, hlk, hml, hin, hA, hST, hN, hK, hP, hD, hS, hl, hR, hQ⟩ := C
  have hw : ∀ w ∈ lw_g, w.before args s = true := fun w h => hts w (List.mem_cons_of_mem _ h)
  have hl : lv_has ls 2 [(0, .int (th)), (1, .int (nI k))] := hl
  refine lv_iload_n hx hb d_CL_keepsB_0 rfl (lv_at hl 0 rfl) ?_
  refine lv_if_eq (tgt := 11) hx hb d_CL_keepsB_1 (by decide) (fun h1 => ?_) (fun h1 => ?_)
  · refine lv_iconst (v := nI 1) hx hb d_CL_keepsB_11 (by decide) ?_
    refine lv_goto (tgt := 16) hx hb d_CL_keepsB_12 (by decide) ?_
    rw [hQ]
    exact k_zret () hx hb hr hlk hK hP hD hS [] (by decide) rfl trivial rfl (by unfold kpB; first | (rw [if_pos h1]; rfl) | (rw [if_neg h1, if_pos h8]; rfl) | (rw [if_neg h1, if_neg h8]; rfl)) d_CL_keepsB_16
  · refine lv_iload_n hx hb d_CL_keepsB_4 rfl (lv_at hl 1 rfl) ?_
    refine lv_iconst (v := nI 3) hx hb d_CL_keepsB_5 (by decide) ?_
    refine k_irem hx hb d_CL_keepsB_6 (by omega) (by omega) (by omega) ?_
    refine lv_iconst (v := nI 1) hx hb d_CL_keepsB_7 (by decide) ?_
    refine k_icmp_eq (tgt := 15) hx hb d_CL_keepsB_8 (by decide) (by omega) (by omega) (fun h8 => ?_) (fun h8 => ?_)
    · refine lv_iconst (v := nI 0) hx hb d_CL_keepsB_15 (by decide) ?_
      rw [hQ]
      exact k_zret () hx hb hr hlk hK hP hD hS [] (by decide) rfl trivial rfl (by unfold kpB; first | (rw [if_pos h1]; rfl) | (rw [if_neg h1, if_pos h8]; rfl) | (rw [if_neg h1, if_neg h8]; rfl)) d_CL_keepsB_16
    · refine lv_iconst (v := nI 1) hx hb d_CL_keepsB_11 (by decide) ?_
      refine lv_goto (tgt := 16) hx hb d_CL_keepsB_12 (by decide) ?_
      rw [hQ]
      exact k_zret () hx hb hr hlk hK hP hD hS [] (by decide) rfl trivial rfl (by unfold kpB; first | (rw [if_pos h1]; rfl) | (rw [if_neg h1, if_pos h8]; rfl) | (rw [if_neg h1, if_neg h8]; rfl)) d_CL_keepsB_16
set_option maxHeartbeats 4000000 in
set_option maxRecDepth 100000 in
theorem c_CL_symbolsFor (l : Launch) (D : va_G) (tc : Nat → ClassId) (tb : Nat → Nat) (r : Nat) (n : Nat) (hr4 : r < 4) (hn : n < 16) : Mi l D tc tb y_CL_symbolsFor prog_1_method_24_code 4 (some .int) ({ frames := 0, cells := 0, slots := 0, locals := 0 }) [.int (nI r), .int (nI n)] [] (fun _ : Unit => True) (fun _ : Unit => nI (syN r n)) (fun _ : Unit => []) := by
  refine Mi.go (by decide) (Nat.le_of_ble_eq_true rfl) ?_
  intro p e s m below meth c A ls R args Q C
  obtain ⟨hx, hb, hr, hts, hown, hlk, hml, hin, hA, hST, hN, hK, hP, hD, hS, hl, hR, hQ⟩ := C
  have hw : ∀ w ∈ lw_g, w.before args s = true := fun w h => hts w (List.mem_cons_of_mem _ h)
  have hl : lv_has ls 4 [(0, .int (nI r)), (1, .int (nI n))] := hl
  have hdb := dbs_ok r hr4
  refine lv_bipush (v := nI 7) hx hb d_CL_symbolsFor_0 (by decide) ?_
  refine lv_bipush (v := nI 8) hx hb d_CL_symbolsFor_2 (by decide) ?_
  refine lv_iload_n hx hb d_CL_symbolsFor_4 rfl (lv_at hl 1 rfl) ?_
  refine k_imul hx hb d_CL_symbolsFor_5 ?_
  refine k_iadd hx hb d_CL_symbolsFor_6 ?_
  refine lv_bipush (v := nI 6) hx hb d_CL_symbolsFor_7 (by decide) ?_
  refine k_iadd hx hb d_CL_symbolsFor_9 ?_
  refine lv_istore_n (lv' := [(2, .int (nI ((7 + (8 * n)) + 6))), (0, .int (nI r)), (1, .int (nI n))]) hx hb d_CL_symbolsFor_10 rfl hl (by decide) rfl (fun ls hl => ?_)
  refine k_tab hx hb hST hS 1 rfl hown (hw _ wd_538) d_CL_symbolsFor_11 ?_
  refine lv_iload_n hx hb d_CL_symbolsFor_14 rfl (lv_at hl 1 rfl) ?_
  refine k_tald hx hb hST hS 1 rfl (by omega) (by omega) d_CL_symbolsFor_15 ?_
  refine lv_istore_n (lv' := [(3, .int (nI (dbsN r))), (2, .int (nI ((7 + (8 * n)) + 6))), (0, .int (nI r)), (1, .int (nI n))]) hx hb d_CL_symbolsFor_16 rfl hl (by decide) rfl (fun ls hl => ?_)
  refine lv_iload_n hx hb d_CL_symbolsFor_17 rfl (lv_at hl 1 rfl) ?_
  refine lv_iload_n hx hb d_CL_symbolsFor_18 rfl (lv_at hl 0 rfl) ?_
  refine k_iadd hx hb d_CL_symbolsFor_19 ?_
  refine lv_iconst (v := nI 1) hx hb d_CL_symbolsFor_20 (by decide) ?_
  refine k_isub hx hb d_CL_symbolsFor_21 (by omega) ?_
  refine lv_iload_n hx hb d_CL_symbolsFor_22 rfl (lv_at hl 0 rfl) ?_
  refine k_idiv hx hb d_CL_symbolsFor_23 (by omega) (by omega) (by omega) ?_
  rw [hQ]
  exact k_iret () hx hb hr hlk hK hP hD hS [] (by decide) rfl trivial rfl d_CL_symbolsFor_24
set_option maxHeartbeats 4000000 in
set_option maxRecDepth 100000 in
theorem c_CL_placeOf_1 (l : Launch) (D : va_G) (tc : Nat → ClassId) (tb : Nat → Nat) (k : Nat) (hk : k < 12) : Mi l D tc tb y_CL_placeOf prog_1_method_25_code 5 (some .int) ({ frames := 0, cells := 0, slots := 0, locals := 0 }) [.int (nI k), .int (nI 1)] [] (fun _ : Unit => True) (fun _ : Unit => nI (placeN k 1)) (fun _ : Unit => []) := by
  refine Mi.go (by decide) (Nat.le_of_ble_eq_true rfl) ?_
  intro p e s m below meth c A ls R args Q C
  obtain ⟨hx, hb, hr, hts, hown, hlk, hml, hin, hA, hST, hN, hK, hP, hD, hS, hl, hR, hQ⟩ := C
  have hw : ∀ w ∈ lw_g, w.before args s = true := fun w h => hts w (List.mem_cons_of_mem _ h)
  have hl : lv_has ls 5 [(0, .int (nI k)), (1, .int (nI 1))] := hl
  refine lv_bipush (v := nI 12) hx hb d_CL_placeOf_0 (by decide) ?_
  refine lv_iload_n hx hb d_CL_placeOf_2 rfl (lv_at hl 1 rfl) ?_
  refine k_imul hx hb d_CL_placeOf_3 ?_
  refine lv_istore_n (lv' := [(2, .int (nI 12)), (0, .int (nI k)), (1, .int (nI 1))]) hx hb d_CL_placeOf_4 rfl hl (by decide) rfl (fun ls hl => ?_)
  refine lv_iload_n hx hb d_CL_placeOf_5 rfl (lv_at hl 2 rfl) ?_
  refine lv_iconst (v := nI 4) hx hb d_CL_placeOf_6 (by decide) ?_
  refine k_icmp_ge (tgt := 14) hx hb d_CL_placeOf_7 (by decide) (by omega) (by omega) (fun h7 => ?_) (fun h7 => ?_)
  · exfalso; omega
  · refine lv_iconst (v := nI 1) hx hb d_CL_placeOf_10 (by decide) ?_
    refine lv_goto (tgt := 15) hx hb d_CL_placeOf_11 (by decide) ?_
    refine lv_istore_n (lv' := [(3, .int (nI 1)), (2, .int (nI 12)), (0, .int (nI k)), (1, .int (nI 1))]) hx hb d_CL_placeOf_15 rfl hl (by decide) rfl (fun ls hl => ?_)
    refine lv_iload_n hx hb d_CL_placeOf_16 rfl (lv_at hl 1 rfl) ?_
    refine lv_iconst (v := nI 4) hx hb d_CL_placeOf_17 (by decide) ?_
    refine k_idiv hx hb d_CL_placeOf_18 (by omega) (by omega) (by omega) ?_
    refine lv_iload_n hx hb d_CL_placeOf_19 rfl (lv_at hl 2 rfl) ?_
    refine lv_iconst (v := nI 4) hx hb d_CL_placeOf_20 (by decide) ?_
    refine k_irem hx hb d_CL_placeOf_21 (by omega) (by omega) (by omega) ?_
    refine k_imul hx hb d_CL_placeOf_22 ?_
    refine lv_iload_n hx hb d_CL_placeOf_23 rfl (lv_at hl 2 rfl) ?_
    refine lv_iconst (v := nI 4) hx hb d_CL_placeOf_24 (by decide) ?_
    refine k_idiv hx hb d_CL_placeOf_25 (by omega) (by omega) (by omega) ?_
    refine k_iadd hx hb d_CL_placeOf_26 ?_
    refine lv_istore (lv' := [(4, .int (nI ((3 * (k % 4)) + (k / 4)))), (3, .int (nI 1)), (2, .int (nI 12)), (0, .int (nI k)), (1, .int (nI 1))]) hx hb d_CL_placeOf_27 hl (by decide) rfl (fun ls hl => ?_)
    refine lv_iload_n hx hb d_CL_placeOf_29 rfl (lv_at hl 1 rfl) ?_
    refine lv_iload hx hb d_CL_placeOf_30 (lv_at hl 0 rfl) ?_
    refine lv_iload_n hx hb d_CL_placeOf_32 rfl (lv_at hl 1 rfl) ?_
    refine k_idiv hx hb d_CL_placeOf_33 (by omega) (by omega) (by omega) ?_
    refine k_imul hx hb d_CL_placeOf_34 ?_
    refine lv_iload hx hb d_CL_placeOf_35 (lv_at hl 0 rfl) ?_
    refine lv_iload_n hx hb d_CL_placeOf_37 rfl (lv_at hl 2 rfl) ?_
    refine k_iadd hx hb d_CL_placeOf_38 ?_
    refine lv_iconst (v := nI 4) hx hb d_CL_placeOf_39 (by decide) ?_
    refine lv_iload hx hb d_CL_placeOf_40 (lv_at hl 0 rfl) ?_
    refine k_imul hx hb d_CL_placeOf_42 ?_
    refine lv_iload_n hx hb d_CL_placeOf_43 rfl (lv_at hl 2 rfl) ?_
    refine k_idiv hx hb d_CL_placeOf_44 (by omega) (by omega) (by omega) ?_
    refine k_isub hx hb d_CL_placeOf_45 (by omega) ?_
    refine lv_iload_n hx hb d_CL_placeOf_46 rfl (lv_at hl 1 rfl) ?_
    refine k_irem hx hb d_CL_placeOf_47 (by omega) (by omega) (by omega) ?_
    refine k_iadd hx hb d_CL_placeOf_48 ?_
    rw [hQ]
    exact k_iret () hx hb hr hlk hK hP hD hS [] (by decide) rfl trivial rfl d_CL_placeOf_49
set_option maxHeartbeats 4000000 in
set_option maxRecDepth 100000 in
theorem c_CL_placeOf_2 (l : Launch) (D : va_G) (tc : Nat → ClassId) (tb : Nat → Nat) (k : Nat) (hk : k < 24) : Mi l D tc tb y_CL_placeOf prog_1_method_25_code 5 (some .int) ({ frames := 0, cells := 0, slots := 0, locals := 0 }) [.int (nI k), .int (nI 2)] [] (fun _ : Unit => True) (fun _ : Unit => nI (placeN k 2)) (fun _ : Unit => []) := by
  refine Mi.go (by decide) (Nat.le_of_ble_eq_true rfl) ?_
  intro p e s m below meth c A ls R args Q C
  obtain ⟨hx, hb, hr, hts, hown, hlk, hml, hin, hA, hST, hN, hK, hP, hD, hS, hl, hR, hQ⟩ := C
  have hw : ∀ w ∈ lw_g, w.before args s = true := fun w h => hts w (List.mem_cons_of_mem _ h)
  have hl : lv_has ls 5 [(0, .int (nI k)), (1, .int (nI 2))] := hl
  refine lv_bipush (v := nI 12) hx hb d_CL_placeOf_0 (by decide) ?_
  refine lv_iload_n hx hb d_CL_placeOf_2 rfl (lv_at hl 1 rfl) ?_
  refine k_imul hx hb d_CL_placeOf_3 ?_
  refine lv_istore_n (lv' := [(2, .int (nI 24)), (0, .int (nI k)), (1, .int (nI 2))]) hx hb d_CL_placeOf_4 rfl hl (by decide) rfl (fun ls hl => ?_)
  refine lv_iload_n hx hb d_CL_placeOf_5 rfl (lv_at hl 2 rfl) ?_
  refine lv_iconst (v := nI 4) hx hb d_CL_placeOf_6 (by decide) ?_
  refine k_icmp_ge (tgt := 14) hx hb d_CL_placeOf_7 (by decide) (by omega) (by omega) (fun h7 => ?_) (fun h7 => ?_)
  · exfalso; omega
  · refine lv_iconst (v := nI 1) hx hb d_CL_placeOf_10 (by decide) ?_
    refine lv_goto (tgt := 15) hx hb d_CL_placeOf_11 (by decide) ?_
    refine lv_istore_n (lv' := [(3, .int (nI 1)), (2, .int (nI 24)), (0, .int (nI k)), (1, .int (nI 2))]) hx hb d_CL_placeOf_15 rfl hl (by decide) rfl (fun ls hl => ?_)
    refine lv_iload_n hx hb d_CL_placeOf_16 rfl (lv_at hl 1 rfl) ?_
    refine lv_iconst (v := nI 4) hx hb d_CL_placeOf_17 (by decide) ?_
    refine k_idiv hx hb d_CL_placeOf_18 (by omega) (by omega) (by omega) ?_
    refine lv_iload_n hx hb d_CL_placeOf_19 rfl (lv_at hl 2 rfl) ?_
    refine lv_iconst (v := nI 4) hx hb d_CL_placeOf_20 (by decide) ?_
    refine k_irem hx hb d_CL_placeOf_21 (by omega) (by omega) (by omega) ?_
    refine k_imul hx hb d_CL_placeOf_22 ?_
    refine lv_iload_n hx hb d_CL_placeOf_23 rfl (lv_at hl 2 rfl) ?_
    refine lv_iconst (v := nI 4) hx hb d_CL_placeOf_24 (by decide) ?_
    refine k_idiv hx hb d_CL_placeOf_25 (by omega) (by omega) (by omega) ?_
    refine k_iadd hx hb d_CL_placeOf_26 ?_
    refine lv_istore (lv' := [(4, .int (nI ((6 * (k % 4)) + (k / 4)))), (3, .int (nI 1)), (2, .int (nI 24)), (0, .int (nI k)), (1, .int (nI 2))]) hx hb d_CL_placeOf_27 hl (by decide) rfl (fun ls hl => ?_)
    refine lv_iload_n hx hb d_CL_placeOf_29 rfl (lv_at hl 1 rfl) ?_
    refine lv_iload hx hb d_CL_placeOf_30 (lv_at hl 0 rfl) ?_
    refine lv_iload_n hx hb d_CL_placeOf_32 rfl (lv_at hl 1 rfl) ?_
    refine k_idiv hx hb d_CL_placeOf_33 (by omega) (by omega) (by omega) ?_
    refine k_imul hx hb d_CL_placeOf_34 ?_
    refine lv_iload hx hb d_CL_placeOf_35 (lv_at hl 0 rfl) ?_
    refine lv_iload_n hx hb d_CL_placeOf_37 rfl (lv_at hl 2 rfl) ?_
    refine k_iadd hx hb d_CL_placeOf_38 ?_
    refine lv_iconst (v := nI 4) hx hb d_CL_placeOf_39 (by decide) ?_
    refine lv_iload hx hb d_CL_placeOf_40 (lv_at hl 0 rfl) ?_
    refine k_imul hx hb d_CL_placeOf_42 ?_
    refine lv_iload_n hx hb d_CL_placeOf_43 rfl (lv_at hl 2 rfl) ?_
    refine k_idiv hx hb d_CL_placeOf_44 (by omega) (by omega) (by omega) ?_
    refine k_isub hx hb d_CL_placeOf_45 (by omega) ?_
    refine lv_iload_n hx hb d_CL_placeOf_46 rfl (lv_at hl 1 rfl) ?_
    refine k_irem hx hb d_CL_placeOf_47 (by omega) (by omega) (by omega) ?_
    refine k_iadd hx hb d_CL_placeOf_48 ?_
    rw [hQ]
    exact k_iret () hx hb hr hlk hK hP hD hS [] (by decide) rfl trivial rfl d_CL_placeOf_49
set_option maxHeartbeats 4000000 in
set_option maxRecDepth 100000 in
theorem c_CL_placeOf_4 (l : Launch) (D : va_G) (tc : Nat → ClassId) (tb : Nat → Nat) (k : Nat) (hk : k < 48) : Mi l D tc tb y_CL_placeOf prog_1_method_25_code 5 (some .int) ({ frames := 0, cells := 0, slots := 0, locals := 0 }) [.int (nI k), .int (nI 4)] [] (fun _ : Unit => True) (fun _ : Unit => nI (placeN k 4)) (fun _ : Unit => []) := by
  refine Mi.go (by decide) (Nat.le_of_ble_eq_true rfl) ?_
  intro p e s m below meth c A ls R args Q C
  obtain ⟨hx, hb, hr, hts, hown, hlk, hml, hin, hA, hST, hN, hK, hP, hD, hS, hl, hR, hQ⟩ := C
  have hw : ∀ w ∈ lw_g, w.before args s = true := fun w h => hts w (List.mem_cons_of_mem _ h)
  have hl : lv_has ls 5 [(0, .int (nI k)), (1, .int (nI 4))] := hl
  refine lv_bipush (v := nI 12) hx hb d_CL_placeOf_0 (by decide) ?_
  refine lv_iload_n hx hb d_CL_placeOf_2 rfl (lv_at hl 1 rfl) ?_
  refine k_imul hx hb d_CL_placeOf_3 ?_
  refine lv_istore_n (lv' := [(2, .int (nI 48)), (0, .int (nI k)), (1, .int (nI 4))]) hx hb d_CL_placeOf_4 rfl hl (by decide) rfl (fun ls hl => ?_)
  refine lv_iload_n hx hb d_CL_placeOf_5 rfl (lv_at hl 2 rfl) ?_
  refine lv_iconst (v := nI 4) hx hb d_CL_placeOf_6 (by decide) ?_
  refine k_icmp_ge (tgt := 14) hx hb d_CL_placeOf_7 (by decide) (by omega) (by omega) (fun h7 => ?_) (fun h7 => ?_)
  · refine lv_iconst (v := nI 2) hx hb d_CL_placeOf_14 (by decide) ?_
    refine lv_istore_n (lv' := [(3, .int (nI 2)), (2, .int (nI 48)), (0, .int (nI k)), (1, .int (nI 4))]) hx hb d_CL_placeOf_15 rfl hl (by decide) rfl (fun ls hl => ?_)
    refine lv_iload_n hx hb d_CL_placeOf_16 rfl (lv_at hl 1 rfl) ?_
    refine lv_iconst (v := nI 4) hx hb d_CL_placeOf_17 (by decide) ?_
    refine k_idiv hx hb d_CL_placeOf_18 (by omega) (by omega) (by omega) ?_
    refine lv_iload_n hx hb d_CL_placeOf_19 rfl (lv_at hl 2 rfl) ?_
    refine lv_iconst (v := nI 4) hx hb d_CL_placeOf_20 (by decide) ?_
    refine k_irem hx hb d_CL_placeOf_21 (by omega) (by omega) (by omega) ?_
    refine k_imul hx hb d_CL_placeOf_22 ?_
    refine lv_iload_n hx hb d_CL_placeOf_23 rfl (lv_at hl 2 rfl) ?_
    refine lv_iconst (v := nI 4) hx hb d_CL_placeOf_24 (by decide) ?_
    refine k_idiv hx hb d_CL_placeOf_25 (by omega) (by omega) (by omega) ?_
    refine k_iadd hx hb d_CL_placeOf_26 ?_
    refine lv_istore (lv' := [(4, .int (nI ((12 * (k % 4)) + (k / 4)))), (3, .int (nI 2)), (2, .int (nI 48)), (0, .int (nI k)), (1, .int (nI 4))]) hx hb d_CL_placeOf_27 hl (by decide) rfl (fun ls hl => ?_)
    refine lv_iload_n hx hb d_CL_placeOf_29 rfl (lv_at hl 1 rfl) ?_
    refine lv_iload hx hb d_CL_placeOf_30 (lv_at hl 0 rfl) ?_
    refine lv_iload_n hx hb d_CL_placeOf_32 rfl (lv_at hl 1 rfl) ?_
    refine k_idiv hx hb d_CL_placeOf_33 (by omega) (by omega) (by omega) ?_
    refine k_imul hx hb d_CL_placeOf_34 ?_
    refine lv_iload hx hb d_CL_placeOf_35 (lv_at hl 0 rfl) ?_
    refine lv_iload_n hx hb d_CL_placeOf_37 rfl (lv_at hl 2 rfl) ?_
    refine k_iadd hx hb d_CL_placeOf_38 ?_
    refine lv_iconst (v := nI 4) hx hb d_CL_placeOf_39 (by decide) ?_
    refine lv_iload hx hb d_CL_placeOf_40 (lv_at hl 0 rfl) ?_
    refine k_imul hx hb d_CL_placeOf_42 ?_
    refine lv_iload_n hx hb d_CL_placeOf_43 rfl (lv_at hl 2 rfl) ?_
    refine k_idiv hx hb d_CL_placeOf_44 (by omega) (by omega) (by omega) ?_
    refine k_isub hx hb d_CL_placeOf_45 (by omega) ?_
    refine lv_iload_n hx hb d_CL_placeOf_46 rfl (lv_at hl 1 rfl) ?_
    refine k_irem hx hb d_CL_placeOf_47 (by omega) (by omega) (by omega) ?_
    refine k_iadd hx hb d_CL_placeOf_48 ?_
    rw [hQ]
    exact k_iret () hx hb hr hlk hK hP hD hS [] (by decide) rfl trivial rfl d_CL_placeOf_49
  · exfalso; omega
set_option maxHeartbeats 4000000 in
set_option maxRecDepth 100000 in
theorem c_BR_init144 (l : Launch) (D : va_G) (tc : Nat → ClassId) (tb : Nat → Nat) (h0 : Nat) : Mv l D tc tb y_BR_init prog_2_method_1_code 3 none ({ frames := 1, cells := 3, slots := 624, locals := 12 }) [.ref h0, .int (nI 144), .int (nI 240)] [(h0, .inr (4, [.null, .null, .null, .int (0), .int (0)]))] (fun u : Nat × Nat × Nat => True) (fun u : Nat × Nat × Nat => [(h0, .inr (4, [.ref u.1, .ref u.2.1, .ref u.2.2, .int (nI 0), .int (nI 0)])), (u.1, .inl (tc 0, 144, .inl (fun _ => 0))), (u.2.1, .inl (tc 0, 240, .inl (fun _ => 0))), (u.2.2, .inl (tc 0, 240, .inl (fun _ => 0)))]) := by
  refine Mv.go (by decide) (Nat.le_of_ble_eq_true rfl) ?_
  intro p e s m below meth c A ls R args Q C
  obtain ⟨hx, hb, hr, hts, hown, hlk, hml, hin, hA, hST, hN, hK, hP, hD, hS, hl, hR, hQ⟩ := C
  have hw : ∀ w ∈ lw_g, w.before args s = true := fun w h => hts w (List.mem_cons_of_mem _ h)
  have hl : lv_has ls 3 [(0, .ref h0), (1, .int (nI 144)), (2, .int (nI 240))] := hl
  refine lv_aload_n hx hb d_BR_init_0 rfl (lv_at hl 0 rfl) ?_
  refine W.objInit hx hb hown (hw _ wd_106) (hw _ wd_25) (hw _ wd_26) rfl (by rw [hml]; exact hl.1) rfl d_BR_init_1 (by rw [hR]; exact Nat.le_of_ble_eq_true rfl) (by rw [hR]; exact Nat.le_of_ble_eq_true rfl) ?_
  refine W.eq (g2 := F0 m 4 ls []) rfl ?_
  refine lv_aload_n hx hb d_BR_init_4 rfl (lv_at hl 0 rfl) ?_
  refine lv_iload_n hx hb d_BR_init_5 rfl (lv_at hl 1 rfl) ?_
  refine k_newaI hx hb (hw _ wd_51) hK hP hD hS hA (n := 144) (by decide) (by rw [hR]; exact Nat.le_of_ble_eq_true rfl) (by rw [hR]; exact Nat.le_of_ble_eq_true rfl) d_BR_init_6 (fun n1 H hP hD hS => ?_)
  have hP : va_P D classes [(h0, .inr (4, [.null, .null, .null, .int (0), .int (0)])), (n1, .inl (tc 0, 144, .inl (fun _ => 0)))] H := hP
  have hD : va_D A [(h0, .inr (4, [.null, .null, .null, .int (0), .int (0)])), (n1, .inl (tc 0, 144, .inl (fun _ => 0)))] := hD
  refine W.widen (k := 1) (n := 144) (Nat.le_of_ble_eq_true rfl) (Nat.le_of_ble_eq_true rfl) ?_
  refine k_putF (ws' := [(h0, .inr (4, [.ref n1, .null, .null, .int (0), .int (0)])), (n1, .inl (tc 0, 144, .inl (fun _ => 0)))]) hx hb hw uw_BR tok_BR nn_BR hown hK hP hD hS 0 rfl rfl 0 (by decide) (hw _ wd_107) rfl hin rfl rfl rfl (Nat.le_of_ble_eq_true rfl) d_BR_init_8 rfl (fun H locs hP hD hS => ?_)
  refine lv_aload_n hx hb d_BR_init_11 rfl (lv_at hl 0 rfl) ?_
  refine lv_iload_n hx hb d_BR_init_12 rfl (lv_at hl 2 rfl) ?_
  refine k_newaI hx hb (hw _ wd_51) hK hP hD hS hA (n := 240) (by decide) (by rw [hR]; exact Nat.le_of_ble_eq_true rfl) (by rw [hR]; exact Nat.le_of_ble_eq_true rfl) d_BR_init_13 (fun n2 H hP hD hS => ?_)
  have hP : va_P D classes [(h0, .inr (4, [.ref n1, .null, .null, .int (0), .int (0)])), (n1, .inl (tc 0, 144, .inl (fun _ => 0))), (n2, .inl (tc 0, 240, .inl (fun _ => 0)))] H := hP
  have hD : va_D A [(h0, .inr (4, [.ref n1, .null, .null, .int (0), .int (0)])), (n1, .inl (tc 0, 144, .inl (fun _ => 0))), (n2, .inl (tc 0, 240, .inl (fun _ => 0)))] := hD
  refine W.widen (k := 2) (n := 384) (Nat.le_of_ble_eq_true rfl) (Nat.le_of_ble_eq_true rfl) ?_
  refine k_putF (ws' := [(h0, .inr (4, [.ref n1, .ref n2, .null, .int (0), .int (0)])), (n1, .inl (tc 0, 144, .inl (fun _ => 0))), (n2, .inl (tc 0, 240, .inl (fun _ => 0)))]) hx hb hw uw_BR tok_BR nn_BR hown hK hP hD hS 0 rfl rfl 1 (by decide) (hw _ wd_110) rfl hin rfl rfl rfl (Nat.le_of_ble_eq_true rfl) d_BR_init_15 rfl (fun H locs hP hD hS => ?_)
  refine lv_aload_n hx hb d_BR_init_18 rfl (lv_at hl 0 rfl) ?_
  refine lv_iload_n hx hb d_BR_init_19 rfl (lv_at hl 2 rfl) ?_
  refine k_newaI hx hb (hw _ wd_51) hK hP hD hS hA (n := 240) (by decide) (by rw [hR]; exact Nat.le_of_ble_eq_true rfl) (by rw [hR]; exact Nat.le_of_ble_eq_true rfl) d_BR_init_20 (fun n3 H hP hD hS => ?_)
  have hP : va_P D classes [(h0, .inr (4, [.ref n1, .ref n2, .null, .int (0), .int (0)])), (n1, .inl (tc 0, 144, .inl (fun _ => 0))), (n2, .inl (tc 0, 240, .inl (fun _ => 0))), (n3, .inl (tc 0, 240, .inl (fun _ => 0)))] H := hP
  have hD : va_D A [(h0, .inr (4, [.ref n1, .ref n2, .null, .int (0), .int (0)])), (n1, .inl (tc 0, 144, .inl (fun _ => 0))), (n2, .inl (tc 0, 240, .inl (fun _ => 0))), (n3, .inl (tc 0, 240, .inl (fun _ => 0)))] := hD
  refine W.widen (k := 3) (n := 624) (Nat.le_of_ble_eq_true rfl) (Nat.le_of_ble_eq_true rfl) ?_
  refine k_putF (ws' := [(h0, .inr (4, [.ref n1, .ref n2, .ref n3, .int (0), .int (0)])), (n1, .inl (tc 0, 144, .inl (fun _ => 0))), (n2, .inl (tc 0, 240, .inl (fun _ => 0))), (n3, .inl (tc 0, 240, .inl (fun _ => 0)))]) hx hb hw uw_BR tok_BR nn_BR hown hK hP hD hS 0 rfl rfl 2 (by decide) (hw _ wd_112) rfl hin rfl rfl rfl (Nat.le_of_ble_eq_true rfl) d_BR_init_22 rfl (fun H locs hP hD hS => ?_)
  refine lv_aload_n hx hb d_BR_init_25 rfl (lv_at hl 0 rfl) ?_
  refine lv_iconst (v := nI 0) hx hb d_BR_init_26 (by decide) ?_
  refine k_put (ws' := [(h0, .inr (4, [.ref n1, .ref n2, .ref n3, .int (nI 0), .int (0)])), (n1, .inl (tc 0, 144, .inl (fun _ => 0))), (n2, .inl (tc 0, 240, .inl (fun _ => 0))), (n3, .inl (tc 0, 240, .inl (fun _ => 0)))]) hx hb hw uw_BR tok_BR nn_BR hown hK hP hD hS 0 rfl rfl 3 (by decide) (hw _ wd_115) rfl rfl rfl (Nat.le_of_ble_eq_true rfl) d_BR_init_27 rfl (fun H locs hP hD hS => ?_)
  refine lv_aload_n hx hb d_BR_init_30 rfl (lv_at hl 0 rfl) ?_
  refine lv_iconst (v := nI 0) hx hb d_BR_init_31 (by decide) ?_
  refine k_put (ws' := [(h0, .inr (4, [.ref n1, .ref n2, .ref n3, .int (nI 0), .int (nI 0)])), (n1, .inl (tc 0, 144, .inl (fun _ => 0))), (n2, .inl (tc 0, 240, .inl (fun _ => 0))), (n3, .inl (tc 0, 240, .inl (fun _ => 0)))]) hx hb hw uw_BR tok_BR nn_BR hown hK hP hD hS 0 rfl rfl 4 (by decide) (hw _ wd_118) rfl rfl rfl (Nat.le_of_ble_eq_true rfl) d_BR_init_32 rfl (fun H locs hP hD hS => ?_)
  rw [hQ]
  exact k_vret (n1, n2, n3) hx hb hr hlk hK hP hD hS [0, 1, 2, 3] (by decide) rfl trivial d_BR_init_35
set_option maxHeartbeats 4000000 in
set_option maxRecDepth 100000 in
theorem c_BR_init18 (l : Launch) (D : va_G) (tc : Nat → ClassId) (tb : Nat → Nat) (h0 : Nat) : Mv l D tc tb y_BR_init prog_2_method_1_code 3 none ({ frames := 1, cells := 3, slots := 90, locals := 12 }) [.ref h0, .int (nI 18), .int (nI 36)] [(h0, .inr (4, [.null, .null, .null, .int (0), .int (0)]))] (fun u : Nat × Nat × Nat => True) (fun u : Nat × Nat × Nat => [(h0, .inr (4, [.ref u.1, .ref u.2.1, .ref u.2.2, .int (nI 0), .int (nI 0)])), (u.1, .inl (tc 0, 18, .inl (fun _ => 0))), (u.2.1, .inl (tc 0, 36, .inl (fun _ => 0))), (u.2.2, .inl (tc 0, 36, .inl (fun _ => 0)))]) := by
  refine Mv.go (by decide) (Nat.le_of_ble_eq_true rfl) ?_
  intro p e s m below meth c A ls R args Q C
  obtain ⟨hx, hb, hr, hts, hown, hlk, hml, hin, hA, hST, hN, hK, hP, hD, hS, hl, hR, hQ⟩ := C
  have hw : ∀ w ∈ lw_g, w.before args s = true := fun w h => hts w (List.mem_cons_of_mem _ h)
  have hl : lv_has ls 3 [(0, .ref h0), (1, .int (nI 18)), (2, .int (nI 36))] := hl
  refine lv_aload_n hx hb d_BR_init_0 rfl (lv_at hl 0 rfl) ?_
  refine W.objInit hx hb hown (hw _ wd_106) (hw _ wd_25) (hw _ wd_26) rfl (by rw [hml]; exact hl.1) rfl d_BR_init_1 (by rw [hR]; exact Nat.le_of_ble_eq_true rfl) (by rw [hR]; exact Nat.le_of_ble_eq_true rfl) ?_
  refine W.eq (g2 := F0 m 4 ls []) rfl ?_
  refine lv_aload_n hx hb d_BR_init_4 rfl (lv_at hl 0 rfl) ?_
  refine lv_iload_n hx hb d_BR_init_5 rfl (lv_at hl 1 rfl) ?_
  refine k_newaI hx hb (hw _ wd_51) hK hP hD hS hA (n := 18) (by decide) (by rw [hR]; exact Nat.le_of_ble_eq_true rfl) (by rw [hR]; exact Nat.le_of_ble_eq_true rfl) d_BR_init_6 (fun n1 H hP hD hS => ?_)
  have hP : va_P D classes [(h0, .inr (4, [.null, .null, .null, .int (0), .int (0)])), (n1, .inl (tc 0, 18, .inl (fun _ => 0)))] H := hP
  have hD : va_D A [(h0, .inr (4, [.null, .null, .null, .int (0), .int (0)])), (n1, .inl (tc 0, 18, .inl (fun _ => 0)))] := hD
  refine W.widen (k := 1) (n := 18) (Nat.le_of_ble_eq_true rfl) (Nat.le_of_ble_eq_true rfl) ?_
  refine k_putF (ws' := [(h0, .inr (4, [.ref n1, .null, .null, .int (0), .int (0)])), (n1, .inl (tc 0, 18, .inl (fun _ => 0)))]) hx hb hw uw_BR tok_BR nn_BR hown hK hP hD hS 0 rfl rfl 0 (by decide) (hw _ wd_107) rfl hin rfl rfl rfl (Nat.le_of_ble_eq_true rfl) d_BR_init_8 rfl (fun H locs hP hD hS => ?_)
  refine lv_aload_n hx hb d_BR_init_11 rfl (lv_at hl 0 rfl) ?_
  refine lv_iload_n hx hb d_BR_init_12 rfl (lv_at hl 2 rfl) ?_
  refine k_newaI hx hb (hw _ wd_51) hK hP hD hS hA (n := 36) (by decide) (by rw [hR]; exact Nat.le_of_ble_eq_true rfl) (by rw [hR]; exact Nat.le_of_ble_eq_true rfl) d_BR_init_13 (fun n2 H hP hD hS => ?_)
  have hP : va_P D classes [(h0, .inr (4, [.ref n1, .null, .null, .int (0), .int (0)])), (n1, .inl (tc 0, 18, .inl (fun _ => 0))), (n2, .inl (tc 0, 36, .inl (fun _ => 0)))] H := hP
  have hD : va_D A [(h0, .inr (4, [.ref n1, .null, .null, .int (0), .int (0)])), (n1, .inl (tc 0, 18, .inl (fun _ => 0))), (n2, .inl (tc 0, 36, .inl (fun _ => 0)))] := hD
  refine W.widen (k := 2) (n := 54) (Nat.le_of_ble_eq_true rfl) (Nat.le_of_ble_eq_true rfl) ?_
  refine k_putF (ws' := [(h0, .inr (4, [.ref n1, .ref n2, .null, .int (0), .int (0)])), (n1, .inl (tc 0, 18, .inl (fun _ => 0))), (n2, .inl (tc 0, 36, .inl (fun _ => 0)))]) hx hb hw uw_BR tok_BR nn_BR hown hK hP hD hS 0 rfl rfl 1 (by decide) (hw _ wd_110) rfl hin rfl rfl rfl (Nat.le_of_ble_eq_true rfl) d_BR_init_15 rfl (fun H locs hP hD hS => ?_)
  refine lv_aload_n hx hb d_BR_init_18 rfl (lv_at hl 0 rfl) ?_
  refine lv_iload_n hx hb d_BR_init_19 rfl (lv_at hl 2 rfl) ?_
  refine k_newaI hx hb (hw _ wd_51) hK hP hD hS hA (n := 36) (by decide) (by rw [hR]; exact Nat.le_of_ble_eq_true rfl) (by rw [hR]; exact Nat.le_of_ble_eq_true rfl) d_BR_init_20 (fun n3 H hP hD hS => ?_)
  have hP : va_P D classes [(h0, .inr (4, [.ref n1, .ref n2, .null, .int (0), .int (0)])), (n1, .inl (tc 0, 18, .inl (fun _ => 0))), (n2, .inl (tc 0, 36, .inl (fun _ => 0))), (n3, .inl (tc 0, 36, .inl (fun _ => 0)))] H := hP
  have hD : va_D A [(h0, .inr (4, [.ref n1, .ref n2, .null, .int (0), .int (0)])), (n1, .inl (tc 0, 18, .inl (fun _ => 0))), (n2, .inl (tc 0, 36, .inl (fun _ => 0))), (n3, .inl (tc 0, 36, .inl (fun _ => 0)))] := hD
  refine W.widen (k := 3) (n := 90) (Nat.le_of_ble_eq_true rfl) (Nat.le_of_ble_eq_true rfl) ?_
  refine k_putF (ws' := [(h0, .inr (4, [.ref n1, .ref n2, .ref n3, .int (0), .int (0)])), (n1, .inl (tc 0, 18, .inl (fun _ => 0))), (n2, .inl (tc 0, 36, .inl (fun _ => 0))), (n3, .inl (tc 0, 36, .inl (fun _ => 0)))]) hx hb hw uw_BR tok_BR nn_BR hown hK hP hD hS 0 rfl rfl 2 (by decide) (hw _ wd_112) rfl hin rfl rfl rfl (Nat.le_of_ble_eq_true rfl) d_BR_init_22 rfl (fun H locs hP hD hS => ?_)
  refine lv_aload_n hx hb d_BR_init_25 rfl (lv_at hl 0 rfl) ?_
  refine lv_iconst (v := nI 0) hx hb d_BR_init_26 (by decide) ?_
  refine k_put (ws' := [(h0, .inr (4, [.ref n1, .ref n2, .ref n3, .int (nI 0), .int (0)])), (n1, .inl (tc 0, 18, .inl (fun _ => 0))), (n2, .inl (tc 0, 36, .inl (fun _ => 0))), (n3, .inl (tc 0, 36, .inl (fun _ => 0)))]) hx hb hw uw_BR tok_BR nn_BR hown hK hP hD hS 0 rfl rfl 3 (by decide) (hw _ wd_115) rfl rfl rfl (Nat.le_of_ble_eq_true rfl) d_BR_init_27 rfl (fun H locs hP hD hS => ?_)
  refine lv_aload_n hx hb d_BR_init_30 rfl (lv_at hl 0 rfl) ?_
  refine lv_iconst (v := nI 0) hx hb d_BR_init_31 (by decide) ?_
  refine k_put (ws' := [(h0, .inr (4, [.ref n1, .ref n2, .ref n3, .int (nI 0), .int (nI 0)])), (n1, .inl (tc 0, 18, .inl (fun _ => 0))), (n2, .inl (tc 0, 36, .inl (fun _ => 0))), (n3, .inl (tc 0, 36, .inl (fun _ => 0)))]) hx hb hw uw_BR tok_BR nn_BR hown hK hP hD hS 0 rfl rfl 4 (by decide) (hw _ wd_118) rfl rfl rfl (Nat.le_of_ble_eq_true rfl) d_BR_init_32 rfl (fun H locs hP hD hS => ?_)
  rw [hQ]
  exact k_vret (n1, n2, n3) hx hb hr hlk hK hP hD hS [0, 1, 2, 3] (by decide) rfl trivial d_BR_init_35
set_option maxHeartbeats 4000000 in
set_option maxRecDepth 100000 in
theorem c_BR_clear (l : Launch) (D : va_G) (tc : Nat → ClassId) (tb : Nat → Nat) (h0 : Nat) (q1 : Nat) (q2 : Nat) (q3 : Nat) (np : Nat) (nc : Nat) (pl : Nat → Int32) (co : Nat → Int32) (pd : Nat → Int32) (pn : Nat) (cn : Nat) : Mv l D tc tb y_BR_clear prog_2_method_2_code 1 none ({ frames := 0, cells := 0, slots := 0, locals := 0 }) [.ref h0] [(h0, .inr (4, [.ref q1, .ref q2, .ref q3, .int (nI pn), .int (nI cn)])), (q1, .inl (tc 0, np, .inl pl)), (q2, .inl (tc 0, nc, .inl co)), (q3, .inl (tc 0, nc, .inl pd))] (fun _ : Unit => True) (fun _ : Unit => [(h0, .inr (4, [.ref q1, .ref q2, .ref q3, .int (nI 0), .int (nI 0)])), (q1, .inl (tc 0, np, .inl pl)), (q2, .inl (tc 0, nc, .inl co)), (q3, .inl (tc 0, nc, .inl pd))]) := by
  refine Mv.go (by decide) (Nat.le_of_ble_eq_true rfl) ?_
  intro p e s m below meth c A ls R args Q C
  obtain ⟨hx, hb, hr, hts, hown, hlk, hml, hin, hA, hST, hN, hK, hP, hD, hS, hl, hR, hQ⟩ := C
  have hw : ∀ w ∈ lw_g, w.before args s = true := fun w h => hts w (List.mem_cons_of_mem _ h)
  have hl : lv_has ls 1 [(0, .ref h0)] := hl
  refine lv_aload_n hx hb d_BR_clear_0 rfl (lv_at hl 0 rfl) ?_
  refine lv_iconst (v := nI 0) hx hb d_BR_clear_1 (by decide) ?_
  refine k_put (ws' := [(h0, .inr (4, [.ref q1, .ref q2, .ref q3, .int (nI 0), .int (nI cn)])), (q1, .inl (tc 0, np, .inl pl)), (q2, .inl (tc 0, nc, .inl co)), (q3, .inl (tc 0, nc, .inl pd))]) hx hb hw uw_BR tok_BR nn_BR hown hK hP hD hS 0 rfl rfl 3 (by decide) (hw _ wd_115) rfl rfl rfl (Nat.le_of_ble_eq_true rfl) d_BR_clear_2 rfl (fun H locs hP hD hS => ?_)
  refine lv_aload_n hx hb d_BR_clear_5 rfl (lv_at hl 0 rfl) ?_
  refine lv_iconst (v := nI 0) hx hb d_BR_clear_6 (by decide) ?_
  refine k_put (ws' := [(h0, .inr (4, [.ref q1, .ref q2, .ref q3, .int (nI 0), .int (nI 0)])), (q1, .inl (tc 0, np, .inl pl)), (q2, .inl (tc 0, nc, .inl co)), (q3, .inl (tc 0, nc, .inl pd))]) hx hb hw uw_BR tok_BR nn_BR hown hK hP hD hS 0 rfl rfl 4 (by decide) (hw _ wd_118) rfl rfl rfl (Nat.le_of_ble_eq_true rfl) d_BR_clear_7 rfl (fun H locs hP hD hS => ?_)
  rw [hQ]
  exact k_vret () hx hb hr hlk hK hP hD hS [0, 1, 2, 3] (by decide) rfl trivial d_BR_clear_10
set_option maxHeartbeats 4000000 in
set_option maxRecDepth 100000 in
theorem c_BR_append (l : Launch) (D : va_G) (tc : Nat → ClassId) (tb : Nat → Nat) (h0 : Nat) (q1 : Nat) (q2 : Nat) (q3 : Nat) (np : Nat) (nc : Nat) (pl : Nat → Int32) (co : Nat → Int32) (pd : Nat → Int32) (pn : Nat) (cn : Nat) (x : Int32) (hc : pn < np) (hn : np < 1000) : Mv l D tc tb y_BR_append prog_2_method_3_code 2 none ({ frames := 0, cells := 0, slots := 0, locals := 0 }) [.ref h0, .int (x)] [(h0, .inr (4, [.ref q1, .ref q2, .ref q3, .int (nI pn), .int (nI cn)])), (q1, .inl (tc 0, np, .inl pl)), (q2, .inl (tc 0, nc, .inl co)), (q3, .inl (tc 0, nc, .inl pd))] (fun _ : Unit => True) (fun _ : Unit => [(h0, .inr (4, [.ref q1, .ref q2, .ref q3, .int (nI (pn + 1)), .int (nI cn)])), (q1, .inl (tc 0, np, .inl (upd pl pn x))), (q2, .inl (tc 0, nc, .inl co)), (q3, .inl (tc 0, nc, .inl pd))]) := by
  refine Mv.go (by decide) (Nat.le_of_ble_eq_true rfl) ?_
  intro p e s m below meth c A ls R args Q C
  obtain ⟨hx, hb, hr, hts, hown, hlk, hml, hin, hA, hST, hN, hK, hP, hD, hS, hl, hR, hQ⟩ := C
  have hw : ∀ w ∈ lw_g, w.before args s = true := fun w h => hts w (List.mem_cons_of_mem _ h)
  have hl : lv_has ls 2 [(0, .ref h0), (1, .int (x))] := hl
  refine lv_aload_n hx hb d_BR_append_0 rfl (lv_at hl 0 rfl) ?_
  refine k_get hx hb hw uw_BR hown hK hP 0 rfl rfl 3 (by decide) (hw _ wd_115) rfl d_BR_append_1 ?_
  refine lv_aload_n hx hb d_BR_append_4 rfl (lv_at hl 0 rfl) ?_
  refine k_get hx hb hw uw_BR hown hK hP 0 rfl rfl 0 (by decide) (hw _ wd_107) rfl d_BR_append_5 ?_
  refine va_alen (v := nI np) hx hb hK hP 1 0 rfl rfl rfl d_BR_append_8 ?_
  refine k_icmp_ge (tgt := 32) hx hb d_BR_append_9 (by decide) (by omega) (by omega) (fun h9 => ?_) (fun h9 => ?_)
  · exfalso; omega
  · refine lv_aload_n hx hb d_BR_append_12 rfl (lv_at hl 0 rfl) ?_
    refine k_get hx hb hw uw_BR hown hK hP 0 rfl rfl 0 (by decide) (hw _ wd_107) rfl d_BR_append_13 ?_
    refine lv_aload_n hx hb d_BR_append_16 rfl (lv_at hl 0 rfl) ?_
    refine k_get hx hb hw uw_BR hown hK hP 0 rfl rfl 3 (by decide) (hw _ wd_115) rfl d_BR_append_17 ?_
    refine lv_iload_n hx hb d_BR_append_20 rfl (lv_at hl 1 rfl) ?_
    refine k_iast (ws' := [(h0, .inr (4, [.ref q1, .ref q2, .ref q3, .int (nI pn), .int (nI cn)])), (q1, .inl (tc 0, np, .inl (upd pl pn x))), (q2, .inl (tc 0, nc, .inl co)), (q3, .inl (tc 0, nc, .inl pd))]) hx hb hK hP hD hS 1 0 rfl rfl (by omega) (by omega) d_BR_append_21 rfl (fun H locs hP hD hS => ?_)
    refine lv_aload_n hx hb d_BR_append_22 rfl (lv_at hl 0 rfl) ?_
    refine lv_dup hx hb d_BR_append_23 rfl ?_
    refine k_get hx hb hw uw_BR hown hK hP 0 rfl rfl 3 (by decide) (hw _ wd_115) rfl d_BR_append_24 ?_
    refine lv_iconst (v := nI 1) hx hb d_BR_append_27 (by decide) ?_
    refine k_iadd hx hb d_BR_append_28 ?_
    refine k_put (ws' := [(h0, .inr (4, [.ref q1, .ref q2, .ref q3, .int (nI (pn + 1)), .int (nI cn)])), (q1, .inl (tc 0, np, .inl (upd pl pn x))), (q2, .inl (tc 0, nc, .inl co)), (q3, .inl (tc 0, nc, .inl pd))]) hx hb hw uw_BR tok_BR nn_BR hown hK hP hD hS 0 rfl rfl 3 (by decide) (hw _ wd_115) rfl rfl rfl (Nat.le_of_ble_eq_true rfl) d_BR_append_29 rfl (fun H locs hP hD hS => ?_)
    rw [hQ]
    exact k_vret () hx hb hr hlk hK hP hD hS [0, 1, 2, 3] (by decide) rfl trivial d_BR_append_32
set_option maxHeartbeats 4000000 in
set_option maxRecDepth 100000 in
theorem c_BR_appendCoded (l : Launch) (D : va_G) (tc : Nat → ClassId) (tb : Nat → Nat) (h0 : Nat) (q1 : Nat) (q2 : Nat) (q3 : Nat) (np : Nat) (nc : Nat) (pl : Nat → Int32) (co : Nat → Int32) (pd : Nat → Int32) (pn : Nat) (cn : Nat) (x : Int32) (hc : cn < nc) (hn : nc < 1000) : Mv l D tc tb y_BR_appendCoded prog_2_method_8_code 2 none ({ frames := 0, cells := 0, slots := 0, locals := 0 }) [.ref h0, .int (x)] [(h0, .inr (4, [.ref q1, .ref q2, .ref q3, .int (nI pn), .int (nI cn)])), (q1, .inl (tc 0, np, .inl pl)), (q2, .inl (tc 0, nc, .inl co)), (q3, .inl (tc 0, nc, .inl pd))] (fun _ : Unit => True) (fun _ : Unit => [(h0, .inr (4, [.ref q1, .ref q2, .ref q3, .int (nI pn), .int (nI (cn + 1))])), (q1, .inl (tc 0, np, .inl pl)), (q2, .inl (tc 0, nc, .inl (upd co cn x))), (q3, .inl (tc 0, nc, .inl pd))]) := by
  refine Mv.go (by decide) (Nat.le_of_ble_eq_true rfl) ?_
  intro p e s m below meth c A ls R args Q C
  obtain ⟨hx, hb, hr, hts, hown, hlk, hml, hin, hA, hST, hN, hK, hP, hD, hS, hl, hR, hQ⟩ := C
  have hw : ∀ w ∈ lw_g, w.before args s = true := fun w h => hts w (List.mem_cons_of_mem _ h)
  have hl : lv_has ls 2 [(0, .ref h0), (1, .int (x))] := hl
  refine lv_aload_n hx hb d_BR_appendCoded_0 rfl (lv_at hl 0 rfl) ?_
  refine k_get hx hb hw uw_BR hown hK hP 0 rfl rfl 4 (by decide) (hw _ wd_118) rfl d_BR_appendCoded_1 ?_
  refine lv_aload_n hx hb d_BR_appendCoded_4 rfl (lv_at hl 0 rfl) ?_
  refine k_get hx hb hw uw_BR hown hK hP 0 rfl rfl 1 (by decide) (hw _ wd_110) rfl d_BR_appendCoded_5 ?_
  refine va_alen (v := nI nc) hx hb hK hP 2 0 rfl rfl rfl d_BR_appendCoded_8 ?_
  refine k_icmp_ge (tgt := 32) hx hb d_BR_appendCoded_9 (by decide) (by omega) (by omega) (fun h9 => ?_) (fun h9 => ?_)
  · exfalso; omega
  · refine lv_aload_n hx hb d_BR_appendCoded_12 rfl (lv_at hl 0 rfl) ?_
    refine k_get hx hb hw uw_BR hown hK hP 0 rfl rfl 1 (by decide) (hw _ wd_110) rfl d_BR_appendCoded_13 ?_
    refine lv_aload_n hx hb d_BR_appendCoded_16 rfl (lv_at hl 0 rfl) ?_
    refine k_get hx hb hw uw_BR hown hK hP 0 rfl rfl 4 (by decide) (hw _ wd_118) rfl d_BR_appendCoded_17 ?_
    refine lv_iload_n hx hb d_BR_appendCoded_20 rfl (lv_at hl 1 rfl) ?_
    refine k_iast (ws' := [(h0, .inr (4, [.ref q1, .ref q2, .ref q3, .int (nI pn), .int (nI cn)])), (q1, .inl (tc 0, np, .inl pl)), (q2, .inl (tc 0, nc, .inl (upd co cn x))), (q3, .inl (tc 0, nc, .inl pd))]) hx hb hK hP hD hS 2 0 rfl rfl (by omega) (by omega) d_BR_appendCoded_21 rfl (fun H locs hP hD hS => ?_)
    refine lv_aload_n hx hb d_BR_appendCoded_22 rfl (lv_at hl 0 rfl) ?_
    refine lv_dup hx hb d_BR_appendCoded_23 rfl ?_
    refine k_get hx hb hw uw_BR hown hK hP 0 rfl rfl 4 (by decide) (hw _ wd_118) rfl d_BR_appendCoded_24 ?_
    refine lv_iconst (v := nI 1) hx hb d_BR_appendCoded_27 (by decide) ?_
    refine k_iadd hx hb d_BR_appendCoded_28 ?_
    refine k_put (ws' := [(h0, .inr (4, [.ref q1, .ref q2, .ref q3, .int (nI pn), .int (nI (cn + 1))])), (q1, .inl (tc 0, np, .inl pl)), (q2, .inl (tc 0, nc, .inl (upd co cn x))), (q3, .inl (tc 0, nc, .inl pd))]) hx hb hw uw_BR tok_BR nn_BR hown hK hP hD hS 0 rfl rfl 4 (by decide) (hw _ wd_118) rfl rfl rfl (Nat.le_of_ble_eq_true rfl) d_BR_appendCoded_29 rfl (fun H locs hP hD hS => ?_)
    rw [hQ]
    exact k_vret () hx hb hr hlk hK hP hD hS [0, 1, 2, 3] (by decide) rfl trivial d_BR_appendCoded_32
set_option maxHeartbeats 4000000 in
set_option maxRecDepth 100000 in
theorem c_BR_appendLowestFirst (l : Launch) (D : va_G) (tc : Nat → ClassId) (tb : Nat → Nat) (h0 : Nat) (q1 : Nat) (q2 : Nat) (q3 : Nat) (np : Nat) (nc : Nat) (pl : Nat → Int32) (co : Nat → Int32) (pd : Nat → Int32) (pn : Nat) (cn : Nat) (x : Int32) (b : Nat) (hc : pn + b ≤ np) (hn : np < 1000) : Mv l D tc tb y_BR_appendLowestFirst prog_2_method_4_code 4 none ({ frames := 1, cells := 0, slots := 0, locals := 21 }) [.ref h0, .int (x), .int (nI b)] [(h0, .inr (4, [.ref q1, .ref q2, .ref q3, .int (nI pn), .int (nI cn)])), (q1, .inl (tc 0, np, .inl pl)), (q2, .inl (tc 0, nc, .inl co)), (q3, .inl (tc 0, nc, .inl pd))] (fun _ : Unit => True) (fun _ : Unit => [(h0, .inr (4, [.ref q1, .ref q2, .ref q3, .int (nI (pn + b)), .int (nI cn)])), (q1, .inl (tc 0, np, .inl (alF pl pn x b))), (q2, .inl (tc 0, nc, .inl co)), (q3, .inl (tc 0, nc, .inl pd))]) := by
  refine Mv.go (by decide) (Nat.le_of_ble_eq_true rfl) ?_
  intro p e s m below meth c A ls R args Q C
  obtain ⟨hx, hb, hr, hts, hown, hlk, hml, hin, hA, hST, hN, hK, hP, hD, hS, hl, hR, hQ⟩ := C
  have hw : ∀ w ∈ lw_g, w.before args s = true := fun w h => hts w (List.mem_cons_of_mem _ h)
  have hl : lv_has ls 4 [(0, .ref h0), (1, .int (x)), (2, .int (nI b))] := hl
  refine lv_iconst (v := nI 0) hx hb d_BR_appendLowestFirst_0 (by decide) ?_
  refine lv_istore_n (lv' := [(3, .int (nI 0)), (0, .ref h0), (1, .int (x)), (2, .int (nI b))]) hx hb d_BR_appendLowestFirst_1 rfl hl (by decide) rfl (fun ls hl => ?_)
  refine k_loop (P := fun k : Nat => ∀ (H : Heap) (locs : List Loc) (ls : Array Slot), lv_has ls 4 [(3, .int (nI k)), (0, .ref h0), (1, .int (x)), (2, .int (nI b))] → va_P D classes [(h0, .inr (4, [.ref q1, .ref q2, .ref q3, .int (nI (pn + k)), .int (nI cn)])), (q1, .inl (tc 0, np, .inl (alF pl pn x k))), (q2, .inl (tc 0, nc, .inl co)), (q3, .inl (tc 0, nc, .inl pd))] H → va_D A [(h0, .inr (4, [.ref q1, .ref q2, .ref q3, .int (nI (pn + k)), .int (nI cn)])), (q1, .inl (tc 0, np, .inl (alF pl pn x k))), (q2, .inl (tc 0, nc, .inl co)), (q3, .inl (tc 0, nc, .inl pd))] → va_S A s.heap H locs → W p l e R s m args below meth c H locs 0 0 Q (F0 m 2 ls [])) (b) (fun k hk_k ih_k  H locs ls hl hP hD hS => ?_) (0) (by omega)   s.heap [] ls (lv_sub hl [0, 1, 2, 3] rfl) (by exact hP) (k_Ds hD [0, 1, 2, 3] (by decide) rfl) hS
  refine lv_iload_n hx hb d_BR_appendLowestFirst_2 rfl (lv_at hl 0 rfl) ?_
  refine lv_iload_n hx hb d_BR_appendLowestFirst_3 rfl (lv_at hl 3 rfl) ?_
  refine k_icmp_ge (tgt := 22) hx hb d_BR_appendLowestFirst_4 (by decide) (by omega) (by omega) (fun h4 => ?_) (fun h4 => ?_)
  · obtain rfl : b = k := by omega
    rw [hQ]
    exact k_vret () hx hb hr hlk hK hP hD hS [0, 1, 2, 3] (by decide) rfl trivial d_BR_appendLowestFirst_22
  · refine lv_aload_n hx hb d_BR_appendLowestFirst_7 rfl (lv_at hl 1 rfl) ?_
    refine lv_iload_n hx hb d_BR_appendLowestFirst_8 rfl (lv_at hl 2 rfl) ?_
    refine lv_iload_n hx hb d_BR_appendLowestFirst_9 rfl (lv_at hl 0 rfl) ?_
    refine lv_ishr hx hb d_BR_appendLowestFirst_10 ?_
    refine lv_iconst (v := nI 1) hx hb d_BR_appendLowestFirst_11 (by decide) ?_
    refine lv_iand hx hb d_BR_appendLowestFirst_12 ?_
    refine k_callv (wr := []) (k_runV (As := [.int ((x >>> ((nI k) &&& 31)) &&& (nI 1))]) (rest := []) (wc := [(h0, .inr (4, [.ref q1, .ref q2, .ref q3, .int (nI ((pn + k))), .int (nI cn)])), (q1, .inl (tc 0, np, .inl (alF pl pn x k))), (q2, .inl (tc 0, nc, .inl co)), (q3, .inl (tc 0, nc, .inl pd))]) ⟨hx, hb, hml, hown, hts⟩ (c_BR_append l D tc tb h0 q1 q2 q3 np nc (alF pl pn x k) co pd (pn + k) cn ((x >>> ((nI k) &&& 31)) &&& (nI 1)) (by omega) (by omega) H.size) (cwV 1 hts (k_goodV wd_462 wd_463 wd_464 wd_5 wd_465) rfl rfl rfl ⟨rfl, hd_BR_append⟩ ⟨by rw [hR]; exact Nat.le_of_ble_eq_true rfl, by rw [hR]; exact Nat.le_of_ble_eq_true rfl⟩) hK hP hD hS hST hN hA [0, 1, 2, 3] (by decide) rfl 0 rfl rfl rfl rfl hl.1 rfl (Nat.le_of_ble_eq_true rfl) d_BR_appendLowestFirst_13 ⟨by rw [hR]; exact Nat.le_of_ble_eq_true rfl, by rw [hR]; exact Nat.le_of_ble_eq_true rfl⟩) hP hD hS hA [0, 1, 2, 3] [] rfl rfl (by decide) (by decide) (fun _ H locs hp13 hP hD hS => ?_)
    have hP : va_P D classes [(h0, .inr (4, [.ref q1, .ref q2, .ref q3, .int (nI ((pn + k) + 1)), .int (nI cn)])), (q1, .inl (tc 0, np, .inl (upd (alF pl pn x k) (pn + k) ((x >>> ((nI k) &&& 31)) &&& (nI 1))))), (q2, .inl (tc 0, nc, .inl co)), (q3, .inl (tc 0, nc, .inl pd))] H := hP
    have hD : va_D A [(h0, .inr (4, [.ref q1, .ref q2, .ref q3, .int (nI ((pn + k) + 1)), .int (nI cn)])), (q1, .inl (tc 0, np, .inl (upd (alF pl pn x k) (pn + k) ((x >>> ((nI k) &&& 31)) &&& (nI 1))))), (q2, .inl (tc 0, nc, .inl co)), (q3, .inl (tc 0, nc, .inl pd))] := hD
    refine W.widen (k := 0) (n := 0) (Nat.le_of_ble_eq_true rfl) (Nat.le_of_ble_eq_true rfl) ?_
    refine W.eq (g2 := F0 m 16 ls []) rfl ?_
    refine lv_iinc (k := 0) (v := nI (k + 1)) (lv' := [(3, .int (nI (k + 1))), (0, .ref h0), (1, .int (x)), (2, .int (nI b))]) hx hb d_BR_appendLowestFirst_16 hl rfl (k_incN _ 1) (by decide) rfl (fun ls hl => ?_)
    refine lv_goto (tgt := 2) hx hb d_BR_appendLowestFirst_19 (by decide) ?_
    exact ih_k (by omega)   H locs ls (lv_sub hl [0, 1, 2, 3] rfl) (by exact hP) (k_Ds hD [0, 1, 2, 3] (by decide) rfl) hS
set_option maxHeartbeats 4000000 in
set_option maxRecDepth 100000 in
theorem c_BR_appendZeros (l : Launch) (D : va_G) (tc : Nat → ClassId) (tb : Nat → Nat) (h0 : Nat) (q1 : Nat) (q2 : Nat) (q3 : Nat) (np : Nat) (nc : Nat) (pl : Nat → Int32) (co : Nat → Int32) (pd : Nat → Int32) (pn : Nat) (cn : Nat) (b : Nat) (hc : pn + b ≤ np) (hn : np < 1000) : Mv l D tc tb y_BR_appendZeros prog_2_method_5_code 2 none ({ frames := 2, cells := 0, slots := 0, locals := 44 }) [.ref h0, .int (nI b)] [(h0, .inr (4, [.ref q1, .ref q2, .ref q3, .int (nI pn), .int (nI cn)])), (q1, .inl (tc 0, np, .inl pl)), (q2, .inl (tc 0, nc, .inl co)), (q3, .inl (tc 0, nc, .inl pd))] (fun _ : Unit => True) (fun _ : Unit => [(h0, .inr (4, [.ref q1, .ref q2, .ref q3, .int (nI (pn + b)), .int (nI cn)])), (q1, .inl (tc 0, np, .inl (alF pl pn (nI 0) b))), (q2, .inl (tc 0, nc, .inl co)), (q3, .inl (tc 0, nc, .inl pd))]) := by
  refine Mv.go (by decide) (Nat.le_of_ble_eq_true rfl) ?_
  intro p e s m below meth c A ls R args Q C
  obtain ⟨hx, hb, hr, hts, hown, hlk, hml, hin, hA, hST, hN, hK, hP, hD, hS, hl, hR, hQ⟩ := C
  have hw : ∀ w ∈ lw_g, w.before args s = true := fun w h => hts w (List.mem_cons_of_mem _ h)
  have hl : lv_has ls 2 [(0, .ref h0), (1, .int (nI b))] := hl
  refine lv_aload_n hx hb d_BR_appendZeros_0 rfl (lv_at hl 0 rfl) ?_
  refine lv_iconst (v := nI 0) hx hb d_BR_appendZeros_1 (by decide) ?_
  refine lv_iload_n hx hb d_BR_appendZeros_2 rfl (lv_at hl 1 rfl) ?_
  refine k_callv (wr := []) (k_runV (As := [.int (nI 0), .int (nI b)]) (rest := []) (wc := [(h0, .inr (4, [.ref q1, .ref q2, .ref q3, .int (nI pn), .int (nI cn)])), (q1, .inl (tc 0, np, .inl pl)), (q2, .inl (tc 0, nc, .inl co)), (q3, .inl (tc 0, nc, .inl pd))]) ⟨hx, hb, hml, hown, hts⟩ (c_BR_appendLowestFirst l D tc tb h0 q1 q2 q3 np nc pl co pd pn cn (nI 0) b (by omega) (by omega) s.heap.size) (cwV 2 hts (k_goodV wd_472 wd_459 wd_460 wd_5 wd_461) rfl rfl rfl ⟨rfl, hd_BR_appendLowestFirst⟩ ⟨by rw [hR]; exact Nat.le_of_ble_eq_true rfl, by rw [hR]; exact Nat.le_of_ble_eq_true rfl⟩) hK hP hD hS hST hN hA [0, 1, 2, 3] (by decide) rfl 0 rfl rfl rfl rfl hl.1 rfl (Nat.le_of_ble_eq_true rfl) d_BR_appendZeros_3 ⟨by rw [hR]; exact Nat.le_of_ble_eq_true rfl, by rw [hR]; exact Nat.le_of_ble_eq_true rfl⟩) hP hD hS hA [0, 1, 2, 3] [] rfl rfl (by decide) (by decide) (fun _ H locs hp3 hP hD hS => ?_)
  have hP : va_P D classes [(h0, .inr (4, [.ref q1, .ref q2, .ref q3, .int (nI (pn + b)), .int (nI cn)])), (q1, .inl (tc 0, np, .inl (alF pl pn (nI 0) b))), (q2, .inl (tc 0, nc, .inl co)), (q3, .inl (tc 0, nc, .inl pd))] H := hP
  have hD : va_D A [(h0, .inr (4, [.ref q1, .ref q2, .ref q3, .int (nI (pn + b)), .int (nI cn)])), (q1, .inl (tc 0, np, .inl (alF pl pn (nI 0) b))), (q2, .inl (tc 0, nc, .inl co)), (q3, .inl (tc 0, nc, .inl pd))] := hD
  refine W.widen (k := 0) (n := 0) (Nat.le_of_ble_eq_true rfl) (Nat.le_of_ble_eq_true rfl) ?_
  refine W.eq (g2 := F0 m 6 ls []) rfl ?_
  rw [hQ]
  exact k_vret () hx hb hr hlk hK hP hD hS [0, 1, 2, 3] (by decide) rfl trivial d_BR_appendZeros_6
set_option maxHeartbeats 4000000 in
set_option maxRecDepth 100000 in
theorem c_BR_code (l : Launch) (D : va_G) (tc : Nat → ClassId) (tb : Nat → Nat) (h0 : Nat) (q1 : Nat) (q2 : Nat) (q3 : Nat) (np : Nat) (nc : Nat) (pl : Nat → Int32) (co : Nat → Int32) (pd : Nat → Int32) (pn : Nat) (th : Int32) (hp : pn ≤ np) (hn : np < 1000) (hc : cnt th pn ≤ nc) (hm : nc < 1000) : Mv l D tc tb y_BR_code prog_2_method_7_code 4 none ({ frames := 2, cells := 0, slots := 0, locals := 41 }) [.ref h0, .int (th)] [(h0, .inr (4, [.ref q1, .ref q2, .ref q3, .int (nI pn), .int (nI 0)])), (q1, .inl (tc 0, np, .inl pl)), (q2, .inl (tc 0, nc, .inl co)), (q3, .inl (tc 0, nc, .inl pd))] (fun _ : Unit => True) (fun _ : Unit => [(h0, .inr (4, [.ref q1, .ref q2, .ref q3, .int (nI pn), .int (nI (cnt th pn))])), (q1, .inl (tc 0, np, .inl pl)), (q2, .inl (tc 0, nc, .inl (cdF th pl co pn))), (q3, .inl (tc 0, nc, .inl pd))]) := by
  refine Mv.go (by decide) (Nat.le_of_ble_eq_true rfl) ?_
  intro p e s m below meth c A ls R args Q C
  obtain ⟨hx, hb, hr, hts, hown, hlk, hml, hin, hA, hST, hN, hK, hP, hD, hS, hl, hR, hQ⟩ := C
  have hw : ∀ w ∈ lw_g, w.before args s = true := fun w h => hts w (List.mem_cons_of_mem _ h)
  have hl : lv_has ls 4 [(0, .ref h0), (1, .int (th))] := hl
  refine lv_iconst (v := nI 0) hx hb d_BR_code_0 (by decide) ?_
  refine lv_istore_n (lv' := [(2, .int (nI 0)), (0, .ref h0), (1, .int (th))]) hx hb d_BR_code_1 rfl hl (by decide) rfl (fun ls hl => ?_)
  refine lv_iconst (v := nI 0) hx hb d_BR_code_2 (by decide) ?_
  refine lv_istore_n (lv' := [(3, .int (nI 0)), (2, .int (nI 0)), (0, .ref h0), (1, .int (th))]) hx hb d_BR_code_3 rfl hl (by decide) rfl (fun ls hl => ?_)
  refine k_loop (P := fun k : Nat => ∀ (H : Heap) (locs : List Loc) (ls : Array Slot), lv_has ls 4 [(3, .int (nI k)), (2, .int (wnF pl k)), (0, .ref h0), (1, .int (th))] → va_P D classes [(h0, .inr (4, [.ref q1, .ref q2, .ref q3, .int (nI pn), .int (nI (cnt th k))])), (q1, .inl (tc 0, np, .inl pl)), (q2, .inl (tc 0, nc, .inl (cdF th pl co k))), (q3, .inl (tc 0, nc, .inl pd))] H → va_D A [(h0, .inr (4, [.ref q1, .ref q2, .ref q3, .int (nI pn), .int (nI (cnt th k))])), (q1, .inl (tc 0, np, .inl pl)), (q2, .inl (tc 0, nc, .inl (cdF th pl co k))), (q3, .inl (tc 0, nc, .inl pd))] → va_S A s.heap H locs → W p l e R s m args below meth c H locs 0 0 Q (F0 m 4 ls [])) (pn) (fun k hk_k ih_k  H locs ls hl hP hD hS => ?_) (0) (by omega)   s.heap [] ls (lv_sub hl [0, 1, 2, 3] rfl) (by exact hP) (k_Ds hD [0, 1, 2, 3] (by decide) rfl) hS
  refine lv_iload_n hx hb d_BR_code_4 rfl (lv_at hl 0 rfl) ?_
  refine lv_aload_n hx hb d_BR_code_5 rfl (lv_at hl 2 rfl) ?_
  refine k_get hx hb hw uw_BR hown hK hP 0 rfl rfl 3 (by decide) (hw _ wd_115) rfl d_BR_code_6 ?_
  refine k_icmp_ge (tgt := 68) hx hb d_BR_code_9 (by decide) (by omega) (by omega) (fun h9 => ?_) (fun h9 => ?_)
  · obtain rfl : pn = k := by omega
    rw [hQ]
    exact k_vret () hx hb hr hlk hK hP hD hS [0, 1, 2, 3] (by decide) rfl trivial d_BR_code_68
  · have hcl := cnt_lt th h9
    refine lv_iload_n hx hb d_BR_code_12 rfl (lv_at hl 1 rfl) ?_
    refine lv_iconst (v := nI 1) hx hb d_BR_code_13 (by decide) ?_
    refine lv_ishr hx hb d_BR_code_14 ?_
    refine lv_aload_n hx hb d_BR_code_15 rfl (lv_at hl 2 rfl) ?_
    refine k_get hx hb hw uw_BR hown hK hP 0 rfl rfl 0 (by decide) (hw _ wd_107) rfl d_BR_code_16 ?_
    refine lv_iload_n hx hb d_BR_code_19 rfl (lv_at hl 0 rfl) ?_
    refine k_iald hx hb hK hP 1 0 rfl rfl (by omega) (by omega) d_BR_code_20 ?_
    refine lv_bipush (v := nI 6) hx hb d_BR_code_21 (by decide) ?_
    refine lv_ishl hx hb d_BR_code_23 ?_
    refine lv_ior hx hb d_BR_code_24 ?_
    refine k_topi (y := wnF pl (k + 1)) rfl ?_
    refine lv_istore_n (lv' := [(2, .int (wnF pl (k + 1))), (3, .int (nI k)), (0, .ref h0), (1, .int (th))]) hx hb d_BR_code_25 rfl hl (by decide) rfl (fun ls hl => ?_)
    refine lv_iload_n hx hb d_BR_code_26 rfl (lv_at hl 3 rfl) ?_
    refine lv_iload_n hx hb d_BR_code_27 rfl (lv_at hl 1 rfl) ?_
    refine k_calli (wr := [(h0, .inr (4, [.ref q1, .ref q2, .ref q3, .int (nI pn), .int (nI (cnt th k))])), (q1, .inl (tc 0, np, .inl pl)), (q2, .inl (tc 0, nc, .inl (cdF th pl co k))), (q3, .inl (tc 0, nc, .inl pd))]) (k_runSN (As := [.int (th), .int (nI k)]) (rest := []) (wc := []) ⟨hx, hb, hml, hown, hts⟩ (c_CL_keepsA l D tc tb th k (by omega) H.size) ⟨va_cnB 2 hts (k_good wd_486) rfl rfl rfl (hN _ wd_484) (hw _ wd_1) hd_CL_keepsA ⟨by rw [hR]; exact Nat.le_of_ble_eq_true rfl, by rw [hR]; exact Nat.le_of_ble_eq_true rfl⟩, hw _ wd_485, trivial⟩ hK hP hD hS hST hN hA [] (by decide) rfl rfl hl.1 rfl (Nat.le_of_ble_eq_true rfl) d_BR_code_28 ⟨by rw [hR]; exact Nat.le_of_ble_eq_true rfl, by rw [hR]; exact Nat.le_of_ble_eq_true rfl⟩) hP hD hS hA [] [0, 1, 2, 3] rfl rfl (by decide) (by decide) (fun _ H locs hp28 hP hD hS => ?_)
    have hP : va_P D classes [(h0, .inr (4, [.ref q1, .ref q2, .ref q3, .int (nI pn), .int (nI (cnt th k))])), (q1, .inl (tc 0, np, .inl pl)), (q2, .inl (tc 0, nc, .inl (cdF th pl co k))), (q3, .inl (tc 0, nc, .inl pd))] H := hP
    have hD : va_D A [(h0, .inr (4, [.ref q1, .ref q2, .ref q3, .int (nI pn), .int (nI (cnt th k))])), (q1, .inl (tc 0, np, .inl pl)), (q2, .inl (tc 0, nc, .inl (cdF th pl co k))), (q3, .inl (tc 0, nc, .inl pd))] := hD
    refine W.widen (k := 0) (n := 0) (Nat.le_of_ble_eq_true rfl) (Nat.le_of_ble_eq_true rfl) ?_
    refine W.eq (g2 := F0 m 31 ls [.int (kpA th k)]) rfl ?_
    refine lv_if_eq (tgt := 44) hx hb d_BR_code_31 (by decide) (fun h31 => ?_) (fun h31 => ?_)
    · rw [if_pos h31] at hcl
      refine lv_iload_n hx hb d_BR_code_44 rfl (lv_at hl 3 rfl) ?_
      refine lv_iload_n hx hb d_BR_code_45 rfl (lv_at hl 1 rfl) ?_
      refine k_calli (wr := [(h0, .inr (4, [.ref q1, .ref q2, .ref q3, .int (nI pn), .int (nI (cnt th k))])), (q1, .inl (tc 0, np, .inl pl)), (q2, .inl (tc 0, nc, .inl (cdF th pl co k))), (q3, .inl (tc 0, nc, .inl pd))]) (k_runSN (As := [.int (th), .int (nI k)]) (rest := []) (wc := []) ⟨hx, hb, hml, hown, hts⟩ (c_CL_keepsB l D tc tb th k (by omega) H.size) ⟨va_cnB 2 hts (k_good wd_494) rfl rfl rfl (hN _ wd_492) (hw _ wd_1) hd_CL_keepsB ⟨by rw [hR]; exact Nat.le_of_ble_eq_true rfl, by rw [hR]; exact Nat.le_of_ble_eq_true rfl⟩, hw _ wd_493, trivial⟩ hK hP hD hS hST hN hA [] (by decide) rfl rfl hl.1 rfl (Nat.le_of_ble_eq_true rfl) d_BR_code_46 ⟨by rw [hR]; exact Nat.le_of_ble_eq_true rfl, by rw [hR]; exact Nat.le_of_ble_eq_true rfl⟩) hP hD hS hA [] [0, 1, 2, 3] rfl rfl (by decide) (by decide) (fun _ H locs hp46 hP hD hS => ?_)
      have hP : va_P D classes [(h0, .inr (4, [.ref q1, .ref q2, .ref q3, .int (nI pn), .int (nI (cnt th k))])), (q1, .inl (tc 0, np, .inl pl)), (q2, .inl (tc 0, nc, .inl (cdF th pl co k))), (q3, .inl (tc 0, nc, .inl pd))] H := hP
      have hD : va_D A [(h0, .inr (4, [.ref q1, .ref q2, .ref q3, .int (nI pn), .int (nI (cnt th k))])), (q1, .inl (tc 0, np, .inl pl)), (q2, .inl (tc 0, nc, .inl (cdF th pl co k))), (q3, .inl (tc 0, nc, .inl pd))] := hD
      refine W.widen (k := 0) (n := 0) (Nat.le_of_ble_eq_true rfl) (Nat.le_of_ble_eq_true rfl) ?_
      refine W.eq (g2 := F0 m 49 ls [.int (kpB th k)]) rfl ?_
      refine lv_if_eq (tgt := 62) hx hb d_BR_code_49 (by decide) (fun h49 => ?_) (fun h49 => ?_)
      · rw [if_pos h49] at hcl
        refine lv_iinc (k := 1) (v := nI (k + 1)) (lv' := [(3, .int (nI (k + 1))), (2, .int (wnF pl (k + 1))), (0, .ref h0), (1, .int (th))]) hx hb d_BR_code_62 hl rfl (k_incN _ 1) (by decide) rfl (fun ls hl => ?_)
        refine lv_goto (tgt := 4) hx hb d_BR_code_65 (by decide) ?_
        exact ih_k (by omega)   H locs ls (lv_sub hl [0, 1, 2, 3] rfl) (by first | (rw [cd00 pl co h31 h49, cn00 h31 h49]; exact hP) | (rw [cd01 pl co h31 h49, cn01 h31 h49]; exact hP) | (rw [cd10 pl co h31 h49, cn10 h31 h49]; exact hP) | (rw [cd11 pl co h31 h49, cn11 h31 h49]; exact hP)) (k_Ds hD [0, 1, 2, 3] (by decide) rfl) hS
      · rw [if_neg h49] at hcl
        refine lv_aload_n hx hb d_BR_code_52 rfl (lv_at hl 2 rfl) ?_
        refine lv_iload_n hx hb d_BR_code_53 rfl (lv_at hl 0 rfl) ?_
        refine lv_bipush (v := nI 121) hx hb d_BR_code_54 (by decide) ?_
        refine k_calli (wr := [(h0, .inr (4, [.ref q1, .ref q2, .ref q3, .int (nI pn), .int (nI (cnt th k))])), (q1, .inl (tc 0, np, .inl pl)), (q2, .inl (tc 0, nc, .inl (cdF th pl co k))), (q3, .inl (tc 0, nc, .inl pd))]) (k_runSN (As := [.int (wnF pl (k + 1)), .int (nI 121)]) (rest := [.ref h0]) (wc := []) ⟨hx, hb, hml, hown, hts⟩ (c_CL_codeOf l D tc tb (wnF pl (k + 1)) (nI 121)  H.size) ⟨va_cnB 2 hts (k_good wd_186) rfl rfl rfl (hN _ wd_487) (hw _ wd_1) hd_CL_codeOf ⟨by rw [hR]; exact Nat.le_of_ble_eq_true rfl, by rw [hR]; exact Nat.le_of_ble_eq_true rfl⟩, hw _ wd_185, trivial⟩ hK hP hD hS hST hN hA [] (by decide) rfl rfl hl.1 rfl (Nat.le_of_ble_eq_true rfl) d_BR_code_56 ⟨by rw [hR]; exact Nat.le_of_ble_eq_true rfl, by rw [hR]; exact Nat.le_of_ble_eq_true rfl⟩) hP hD hS hA [] [0, 1, 2, 3] rfl rfl (by decide) (by decide) (fun _ H locs hp56 hP hD hS => ?_)
        have hP : va_P D classes [(h0, .inr (4, [.ref q1, .ref q2, .ref q3, .int (nI pn), .int (nI (cnt th k))])), (q1, .inl (tc 0, np, .inl pl)), (q2, .inl (tc 0, nc, .inl (cdF th pl co k))), (q3, .inl (tc 0, nc, .inl pd))] H := hP
        have hD : va_D A [(h0, .inr (4, [.ref q1, .ref q2, .ref q3, .int (nI pn), .int (nI (cnt th k))])), (q1, .inl (tc 0, np, .inl pl)), (q2, .inl (tc 0, nc, .inl (cdF th pl co k))), (q3, .inl (tc 0, nc, .inl pd))] := hD
        refine W.widen (k := 0) (n := 0) (Nat.le_of_ble_eq_true rfl) (Nat.le_of_ble_eq_true rfl) ?_
        refine W.eq (g2 := F0 m 59 ls [.int (coF (wnF pl (k + 1)) (nI 121)), .ref h0]) rfl ?_
        refine k_callv (wr := []) (k_runV (As := [.int (coF (wnF pl (k + 1)) (nI 121))]) (rest := []) (wc := [(h0, .inr (4, [.ref q1, .ref q2, .ref q3, .int (nI pn), .int (nI ((cnt th k)))])), (q1, .inl (tc 0, np, .inl pl)), (q2, .inl (tc 0, nc, .inl (cdF th pl co k))), (q3, .inl (tc 0, nc, .inl pd))]) ⟨hx, hb, hml, hown, hts⟩ (c_BR_appendCoded l D tc tb h0 q1 q2 q3 np nc pl (cdF th pl co k) pd pn (cnt th k) (coF (wnF pl (k + 1)) (nI 121)) (by omega) (by omega) H.size) (cwV 1 hts (k_goodV wd_488 wd_490 wd_m8 wd_5 wd_491) rfl rfl rfl ⟨rfl, hd_BR_appendCoded⟩ ⟨by rw [hR]; exact Nat.le_of_ble_eq_true rfl, by rw [hR]; exact Nat.le_of_ble_eq_true rfl⟩) hK hP hD hS hST hN hA [0, 1, 2, 3] (by decide) rfl 0 rfl rfl rfl rfl hl.1 rfl (Nat.le_of_ble_eq_true rfl) d_BR_code_59 ⟨by rw [hR]; exact Nat.le_of_ble_eq_true rfl, by rw [hR]; exact Nat.le_of_ble_eq_true rfl⟩) hP hD hS hA [0, 1, 2, 3] [] rfl rfl (by decide) (by decide) (fun _ H locs hp59 hP hD hS => ?_)
        have hP : va_P D classes [(h0, .inr (4, [.ref q1, .ref q2, .ref q3, .int (nI pn), .int (nI ((cnt th k) + 1))])), (q1, .inl (tc 0, np, .inl pl)), (q2, .inl (tc 0, nc, .inl (upd (cdF th pl co k) (cnt th k) (coF (wnF pl (k + 1)) (nI 121))))), (q3, .inl (tc 0, nc, .inl pd))] H := hP
        have hD : va_D A [(h0, .inr (4, [.ref q1, .ref q2, .ref q3, .int (nI pn), .int (nI ((cnt th k) + 1))])), (q1, .inl (tc 0, np, .inl pl)), (q2, .inl (tc 0, nc, .inl (upd (cdF th pl co k) (cnt th k) (coF (wnF pl (k + 1)) (nI 121))))), (q3, .inl (tc 0, nc, .inl pd))] := hD
        refine W.widen (k := 0) (n := 0) (Nat.le_of_ble_eq_true rfl) (Nat.le_of_ble_eq_true rfl) ?_
        refine W.eq (g2 := F0 m 62 ls []) rfl ?_
        refine lv_iinc (k := 1) (v := nI (k + 1)) (lv' := [(3, .int (nI (k + 1))), (2, .int (wnF pl (k + 1))), (0, .ref h0), (1, .int (th))]) hx hb d_BR_code_62 hl rfl (k_incN _ 1) (by decide) rfl (fun ls hl => ?_)
        refine lv_goto (tgt := 4) hx hb d_BR_code_65 (by decide) ?_
        exact ih_k (by omega)   H locs ls (lv_sub hl [0, 1, 2, 3] rfl) (by first | (rw [cd00 pl co h31 h49, cn00 h31 h49]; exact hP) | (rw [cd01 pl co h31 h49, cn01 h31 h49]; exact hP) | (rw [cd10 pl co h31 h49, cn10 h31 h49]; exact hP) | (rw [cd11 pl co h31 h49, cn11 h31 h49]; exact hP)) (k_Ds hD [0, 1, 2, 3] (by decide) rfl) hS
    · rw [if_neg h31] at hcl
      refine lv_aload_n hx hb d_BR_code_34 rfl (lv_at hl 2 rfl) ?_
      refine lv_iload_n hx hb d_BR_code_35 rfl (lv_at hl 0 rfl) ?_
      refine lv_bipush (v := nI 91) hx hb d_BR_code_36 (by decide) ?_
      refine k_calli (wr := [(h0, .inr (4, [.ref q1, .ref q2, .ref q3, .int (nI pn), .int (nI (cnt th k))])), (q1, .inl (tc 0, np, .inl pl)), (q2, .inl (tc 0, nc, .inl (cdF th pl co k))), (q3, .inl (tc 0, nc, .inl pd))]) (k_runSN (As := [.int (wnF pl (k + 1)), .int (nI 91)]) (rest := [.ref h0]) (wc := []) ⟨hx, hb, hml, hown, hts⟩ (c_CL_codeOf l D tc tb (wnF pl (k + 1)) (nI 91)  H.size) ⟨va_cnB 2 hts (k_good wd_186) rfl rfl rfl (hN _ wd_487) (hw _ wd_1) hd_CL_codeOf ⟨by rw [hR]; exact Nat.le_of_ble_eq_true rfl, by rw [hR]; exact Nat.le_of_ble_eq_true rfl⟩, hw _ wd_185, trivial⟩ hK hP hD hS hST hN hA [] (by decide) rfl rfl hl.1 rfl (Nat.le_of_ble_eq_true rfl) d_BR_code_38 ⟨by rw [hR]; exact Nat.le_of_ble_eq_true rfl, by rw [hR]; exact Nat.le_of_ble_eq_true rfl⟩) hP hD hS hA [] [0, 1, 2, 3] rfl rfl (by decide) (by decide) (fun _ H locs hp38 hP hD hS => ?_)
      have hP : va_P D classes [(h0, .inr (4, [.ref q1, .ref q2, .ref q3, .int (nI pn), .int (nI (cnt th k))])), (q1, .inl (tc 0, np, .inl pl)), (q2, .inl (tc 0, nc, .inl (cdF th pl co k))), (q3, .inl (tc 0, nc, .inl pd))] H := hP
      have hD : va_D A [(h0, .inr (4, [.ref q1, .ref q2, .ref q3, .int (nI pn), .int (nI (cnt th k))])), (q1, .inl (tc 0, np, .inl pl)), (q2, .inl (tc 0, nc, .inl (cdF th pl co k))), (q3, .inl (tc 0, nc, .inl pd))] := hD
      refine W.widen (k := 0) (n := 0) (Nat.le_of_ble_eq_true rfl) (Nat.le_of_ble_eq_true rfl) ?_
      refine W.eq (g2 := F0 m 41 ls [.int (coF (wnF pl (k + 1)) (nI 91)), .ref h0]) rfl ?_
      refine k_callv (wr := []) (k_runV (As := [.int (coF (wnF pl (k + 1)) (nI 91))]) (rest := []) (wc := [(h0, .inr (4, [.ref q1, .ref q2, .ref q3, .int (nI pn), .int (nI ((cnt th k)))])), (q1, .inl (tc 0, np, .inl pl)), (q2, .inl (tc 0, nc, .inl (cdF th pl co k))), (q3, .inl (tc 0, nc, .inl pd))]) ⟨hx, hb, hml, hown, hts⟩ (c_BR_appendCoded l D tc tb h0 q1 q2 q3 np nc pl (cdF th pl co k) pd pn (cnt th k) (coF (wnF pl (k + 1)) (nI 91)) (by omega) (by omega) H.size) (cwV 1 hts (k_goodV wd_488 wd_490 wd_m8 wd_5 wd_491) rfl rfl rfl ⟨rfl, hd_BR_appendCoded⟩ ⟨by rw [hR]; exact Nat.le_of_ble_eq_true rfl, by rw [hR]; exact Nat.le_of_ble_eq_true rfl⟩) hK hP hD hS hST hN hA [0, 1, 2, 3] (by decide) rfl 0 rfl rfl rfl rfl hl.1 rfl (Nat.le_of_ble_eq_true rfl) d_BR_code_41 ⟨by rw [hR]; exact Nat.le_of_ble_eq_true rfl, by rw [hR]; exact Nat.le_of_ble_eq_true rfl⟩) hP hD hS hA [0, 1, 2, 3] [] rfl rfl (by decide) (by decide) (fun _ H locs hp41 hP hD hS => ?_)
      have hP : va_P D classes [(h0, .inr (4, [.ref q1, .ref q2, .ref q3, .int (nI pn), .int (nI ((cnt th k) + 1))])), (q1, .inl (tc 0, np, .inl pl)), (q2, .inl (tc 0, nc, .inl (upd (cdF th pl co k) (cnt th k) (coF (wnF pl (k + 1)) (nI 91))))), (q3, .inl (tc 0, nc, .inl pd))] H := hP
      have hD : va_D A [(h0, .inr (4, [.ref q1, .ref q2, .ref q3, .int (nI pn), .int (nI ((cnt th k) + 1))])), (q1, .inl (tc 0, np, .inl pl)), (q2, .inl (tc 0, nc, .inl (upd (cdF th pl co k) (cnt th k) (coF (wnF pl (k + 1)) (nI 91))))), (q3, .inl (tc 0, nc, .inl pd))] := hD
      refine W.widen (k := 0) (n := 0) (Nat.le_of_ble_eq_true rfl) (Nat.le_of_ble_eq_true rfl) ?_
      refine W.eq (g2 := F0 m 44 ls []) rfl ?_
      refine lv_iload_n hx hb d_BR_code_44 rfl (lv_at hl 3 rfl) ?_
      refine lv_iload_n hx hb d_BR_code_45 rfl (lv_at hl 1 rfl) ?_
      refine k_calli (wr := [(h0, .inr (4, [.ref q1, .ref q2, .ref q3, .int (nI pn), .int (nI ((cnt th k) + 1))])), (q1, .inl (tc 0, np, .inl pl)), (q2, .inl (tc 0, nc, .inl (upd (cdF th pl co k) (cnt th k) (coF (wnF pl (k + 1)) (nI 91))))), (q3, .inl (tc 0, nc, .inl pd))]) (k_runSN (As := [.int (th), .int (nI k)]) (rest := []) (wc := []) ⟨hx, hb, hml, hown, hts⟩ (c_CL_keepsB l D tc tb th k (by omega) H.size) ⟨va_cnB 2 hts (k_good wd_494) rfl rfl rfl (hN _ wd_492) (hw _ wd_1) hd_CL_keepsB ⟨by rw [hR]; exact Nat.le_of_ble_eq_true rfl, by rw [hR]; exact Nat.le_of_ble_eq_true rfl⟩, hw _ wd_493, trivial⟩ hK hP hD hS hST hN hA [] (by decide) rfl rfl hl.1 rfl (Nat.le_of_ble_eq_true rfl) d_BR_code_46 ⟨by rw [hR]; exact Nat.le_of_ble_eq_true rfl, by rw [hR]; exact Nat.le_of_ble_eq_true rfl⟩) hP hD hS hA [] [0, 1, 2, 3] rfl rfl (by decide) (by decide) (fun _ H locs hp46 hP hD hS => ?_)
      have hP : va_P D classes [(h0, .inr (4, [.ref q1, .ref q2, .ref q3, .int (nI pn), .int (nI ((cnt th k) + 1))])), (q1, .inl (tc 0, np, .inl pl)), (q2, .inl (tc 0, nc, .inl (upd (cdF th pl co k) (cnt th k) (coF (wnF pl (k + 1)) (nI 91))))), (q3, .inl (tc 0, nc, .inl pd))] H := hP
      have hD : va_D A [(h0, .inr (4, [.ref q1, .ref q2, .ref q3, .int (nI pn), .int (nI ((cnt th k) + 1))])), (q1, .inl (tc 0, np, .inl pl)), (q2, .inl (tc 0, nc, .inl (upd (cdF th pl co k) (cnt th k) (coF (wnF pl (k + 1)) (nI 91))))), (q3, .inl (tc 0, nc, .inl pd))] := hD
      refine W.widen (k := 0) (n := 0) (Nat.le_of_ble_eq_true rfl) (Nat.le_of_ble_eq_true rfl) ?_
      refine W.eq (g2 := F0 m 49 ls [.int (kpB th k)]) rfl ?_
      refine lv_if_eq (tgt := 62) hx hb d_BR_code_49 (by decide) (fun h49 => ?_) (fun h49 => ?_)
      · rw [if_pos h49] at hcl
        refine lv_iinc (k := 1) (v := nI (k + 1)) (lv' := [(3, .int (nI (k + 1))), (2, .int (wnF pl (k + 1))), (0, .ref h0), (1, .int (th))]) hx hb d_BR_code_62 hl rfl (k_incN _ 1) (by decide) rfl (fun ls hl => ?_)
        refine lv_goto (tgt := 4) hx hb d_BR_code_65 (by decide) ?_
        exact ih_k (by omega)   H locs ls (lv_sub hl [0, 1, 2, 3] rfl) (by first | (rw [cd00 pl co h31 h49, cn00 h31 h49]; exact hP) | (rw [cd01 pl co h31 h49, cn01 h31 h49]; exact hP) | (rw [cd10 pl co h31 h49, cn10 h31 h49]; exact hP) | (rw [cd11 pl co h31 h49, cn11 h31 h49]; exact hP)) (k_Ds hD [0, 1, 2, 3] (by decide) rfl) hS
      · rw [if_neg h49] at hcl
        refine lv_aload_n hx hb d_BR_code_52 rfl (lv_at hl 2 rfl) ?_
        refine lv_iload_n hx hb d_BR_code_53 rfl (lv_at hl 0 rfl) ?_
        refine lv_bipush (v := nI 121) hx hb d_BR_code_54 (by decide) ?_
        refine k_calli (wr := [(h0, .inr (4, [.ref q1, .ref q2, .ref q3, .int (nI pn), .int (nI ((cnt th k) + 1))])), (q1, .inl (tc 0, np, .inl pl)), (q2, .inl (tc 0, nc, .inl (upd (cdF th pl co k) (cnt th k) (coF (wnF pl (k + 1)) (nI 91))))), (q3, .inl (tc 0, nc, .inl pd))]) (k_runSN (As := [.int (wnF pl (k + 1)), .int (nI 121)]) (rest := [.ref h0]) (wc := []) ⟨hx, hb, hml, hown, hts⟩ (c_CL_codeOf l D tc tb (wnF pl (k + 1)) (nI 121)  H.size) ⟨va_cnB 2 hts (k_good wd_186) rfl rfl rfl (hN _ wd_487) (hw _ wd_1) hd_CL_codeOf ⟨by rw [hR]; exact Nat.le_of_ble_eq_true rfl, by rw [hR]; exact Nat.le_of_ble_eq_true rfl⟩, hw _ wd_185, trivial⟩ hK hP hD hS hST hN hA [] (by decide) rfl rfl hl.1 rfl (Nat.le_of_ble_eq_true rfl) d_BR_code_56 ⟨by rw [hR]; exact Nat.le_of_ble_eq_true rfl, by rw [hR]; exact Nat.le_of_ble_eq_true rfl⟩) hP hD hS hA [] [0, 1, 2, 3] rfl rfl (by decide) (by decide) (fun _ H locs hp56 hP hD hS => ?_)
        have hP : va_P D classes [(h0, .inr (4, [.ref q1, .ref q2, .ref q3, .int (nI pn), .int (nI ((cnt th k) + 1))])), (q1, .inl (tc 0, np, .inl pl)), (q2, .inl (tc 0, nc, .inl (upd (cdF th pl co k) (cnt th k) (coF (wnF pl (k + 1)) (nI 91))))), (q3, .inl (tc 0, nc, .inl pd))] H := hP
        have hD : va_D A [(h0, .inr (4, [.ref q1, .ref q2, .ref q3, .int (nI pn), .int (nI ((cnt th k) + 1))])), (q1, .inl (tc 0, np, .inl pl)), (q2, .inl (tc 0, nc, .inl (upd (cdF th pl co k) (cnt th k) (coF (wnF pl (k + 1)) (nI 91))))), (q3, .inl (tc 0, nc, .inl pd))] := hD
        refine W.widen (k := 0) (n := 0) (Nat.le_of_ble_eq_true rfl) (Nat.le_of_ble_eq_true rfl) ?_
        refine W.eq (g2 := F0 m 59 ls [.int (coF (wnF pl (k + 1)) (nI 121)), .ref h0]) rfl ?_
        refine k_callv (wr := []) (k_runV (As := [.int (coF (wnF pl (k + 1)) (nI 121))]) (rest := []) (wc := [(h0, .inr (4, [.ref q1, .ref q2, .ref q3, .int (nI pn), .int (nI (((cnt th k) + 1)))])), (q1, .inl (tc 0, np, .inl pl)), (q2, .inl (tc 0, nc, .inl (upd (cdF th pl co k) (cnt th k) (coF (wnF pl (k + 1)) (nI 91))))), (q3, .inl (tc 0, nc, .inl pd))]) ⟨hx, hb, hml, hown, hts⟩ (c_BR_appendCoded l D tc tb h0 q1 q2 q3 np nc pl (upd (cdF th pl co k) (cnt th k) (coF (wnF pl (k + 1)) (nI 91))) pd pn ((cnt th k) + 1) (coF (wnF pl (k + 1)) (nI 121)) (by omega) (by omega) H.size) (cwV 1 hts (k_goodV wd_488 wd_490 wd_m8 wd_5 wd_491) rfl rfl rfl ⟨rfl, hd_BR_appendCoded⟩ ⟨by rw [hR]; exact Nat.le_of_ble_eq_true rfl, by rw [hR]; exact Nat.le_of_ble_eq_true rfl⟩) hK hP hD hS hST hN hA [0, 1, 2, 3] (by decide) rfl 0 rfl rfl rfl rfl hl.1 rfl (Nat.le_of_ble_eq_true rfl) d_BR_code_59 ⟨by rw [hR]; exact Nat.le_of_ble_eq_true rfl, by rw [hR]; exact Nat.le_of_ble_eq_true rfl⟩) hP hD hS hA [0, 1, 2, 3] [] rfl rfl (by decide) (by decide) (fun _ H locs hp59 hP hD hS => ?_)
        have hP : va_P D classes [(h0, .inr (4, [.ref q1, .ref q2, .ref q3, .int (nI pn), .int (nI (((cnt th k) + 1) + 1))])), (q1, .inl (tc 0, np, .inl pl)), (q2, .inl (tc 0, nc, .inl (upd (upd (cdF th pl co k) (cnt th k) (coF (wnF pl (k + 1)) (nI 91))) ((cnt th k) + 1) (coF (wnF pl (k + 1)) (nI 121))))), (q3, .inl (tc 0, nc, .inl pd))] H := hP
        have hD : va_D A [(h0, .inr (4, [.ref q1, .ref q2, .ref q3, .int (nI pn), .int (nI (((cnt th k) + 1) + 1))])), (q1, .inl (tc 0, np, .inl pl)), (q2, .inl (tc 0, nc, .inl (upd (upd (cdF th pl co k) (cnt th k) (coF (wnF pl (k + 1)) (nI 91))) ((cnt th k) + 1) (coF (wnF pl (k + 1)) (nI 121))))), (q3, .inl (tc 0, nc, .inl pd))] := hD
        refine W.widen (k := 0) (n := 0) (Nat.le_of_ble_eq_true rfl) (Nat.le_of_ble_eq_true rfl) ?_
        refine W.eq (g2 := F0 m 62 ls []) rfl ?_
        refine lv_iinc (k := 1) (v := nI (k + 1)) (lv' := [(3, .int (nI (k + 1))), (2, .int (wnF pl (k + 1))), (0, .ref h0), (1, .int (th))]) hx hb d_BR_code_62 hl rfl (k_incN _ 1) (by decide) rfl (fun ls hl => ?_)
        refine lv_goto (tgt := 4) hx hb d_BR_code_65 (by decide) ?_
        exact ih_k (by omega)   H locs ls (lv_sub hl [0, 1, 2, 3] rfl) (by first | (rw [cd00 pl co h31 h49, cn00 h31 h49]; exact hP) | (rw [cd01 pl co h31 h49, cn01 h31 h49]; exact hP) | (rw [cd10 pl co h31 h49, cn10 h31 h49]; exact hP) | (rw [cd11 pl co h31 h49, cn11 h31 h49]; exact hP)) (k_Ds hD [0, 1, 2, 3] (by decide) rfl) hS
set_option maxHeartbeats 4000000 in
set_option maxRecDepth 100000 in
theorem c_BR_interleave_1 (l : Launch) (D : va_G) (tc : Nat → ClassId) (tb : Nat → Nat) (h0 : Nat) (q1 : Nat) (q2 : Nat) (q3 : Nat) (np : Nat) (nc : Nat) (pl : Nat → Int32) (co : Nat → Int32) (pd : Nat → Int32) (pn : Nat) (cn : Nat) (sb : Nat) (hcn : cn = 12 * sb) (hc : cn ≤ nc) (hn : nc < 1000) : Mv l D tc tb y_BR_interleave prog_2_method_9_code 5 none ({ frames := 1, cells := 0, slots := 0, locals := 24 }) [.ref h0, .int (nI 1)] [(h0, .inr (4, [.ref q1, .ref q2, .ref q3, .int (nI pn), .int (nI cn)])), (q1, .inl (tc 0, np, .inl pl)), (q2, .inl (tc 0, nc, .inl co)), (q3, .inl (tc 0, nc, .inl pd))] (fun _ : Unit => True) (fun _ : Unit => [(h0, .inr (4, [.ref q1, .ref q2, .ref q3, .int (nI pn), .int (nI cn)])), (q1, .inl (tc 0, np, .inl pl)), (q2, .inl (tc 0, nc, .inl co)), (q3, .inl (tc 0, nc, .inl (ilB 12 1 co pd sb)))]) := by
  refine Mv.go (by decide) (Nat.le_of_ble_eq_true rfl) ?_
  intro p e s m below meth c A ls R args Q C
  obtain ⟨hx, hb, hr, hts, hown, hlk, hml, hin, hA, hST, hN, hK, hP, hD, hS, hl, hR, hQ⟩ := C
  have hw : ∀ w ∈ lw_g, w.before args s = true := fun w h => hts w (List.mem_cons_of_mem _ h)
  have hl : lv_has ls 5 [(0, .ref h0), (1, .int (nI 1))] := hl
  refine lv_bipush (v := nI 12) hx hb d_BR_interleave_0 (by decide) ?_
  refine lv_iload_n hx hb d_BR_interleave_2 rfl (lv_at hl 1 rfl) ?_
  refine k_imul hx hb d_BR_interleave_3 ?_
  refine lv_istore_n (lv' := [(2, .int (nI 12)), (0, .ref h0), (1, .int (nI 1))]) hx hb d_BR_interleave_4 rfl hl (by decide) rfl (fun ls hl => ?_)
  refine lv_iconst (v := nI 0) hx hb d_BR_interleave_5 (by decide) ?_
  refine lv_istore_n (lv' := [(3, .int (nI 0)), (2, .int (nI 12)), (0, .ref h0), (1, .int (nI 1))]) hx hb d_BR_interleave_6 rfl hl (by decide) rfl (fun ls hl => ?_)
  refine k_loop (P := fun b : Nat => ∀ (H : Heap) (locs : List Loc) (ls : Array Slot), lv_has ls 5 [(3, .int (nI (12 * b))), (2, .int (nI 12)), (0, .ref h0), (1, .int (nI 1))] → va_P D classes [(h0, .inr (4, [.ref q1, .ref q2, .ref q3, .int (nI pn), .int (nI cn)])), (q1, .inl (tc 0, np, .inl pl)), (q2, .inl (tc 0, nc, .inl co)), (q3, .inl (tc 0, nc, .inl (ilB 12 1 co pd b)))] H → va_D A [(h0, .inr (4, [.ref q1, .ref q2, .ref q3, .int (nI pn), .int (nI cn)])), (q1, .inl (tc 0, np, .inl pl)), (q2, .inl (tc 0, nc, .inl co)), (q3, .inl (tc 0, nc, .inl (ilB 12 1 co pd b)))] → va_S A s.heap H locs → W p l e R s m args below meth c H locs 0 0 Q (F0 m 7 ls [])) (sb) (fun b hk_b ih_b  H locs ls hl hP hD hS => ?_) (0) (by omega)   s.heap [] ls (lv_sub hl [0, 1, 2, 3] rfl) (by exact hP) (k_Ds hD [0, 1, 2, 3] (by decide) rfl) hS
  refine lv_iload_n hx hb d_BR_interleave_7 rfl (lv_at hl 0 rfl) ?_
  refine lv_iload_n hx hb d_BR_interleave_8 rfl (lv_at hl 1 rfl) ?_
  refine k_iadd hx hb d_BR_interleave_9 ?_
  refine lv_aload_n hx hb d_BR_interleave_10 rfl (lv_at hl 2 rfl) ?_
  refine k_get hx hb hw uw_BR hown hK hP 0 rfl rfl 4 (by decide) (hw _ wd_118) rfl d_BR_interleave_11 ?_
  refine k_icmp_gt (tgt := 61) hx hb d_BR_interleave_14 (by decide) (by omega) (by omega) (fun h14 => ?_) (fun h14 => ?_)
  · obtain rfl : sb = b := by omega
    rw [hQ]
    exact k_vret () hx hb hr hlk hK hP hD hS [0, 1, 2, 3] (by decide) rfl trivial d_BR_interleave_61
  · refine lv_iconst (v := nI 0) hx hb d_BR_interleave_17 (by decide) ?_
    refine lv_istore (lv' := [(4, .int (nI 0)), (3, .int (nI (12 * b))), (2, .int (nI 12)), (0, .ref h0), (1, .int (nI 1))]) hx hb d_BR_interleave_18 hl (by decide) rfl (fun ls hl => ?_)
    refine k_loop (P := fun k : Nat => ∀ (H : Heap) (locs : List Loc) (ls : Array Slot), lv_has ls 5 [(4, .int (nI k)), (3, .int (nI (12 * b))), (2, .int (nI 12)), (0, .ref h0), (1, .int (nI 1))] → va_P D classes [(h0, .inr (4, [.ref q1, .ref q2, .ref q3, .int (nI pn), .int (nI cn)])), (q1, .inl (tc 0, np, .inl pl)), (q2, .inl (tc 0, nc, .inl co)), (q3, .inl (tc 0, nc, .inl (ilK 12 1 co b (ilB 12 1 co pd b) k)))] H → va_D A [(h0, .inr (4, [.ref q1, .ref q2, .ref q3, .int (nI pn), .int (nI cn)])), (q1, .inl (tc 0, np, .inl pl)), (q2, .inl (tc 0, nc, .inl co)), (q3, .inl (tc 0, nc, .inl (ilK 12 1 co b (ilB 12 1 co pd b) k)))] → va_S A s.heap H locs → W p l e R s m args below meth c H locs 0 0 Q (F0 m 20 ls [])) (12) (fun k hk_k ih_k  H locs ls hl hP hD hS => ?_) (0) (by omega)   H locs ls (lv_sub hl [0, 1, 2, 3, 4] rfl) (by exact hP) (k_Ds hD [0, 1, 2, 3] (by decide) rfl) hS
    refine lv_iload hx hb d_BR_interleave_20 (lv_at hl 0 rfl) ?_
    refine lv_iload_n hx hb d_BR_interleave_22 rfl (lv_at hl 2 rfl) ?_
    refine k_icmp_ge (tgt := 54) hx hb d_BR_interleave_23 (by decide) (by omega) (by omega) (fun h23 => ?_) (fun h23 => ?_)
    · obtain rfl : 12 = k := by omega
      refine lv_iload_n hx hb d_BR_interleave_54 rfl (lv_at hl 1 rfl) ?_
      refine lv_iload_n hx hb d_BR_interleave_55 rfl (lv_at hl 2 rfl) ?_
      refine k_iadd hx hb d_BR_interleave_56 ?_
      refine k_topi (y := nI (12 * (b + 1))) (congrArg nI (by omega)) ?_
      refine lv_istore_n (lv' := [(3, .int (nI (12 * (b + 1)))), (4, .int (nI 12)), (2, .int (nI 12)), (0, .ref h0), (1, .int (nI 1))]) hx hb d_BR_interleave_57 rfl hl (by decide) rfl (fun ls hl => ?_)
      refine lv_goto (tgt := 7) hx hb d_BR_interleave_58 (by decide) ?_
      exact ih_b (by omega)   H locs ls (lv_sub hl [0, 2, 3, 4] rfl) (by exact hP) (k_Ds hD [0, 1, 2, 3] (by decide) rfl) hS
    · have hpl := place1 k h23
      refine lv_aload_n hx hb d_BR_interleave_26 rfl (lv_at hl 3 rfl) ?_
      refine k_get hx hb hw uw_BR hown hK hP 0 rfl rfl 2 (by decide) (hw _ wd_112) rfl d_BR_interleave_27 ?_
      refine lv_iload_n hx hb d_BR_interleave_30 rfl (lv_at hl 1 rfl) ?_
      refine lv_iload hx hb d_BR_interleave_31 (lv_at hl 0 rfl) ?_
      refine lv_iload_n hx hb d_BR_interleave_33 rfl (lv_at hl 4 rfl) ?_
      refine k_calli (wr := [(h0, .inr (4, [.ref q1, .ref q2, .ref q3, .int (nI pn), .int (nI cn)])), (q1, .inl (tc 0, np, .inl pl)), (q2, .inl (tc 0, nc, .inl co)), (q3, .inl (tc 0, nc, .inl (ilK 12 1 co b (ilB 12 1 co pd b) k)))]) (k_runSN (As := [.int (nI k), .int (nI 1)]) (rest := [.int (nI (12 * b)), .ref q3]) (wc := []) ⟨hx, hb, hml, hown, hts⟩ (c_CL_placeOf_1 l D tc tb k (by omega) H.size) ⟨va_cnB 2 hts (k_good wd_503) rfl rfl rfl (hN _ wd_501) (hw _ wd_1) hd_CL_placeOf ⟨by rw [hR]; exact Nat.le_of_ble_eq_true rfl, by rw [hR]; exact Nat.le_of_ble_eq_true rfl⟩, hw _ wd_502, trivial⟩ hK hP hD hS hST hN hA [] (by decide) rfl rfl hl.1 rfl (Nat.le_of_ble_eq_true rfl) d_BR_interleave_34 ⟨by rw [hR]; exact Nat.le_of_ble_eq_true rfl, by rw [hR]; exact Nat.le_of_ble_eq_true rfl⟩) hP hD hS hA [] [0, 1, 2, 3] rfl rfl (by decide) (by decide) (fun _ H locs hp34 hP hD hS => ?_)
      have hP : va_P D classes [(h0, .inr (4, [.ref q1, .ref q2, .ref q3, .int (nI pn), .int (nI cn)])), (q1, .inl (tc 0, np, .inl pl)), (q2, .inl (tc 0, nc, .inl co)), (q3, .inl (tc 0, nc, .inl (ilK 12 1 co b (ilB 12 1 co pd b) k)))] H := hP
      have hD : va_D A [(h0, .inr (4, [.ref q1, .ref q2, .ref q3, .int (nI pn), .int (nI cn)])), (q1, .inl (tc 0, np, .inl pl)), (q2, .inl (tc 0, nc, .inl co)), (q3, .inl (tc 0, nc, .inl (ilK 12 1 co b (ilB 12 1 co pd b) k)))] := hD
      refine W.widen (k := 0) (n := 0) (Nat.le_of_ble_eq_true rfl) (Nat.le_of_ble_eq_true rfl) ?_
      refine W.eq (g2 := F0 m 37 ls [.int (nI (placeN k 1)), .int (nI (12 * b)), .ref q3]) rfl ?_
      refine k_iadd hx hb d_BR_interleave_37 ?_
      refine lv_aload_n hx hb d_BR_interleave_38 rfl (lv_at hl 3 rfl) ?_
      refine k_get hx hb hw uw_BR hown hK hP 0 rfl rfl 1 (by decide) (hw _ wd_110) rfl d_BR_interleave_39 ?_
      refine lv_iload_n hx hb d_BR_interleave_42 rfl (lv_at hl 1 rfl) ?_
      refine lv_iload hx hb d_BR_interleave_43 (lv_at hl 0 rfl) ?_
      refine k_iadd hx hb d_BR_interleave_45 ?_
      refine k_iald hx hb hK hP 2 0 rfl rfl (by omega) (by omega) d_BR_interleave_46 ?_
      refine k_iast (ws' := [(h0, .inr (4, [.ref q1, .ref q2, .ref q3, .int (nI pn), .int (nI cn)])), (q1, .inl (tc 0, np, .inl pl)), (q2, .inl (tc 0, nc, .inl co)), (q3, .inl (tc 0, nc, .inl (upd (ilK 12 1 co b (ilB 12 1 co pd b) k) ((12 * b) + (placeN k 1)) (co ((12 * b) + k)))))]) hx hb hK hP hD hS 3 0 rfl rfl (by omega) (by omega) d_BR_interleave_47 rfl (fun H locs hP hD hS => ?_)
      refine lv_iinc (k := 0) (v := nI (k + 1)) (lv' := [(4, .int (nI (k + 1))), (3, .int (nI (12 * b))), (2, .int (nI 12)), (0, .ref h0), (1, .int (nI 1))]) hx hb d_BR_interleave_48 hl rfl (k_incN _ 1) (by decide) rfl (fun ls hl => ?_)
      refine lv_goto (tgt := 20) hx hb d_BR_interleave_51 (by decide) ?_
      exact ih_k (by omega)   H locs ls (lv_sub hl [0, 1, 2, 3, 4] rfl) (by exact hP) (k_Ds hD [0, 1, 2, 3] (by decide) rfl) hS
set_option maxHeartbeats 4000000 in
set_option maxRecDepth 100000 in
theorem c_BR_interleave_2 (l : Launch) (D : va_G) (tc : Nat → ClassId) (tb : Nat → Nat) (h0 : Nat) (q1 : Nat) (q2 : Nat) (q3 : Nat) (np : Nat) (nc : Nat) (pl : Nat → Int32) (co : Nat → Int32) (pd : Nat → Int32) (pn : Nat) (cn : Nat) (sb : Nat) (hcn : cn = 24 * sb) (hc : cn ≤ nc) (hn : nc < 1000) : Mv l D tc tb y_BR_interleave prog_2_method_9_code 5 none ({ frames := 1, cells := 0, slots := 0, locals := 24 }) [.ref h0, .int (nI 2)] [(h0, .inr (4, [.ref q1, .ref q2, .ref q3, .int (nI pn), .int (nI cn)])), (q1, .inl (tc 0, np, .inl pl)), (q2, .inl (tc 0, nc, .inl co)), (q3, .inl (tc 0, nc, .inl pd))] (fun _ : Unit => True) (fun _ : Unit => [(h0, .inr (4, [.ref q1, .ref q2, .ref q3, .int (nI pn), .int (nI cn)])), (q1, .inl (tc 0, np, .inl pl)), (q2, .inl (tc 0, nc, .inl co)), (q3, .inl (tc 0, nc, .inl (ilB 24 2 co pd sb)))]) := by
  refine Mv.go (by decide) (Nat.le_of_ble_eq_true rfl) ?_
  intro p e s m below meth c A ls R args Q C
  obtain ⟨hx, hb, hr, hts, hown, hlk, hml, hin, hA, hST, hN, hK, hP, hD, hS, hl, hR, hQ⟩ := C
  have hw : ∀ w ∈ lw_g, w.before args s = true := fun w h => hts w (List.mem_cons_of_mem _ h)
  have hl : lv_has ls 5 [(0, .ref h0), (1, .int (nI 2))] := hl
  refine lv_bipush (v := nI 12) hx hb d_BR_interleave_0 (by decide) ?_
  refine lv_iload_n hx hb d_BR_interleave_2 rfl (lv_at hl 1 rfl) ?_
  refine k_imul hx hb d_BR_interleave_3 ?_
  refine lv_istore_n (lv' := [(2, .int (nI 24)), (0, .ref h0), (1, .int (nI 2))]) hx hb d_BR_interleave_4 rfl hl (by decide) rfl (fun ls hl => ?_)
  refine lv_iconst (v := nI 0) hx hb d_BR_interleave_5 (by decide) ?_
  refine lv_istore_n (lv' := [(3, .int (nI 0)), (2, .int (nI 24)), (0, .ref h0), (1, .int (nI 2))]) hx hb d_BR_interleave_6 rfl hl (by decide) rfl (fun ls hl => ?_)
  refine k_loop (P := fun b : Nat => ∀ (H : Heap) (locs : List Loc) (ls : Array Slot), lv_has ls 5 [(3, .int (nI (24 * b))), (2, .int (nI 24)), (0, .ref h0), (1, .int (nI 2))] → va_P D classes [(h0, .inr (4, [.ref q1, .ref q2, .ref q3, .int (nI pn), .int (nI cn)])), (q1, .inl (tc 0, np, .inl pl)), (q2, .inl (tc 0, nc, .inl co)), (q3, .inl (tc 0, nc, .inl (ilB 24 2 co pd b)))] H → va_D A [(h0, .inr (4, [.ref q1, .ref q2, .ref q3, .int (nI pn), .int (nI cn)])), (q1, .inl (tc 0, np, .inl pl)), (q2, .inl (tc 0, nc, .inl co)), (q3, .inl (tc 0, nc, .inl (ilB 24 2 co pd b)))] → va_S A s.heap H locs → W p l e R s m args below meth c H locs 0 0 Q (F0 m 7 ls [])) (sb) (fun b hk_b ih_b  H locs ls hl hP hD hS => ?_) (0) (by omega)   s.heap [] ls (lv_sub hl [0, 1, 2, 3] rfl) (by exact hP) (k_Ds hD [0, 1, 2, 3] (by decide) rfl) hS
  refine lv_iload_n hx hb d_BR_interleave_7 rfl (lv_at hl 0 rfl) ?_
  refine lv_iload_n hx hb d_BR_interleave_8 rfl (lv_at hl 1 rfl) ?_
  refine k_iadd hx hb d_BR_interleave_9 ?_
  refine lv_aload_n hx hb d_BR_interleave_10 rfl (lv_at hl 2 rfl) ?_
  refine k_get hx hb hw uw_BR hown hK hP 0 rfl rfl 4 (by decide) (hw _ wd_118) rfl d_BR_interleave_11 ?_
  refine k_icmp_gt (tgt := 61) hx hb d_BR_interleave_14 (by decide) (by omega) (by omega) (fun h14 => ?_) (fun h14 => ?_)
  · obtain rfl : sb = b := by omega
    rw [hQ]
    exact k_vret () hx hb hr hlk hK hP hD hS [0, 1, 2, 3] (by decide) rfl trivial d_BR_interleave_61
  · refine lv_iconst (v := nI 0) hx hb d_BR_interleave_17 (by decide) ?_
    refine lv_istore (lv' := [(4, .int (nI 0)), (3, .int (nI (24 * b))), (2, .int (nI 24)), (0, .ref h0), (1, .int (nI 2))]) hx hb d_BR_interleave_18 hl (by decide) rfl (fun ls hl => ?_)
    refine k_loop (P := fun k : Nat => ∀ (H : Heap) (locs : List Loc) (ls : Array Slot), lv_has ls 5 [(4, .int (nI k)), (3, .int (nI (24 * b))), (2, .int (nI 24)), (0, .ref h0), (1, .int (nI 2))] → va_P D classes [(h0, .inr (4, [.ref q1, .ref q2, .ref q3, .int (nI pn), .int (nI cn)])), (q1, .inl (tc 0, np, .inl pl)), (q2, .inl (tc 0, nc, .inl co)), (q3, .inl (tc 0, nc, .inl (ilK 24 2 co b (ilB 24 2 co pd b) k)))] H → va_D A [(h0, .inr (4, [.ref q1, .ref q2, .ref q3, .int (nI pn), .int (nI cn)])), (q1, .inl (tc 0, np, .inl pl)), (q2, .inl (tc 0, nc, .inl co)), (q3, .inl (tc 0, nc, .inl (ilK 24 2 co b (ilB 24 2 co pd b) k)))] → va_S A s.heap H locs → W p l e R s m args below meth c H locs 0 0 Q (F0 m 20 ls [])) (24) (fun k hk_k ih_k  H locs ls hl hP hD hS => ?_) (0) (by omega)   H locs ls (lv_sub hl [0, 1, 2, 3, 4] rfl) (by exact hP) (k_Ds hD [0, 1, 2, 3] (by decide) rfl) hS
    refine lv_iload hx hb d_BR_interleave_20 (lv_at hl 0 rfl) ?_
    refine lv_iload_n hx hb d_BR_interleave_22 rfl (lv_at hl 2 rfl) ?_
    refine k_icmp_ge (tgt := 54) hx hb d_BR_interleave_23 (by decide) (by omega) (by omega) (fun h23 => ?_) (fun h23 => ?_)
    · obtain rfl : 24 = k := by omega
      refine lv_iload_n hx hb d_BR_interleave_54 rfl (lv_at hl 1 rfl) ?_
      refine lv_iload_n hx hb d_BR_interleave_55 rfl (lv_at hl 2 rfl) ?_
      refine k_iadd hx hb d_BR_interleave_56 ?_
      refine k_topi (y := nI (24 * (b + 1))) (congrArg nI (by omega)) ?_
      refine lv_istore_n (lv' := [(3, .int (nI (24 * (b + 1)))), (4, .int (nI 24)), (2, .int (nI 24)), (0, .ref h0), (1, .int (nI 2))]) hx hb d_BR_interleave_57 rfl hl (by decide) rfl (fun ls hl => ?_)
      refine lv_goto (tgt := 7) hx hb d_BR_interleave_58 (by decide) ?_
      exact ih_b (by omega)   H locs ls (lv_sub hl [0, 2, 3, 4] rfl) (by exact hP) (k_Ds hD [0, 1, 2, 3] (by decide) rfl) hS
    · have hpl := place2 k h23
      refine lv_aload_n hx hb d_BR_interleave_26 rfl (lv_at hl 3 rfl) ?_
      refine k_get hx hb hw uw_BR hown hK hP 0 rfl rfl 2 (by decide) (hw _ wd_112) rfl d_BR_interleave_27 ?_
      refine lv_iload_n hx hb d_BR_interleave_30 rfl (lv_at hl 1 rfl) ?_
      refine lv_iload hx hb d_BR_interleave_31 (lv_at hl 0 rfl) ?_
      refine lv_iload_n hx hb d_BR_interleave_33 rfl (lv_at hl 4 rfl) ?_
      refine k_calli (wr := [(h0, .inr (4, [.ref q1, .ref q2, .ref q3, .int (nI pn), .int (nI cn)])), (q1, .inl (tc 0, np, .inl pl)), (q2, .inl (tc 0, nc, .inl co)), (q3, .inl (tc 0, nc, .inl (ilK 24 2 co b (ilB 24 2 co pd b) k)))]) (k_runSN (As := [.int (nI k), .int (nI 2)]) (rest := [.int (nI (24 * b)), .ref q3]) (wc := []) ⟨hx, hb, hml, hown, hts⟩ (c_CL_placeOf_2 l D tc tb k (by omega) H.size) ⟨va_cnB 2 hts (k_good wd_503) rfl rfl rfl (hN _ wd_501) (hw _ wd_1) hd_CL_placeOf ⟨by rw [hR]; exact Nat.le_of_ble_eq_true rfl, by rw [hR]; exact Nat.le_of_ble_eq_true rfl⟩, hw _ wd_502, trivial⟩ hK hP hD hS hST hN hA [] (by decide) rfl rfl hl.1 rfl (Nat.le_of_ble_eq_true rfl) d_BR_interleave_34 ⟨by rw [hR]; exact Nat.le_of_ble_eq_true rfl, by rw [hR]; exact Nat.le_of_ble_eq_true rfl⟩) hP hD hS hA [] [0, 1, 2, 3] rfl rfl (by decide) (by decide) (fun _ H locs hp34 hP hD hS => ?_)
      have hP : va_P D classes [(h0, .inr (4, [.ref q1, .ref q2, .ref q3, .int (nI pn), .int (nI cn)])), (q1, .inl (tc 0, np, .inl pl)), (q2, .inl (tc 0, nc, .inl co)), (q3, .inl (tc 0, nc, .inl (ilK 24 2 co b (ilB 24 2 co pd b) k)))] H := hP
      have hD : va_D A [(h0, .inr (4, [.ref q1, .ref q2, .ref q3, .int (nI pn), .int (nI cn)])), (q1, .inl (tc 0, np, .inl pl)), (q2, .inl (tc 0, nc, .inl co)), (q3, .inl (tc 0, nc, .inl (ilK 24 2 co b (ilB 24 2 co pd b) k)))] := hD
      refine W.widen (k := 0) (n := 0) (Nat.le_of_ble_eq_true rfl) (Nat.le_of_ble_eq_true rfl) ?_
      refine W.eq (g2 := F0 m 37 ls [.int (nI (placeN k 2)), .int (nI (24 * b)), .ref q3]) rfl ?_
      refine k_iadd hx hb d_BR_interleave_37 ?_
      refine lv_aload_n hx hb d_BR_interleave_38 rfl (lv_at hl 3 rfl) ?_
      refine k_get hx hb hw uw_BR hown hK hP 0 rfl rfl 1 (by decide) (hw _ wd_110) rfl d_BR_interleave_39 ?_
      refine lv_iload_n hx hb d_BR_interleave_42 rfl (lv_at hl 1 rfl) ?_
      refine lv_iload hx hb d_BR_interleave_43 (lv_at hl 0 rfl) ?_
      refine k_iadd hx hb d_BR_interleave_45 ?_
      refine k_iald hx hb hK hP 2 0 rfl rfl (by omega) (by omega) d_BR_interleave_46 ?_
      refine k_iast (ws' := [(h0, .inr (4, [.ref q1, .ref q2, .ref q3, .int (nI pn), .int (nI cn)])), (q1, .inl (tc 0, np, .inl pl)), (q2, .inl (tc 0, nc, .inl co)), (q3, .inl (tc 0, nc, .inl (upd (ilK 24 2 co b (ilB 24 2 co pd b) k) ((24 * b) + (placeN k 2)) (co ((24 * b) + k)))))]) hx hb hK hP hD hS 3 0 rfl rfl (by omega) (by omega) d_BR_interleave_47 rfl (fun H locs hP hD hS => ?_)
      refine lv_iinc (k := 0) (v := nI (k + 1)) (lv' := [(4, .int (nI (k + 1))), (3, .int (nI (24 * b))), (2, .int (nI 24)), (0, .ref h0), (1, .int (nI 2))]) hx hb d_BR_interleave_48 hl rfl (k_incN _ 1) (by decide) rfl (fun ls hl => ?_)
      refine lv_goto (tgt := 20) hx hb d_BR_interleave_51 (by decide) ?_
      exact ih_k (by omega)   H locs ls (lv_sub hl [0, 1, 2, 3, 4] rfl) (by exact hP) (k_Ds hD [0, 1, 2, 3] (by decide) rfl) hS
set_option maxHeartbeats 4000000 in
set_option maxRecDepth 100000 in
theorem c_BR_interleave_4 (l : Launch) (D : va_G) (tc : Nat → ClassId) (tb : Nat → Nat) (h0 : Nat) (q1 : Nat) (q2 : Nat) (q3 : Nat) (np : Nat) (nc : Nat) (pl : Nat → Int32) (co : Nat → Int32) (pd : Nat → Int32) (pn : Nat) (cn : Nat) (sb : Nat) (hcn : cn = 48 * sb) (hc : cn ≤ nc) (hn : nc < 1000) : Mv l D tc tb y_BR_interleave prog_2_method_9_code 5 none ({ frames := 1, cells := 0, slots := 0, locals := 24 }) [.ref h0, .int (nI 4)] [(h0, .inr (4, [.ref q1, .ref q2, .ref q3, .int (nI pn), .int (nI cn)])), (q1, .inl (tc 0, np, .inl pl)), (q2, .inl (tc 0, nc, .inl co)), (q3, .inl (tc 0, nc, .inl pd))] (fun _ : Unit => True) (fun _ : Unit => [(h0, .inr (4, [.ref q1, .ref q2, .ref q3, .int (nI pn), .int (nI cn)])), (q1, .inl (tc 0, np, .inl pl)), (q2, .inl (tc 0, nc, .inl co)), (q3, .inl (tc 0, nc, .inl (ilB 48 4 co pd sb)))]) := by
  refine Mv.go (by decide) (Nat.le_of_ble_eq_true rfl) ?_
  intro p e s m below meth c A ls R args Q C
  obtain ⟨hx, hb, hr, hts, hown, hlk, hml, hin, hA, hST, hN, hK, hP, hD, hS, hl, hR, hQ⟩ := C
  have hw : ∀ w ∈ lw_g, w.before args s = true := fun w h => hts w (List.mem_cons_of_mem _ h)
  have hl : lv_has ls 5 [(0, .ref h0), (1, .int (nI 4))] := hl
  refine lv_bipush (v := nI 12) hx hb d_BR_interleave_0 (by decide) ?_
  refine lv_iload_n hx hb d_BR_interleave_2 rfl (lv_at hl 1 rfl) ?_
  refine k_imul hx hb d_BR_interleave_3 ?_
  refine lv_istore_n (lv' := [(2, .int (nI 48)), (0, .ref h0), (1, .int (nI 4))]) hx hb d_BR_interleave_4 rfl hl (by decide) rfl (fun ls hl => ?_)
  refine lv_iconst (v := nI 0) hx hb d_BR_interleave_5 (by decide) ?_
  refine lv_istore_n (lv' := [(3, .int (nI 0)), (2, .int (nI 48)), (0, .ref h0), (1, .int (nI 4))]) hx hb d_BR_interleave_6 rfl hl (by decide) rfl (fun ls hl => ?_)
  refine k_loop (P := fun b : Nat => ∀ (H : Heap) (locs : List Loc) (ls : Array Slot), lv_has ls 5 [(3, .int (nI (48 * b))), (2, .int (nI 48)), (0, .ref h0), (1, .int (nI 4))] → va_P D classes [(h0, .inr (4, [.ref q1, .ref q2, .ref q3, .int (nI pn), .int (nI cn)])), (q1, .inl (tc 0, np, .inl pl)), (q2, .inl (tc 0, nc, .inl co)), (q3, .inl (tc 0, nc, .inl (ilB 48 4 co pd b)))] H → va_D A [(h0, .inr (4, [.ref q1, .ref q2, .ref q3, .int (nI pn), .int (nI cn)])), (q1, .inl (tc 0, np, .inl pl)), (q2, .inl (tc 0, nc, .inl co)), (q3, .inl (tc 0, nc, .inl (ilB 48 4 co pd b)))] → va_S A s.heap H locs → W p l e R s m args below meth c H locs 0 0 Q (F0 m 7 ls [])) (sb) (fun b hk_b ih_b  H locs ls hl hP hD hS => ?_) (0) (by omega)   s.heap [] ls (lv_sub hl [0, 1, 2, 3] rfl) (by exact hP) (k_Ds hD [0, 1, 2, 3] (by decide) rfl) hS
  refine lv_iload_n hx hb d_BR_interleave_7 rfl (lv_at hl 0 rfl) ?_
  refine lv_iload_n hx hb d_BR_interleave_8 rfl (lv_at hl 1 rfl) ?_
  refine k_iadd hx hb d_BR_interleave_9 ?_
  refine lv_aload_n hx hb d_BR_interleave_10 rfl (lv_at hl 2 rfl) ?_
  refine k_get hx hb hw uw_BR hown hK hP 0 rfl rfl 4 (by decide) (hw _ wd_118) rfl d_BR_interleave_11 ?_
  refine k_icmp_gt (tgt := 61) hx hb d_BR_interleave_14 (by decide) (by omega) (by omega) (fun h14 => ?_) (fun h14 => ?_)
  · obtain rfl : sb = b := by omega
    rw [hQ]
    exact k_vret () hx hb hr hlk hK hP hD hS [0, 1, 2, 3] (by decide) rfl trivial d_BR_interleave_61
  · refine lv_iconst (v := nI 0) hx hb d_BR_interleave_17 (by decide) ?_
    refine lv_istore (lv' := [(4, .int (nI 0)), (3, .int (nI (48 * b))), (2, .int (nI 48)), (0, .ref h0), (1, .int (nI 4))]) hx hb d_BR_interleave_18 hl (by decide) rfl (fun ls hl => ?_)
    refine k_loop (P := fun k : Nat => ∀ (H : Heap) (locs : List Loc) (ls : Array Slot), lv_has ls 5 [(4, .int (nI k)), (3, .int (nI (48 * b))), (2, .int (nI 48)), (0, .ref h0), (1, .int (nI 4))] → va_P D classes [(h0, .inr (4, [.ref q1, .ref q2, .ref q3, .int (nI pn), .int (nI cn)])), (q1, .inl (tc 0, np, .inl pl)), (q2, .inl (tc 0, nc, .inl co)), (q3, .inl (tc 0, nc, .inl (ilK 48 4 co b (ilB 48 4 co pd b) k)))] H → va_D A [(h0, .inr (4, [.ref q1, .ref q2, .ref q3, .int (nI pn), .int (nI cn)])), (q1, .inl (tc 0, np, .inl pl)), (q2, .inl (tc 0, nc, .inl co)), (q3, .inl (tc 0, nc, .inl (ilK 48 4 co b (ilB 48 4 co pd b) k)))] → va_S A s.heap H locs → W p l e R s m args below meth c H locs 0 0 Q (F0 m 20 ls [])) (48) (fun k hk_k ih_k  H locs ls hl hP hD hS => ?_) (0) (by omega)   H locs ls (lv_sub hl [0, 1, 2, 3, 4] rfl) (by exact hP) (k_Ds hD [0, 1, 2, 3] (by decide) rfl) hS
    refine lv_iload hx hb d_BR_interleave_20 (lv_at hl 0 rfl) ?_
    refine lv_iload_n hx hb d_BR_interleave_22 rfl (lv_at hl 2 rfl) ?_
    refine k_icmp_ge (tgt := 54) hx hb d_BR_interleave_23 (by decide) (by omega) (by omega) (fun h23 => ?_) (fun h23 => ?_)
    · obtain rfl : 48 = k := by omega
      refine lv_iload_n hx hb d_BR_interleave_54 rfl (lv_at hl 1 rfl) ?_
      refine lv_iload_n hx hb d_BR_interleave_55 rfl (lv_at hl 2 rfl) ?_
      refine k_iadd hx hb d_BR_interleave_56 ?_
      refine k_topi (y := nI (48 * (b + 1))) (congrArg nI (by omega)) ?_
      refine lv_istore_n (lv' := [(3, .int (nI (48 * (b + 1)))), (4, .int (nI 48)), (2, .int (nI 48)), (0, .ref h0), (1, .int (nI 4))]) hx hb d_BR_interleave_57 rfl hl (by decide) rfl (fun ls hl => ?_)
      refine lv_goto (tgt := 7) hx hb d_BR_interleave_58 (by decide) ?_
      exact ih_b (by omega)   H locs ls (lv_sub hl [0, 2, 3, 4] rfl) (by exact hP) (k_Ds hD [0, 1, 2, 3] (by decide) rfl) hS
    · have hpl := place4 k h23
      refine lv_aload_n hx hb d_BR_interleave_26 rfl (lv_at hl 3 rfl) ?_
      refine k_get hx hb hw uw_BR hown hK hP 0 rfl rfl 2 (by decide) (hw _ wd_112) rfl d_BR_interleave_27 ?_
      refine lv_iload_n hx hb d_BR_interleave_30 rfl (lv_at hl 1 rfl) ?_
      refine lv_iload hx hb d_BR_interleave_31 (lv_at hl 0 rfl) ?_
      refine lv_iload_n hx hb d_BR_interleave_33 rfl (lv_at hl 4 rfl) ?_
      refine k_calli (wr := [(h0, .inr (4, [.ref q1, .ref q2, .ref q3, .int (nI pn), .int (nI cn)])), (q1, .inl (tc 0, np, .inl pl)), (q2, .inl (tc 0, nc, .inl co)), (q3, .inl (tc 0, nc, .inl (ilK 48 4 co b (ilB 48 4 co pd b) k)))]) (k_runSN (As := [.int (nI k), .int (nI 4)]) (rest := [.int (nI (48 * b)), .ref q3]) (wc := []) ⟨hx, hb, hml, hown, hts⟩ (c_CL_placeOf_4 l D tc tb k (by omega) H.size) ⟨va_cnB 2 hts (k_good wd_503) rfl rfl rfl (hN _ wd_501) (hw _ wd_1) hd_CL_placeOf ⟨by rw [hR]; exact Nat.le_of_ble_eq_true rfl, by rw [hR]; exact Nat.le_of_ble_eq_true rfl⟩, hw _ wd_502, trivial⟩ hK hP hD hS hST hN hA [] (by decide) rfl rfl hl.1 rfl (Nat.le_of_ble_eq_true rfl) d_BR_interleave_34 ⟨by rw [hR]; exact Nat.le_of_ble_eq_true rfl, by rw [hR]; exact Nat.le_of_ble_eq_true rfl⟩) hP hD hS hA [] [0, 1, 2, 3] rfl rfl (by decide) (by decide) (fun _ H locs hp34 hP hD hS => ?_)
      have hP : va_P D classes [(h0, .inr (4, [.ref q1, .ref q2, .ref q3, .int (nI pn), .int (nI cn)])), (q1, .inl (tc 0, np, .inl pl)), (q2, .inl (tc 0, nc, .inl co)), (q3, .inl (tc 0, nc, .inl (ilK 48 4 co b (ilB 48 4 co pd b) k)))] H := hP
      have hD : va_D A [(h0, .inr (4, [.ref q1, .ref q2, .ref q3, .int (nI pn), .int (nI cn)])), (q1, .inl (tc 0, np, .inl pl)), (q2, .inl (tc 0, nc, .inl co)), (q3, .inl (tc 0, nc, .inl (ilK 48 4 co b (ilB 48 4 co pd b) k)))] := hD
      refine W.widen (k := 0) (n := 0) (Nat.le_of_ble_eq_true rfl) (Nat.le_of_ble_eq_true rfl) ?_
      refine W.eq (g2 := F0 m 37 ls [.int (nI (placeN k 4)), .int (nI (48 * b)), .ref q3]) rfl ?_
      refine k_iadd hx hb d_BR_interleave_37 ?_
      refine lv_aload_n hx hb d_BR_interleave_38 rfl (lv_at hl 3 rfl) ?_
      refine k_get hx hb hw uw_BR hown hK hP 0 rfl rfl 1 (by decide) (hw _ wd_110) rfl d_BR_interleave_39 ?_
      refine lv_iload_n hx hb d_BR_interleave_42 rfl (lv_at hl 1 rfl) ?_
      refine lv_iload hx hb d_BR_interleave_43 (lv_at hl 0 rfl) ?_
      refine k_iadd hx hb d_BR_interleave_45 ?_
      refine k_iald hx hb hK hP 2 0 rfl rfl (by omega) (by omega) d_BR_interleave_46 ?_
      refine k_iast (ws' := [(h0, .inr (4, [.ref q1, .ref q2, .ref q3, .int (nI pn), .int (nI cn)])), (q1, .inl (tc 0, np, .inl pl)), (q2, .inl (tc 0, nc, .inl co)), (q3, .inl (tc 0, nc, .inl (upd (ilK 48 4 co b (ilB 48 4 co pd b) k) ((48 * b) + (placeN k 4)) (co ((48 * b) + k)))))]) hx hb hK hP hD hS 3 0 rfl rfl (by omega) (by omega) d_BR_interleave_47 rfl (fun H locs hP hD hS => ?_)
      refine lv_iinc (k := 0) (v := nI (k + 1)) (lv' := [(4, .int (nI (k + 1))), (3, .int (nI (48 * b))), (2, .int (nI 48)), (0, .ref h0), (1, .int (nI 4))]) hx hb d_BR_interleave_48 hl rfl (k_incN _ 1) (by decide) rfl (fun ls hl => ?_)
      refine lv_goto (tgt := 20) hx hb d_BR_interleave_51 (by decide) ?_
      exact ih_k (by omega)   H locs ls (lv_sub hl [0, 1, 2, 3, 4] rfl) (by exact hP) (k_Ds hD [0, 1, 2, 3] (by decide) rfl) hS
set_option maxHeartbeats 4000000 in
set_option maxRecDepth 100000 in
theorem c_BR_encode_0 (l : Launch) (D : va_G) (tc : Nat → ClassId) (tb : Nat → Nat) (h0 : Nat) (q1 : Nat) (q2 : Nat) (q3 : Nat) (np : Nat) (nc : Nat) (pl : Nat → Int32) (co : Nat → Int32) (pd : Nat → Int32) (pn : Nat) (sb : Nat) (hp : pn ≤ np) (hn : np < 1000) (hcs : cnt (thN 0) pn = 12 * sb) (hc : cnt (thN 0) pn ≤ nc) (hm : nc < 1000) : Mv l D tc tb y_BR_encode prog_2_method_6_code 2 none ({ frames := 3, cells := 0, slots := 0, locals := 64 }) [.ref h0, .int (nI 0)] [(h0, .inr (4, [.ref q1, .ref q2, .ref q3, .int (nI pn), .int (nI 0)])), (q1, .inl (tc 0, np, .inl pl)), (q2, .inl (tc 0, nc, .inl co)), (q3, .inl (tc 0, nc, .inl pd))] (fun _ : Unit => True) (fun _ : Unit => [(h0, .inr (4, [.ref q1, .ref q2, .ref q3, .int (nI pn), .int (nI (cnt (thN 0) pn))])), (q1, .inl (tc 0, np, .inl pl)), (q2, .inl (tc 0, nc, .inl (cdF (thN 0) pl co pn))), (q3, .inl (tc 0, nc, .inl (ilB 12 1 (cdF (thN 0) pl co pn) pd sb)))]) := by
  refine Mv.go (by decide) (Nat.le_of_ble_eq_true rfl) ?_
  intro p e s m below meth c A ls R args Q C
  obtain ⟨hx, hb, hr, hts, hown, hlk, hml, hin, hA, hST, hN, hK, hP, hD, hS, hl, hR, hQ⟩ := C
  have hw : ∀ w ∈ lw_g, w.before args s = true := fun w h => hts w (List.mem_cons_of_mem _ h)
  have hl : lv_has ls 2 [(0, .ref h0), (1, .int (nI 0))] := hl
  refine lv_aload_n hx hb d_BR_encode_0 rfl (lv_at hl 0 rfl) ?_
  refine lv_iload_n hx hb d_BR_encode_1 rfl (lv_at hl 1 rfl) ?_
  refine k_calli (wr := [(h0, .inr (4, [.ref q1, .ref q2, .ref q3, .int (nI pn), .int (nI 0)])), (q1, .inl (tc 0, np, .inl pl)), (q2, .inl (tc 0, nc, .inl co)), (q3, .inl (tc 0, nc, .inl pd))]) (k_runSN (As := [.int (nI 0)]) (rest := [.ref h0]) (wc := []) ⟨hx, hb, hml, hown, hts⟩ (c_CL_isThin l D tc tb 0 (by omega) s.heap.size) ⟨va_cnB 1 hts (k_good wd_479) rfl rfl rfl (hN _ wd_477) (hw _ wd_1) hd_CL_isThin ⟨by rw [hR]; exact Nat.le_of_ble_eq_true rfl, by rw [hR]; exact Nat.le_of_ble_eq_true rfl⟩, hw _ wd_478, trivial⟩ hK hP hD hS hST hN hA [] (by decide) rfl rfl hl.1 rfl (Nat.le_of_ble_eq_true rfl) d_BR_encode_2 ⟨by rw [hR]; exact Nat.le_of_ble_eq_true rfl, by rw [hR]; exact Nat.le_of_ble_eq_true rfl⟩) hP hD hS hA [] [0, 1, 2, 3] rfl rfl (by decide) (by decide) (fun _ H locs hp2 hP hD hS => ?_)
  have hP : va_P D classes [(h0, .inr (4, [.ref q1, .ref q2, .ref q3, .int (nI pn), .int (nI 0)])), (q1, .inl (tc 0, np, .inl pl)), (q2, .inl (tc 0, nc, .inl co)), (q3, .inl (tc 0, nc, .inl pd))] H := hP
  have hD : va_D A [(h0, .inr (4, [.ref q1, .ref q2, .ref q3, .int (nI pn), .int (nI 0)])), (q1, .inl (tc 0, np, .inl pl)), (q2, .inl (tc 0, nc, .inl co)), (q3, .inl (tc 0, nc, .inl pd))] := hD
  refine W.widen (k := 0) (n := 0) (Nat.le_of_ble_eq_true rfl) (Nat.le_of_ble_eq_true rfl) ?_
  refine W.eq (g2 := F0 m 5 ls [.int (thN 0), .ref h0]) rfl ?_
  refine k_callv (wr := []) (k_runV (As := [.int (thN 0)]) (rest := []) (wc := [(h0, .inr (4, [.ref q1, .ref q2, .ref q3, .int (nI pn), .int (nI 0)])), (q1, .inl (tc 0, np, .inl pl)), (q2, .inl (tc 0, nc, .inl co)), (q3, .inl (tc 0, nc, .inl pd))]) ⟨hx, hb, hml, hown, hts⟩ (c_BR_code l D tc tb h0 q1 q2 q3 np nc pl co pd pn (thN 0) (by omega) (by omega) (by omega) (by omega) H.size) (cwV 1 hts (k_goodV wd_480 wd_482 wd_m7 wd_5 wd_483) rfl rfl rfl ⟨rfl, hd_BR_code⟩ ⟨by rw [hR]; exact Nat.le_of_ble_eq_true rfl, by rw [hR]; exact Nat.le_of_ble_eq_true rfl⟩) hK hP hD hS hST hN hA [0, 1, 2, 3] (by decide) rfl 0 rfl rfl rfl rfl hl.1 rfl (Nat.le_of_ble_eq_true rfl) d_BR_encode_5 ⟨by rw [hR]; exact Nat.le_of_ble_eq_true rfl, by rw [hR]; exact Nat.le_of_ble_eq_true rfl⟩) hP hD hS hA [0, 1, 2, 3] [] rfl rfl (by decide) (by decide) (fun _ H locs hp5 hP hD hS => ?_)
  have hP : va_P D classes [(h0, .inr (4, [.ref q1, .ref q2, .ref q3, .int (nI pn), .int (nI (cnt (thN 0) pn))])), (q1, .inl (tc 0, np, .inl pl)), (q2, .inl (tc 0, nc, .inl (cdF (thN 0) pl co pn))), (q3, .inl (tc 0, nc, .inl pd))] H := hP
  have hD : va_D A [(h0, .inr (4, [.ref q1, .ref q2, .ref q3, .int (nI pn), .int (nI (cnt (thN 0) pn))])), (q1, .inl (tc 0, np, .inl pl)), (q2, .inl (tc 0, nc, .inl (cdF (thN 0) pl co pn))), (q3, .inl (tc 0, nc, .inl pd))] := hD
  refine W.widen (k := 0) (n := 0) (Nat.le_of_ble_eq_true rfl) (Nat.le_of_ble_eq_true rfl) ?_
  refine W.eq (g2 := F0 m 8 ls []) rfl ?_
  refine lv_aload_n hx hb d_BR_encode_8 rfl (lv_at hl 0 rfl) ?_
  refine k_tabN hx hb hST hS 0 rfl hown (va_Nw.use rfl (hN _ wd_495)) d_BR_encode_9 ?_
  refine lv_iload_n hx hb d_BR_encode_12 rfl (lv_at hl 1 rfl) ?_
  refine k_tald hx hb hST hS 0 rfl (by omega) (by omega) d_BR_encode_13 ?_
  refine W.eq (g2 := F0 m 14 ls [.int (nI 1), .ref h0]) rfl ?_
  refine k_callv (wr := []) (k_runV (As := [.int (nI 1)]) (rest := []) (wc := [(h0, .inr (4, [.ref q1, .ref q2, .ref q3, .int (nI pn), .int (nI ((cnt (thN 0) pn)))])), (q1, .inl (tc 0, np, .inl pl)), (q2, .inl (tc 0, nc, .inl (cdF (thN 0) pl co pn))), (q3, .inl (tc 0, nc, .inl pd))]) ⟨hx, hb, hml, hown, hts⟩ (c_BR_interleave_1 l D tc tb h0 q1 q2 q3 np nc pl (cdF (thN 0) pl co pn) pd pn (cnt (thN 0) pn) sb (by omega) (by omega) (by omega) H.size) (cwV 1 hts (k_goodV wd_497 wd_499 wd_m9 wd_5 wd_500) rfl rfl rfl ⟨rfl, hd_BR_interleave⟩ ⟨by rw [hR]; exact Nat.le_of_ble_eq_true rfl, by rw [hR]; exact Nat.le_of_ble_eq_true rfl⟩) hK hP hD hS hST hN hA [0, 1, 2, 3] (by decide) rfl 0 rfl rfl rfl rfl hl.1 rfl (Nat.le_of_ble_eq_true rfl) d_BR_encode_14 ⟨by rw [hR]; exact Nat.le_of_ble_eq_true rfl, by rw [hR]; exact Nat.le_of_ble_eq_true rfl⟩) hP hD hS hA [0, 1, 2, 3] [] rfl rfl (by decide) (by decide) (fun _ H locs hp14 hP hD hS => ?_)
  have hP : va_P D classes [(h0, .inr (4, [.ref q1, .ref q2, .ref q3, .int (nI pn), .int (nI ((cnt (thN 0) pn)))])), (q1, .inl (tc 0, np, .inl pl)), (q2, .inl (tc 0, nc, .inl (cdF (thN 0) pl co pn))), (q3, .inl (tc 0, nc, .inl (ilB 12 1 (cdF (thN 0) pl co pn) pd sb)))] H := hP
  have hD : va_D A [(h0, .inr (4, [.ref q1, .ref q2, .ref q3, .int (nI pn), .int (nI ((cnt (thN 0) pn)))])), (q1, .inl (tc 0, np, .inl pl)), (q2, .inl (tc 0, nc, .inl (cdF (thN 0) pl co pn))), (q3, .inl (tc 0, nc, .inl (ilB 12 1 (cdF (thN 0) pl co pn) pd sb)))] := hD
  refine W.widen (k := 0) (n := 0) (Nat.le_of_ble_eq_true rfl) (Nat.le_of_ble_eq_true rfl) ?_
  refine W.eq (g2 := F0 m 17 ls []) rfl ?_
  rw [hQ]
  exact k_vret () hx hb hr hlk hK hP hD hS [0, 1, 2, 3] (by decide) rfl trivial d_BR_encode_17
set_option maxHeartbeats 4000000 in
set_option maxRecDepth 100000 in
theorem c_BR_encode_1 (l : Launch) (D : va_G) (tc : Nat → ClassId) (tb : Nat → Nat) (h0 : Nat) (q1 : Nat) (q2 : Nat) (q3 : Nat) (np : Nat) (nc : Nat) (pl : Nat → Int32) (co : Nat → Int32) (pd : Nat → Int32) (pn : Nat) (sb : Nat) (hp : pn ≤ np) (hn : np < 1000) (hcs : cnt (thN 1) pn = 24 * sb) (hc : cnt (thN 1) pn ≤ nc) (hm : nc < 1000) : Mv l D tc tb y_BR_encode prog_2_method_6_code 2 none ({ frames := 3, cells := 0, slots := 0, locals := 64 }) [.ref h0, .int (nI 1)] [(h0, .inr (4, [.ref q1, .ref q2, .ref q3, .int (nI pn), .int (nI 0)])), (q1, .inl (tc 0, np, .inl pl)), (q2, .inl (tc 0, nc, .inl co)), (q3, .inl (tc 0, nc, .inl pd))] (fun _ : Unit => True) (fun _ : Unit => [(h0, .inr (4, [.ref q1, .ref q2, .ref q3, .int (nI pn), .int (nI (cnt (thN 1) pn))])), (q1, .inl (tc 0, np, .inl pl)), (q2, .inl (tc 0, nc, .inl (cdF (thN 1) pl co pn))), (q3, .inl (tc 0, nc, .inl (ilB 24 2 (cdF (thN 1) pl co pn) pd sb)))]) := by
  refine Mv.go (by decide) (Nat.le_of_ble_eq_true rfl) ?_
  intro p e s m below meth c A ls R args Q C
  obtain ⟨hx, hb, hr, hts, hown, hlk, hml, hin, hA, hST, hN, hK, hP, hD, hS, hl, hR, hQ⟩ := C
  have hw : ∀ w ∈ lw_g, w.before args s = true := fun w h => hts w (List.mem_cons_of_mem _ h)
  have hl : lv_has ls 2 [(0, .ref h0), (1, .int (nI 1))] := hl
  refine lv_aload_n hx hb d_BR_encode_0 rfl (lv_at hl 0 rfl) ?_
  refine lv_iload_n hx hb d_BR_encode_1 rfl (lv_at hl 1 rfl) ?_
  refine k_calli (wr := [(h0, .inr (4, [.ref q1, .ref q2, .ref q3, .int (nI pn), .int (nI 0)])), (q1, .inl (tc 0, np, .inl pl)), (q2, .inl (tc 0, nc, .inl co)), (q3, .inl (tc 0, nc, .inl pd))]) (k_runSN (As := [.int (nI 1)]) (rest := [.ref h0]) (wc := []) ⟨hx, hb, hml, hown, hts⟩ (c_CL_isThin l D tc tb 1 (by omega) s.heap.size) ⟨va_cnB 1 hts (k_good wd_479) rfl rfl rfl (hN _ wd_477) (hw _ wd_1) hd_CL_isThin ⟨by rw [hR]; exact Nat.le_of_ble_eq_true rfl, by rw [hR]; exact Nat.le_of_ble_eq_true rfl⟩, hw _ wd_478, trivial⟩ hK hP hD hS hST hN hA [] (by decide) rfl rfl hl.1 rfl (Nat.le_of_ble_eq_true rfl) d_BR_encode_2 ⟨by rw [hR]; exact Nat.le_of_ble_eq_true rfl, by rw [hR]; exact Nat.le_of_ble_eq_true rfl⟩) hP hD hS hA [] [0, 1, 2, 3] rfl rfl (by decide) (by decide) (fun _ H locs hp2 hP hD hS => ?_)
  have hP : va_P D classes [(h0, .inr (4, [.ref q1, .ref q2, .ref q3, .int (nI pn), .int (nI 0)])), (q1, .inl (tc 0, np, .inl pl)), (q2, .inl (tc 0, nc, .inl co)), (q3, .inl (tc 0, nc, .inl pd))] H := hP
  have hD : va_D A [(h0, .inr (4, [.ref q1, .ref q2, .ref q3, .int (nI pn), .int (nI 0)])), (q1, .inl (tc 0, np, .inl pl)), (q2, .inl (tc 0, nc, .inl co)), (q3, .inl (tc 0, nc, .inl pd))] := hD
  refine W.widen (k := 0) (n := 0) (Nat.le_of_ble_eq_true rfl) (Nat.le_of_ble_eq_true rfl) ?_
  refine W.eq (g2 := F0 m 5 ls [.int (thN 1), .ref h0]) rfl ?_
  refine k_callv (wr := []) (k_runV (As := [.int (thN 1)]) (rest := []) (wc := [(h0, .inr (4, [.ref q1, .ref q2, .ref q3, .int (nI pn), .int (nI 0)])), (q1, .inl (tc 0, np, .inl pl)), (q2, .inl (tc 0, nc, .inl co)), (q3, .inl (tc 0, nc, .inl pd))]) ⟨hx, hb, hml, hown, hts⟩ (c_BR_code l D tc tb h0 q1 q2 q3 np nc pl co pd pn (thN 1) (by omega) (by omega) (by omega) (by omega) H.size) (cwV 1 hts (k_goodV wd_480 wd_482 wd_m7 wd_5 wd_483) rfl rfl rfl ⟨rfl, hd_BR_code⟩ ⟨by rw [hR]; exact Nat.le_of_ble_eq_true rfl, by rw [hR]; exact Nat.le_of_ble_eq_true rfl⟩) hK hP hD hS hST hN hA [0, 1, 2, 3] (by decide) rfl 0 rfl rfl rfl rfl hl.1 rfl (Nat.le_of_ble_eq_true rfl) d_BR_encode_5 ⟨by rw [hR]; exact Nat.le_of_ble_eq_true rfl, by rw [hR]; exact Nat.le_of_ble_eq_true rfl⟩) hP hD hS hA [0, 1, 2, 3] [] rfl rfl (by decide) (by decide) (fun _ H locs hp5 hP hD hS => ?_)
  have hP : va_P D classes [(h0, .inr (4, [.ref q1, .ref q2, .ref q3, .int (nI pn), .int (nI (cnt (thN 1) pn))])), (q1, .inl (tc 0, np, .inl pl)), (q2, .inl (tc 0, nc, .inl (cdF (thN 1) pl co pn))), (q3, .inl (tc 0, nc, .inl pd))] H := hP
  have hD : va_D A [(h0, .inr (4, [.ref q1, .ref q2, .ref q3, .int (nI pn), .int (nI (cnt (thN 1) pn))])), (q1, .inl (tc 0, np, .inl pl)), (q2, .inl (tc 0, nc, .inl (cdF (thN 1) pl co pn))), (q3, .inl (tc 0, nc, .inl pd))] := hD
  refine W.widen (k := 0) (n := 0) (Nat.le_of_ble_eq_true rfl) (Nat.le_of_ble_eq_true rfl) ?_
  refine W.eq (g2 := F0 m 8 ls []) rfl ?_
  refine lv_aload_n hx hb d_BR_encode_8 rfl (lv_at hl 0 rfl) ?_
  refine k_tabN hx hb hST hS 0 rfl hown (va_Nw.use rfl (hN _ wd_495)) d_BR_encode_9 ?_
  refine lv_iload_n hx hb d_BR_encode_12 rfl (lv_at hl 1 rfl) ?_
  refine k_tald hx hb hST hS 0 rfl (by omega) (by omega) d_BR_encode_13 ?_
  refine W.eq (g2 := F0 m 14 ls [.int (nI 2), .ref h0]) rfl ?_
  refine k_callv (wr := []) (k_runV (As := [.int (nI 2)]) (rest := []) (wc := [(h0, .inr (4, [.ref q1, .ref q2, .ref q3, .int (nI pn), .int (nI ((cnt (thN 1) pn)))])), (q1, .inl (tc 0, np, .inl pl)), (q2, .inl (tc 0, nc, .inl (cdF (thN 1) pl co pn))), (q3, .inl (tc 0, nc, .inl pd))]) ⟨hx, hb, hml, hown, hts⟩ (c_BR_interleave_2 l D tc tb h0 q1 q2 q3 np nc pl (cdF (thN 1) pl co pn) pd pn (cnt (thN 1) pn) sb (by omega) (by omega) (by omega) H.size) (cwV 1 hts (k_goodV wd_497 wd_499 wd_m9 wd_5 wd_500) rfl rfl rfl ⟨rfl, hd_BR_interleave⟩ ⟨by rw [hR]; exact Nat.le_of_ble_eq_true rfl, by rw [hR]; exact Nat.le_of_ble_eq_true rfl⟩) hK hP hD hS hST hN hA [0, 1, 2, 3] (by decide) rfl 0 rfl rfl rfl rfl hl.1 rfl (Nat.le_of_ble_eq_true rfl) d_BR_encode_14 ⟨by rw [hR]; exact Nat.le_of_ble_eq_true rfl, by rw [hR]; exact Nat.le_of_ble_eq_true rfl⟩) hP hD hS hA [0, 1, 2, 3] [] rfl rfl (by decide) (by decide) (fun _ H locs hp14 hP hD hS => ?_)
  have hP : va_P D classes [(h0, .inr (4, [.ref q1, .ref q2, .ref q3, .int (nI pn), .int (nI ((cnt (thN 1) pn)))])), (q1, .inl (tc 0, np, .inl pl)), (q2, .inl (tc 0, nc, .inl (cdF (thN 1) pl co pn))), (q3, .inl (tc 0, nc, .inl (ilB 24 2 (cdF (thN 1) pl co pn) pd sb)))] H := hP
  have hD : va_D A [(h0, .inr (4, [.ref q1, .ref q2, .ref q3, .int (nI pn), .int (nI ((cnt (thN 1) pn)))])), (q1, .inl (tc 0, np, .inl pl)), (q2, .inl (tc 0, nc, .inl (cdF (thN 1) pl co pn))), (q3, .inl (tc 0, nc, .inl (ilB 24 2 (cdF (thN 1) pl co pn) pd sb)))] := hD
  refine W.widen (k := 0) (n := 0) (Nat.le_of_ble_eq_true rfl) (Nat.le_of_ble_eq_true rfl) ?_
  refine W.eq (g2 := F0 m 17 ls []) rfl ?_
  rw [hQ]
  exact k_vret () hx hb hr hlk hK hP hD hS [0, 1, 2, 3] (by decide) rfl trivial d_BR_encode_17
set_option maxHeartbeats 4000000 in
set_option maxRecDepth 100000 in
theorem c_BR_encode_2 (l : Launch) (D : va_G) (tc : Nat → ClassId) (tb : Nat → Nat) (h0 : Nat) (q1 : Nat) (q2 : Nat) (q3 : Nat) (np : Nat) (nc : Nat) (pl : Nat → Int32) (co : Nat → Int32) (pd : Nat → Int32) (pn : Nat) (sb : Nat) (hp : pn ≤ np) (hn : np < 1000) (hcs : cnt (thN 2) pn = 24 * sb) (hc : cnt (thN 2) pn ≤ nc) (hm : nc < 1000) : Mv l D tc tb y_BR_encode prog_2_method_6_code 2 none ({ frames := 3, cells := 0, slots := 0, locals := 64 }) [.ref h0, .int (nI 2)] [(h0, .inr (4, [.ref q1, .ref q2, .ref q3, .int (nI pn), .int (nI 0)])), (q1, .inl (tc 0, np, .inl pl)), (q2, .inl (tc 0, nc, .inl co)), (q3, .inl (tc 0, nc, .inl pd))] (fun _ : Unit => True) (fun _ : Unit => [(h0, .inr (4, [.ref q1, .ref q2, .ref q3, .int (nI pn), .int (nI (cnt (thN 2) pn))])), (q1, .inl (tc 0, np, .inl pl)), (q2, .inl (tc 0, nc, .inl (cdF (thN 2) pl co pn))), (q3, .inl (tc 0, nc, .inl (ilB 24 2 (cdF (thN 2) pl co pn) pd sb)))]) := by
  refine Mv.go (by decide) (Nat.le_of_ble_eq_true rfl) ?_
  intro p e s m below meth c A ls R args Q C
  obtain ⟨hx, hb, hr, hts, hown, hlk, hml, hin, hA, hST, hN, hK, hP, hD, hS, hl, hR, hQ⟩ := C
  have hw : ∀ w ∈ lw_g, w.before args s = true := fun w h => hts w (List.mem_cons_of_mem _ h)
  have hl : lv_has ls 2 [(0, .ref h0), (1, .int (nI 2))] := hl
  refine lv_aload_n hx hb d_BR_encode_0 rfl (lv_at hl 0 rfl) ?_
  refine lv_iload_n hx hb d_BR_encode_1 rfl (lv_at hl 1 rfl) ?_
  refine k_calli (wr := [(h0, .inr (4, [.ref q1, .ref q2, .ref q3, .int (nI pn), .int (nI 0)])), (q1, .inl (tc 0, np, .inl pl)), (q2, .inl (tc 0, nc, .inl co)), (q3, .inl (tc 0, nc, .inl pd))]) (k_runSN (As := [.int (nI 2)]) (rest := [.ref h0]) (wc := []) ⟨hx, hb, hml, hown, hts⟩ (c_CL_isThin l D tc tb 2 (by omega) s.heap.size) ⟨va_cnB 1 hts (k_good wd_479) rfl rfl rfl (hN _ wd_477) (hw _ wd_1) hd_CL_isThin ⟨by rw [hR]; exact Nat.le_of_ble_eq_true rfl, by rw [hR]; exact Nat.le_of_ble_eq_true rfl⟩, hw _ wd_478, trivial⟩ hK hP hD hS hST hN hA [] (by decide) rfl rfl hl.1 rfl (Nat.le_of_ble_eq_true rfl) d_BR_encode_2 ⟨by rw [hR]; exact Nat.le_of_ble_eq_true rfl, by rw [hR]; exact Nat.le_of_ble_eq_true rfl⟩) hP hD hS hA [] [0, 1, 2, 3] rfl rfl (by decide) (by decide) (fun _ H locs hp2 hP hD hS => ?_)
  have hP : va_P D classes [(h0, .inr (4, [.ref q1, .ref q2, .ref q3, .int (nI pn), .int (nI 0)])), (q1, .inl (tc 0, np, .inl pl)), (q2, .inl (tc 0, nc, .inl co)), (q3, .inl (tc 0, nc, .inl pd))] H := hP
  have hD : va_D A [(h0, .inr (4, [.ref q1, .ref q2, .ref q3, .int (nI pn), .int (nI 0)])), (q1, .inl (tc 0, np, .inl pl)), (q2, .inl (tc 0, nc, .inl co)), (q3, .inl (tc 0, nc, .inl pd))] := hD
  refine W.widen (k := 0) (n := 0) (Nat.le_of_ble_eq_true rfl) (Nat.le_of_ble_eq_true rfl) ?_
  refine W.eq (g2 := F0 m 5 ls [.int (thN 2), .ref h0]) rfl ?_
  refine k_callv (wr := []) (k_runV (As := [.int (thN 2)]) (rest := []) (wc := [(h0, .inr (4, [.ref q1, .ref q2, .ref q3, .int (nI pn), .int (nI 0)])), (q1, .inl (tc 0, np, .inl pl)), (q2, .inl (tc 0, nc, .inl co)), (q3, .inl (tc 0, nc, .inl pd))]) ⟨hx, hb, hml, hown, hts⟩ (c_BR_code l D tc tb h0 q1 q2 q3 np nc pl co pd pn (thN 2) (by omega) (by omega) (by omega) (by omega) H.size) (cwV 1 hts (k_goodV wd_480 wd_482 wd_m7 wd_5 wd_483) rfl rfl rfl ⟨rfl, hd_BR_code⟩ ⟨by rw [hR]; exact Nat.le_of_ble_eq_true rfl, by rw [hR]; exact Nat.le_of_ble_eq_true rfl⟩) hK hP hD hS hST hN hA [0, 1, 2, 3] (by decide) rfl 0 rfl rfl rfl rfl hl.1 rfl (Nat.le_of_ble_eq_true rfl) d_BR_encode_5 ⟨by rw [hR]; exact Nat.le_of_ble_eq_true rfl, by rw [hR]; exact Nat.le_of_ble_eq_true rfl⟩) hP hD hS hA [0, 1, 2, 3] [] rfl rfl (by decide) (by decide) (fun _ H locs hp5 hP hD hS => ?_)
  have hP : va_P D classes [(h0, .inr (4, [.ref q1, .ref q2, .ref q3, .int (nI pn), .int (nI (cnt (thN 2) pn))])), (q1, .inl (tc 0, np, .inl pl)), (q2, .inl (tc 0, nc, .inl (cdF (thN 2) pl co pn))), (q3, .inl (tc 0, nc, .inl pd))] H := hP
  have hD : va_D A [(h0, .inr (4, [.ref q1, .ref q2, .ref q3, .int (nI pn), .int (nI (cnt (thN 2) pn))])), (q1, .inl (tc 0, np, .inl pl)), (q2, .inl (tc 0, nc, .inl (cdF (thN 2) pl co pn))), (q3, .inl (tc 0, nc, .inl pd))] := hD
  refine W.widen (k := 0) (n := 0) (Nat.le_of_ble_eq_true rfl) (Nat.le_of_ble_eq_true rfl) ?_
  refine W.eq (g2 := F0 m 8 ls []) rfl ?_
  refine lv_aload_n hx hb d_BR_encode_8 rfl (lv_at hl 0 rfl) ?_
  refine k_tabN hx hb hST hS 0 rfl hown (va_Nw.use rfl (hN _ wd_495)) d_BR_encode_9 ?_
  refine lv_iload_n hx hb d_BR_encode_12 rfl (lv_at hl 1 rfl) ?_
  refine k_tald hx hb hST hS 0 rfl (by omega) (by omega) d_BR_encode_13 ?_
  refine W.eq (g2 := F0 m 14 ls [.int (nI 2), .ref h0]) rfl ?_
  refine k_callv (wr := []) (k_runV (As := [.int (nI 2)]) (rest := []) (wc := [(h0, .inr (4, [.ref q1, .ref q2, .ref q3, .int (nI pn), .int (nI ((cnt (thN 2) pn)))])), (q1, .inl (tc 0, np, .inl pl)), (q2, .inl (tc 0, nc, .inl (cdF (thN 2) pl co pn))), (q3, .inl (tc 0, nc, .inl pd))]) ⟨hx, hb, hml, hown, hts⟩ (c_BR_interleave_2 l D tc tb h0 q1 q2 q3 np nc pl (cdF (thN 2) pl co pn) pd pn (cnt (thN 2) pn) sb (by omega) (by omega) (by omega) H.size) (cwV 1 hts (k_goodV wd_497 wd_499 wd_m9 wd_5 wd_500) rfl rfl rfl ⟨rfl, hd_BR_interleave⟩ ⟨by rw [hR]; exact Nat.le_of_ble_eq_true rfl, by rw [hR]; exact Nat.le_of_ble_eq_true rfl⟩) hK hP hD hS hST hN hA [0, 1, 2, 3] (by decide) rfl 0 rfl rfl rfl rfl hl.1 rfl (Nat.le_of_ble_eq_true rfl) d_BR_encode_14 ⟨by rw [hR]; exact Nat.le_of_ble_eq_true rfl, by rw [hR]; exact Nat.le_of_ble_eq_true rfl⟩) hP hD hS hA [0, 1, 2, 3] [] rfl rfl (by decide) (by decide) (fun _ H locs hp14 hP hD hS => ?_)
  have hP : va_P D classes [(h0, .inr (4, [.ref q1, .ref q2, .ref q3, .int (nI pn), .int (nI ((cnt (thN 2) pn)))])), (q1, .inl (tc 0, np, .inl pl)), (q2, .inl (tc 0, nc, .inl (cdF (thN 2) pl co pn))), (q3, .inl (tc 0, nc, .inl (ilB 24 2 (cdF (thN 2) pl co pn) pd sb)))] H := hP
  have hD : va_D A [(h0, .inr (4, [.ref q1, .ref q2, .ref q3, .int (nI pn), .int (nI ((cnt (thN 2) pn)))])), (q1, .inl (tc 0, np, .inl pl)), (q2, .inl (tc 0, nc, .inl (cdF (thN 2) pl co pn))), (q3, .inl (tc 0, nc, .inl (ilB 24 2 (cdF (thN 2) pl co pn) pd sb)))] := hD
  refine W.widen (k := 0) (n := 0) (Nat.le_of_ble_eq_true rfl) (Nat.le_of_ble_eq_true rfl) ?_
  refine W.eq (g2 := F0 m 17 ls []) rfl ?_
  rw [hQ]
  exact k_vret () hx hb hr hlk hK hP hD hS [0, 1, 2, 3] (by decide) rfl trivial d_BR_encode_17
set_option maxHeartbeats 4000000 in
set_option maxRecDepth 100000 in
theorem c_BR_encode_3 (l : Launch) (D : va_G) (tc : Nat → ClassId) (tb : Nat → Nat) (h0 : Nat) (q1 : Nat) (q2 : Nat) (q3 : Nat) (np : Nat) (nc : Nat) (pl : Nat → Int32) (co : Nat → Int32) (pd : Nat → Int32) (pn : Nat) (sb : Nat) (hp : pn ≤ np) (hn : np < 1000) (hcs : cnt (thN 3) pn = 48 * sb) (hc : cnt (thN 3) pn ≤ nc) (hm : nc < 1000) : Mv l D tc tb y_BR_encode prog_2_method_6_code 2 none ({ frames := 3, cells := 0, slots := 0, locals := 64 }) [.ref h0, .int (nI 3)] [(h0, .inr (4, [.ref q1, .ref q2, .ref q3, .int (nI pn), .int (nI 0)])), (q1, .inl (tc 0, np, .inl pl)), (q2, .inl (tc 0, nc, .inl co)), (q3, .inl (tc 0, nc, .inl pd))] (fun _ : Unit => True) (fun _ : Unit => [(h0, .inr (4, [.ref q1, .ref q2, .ref q3, .int (nI pn), .int (nI (cnt (thN 3) pn))])), (q1, .inl (tc 0, np, .inl pl)), (q2, .inl (tc 0, nc, .inl (cdF (thN 3) pl co pn))), (q3, .inl (tc 0, nc, .inl (ilB 48 4 (cdF (thN 3) pl co pn) pd sb)))]) := by
  refine Mv.go (by decide) (Nat.le_of_ble_eq_true rfl) ?_
  intro p e s m below meth c A ls R args Q C
  obtain ⟨hx, hb, hr, hts, hown, hlk, hml, hin, hA, hST, hN, hK, hP, hD, hS, hl, hR, hQ⟩ := C
  have hw : ∀ w ∈ lw_g, w.before args s = true := fun w h => hts w (List.mem_cons_of_mem _ h)
  have hl : lv_has ls 2 [(0, .ref h0), (1, .int (nI 3))] := hl
  refine lv_aload_n hx hb d_BR_encode_0 rfl (lv_at hl 0 rfl) ?_
  refine lv_iload_n hx hb d_BR_encode_1 rfl (lv_at hl 1 rfl) ?_
  refine k_calli (wr := [(h0, .inr (4, [.ref q1, .ref q2, .ref q3, .int (nI pn), .int (nI 0)])), (q1, .inl (tc 0, np, .inl pl)), (q2, .inl (tc 0, nc, .inl co)), (q3, .inl (tc 0, nc, .inl pd))]) (k_runSN (As := [.int (nI 3)]) (rest := [.ref h0]) (wc := []) ⟨hx, hb, hml, hown, hts⟩ (c_CL_isThin l D tc tb 3 (by omega) s.heap.size) ⟨va_cnB 1 hts (k_good wd_479) rfl rfl rfl (hN _ wd_477) (hw _ wd_1) hd_CL_isThin ⟨by rw [hR]; exact Nat.le_of_ble_eq_true rfl, by rw [hR]; exact Nat.le_of_ble_eq_true rfl⟩, hw _ wd_478, trivial⟩ hK hP hD hS hST hN hA [] (by decide) rfl rfl hl.1 rfl (Nat.le_of_ble_eq_true rfl) d_BR_encode_2 ⟨by rw [hR]; exact Nat.le_of_ble_eq_true rfl, by rw [hR]; exact Nat.le_of_ble_eq_true rfl⟩) hP hD hS hA [] [0, 1, 2, 3] rfl rfl (by decide) (by decide) (fun _ H locs hp2 hP hD hS => ?_)
  have hP : va_P D classes [(h0, .inr (4, [.ref q1, .ref q2, .ref q3, .int (nI pn), .int (nI 0)])), (q1, .inl (tc 0, np, .inl pl)), (q2, .inl (tc 0, nc, .inl co)), (q3, .inl (tc 0, nc, .inl pd))] H := hP
  have hD : va_D A [(h0, .inr (4, [.ref q1, .ref q2, .ref q3, .int (nI pn), .int (nI 0)])), (q1, .inl (tc 0, np, .inl pl)), (q2, .inl (tc 0, nc, .inl co)), (q3, .inl (tc 0, nc, .inl pd))] := hD
  refine W.widen (k := 0) (n := 0) (Nat.le_of_ble_eq_true rfl) (Nat.le_of_ble_eq_true rfl) ?_
  refine W.eq (g2 := F0 m 5 ls [.int (thN 3), .ref h0]) rfl ?_
  refine k_callv (wr := []) (k_runV (As := [.int (thN 3)]) (rest := []) (wc := [(h0, .inr (4, [.ref q1, .ref q2, .ref q3, .int (nI pn), .int (nI 0)])), (q1, .inl (tc 0, np, .inl pl)), (q2, .inl (tc 0, nc, .inl co)), (q3, .inl (tc 0, nc, .inl pd))]) ⟨hx, hb, hml, hown, hts⟩ (c_BR_code l D tc tb h0 q1 q2 q3 np nc pl co pd pn (thN 3) (by omega) (by omega) (by omega) (by omega) H.size) (cwV 1 hts (k_goodV wd_480 wd_482 wd_m7 wd_5 wd_483) rfl rfl rfl ⟨rfl, hd_BR_code⟩ ⟨by rw [hR]; exact Nat.le_of_ble_eq_true rfl, by rw [hR]; exact Nat.le_of_ble_eq_true rfl⟩) hK hP hD hS hST hN hA [0, 1, 2, 3] (by decide) rfl 0 rfl rfl rfl rfl hl.1 rfl (Nat.le_of_ble_eq_true rfl) d_BR_encode_5 ⟨by rw [hR]; exact Nat.le_of_ble_eq_true rfl, by rw [hR]; exact Nat.le_of_ble_eq_true rfl⟩) hP hD hS hA [0, 1, 2, 3] [] rfl rfl (by decide) (by decide) (fun _ H locs hp5 hP hD hS => ?_)
  have hP : va_P D classes [(h0, .inr (4, [.ref q1, .ref q2, .ref q3, .int (nI pn), .int (nI (cnt (thN 3) pn))])), (q1, .inl (tc 0, np, .inl pl)), (q2, .inl (tc 0, nc, .inl (cdF (thN 3) pl co pn))), (q3, .inl (tc 0, nc, .inl pd))] H := hP
  have hD : va_D A [(h0, .inr (4, [.ref q1, .ref q2, .ref q3, .int (nI pn), .int (nI (cnt (thN 3) pn))])), (q1, .inl (tc 0, np, .inl pl)), (q2, .inl (tc 0, nc, .inl (cdF (thN 3) pl co pn))), (q3, .inl (tc 0, nc, .inl pd))] := hD
  refine W.widen (k := 0) (n := 0) (Nat.le_of_ble_eq_true rfl) (Nat.le_of_ble_eq_true rfl) ?_
  refine W.eq (g2 := F0 m 8 ls []) rfl ?_
  refine lv_aload_n hx hb d_BR_encode_8 rfl (lv_at hl 0 rfl) ?_
  refine k_tabN hx hb hST hS 0 rfl hown (va_Nw.use rfl (hN _ wd_495)) d_BR_encode_9 ?_
  refine lv_iload_n hx hb d_BR_encode_12 rfl (lv_at hl 1 rfl) ?_
  refine k_tald hx hb hST hS 0 rfl (by omega) (by omega) d_BR_encode_13 ?_
  refine W.eq (g2 := F0 m 14 ls [.int (nI 4), .ref h0]) rfl ?_
  refine k_callv (wr := []) (k_runV (As := [.int (nI 4)]) (rest := []) (wc := [(h0, .inr (4, [.ref q1, .ref q2, .ref q3, .int (nI pn), .int (nI ((cnt (thN 3) pn)))])), (q1, .inl (tc 0, np, .inl pl)), (q2, .inl (tc 0, nc, .inl (cdF (thN 3) pl co pn))), (q3, .inl (tc 0, nc, .inl pd))]) ⟨hx, hb, hml, hown, hts⟩ (c_BR_interleave_4 l D tc tb h0 q1 q2 q3 np nc pl (cdF (thN 3) pl co pn) pd pn (cnt (thN 3) pn) sb (by omega) (by omega) (by omega) H.size) (cwV 1 hts (k_goodV wd_497 wd_499 wd_m9 wd_5 wd_500) rfl rfl rfl ⟨rfl, hd_BR_interleave⟩ ⟨by rw [hR]; exact Nat.le_of_ble_eq_true rfl, by rw [hR]; exact Nat.le_of_ble_eq_true rfl⟩) hK hP hD hS hST hN hA [0, 1, 2, 3] (by decide) rfl 0 rfl rfl rfl rfl hl.1 rfl (Nat.le_of_ble_eq_true rfl) d_BR_encode_14 ⟨by rw [hR]; exact Nat.le_of_ble_eq_true rfl, by rw [hR]; exact Nat.le_of_ble_eq_true rfl⟩) hP hD hS hA [0, 1, 2, 3] [] rfl rfl (by decide) (by decide) (fun _ H locs hp14 hP hD hS => ?_)
  have hP : va_P D classes [(h0, .inr (4, [.ref q1, .ref q2, .ref q3, .int (nI pn), .int (nI ((cnt (thN 3) pn)))])), (q1, .inl (tc 0, np, .inl pl)), (q2, .inl (tc 0, nc, .inl (cdF (thN 3) pl co pn))), (q3, .inl (tc 0, nc, .inl (ilB 48 4 (cdF (thN 3) pl co pn) pd sb)))] H := hP
  have hD : va_D A [(h0, .inr (4, [.ref q1, .ref q2, .ref q3, .int (nI pn), .int (nI ((cnt (thN 3) pn)))])), (q1, .inl (tc 0, np, .inl pl)), (q2, .inl (tc 0, nc, .inl (cdF (thN 3) pl co pn))), (q3, .inl (tc 0, nc, .inl (ilB 48 4 (cdF (thN 3) pl co pn) pd sb)))] := hD
  refine W.widen (k := 0) (n := 0) (Nat.le_of_ble_eq_true rfl) (Nat.le_of_ble_eq_true rfl) ?_
  refine W.eq (g2 := F0 m 17 ls []) rfl ?_
  rw [hQ]
  exact k_vret () hx hb hr hlk hK hP hD hS [0, 1, 2, 3] (by decide) rfl trivial d_BR_encode_17
