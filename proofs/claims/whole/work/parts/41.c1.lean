set_option maxHeartbeats 4000000 in
set_option maxRecDepth 100000 in
theorem c_SC_init (l : Launch) (D : va_G) (tc : Nat → ClassId) (tb : Nat → Nat) (h0 : Nat) (st : Int32) : Mv l D tc tb y_SC_init prog_6_method_1_code 1 none ({ frames := 1, cells := 0, slots := 0, locals := 12 }) [.ref h0] [(h0, .inr (3, [.int (st)]))] (fun _ : Unit => True) (fun _ : Unit => [(h0, .inr (3, [.int (nI 127)]))]) := by
  refine Mv.go (by decide) (Nat.le_of_ble_eq_true rfl) ?_
  intro p e s m below meth c A ls R args Q C
  obtain ⟨hx, hb, hr, hts, hown, hlk, hml, hin, hA, hST, hN, hK, hP, hD, hS, hl, hR, hQ⟩ := C
  have hw : ∀ w ∈ lw_g, w.before args s = true := fun w h => hts w (List.mem_cons_of_mem _ h)
  have hl : lv_has ls 1 [(0, .ref h0)] := hl
  refine lv_aload_n hx hb d_SC_init_0 rfl (lv_at hl 0 rfl) ?_
  refine W.objInit hx hb hown (hw _ wd_139) (hw _ wd_25) (hw _ wd_26) rfl (by rw [hml]; exact hl.1) rfl d_SC_init_1 (by rw [hR]; exact Nat.le_of_ble_eq_true rfl) (by rw [hR]; exact Nat.le_of_ble_eq_true rfl) ?_
  refine W.eq (g2 := F0 m 4 ls []) rfl ?_
  refine lv_aload_n hx hb d_SC_init_4 rfl (lv_at hl 0 rfl) ?_
  refine lv_bipush (v := nI 127) hx hb d_SC_init_5 (by decide) ?_
  refine k_put (ws' := [(h0, .inr (3, [.int (nI 127)]))]) hx hb hw uw_SC tok_SC nn_SC hown hK hP hD hS 0 rfl rfl 0 (by decide) (hw _ wd_140) rfl rfl rfl (Nat.le_of_ble_eq_true rfl) d_SC_init_7 rfl (fun H locs hP hD hS => ?_)
  rw [hQ]
  exact k_vret () hx hb hr hlk hK hP hD hS [0] (by decide) rfl trivial d_SC_init_10
set_option maxHeartbeats 4000000 in
set_option maxRecDepth 100000 in
theorem c_SC_begin (l : Launch) (D : va_G) (tc : Nat → ClassId) (tb : Nat → Nat) (h0 : Nat) (st : Int32) (x : Int32) : Mv l D tc tb y_SC_begin prog_6_method_2_code 2 none ({ frames := 0, cells := 0, slots := 0, locals := 0 }) [.ref h0, .int (x)] [(h0, .inr (3, [.int (st)]))] (fun _ : Unit => True) (fun _ : Unit => [(h0, .inr (3, [.int (x)]))]) := by
  refine Mv.go (by decide) (Nat.le_of_ble_eq_true rfl) ?_
  intro p e s m below meth c A ls R args Q C
  obtain ⟨hx, hb, hr, hts, hown, hlk, hml, hin, hA, hST, hN, hK, hP, hD, hS, hl, hR, hQ⟩ := C
  have hw : ∀ w ∈ lw_g, w.before args s = true := fun w h => hts w (List.mem_cons_of_mem _ h)
  have hl : lv_has ls 2 [(0, .ref h0), (1, .int (x))] := hl
  refine lv_aload_n hx hb d_SC_begin_0 rfl (lv_at hl 0 rfl) ?_
  refine lv_iload_n hx hb d_SC_begin_1 rfl (lv_at hl 1 rfl) ?_
  refine k_put (ws' := [(h0, .inr (3, [.int (x)]))]) hx hb hw uw_SC tok_SC nn_SC hown hK hP hD hS 0 rfl rfl 0 (by decide) (hw _ wd_140) rfl rfl rfl (Nat.le_of_ble_eq_true rfl) d_SC_begin_2 rfl (fun H locs hP hD hS => ?_)
  rw [hQ]
  exact k_vret () hx hb hr hlk hK hP hD hS [0] (by decide) rfl trivial d_SC_begin_5
set_option maxHeartbeats 4000000 in
set_option maxRecDepth 100000 in
theorem c_SC_next (l : Launch) (D : va_G) (tc : Nat → ClassId) (tb : Nat → Nat) (h0 : Nat) (st : Int32) : Mi l D tc tb y_SC_next prog_6_method_3_code 2 (some .int) ({ frames := 0, cells := 0, slots := 0, locals := 0 }) [.ref h0] [(h0, .inr (3, [.int (st)]))] (fun _ : Unit => True) (fun _ : Unit => scF st) (fun _ : Unit => [(h0, .inr (3, [.int (scN st)]))]) := by
  refine Mi.go (by decide) (Nat.le_of_ble_eq_true rfl) ?_
  intro p e s m below meth c A ls R args Q C
  obtain ⟨hx, hb, hr, hts, hown, hlk, hml, hin, hA, hST, hN, hK, hP, hD, hS, hl, hR, hQ⟩ := C
  have hw : ∀ w ∈ lw_g, w.before args s = true := fun w h => hts w (List.mem_cons_of_mem _ h)
  have hl : lv_has ls 2 [(0, .ref h0)] := hl
  refine lv_aload_n hx hb d_SC_next_0 rfl (lv_at hl 0 rfl) ?_
  refine k_get hx hb hw uw_SC hown hK hP 0 rfl rfl 0 (by decide) (hw _ wd_140) rfl d_SC_next_1 ?_
  refine lv_bipush (v := nI 6) hx hb d_SC_next_4 (by decide) ?_
  refine lv_ishr hx hb d_SC_next_6 ?_
  refine lv_aload_n hx hb d_SC_next_7 rfl (lv_at hl 0 rfl) ?_
  refine k_get hx hb hw uw_SC hown hK hP 0 rfl rfl 0 (by decide) (hw _ wd_140) rfl d_SC_next_8 ?_
  refine lv_iconst (v := nI 3) hx hb d_SC_next_11 (by decide) ?_
  refine lv_ishr hx hb d_SC_next_12 ?_
  refine lv_ixor hx hb d_SC_next_13 ?_
  refine lv_iconst (v := nI 1) hx hb d_SC_next_14 (by decide) ?_
  refine lv_iand hx hb d_SC_next_15 ?_
  refine lv_istore_n (lv' := [(1, .int (((st >>> ((nI 6) &&& 31)) ^^^ (st >>> ((nI 3) &&& 31))) &&& (nI 1))), (0, .ref h0)]) hx hb d_SC_next_16 rfl hl (by decide) rfl (fun ls hl => ?_)
  refine lv_aload_n hx hb d_SC_next_17 rfl (lv_at hl 1 rfl) ?_
  refine lv_aload_n hx hb d_SC_next_18 rfl (lv_at hl 1 rfl) ?_
  refine k_get hx hb hw uw_SC hown hK hP 0 rfl rfl 0 (by decide) (hw _ wd_140) rfl d_SC_next_19 ?_
  refine lv_iconst (v := nI 1) hx hb d_SC_next_22 (by decide) ?_
  refine lv_ishl hx hb d_SC_next_23 ?_
  refine lv_iload_n hx hb d_SC_next_24 rfl (lv_at hl 0 rfl) ?_
  refine lv_ior hx hb d_SC_next_25 ?_
  refine lv_bipush (v := nI 127) hx hb d_SC_next_26 (by decide) ?_
  refine lv_iand hx hb d_SC_next_28 ?_
  refine k_put (ws' := [(h0, .inr (3, [.int (((st <<< ((nI 1) &&& 31)) ||| (((st >>> ((nI 6) &&& 31)) ^^^ (st >>> ((nI 3) &&& 31))) &&& (nI 1))) &&& (nI 127))]))]) hx hb hw uw_SC tok_SC nn_SC hown hK hP hD hS 0 rfl rfl 0 (by decide) (hw _ wd_140) rfl rfl rfl (Nat.le_of_ble_eq_true rfl) d_SC_next_29 rfl (fun H locs hP hD hS => ?_)
  refine lv_iload_n hx hb d_SC_next_32 rfl (lv_at hl 0 rfl) ?_
  rw [hQ]
  exact k_iret () hx hb hr hlk hK hP hD hS [0] (by decide) rfl trivial rfl d_SC_next_33
set_option maxHeartbeats 4000000 in
set_option maxRecDepth 100000 in
theorem c_CL_saturate (l : Launch) (D : va_G) (tc : Nat → ClassId) (tb : Nat → Nat) (x : Int32) : Mi l D tc tb y_CL_saturate prog_1_method_19_code 1 (some .short) ({ frames := 1, cells := 0, slots := 0, locals := 18 }) [.int (x)] [] (fun _ : Unit => True) (fun _ : Unit => satF x) (fun _ : Unit => []) := by
  refine Mi.go (by decide) (Nat.le_of_ble_eq_true rfl) ?_
  intro p e s m below meth c A ls R args Q C
  obtain ⟨hx, hb, hr, hts, hown, hlk, hml, hin, hA, hST, hN, hK, hP, hD, hS, hl, hR, hQ⟩ := C
  have hw : ∀ w ∈ lw_g, w.before args s = true := fun w h => hts w (List.mem_cons_of_mem _ h)
  have hl : lv_has ls 1 [(0, .int (x))] := hl
  refine lv_sipush (v := -32768) hx hb d_CL_saturate_0 (by decide) ?_
  refine lv_sipush (v := nI 32767) hx hb d_CL_saturate_3 (by decide) ?_
  refine lv_iload_n hx hb d_CL_saturate_6 rfl (lv_at hl 0 rfl) ?_
  refine va_mmin hx hb (by rw [hml]; exact hl.1.symm) hown (hw _ wd_300) (hw _ wd_301) (hw _ wd_17) (hw _ wd_302) (by rw [hR]; exact Nat.le_of_ble_eq_true rfl) (by rw [hR]; exact Nat.le_of_ble_eq_true rfl) (by rw [hR]; exact Nat.zero_le _) (by rw [hR]; exact Nat.zero_le _) d_CL_saturate_7 ?_
  refine va_mmax hx hb (by rw [hml]; exact hl.1.symm) hown (hw _ wd_303) (hw _ wd_304) (hw _ wd_17) (hw _ wd_305) (by rw [hR]; exact Nat.le_of_ble_eq_true rfl) (by rw [hR]; exact Nat.le_of_ble_eq_true rfl) (by rw [hR]; exact Nat.zero_le _) (by rw [hR]; exact Nat.zero_le _) d_CL_saturate_10 ?_
  refine lv_i2s hx hb d_CL_saturate_13 rfl ?_
  rw [hQ]
  exact k_zret () hx hb hr hlk hK hP hD hS [] (by decide) rfl trivial (pk_ns _) (satF_class x) d_CL_saturate_14
set_option maxHeartbeats 4000000 in
set_option maxRecDepth 100000 in
theorem c_WA_init480 (l : Launch) (D : va_G) (tc : Nat → ClassId) (tb : Nat → Nat) (h0 : Nat) : Mv l D tc tb y_WA_init prog_8_method_1_code 2 none ({ frames := 1, cells := 2, slots := 960, locals := 12 }) [.ref h0, .int (nI 480)] [(h0, .inr (1, [.null, .null, .int (0)]))] (fun u : Nat × Nat => True) (fun u : Nat × Nat => [(h0, .inr (1, [.ref u.1, .ref u.2, .int (nI 0)])), (u.1, .inl (tc 1, 480, .inl (fun _ => 0))), (u.2, .inl (tc 1, 480, .inl (fun _ => 0)))]) := by
  refine Mv.go (by decide) (Nat.le_of_ble_eq_true rfl) ?_
  intro p e s m below meth c A ls R args Q C
  obtain ⟨hx, hb, hr, hts, hown, hlk, hml, hin, hA, hST, hN, hK, hP, hD, hS, hl, hR, hQ⟩ := C
  have hw : ∀ w ∈ lw_g, w.before args s = true := fun w h => hts w (List.mem_cons_of_mem _ h)
  have hl : lv_has ls 2 [(0, .ref h0), (1, .int (nI 480))] := hl
  refine lv_aload_n hx hb d_WA_init_0 rfl (lv_at hl 0 rfl) ?_
  refine W.objInit hx hb hown (hw _ wd_32) (hw _ wd_25) (hw _ wd_26) rfl (by rw [hml]; exact hl.1) rfl d_WA_init_1 (by rw [hR]; exact Nat.le_of_ble_eq_true rfl) (by rw [hR]; exact Nat.le_of_ble_eq_true rfl) ?_
  refine W.eq (g2 := F0 m 4 ls []) rfl ?_
  refine lv_aload_n hx hb d_WA_init_4 rfl (lv_at hl 0 rfl) ?_
  refine lv_iload_n hx hb d_WA_init_5 rfl (lv_at hl 1 rfl) ?_
  refine k_newaS hx hb (hw _ wd_52) hK hP hD hS hA (n := 480) (by decide) (by rw [hR]; exact Nat.le_of_ble_eq_true rfl) (by rw [hR]; exact Nat.le_of_ble_eq_true rfl) d_WA_init_6 (fun ni H hP hD hS => ?_)
  have hP : va_P D classes [(h0, .inr (1, [.null, .null, .int (0)])), (ni, .inl (tc 1, 480, .inl (fun _ => 0)))] H := hP
  have hD : va_D A [(h0, .inr (1, [.null, .null, .int (0)])), (ni, .inl (tc 1, 480, .inl (fun _ => 0)))] := hD
  refine W.widen (k := 1) (n := 480) (Nat.le_of_ble_eq_true rfl) (Nat.le_of_ble_eq_true rfl) ?_
  refine k_putF (ws' := [(h0, .inr (1, [.ref ni, .null, .int (0)])), (ni, .inl (tc 1, 480, .inl (fun _ => 0)))]) hx hb hw uw_WA tok_WA nn_WA hown hK hP hD hS 0 rfl rfl 0 (by decide) (hw _ wd_33) rfl hin rfl rfl rfl (Nat.le_of_ble_eq_true rfl) d_WA_init_8 rfl (fun H locs hP hD hS => ?_)
  refine lv_aload_n hx hb d_WA_init_11 rfl (lv_at hl 0 rfl) ?_
  refine lv_iload_n hx hb d_WA_init_12 rfl (lv_at hl 1 rfl) ?_
  refine k_newaS hx hb (hw _ wd_52) hK hP hD hS hA (n := 480) (by decide) (by rw [hR]; exact Nat.le_of_ble_eq_true rfl) (by rw [hR]; exact Nat.le_of_ble_eq_true rfl) d_WA_init_13 (fun nq H hP hD hS => ?_)
  have hP : va_P D classes [(h0, .inr (1, [.ref ni, .null, .int (0)])), (ni, .inl (tc 1, 480, .inl (fun _ => 0))), (nq, .inl (tc 1, 480, .inl (fun _ => 0)))] H := hP
  have hD : va_D A [(h0, .inr (1, [.ref ni, .null, .int (0)])), (ni, .inl (tc 1, 480, .inl (fun _ => 0))), (nq, .inl (tc 1, 480, .inl (fun _ => 0)))] := hD
  refine W.widen (k := 2) (n := 960) (Nat.le_of_ble_eq_true rfl) (Nat.le_of_ble_eq_true rfl) ?_
  refine k_putF (ws' := [(h0, .inr (1, [.ref ni, .ref nq, .int (0)])), (ni, .inl (tc 1, 480, .inl (fun _ => 0))), (nq, .inl (tc 1, 480, .inl (fun _ => 0)))]) hx hb hw uw_WA tok_WA nn_WA hown hK hP hD hS 0 rfl rfl 1 (by decide) (hw _ wd_37) rfl hin rfl rfl rfl (Nat.le_of_ble_eq_true rfl) d_WA_init_15 rfl (fun H locs hP hD hS => ?_)
  refine lv_aload_n hx hb d_WA_init_18 rfl (lv_at hl 0 rfl) ?_
  refine lv_iconst (v := nI 0) hx hb d_WA_init_19 (by decide) ?_
  refine k_put (ws' := [(h0, .inr (1, [.ref ni, .ref nq, .int (nI 0)])), (ni, .inl (tc 1, 480, .inl (fun _ => 0))), (nq, .inl (tc 1, 480, .inl (fun _ => 0)))]) hx hb hw uw_WA tok_WA nn_WA hown hK hP hD hS 0 rfl rfl 2 (by decide) (hw _ wd_41) rfl rfl rfl (Nat.le_of_ble_eq_true rfl) d_WA_init_20 rfl (fun H locs hP hD hS => ?_)
  rw [hQ]
  exact k_vret (ni, nq) hx hb hr hlk hK hP hD hS [0, 1, 2] (by decide) rfl trivial d_WA_init_23
set_option maxHeartbeats 4000000 in
set_option maxRecDepth 100000 in
theorem c_WA_init520 (l : Launch) (D : va_G) (tc : Nat → ClassId) (tb : Nat → Nat) (h0 : Nat) : Mv l D tc tb y_WA_init prog_8_method_1_code 2 none ({ frames := 1, cells := 2, slots := 1040, locals := 12 }) [.ref h0, .int (nI 520)] [(h0, .inr (1, [.null, .null, .int (0)]))] (fun u : Nat × Nat => True) (fun u : Nat × Nat => [(h0, .inr (1, [.ref u.1, .ref u.2, .int (nI 0)])), (u.1, .inl (tc 1, 520, .inl (fun _ => 0))), (u.2, .inl (tc 1, 520, .inl (fun _ => 0)))]) := by
  refine Mv.go (by decide) (Nat.le_of_ble_eq_true rfl) ?_
  intro p e s m below meth c A ls R args Q C
  obtain ⟨hx, hb, hr, hts, hown, hlk, hml, hin, hA, hST, hN, hK, hP, hD, hS, hl, hR, hQ⟩ := C
  have hw : ∀ w ∈ lw_g, w.before args s = true := fun w h => hts w (List.mem_cons_of_mem _ h)
  have hl : lv_has ls 2 [(0, .ref h0), (1, .int (nI 520))] := hl
  refine lv_aload_n hx hb d_WA_init_0 rfl (lv_at hl 0 rfl) ?_
  refine W.objInit hx hb hown (hw _ wd_32) (hw _ wd_25) (hw _ wd_26) rfl (by rw [hml]; exact hl.1) rfl d_WA_init_1 (by rw [hR]; exact Nat.le_of_ble_eq_true rfl) (by rw [hR]; exact Nat.le_of_ble_eq_true rfl) ?_
  refine W.eq (g2 := F0 m 4 ls []) rfl ?_
  refine lv_aload_n hx hb d_WA_init_4 rfl (lv_at hl 0 rfl) ?_
  refine lv_iload_n hx hb d_WA_init_5 rfl (lv_at hl 1 rfl) ?_
  refine k_newaS hx hb (hw _ wd_52) hK hP hD hS hA (n := 520) (by decide) (by rw [hR]; exact Nat.le_of_ble_eq_true rfl) (by rw [hR]; exact Nat.le_of_ble_eq_true rfl) d_WA_init_6 (fun ni H hP hD hS => ?_)
  have hP : va_P D classes [(h0, .inr (1, [.null, .null, .int (0)])), (ni, .inl (tc 1, 520, .inl (fun _ => 0)))] H := hP
  have hD : va_D A [(h0, .inr (1, [.null, .null, .int (0)])), (ni, .inl (tc 1, 520, .inl (fun _ => 0)))] := hD
  refine W.widen (k := 1) (n := 520) (Nat.le_of_ble_eq_true rfl) (Nat.le_of_ble_eq_true rfl) ?_
  refine k_putF (ws' := [(h0, .inr (1, [.ref ni, .null, .int (0)])), (ni, .inl (tc 1, 520, .inl (fun _ => 0)))]) hx hb hw uw_WA tok_WA nn_WA hown hK hP hD hS 0 rfl rfl 0 (by decide) (hw _ wd_33) rfl hin rfl rfl rfl (Nat.le_of_ble_eq_true rfl) d_WA_init_8 rfl (fun H locs hP hD hS => ?_)
  refine lv_aload_n hx hb d_WA_init_11 rfl (lv_at hl 0 rfl) ?_
  refine lv_iload_n hx hb d_WA_init_12 rfl (lv_at hl 1 rfl) ?_
  refine k_newaS hx hb (hw _ wd_52) hK hP hD hS hA (n := 520) (by decide) (by rw [hR]; exact Nat.le_of_ble_eq_true rfl) (by rw [hR]; exact Nat.le_of_ble_eq_true rfl) d_WA_init_13 (fun nq H hP hD hS => ?_)
  have hP : va_P D classes [(h0, .inr (1, [.ref ni, .null, .int (0)])), (ni, .inl (tc 1, 520, .inl (fun _ => 0))), (nq, .inl (tc 1, 520, .inl (fun _ => 0)))] H := hP
  have hD : va_D A [(h0, .inr (1, [.ref ni, .null, .int (0)])), (ni, .inl (tc 1, 520, .inl (fun _ => 0))), (nq, .inl (tc 1, 520, .inl (fun _ => 0)))] := hD
  refine W.widen (k := 2) (n := 1040) (Nat.le_of_ble_eq_true rfl) (Nat.le_of_ble_eq_true rfl) ?_
  refine k_putF (ws' := [(h0, .inr (1, [.ref ni, .ref nq, .int (0)])), (ni, .inl (tc 1, 520, .inl (fun _ => 0))), (nq, .inl (tc 1, 520, .inl (fun _ => 0)))]) hx hb hw uw_WA tok_WA nn_WA hown hK hP hD hS 0 rfl rfl 1 (by decide) (hw _ wd_37) rfl hin rfl rfl rfl (Nat.le_of_ble_eq_true rfl) d_WA_init_15 rfl (fun H locs hP hD hS => ?_)
  refine lv_aload_n hx hb d_WA_init_18 rfl (lv_at hl 0 rfl) ?_
  refine lv_iconst (v := nI 0) hx hb d_WA_init_19 (by decide) ?_
  refine k_put (ws' := [(h0, .inr (1, [.ref ni, .ref nq, .int (nI 0)])), (ni, .inl (tc 1, 520, .inl (fun _ => 0))), (nq, .inl (tc 1, 520, .inl (fun _ => 0)))]) hx hb hw uw_WA tok_WA nn_WA hown hK hP hD hS 0 rfl rfl 2 (by decide) (hw _ wd_41) rfl rfl rfl (Nat.le_of_ble_eq_true rfl) d_WA_init_20 rfl (fun H locs hP hD hS => ?_)
  rw [hQ]
  exact k_vret (ni, nq) hx hb hr hlk hK hP hD hS [0, 1, 2] (by decide) rfl trivial d_WA_init_23
set_option maxHeartbeats 4000000 in
set_option maxRecDepth 100000 in
theorem c_WA_clear (l : Launch) (D : va_G) (tc : Nat → ClassId) (tb : Nat → Nat) (h0 : Nat) (qi : Nat) (qq : Nat) (cnt : Nat) (n : Nat) (wi : Nat → Int32) (wq : Nat → Int32) : Mv l D tc tb y_WA_clear prog_8_method_2_code 1 none ({ frames := 0, cells := 0, slots := 0, locals := 0 }) [.ref h0] [(h0, .inr (1, [.ref qi, .ref qq, .int (nI cnt)])), (qi, .inl (tc 1, n, .inl wi)), (qq, .inl (tc 1, n, .inl wq))] (fun _ : Unit => True) (fun _ : Unit => [(h0, .inr (1, [.ref qi, .ref qq, .int (nI 0)])), (qi, .inl (tc 1, n, .inl wi)), (qq, .inl (tc 1, n, .inl wq))]) := by
  refine Mv.go (by decide) (Nat.le_of_ble_eq_true rfl) ?_
  intro p e s m below meth c A ls R args Q C
  obtain ⟨hx, hb, hr, hts, hown, hlk, hml, hin, hA, hST, hN, hK, hP, hD, hS, hl, hR, hQ⟩ := C
  have hw : ∀ w ∈ lw_g, w.before args s = true := fun w h => hts w (List.mem_cons_of_mem _ h)
  have hl : lv_has ls 1 [(0, .ref h0)] := hl
  refine lv_aload_n hx hb d_WA_clear_0 rfl (lv_at hl 0 rfl) ?_
  refine lv_iconst (v := nI 0) hx hb d_WA_clear_1 (by decide) ?_
  refine k_put (ws' := [(h0, .inr (1, [.ref qi, .ref qq, .int (nI 0)])), (qi, .inl (tc 1, n, .inl wi)), (qq, .inl (tc 1, n, .inl wq))]) hx hb hw uw_WA tok_WA nn_WA hown hK hP hD hS 0 rfl rfl 2 (by decide) (hw _ wd_41) rfl rfl rfl (Nat.le_of_ble_eq_true rfl) d_WA_clear_2 rfl (fun H locs hP hD hS => ?_)
  rw [hQ]
  exact k_vret () hx hb hr hlk hK hP hD hS [0, 1, 2] (by decide) rfl trivial d_WA_clear_5
set_option maxHeartbeats 4000000 in
set_option maxRecDepth 100000 in
theorem c_WA_has (l : Launch) (D : va_G) (tc : Nat → ClassId) (tb : Nat → Nat) (h0 : Nat) (qi : Nat) (qq : Nat) (cnt : Nat) (n : Nat) (wi : Nat → Int32) (wq : Nat → Int32) (x : Int32) : Mi l D tc tb y_WA_has prog_8_method_3_code 2 (some .boolean) ({ frames := 0, cells := 0, slots := 0, locals := 0 }) [.ref h0, .int (x)] [(h0, .inr (1, [.ref qi, .ref qq, .int (nI cnt)])), (qi, .inl (tc 1, n, .inl wi)), (qq, .inl (tc 1, n, .inl wq))] (fun _ : Unit => True) (fun _ : Unit => hasF x cnt) (fun _ : Unit => [(h0, .inr (1, [.ref qi, .ref qq, .int (nI cnt)])), (qi, .inl (tc 1, n, .inl wi)), (qq, .inl (tc 1, n, .inl wq))]) := by
  refine Mi.go (by decide) (Nat.le_of_ble_eq_true rfl) ?_
  intro p e s m below meth c A ls R args Q C
  obtain ⟨hx, hb, hr, hts, hown, hlk, hml, hin, hA, hST, hN, hK, hP, hD, hS, hl, hR, hQ⟩ := C
  have hw : ∀ w ∈ lw_g, w.before args s = true := fun w h => hts w (List.mem_cons_of_mem _ h)
  have hl : lv_has ls 2 [(0, .ref h0), (1, .int (x))] := hl
  refine lv_iload_n hx hb d_WA_has_0 rfl (lv_at hl 1 rfl) ?_
  refine lv_if_lt (tgt := 16) hx hb d_WA_has_1 (by decide) (fun h1 => ?_) (fun h1 => ?_)
  · refine lv_iconst (v := nI 0) hx hb d_WA_has_16 (by decide) ?_
    rw [hQ]
    exact k_zret () hx hb hr hlk hK hP hD hS [0, 1, 2] (by decide) rfl trivial rfl (by unfold hasF; first | (rw [if_pos h1]; rfl) | (rw [if_neg h1, if_pos h9]; rfl) | (rw [if_neg h1, if_neg h9]; rfl)) d_WA_has_17
  · refine lv_iload_n hx hb d_WA_has_4 rfl (lv_at hl 1 rfl) ?_
    refine lv_aload_n hx hb d_WA_has_5 rfl (lv_at hl 0 rfl) ?_
    refine k_get hx hb hw uw_WA hown hK hP 0 rfl rfl 2 (by decide) (hw _ wd_41) rfl d_WA_has_6 ?_
    refine lv_icmp_ge (tgt := 16) hx hb d_WA_has_9 (by decide) (fun h9 => ?_) (fun h9 => ?_)
    · refine lv_iconst (v := nI 0) hx hb d_WA_has_16 (by decide) ?_
      rw [hQ]
      exact k_zret () hx hb hr hlk hK hP hD hS [0, 1, 2] (by decide) rfl trivial rfl (by unfold hasF; first | (rw [if_pos h1]; rfl) | (rw [if_neg h1, if_pos h9]; rfl) | (rw [if_neg h1, if_neg h9]; rfl)) d_WA_has_17
    · refine lv_iconst (v := nI 1) hx hb d_WA_has_12 (by decide) ?_
      refine lv_goto (tgt := 17) hx hb d_WA_has_13 (by decide) ?_
      rw [hQ]
      exact k_zret () hx hb hr hlk hK hP hD hS [0, 1, 2] (by decide) rfl trivial rfl (by unfold hasF; first | (rw [if_pos h1]; rfl) | (rw [if_neg h1, if_pos h9]; rfl) | (rw [if_neg h1, if_neg h9]; rfl)) d_WA_has_17
set_option maxHeartbeats 4000000 in
set_option maxRecDepth 100000 in
theorem c_WA_append (l : Launch) (D : va_G) (tc : Nat → ClassId) (tb : Nat → Nat) (h0 : Nat) (qi : Nat) (qq : Nat) (cnt : Nat) (n : Nat) (wi : Nat → Int32) (wq : Nat → Int32) (x : Int32) (y : Int32) (hc : cnt < n) (hn : n < 1000) : Mv l D tc tb y_WA_append prog_8_method_4_code 3 none ({ frames := 2, cells := 0, slots := 0, locals := 38 }) [.ref h0, .int (x), .int (y)] [(h0, .inr (1, [.ref qi, .ref qq, .int (nI cnt)])), (qi, .inl (tc 1, n, .inl wi)), (qq, .inl (tc 1, n, .inl wq))] (fun _ : Unit => True) (fun _ : Unit => [(h0, .inr (1, [.ref qi, .ref qq, .int (nI (cnt + 1))])), (qi, .inl (tc 1, n, .inl (upd wi cnt (satF x)))), (qq, .inl (tc 1, n, .inl (upd wq cnt (satF y))))]) := by
  refine Mv.go (by decide) (Nat.le_of_ble_eq_true rfl) ?_
  intro p e s m below meth c A ls R args Q C
  obtain ⟨hx, hb, hr, hts, hown, hlk, hml, hin, hA, hST, hN, hK, hP, hD, hS, hl, hR, hQ⟩ := C
  have hw : ∀ w ∈ lw_g, w.before args s = true := fun w h => hts w (List.mem_cons_of_mem _ h)
  have hl : lv_has ls 3 [(0, .ref h0), (1, .int (x)), (2, .int (y))] := hl
  refine lv_aload_n hx hb d_WA_append_0 rfl (lv_at hl 0 rfl) ?_
  refine k_get hx hb hw uw_WA hown hK hP 0 rfl rfl 2 (by decide) (hw _ wd_41) rfl d_WA_append_1 ?_
  refine lv_aload_n hx hb d_WA_append_4 rfl (lv_at hl 0 rfl) ?_
  refine k_get hx hb hw uw_WA hown hK hP 0 rfl rfl 0 (by decide) (hw _ wd_33) rfl d_WA_append_5 ?_
  refine va_alen (v := nI n) hx hb hK hP 1 1 rfl rfl rfl d_WA_append_8 ?_
  refine k_icmp_ge (tgt := 48) hx hb d_WA_append_9 (by decide) (by omega) (by omega) (fun h9 => ?_) (fun h9 => ?_)
  · exfalso; omega
  · refine lv_aload_n hx hb d_WA_append_12 rfl (lv_at hl 0 rfl) ?_
    refine k_get hx hb hw uw_WA hown hK hP 0 rfl rfl 0 (by decide) (hw _ wd_33) rfl d_WA_append_13 ?_
    refine lv_aload_n hx hb d_WA_append_16 rfl (lv_at hl 0 rfl) ?_
    refine k_get hx hb hw uw_WA hown hK hP 0 rfl rfl 2 (by decide) (hw _ wd_41) rfl d_WA_append_17 ?_
    refine lv_iload_n hx hb d_WA_append_20 rfl (lv_at hl 1 rfl) ?_
    refine k_calli (wr := [(h0, .inr (1, [.ref qi, .ref qq, .int (nI cnt)])), (qi, .inl (tc 1, n, .inl wi)), (qq, .inl (tc 1, n, .inl wq))]) (k_runSN (As := [.int (x)]) (rest := [.int (nI cnt), .ref qi]) (wc := []) ⟨hx, hb, hml, hown, hts⟩ (c_CL_saturate l D tc tb x  s.heap.size) ⟨va_cnB 1 hts (k_good wd_299) rfl rfl rfl (hN _ wd_297) (hw _ wd_1) hd_CL_saturate ⟨by rw [hR]; exact Nat.le_of_ble_eq_true rfl, by rw [hR]; exact Nat.le_of_ble_eq_true rfl⟩, hw _ wd_298, trivial⟩ hK hP hD hS hST hN hA [] (by decide) rfl rfl hl.1 rfl (Nat.le_of_ble_eq_true rfl) d_WA_append_21 ⟨by rw [hR]; exact Nat.le_of_ble_eq_true rfl, by rw [hR]; exact Nat.le_of_ble_eq_true rfl⟩) hP hD hS hA [] [0, 1, 2] rfl rfl (by decide) (by decide) (fun _ H locs hp21 hP hD hS => ?_)
    have hP : va_P D classes [(h0, .inr (1, [.ref qi, .ref qq, .int (nI cnt)])), (qi, .inl (tc 1, n, .inl wi)), (qq, .inl (tc 1, n, .inl wq))] H := hP
    have hD : va_D A [(h0, .inr (1, [.ref qi, .ref qq, .int (nI cnt)])), (qi, .inl (tc 1, n, .inl wi)), (qq, .inl (tc 1, n, .inl wq))] := hD
    refine W.widen (k := 0) (n := 0) (Nat.le_of_ble_eq_true rfl) (Nat.le_of_ble_eq_true rfl) ?_
    refine W.eq (g2 := F0 m 24 ls [.int (satF x), .int (nI cnt), .ref qi]) rfl ?_
    refine k_sast (ws' := [(h0, .inr (1, [.ref qi, .ref qq, .int (nI cnt)])), (qi, .inl (tc 1, n, .inl (upd wi cnt (satF x)))), (qq, .inl (tc 1, n, .inl wq))]) hx hb hK hP hD hS 1 1 rfl rfl (by omega) (by omega) (satF_16 _) d_WA_append_24 rfl (fun H locs hP hD hS => ?_)
    refine lv_aload_n hx hb d_WA_append_25 rfl (lv_at hl 0 rfl) ?_
    refine k_get hx hb hw uw_WA hown hK hP 0 rfl rfl 1 (by decide) (hw _ wd_37) rfl d_WA_append_26 ?_
    refine lv_aload_n hx hb d_WA_append_29 rfl (lv_at hl 0 rfl) ?_
    refine k_get hx hb hw uw_WA hown hK hP 0 rfl rfl 2 (by decide) (hw _ wd_41) rfl d_WA_append_30 ?_
    refine lv_iload_n hx hb d_WA_append_33 rfl (lv_at hl 2 rfl) ?_
    refine k_calli (wr := [(h0, .inr (1, [.ref qi, .ref qq, .int (nI cnt)])), (qi, .inl (tc 1, n, .inl (upd wi cnt (satF x)))), (qq, .inl (tc 1, n, .inl wq))]) (k_runSN (As := [.int (y)]) (rest := [.int (nI cnt), .ref qq]) (wc := []) ⟨hx, hb, hml, hown, hts⟩ (c_CL_saturate l D tc tb y  H.size) ⟨va_cnB 1 hts (k_good wd_299) rfl rfl rfl (hN _ wd_297) (hw _ wd_1) hd_CL_saturate ⟨by rw [hR]; exact Nat.le_of_ble_eq_true rfl, by rw [hR]; exact Nat.le_of_ble_eq_true rfl⟩, hw _ wd_298, trivial⟩ hK hP hD hS hST hN hA [] (by decide) rfl rfl hl.1 rfl (Nat.le_of_ble_eq_true rfl) d_WA_append_34 ⟨by rw [hR]; exact Nat.le_of_ble_eq_true rfl, by rw [hR]; exact Nat.le_of_ble_eq_true rfl⟩) hP hD hS hA [] [0, 1, 2] rfl rfl (by decide) (by decide) (fun _ H locs hp34 hP hD hS => ?_)
    have hP : va_P D classes [(h0, .inr (1, [.ref qi, .ref qq, .int (nI cnt)])), (qi, .inl (tc 1, n, .inl (upd wi cnt (satF x)))), (qq, .inl (tc 1, n, .inl wq))] H := hP
    have hD : va_D A [(h0, .inr (1, [.ref qi, .ref qq, .int (nI cnt)])), (qi, .inl (tc 1, n, .inl (upd wi cnt (satF x)))), (qq, .inl (tc 1, n, .inl wq))] := hD
    refine W.widen (k := 0) (n := 0) (Nat.le_of_ble_eq_true rfl) (Nat.le_of_ble_eq_true rfl) ?_
    refine W.eq (g2 := F0 m 37 ls [.int (satF y), .int (nI cnt), .ref qq]) rfl ?_
    refine k_sast (ws' := [(h0, .inr (1, [.ref qi, .ref qq, .int (nI cnt)])), (qi, .inl (tc 1, n, .inl (upd wi cnt (satF x)))), (qq, .inl (tc 1, n, .inl (upd wq cnt (satF y))))]) hx hb hK hP hD hS 2 1 rfl rfl (by omega) (by omega) (satF_16 _) d_WA_append_37 rfl (fun H locs hP hD hS => ?_)
    refine lv_aload_n hx hb d_WA_append_38 rfl (lv_at hl 0 rfl) ?_
    refine lv_dup hx hb d_WA_append_39 rfl ?_
    refine k_get hx hb hw uw_WA hown hK hP 0 rfl rfl 2 (by decide) (hw _ wd_41) rfl d_WA_append_40 ?_
    refine lv_iconst (v := nI 1) hx hb d_WA_append_43 (by decide) ?_
    refine k_iadd hx hb d_WA_append_44 ?_
    refine k_put (ws' := [(h0, .inr (1, [.ref qi, .ref qq, .int (nI (cnt + 1))])), (qi, .inl (tc 1, n, .inl (upd wi cnt (satF x)))), (qq, .inl (tc 1, n, .inl (upd wq cnt (satF y))))]) hx hb hw uw_WA tok_WA nn_WA hown hK hP hD hS 0 rfl rfl 2 (by decide) (hw _ wd_41) rfl rfl rfl (Nat.le_of_ble_eq_true rfl) d_WA_append_45 rfl (fun H locs hP hD hS => ?_)
    rw [hQ]
    exact k_vret () hx hb hr hlk hK hP hD hS [0, 1, 2] (by decide) rfl trivial d_WA_append_48
set_option maxHeartbeats 4000000 in
set_option maxRecDepth 100000 in
theorem c_WA_addTo (l : Launch) (D : va_G) (tc : Nat → ClassId) (tb : Nat → Nat) (h0 : Nat) (qi : Nat) (qq : Nat) (cnt : Nat) (n : Nat) (wi : Nat → Int32) (wq : Nat → Int32) (k : Nat) (x : Int32) (y : Int32) (hc : k < n) (hn : n < 1000) : Mv l D tc tb y_WA_addTo prog_8_method_5_code 4 none ({ frames := 2, cells := 0, slots := 0, locals := 38 }) [.ref h0, .int (nI k), .int (x), .int (y)] [(h0, .inr (1, [.ref qi, .ref qq, .int (nI cnt)])), (qi, .inl (tc 1, n, .inl wi)), (qq, .inl (tc 1, n, .inl wq))] (fun _ : Unit => True) (fun _ : Unit => [(h0, .inr (1, [.ref qi, .ref qq, .int (nI cnt)])), (qi, .inl (tc 1, n, .inl (upd wi k (satF (wi k + x))))), (qq, .inl (tc 1, n, .inl (upd wq k (satF (wq k + y)))))]) := by
  refine Mv.go (by decide) (Nat.le_of_ble_eq_true rfl) ?_
  intro p e s m below meth c A ls R args Q C
  obtain ⟨hx, hb, hr, hts, hown, hlk, hml, hin, hA, hST, hN, hK, hP, hD, hS, hl, hR, hQ⟩ := C
  have hw : ∀ w ∈ lw_g, w.before args s = true := fun w h => hts w (List.mem_cons_of_mem _ h)
  have hl : lv_has ls 4 [(0, .ref h0), (1, .int (nI k)), (2, .int (x)), (3, .int (y))] := hl
  refine lv_aload_n hx hb d_WA_addTo_0 rfl (lv_at hl 0 rfl) ?_
  refine k_get hx hb hw uw_WA hown hK hP 0 rfl rfl 0 (by decide) (hw _ wd_33) rfl d_WA_addTo_1 ?_
  refine lv_iload_n hx hb d_WA_addTo_4 rfl (lv_at hl 1 rfl) ?_
  refine lv_aload_n hx hb d_WA_addTo_5 rfl (lv_at hl 0 rfl) ?_
  refine k_get hx hb hw uw_WA hown hK hP 0 rfl rfl 0 (by decide) (hw _ wd_33) rfl d_WA_addTo_6 ?_
  refine lv_iload_n hx hb d_WA_addTo_9 rfl (lv_at hl 1 rfl) ?_
  refine k_sald hx hb hK hP 1 1 rfl rfl (by omega) (by omega) d_WA_addTo_10 ?_
  refine lv_iload_n hx hb d_WA_addTo_11 rfl (lv_at hl 2 rfl) ?_
  refine lv_iadd hx hb d_WA_addTo_12 ?_
  refine k_calli (wr := [(h0, .inr (1, [.ref qi, .ref qq, .int (nI cnt)])), (qi, .inl (tc 1, n, .inl wi)), (qq, .inl (tc 1, n, .inl wq))]) (k_runSN (As := [.int ((wi k) + x)]) (rest := [.int (nI k), .ref qi]) (wc := []) ⟨hx, hb, hml, hown, hts⟩ (c_CL_saturate l D tc tb ((wi k) + x)  s.heap.size) ⟨va_cnB 1 hts (k_good wd_299) rfl rfl rfl (hN _ wd_297) (hw _ wd_1) hd_CL_saturate ⟨by rw [hR]; exact Nat.le_of_ble_eq_true rfl, by rw [hR]; exact Nat.le_of_ble_eq_true rfl⟩, hw _ wd_298, trivial⟩ hK hP hD hS hST hN hA [] (by decide) rfl rfl hl.1 rfl (Nat.le_of_ble_eq_true rfl) d_WA_addTo_13 ⟨by rw [hR]; exact Nat.le_of_ble_eq_true rfl, by rw [hR]; exact Nat.le_of_ble_eq_true rfl⟩) hP hD hS hA [] [0, 1, 2] rfl rfl (by decide) (by decide) (fun _ H locs hp13 hP hD hS => ?_)
  have hP : va_P D classes [(h0, .inr (1, [.ref qi, .ref qq, .int (nI cnt)])), (qi, .inl (tc 1, n, .inl wi)), (qq, .inl (tc 1, n, .inl wq))] H := hP
  have hD : va_D A [(h0, .inr (1, [.ref qi, .ref qq, .int (nI cnt)])), (qi, .inl (tc 1, n, .inl wi)), (qq, .inl (tc 1, n, .inl wq))] := hD
  refine W.widen (k := 0) (n := 0) (Nat.le_of_ble_eq_true rfl) (Nat.le_of_ble_eq_true rfl) ?_
  refine W.eq (g2 := F0 m 16 ls [.int (satF ((wi k) + x)), .int (nI k), .ref qi]) rfl ?_
  refine k_sast (ws' := [(h0, .inr (1, [.ref qi, .ref qq, .int (nI cnt)])), (qi, .inl (tc 1, n, .inl (upd wi k (satF ((wi k) + x))))), (qq, .inl (tc 1, n, .inl wq))]) hx hb hK hP hD hS 1 1 rfl rfl (by omega) (by omega) (satF_16 _) d_WA_addTo_16 rfl (fun H locs hP hD hS => ?_)
  refine lv_aload_n hx hb d_WA_addTo_17 rfl (lv_at hl 0 rfl) ?_
  refine k_get hx hb hw uw_WA hown hK hP 0 rfl rfl 1 (by decide) (hw _ wd_37) rfl d_WA_addTo_18 ?_
  refine lv_iload_n hx hb d_WA_addTo_21 rfl (lv_at hl 1 rfl) ?_
  refine lv_aload_n hx hb d_WA_addTo_22 rfl (lv_at hl 0 rfl) ?_
  refine k_get hx hb hw uw_WA hown hK hP 0 rfl rfl 1 (by decide) (hw _ wd_37) rfl d_WA_addTo_23 ?_
  refine lv_iload_n hx hb d_WA_addTo_26 rfl (lv_at hl 1 rfl) ?_
  refine k_sald hx hb hK hP 2 1 rfl rfl (by omega) (by omega) d_WA_addTo_27 ?_
  refine lv_iload_n hx hb d_WA_addTo_28 rfl (lv_at hl 3 rfl) ?_
  refine lv_iadd hx hb d_WA_addTo_29 ?_
  refine k_calli (wr := [(h0, .inr (1, [.ref qi, .ref qq, .int (nI cnt)])), (qi, .inl (tc 1, n, .inl (upd wi k (satF ((wi k) + x))))), (qq, .inl (tc 1, n, .inl wq))]) (k_runSN (As := [.int ((wq k) + y)]) (rest := [.int (nI k), .ref qq]) (wc := []) ⟨hx, hb, hml, hown, hts⟩ (c_CL_saturate l D tc tb ((wq k) + y)  H.size) ⟨va_cnB 1 hts (k_good wd_299) rfl rfl rfl (hN _ wd_297) (hw _ wd_1) hd_CL_saturate ⟨by rw [hR]; exact Nat.le_of_ble_eq_true rfl, by rw [hR]; exact Nat.le_of_ble_eq_true rfl⟩, hw _ wd_298, trivial⟩ hK hP hD hS hST hN hA [] (by decide) rfl rfl hl.1 rfl (Nat.le_of_ble_eq_true rfl) d_WA_addTo_30 ⟨by rw [hR]; exact Nat.le_of_ble_eq_true rfl, by rw [hR]; exact Nat.le_of_ble_eq_true rfl⟩) hP hD hS hA [] [0, 1, 2] rfl rfl (by decide) (by decide) (fun _ H locs hp30 hP hD hS => ?_)
  have hP : va_P D classes [(h0, .inr (1, [.ref qi, .ref qq, .int (nI cnt)])), (qi, .inl (tc 1, n, .inl (upd wi k (satF ((wi k) + x))))), (qq, .inl (tc 1, n, .inl wq))] H := hP
  have hD : va_D A [(h0, .inr (1, [.ref qi, .ref qq, .int (nI cnt)])), (qi, .inl (tc 1, n, .inl (upd wi k (satF ((wi k) + x))))), (qq, .inl (tc 1, n, .inl wq))] := hD
  refine W.widen (k := 0) (n := 0) (Nat.le_of_ble_eq_true rfl) (Nat.le_of_ble_eq_true rfl) ?_
  refine W.eq (g2 := F0 m 33 ls [.int (satF ((wq k) + y)), .int (nI k), .ref qq]) rfl ?_
  refine k_sast (ws' := [(h0, .inr (1, [.ref qi, .ref qq, .int (nI cnt)])), (qi, .inl (tc 1, n, .inl (upd wi k (satF ((wi k) + x))))), (qq, .inl (tc 1, n, .inl (upd wq k (satF ((wq k) + y)))))]) hx hb hK hP hD hS 2 1 rfl rfl (by omega) (by omega) (satF_16 _) d_WA_addTo_33 rfl (fun H locs hP hD hS => ?_)
  rw [hQ]
  exact k_vret () hx hb hr hlk hK hP hD hS [0, 1, 2] (by decide) rfl trivial d_WA_addTo_34
set_option maxHeartbeats 4000000 in
set_option maxRecDepth 100000 in
theorem c_AR_fill (l : Launch) (D : va_G) (tc : Nat → ClassId) (tb : Nat → Nat) (q : Nat) (n : Nat) (f : Nat → Int32) (x : Int32) (hn : n < 100000) : Mv l D tc tb y_AR_fill prog_20_method_103_code 4 none ({ frames := 0, cells := 0, slots := 0, locals := 0 }) [.ref q, .int (x)] [(q, .inl (tc 0, n, .inl f))] (fun _ : Unit => True) (fun _ : Unit => [(q, .inl (tc 0, n, .inl (fun _ => x)))]) := by
  refine Mv.go (by decide) (Nat.le_of_ble_eq_true rfl) ?_
  intro p e s m below meth c A ls R args Q C
  obtain ⟨hx, hb, hr, hts, hown, hlk, hml, hin, hA, hST, hN, hK, hP, hD, hS, hl, hR, hQ⟩ := C
  have hw : ∀ w ∈ lw_g, w.before args s = true := fun w h => hts w (List.mem_cons_of_mem _ h)
  have hl : lv_has ls 4 [(0, .ref q), (1, .int (x))] := hl
  refine lv_iconst (v := nI 0) hx hb d_AR_fill_0 (by decide) ?_
  refine lv_istore_n (lv' := [(2, .int (nI 0)), (0, .ref q), (1, .int (x))]) hx hb d_AR_fill_1 rfl hl (by decide) rfl (fun ls hl => ?_)
  refine lv_aload_n hx hb d_AR_fill_2 rfl (lv_at hl 1 rfl) ?_
  refine va_alen (v := nI n) hx hb hK hP 0 0 rfl rfl rfl d_AR_fill_3 ?_
  refine lv_istore_n (lv' := [(3, .int (nI n)), (2, .int (nI 0)), (0, .ref q), (1, .int (x))]) hx hb d_AR_fill_4 rfl hl (by decide) rfl (fun ls hl => ?_)
  refine k_loop (P := fun k : Nat => ∀ (H : Heap) (locs : List Loc) (ls : Array Slot), lv_has ls 4 [(3, .int (nI n)), (2, .int (nI k)), (0, .ref q), (1, .int (x))] → va_P D classes [(q, .inl (tc 0, n, .inl (gF (fun _ => x) f k)))] H → va_D A [(q, .inl (tc 0, n, .inl (gF (fun _ => x) f k)))] → va_S A s.heap H locs → W p l e R s m args below meth c H locs 0 0 Q (F0 m 5 ls [])) (n) (fun k hk_k ih_k  H locs ls hl hP hD hS => ?_) (0) (by omega)   s.heap [] ls (lv_sub hl [0, 1, 2, 3] rfl) (by exact hP) (k_Ds hD [0] (by decide) rfl) hS
  refine lv_iload_n hx hb d_AR_fill_5 rfl (lv_at hl 1 rfl) ?_
  refine lv_iload_n hx hb d_AR_fill_6 rfl (lv_at hl 0 rfl) ?_
  refine k_icmp_ge (tgt := 20) hx hb d_AR_fill_7 (by decide) (by omega) (by omega) (fun h7 => ?_) (fun h7 => ?_)
  · obtain rfl : n = k := by omega
    rw [hQ]
    have hP : va_P D classes [(q, .inl (tc 0, n, .inl (fun _ => x)))] H := k_rep hP 0 rfl (fun j hj => gF_all (fun _ => x) f n j hj) rfl
    have hD : va_D A [(q, .inl (tc 0, n, .inl (fun _ => x)))] := k_Ds hD [0] (by decide) rfl
    exact k_vret () hx hb hr hlk hK hP hD hS [0] (by decide) rfl trivial d_AR_fill_20
  · refine lv_aload_n hx hb d_AR_fill_10 rfl (lv_at hl 2 rfl) ?_
    refine lv_iload_n hx hb d_AR_fill_11 rfl (lv_at hl 1 rfl) ?_
    refine lv_iload_n hx hb d_AR_fill_12 rfl (lv_at hl 3 rfl) ?_
    refine k_iast (ws' := [(q, .inl (tc 0, n, .inl (upd (gF (fun _ => x) f k) k x)))]) hx hb hK hP hD hS 0 0 rfl rfl (by omega) (by omega) d_AR_fill_13 rfl (fun H locs hP hD hS => ?_)
    refine lv_iinc (k := 1) (v := nI (k + 1)) (lv' := [(2, .int (nI (k + 1))), (3, .int (nI n)), (0, .ref q), (1, .int (x))]) hx hb d_AR_fill_14 hl rfl (k_incN _ 1) (by decide) rfl (fun ls hl => ?_)
    refine lv_goto (tgt := 5) hx hb d_AR_fill_17 (by decide) ?_
    exact ih_k (by omega)   H locs ls (lv_sub hl [1, 0, 2, 3] rfl) (by exact hP) (k_Ds hD [0] (by decide) rfl) hS
set_option maxHeartbeats 4000000 in
set_option maxRecDepth 100000 in
theorem c_PO_init (l : Launch) (D : va_G) (tc : Nat → ClassId) (tb : Nat → Nat) (h0 : Nat) : Mv l D tc tb y_PO_init prog_4_method_1_code 1 none ({ frames := 1, cells := 2, slots := 32, locals := 12 }) [.ref h0] [(h0, .inr (2, [.null, .null]))] (fun u : Nat × Nat => True) (fun u : Nat × Nat => [(h0, .inr (2, [.ref u.1, .ref u.2])), (u.1, .inl (tc 0, 16, .inl (fun _ => 0))), (u.2, .inl (tc 0, 16, .inl (fun _ => 0)))]) := by
  refine Mv.go (by decide) (Nat.le_of_ble_eq_true rfl) ?_
  intro p e s m below meth c A ls R args Q C
  obtain ⟨hx, hb, hr, hts, hown, hlk, hml, hin, hA, hST, hN, hK, hP, hD, hS, hl, hR, hQ⟩ := C
  have hw : ∀ w ∈ lw_g, w.before args s = true := fun w h => hts w (List.mem_cons_of_mem _ h)
  have hl : lv_has ls 1 [(0, .ref h0)] := hl
  refine lv_aload_n hx hb d_PO_init_0 rfl (lv_at hl 0 rfl) ?_
  refine W.objInit hx hb hown (hw _ wd_58) (hw _ wd_25) (hw _ wd_26) rfl (by rw [hml]; exact hl.1) rfl d_PO_init_1 (by rw [hR]; exact Nat.le_of_ble_eq_true rfl) (by rw [hR]; exact Nat.le_of_ble_eq_true rfl) ?_
  refine W.eq (g2 := F0 m 4 ls []) rfl ?_
  refine lv_aload_n hx hb d_PO_init_4 rfl (lv_at hl 0 rfl) ?_
  refine lv_bipush (v := nI 16) hx hb d_PO_init_5 (by decide) ?_
  refine k_newaI hx hb (hw _ wd_51) hK hP hD hS hA (n := 16) (by decide) (by rw [hR]; exact Nat.le_of_ble_eq_true rfl) (by rw [hR]; exact Nat.le_of_ble_eq_true rfl) d_PO_init_7 (fun na H hP hD hS => ?_)
  have hP : va_P D classes [(h0, .inr (2, [.null, .null])), (na, .inl (tc 0, 16, .inl (fun _ => 0)))] H := hP
  have hD : va_D A [(h0, .inr (2, [.null, .null])), (na, .inl (tc 0, 16, .inl (fun _ => 0)))] := hD
  refine W.widen (k := 1) (n := 16) (Nat.le_of_ble_eq_true rfl) (Nat.le_of_ble_eq_true rfl) ?_
  refine k_putF (ws' := [(h0, .inr (2, [.ref na, .null])), (na, .inl (tc 0, 16, .inl (fun _ => 0)))]) hx hb hw uw_PO tok_PO nn_PO hown hK hP hD hS 0 rfl rfl 0 (by decide) (hw _ wd_59) rfl hin rfl rfl rfl (Nat.le_of_ble_eq_true rfl) d_PO_init_9 rfl (fun H locs hP hD hS => ?_)
  refine lv_aload_n hx hb d_PO_init_12 rfl (lv_at hl 0 rfl) ?_
  refine lv_bipush (v := nI 16) hx hb d_PO_init_13 (by decide) ?_
  refine k_newaI hx hb (hw _ wd_51) hK hP hD hS hA (n := 16) (by decide) (by rw [hR]; exact Nat.le_of_ble_eq_true rfl) (by rw [hR]; exact Nat.le_of_ble_eq_true rfl) d_PO_init_15 (fun nb H hP hD hS => ?_)
  have hP : va_P D classes [(h0, .inr (2, [.ref na, .null])), (na, .inl (tc 0, 16, .inl (fun _ => 0))), (nb, .inl (tc 0, 16, .inl (fun _ => 0)))] H := hP
  have hD : va_D A [(h0, .inr (2, [.ref na, .null])), (na, .inl (tc 0, 16, .inl (fun _ => 0))), (nb, .inl (tc 0, 16, .inl (fun _ => 0)))] := hD
  refine W.widen (k := 2) (n := 32) (Nat.le_of_ble_eq_true rfl) (Nat.le_of_ble_eq_true rfl) ?_
  refine k_putF (ws' := [(h0, .inr (2, [.ref na, .ref nb])), (na, .inl (tc 0, 16, .inl (fun _ => 0))), (nb, .inl (tc 0, 16, .inl (fun _ => 0)))]) hx hb hw uw_PO tok_PO nn_PO hown hK hP hD hS 0 rfl rfl 1 (by decide) (hw _ wd_63) rfl hin rfl rfl rfl (Nat.le_of_ble_eq_true rfl) d_PO_init_17 rfl (fun H locs hP hD hS => ?_)
  rw [hQ]
  exact k_vret (na, nb) hx hb hr hlk hK hP hD hS [0, 1, 2] (by decide) rfl trivial d_PO_init_20
set_option maxHeartbeats 4000000 in
set_option maxRecDepth 100000 in
theorem c_PO_clear (l : Launch) (D : va_G) (tc : Nat → ClassId) (tb : Nat → Nat) (h0 : Nat) (qa : Nat) (qb : Nat) (f : Nat → Int32) (g : Nat → Int32) : Mv l D tc tb y_PO_clear prog_4_method_2_code 1 none ({ frames := 1, cells := 0, slots := 0, locals := 23 }) [.ref h0] [(h0, .inr (2, [.ref qa, .ref qb])), (qa, .inl (tc 0, 16, .inl f)), (qb, .inl (tc 0, 16, .inl g))] (fun _ : Unit => True) (fun _ : Unit => [(h0, .inr (2, [.ref qa, .ref qb])), (qa, .inl (tc 0, 16, .inl (fun _ => nI 0))), (qb, .inl (tc 0, 16, .inl (fun _ => nI 0)))]) := by
  refine Mv.go (by decide) (Nat.le_of_ble_eq_true rfl) ?_
  intro p e s m below meth c A ls R args Q C
  obtain ⟨hx, hb, hr, hts, hown, hlk, hml, hin, hA, hST, hN, hK, hP, hD, hS, hl, hR, hQ⟩ := C
  have hw : ∀ w ∈ lw_g, w.before args s = true := fun w h => hts w (List.mem_cons_of_mem _ h)
  have hl : lv_has ls 1 [(0, .ref h0)] := hl
  refine lv_aload_n hx hb d_PO_clear_0 rfl (lv_at hl 0 rfl) ?_
  refine k_get hx hb hw uw_PO hown hK hP 0 rfl rfl 0 (by decide) (hw _ wd_59) rfl d_PO_clear_1 ?_
  refine lv_iconst (v := nI 0) hx hb d_PO_clear_4 (by decide) ?_
  refine k_callv (wr := [(h0, .inr (2, [.ref qa, .ref qb])), (qb, .inl (tc 0, 16, .inl g))]) (k_runS (As := [.ref qa, .int (nI 0)]) (rest := []) (wc := [(qa, .inl (tc 0, 16, .inl f))]) ⟨hx, hb, hml, hown, hts⟩ (c_AR_fill l D tc tb qa 16 f (nI 0) (by omega) s.heap.size) (va_cwS 2 hts (k_goodS wd_513 wd_174 wd_8 wd_175) rfl rfl rfl hd_AR_fill ⟨by rw [hR]; exact Nat.le_of_ble_eq_true rfl, by rw [hR]; exact Nat.le_of_ble_eq_true rfl⟩) hK hP hD hS hST hN hA [1] (by decide) rfl rfl hl.1 rfl (Nat.le_of_ble_eq_true rfl) d_PO_clear_5 ⟨by rw [hR]; exact Nat.le_of_ble_eq_true rfl, by rw [hR]; exact Nat.le_of_ble_eq_true rfl⟩) hP hD hS hA [1] [0, 2] rfl rfl (by decide) (by decide) (fun _ H locs hp5 hP hD hS => ?_)
  have hP : va_P D classes [(h0, .inr (2, [.ref qa, .ref qb])), (qb, .inl (tc 0, 16, .inl g)), (qa, .inl (tc 0, 16, .inl (fun _ => (nI 0))))] H := hP
  have hD : va_D A [(h0, .inr (2, [.ref qa, .ref qb])), (qb, .inl (tc 0, 16, .inl g)), (qa, .inl (tc 0, 16, .inl (fun _ => (nI 0))))] := hD
  refine W.widen (k := 0) (n := 0) (Nat.le_of_ble_eq_true rfl) (Nat.le_of_ble_eq_true rfl) ?_
  refine W.eq (g2 := F0 m 8 ls []) rfl ?_
  refine lv_aload_n hx hb d_PO_clear_8 rfl (lv_at hl 0 rfl) ?_
  refine k_get hx hb hw uw_PO hown hK hP 0 rfl rfl 1 (by decide) (hw _ wd_63) rfl d_PO_clear_9 ?_
  refine lv_iconst (v := nI 0) hx hb d_PO_clear_12 (by decide) ?_
  refine k_callv (wr := [(h0, .inr (2, [.ref qa, .ref qb])), (qa, .inl (tc 0, 16, .inl (fun _ => (nI 0))))]) (k_runS (As := [.ref qb, .int (nI 0)]) (rest := []) (wc := [(qb, .inl (tc 0, 16, .inl g))]) ⟨hx, hb, hml, hown, hts⟩ (c_AR_fill l D tc tb qb 16 g (nI 0) (by omega) H.size) (va_cwS 2 hts (k_goodS wd_513 wd_174 wd_8 wd_175) rfl rfl rfl hd_AR_fill ⟨by rw [hR]; exact Nat.le_of_ble_eq_true rfl, by rw [hR]; exact Nat.le_of_ble_eq_true rfl⟩) hK hP hD hS hST hN hA [1] (by decide) rfl rfl hl.1 rfl (Nat.le_of_ble_eq_true rfl) d_PO_clear_13 ⟨by rw [hR]; exact Nat.le_of_ble_eq_true rfl, by rw [hR]; exact Nat.le_of_ble_eq_true rfl⟩) hP hD hS hA [1] [0, 2] rfl rfl (by decide) (by decide) (fun _ H locs hp13 hP hD hS => ?_)
  have hP : va_P D classes [(h0, .inr (2, [.ref qa, .ref qb])), (qa, .inl (tc 0, 16, .inl (fun _ => (nI 0)))), (qb, .inl (tc 0, 16, .inl (fun _ => (nI 0))))] H := hP
  have hD : va_D A [(h0, .inr (2, [.ref qa, .ref qb])), (qa, .inl (tc 0, 16, .inl (fun _ => (nI 0)))), (qb, .inl (tc 0, 16, .inl (fun _ => (nI 0))))] := hD
  refine W.widen (k := 0) (n := 0) (Nat.le_of_ble_eq_true rfl) (Nat.le_of_ble_eq_true rfl) ?_
  refine W.eq (g2 := F0 m 16 ls []) rfl ?_
  rw [hQ]
  exact k_vret () hx hb hr hlk hK hP hD hS [0, 1, 2] (by decide) rfl trivial d_PO_clear_16
set_option maxHeartbeats 4000000 in
set_option maxRecDepth 100000 in
theorem c_PO_join (l : Launch) (D : va_G) (tc : Nat → ClassId) (tb : Nat → Nat) (h0 : Nat) (qa : Nat) (qb : Nat) (x : RP) (lo : Nat) (hi : Nat) (vc : Int64) (vd : Int64) (sh : Int32) (hlo : lo < 16) (hhi : hi < 16) : Mv l D tc tb y_PO_join prog_4_method_6_code 12 none ({ frames := 0, cells := 0, slots := 0, locals := 0 }) [.ref h0, .int (nI lo), .int (nI hi), .long (vc), .long (vd), .int (sh)] [(h0, .inr (2, [.ref qa, .ref qb])), (qa, .inl (tc 0, 16, .inl x.1)), (qb, .inl (tc 0, 16, .inl x.2))] (fun _ : Unit => True) (fun _ : Unit => [(h0, .inr (2, [.ref qa, .ref qb])), (qa, .inl (tc 0, 16, .inl ((joF lo hi vc vd sh x).1))), (qb, .inl (tc 0, 16, .inl ((joF lo hi vc vd sh x).2)))]) := by
  refine Mv.go (by decide) (Nat.le_of_ble_eq_true rfl) ?_
  intro p e s m below meth c A ls R args Q C
  obtain ⟨hx, hb, hr, hts, hown, hlk, hml, hin, hA, hST, hN, hK, hP, hD, hS, hl, hR, hQ⟩ := C
  have hw : ∀ w ∈ lw_g, w.before args s = true := fun w h => hts w (List.mem_cons_of_mem _ h)
  have hl : lv_has ls 12 [(0, .ref h0), (1, .int (nI lo)), (2, .int (nI hi)), (3, .long (vc)), (5, .long (vd)), (7, .int (sh))] := hl
  refine lv_aload_n hx hb d_PO_join_0 rfl (lv_at hl 0 rfl) ?_
  refine k_get hx hb hw uw_PO hown hK hP 0 rfl rfl 0 (by decide) (hw _ wd_59) rfl d_PO_join_1 ?_
  refine lv_iload_n hx hb d_PO_join_4 rfl (lv_at hl 2 rfl) ?_
  refine k_iald hx hb hK hP 1 0 rfl rfl (by omega) (by omega) d_PO_join_5 ?_
  refine lv_i2l hx hb d_PO_join_6 rfl ?_
  refine lv_lload_n hx hb d_PO_join_7 rfl (lv_at hl 3 rfl) ?_
  refine lv_lmul hx hb d_PO_join_8 ?_
  refine lv_aload_n hx hb d_PO_join_9 rfl (lv_at hl 0 rfl) ?_
  refine k_get hx hb hw uw_PO hown hK hP 0 rfl rfl 1 (by decide) (hw _ wd_63) rfl d_PO_join_10 ?_
  refine lv_iload_n hx hb d_PO_join_13 rfl (lv_at hl 2 rfl) ?_
  refine k_iald hx hb hK hP 2 0 rfl rfl (by omega) (by omega) d_PO_join_14 ?_
  refine lv_i2l hx hb d_PO_join_15 rfl ?_
  refine lv_lload hx hb d_PO_join_16 (lv_at hl 4 rfl) ?_
  refine lv_lmul hx hb d_PO_join_18 ?_
  refine lv_lsub hx hb d_PO_join_19 ?_
  refine lv_ldc2 (v := 8192) hx hb hown (hw _ wd_94) d_PO_join_20 ?_
  refine lv_ladd hx hb d_PO_join_23 ?_
  refine lv_bipush (v := nI 14) hx hb d_PO_join_24 (by decide) ?_
  refine lv_lshr hx hb d_PO_join_26 rfl ?_
  refine lv_l2i hx hb d_PO_join_27 rfl ?_
  refine lv_istore (lv' := [(8, .int (((((((x.1 hi).toInt64) * vc) - (((x.2 hi).toInt64) * vd)) + 8192) >>> ((nI 14).toInt64 &&& 63)).toInt32)), (0, .ref h0), (1, .int (nI lo)), (2, .int (nI hi)), (3, .long (vc)), (5, .long (vd)), (7, .int (sh))]) hx hb d_PO_join_28 hl (by decide) rfl (fun ls hl => ?_)
  refine lv_aload_n hx hb d_PO_join_30 rfl (lv_at hl 1 rfl) ?_
  refine k_get hx hb hw uw_PO hown hK hP 0 rfl rfl 1 (by decide) (hw _ wd_63) rfl d_PO_join_31 ?_
  refine lv_iload_n hx hb d_PO_join_34 rfl (lv_at hl 3 rfl) ?_
  refine k_iald hx hb hK hP 2 0 rfl rfl (by omega) (by omega) d_PO_join_35 ?_
  refine lv_i2l hx hb d_PO_join_36 rfl ?_
  refine lv_lload_n hx hb d_PO_join_37 rfl (lv_at hl 4 rfl) ?_
  refine lv_lmul hx hb d_PO_join_38 ?_
  refine lv_aload_n hx hb d_PO_join_39 rfl (lv_at hl 1 rfl) ?_
  refine k_get hx hb hw uw_PO hown hK hP 0 rfl rfl 0 (by decide) (hw _ wd_59) rfl d_PO_join_40 ?_
  refine lv_iload_n hx hb d_PO_join_43 rfl (lv_at hl 3 rfl) ?_
  refine k_iald hx hb hK hP 1 0 rfl rfl (by omega) (by omega) d_PO_join_44 ?_
  refine lv_i2l hx hb d_PO_join_45 rfl ?_
  refine lv_lload hx hb d_PO_join_46 (lv_at hl 5 rfl) ?_
  refine lv_lmul hx hb d_PO_join_48 ?_
  refine lv_ladd hx hb d_PO_join_49 ?_
  refine lv_ldc2 (v := 8192) hx hb hown (hw _ wd_94) d_PO_join_50 ?_
  refine lv_ladd hx hb d_PO_join_53 ?_
  refine lv_bipush (v := nI 14) hx hb d_PO_join_54 (by decide) ?_
  refine lv_lshr hx hb d_PO_join_56 rfl ?_
  refine lv_l2i hx hb d_PO_join_57 rfl ?_
  refine lv_istore (lv' := [(9, .int (((((((x.2 hi).toInt64) * vc) + (((x.1 hi).toInt64) * vd)) + 8192) >>> ((nI 14).toInt64 &&& 63)).toInt32)), (8, .int (((((((x.1 hi).toInt64) * vc) - (((x.2 hi).toInt64) * vd)) + 8192) >>> ((nI 14).toInt64 &&& 63)).toInt32)), (0, .ref h0), (1, .int (nI lo)), (2, .int (nI hi)), (3, .long (vc)), (5, .long (vd)), (7, .int (sh))]) hx hb d_PO_join_58 hl (by decide) rfl (fun ls hl => ?_)
  refine lv_aload_n hx hb d_PO_join_60 rfl (lv_at hl 2 rfl) ?_
  refine k_get hx hb hw uw_PO hown hK hP 0 rfl rfl 0 (by decide) (hw _ wd_59) rfl d_PO_join_61 ?_
  refine lv_iload_n hx hb d_PO_join_64 rfl (lv_at hl 3 rfl) ?_
  refine k_iald hx hb hK hP 1 0 rfl rfl (by omega) (by omega) d_PO_join_65 ?_
  refine lv_istore (lv' := [(10, .int (x.1 lo)), (9, .int (((((((x.2 hi).toInt64) * vc) + (((x.1 hi).toInt64) * vd)) + 8192) >>> ((nI 14).toInt64 &&& 63)).toInt32)), (8, .int (((((((x.1 hi).toInt64) * vc) - (((x.2 hi).toInt64) * vd)) + 8192) >>> ((nI 14).toInt64 &&& 63)).toInt32)), (0, .ref h0), (1, .int (nI lo)), (2, .int (nI hi)), (3, .long (vc)), (5, .long (vd)), (7, .int (sh))]) hx hb d_PO_join_66 hl (by decide) rfl (fun ls hl => ?_)
  refine lv_aload_n hx hb d_PO_join_68 rfl (lv_at hl 3 rfl) ?_
  refine k_get hx hb hw uw_PO hown hK hP 0 rfl rfl 1 (by decide) (hw _ wd_63) rfl d_PO_join_69 ?_
  refine lv_iload_n hx hb d_PO_join_72 rfl (lv_at hl 4 rfl) ?_
  refine k_iald hx hb hK hP 2 0 rfl rfl (by omega) (by omega) d_PO_join_73 ?_
  refine lv_istore (lv' := [(11, .int (x.2 lo)), (10, .int (x.1 lo)), (9, .int (((((((x.2 hi).toInt64) * vc) + (((x.1 hi).toInt64) * vd)) + 8192) >>> ((nI 14).toInt64 &&& 63)).toInt32)), (8, .int (((((((x.1 hi).toInt64) * vc) - (((x.2 hi).toInt64) * vd)) + 8192) >>> ((nI 14).toInt64 &&& 63)).toInt32)), (0, .ref h0), (1, .int (nI lo)), (2, .int (nI hi)), (3, .long (vc)), (5, .long (vd)), (7, .int (sh))]) hx hb d_PO_join_74 hl (by decide) rfl (fun ls hl => ?_)
  refine lv_aload_n hx hb d_PO_join_76 rfl (lv_at hl 4 rfl) ?_
  refine k_get hx hb hw uw_PO hown hK hP 0 rfl rfl 0 (by decide) (hw _ wd_59) rfl d_PO_join_77 ?_
  refine lv_iload_n hx hb d_PO_join_80 rfl (lv_at hl 5 rfl) ?_
  refine lv_iload hx hb d_PO_join_81 (lv_at hl 1 rfl) ?_
  refine lv_iload hx hb d_PO_join_83 (lv_at hl 3 rfl) ?_
  refine lv_iadd hx hb d_PO_join_85 ?_
  refine lv_iload hx hb d_PO_join_86 (lv_at hl 9 rfl) ?_
  refine lv_ishr hx hb d_PO_join_88 ?_
  refine k_iast (ws' := [(h0, .inr (2, [.ref qa, .ref qb])), (qa, .inl (tc 0, 16, .inl (upd x.1 lo (((x.1 lo) + (((((((x.1 hi).toInt64) * vc) - (((x.2 hi).toInt64) * vd)) + 8192) >>> ((nI 14).toInt64 &&& 63)).toInt32)) >>> (sh &&& 31))))), (qb, .inl (tc 0, 16, .inl x.2))]) hx hb hK hP hD hS 1 0 rfl rfl (by omega) (by omega) d_PO_join_89 rfl (fun H locs hP hD hS => ?_)
  refine lv_aload_n hx hb d_PO_join_90 rfl (lv_at hl 4 rfl) ?_
  refine k_get hx hb hw uw_PO hown hK hP 0 rfl rfl 1 (by decide) (hw _ wd_63) rfl d_PO_join_91 ?_
  refine lv_iload_n hx hb d_PO_join_94 rfl (lv_at hl 5 rfl) ?_
  refine lv_iload hx hb d_PO_join_95 (lv_at hl 0 rfl) ?_
  refine lv_iload hx hb d_PO_join_97 (lv_at hl 2 rfl) ?_
  refine lv_iadd hx hb d_PO_join_99 ?_
  refine lv_iload hx hb d_PO_join_100 (lv_at hl 9 rfl) ?_
  refine lv_ishr hx hb d_PO_join_102 ?_
  refine k_iast (ws' := [(h0, .inr (2, [.ref qa, .ref qb])), (qa, .inl (tc 0, 16, .inl (upd x.1 lo (((x.1 lo) + (((((((x.1 hi).toInt64) * vc) - (((x.2 hi).toInt64) * vd)) + 8192) >>> ((nI 14).toInt64 &&& 63)).toInt32)) >>> (sh &&& 31))))), (qb, .inl (tc 0, 16, .inl (upd x.2 lo (((x.2 lo) + (((((((x.2 hi).toInt64) * vc) + (((x.1 hi).toInt64) * vd)) + 8192) >>> ((nI 14).toInt64 &&& 63)).toInt32)) >>> (sh &&& 31)))))]) hx hb hK hP hD hS 2 0 rfl rfl (by omega) (by omega) d_PO_join_103 rfl (fun H locs hP hD hS => ?_)
  refine lv_aload_n hx hb d_PO_join_104 rfl (lv_at hl 4 rfl) ?_
  refine k_get hx hb hw uw_PO hown hK hP 0 rfl rfl 0 (by decide) (hw _ wd_59) rfl d_PO_join_105 ?_
  refine lv_iload_n hx hb d_PO_join_108 rfl (lv_at hl 6 rfl) ?_
  refine lv_iload hx hb d_PO_join_109 (lv_at hl 1 rfl) ?_
  refine lv_iload hx hb d_PO_join_111 (lv_at hl 3 rfl) ?_
  refine lv_isub hx hb d_PO_join_113 ?_
  refine lv_iload hx hb d_PO_join_114 (lv_at hl 9 rfl) ?_
  refine lv_ishr hx hb d_PO_join_116 ?_
  refine k_iast (ws' := [(h0, .inr (2, [.ref qa, .ref qb])), (qa, .inl (tc 0, 16, .inl (upd (upd x.1 lo (((x.1 lo) + (((((((x.1 hi).toInt64) * vc) - (((x.2 hi).toInt64) * vd)) + 8192) >>> ((nI 14).toInt64 &&& 63)).toInt32)) >>> (sh &&& 31))) hi (((x.1 lo) - (((((((x.1 hi).toInt64) * vc) - (((x.2 hi).toInt64) * vd)) + 8192) >>> ((nI 14).toInt64 &&& 63)).toInt32)) >>> (sh &&& 31))))), (qb, .inl (tc 0, 16, .inl (upd x.2 lo (((x.2 lo) + (((((((x.2 hi).toInt64) * vc) + (((x.1 hi).toInt64) * vd)) + 8192) >>> ((nI 14).toInt64 &&& 63)).toInt32)) >>> (sh &&& 31)))))]) hx hb hK hP hD hS 1 0 rfl rfl (by omega) (by omega) d_PO_join_117 rfl (fun H locs hP hD hS => ?_)
  refine lv_aload_n hx hb d_PO_join_118 rfl (lv_at hl 4 rfl) ?_
  refine k_get hx hb hw uw_PO hown hK hP 0 rfl rfl 1 (by decide) (hw _ wd_63) rfl d_PO_join_119 ?_
  refine lv_iload_n hx hb d_PO_join_122 rfl (lv_at hl 6 rfl) ?_
  refine lv_iload hx hb d_PO_join_123 (lv_at hl 0 rfl) ?_
  refine lv_iload hx hb d_PO_join_125 (lv_at hl 2 rfl) ?_
  refine lv_isub hx hb d_PO_join_127 ?_
  refine lv_iload hx hb d_PO_join_128 (lv_at hl 9 rfl) ?_
  refine lv_ishr hx hb d_PO_join_130 ?_
  refine k_iast (ws' := [(h0, .inr (2, [.ref qa, .ref qb])), (qa, .inl (tc 0, 16, .inl (upd (upd x.1 lo (((x.1 lo) + (((((((x.1 hi).toInt64) * vc) - (((x.2 hi).toInt64) * vd)) + 8192) >>> ((nI 14).toInt64 &&& 63)).toInt32)) >>> (sh &&& 31))) hi (((x.1 lo) - (((((((x.1 hi).toInt64) * vc) - (((x.2 hi).toInt64) * vd)) + 8192) >>> ((nI 14).toInt64 &&& 63)).toInt32)) >>> (sh &&& 31))))), (qb, .inl (tc 0, 16, .inl (upd (upd x.2 lo (((x.2 lo) + (((((((x.2 hi).toInt64) * vc) + (((x.1 hi).toInt64) * vd)) + 8192) >>> ((nI 14).toInt64 &&& 63)).toInt32)) >>> (sh &&& 31))) hi (((x.2 lo) - (((((((x.2 hi).toInt64) * vc) + (((x.1 hi).toInt64) * vd)) + 8192) >>> ((nI 14).toInt64 &&& 63)).toInt32)) >>> (sh &&& 31)))))]) hx hb hK hP hD hS 2 0 rfl rfl (by omega) (by omega) d_PO_join_131 rfl (fun H locs hP hD hS => ?_)
  rw [hQ]
  exact k_vret () hx hb hr hlk hK hP hD hS [0, 1, 2] (by decide) rfl trivial d_PO_join_132
set_option maxHeartbeats 4000000 in
set_option maxRecDepth 100000 in
theorem c_PO_turnRound (l : Launch) (D : va_G) (tc : Nat → ClassId) (tb : Nat → Nat) (h0 : Nat) (qa : Nat) (qb : Nat) (x : RP) : Mv l D tc tb y_PO_turnRound prog_4_method_7_code 5 none ({ frames := 0, cells := 0, slots := 0, locals := 0 }) [.ref h0] [(h0, .inr (2, [.ref qa, .ref qb])), (qa, .inl (tc 0, 16, .inl x.1)), (qb, .inl (tc 0, 16, .inl x.2))] (fun _ : Unit => True) (fun _ : Unit => [(h0, .inr (2, [.ref qa, .ref qb])), (qa, .inl (tc 0, 16, .inl ((rvF 16 x).1))), (qb, .inl (tc 0, 16, .inl ((rvF 16 x).2)))]) := by
  refine Mv.go (by decide) (Nat.le_of_ble_eq_true rfl) ?_
  intro p e s m below meth c A ls R args Q C
  obtain ⟨hx, hb, hr, hts, hown, hlk, hml, hin, hA, hST, hN, hK, hP, hD, hS, hl, hR, hQ⟩ := C
  have hw : ∀ w ∈ lw_g, w.before args s = true := fun w h => hts w (List.mem_cons_of_mem _ h)
  have hl : lv_has ls 5 [(0, .ref h0)] := hl
  refine lv_iconst (v := nI 0) hx hb d_PO_turnRound_0 (by decide) ?_
  refine lv_istore_n (lv' := [(1, .int (nI 0)), (0, .ref h0)]) hx hb d_PO_turnRound_1 rfl hl (by decide) rfl (fun ls hl => ?_)
  refine k_loop (P := fun k : Nat => ∀ (H : Heap) (locs : List Loc) (ls : Array Slot), lv_has ls 5 [(1, .int (nI k)), (0, .ref h0)] → va_P D classes [(h0, .inr (2, [.ref qa, .ref qb])), (qa, .inl (tc 0, 16, .inl ((rvF k x).1))), (qb, .inl (tc 0, 16, .inl ((rvF k x).2)))] H → va_D A [(h0, .inr (2, [.ref qa, .ref qb])), (qa, .inl (tc 0, 16, .inl ((rvF k x).1))), (qb, .inl (tc 0, 16, .inl ((rvF k x).2)))] → va_S A s.heap H locs → W p l e R s m args below meth c H locs 0 0 Q (F0 m 2 ls [])) (16) (fun k hk_k ih_k  H locs ls hl hP hD hS => ?_) (0) (by omega)   s.heap [] ls (lv_sub hl [0, 1] rfl) (by rw [rvF_0]; exact hP) (k_Ds hD [0, 1, 2] (by decide) rfl) hS
  refine lv_iload_n hx hb d_PO_turnRound_2 rfl (lv_at hl 0 rfl) ?_
  refine lv_bipush (v := nI 16) hx hb d_PO_turnRound_3 (by decide) ?_
  refine k_icmp_ge (tgt := 79) hx hb d_PO_turnRound_5 (by decide) (by omega) (by omega) (fun h5 => ?_) (fun h5 => ?_)
  · obtain rfl : 16 = k := by omega
    rw [hQ]
    exact k_vret () hx hb hr hlk hK hP hD hS [0, 1, 2] (by decide) rfl trivial d_PO_turnRound_79
  · have hrn := rnd_lt k h5
    refine k_tabN hx hb hST hS 4 rfl hown (va_Nw.use rfl (hN _ wd_86)) d_PO_turnRound_8 ?_
    refine lv_iload_n hx hb d_PO_turnRound_11 rfl (lv_at hl 0 rfl) ?_
    refine k_tald hx hb hST hS 4 rfl (by omega) (by omega) d_PO_turnRound_12 ?_
    refine lv_istore_n (lv' := [(2, .int (nI (rndN k))), (1, .int (nI k)), (0, .ref h0)]) hx hb d_PO_turnRound_13 rfl hl (by decide) rfl (fun ls hl => ?_)
    refine lv_iload_n hx hb d_PO_turnRound_14 rfl (lv_at hl 1 rfl) ?_
    refine lv_iload_n hx hb d_PO_turnRound_15 rfl (lv_at hl 0 rfl) ?_
    refine k_icmp_ge (tgt := 73) hx hb d_PO_turnRound_16 (by decide) (by omega) (by omega) (fun h16 => ?_) (fun h16 => ?_)
    · refine lv_iinc (k := 1) (v := nI (k + 1)) (lv' := [(1, .int (nI (k + 1))), (2, .int (nI (rndN k))), (0, .ref h0)]) hx hb d_PO_turnRound_73 hl rfl (k_incN _ 1) (by decide) rfl (fun ls hl => ?_)
      refine lv_goto (tgt := 2) hx hb d_PO_turnRound_76 (by decide) ?_
      exact ih_k (by omega)   H locs ls (lv_sub hl [0, 2] rfl) (by first | (rw [rvF_t _ h16]; exact hP) | (rw [rvF_f _ h16]; exact hP)) (k_Ds hD [0, 1, 2] (by decide) rfl) hS
    · refine lv_aload_n hx hb d_PO_turnRound_19 rfl (lv_at hl 2 rfl) ?_
      refine k_get hx hb hw uw_PO hown hK hP 0 rfl rfl 0 (by decide) (hw _ wd_59) rfl d_PO_turnRound_20 ?_
      refine lv_iload_n hx hb d_PO_turnRound_23 rfl (lv_at hl 1 rfl) ?_
      refine k_iald hx hb hK hP 1 0 rfl rfl (by omega) (by omega) d_PO_turnRound_24 ?_
      refine lv_istore_n (lv' := [(3, .int (((rvF k x).1) k)), (2, .int (nI (rndN k))), (1, .int (nI k)), (0, .ref h0)]) hx hb d_PO_turnRound_25 rfl hl (by decide) rfl (fun ls hl => ?_)
      refine lv_aload_n hx hb d_PO_turnRound_26 rfl (lv_at hl 3 rfl) ?_
      refine k_get hx hb hw uw_PO hown hK hP 0 rfl rfl 1 (by decide) (hw _ wd_63) rfl d_PO_turnRound_27 ?_
      refine lv_iload_n hx hb d_PO_turnRound_30 rfl (lv_at hl 2 rfl) ?_
      refine k_iald hx hb hK hP 2 0 rfl rfl (by omega) (by omega) d_PO_turnRound_31 ?_
      refine lv_istore (lv' := [(4, .int (((rvF k x).2) k)), (3, .int (((rvF k x).1) k)), (2, .int (nI (rndN k))), (1, .int (nI k)), (0, .ref h0)]) hx hb d_PO_turnRound_32 hl (by decide) rfl (fun ls hl => ?_)
      refine lv_aload_n hx hb d_PO_turnRound_34 rfl (lv_at hl 4 rfl) ?_
      refine k_get hx hb hw uw_PO hown hK hP 0 rfl rfl 0 (by decide) (hw _ wd_59) rfl d_PO_turnRound_35 ?_
      refine lv_iload_n hx hb d_PO_turnRound_38 rfl (lv_at hl 3 rfl) ?_
      refine lv_aload_n hx hb d_PO_turnRound_39 rfl (lv_at hl 4 rfl) ?_
      refine k_get hx hb hw uw_PO hown hK hP 0 rfl rfl 0 (by decide) (hw _ wd_59) rfl d_PO_turnRound_40 ?_
      refine lv_iload_n hx hb d_PO_turnRound_43 rfl (lv_at hl 2 rfl) ?_
      refine k_iald hx hb hK hP 1 0 rfl rfl (by omega) (by omega) d_PO_turnRound_44 ?_
      refine k_iast (ws' := [(h0, .inr (2, [.ref qa, .ref qb])), (qa, .inl (tc 0, 16, .inl (upd ((rvF k x).1) k (((rvF k x).1) (rndN k))))), (qb, .inl (tc 0, 16, .inl ((rvF k x).2)))]) hx hb hK hP hD hS 1 0 rfl rfl (by omega) (by omega) d_PO_turnRound_45 rfl (fun H locs hP hD hS => ?_)
      refine lv_aload_n hx hb d_PO_turnRound_46 rfl (lv_at hl 4 rfl) ?_
      refine k_get hx hb hw uw_PO hown hK hP 0 rfl rfl 1 (by decide) (hw _ wd_63) rfl d_PO_turnRound_47 ?_
      refine lv_iload_n hx hb d_PO_turnRound_50 rfl (lv_at hl 3 rfl) ?_
      refine lv_aload_n hx hb d_PO_turnRound_51 rfl (lv_at hl 4 rfl) ?_
      refine k_get hx hb hw uw_PO hown hK hP 0 rfl rfl 1 (by decide) (hw _ wd_63) rfl d_PO_turnRound_52 ?_
      refine lv_iload_n hx hb d_PO_turnRound_55 rfl (lv_at hl 2 rfl) ?_
      refine k_iald hx hb hK hP 2 0 rfl rfl (by omega) (by omega) d_PO_turnRound_56 ?_
      refine k_iast (ws' := [(h0, .inr (2, [.ref qa, .ref qb])), (qa, .inl (tc 0, 16, .inl (upd ((rvF k x).1) k (((rvF k x).1) (rndN k))))), (qb, .inl (tc 0, 16, .inl (upd ((rvF k x).2) k (((rvF k x).2) (rndN k)))))]) hx hb hK hP hD hS 2 0 rfl rfl (by omega) (by omega) d_PO_turnRound_57 rfl (fun H locs hP hD hS => ?_)
      refine lv_aload_n hx hb d_PO_turnRound_58 rfl (lv_at hl 4 rfl) ?_
      refine k_get hx hb hw uw_PO hown hK hP 0 rfl rfl 0 (by decide) (hw _ wd_59) rfl d_PO_turnRound_59 ?_
      refine lv_iload_n hx hb d_PO_turnRound_62 rfl (lv_at hl 2 rfl) ?_
      refine lv_iload_n hx hb d_PO_turnRound_63 rfl (lv_at hl 1 rfl) ?_
      refine k_iast (ws' := [(h0, .inr (2, [.ref qa, .ref qb])), (qa, .inl (tc 0, 16, .inl (upd (upd ((rvF k x).1) k (((rvF k x).1) (rndN k))) (rndN k) (((rvF k x).1) k)))), (qb, .inl (tc 0, 16, .inl (upd ((rvF k x).2) k (((rvF k x).2) (rndN k)))))]) hx hb hK hP hD hS 1 0 rfl rfl (by omega) (by omega) d_PO_turnRound_64 rfl (fun H locs hP hD hS => ?_)
      refine lv_aload_n hx hb d_PO_turnRound_65 rfl (lv_at hl 4 rfl) ?_
      refine k_get hx hb hw uw_PO hown hK hP 0 rfl rfl 1 (by decide) (hw _ wd_63) rfl d_PO_turnRound_66 ?_
      refine lv_iload_n hx hb d_PO_turnRound_69 rfl (lv_at hl 2 rfl) ?_
      refine lv_iload hx hb d_PO_turnRound_70 (lv_at hl 0 rfl) ?_
      refine k_iast (ws' := [(h0, .inr (2, [.ref qa, .ref qb])), (qa, .inl (tc 0, 16, .inl (upd (upd ((rvF k x).1) k (((rvF k x).1) (rndN k))) (rndN k) (((rvF k x).1) k)))), (qb, .inl (tc 0, 16, .inl (upd (upd ((rvF k x).2) k (((rvF k x).2) (rndN k))) (rndN k) (((rvF k x).2) k))))]) hx hb hK hP hD hS 2 0 rfl rfl (by omega) (by omega) d_PO_turnRound_72 rfl (fun H locs hP hD hS => ?_)
      refine lv_iinc (k := 3) (v := nI (k + 1)) (lv' := [(1, .int (nI (k + 1))), (4, .int (((rvF k x).2) k)), (3, .int (((rvF k x).1) k)), (2, .int (nI (rndN k))), (0, .ref h0)]) hx hb d_PO_turnRound_73 hl rfl (k_incN _ 1) (by decide) rfl (fun ls hl => ?_)
      refine lv_goto (tgt := 2) hx hb d_PO_turnRound_76 (by decide) ?_
      exact ih_k (by omega)   H locs ls (lv_sub hl [0, 4] rfl) (by first | (rw [rvF_t _ h16]; exact hP) | (rw [rvF_f _ h16]; exact hP)) (k_Ds hD [0, 1, 2] (by decide) rfl) hS
set_option maxHeartbeats 4000000 in
set_option maxRecDepth 100000 in
theorem c_PO_transform (l : Launch) (D : va_G) (tc : Nat → ClassId) (tb : Nat → Nat) (h0 : Nat) (qa : Nat) (qb : Nat) (x : RP) (sgn : Int32) : Mv l D tc tb y_PO_transform prog_4_method_5_code 11 none ({ frames := 1, cells := 0, slots := 0, locals := 31 }) [.ref h0, .int (sgn)] [(h0, .inr (2, [.ref qa, .ref qb])), (qa, .inl (tc 0, 16, .inl x.1)), (qb, .inl (tc 0, 16, .inl x.2))] (fun _ : Unit => True) (fun _ : Unit => [(h0, .inr (2, [.ref qa, .ref qb])), (qa, .inl (tc 0, 16, .inl ((trF sgn x).1))), (qb, .inl (tc 0, 16, .inl ((trF sgn x).2)))]) := by
  refine Mv.go (by decide) (Nat.le_of_ble_eq_true rfl) ?_
  intro p e s m below meth c A ls R args Q C
  obtain ⟨hx, hb, hr, hts, hown, hlk, hml, hin, hA, hST, hN, hK, hP, hD, hS, hl, hR, hQ⟩ := C
  have hw : ∀ w ∈ lw_g, w.before args s = true := fun w h => hts w (List.mem_cons_of_mem _ h)
  have hl : lv_has ls 11 [(0, .ref h0), (1, .int (sgn))] := hl
  refine lv_aload_n hx hb d_PO_transform_0 rfl (lv_at hl 0 rfl) ?_
  refine k_callv (wr := []) (k_runV (As := []) (rest := []) (wc := [(h0, .inr (2, [.ref qa, .ref qb])), (qa, .inl (tc 0, 16, .inl x.1)), (qb, .inl (tc 0, 16, .inl x.2))]) ⟨hx, hb, hml, hown, hts⟩ (c_PO_turnRound l D tc tb h0 qa qb x  s.heap.size) (cwV 0 hts (k_goodV wd_82 wd_84 wd_m1 wd_3 wd_85) rfl rfl rfl ⟨rfl, hd_PO_turnRound⟩ ⟨by rw [hR]; exact Nat.le_of_ble_eq_true rfl, by rw [hR]; exact Nat.le_of_ble_eq_true rfl⟩) hK hP hD hS hST hN hA [0, 1, 2] (by decide) rfl 0 rfl rfl rfl rfl hl.1 rfl (Nat.le_of_ble_eq_true rfl) d_PO_transform_1 ⟨by rw [hR]; exact Nat.le_of_ble_eq_true rfl, by rw [hR]; exact Nat.le_of_ble_eq_true rfl⟩) hP hD hS hA [0, 1, 2] [] rfl rfl (by decide) (by decide) (fun _ H locs hp1 hP hD hS => ?_)
  have hP : va_P D classes [(h0, .inr (2, [.ref qa, .ref qb])), (qa, .inl (tc 0, 16, .inl ((rvF 16 x).1))), (qb, .inl (tc 0, 16, .inl ((rvF 16 x).2)))] H := hP
  have hD : va_D A [(h0, .inr (2, [.ref qa, .ref qb])), (qa, .inl (tc 0, 16, .inl ((rvF 16 x).1))), (qb, .inl (tc 0, 16, .inl ((rvF 16 x).2)))] := hD
  refine W.widen (k := 0) (n := 0) (Nat.le_of_ble_eq_true rfl) (Nat.le_of_ble_eq_true rfl) ?_
  refine W.eq (g2 := F0 m 4 ls []) rfl ?_
  refine lv_iconst (v := nI 2) hx hb d_PO_transform_4 (by decide) ?_
  refine lv_istore_n (lv' := [(2, .int (nI 2)), (0, .ref h0), (1, .int (sgn))]) hx hb d_PO_transform_5 rfl hl (by decide) rfl (fun ls hl => ?_)
  refine lv_iload_n hx hb d_PO_transform_6 rfl (lv_at hl 0 rfl) ?_
  refine lv_bipush (v := nI 16) hx hb d_PO_transform_7 (by decide) ?_
  refine k_icmp_gt (tgt := 127) hx hb d_PO_transform_9 (by decide) (by omega) (by omega) (fun h9 => ?_) (fun h9 => ?_)
  · exfalso; omega
  · refine lv_bipush (v := nI 16) hx hb d_PO_transform_12 (by decide) ?_
    refine lv_iload_n hx hb d_PO_transform_14 rfl (lv_at hl 0 rfl) ?_
    refine k_idiv hx hb d_PO_transform_15 (by omega) (by omega) (by omega) ?_
    refine lv_istore_n (lv' := [(3, .int (nI 8)), (2, .int (nI 2)), (0, .ref h0), (1, .int (sgn))]) hx hb d_PO_transform_16 rfl hl (by decide) rfl (fun ls hl => ?_)
    refine lv_iload_n hx hb d_PO_transform_17 rfl (lv_at hl 1 rfl) ?_
    refine lv_iconst (v := nI 2) hx hb d_PO_transform_18 (by decide) ?_
    refine k_icmp_eq (tgt := 28) hx hb d_PO_transform_19 (by decide) (by omega) (by omega) (fun h19 => ?_) (fun h19 => ?_)
    · refine lv_iconst (v := nI 1) hx hb d_PO_transform_28 (by decide) ?_
      refine lv_goto (tgt := 33) hx hb d_PO_transform_29 (by decide) ?_
      refine lv_istore (lv' := [(4, .int (nI 1)), (3, .int (nI 8)), (2, .int (nI 2)), (0, .ref h0), (1, .int (sgn))]) hx hb d_PO_transform_33 hl (by decide) rfl (fun ls hl => ?_)
      refine lv_iconst (v := nI 0) hx hb d_PO_transform_35 (by decide) ?_
      refine lv_istore (lv' := [(5, .int (nI 0)), (4, .int (nI 1)), (3, .int (nI 8)), (2, .int (nI 2)), (0, .ref h0), (1, .int (sgn))]) hx hb d_PO_transform_36 hl (by decide) rfl (fun ls hl => ?_)
      refine k_loop (P := fun j : Nat => ∀ (H : Heap) (locs : List Loc) (ls : Array Slot), lv_has ls 11 [(5, .int (nI j)), (4, .int (nI 1)), (3, .int (nI 8)), (2, .int (nI 2)), (0, .ref h0), (1, .int (sgn))] → va_P D classes [(h0, .inr (2, [.ref qa, .ref qb])), (qa, .inl (tc 0, 16, .inl ((stF 2 1 8 8 (nI 1) sgn j (rvF 16 x)).1))), (qb, .inl (tc 0, 16, .inl ((stF 2 1 8 8 (nI 1) sgn j (rvF 16 x)).2)))] H → va_D A [(h0, .inr (2, [.ref qa, .ref qb])), (qa, .inl (tc 0, 16, .inl ((stF 2 1 8 8 (nI 1) sgn j (rvF 16 x)).1))), (qb, .inl (tc 0, 16, .inl ((stF 2 1 8 8 (nI 1) sgn j (rvF 16 x)).2)))] → va_S A s.heap H locs → W p l e R s m args below meth c H locs 0 0 Q (F0 m 38 ls [])) (1) (fun j hk_j ih_j  H locs ls hl hP hD hS => ?_) (0) (by omega)   H locs ls (lv_sub hl [0, 1, 2, 3, 4, 5] rfl) (by rw [stF_0]; exact hP) (k_Ds hD [0, 1, 2] (by decide) rfl) hS
      refine lv_iload hx hb d_PO_transform_38 (lv_at hl 0 rfl) ?_
      refine lv_iload_n hx hb d_PO_transform_40 rfl (lv_at hl 3 rfl) ?_
      refine lv_iconst (v := nI 2) hx hb d_PO_transform_41 (by decide) ?_
      refine k_idiv hx hb d_PO_transform_42 (by omega) (by omega) (by omega) ?_
      refine k_icmp_ge (tgt := 120) hx hb d_PO_transform_43 (by decide) (by omega) (by omega) (fun h43 => ?_) (fun h43 => ?_)
      · obtain rfl : 1 = j := by omega
        refine lv_iload_n hx hb d_PO_transform_120 rfl (lv_at hl 3 rfl) ?_
        refine lv_iconst (v := nI 2) hx hb d_PO_transform_121 (by decide) ?_
        refine k_imul hx hb d_PO_transform_122 ?_
        refine lv_istore_n (lv' := [(2, .int (nI 4)), (5, .int (nI 1)), (4, .int (nI 1)), (3, .int (nI 8)), (0, .ref h0), (1, .int (sgn))]) hx hb d_PO_transform_123 rfl hl (by decide) rfl (fun ls hl => ?_)
        refine lv_goto (tgt := 6) hx hb d_PO_transform_124 (by decide) ?_
        refine lv_iload_n hx hb d_PO_transform_6 rfl (lv_at hl 0 rfl) ?_
        refine lv_bipush (v := nI 16) hx hb d_PO_transform_7 (by decide) ?_
        refine k_icmp_gt (tgt := 127) hx hb d_PO_transform_9 (by decide) (by omega) (by omega) (fun h9 => ?_) (fun h9 => ?_)
        · exfalso; omega
        · refine lv_bipush (v := nI 16) hx hb d_PO_transform_12 (by decide) ?_
          refine lv_iload_n hx hb d_PO_transform_14 rfl (lv_at hl 0 rfl) ?_
          refine k_idiv hx hb d_PO_transform_15 (by omega) (by omega) (by omega) ?_
          refine lv_istore_n (lv' := [(3, .int (nI 4)), (2, .int (nI 4)), (5, .int (nI 1)), (4, .int (nI 1)), (0, .ref h0), (1, .int (sgn))]) hx hb d_PO_transform_16 rfl hl (by decide) rfl (fun ls hl => ?_)
          refine lv_iload_n hx hb d_PO_transform_17 rfl (lv_at hl 1 rfl) ?_
          refine lv_iconst (v := nI 2) hx hb d_PO_transform_18 (by decide) ?_
          refine k_icmp_eq (tgt := 28) hx hb d_PO_transform_19 (by decide) (by omega) (by omega) (fun h19 => ?_) (fun h19 => ?_)
          · exfalso; omega
          · refine lv_iload_n hx hb d_PO_transform_22 rfl (lv_at hl 1 rfl) ?_
            refine lv_bipush (v := nI 8) hx hb d_PO_transform_23 (by decide) ?_
            refine k_icmp_ne (tgt := 32) hx hb d_PO_transform_25 (by decide) (by omega) (by omega) (fun h25 => ?_) (fun h25 => ?_)
            · refine lv_iconst (v := nI 0) hx hb d_PO_transform_32 (by decide) ?_
              refine lv_istore (lv' := [(4, .int (nI 0)), (3, .int (nI 4)), (2, .int (nI 4)), (5, .int (nI 1)), (0, .ref h0), (1, .int (sgn))]) hx hb d_PO_transform_33 hl (by decide) rfl (fun ls hl => ?_)
              refine lv_iconst (v := nI 0) hx hb d_PO_transform_35 (by decide) ?_
              refine lv_istore (lv' := [(5, .int (nI 0)), (4, .int (nI 0)), (3, .int (nI 4)), (2, .int (nI 4)), (0, .ref h0), (1, .int (sgn))]) hx hb d_PO_transform_36 hl (by decide) rfl (fun ls hl => ?_)
              refine k_loop (P := fun j : Nat => ∀ (H : Heap) (locs : List Loc) (ls : Array Slot), lv_has ls 11 [(5, .int (nI j)), (4, .int (nI 0)), (3, .int (nI 4)), (2, .int (nI 4)), (0, .ref h0), (1, .int (sgn))] → va_P D classes [(h0, .inr (2, [.ref qa, .ref qb])), (qa, .inl (tc 0, 16, .inl ((stF 4 2 4 4 (nI 0) sgn j (stF 2 1 8 8 (nI 1) sgn 1 (rvF 16 x))).1))), (qb, .inl (tc 0, 16, .inl ((stF 4 2 4 4 (nI 0) sgn j (stF 2 1 8 8 (nI 1) sgn 1 (rvF 16 x))).2)))] H → va_D A [(h0, .inr (2, [.ref qa, .ref qb])), (qa, .inl (tc 0, 16, .inl ((stF 4 2 4 4 (nI 0) sgn j (stF 2 1 8 8 (nI 1) sgn 1 (rvF 16 x))).1))), (qb, .inl (tc 0, 16, .inl ((stF 4 2 4 4 (nI 0) sgn j (stF 2 1 8 8 (nI 1) sgn 1 (rvF 16 x))).2)))] → va_S A s.heap H locs → W p l e R s m args below meth c H locs 0 0 Q (F0 m 38 ls [])) (2) (fun j hk_j ih_j  H locs ls hl hP hD hS => ?_) (0) (by omega)   H locs ls (lv_sub hl [0, 1, 2, 3, 4, 5] rfl) (by rw [stF_0]; exact hP) (k_Ds hD [0, 1, 2] (by decide) rfl) hS
              refine lv_iload hx hb d_PO_transform_38 (lv_at hl 0 rfl) ?_
              refine lv_iload_n hx hb d_PO_transform_40 rfl (lv_at hl 3 rfl) ?_
              refine lv_iconst (v := nI 2) hx hb d_PO_transform_41 (by decide) ?_
              refine k_idiv hx hb d_PO_transform_42 (by omega) (by omega) (by omega) ?_
              refine k_icmp_ge (tgt := 120) hx hb d_PO_transform_43 (by decide) (by omega) (by omega) (fun h43 => ?_) (fun h43 => ?_)
              · obtain rfl : 2 = j := by omega
                refine lv_iload_n hx hb d_PO_transform_120 rfl (lv_at hl 3 rfl) ?_
                refine lv_iconst (v := nI 2) hx hb d_PO_transform_121 (by decide) ?_
                refine k_imul hx hb d_PO_transform_122 ?_
                refine lv_istore_n (lv' := [(2, .int (nI 8)), (5, .int (nI 2)), (4, .int (nI 0)), (3, .int (nI 4)), (0, .ref h0), (1, .int (sgn))]) hx hb d_PO_transform_123 rfl hl (by decide) rfl (fun ls hl => ?_)
                refine lv_goto (tgt := 6) hx hb d_PO_transform_124 (by decide) ?_
                refine lv_iload_n hx hb d_PO_transform_6 rfl (lv_at hl 0 rfl) ?_
                refine lv_bipush (v := nI 16) hx hb d_PO_transform_7 (by decide) ?_
                refine k_icmp_gt (tgt := 127) hx hb d_PO_transform_9 (by decide) (by omega) (by omega) (fun h9 => ?_) (fun h9 => ?_)
                · exfalso; omega
                · refine lv_bipush (v := nI 16) hx hb d_PO_transform_12 (by decide) ?_
                  refine lv_iload_n hx hb d_PO_transform_14 rfl (lv_at hl 0 rfl) ?_
                  refine k_idiv hx hb d_PO_transform_15 (by omega) (by omega) (by omega) ?_
                  refine lv_istore_n (lv' := [(3, .int (nI 2)), (2, .int (nI 8)), (5, .int (nI 2)), (4, .int (nI 0)), (0, .ref h0), (1, .int (sgn))]) hx hb d_PO_transform_16 rfl hl (by decide) rfl (fun ls hl => ?_)
                  refine lv_iload_n hx hb d_PO_transform_17 rfl (lv_at hl 1 rfl) ?_
                  refine lv_iconst (v := nI 2) hx hb d_PO_transform_18 (by decide) ?_
                  refine k_icmp_eq (tgt := 28) hx hb d_PO_transform_19 (by decide) (by omega) (by omega) (fun h19 => ?_) (fun h19 => ?_)
                  · exfalso; omega
                  · refine lv_iload_n hx hb d_PO_transform_22 rfl (lv_at hl 1 rfl) ?_
                    refine lv_bipush (v := nI 8) hx hb d_PO_transform_23 (by decide) ?_
                    refine k_icmp_ne (tgt := 32) hx hb d_PO_transform_25 (by decide) (by omega) (by omega) (fun h25 => ?_) (fun h25 => ?_)
                    · exfalso; omega
                    · refine lv_iconst (v := nI 1) hx hb d_PO_transform_28 (by decide) ?_
                      refine lv_goto (tgt := 33) hx hb d_PO_transform_29 (by decide) ?_
                      refine lv_istore (lv' := [(4, .int (nI 1)), (3, .int (nI 2)), (2, .int (nI 8)), (5, .int (nI 2)), (0, .ref h0), (1, .int (sgn))]) hx hb d_PO_transform_33 hl (by decide) rfl (fun ls hl => ?_)
                      refine lv_iconst (v := nI 0) hx hb d_PO_transform_35 (by decide) ?_
                      refine lv_istore (lv' := [(5, .int (nI 0)), (4, .int (nI 1)), (3, .int (nI 2)), (2, .int (nI 8)), (0, .ref h0), (1, .int (sgn))]) hx hb d_PO_transform_36 hl (by decide) rfl (fun ls hl => ?_)
                      refine k_loop (P := fun j : Nat => ∀ (H : Heap) (locs : List Loc) (ls : Array Slot), lv_has ls 11 [(5, .int (nI j)), (4, .int (nI 1)), (3, .int (nI 2)), (2, .int (nI 8)), (0, .ref h0), (1, .int (sgn))] → va_P D classes [(h0, .inr (2, [.ref qa, .ref qb])), (qa, .inl (tc 0, 16, .inl ((stF 8 4 2 2 (nI 1) sgn j (stF 4 2 4 4 (nI 0) sgn 2 (stF 2 1 8 8 (nI 1) sgn 1 (rvF 16 x)))).1))), (qb, .inl (tc 0, 16, .inl ((stF 8 4 2 2 (nI 1) sgn j (stF 4 2 4 4 (nI 0) sgn 2 (stF 2 1 8 8 (nI 1) sgn 1 (rvF 16 x)))).2)))] H → va_D A [(h0, .inr (2, [.ref qa, .ref qb])), (qa, .inl (tc 0, 16, .inl ((stF 8 4 2 2 (nI 1) sgn j (stF 4 2 4 4 (nI 0) sgn 2 (stF 2 1 8 8 (nI 1) sgn 1 (rvF 16 x)))).1))), (qb, .inl (tc 0, 16, .inl ((stF 8 4 2 2 (nI 1) sgn j (stF 4 2 4 4 (nI 0) sgn 2 (stF 2 1 8 8 (nI 1) sgn 1 (rvF 16 x)))).2)))] → va_S A s.heap H locs → W p l e R s m args below meth c H locs 0 0 Q (F0 m 38 ls [])) (4) (fun j hk_j ih_j  H locs ls hl hP hD hS => ?_) (0) (by omega)   H locs ls (lv_sub hl [0, 1, 2, 3, 4, 5] rfl) (by rw [stF_0]; exact hP) (k_Ds hD [0, 1, 2] (by decide) rfl) hS
                      refine lv_iload hx hb d_PO_transform_38 (lv_at hl 0 rfl) ?_
                      refine lv_iload_n hx hb d_PO_transform_40 rfl (lv_at hl 3 rfl) ?_
                      refine lv_iconst (v := nI 2) hx hb d_PO_transform_41 (by decide) ?_
                      refine k_idiv hx hb d_PO_transform_42 (by omega) (by omega) (by omega) ?_
                      refine k_icmp_ge (tgt := 120) hx hb d_PO_transform_43 (by decide) (by omega) (by omega) (fun h43 => ?_) (fun h43 => ?_)
                      · obtain rfl : 4 = j := by omega
                        refine lv_iload_n hx hb d_PO_transform_120 rfl (lv_at hl 3 rfl) ?_
                        refine lv_iconst (v := nI 2) hx hb d_PO_transform_121 (by decide) ?_
                        refine k_imul hx hb d_PO_transform_122 ?_
                        refine lv_istore_n (lv' := [(2, .int (nI 16)), (5, .int (nI 4)), (4, .int (nI 1)), (3, .int (nI 2)), (0, .ref h0), (1, .int (sgn))]) hx hb d_PO_transform_123 rfl hl (by decide) rfl (fun ls hl => ?_)
                        refine lv_goto (tgt := 6) hx hb d_PO_transform_124 (by decide) ?_
                        refine lv_iload_n hx hb d_PO_transform_6 rfl (lv_at hl 0 rfl) ?_
                        refine lv_bipush (v := nI 16) hx hb d_PO_transform_7 (by decide) ?_
                        refine k_icmp_gt (tgt := 127) hx hb d_PO_transform_9 (by decide) (by omega) (by omega) (fun h9 => ?_) (fun h9 => ?_)
                        · exfalso; omega
                        · refine lv_bipush (v := nI 16) hx hb d_PO_transform_12 (by decide) ?_
                          refine lv_iload_n hx hb d_PO_transform_14 rfl (lv_at hl 0 rfl) ?_
                          refine k_idiv hx hb d_PO_transform_15 (by omega) (by omega) (by omega) ?_
                          refine lv_istore_n (lv' := [(3, .int (nI 1)), (2, .int (nI 16)), (5, .int (nI 4)), (4, .int (nI 1)), (0, .ref h0), (1, .int (sgn))]) hx hb d_PO_transform_16 rfl hl (by decide) rfl (fun ls hl => ?_)
                          refine lv_iload_n hx hb d_PO_transform_17 rfl (lv_at hl 1 rfl) ?_
                          refine lv_iconst (v := nI 2) hx hb d_PO_transform_18 (by decide) ?_
                          refine k_icmp_eq (tgt := 28) hx hb d_PO_transform_19 (by decide) (by omega) (by omega) (fun h19 => ?_) (fun h19 => ?_)
                          · exfalso; omega
                          · refine lv_iload_n hx hb d_PO_transform_22 rfl (lv_at hl 1 rfl) ?_
                            refine lv_bipush (v := nI 8) hx hb d_PO_transform_23 (by decide) ?_
                            refine k_icmp_ne (tgt := 32) hx hb d_PO_transform_25 (by decide) (by omega) (by omega) (fun h25 => ?_) (fun h25 => ?_)
                            · refine lv_iconst (v := nI 0) hx hb d_PO_transform_32 (by decide) ?_
                              refine lv_istore (lv' := [(4, .int (nI 0)), (3, .int (nI 1)), (2, .int (nI 16)), (5, .int (nI 4)), (0, .ref h0), (1, .int (sgn))]) hx hb d_PO_transform_33 hl (by decide) rfl (fun ls hl => ?_)
                              refine lv_iconst (v := nI 0) hx hb d_PO_transform_35 (by decide) ?_
                              refine lv_istore (lv' := [(5, .int (nI 0)), (4, .int (nI 0)), (3, .int (nI 1)), (2, .int (nI 16)), (0, .ref h0), (1, .int (sgn))]) hx hb d_PO_transform_36 hl (by decide) rfl (fun ls hl => ?_)
                              refine k_loop (P := fun j : Nat => ∀ (H : Heap) (locs : List Loc) (ls : Array Slot), lv_has ls 11 [(5, .int (nI j)), (4, .int (nI 0)), (3, .int (nI 1)), (2, .int (nI 16)), (0, .ref h0), (1, .int (sgn))] → va_P D classes [(h0, .inr (2, [.ref qa, .ref qb])), (qa, .inl (tc 0, 16, .inl ((stF 16 8 1 1 (nI 0) sgn j (stF 8 4 2 2 (nI 1) sgn 4 (stF 4 2 4 4 (nI 0) sgn 2 (stF 2 1 8 8 (nI 1) sgn 1 (rvF 16 x))))).1))), (qb, .inl (tc 0, 16, .inl ((stF 16 8 1 1 (nI 0) sgn j (stF 8 4 2 2 (nI 1) sgn 4 (stF 4 2 4 4 (nI 0) sgn 2 (stF 2 1 8 8 (nI 1) sgn 1 (rvF 16 x))))).2)))] H → va_D A [(h0, .inr (2, [.ref qa, .ref qb])), (qa, .inl (tc 0, 16, .inl ((stF 16 8 1 1 (nI 0) sgn j (stF 8 4 2 2 (nI 1) sgn 4 (stF 4 2 4 4 (nI 0) sgn 2 (stF 2 1 8 8 (nI 1) sgn 1 (rvF 16 x))))).1))), (qb, .inl (tc 0, 16, .inl ((stF 16 8 1 1 (nI 0) sgn j (stF 8 4 2 2 (nI 1) sgn 4 (stF 4 2 4 4 (nI 0) sgn 2 (stF 2 1 8 8 (nI 1) sgn 1 (rvF 16 x))))).2)))] → va_S A s.heap H locs → W p l e R s m args below meth c H locs 0 0 Q (F0 m 38 ls [])) (8) (fun j hk_j ih_j  H locs ls hl hP hD hS => ?_) (0) (by omega)   H locs ls (lv_sub hl [0, 1, 2, 3, 4, 5] rfl) (by rw [stF_0]; exact hP) (k_Ds hD [0, 1, 2] (by decide) rfl) hS
                              refine lv_iload hx hb d_PO_transform_38 (lv_at hl 0 rfl) ?_
                              refine lv_iload_n hx hb d_PO_transform_40 rfl (lv_at hl 3 rfl) ?_
                              refine lv_iconst (v := nI 2) hx hb d_PO_transform_41 (by decide) ?_
                              refine k_idiv hx hb d_PO_transform_42 (by omega) (by omega) (by omega) ?_
                              refine k_icmp_ge (tgt := 120) hx hb d_PO_transform_43 (by decide) (by omega) (by omega) (fun h43 => ?_) (fun h43 => ?_)
                              · obtain rfl : 8 = j := by omega
                                refine lv_iload_n hx hb d_PO_transform_120 rfl (lv_at hl 3 rfl) ?_
                                refine lv_iconst (v := nI 2) hx hb d_PO_transform_121 (by decide) ?_
                                refine k_imul hx hb d_PO_transform_122 ?_
                                refine lv_istore_n (lv' := [(2, .int (nI 32)), (5, .int (nI 8)), (4, .int (nI 0)), (3, .int (nI 1)), (0, .ref h0), (1, .int (sgn))]) hx hb d_PO_transform_123 rfl hl (by decide) rfl (fun ls hl => ?_)
                                refine lv_goto (tgt := 6) hx hb d_PO_transform_124 (by decide) ?_
                                refine lv_iload_n hx hb d_PO_transform_6 rfl (lv_at hl 0 rfl) ?_
                                refine lv_bipush (v := nI 16) hx hb d_PO_transform_7 (by decide) ?_
                                refine k_icmp_gt (tgt := 127) hx hb d_PO_transform_9 (by decide) (by omega) (by omega) (fun h9 => ?_) (fun h9 => ?_)
                                · rw [hQ]
                                  have hP : va_P D classes [(h0, .inr (2, [.ref qa, .ref qb])), (qa, .inl (tc 0, 16, .inl ((trF sgn x).1))), (qb, .inl (tc 0, 16, .inl ((trF sgn x).2)))] H := by rw [trF_d]; exact hP
                                  have hD : va_D A [(h0, .inr (2, [.ref qa, .ref qb])), (qa, .inl (tc 0, 16, .inl ((trF sgn x).1))), (qb, .inl (tc 0, 16, .inl ((trF sgn x).2)))] := k_Ds hD [0, 1, 2] (by decide) rfl
                                  exact k_vret () hx hb hr hlk hK hP hD hS [0, 1, 2] (by decide) rfl trivial d_PO_transform_127
                                · exfalso; omega
                              · refine k_tabN hx hb hST hS 5 rfl hown (va_Nw.use rfl (hN _ wd_88)) d_PO_transform_46 ?_
                                refine lv_iload hx hb d_PO_transform_49 (lv_at hl 0 rfl) ?_
                                refine lv_iload_n hx hb d_PO_transform_51 rfl (lv_at hl 2 rfl) ?_
                                refine k_imul hx hb d_PO_transform_52 ?_
                                refine k_tald hx hb hST hS 5 rfl (by omega) (by omega) d_PO_transform_53 ?_
                                refine lv_i2l hx hb d_PO_transform_54 rfl ?_
                                refine lv_lstore (lv' := [(6, .long ((cosT (j * 1)).toInt64)), (5, .int (nI j)), (4, .int (nI 0)), (3, .int (nI 1)), (2, .int (nI 16)), (0, .ref h0), (1, .int (sgn))]) hx hb d_PO_transform_55 hl (by decide) rfl (fun ls hl => ?_)
                                refine lv_iload_n hx hb d_PO_transform_57 rfl (lv_at hl 6 rfl) ?_
                                refine k_tabN hx hb hST hS 5 rfl hown (va_Nw.use rfl (hN _ wd_88)) d_PO_transform_58 ?_
                                refine lv_iload hx hb d_PO_transform_61 (lv_at hl 1 rfl) ?_
                                refine lv_iload_n hx hb d_PO_transform_63 rfl (lv_at hl 3 rfl) ?_
                                refine k_imul hx hb d_PO_transform_64 ?_
                                refine lv_bipush (v := nI 12) hx hb d_PO_transform_65 (by decide) ?_
                                refine k_iadd hx hb d_PO_transform_67 ?_
                                refine lv_bipush (v := nI 16) hx hb d_PO_transform_68 (by decide) ?_
                                refine k_irem hx hb d_PO_transform_70 (by omega) (by omega) (by omega) ?_
                                refine k_tald hx hb hST hS 5 rfl (by omega) (by omega) d_PO_transform_71 ?_
                                refine lv_imul hx hb d_PO_transform_72 ?_
                                refine lv_i2l hx hb d_PO_transform_73 rfl ?_
                                refine lv_lstore (lv' := [(8, .long ((sgn * (cosT (((j * 1) + 12) % 16))).toInt64)), (6, .long ((cosT (j * 1)).toInt64)), (5, .int (nI j)), (4, .int (nI 0)), (3, .int (nI 1)), (2, .int (nI 16)), (0, .ref h0), (1, .int (sgn))]) hx hb d_PO_transform_74 hl (by decide) rfl (fun ls hl => ?_)
                                refine lv_iload hx hb d_PO_transform_76 (lv_at hl 2 rfl) ?_
                                refine lv_istore (lv' := [(10, .int (nI j)), (8, .long ((sgn * (cosT (((j * 1) + 12) % 16))).toInt64)), (6, .long ((cosT (j * 1)).toInt64)), (5, .int (nI j)), (4, .int (nI 0)), (3, .int (nI 1)), (2, .int (nI 16)), (0, .ref h0), (1, .int (sgn))]) hx hb d_PO_transform_78 hl (by decide) rfl (fun ls hl => ?_)
                                refine k_loop (P := fun t : Nat => ∀ (H : Heap) (locs : List Loc) (ls : Array Slot), lv_has ls 11 [(10, .int (nI (j + 16 * t))), (8, .long ((sgn * (cosT (((j * 1) + 12) % 16))).toInt64)), (6, .long ((cosT (j * 1)).toInt64)), (5, .int (nI j)), (4, .int (nI 0)), (3, .int (nI 1)), (2, .int (nI 16)), (0, .ref h0), (1, .int (sgn))] → va_P D classes [(h0, .inr (2, [.ref qa, .ref qb])), (qa, .inl (tc 0, 16, .inl ((loF 16 8 j ((cosT (j * 1)).toInt64) ((sgn * (cosT (((j * 1) + 12) % 16))).toInt64) (nI 0) t (stF 16 8 1 1 (nI 0) sgn j (stF 8 4 2 2 (nI 1) sgn 4 (stF 4 2 4 4 (nI 0) sgn 2 (stF 2 1 8 8 (nI 1) sgn 1 (rvF 16 x)))))).1))), (qb, .inl (tc 0, 16, .inl ((loF 16 8 j ((cosT (j * 1)).toInt64) ((sgn * (cosT (((j * 1) + 12) % 16))).toInt64) (nI 0) t (stF 16 8 1 1 (nI 0) sgn j (stF 8 4 2 2 (nI 1) sgn 4 (stF 4 2 4 4 (nI 0) sgn 2 (stF 2 1 8 8 (nI 1) sgn 1 (rvF 16 x)))))).2)))] H → va_D A [(h0, .inr (2, [.ref qa, .ref qb])), (qa, .inl (tc 0, 16, .inl ((loF 16 8 j ((cosT (j * 1)).toInt64) ((sgn * (cosT (((j * 1) + 12) % 16))).toInt64) (nI 0) t (stF 16 8 1 1 (nI 0) sgn j (stF 8 4 2 2 (nI 1) sgn 4 (stF 4 2 4 4 (nI 0) sgn 2 (stF 2 1 8 8 (nI 1) sgn 1 (rvF 16 x)))))).1))), (qb, .inl (tc 0, 16, .inl ((loF 16 8 j ((cosT (j * 1)).toInt64) ((sgn * (cosT (((j * 1) + 12) % 16))).toInt64) (nI 0) t (stF 16 8 1 1 (nI 0) sgn j (stF 8 4 2 2 (nI 1) sgn 4 (stF 4 2 4 4 (nI 0) sgn 2 (stF 2 1 8 8 (nI 1) sgn 1 (rvF 16 x)))))).2)))] → va_S A s.heap H locs → W p l e R s m args below meth c H locs 0 0 Q (F0 m 80 ls [])) (1) (fun t hk_t ih_t  H locs ls hl hP hD hS => ?_) (0) (by omega)   H locs ls (lv_sub hl [0, 1, 2, 3, 4, 5, 6, 7, 8] rfl) (by rw [loF_0]; exact hP) (k_Ds hD [0, 1, 2] (by decide) rfl) hS
                                refine lv_iload hx hb d_PO_transform_80 (lv_at hl 0 rfl) ?_
                                refine lv_bipush (v := nI 16) hx hb d_PO_transform_82 (by decide) ?_
                                refine k_icmp_ge (tgt := 114) hx hb d_PO_transform_84 (by decide) (by omega) (by omega) (fun h84 => ?_) (fun h84 => ?_)
                                · obtain rfl : 1 = t := by omega
                                  refine lv_iinc (k := 3) (v := nI (j + 1)) (lv' := [(5, .int (nI (j + 1))), (10, .int (nI (j + 16 * 1))), (8, .long ((sgn * (cosT (((j * 1) + 12) % 16))).toInt64)), (6, .long ((cosT (j * 1)).toInt64)), (4, .int (nI 0)), (3, .int (nI 1)), (2, .int (nI 16)), (0, .ref h0), (1, .int (sgn))]) hx hb d_PO_transform_114 hl rfl (k_incN _ 1) (by decide) rfl (fun ls hl => ?_)
                                  refine lv_goto (tgt := 38) hx hb d_PO_transform_117 (by decide) ?_
                                  exact ih_j (by omega)   H locs ls (lv_sub hl [0, 4, 5, 6, 7, 8] rfl) (by rw [stF_s]; exact hP) (k_Ds hD [0, 1, 2] (by decide) rfl) hS
                                · refine lv_aload_n hx hb d_PO_transform_87 rfl (lv_at hl 7 rfl) ?_
                                  refine lv_iload hx hb d_PO_transform_88 (lv_at hl 0 rfl) ?_
                                  refine lv_iload hx hb d_PO_transform_90 (lv_at hl 0 rfl) ?_
                                  refine lv_iload_n hx hb d_PO_transform_92 rfl (lv_at hl 6 rfl) ?_
                                  refine lv_iconst (v := nI 2) hx hb d_PO_transform_93 (by decide) ?_
                                  refine k_idiv hx hb d_PO_transform_94 (by omega) (by omega) (by omega) ?_
                                  refine k_iadd hx hb d_PO_transform_95 ?_
                                  refine lv_lload hx hb d_PO_transform_96 (lv_at hl 2 rfl) ?_
                                  refine lv_lload hx hb d_PO_transform_98 (lv_at hl 1 rfl) ?_
                                  refine lv_iload hx hb d_PO_transform_100 (lv_at hl 4 rfl) ?_
                                  refine k_callv (wr := []) (k_runV (As := [.int (nI (j + 16 * t)), .int (nI ((j + 16 * t) + 8)), .long ((cosT (j * 1)).toInt64), .long ((sgn * (cosT (((j * 1) + 12) % 16))).toInt64), .int (nI 0)]) (rest := []) (wc := [(h0, .inr (2, [.ref qa, .ref qb])), (qa, .inl (tc 0, 16, .inl ((loF 16 8 j ((cosT (j * 1)).toInt64) ((sgn * (cosT (((j * 1) + 12) % 16))).toInt64) (nI 0) t (stF 16 8 1 1 (nI 0) sgn j (stF 8 4 2 2 (nI 1) sgn 4 (stF 4 2 4 4 (nI 0) sgn 2 (stF 2 1 8 8 (nI 1) sgn 1 (rvF 16 x)))))).1))), (qb, .inl (tc 0, 16, .inl ((loF 16 8 j ((cosT (j * 1)).toInt64) ((sgn * (cosT (((j * 1) + 12) % 16))).toInt64) (nI 0) t (stF 16 8 1 1 (nI 0) sgn j (stF 8 4 2 2 (nI 1) sgn 4 (stF 4 2 4 4 (nI 0) sgn 2 (stF 2 1 8 8 (nI 1) sgn 1 (rvF 16 x)))))).2)))]) ⟨hx, hb, hml, hown, hts⟩ (c_PO_join l D tc tb h0 qa qb (loF 16 8 j ((cosT (j * 1)).toInt64) ((sgn * (cosT (((j * 1) + 12) % 16))).toInt64) (nI 0) t (stF 16 8 1 1 (nI 0) sgn j (stF 8 4 2 2 (nI 1) sgn 4 (stF 4 2 4 4 (nI 0) sgn 2 (stF 2 1 8 8 (nI 1) sgn 1 (rvF 16 x)))))) (j + 16 * t) ((j + 16 * t) + 8) ((cosT (j * 1)).toInt64) ((sgn * (cosT (((j * 1) + 12) % 16))).toInt64) (nI 0) (by omega) (by omega) H.size) (cwV 5 hts (k_goodV wd_90 wd_92 wd_m2 wd_3 wd_93) rfl rfl rfl ⟨rfl, hd_PO_join⟩ ⟨by rw [hR]; exact Nat.le_of_ble_eq_true rfl, by rw [hR]; exact Nat.le_of_ble_eq_true rfl⟩) hK hP hD hS hST hN hA [0, 1, 2] (by decide) rfl 0 rfl rfl rfl rfl hl.1 rfl (Nat.le_of_ble_eq_true rfl) d_PO_transform_102 ⟨by rw [hR]; exact Nat.le_of_ble_eq_true rfl, by rw [hR]; exact Nat.le_of_ble_eq_true rfl⟩) hP hD hS hA [0, 1, 2] [] rfl rfl (by decide) (by decide) (fun _ H locs hp102 hP hD hS => ?_)
                                  have hP : va_P D classes [(h0, .inr (2, [.ref qa, .ref qb])), (qa, .inl (tc 0, 16, .inl ((joF (j + 16 * t) ((j + 16 * t) + 8) ((cosT (j * 1)).toInt64) ((sgn * (cosT (((j * 1) + 12) % 16))).toInt64) (nI 0) (loF 16 8 j ((cosT (j * 1)).toInt64) ((sgn * (cosT (((j * 1) + 12) % 16))).toInt64) (nI 0) t (stF 16 8 1 1 (nI 0) sgn j (stF 8 4 2 2 (nI 1) sgn 4 (stF 4 2 4 4 (nI 0) sgn 2 (stF 2 1 8 8 (nI 1) sgn 1 (rvF 16 x))))))).1))), (qb, .inl (tc 0, 16, .inl ((joF (j + 16 * t) ((j + 16 * t) + 8) ((cosT (j * 1)).toInt64) ((sgn * (cosT (((j * 1) + 12) % 16))).toInt64) (nI 0) (loF 16 8 j ((cosT (j * 1)).toInt64) ((sgn * (cosT (((j * 1) + 12) % 16))).toInt64) (nI 0) t (stF 16 8 1 1 (nI 0) sgn j (stF 8 4 2 2 (nI 1) sgn 4 (stF 4 2 4 4 (nI 0) sgn 2 (stF 2 1 8 8 (nI 1) sgn 1 (rvF 16 x))))))).2)))] H := hP
                                  have hD : va_D A [(h0, .inr (2, [.ref qa, .ref qb])), (qa, .inl (tc 0, 16, .inl ((joF (j + 16 * t) ((j + 16 * t) + 8) ((cosT (j * 1)).toInt64) ((sgn * (cosT (((j * 1) + 12) % 16))).toInt64) (nI 0) (loF 16 8 j ((cosT (j * 1)).toInt64) ((sgn * (cosT (((j * 1) + 12) % 16))).toInt64) (nI 0) t (stF 16 8 1 1 (nI 0) sgn j (stF 8 4 2 2 (nI 1) sgn 4 (stF 4 2 4 4 (nI 0) sgn 2 (stF 2 1 8 8 (nI 1) sgn 1 (rvF 16 x))))))).1))), (qb, .inl (tc 0, 16, .inl ((joF (j + 16 * t) ((j + 16 * t) + 8) ((cosT (j * 1)).toInt64) ((sgn * (cosT (((j * 1) + 12) % 16))).toInt64) (nI 0) (loF 16 8 j ((cosT (j * 1)).toInt64) ((sgn * (cosT (((j * 1) + 12) % 16))).toInt64) (nI 0) t (stF 16 8 1 1 (nI 0) sgn j (stF 8 4 2 2 (nI 1) sgn 4 (stF 4 2 4 4 (nI 0) sgn 2 (stF 2 1 8 8 (nI 1) sgn 1 (rvF 16 x))))))).2)))] := hD
                                  refine W.widen (k := 0) (n := 0) (Nat.le_of_ble_eq_true rfl) (Nat.le_of_ble_eq_true rfl) ?_
                                  refine W.eq (g2 := F0 m 105 ls []) rfl ?_
                                  refine lv_iload hx hb d_PO_transform_105 (lv_at hl 0 rfl) ?_
                                  refine lv_iload_n hx hb d_PO_transform_107 rfl (lv_at hl 6 rfl) ?_
                                  refine k_iadd hx hb d_PO_transform_108 ?_
                                  refine k_topi (y := nI (j + 16 * (t + 1))) (congrArg nI (by omega)) ?_
                                  refine lv_istore (lv' := [(10, .int (nI (j + 16 * (t + 1)))), (8, .long ((sgn * (cosT (((j * 1) + 12) % 16))).toInt64)), (6, .long ((cosT (j * 1)).toInt64)), (5, .int (nI j)), (4, .int (nI 0)), (3, .int (nI 1)), (2, .int (nI 16)), (0, .ref h0), (1, .int (sgn))]) hx hb d_PO_transform_109 hl (by decide) rfl (fun ls hl => ?_)
                                  refine lv_goto (tgt := 80) hx hb d_PO_transform_111 (by decide) ?_
                                  exact ih_t (by omega)   H locs ls (lv_sub hl [0, 1, 2, 3, 4, 5, 6, 7, 8] rfl) (by rw [loF_s]; exact hP) (k_Ds hD [0, 1, 2] (by decide) rfl) hS
                            · exfalso; omega
                      · refine k_tabN hx hb hST hS 5 rfl hown (va_Nw.use rfl (hN _ wd_88)) d_PO_transform_46 ?_
                        refine lv_iload hx hb d_PO_transform_49 (lv_at hl 0 rfl) ?_
                        refine lv_iload_n hx hb d_PO_transform_51 rfl (lv_at hl 2 rfl) ?_
                        refine k_imul hx hb d_PO_transform_52 ?_
                        refine k_tald hx hb hST hS 5 rfl (by omega) (by omega) d_PO_transform_53 ?_
                        refine lv_i2l hx hb d_PO_transform_54 rfl ?_
                        refine lv_lstore (lv' := [(6, .long ((cosT (j * 2)).toInt64)), (5, .int (nI j)), (4, .int (nI 1)), (3, .int (nI 2)), (2, .int (nI 8)), (0, .ref h0), (1, .int (sgn))]) hx hb d_PO_transform_55 hl (by decide) rfl (fun ls hl => ?_)
                        refine lv_iload_n hx hb d_PO_transform_57 rfl (lv_at hl 6 rfl) ?_
                        refine k_tabN hx hb hST hS 5 rfl hown (va_Nw.use rfl (hN _ wd_88)) d_PO_transform_58 ?_
                        refine lv_iload hx hb d_PO_transform_61 (lv_at hl 1 rfl) ?_
                        refine lv_iload_n hx hb d_PO_transform_63 rfl (lv_at hl 3 rfl) ?_
                        refine k_imul hx hb d_PO_transform_64 ?_
                        refine lv_bipush (v := nI 12) hx hb d_PO_transform_65 (by decide) ?_
                        refine k_iadd hx hb d_PO_transform_67 ?_
                        refine lv_bipush (v := nI 16) hx hb d_PO_transform_68 (by decide) ?_
                        refine k_irem hx hb d_PO_transform_70 (by omega) (by omega) (by omega) ?_
                        refine k_tald hx hb hST hS 5 rfl (by omega) (by omega) d_PO_transform_71 ?_
                        refine lv_imul hx hb d_PO_transform_72 ?_
                        refine lv_i2l hx hb d_PO_transform_73 rfl ?_
                        refine lv_lstore (lv' := [(8, .long ((sgn * (cosT (((j * 2) + 12) % 16))).toInt64)), (6, .long ((cosT (j * 2)).toInt64)), (5, .int (nI j)), (4, .int (nI 1)), (3, .int (nI 2)), (2, .int (nI 8)), (0, .ref h0), (1, .int (sgn))]) hx hb d_PO_transform_74 hl (by decide) rfl (fun ls hl => ?_)
                        refine lv_iload hx hb d_PO_transform_76 (lv_at hl 2 rfl) ?_
                        refine lv_istore (lv' := [(10, .int (nI j)), (8, .long ((sgn * (cosT (((j * 2) + 12) % 16))).toInt64)), (6, .long ((cosT (j * 2)).toInt64)), (5, .int (nI j)), (4, .int (nI 1)), (3, .int (nI 2)), (2, .int (nI 8)), (0, .ref h0), (1, .int (sgn))]) hx hb d_PO_transform_78 hl (by decide) rfl (fun ls hl => ?_)
                        refine k_loop (P := fun t : Nat => ∀ (H : Heap) (locs : List Loc) (ls : Array Slot), lv_has ls 11 [(10, .int (nI (j + 8 * t))), (8, .long ((sgn * (cosT (((j * 2) + 12) % 16))).toInt64)), (6, .long ((cosT (j * 2)).toInt64)), (5, .int (nI j)), (4, .int (nI 1)), (3, .int (nI 2)), (2, .int (nI 8)), (0, .ref h0), (1, .int (sgn))] → va_P D classes [(h0, .inr (2, [.ref qa, .ref qb])), (qa, .inl (tc 0, 16, .inl ((loF 8 4 j ((cosT (j * 2)).toInt64) ((sgn * (cosT (((j * 2) + 12) % 16))).toInt64) (nI 1) t (stF 8 4 2 2 (nI 1) sgn j (stF 4 2 4 4 (nI 0) sgn 2 (stF 2 1 8 8 (nI 1) sgn 1 (rvF 16 x))))).1))), (qb, .inl (tc 0, 16, .inl ((loF 8 4 j ((cosT (j * 2)).toInt64) ((sgn * (cosT (((j * 2) + 12) % 16))).toInt64) (nI 1) t (stF 8 4 2 2 (nI 1) sgn j (stF 4 2 4 4 (nI 0) sgn 2 (stF 2 1 8 8 (nI 1) sgn 1 (rvF 16 x))))).2)))] H → va_D A [(h0, .inr (2, [.ref qa, .ref qb])), (qa, .inl (tc 0, 16, .inl ((loF 8 4 j ((cosT (j * 2)).toInt64) ((sgn * (cosT (((j * 2) + 12) % 16))).toInt64) (nI 1) t (stF 8 4 2 2 (nI 1) sgn j (stF 4 2 4 4 (nI 0) sgn 2 (stF 2 1 8 8 (nI 1) sgn 1 (rvF 16 x))))).1))), (qb, .inl (tc 0, 16, .inl ((loF 8 4 j ((cosT (j * 2)).toInt64) ((sgn * (cosT (((j * 2) + 12) % 16))).toInt64) (nI 1) t (stF 8 4 2 2 (nI 1) sgn j (stF 4 2 4 4 (nI 0) sgn 2 (stF 2 1 8 8 (nI 1) sgn 1 (rvF 16 x))))).2)))] → va_S A s.heap H locs → W p l e R s m args below meth c H locs 0 0 Q (F0 m 80 ls [])) (2) (fun t hk_t ih_t  H locs ls hl hP hD hS => ?_) (0) (by omega)   H locs ls (lv_sub hl [0, 1, 2, 3, 4, 5, 6, 7, 8] rfl) (by rw [loF_0]; exact hP) (k_Ds hD [0, 1, 2] (by decide) rfl) hS
                        refine lv_iload hx hb d_PO_transform_80 (lv_at hl 0 rfl) ?_
                        refine lv_bipush (v := nI 16) hx hb d_PO_transform_82 (by decide) ?_
                        refine k_icmp_ge (tgt := 114) hx hb d_PO_transform_84 (by decide) (by omega) (by omega) (fun h84 => ?_) (fun h84 => ?_)
                        · obtain rfl : 2 = t := by omega
                          refine lv_iinc (k := 3) (v := nI (j + 1)) (lv' := [(5, .int (nI (j + 1))), (10, .int (nI (j + 8 * 2))), (8, .long ((sgn * (cosT (((j * 2) + 12) % 16))).toInt64)), (6, .long ((cosT (j * 2)).toInt64)), (4, .int (nI 1)), (3, .int (nI 2)), (2, .int (nI 8)), (0, .ref h0), (1, .int (sgn))]) hx hb d_PO_transform_114 hl rfl (k_incN _ 1) (by decide) rfl (fun ls hl => ?_)
                          refine lv_goto (tgt := 38) hx hb d_PO_transform_117 (by decide) ?_
                          exact ih_j (by omega)   H locs ls (lv_sub hl [0, 4, 5, 6, 7, 8] rfl) (by rw [stF_s]; exact hP) (k_Ds hD [0, 1, 2] (by decide) rfl) hS
                        · refine lv_aload_n hx hb d_PO_transform_87 rfl (lv_at hl 7 rfl) ?_
                          refine lv_iload hx hb d_PO_transform_88 (lv_at hl 0 rfl) ?_
                          refine lv_iload hx hb d_PO_transform_90 (lv_at hl 0 rfl) ?_
                          refine lv_iload_n hx hb d_PO_transform_92 rfl (lv_at hl 6 rfl) ?_
                          refine lv_iconst (v := nI 2) hx hb d_PO_transform_93 (by decide) ?_
                          refine k_idiv hx hb d_PO_transform_94 (by omega) (by omega) (by omega) ?_
                          refine k_iadd hx hb d_PO_transform_95 ?_
                          refine lv_lload hx hb d_PO_transform_96 (lv_at hl 2 rfl) ?_
                          refine lv_lload hx hb d_PO_transform_98 (lv_at hl 1 rfl) ?_
                          refine lv_iload hx hb d_PO_transform_100 (lv_at hl 4 rfl) ?_
                          refine k_callv (wr := []) (k_runV (As := [.int (nI (j + 8 * t)), .int (nI ((j + 8 * t) + 4)), .long ((cosT (j * 2)).toInt64), .long ((sgn * (cosT (((j * 2) + 12) % 16))).toInt64), .int (nI 1)]) (rest := []) (wc := [(h0, .inr (2, [.ref qa, .ref qb])), (qa, .inl (tc 0, 16, .inl ((loF 8 4 j ((cosT (j * 2)).toInt64) ((sgn * (cosT (((j * 2) + 12) % 16))).toInt64) (nI 1) t (stF 8 4 2 2 (nI 1) sgn j (stF 4 2 4 4 (nI 0) sgn 2 (stF 2 1 8 8 (nI 1) sgn 1 (rvF 16 x))))).1))), (qb, .inl (tc 0, 16, .inl ((loF 8 4 j ((cosT (j * 2)).toInt64) ((sgn * (cosT (((j * 2) + 12) % 16))).toInt64) (nI 1) t (stF 8 4 2 2 (nI 1) sgn j (stF 4 2 4 4 (nI 0) sgn 2 (stF 2 1 8 8 (nI 1) sgn 1 (rvF 16 x))))).2)))]) ⟨hx, hb, hml, hown, hts⟩ (c_PO_join l D tc tb h0 qa qb (loF 8 4 j ((cosT (j * 2)).toInt64) ((sgn * (cosT (((j * 2) + 12) % 16))).toInt64) (nI 1) t (stF 8 4 2 2 (nI 1) sgn j (stF 4 2 4 4 (nI 0) sgn 2 (stF 2 1 8 8 (nI 1) sgn 1 (rvF 16 x))))) (j + 8 * t) ((j + 8 * t) + 4) ((cosT (j * 2)).toInt64) ((sgn * (cosT (((j * 2) + 12) % 16))).toInt64) (nI 1) (by omega) (by omega) H.size) (cwV 5 hts (k_goodV wd_90 wd_92 wd_m2 wd_3 wd_93) rfl rfl rfl ⟨rfl, hd_PO_join⟩ ⟨by rw [hR]; exact Nat.le_of_ble_eq_true rfl, by rw [hR]; exact Nat.le_of_ble_eq_true rfl⟩) hK hP hD hS hST hN hA [0, 1, 2] (by decide) rfl 0 rfl rfl rfl rfl hl.1 rfl (Nat.le_of_ble_eq_true rfl) d_PO_transform_102 ⟨by rw [hR]; exact Nat.le_of_ble_eq_true rfl, by rw [hR]; exact Nat.le_of_ble_eq_true rfl⟩) hP hD hS hA [0, 1, 2] [] rfl rfl (by decide) (by decide) (fun _ H locs hp102 hP hD hS => ?_)
                          have hP : va_P D classes [(h0, .inr (2, [.ref qa, .ref qb])), (qa, .inl (tc 0, 16, .inl ((joF (j + 8 * t) ((j + 8 * t) + 4) ((cosT (j * 2)).toInt64) ((sgn * (cosT (((j * 2) + 12) % 16))).toInt64) (nI 1) (loF 8 4 j ((cosT (j * 2)).toInt64) ((sgn * (cosT (((j * 2) + 12) % 16))).toInt64) (nI 1) t (stF 8 4 2 2 (nI 1) sgn j (stF 4 2 4 4 (nI 0) sgn 2 (stF 2 1 8 8 (nI 1) sgn 1 (rvF 16 x)))))).1))), (qb, .inl (tc 0, 16, .inl ((joF (j + 8 * t) ((j + 8 * t) + 4) ((cosT (j * 2)).toInt64) ((sgn * (cosT (((j * 2) + 12) % 16))).toInt64) (nI 1) (loF 8 4 j ((cosT (j * 2)).toInt64) ((sgn * (cosT (((j * 2) + 12) % 16))).toInt64) (nI 1) t (stF 8 4 2 2 (nI 1) sgn j (stF 4 2 4 4 (nI 0) sgn 2 (stF 2 1 8 8 (nI 1) sgn 1 (rvF 16 x)))))).2)))] H := hP
                          have hD : va_D A [(h0, .inr (2, [.ref qa, .ref qb])), (qa, .inl (tc 0, 16, .inl ((joF (j + 8 * t) ((j + 8 * t) + 4) ((cosT (j * 2)).toInt64) ((sgn * (cosT (((j * 2) + 12) % 16))).toInt64) (nI 1) (loF 8 4 j ((cosT (j * 2)).toInt64) ((sgn * (cosT (((j * 2) + 12) % 16))).toInt64) (nI 1) t (stF 8 4 2 2 (nI 1) sgn j (stF 4 2 4 4 (nI 0) sgn 2 (stF 2 1 8 8 (nI 1) sgn 1 (rvF 16 x)))))).1))), (qb, .inl (tc 0, 16, .inl ((joF (j + 8 * t) ((j + 8 * t) + 4) ((cosT (j * 2)).toInt64) ((sgn * (cosT (((j * 2) + 12) % 16))).toInt64) (nI 1) (loF 8 4 j ((cosT (j * 2)).toInt64) ((sgn * (cosT (((j * 2) + 12) % 16))).toInt64) (nI 1) t (stF 8 4 2 2 (nI 1) sgn j (stF 4 2 4 4 (nI 0) sgn 2 (stF 2 1 8 8 (nI 1) sgn 1 (rvF 16 x)))))).2)))] := hD
                          refine W.widen (k := 0) (n := 0) (Nat.le_of_ble_eq_true rfl) (Nat.le_of_ble_eq_true rfl) ?_
                          refine W.eq (g2 := F0 m 105 ls []) rfl ?_
                          refine lv_iload hx hb d_PO_transform_105 (lv_at hl 0 rfl) ?_
                          refine lv_iload_n hx hb d_PO_transform_107 rfl (lv_at hl 6 rfl) ?_
                          refine k_iadd hx hb d_PO_transform_108 ?_
                          refine k_topi (y := nI (j + 8 * (t + 1))) (congrArg nI (by omega)) ?_
                          refine lv_istore (lv' := [(10, .int (nI (j + 8 * (t + 1)))), (8, .long ((sgn * (cosT (((j * 2) + 12) % 16))).toInt64)), (6, .long ((cosT (j * 2)).toInt64)), (5, .int (nI j)), (4, .int (nI 1)), (3, .int (nI 2)), (2, .int (nI 8)), (0, .ref h0), (1, .int (sgn))]) hx hb d_PO_transform_109 hl (by decide) rfl (fun ls hl => ?_)
                          refine lv_goto (tgt := 80) hx hb d_PO_transform_111 (by decide) ?_
                          exact ih_t (by omega)   H locs ls (lv_sub hl [0, 1, 2, 3, 4, 5, 6, 7, 8] rfl) (by rw [loF_s]; exact hP) (k_Ds hD [0, 1, 2] (by decide) rfl) hS
              · refine k_tabN hx hb hST hS 5 rfl hown (va_Nw.use rfl (hN _ wd_88)) d_PO_transform_46 ?_
                refine lv_iload hx hb d_PO_transform_49 (lv_at hl 0 rfl) ?_
                refine lv_iload_n hx hb d_PO_transform_51 rfl (lv_at hl 2 rfl) ?_
                refine k_imul hx hb d_PO_transform_52 ?_
                refine k_tald hx hb hST hS 5 rfl (by omega) (by omega) d_PO_transform_53 ?_
                refine lv_i2l hx hb d_PO_transform_54 rfl ?_
                refine lv_lstore (lv' := [(6, .long ((cosT (j * 4)).toInt64)), (5, .int (nI j)), (4, .int (nI 0)), (3, .int (nI 4)), (2, .int (nI 4)), (0, .ref h0), (1, .int (sgn))]) hx hb d_PO_transform_55 hl (by decide) rfl (fun ls hl => ?_)
                refine lv_iload_n hx hb d_PO_transform_57 rfl (lv_at hl 6 rfl) ?_
                refine k_tabN hx hb hST hS 5 rfl hown (va_Nw.use rfl (hN _ wd_88)) d_PO_transform_58 ?_
                refine lv_iload hx hb d_PO_transform_61 (lv_at hl 1 rfl) ?_
                refine lv_iload_n hx hb d_PO_transform_63 rfl (lv_at hl 3 rfl) ?_
                refine k_imul hx hb d_PO_transform_64 ?_
                refine lv_bipush (v := nI 12) hx hb d_PO_transform_65 (by decide) ?_
                refine k_iadd hx hb d_PO_transform_67 ?_
                refine lv_bipush (v := nI 16) hx hb d_PO_transform_68 (by decide) ?_
                refine k_irem hx hb d_PO_transform_70 (by omega) (by omega) (by omega) ?_
                refine k_tald hx hb hST hS 5 rfl (by omega) (by omega) d_PO_transform_71 ?_
                refine lv_imul hx hb d_PO_transform_72 ?_
                refine lv_i2l hx hb d_PO_transform_73 rfl ?_
                refine lv_lstore (lv' := [(8, .long ((sgn * (cosT (((j * 4) + 12) % 16))).toInt64)), (6, .long ((cosT (j * 4)).toInt64)), (5, .int (nI j)), (4, .int (nI 0)), (3, .int (nI 4)), (2, .int (nI 4)), (0, .ref h0), (1, .int (sgn))]) hx hb d_PO_transform_74 hl (by decide) rfl (fun ls hl => ?_)
                refine lv_iload hx hb d_PO_transform_76 (lv_at hl 2 rfl) ?_
                refine lv_istore (lv' := [(10, .int (nI j)), (8, .long ((sgn * (cosT (((j * 4) + 12) % 16))).toInt64)), (6, .long ((cosT (j * 4)).toInt64)), (5, .int (nI j)), (4, .int (nI 0)), (3, .int (nI 4)), (2, .int (nI 4)), (0, .ref h0), (1, .int (sgn))]) hx hb d_PO_transform_78 hl (by decide) rfl (fun ls hl => ?_)
                refine k_loop (P := fun t : Nat => ∀ (H : Heap) (locs : List Loc) (ls : Array Slot), lv_has ls 11 [(10, .int (nI (j + 4 * t))), (8, .long ((sgn * (cosT (((j * 4) + 12) % 16))).toInt64)), (6, .long ((cosT (j * 4)).toInt64)), (5, .int (nI j)), (4, .int (nI 0)), (3, .int (nI 4)), (2, .int (nI 4)), (0, .ref h0), (1, .int (sgn))] → va_P D classes [(h0, .inr (2, [.ref qa, .ref qb])), (qa, .inl (tc 0, 16, .inl ((loF 4 2 j ((cosT (j * 4)).toInt64) ((sgn * (cosT (((j * 4) + 12) % 16))).toInt64) (nI 0) t (stF 4 2 4 4 (nI 0) sgn j (stF 2 1 8 8 (nI 1) sgn 1 (rvF 16 x)))).1))), (qb, .inl (tc 0, 16, .inl ((loF 4 2 j ((cosT (j * 4)).toInt64) ((sgn * (cosT (((j * 4) + 12) % 16))).toInt64) (nI 0) t (stF 4 2 4 4 (nI 0) sgn j (stF 2 1 8 8 (nI 1) sgn 1 (rvF 16 x)))).2)))] H → va_D A [(h0, .inr (2, [.ref qa, .ref qb])), (qa, .inl (tc 0, 16, .inl ((loF 4 2 j ((cosT (j * 4)).toInt64) ((sgn * (cosT (((j * 4) + 12) % 16))).toInt64) (nI 0) t (stF 4 2 4 4 (nI 0) sgn j (stF 2 1 8 8 (nI 1) sgn 1 (rvF 16 x)))).1))), (qb, .inl (tc 0, 16, .inl ((loF 4 2 j ((cosT (j * 4)).toInt64) ((sgn * (cosT (((j * 4) + 12) % 16))).toInt64) (nI 0) t (stF 4 2 4 4 (nI 0) sgn j (stF 2 1 8 8 (nI 1) sgn 1 (rvF 16 x)))).2)))] → va_S A s.heap H locs → W p l e R s m args below meth c H locs 0 0 Q (F0 m 80 ls [])) (4) (fun t hk_t ih_t  H locs ls hl hP hD hS => ?_) (0) (by omega)   H locs ls (lv_sub hl [0, 1, 2, 3, 4, 5, 6, 7, 8] rfl) (by rw [loF_0]; exact hP) (k_Ds hD [0, 1, 2] (by decide) rfl) hS
                refine lv_iload hx hb d_PO_transform_80 (lv_at hl 0 rfl) ?_
                refine lv_bipush (v := nI 16) hx hb d_PO_transform_82 (by decide) ?_
                refine k_icmp_ge (tgt := 114) hx hb d_PO_transform_84 (by decide) (by omega) (by omega) (fun h84 => ?_) (fun h84 => ?_)
                · obtain rfl : 4 = t := by omega
                  refine lv_iinc (k := 3) (v := nI (j + 1)) (lv' := [(5, .int (nI (j + 1))), (10, .int (nI (j + 4 * 4))), (8, .long ((sgn * (cosT (((j * 4) + 12) % 16))).toInt64)), (6, .long ((cosT (j * 4)).toInt64)), (4, .int (nI 0)), (3, .int (nI 4)), (2, .int (nI 4)), (0, .ref h0), (1, .int (sgn))]) hx hb d_PO_transform_114 hl rfl (k_incN _ 1) (by decide) rfl (fun ls hl => ?_)
                  refine lv_goto (tgt := 38) hx hb d_PO_transform_117 (by decide) ?_
                  exact ih_j (by omega)   H locs ls (lv_sub hl [0, 4, 5, 6, 7, 8] rfl) (by rw [stF_s]; exact hP) (k_Ds hD [0, 1, 2] (by decide) rfl) hS
                · refine lv_aload_n hx hb d_PO_transform_87 rfl (lv_at hl 7 rfl) ?_
                  refine lv_iload hx hb d_PO_transform_88 (lv_at hl 0 rfl) ?_
                  refine lv_iload hx hb d_PO_transform_90 (lv_at hl 0 rfl) ?_
                  refine lv_iload_n hx hb d_PO_transform_92 rfl (lv_at hl 6 rfl) ?_
                  refine lv_iconst (v := nI 2) hx hb d_PO_transform_93 (by decide) ?_
                  refine k_idiv hx hb d_PO_transform_94 (by omega) (by omega) (by omega) ?_
                  refine k_iadd hx hb d_PO_transform_95 ?_
                  refine lv_lload hx hb d_PO_transform_96 (lv_at hl 2 rfl) ?_
                  refine lv_lload hx hb d_PO_transform_98 (lv_at hl 1 rfl) ?_
                  refine lv_iload hx hb d_PO_transform_100 (lv_at hl 4 rfl) ?_
                  refine k_callv (wr := []) (k_runV (As := [.int (nI (j + 4 * t)), .int (nI ((j + 4 * t) + 2)), .long ((cosT (j * 4)).toInt64), .long ((sgn * (cosT (((j * 4) + 12) % 16))).toInt64), .int (nI 0)]) (rest := []) (wc := [(h0, .inr (2, [.ref qa, .ref qb])), (qa, .inl (tc 0, 16, .inl ((loF 4 2 j ((cosT (j * 4)).toInt64) ((sgn * (cosT (((j * 4) + 12) % 16))).toInt64) (nI 0) t (stF 4 2 4 4 (nI 0) sgn j (stF 2 1 8 8 (nI 1) sgn 1 (rvF 16 x)))).1))), (qb, .inl (tc 0, 16, .inl ((loF 4 2 j ((cosT (j * 4)).toInt64) ((sgn * (cosT (((j * 4) + 12) % 16))).toInt64) (nI 0) t (stF 4 2 4 4 (nI 0) sgn j (stF 2 1 8 8 (nI 1) sgn 1 (rvF 16 x)))).2)))]) ⟨hx, hb, hml, hown, hts⟩ (c_PO_join l D tc tb h0 qa qb (loF 4 2 j ((cosT (j * 4)).toInt64) ((sgn * (cosT (((j * 4) + 12) % 16))).toInt64) (nI 0) t (stF 4 2 4 4 (nI 0) sgn j (stF 2 1 8 8 (nI 1) sgn 1 (rvF 16 x)))) (j + 4 * t) ((j + 4 * t) + 2) ((cosT (j * 4)).toInt64) ((sgn * (cosT (((j * 4) + 12) % 16))).toInt64) (nI 0) (by omega) (by omega) H.size) (cwV 5 hts (k_goodV wd_90 wd_92 wd_m2 wd_3 wd_93) rfl rfl rfl ⟨rfl, hd_PO_join⟩ ⟨by rw [hR]; exact Nat.le_of_ble_eq_true rfl, by rw [hR]; exact Nat.le_of_ble_eq_true rfl⟩) hK hP hD hS hST hN hA [0, 1, 2] (by decide) rfl 0 rfl rfl rfl rfl hl.1 rfl (Nat.le_of_ble_eq_true rfl) d_PO_transform_102 ⟨by rw [hR]; exact Nat.le_of_ble_eq_true rfl, by rw [hR]; exact Nat.le_of_ble_eq_true rfl⟩) hP hD hS hA [0, 1, 2] [] rfl rfl (by decide) (by decide) (fun _ H locs hp102 hP hD hS => ?_)
                  have hP : va_P D classes [(h0, .inr (2, [.ref qa, .ref qb])), (qa, .inl (tc 0, 16, .inl ((joF (j + 4 * t) ((j + 4 * t) + 2) ((cosT (j * 4)).toInt64) ((sgn * (cosT (((j * 4) + 12) % 16))).toInt64) (nI 0) (loF 4 2 j ((cosT (j * 4)).toInt64) ((sgn * (cosT (((j * 4) + 12) % 16))).toInt64) (nI 0) t (stF 4 2 4 4 (nI 0) sgn j (stF 2 1 8 8 (nI 1) sgn 1 (rvF 16 x))))).1))), (qb, .inl (tc 0, 16, .inl ((joF (j + 4 * t) ((j + 4 * t) + 2) ((cosT (j * 4)).toInt64) ((sgn * (cosT (((j * 4) + 12) % 16))).toInt64) (nI 0) (loF 4 2 j ((cosT (j * 4)).toInt64) ((sgn * (cosT (((j * 4) + 12) % 16))).toInt64) (nI 0) t (stF 4 2 4 4 (nI 0) sgn j (stF 2 1 8 8 (nI 1) sgn 1 (rvF 16 x))))).2)))] H := hP
                  have hD : va_D A [(h0, .inr (2, [.ref qa, .ref qb])), (qa, .inl (tc 0, 16, .inl ((joF (j + 4 * t) ((j + 4 * t) + 2) ((cosT (j * 4)).toInt64) ((sgn * (cosT (((j * 4) + 12) % 16))).toInt64) (nI 0) (loF 4 2 j ((cosT (j * 4)).toInt64) ((sgn * (cosT (((j * 4) + 12) % 16))).toInt64) (nI 0) t (stF 4 2 4 4 (nI 0) sgn j (stF 2 1 8 8 (nI 1) sgn 1 (rvF 16 x))))).1))), (qb, .inl (tc 0, 16, .inl ((joF (j + 4 * t) ((j + 4 * t) + 2) ((cosT (j * 4)).toInt64) ((sgn * (cosT (((j * 4) + 12) % 16))).toInt64) (nI 0) (loF 4 2 j ((cosT (j * 4)).toInt64) ((sgn * (cosT (((j * 4) + 12) % 16))).toInt64) (nI 0) t (stF 4 2 4 4 (nI 0) sgn j (stF 2 1 8 8 (nI 1) sgn 1 (rvF 16 x))))).2)))] := hD
                  refine W.widen (k := 0) (n := 0) (Nat.le_of_ble_eq_true rfl) (Nat.le_of_ble_eq_true rfl) ?_
                  refine W.eq (g2 := F0 m 105 ls []) rfl ?_
                  refine lv_iload hx hb d_PO_transform_105 (lv_at hl 0 rfl) ?_
                  refine lv_iload_n hx hb d_PO_transform_107 rfl (lv_at hl 6 rfl) ?_
                  refine k_iadd hx hb d_PO_transform_108 ?_
                  refine k_topi (y := nI (j + 4 * (t + 1))) (congrArg nI (by omega)) ?_
                  refine lv_istore (lv' := [(10, .int (nI (j + 4 * (t + 1)))), (8, .long ((sgn * (cosT (((j * 4) + 12) % 16))).toInt64)), (6, .long ((cosT (j * 4)).toInt64)), (5, .int (nI j)), (4, .int (nI 0)), (3, .int (nI 4)), (2, .int (nI 4)), (0, .ref h0), (1, .int (sgn))]) hx hb d_PO_transform_109 hl (by decide) rfl (fun ls hl => ?_)
                  refine lv_goto (tgt := 80) hx hb d_PO_transform_111 (by decide) ?_
                  exact ih_t (by omega)   H locs ls (lv_sub hl [0, 1, 2, 3, 4, 5, 6, 7, 8] rfl) (by rw [loF_s]; exact hP) (k_Ds hD [0, 1, 2] (by decide) rfl) hS
            · exfalso; omega
      · refine k_tabN hx hb hST hS 5 rfl hown (va_Nw.use rfl (hN _ wd_88)) d_PO_transform_46 ?_
        refine lv_iload hx hb d_PO_transform_49 (lv_at hl 0 rfl) ?_
        refine lv_iload_n hx hb d_PO_transform_51 rfl (lv_at hl 2 rfl) ?_
        refine k_imul hx hb d_PO_transform_52 ?_
        refine k_tald hx hb hST hS 5 rfl (by omega) (by omega) d_PO_transform_53 ?_
        refine lv_i2l hx hb d_PO_transform_54 rfl ?_
        refine lv_lstore (lv' := [(6, .long ((cosT (j * 8)).toInt64)), (5, .int (nI j)), (4, .int (nI 1)), (3, .int (nI 8)), (2, .int (nI 2)), (0, .ref h0), (1, .int (sgn))]) hx hb d_PO_transform_55 hl (by decide) rfl (fun ls hl => ?_)
        refine lv_iload_n hx hb d_PO_transform_57 rfl (lv_at hl 6 rfl) ?_
        refine k_tabN hx hb hST hS 5 rfl hown (va_Nw.use rfl (hN _ wd_88)) d_PO_transform_58 ?_
        refine lv_iload hx hb d_PO_transform_61 (lv_at hl 1 rfl) ?_
        refine lv_iload_n hx hb d_PO_transform_63 rfl (lv_at hl 3 rfl) ?_
        refine k_imul hx hb d_PO_transform_64 ?_
        refine lv_bipush (v := nI 12) hx hb d_PO_transform_65 (by decide) ?_
        refine k_iadd hx hb d_PO_transform_67 ?_
        refine lv_bipush (v := nI 16) hx hb d_PO_transform_68 (by decide) ?_
        refine k_irem hx hb d_PO_transform_70 (by omega) (by omega) (by omega) ?_
        refine k_tald hx hb hST hS 5 rfl (by omega) (by omega) d_PO_transform_71 ?_
        refine lv_imul hx hb d_PO_transform_72 ?_
        refine lv_i2l hx hb d_PO_transform_73 rfl ?_
        refine lv_lstore (lv' := [(8, .long ((sgn * (cosT (((j * 8) + 12) % 16))).toInt64)), (6, .long ((cosT (j * 8)).toInt64)), (5, .int (nI j)), (4, .int (nI 1)), (3, .int (nI 8)), (2, .int (nI 2)), (0, .ref h0), (1, .int (sgn))]) hx hb d_PO_transform_74 hl (by decide) rfl (fun ls hl => ?_)
        refine lv_iload hx hb d_PO_transform_76 (lv_at hl 2 rfl) ?_
        refine lv_istore (lv' := [(10, .int (nI j)), (8, .long ((sgn * (cosT (((j * 8) + 12) % 16))).toInt64)), (6, .long ((cosT (j * 8)).toInt64)), (5, .int (nI j)), (4, .int (nI 1)), (3, .int (nI 8)), (2, .int (nI 2)), (0, .ref h0), (1, .int (sgn))]) hx hb d_PO_transform_78 hl (by decide) rfl (fun ls hl => ?_)
        refine k_loop (P := fun t : Nat => ∀ (H : Heap) (locs : List Loc) (ls : Array Slot), lv_has ls 11 [(10, .int (nI (j + 2 * t))), (8, .long ((sgn * (cosT (((j * 8) + 12) % 16))).toInt64)), (6, .long ((cosT (j * 8)).toInt64)), (5, .int (nI j)), (4, .int (nI 1)), (3, .int (nI 8)), (2, .int (nI 2)), (0, .ref h0), (1, .int (sgn))] → va_P D classes [(h0, .inr (2, [.ref qa, .ref qb])), (qa, .inl (tc 0, 16, .inl ((loF 2 1 j ((cosT (j * 8)).toInt64) ((sgn * (cosT (((j * 8) + 12) % 16))).toInt64) (nI 1) t (stF 2 1 8 8 (nI 1) sgn j (rvF 16 x))).1))), (qb, .inl (tc 0, 16, .inl ((loF 2 1 j ((cosT (j * 8)).toInt64) ((sgn * (cosT (((j * 8) + 12) % 16))).toInt64) (nI 1) t (stF 2 1 8 8 (nI 1) sgn j (rvF 16 x))).2)))] H → va_D A [(h0, .inr (2, [.ref qa, .ref qb])), (qa, .inl (tc 0, 16, .inl ((loF 2 1 j ((cosT (j * 8)).toInt64) ((sgn * (cosT (((j * 8) + 12) % 16))).toInt64) (nI 1) t (stF 2 1 8 8 (nI 1) sgn j (rvF 16 x))).1))), (qb, .inl (tc 0, 16, .inl ((loF 2 1 j ((cosT (j * 8)).toInt64) ((sgn * (cosT (((j * 8) + 12) % 16))).toInt64) (nI 1) t (stF 2 1 8 8 (nI 1) sgn j (rvF 16 x))).2)))] → va_S A s.heap H locs → W p l e R s m args below meth c H locs 0 0 Q (F0 m 80 ls [])) (8) (fun t hk_t ih_t  H locs ls hl hP hD hS => ?_) (0) (by omega)   H locs ls (lv_sub hl [0, 1, 2, 3, 4, 5, 6, 7, 8] rfl) (by rw [loF_0]; exact hP) (k_Ds hD [0, 1, 2] (by decide) rfl) hS
        refine lv_iload hx hb d_PO_transform_80 (lv_at hl 0 rfl) ?_
        refine lv_bipush (v := nI 16) hx hb d_PO_transform_82 (by decide) ?_
        refine k_icmp_ge (tgt := 114) hx hb d_PO_transform_84 (by decide) (by omega) (by omega) (fun h84 => ?_) (fun h84 => ?_)
        · obtain rfl : 8 = t := by omega
          refine lv_iinc (k := 3) (v := nI (j + 1)) (lv' := [(5, .int (nI (j + 1))), (10, .int (nI (j + 2 * 8))), (8, .long ((sgn * (cosT (((j * 8) + 12) % 16))).toInt64)), (6, .long ((cosT (j * 8)).toInt64)), (4, .int (nI 1)), (3, .int (nI 8)), (2, .int (nI 2)), (0, .ref h0), (1, .int (sgn))]) hx hb d_PO_transform_114 hl rfl (k_incN _ 1) (by decide) rfl (fun ls hl => ?_)
          refine lv_goto (tgt := 38) hx hb d_PO_transform_117 (by decide) ?_
          exact ih_j (by omega)   H locs ls (lv_sub hl [0, 4, 5, 6, 7, 8] rfl) (by rw [stF_s]; exact hP) (k_Ds hD [0, 1, 2] (by decide) rfl) hS
        · refine lv_aload_n hx hb d_PO_transform_87 rfl (lv_at hl 7 rfl) ?_
          refine lv_iload hx hb d_PO_transform_88 (lv_at hl 0 rfl) ?_
          refine lv_iload hx hb d_PO_transform_90 (lv_at hl 0 rfl) ?_
          refine lv_iload_n hx hb d_PO_transform_92 rfl (lv_at hl 6 rfl) ?_
          refine lv_iconst (v := nI 2) hx hb d_PO_transform_93 (by decide) ?_
          refine k_idiv hx hb d_PO_transform_94 (by omega) (by omega) (by omega) ?_
          refine k_iadd hx hb d_PO_transform_95 ?_
          refine lv_lload hx hb d_PO_transform_96 (lv_at hl 2 rfl) ?_
          refine lv_lload hx hb d_PO_transform_98 (lv_at hl 1 rfl) ?_
          refine lv_iload hx hb d_PO_transform_100 (lv_at hl 4 rfl) ?_
          refine k_callv (wr := []) (k_runV (As := [.int (nI (j + 2 * t)), .int (nI ((j + 2 * t) + 1)), .long ((cosT (j * 8)).toInt64), .long ((sgn * (cosT (((j * 8) + 12) % 16))).toInt64), .int (nI 1)]) (rest := []) (wc := [(h0, .inr (2, [.ref qa, .ref qb])), (qa, .inl (tc 0, 16, .inl ((loF 2 1 j ((cosT (j * 8)).toInt64) ((sgn * (cosT (((j * 8) + 12) % 16))).toInt64) (nI 1) t (stF 2 1 8 8 (nI 1) sgn j (rvF 16 x))).1))), (qb, .inl (tc 0, 16, .inl ((loF 2 1 j ((cosT (j * 8)).toInt64) ((sgn * (cosT (((j * 8) + 12) % 16))).toInt64) (nI 1) t (stF 2 1 8 8 (nI 1) sgn j (rvF 16 x))).2)))]) ⟨hx, hb, hml, hown, hts⟩ (c_PO_join l D tc tb h0 qa qb (loF 2 1 j ((cosT (j * 8)).toInt64) ((sgn * (cosT (((j * 8) + 12) % 16))).toInt64) (nI 1) t (stF 2 1 8 8 (nI 1) sgn j (rvF 16 x))) (j + 2 * t) ((j + 2 * t) + 1) ((cosT (j * 8)).toInt64) ((sgn * (cosT (((j * 8) + 12) % 16))).toInt64) (nI 1) (by omega) (by omega) H.size) (cwV 5 hts (k_goodV wd_90 wd_92 wd_m2 wd_3 wd_93) rfl rfl rfl ⟨rfl, hd_PO_join⟩ ⟨by rw [hR]; exact Nat.le_of_ble_eq_true rfl, by rw [hR]; exact Nat.le_of_ble_eq_true rfl⟩) hK hP hD hS hST hN hA [0, 1, 2] (by decide) rfl 0 rfl rfl rfl rfl hl.1 rfl (Nat.le_of_ble_eq_true rfl) d_PO_transform_102 ⟨by rw [hR]; exact Nat.le_of_ble_eq_true rfl, by rw [hR]; exact Nat.le_of_ble_eq_true rfl⟩) hP hD hS hA [0, 1, 2] [] rfl rfl (by decide) (by decide) (fun _ H locs hp102 hP hD hS => ?_)
          have hP : va_P D classes [(h0, .inr (2, [.ref qa, .ref qb])), (qa, .inl (tc 0, 16, .inl ((joF (j + 2 * t) ((j + 2 * t) + 1) ((cosT (j * 8)).toInt64) ((sgn * (cosT (((j * 8) + 12) % 16))).toInt64) (nI 1) (loF 2 1 j ((cosT (j * 8)).toInt64) ((sgn * (cosT (((j * 8) + 12) % 16))).toInt64) (nI 1) t (stF 2 1 8 8 (nI 1) sgn j (rvF 16 x)))).1))), (qb, .inl (tc 0, 16, .inl ((joF (j + 2 * t) ((j + 2 * t) + 1) ((cosT (j * 8)).toInt64) ((sgn * (cosT (((j * 8) + 12) % 16))).toInt64) (nI 1) (loF 2 1 j ((cosT (j * 8)).toInt64) ((sgn * (cosT (((j * 8) + 12) % 16))).toInt64) (nI 1) t (stF 2 1 8 8 (nI 1) sgn j (rvF 16 x)))).2)))] H := hP
          have hD : va_D A [(h0, .inr (2, [.ref qa, .ref qb])), (qa, .inl (tc 0, 16, .inl ((joF (j + 2 * t) ((j + 2 * t) + 1) ((cosT (j * 8)).toInt64) ((sgn * (cosT (((j * 8) + 12) % 16))).toInt64) (nI 1) (loF 2 1 j ((cosT (j * 8)).toInt64) ((sgn * (cosT (((j * 8) + 12) % 16))).toInt64) (nI 1) t (stF 2 1 8 8 (nI 1) sgn j (rvF 16 x)))).1))), (qb, .inl (tc 0, 16, .inl ((joF (j + 2 * t) ((j + 2 * t) + 1) ((cosT (j * 8)).toInt64) ((sgn * (cosT (((j * 8) + 12) % 16))).toInt64) (nI 1) (loF 2 1 j ((cosT (j * 8)).toInt64) ((sgn * (cosT (((j * 8) + 12) % 16))).toInt64) (nI 1) t (stF 2 1 8 8 (nI 1) sgn j (rvF 16 x)))).2)))] := hD
          refine W.widen (k := 0) (n := 0) (Nat.le_of_ble_eq_true rfl) (Nat.le_of_ble_eq_true rfl) ?_
          refine W.eq (g2 := F0 m 105 ls []) rfl ?_
          refine lv_iload hx hb d_PO_transform_105 (lv_at hl 0 rfl) ?_
          refine lv_iload_n hx hb d_PO_transform_107 rfl (lv_at hl 6 rfl) ?_
          refine k_iadd hx hb d_PO_transform_108 ?_
          refine k_topi (y := nI (j + 2 * (t + 1))) (congrArg nI (by omega)) ?_
          refine lv_istore (lv' := [(10, .int (nI (j + 2 * (t + 1)))), (8, .long ((sgn * (cosT (((j * 8) + 12) % 16))).toInt64)), (6, .long ((cosT (j * 8)).toInt64)), (5, .int (nI j)), (4, .int (nI 1)), (3, .int (nI 8)), (2, .int (nI 2)), (0, .ref h0), (1, .int (sgn))]) hx hb d_PO_transform_109 hl (by decide) rfl (fun ls hl => ?_)
          refine lv_goto (tgt := 80) hx hb d_PO_transform_111 (by decide) ?_
          exact ih_t (by omega)   H locs ls (lv_sub hl [0, 1, 2, 3, 4, 5, 6, 7, 8] rfl) (by rw [loF_s]; exact hP) (k_Ds hD [0, 1, 2] (by decide) rfl) hS
    · exfalso; omega
set_option maxHeartbeats 4000000 in
set_option maxRecDepth 100000 in
theorem c_PO_makeTraining (l : Launch) (D : va_G) (tc : Nat → ClassId) (tb : Nat → Nat) (h0 : Nat) (qa : Nat) (qb : Nat) (f : Nat → Int32) (g : Nat → Int32) : Mv l D tc tb y_PO_makeTraining prog_4_method_3_code 2 none ({ frames := 2, cells := 0, slots := 0, locals := 61 }) [.ref h0] [(h0, .inr (2, [.ref qa, .ref qb])), (qa, .inl (tc 0, 16, .inl f)), (qb, .inl (tc 0, 16, .inl g))] (fun _ : Unit => True) (fun _ : Unit => [(h0, .inr (2, [.ref qa, .ref qb])), (qa, .inl (tc 0, 16, .inl ((trF (nI 1) (fun j => nI 1024 * tsgT j, fun _ => nI 0)).1))), (qb, .inl (tc 0, 16, .inl ((trF (nI 1) (fun j => nI 1024 * tsgT j, fun _ => nI 0)).2)))]) := by
  refine Mv.go (by decide) (Nat.le_of_ble_eq_true rfl) ?_
  intro p e s m below meth c A ls R args Q C
  obtain ⟨hx, hb, hr, hts, hown, hlk, hml, hin, hA, hST, hN, hK, hP, hD, hS, hl, hR, hQ⟩ := C
  have hw : ∀ w ∈ lw_g, w.before args s = true := fun w h => hts w (List.mem_cons_of_mem _ h)
  have hl : lv_has ls 2 [(0, .ref h0)] := hl
  refine lv_iconst (v := nI 0) hx hb d_PO_makeTraining_0 (by decide) ?_
  refine lv_istore_n (lv' := [(1, .int (nI 0)), (0, .ref h0)]) hx hb d_PO_makeTraining_1 rfl hl (by decide) rfl (fun ls hl => ?_)
  refine k_loop (P := fun k : Nat => ∀ (H : Heap) (locs : List Loc) (ls : Array Slot), lv_has ls 2 [(1, .int (nI k)), (0, .ref h0)] → va_P D classes [(h0, .inr (2, [.ref qa, .ref qb])), (qa, .inl (tc 0, 16, .inl (gF (fun j => nI 1024 * tsgT j) f k))), (qb, .inl (tc 0, 16, .inl (gF (fun _ => nI 0) g k)))] H → va_D A [(h0, .inr (2, [.ref qa, .ref qb])), (qa, .inl (tc 0, 16, .inl (gF (fun j => nI 1024 * tsgT j) f k))), (qb, .inl (tc 0, 16, .inl (gF (fun _ => nI 0) g k)))] → va_S A s.heap H locs → W p l e R s m args below meth c H locs 0 0 Q (F0 m 2 ls [])) (16) (fun k hk_k ih_k  H locs ls hl hP hD hS => ?_) (0) (by omega)   s.heap [] ls (lv_sub hl [0, 1] rfl) (by exact hP) (k_Ds hD [0, 1, 2] (by decide) rfl) hS
  refine lv_iload_n hx hb d_PO_makeTraining_2 rfl (lv_at hl 0 rfl) ?_
  refine lv_bipush (v := nI 16) hx hb d_PO_makeTraining_3 (by decide) ?_
  refine k_icmp_ge (tgt := 36) hx hb d_PO_makeTraining_5 (by decide) (by omega) (by omega) (fun h5 => ?_) (fun h5 => ?_)
  · obtain rfl : 16 = k := by omega
    have hP := k_rep (ws' := [(h0, .inr (2, [.ref qa, .ref qb])), (qa, .inl (tc 0, 16, .inl (fun j => nI 1024 * tsgT j))), (qb, .inl (tc 0, 16, .inl (gF (fun _ => nI 0) g 16)))]) hP 1 rfl (fun j hj => gF_all _ f 16 j hj) rfl
    have hP := k_rep (ws' := [(h0, .inr (2, [.ref qa, .ref qb])), (qa, .inl (tc 0, 16, .inl (fun j => nI 1024 * tsgT j))), (qb, .inl (tc 0, 16, .inl (fun _ => nI 0)))]) hP 2 rfl (fun j hj => gF_all _ g 16 j hj) rfl
    have hD := k_Ds (ws' := [(h0, .inr (2, [.ref qa, .ref qb])), (qa, .inl (tc 0, 16, .inl (fun j => nI 1024 * tsgT j))), (qb, .inl (tc 0, 16, .inl (fun _ => nI 0)))]) hD [0, 1, 2] (by decide) rfl
    refine lv_aload_n hx hb d_PO_makeTraining_36 rfl (lv_at hl 1 rfl) ?_
    refine lv_iconst (v := nI 1) hx hb d_PO_makeTraining_37 (by decide) ?_
    refine k_callv (wr := []) (k_runV (As := [.int (nI 1)]) (rest := []) (wc := [(h0, .inr (2, [.ref qa, .ref qb])), (qa, .inl (tc 0, 16, .inl ((fun j => nI 1024 * tsgT j, fun _ => nI 0).1))), (qb, .inl (tc 0, 16, .inl ((fun j => nI 1024 * tsgT j, fun _ => nI 0).2)))]) ⟨hx, hb, hml, hown, hts⟩ (c_PO_transform l D tc tb h0 qa qb (fun j => nI 1024 * tsgT j, fun _ => nI 0) (nI 1)  H.size) (cwV 1 hts (k_goodV wd_78 wd_79 wd_80 wd_3 wd_81) rfl rfl rfl ⟨rfl, hd_PO_transform⟩ ⟨by rw [hR]; exact Nat.le_of_ble_eq_true rfl, by rw [hR]; exact Nat.le_of_ble_eq_true rfl⟩) hK hP hD hS hST hN hA [0, 1, 2] (by decide) rfl 0 rfl rfl rfl rfl hl.1 rfl (Nat.le_of_ble_eq_true rfl) d_PO_makeTraining_38 ⟨by rw [hR]; exact Nat.le_of_ble_eq_true rfl, by rw [hR]; exact Nat.le_of_ble_eq_true rfl⟩) hP hD hS hA [0, 1, 2] [] rfl rfl (by decide) (by decide) (fun _ H locs hp38 hP hD hS => ?_)
    have hP : va_P D classes [(h0, .inr (2, [.ref qa, .ref qb])), (qa, .inl (tc 0, 16, .inl ((trF (nI 1) (fun j => nI 1024 * tsgT j, fun _ => nI 0)).1))), (qb, .inl (tc 0, 16, .inl ((trF (nI 1) (fun j => nI 1024 * tsgT j, fun _ => nI 0)).2)))] H := hP
    have hD : va_D A [(h0, .inr (2, [.ref qa, .ref qb])), (qa, .inl (tc 0, 16, .inl ((trF (nI 1) (fun j => nI 1024 * tsgT j, fun _ => nI 0)).1))), (qb, .inl (tc 0, 16, .inl ((trF (nI 1) (fun j => nI 1024 * tsgT j, fun _ => nI 0)).2)))] := hD
    refine W.widen (k := 0) (n := 0) (Nat.le_of_ble_eq_true rfl) (Nat.le_of_ble_eq_true rfl) ?_
    refine W.eq (g2 := F0 m 41 ls []) rfl ?_
    rw [hQ]
    exact k_vret () hx hb hr hlk hK hP hD hS [0, 1, 2] (by decide) rfl trivial d_PO_makeTraining_41
  · refine lv_aload_n hx hb d_PO_makeTraining_8 rfl (lv_at hl 1 rfl) ?_
    refine k_get hx hb hw uw_PO hown hK hP 0 rfl rfl 0 (by decide) (hw _ wd_59) rfl d_PO_makeTraining_9 ?_
    refine lv_iload_n hx hb d_PO_makeTraining_12 rfl (lv_at hl 0 rfl) ?_
    refine lv_sipush (v := nI 1024) hx hb d_PO_makeTraining_13 (by decide) ?_
    refine k_tabN hx hb hST hS 3 rfl hown (va_Nw.use rfl (hN _ wd_76)) d_PO_makeTraining_16 ?_
    refine lv_iload_n hx hb d_PO_makeTraining_19 rfl (lv_at hl 0 rfl) ?_
    refine k_tald hx hb hST hS 3 rfl (by omega) (by omega) d_PO_makeTraining_20 ?_
    refine lv_imul hx hb d_PO_makeTraining_21 ?_
    refine k_iast (ws' := [(h0, .inr (2, [.ref qa, .ref qb])), (qa, .inl (tc 0, 16, .inl (upd (gF (fun j => nI 1024 * tsgT j) f k) k ((nI 1024) * (tsgT k))))), (qb, .inl (tc 0, 16, .inl (gF (fun _ => nI 0) g k)))]) hx hb hK hP hD hS 1 0 rfl rfl (by omega) (by omega) d_PO_makeTraining_22 rfl (fun H locs hP hD hS => ?_)
    refine lv_aload_n hx hb d_PO_makeTraining_23 rfl (lv_at hl 1 rfl) ?_
    refine k_get hx hb hw uw_PO hown hK hP 0 rfl rfl 1 (by decide) (hw _ wd_63) rfl d_PO_makeTraining_24 ?_
    refine lv_iload_n hx hb d_PO_makeTraining_27 rfl (lv_at hl 0 rfl) ?_
    refine lv_iconst (v := nI 0) hx hb d_PO_makeTraining_28 (by decide) ?_
    refine k_iast (ws' := [(h0, .inr (2, [.ref qa, .ref qb])), (qa, .inl (tc 0, 16, .inl (upd (gF (fun j => nI 1024 * tsgT j) f k) k ((nI 1024) * (tsgT k))))), (qb, .inl (tc 0, 16, .inl (upd (gF (fun _ => nI 0) g k) k (nI 0))))]) hx hb hK hP hD hS 2 0 rfl rfl (by omega) (by omega) d_PO_makeTraining_29 rfl (fun H locs hP hD hS => ?_)
    refine lv_iinc (k := 0) (v := nI (k + 1)) (lv' := [(1, .int (nI (k + 1))), (0, .ref h0)]) hx hb d_PO_makeTraining_30 hl rfl (k_incN _ 1) (by decide) rfl (fun ls hl => ?_)
    refine lv_goto (tgt := 2) hx hb d_PO_makeTraining_33 (by decide) ?_
    exact ih_k (by omega)   H locs ls (lv_sub hl [0, 1] rfl) (by exact hP) (k_Ds hD [0, 1, 2] (by decide) rfl) hS
