set_option maxHeartbeats 4000000 in
set_option maxRecDepth 100000 in
theorem c_MO_level_00 (l : Launch) (D : va_G) (tc : Nat → ClassId) (tb : Nat → Nat) : Mi l D tc tb y_MO_level prog_10_method_20_code 2 (some .int) ({ frames := 0, cells := 0, slots := 0, locals := 0 }) [.int (nI 0), .int (nI 0)] [] (fun _ : Unit => True) (fun _ : Unit => levT (lvI 0 0)) (fun _ : Unit => []) := by
  refine Mi.go (by decide) (Nat.le_of_ble_eq_true rfl) ?_
  intro p e s m below meth c A ls R args Q C
  obtain ⟨hx, hb, hr, hts, hown, hlk, hml, hin, hA, hST, hN, hK, hP, hD, hS, hl, hR, hQ⟩ := C
  have hw : ∀ w ∈ lw_g, w.before args s = true := fun w h => hts w (List.mem_cons_of_mem _ h)
  have hl : lv_has ls 2 [(0, .int (nI 0)), (1, .int (nI 0))] := hl
  refine lv_iload_n hx hb d_MO_level_0 rfl (lv_at hl 0 rfl) ?_
  refine k_if_ne (tgt := 20) hx hb d_MO_level_1 (by decide) (by omega) (fun h1 => ?_) (fun h1 => ?_)
  · exfalso; omega
  · refine lv_iload_n hx hb d_MO_level_4 rfl (lv_at hl 1 rfl) ?_
    refine k_if_ne (tgt := 14) hx hb d_MO_level_5 (by decide) (by omega) (fun h5 => ?_) (fun h5 => ?_)
    · exfalso; omega
    · refine lv_sipush (v := -972) hx hb d_MO_level_8 (by decide) ?_
      refine lv_goto (tgt := 34) hx hb d_MO_level_11 (by decide) ?_
      rw [hQ]
      exact k_iret () hx hb hr hlk hK hP hD hS [] (by decide) rfl trivial (by decide) d_MO_level_34
set_option maxHeartbeats 4000000 in
set_option maxRecDepth 100000 in
theorem c_MO_level_01 (l : Launch) (D : va_G) (tc : Nat → ClassId) (tb : Nat → Nat) : Mi l D tc tb y_MO_level prog_10_method_20_code 2 (some .int) ({ frames := 0, cells := 0, slots := 0, locals := 0 }) [.int (nI 0), .int (nI 1)] [] (fun _ : Unit => True) (fun _ : Unit => levT (lvI 0 1)) (fun _ : Unit => []) := by
  refine Mi.go (by decide) (Nat.le_of_ble_eq_true rfl) ?_
  intro p e s m below meth c A ls R args Q C
  obtain ⟨hx, hb, hr, hts, hown, hlk, hml, hin, hA, hST, hN, hK, hP, hD, hS, hl, hR, hQ⟩ := C
  have hw : ∀ w ∈ lw_g, w.before args s = true := fun w h => hts w (List.mem_cons_of_mem _ h)
  have hl : lv_has ls 2 [(0, .int (nI 0)), (1, .int (nI 1))] := hl
  refine lv_iload_n hx hb d_MO_level_0 rfl (lv_at hl 0 rfl) ?_
  refine k_if_ne (tgt := 20) hx hb d_MO_level_1 (by decide) (by omega) (fun h1 => ?_) (fun h1 => ?_)
  · exfalso; omega
  · refine lv_iload_n hx hb d_MO_level_4 rfl (lv_at hl 1 rfl) ?_
    refine k_if_ne (tgt := 14) hx hb d_MO_level_5 (by decide) (by omega) (fun h5 => ?_) (fun h5 => ?_)
    · refine lv_sipush (v := -324) hx hb d_MO_level_14 (by decide) ?_
      refine lv_goto (tgt := 34) hx hb d_MO_level_17 (by decide) ?_
      rw [hQ]
      exact k_iret () hx hb hr hlk hK hP hD hS [] (by decide) rfl trivial (by decide) d_MO_level_34
    · exfalso; omega
set_option maxHeartbeats 4000000 in
set_option maxRecDepth 100000 in
theorem c_MO_level_10 (l : Launch) (D : va_G) (tc : Nat → ClassId) (tb : Nat → Nat) : Mi l D tc tb y_MO_level prog_10_method_20_code 2 (some .int) ({ frames := 0, cells := 0, slots := 0, locals := 0 }) [.int (nI 1), .int (nI 0)] [] (fun _ : Unit => True) (fun _ : Unit => levT (lvI 1 0)) (fun _ : Unit => []) := by
  refine Mi.go (by decide) (Nat.le_of_ble_eq_true rfl) ?_
  intro p e s m below meth c A ls R args Q C
  obtain ⟨hx, hb, hr, hts, hown, hlk, hml, hin, hA, hST, hN, hK, hP, hD, hS, hl, hR, hQ⟩ := C
  have hw : ∀ w ∈ lw_g, w.before args s = true := fun w h => hts w (List.mem_cons_of_mem _ h)
  have hl : lv_has ls 2 [(0, .int (nI 1)), (1, .int (nI 0))] := hl
  refine lv_iload_n hx hb d_MO_level_0 rfl (lv_at hl 0 rfl) ?_
  refine k_if_ne (tgt := 20) hx hb d_MO_level_1 (by decide) (by omega) (fun h1 => ?_) (fun h1 => ?_)
  · refine lv_iload_n hx hb d_MO_level_20 rfl (lv_at hl 1 rfl) ?_
    refine lv_iconst (v := nI 1) hx hb d_MO_level_21 (by decide) ?_
    refine k_icmp_ne (tgt := 31) hx hb d_MO_level_22 (by decide) (by omega) (by omega) (fun h22 => ?_) (fun h22 => ?_)
    · refine lv_sipush (v := nI 972) hx hb d_MO_level_31 (by decide) ?_
      rw [hQ]
      exact k_iret () hx hb hr hlk hK hP hD hS [] (by decide) rfl trivial (by decide) d_MO_level_34
    · exfalso; omega
  · exfalso; omega
set_option maxHeartbeats 4000000 in
set_option maxRecDepth 100000 in
theorem c_MO_level_11 (l : Launch) (D : va_G) (tc : Nat → ClassId) (tb : Nat → Nat) : Mi l D tc tb y_MO_level prog_10_method_20_code 2 (some .int) ({ frames := 0, cells := 0, slots := 0, locals := 0 }) [.int (nI 1), .int (nI 1)] [] (fun _ : Unit => True) (fun _ : Unit => levT (lvI 1 1)) (fun _ : Unit => []) := by
  refine Mi.go (by decide) (Nat.le_of_ble_eq_true rfl) ?_
  intro p e s m below meth c A ls R args Q C
  obtain ⟨hx, hb, hr, hts, hown, hlk, hml, hin, hA, hST, hN, hK, hP, hD, hS, hl, hR, hQ⟩ := C
  have hw : ∀ w ∈ lw_g, w.before args s = true := fun w h => hts w (List.mem_cons_of_mem _ h)
  have hl : lv_has ls 2 [(0, .int (nI 1)), (1, .int (nI 1))] := hl
  refine lv_iload_n hx hb d_MO_level_0 rfl (lv_at hl 0 rfl) ?_
  refine k_if_ne (tgt := 20) hx hb d_MO_level_1 (by decide) (by omega) (fun h1 => ?_) (fun h1 => ?_)
  · refine lv_iload_n hx hb d_MO_level_20 rfl (lv_at hl 1 rfl) ?_
    refine lv_iconst (v := nI 1) hx hb d_MO_level_21 (by decide) ?_
    refine k_icmp_ne (tgt := 31) hx hb d_MO_level_22 (by decide) (by omega) (by omega) (fun h22 => ?_) (fun h22 => ?_)
    · exfalso; omega
    · refine lv_sipush (v := nI 324) hx hb d_MO_level_25 (by decide) ?_
      refine lv_goto (tgt := 34) hx hb d_MO_level_28 (by decide) ?_
      rw [hQ]
      exact k_iret () hx hb hr hlk hK hP hD hS [] (by decide) rfl trivial (by decide) d_MO_level_34
  · exfalso; omega
theorem c_MO_level (l : Launch) (D : va_G) (tc : Nat → ClassId) (tb : Nat → Nat) (xa : Int32) (xb : Int32) (ha : xa = 0 ∨ xa = 1) (hb : xb = 0 ∨ xb = 1) : Mi l D tc tb y_MO_level prog_10_method_20_code 2 (some .int) ({ frames := 0, cells := 0, slots := 0, locals := 0 }) [.int (xa), .int (xb)] [] (fun _ : Unit => True) (fun _ : Unit => levT (lvI xa xb)) (fun _ : Unit => []) := by
  rcases ha with rfl | rfl <;> rcases hb with rfl | rfl
  · exact c_MO_level_00 l D tc tb
  · exact c_MO_level_01 l D tc tb
  · exact c_MO_level_10 l D tc tb
  · exact c_MO_level_11 l D tc tb
set_option maxHeartbeats 4000000 in
set_option maxRecDepth 100000 in
theorem c_MO_map_1 (l : Launch) (D : va_G) (tc : Nat → ClassId) (tb : Nat → Nat) (h0 : Nat) (nby : Nat) (ndb : Nat) (ncb : Nat) (nfr : Nat) (nsy : Nat) (nai : Nat) (xth : Int32) (xra : Int32) (xas : Int32) (xan : Int32) (xst : Int32) (xhr : Int32) (xhb : Int32) (xse : Int32) (xbe : Int32) (xrg : Int32) (a1 : Nat) (a2 : Nat) (a3 : Nat) (a4 : Nat) (a5 : Nat) (a6 : Nat) (a7 : Nat) (a8 : Nat) (a9 : Nat) (b1 : Nat) (b2 : Nat) (b3 : Nat) (b4 : Nat) (b5 : Nat) (b6 : Nat) (b7 : Nat) (b8 : Nat) (c1 : Nat) (c2 : Nat) (c3 : Nat) (c4 : Nat) (c5 : Nat) (c6 : Nat) (c7 : Nat) (x : RP) (pd : Nat → Int32) (car : Nat) (fr : Nat) (hcar : car < 16) (hfr : fr + 1 ≤ 340) : Mv l D tc tb y_MO_map prog_10_method_21_code 4 none ({ frames := 0, cells := 0, slots := 0, locals := 0 }) [.ref h0, .int (nI car), .int (nI 1), .int (nI fr)] [(h0, .inr (8, [.int (xth), .int (nI nby), .ref a1, .int (xra), .int (nI ndb), .ref a2, .int (nI ncb), .ref a3, .ref a4, .int (nI nfr), .ref a5, .ref a6, .int (nI nsy), .int (nI nai), .ref a7, .ref a8, .int (xas), .int (xan), .int (xst), .int (xhr), .int (xhb), .int (xse), .int (xbe), .ref a9, .ref b1, .ref b2, .ref b3, .ref b4, .ref b5, .ref b6, .ref b7, .ref b8, .ref c1, .ref c2, .ref c3, .ref c4, .ref c5, .ref c6, .ref c7, .int (xrg)])), (a4, .inl (tc 0, 340, .inl pd)), (b3, .inl (tc 0, 16, .inl x.1)), (b4, .inl (tc 0, 16, .inl x.2))] (fun _ : Unit => True) (fun _ : Unit => [(h0, .inr (8, [.int (xth), .int (nI nby), .ref a1, .int (xra), .int (nI ndb), .ref a2, .int (nI ncb), .ref a3, .ref a4, .int (nI nfr), .ref a5, .ref a6, .int (nI nsy), .int (nI nai), .ref a7, .ref a8, .int (xas), .int (xan), .int (xst), .int (xhr), .int (xhb), .int (xse), .int (xbe), .ref a9, .ref b1, .ref b2, .ref b3, .ref b4, .ref b5, .ref b6, .ref b7, .ref b8, .ref c1, .ref c2, .ref c3, .ref c4, .ref c5, .ref c6, .ref c7, .int (xrg)])), (a4, .inl (tc 0, 340, .inl pd)), (b3, .inl (tc 0, 16, .inl ((mr1 pd fr car x).1))), (b4, .inl (tc 0, 16, .inl ((mr1 pd fr car x).2)))]) := by
  refine Mv.go (by decide) (Nat.le_of_ble_eq_true rfl) ?_
  intro p e s m below meth c A ls R args Q C
  obtain ⟨hx, hb, hr, hts, hown, hlk, hml, hin, hA, hST, hN, hK, hP, hD, hS, hl, hR, hQ⟩ := C
  have hw : ∀ w ∈ lw_g, w.before args s = true := fun w h => hts w (List.mem_cons_of_mem _ h)
  have hl : lv_has ls 4 [(0, .ref h0), (1, .int (nI car)), (2, .int (nI 1)), (3, .int (nI fr))] := hl
  refine lv_aload_n hx hb d_MO_map_0 rfl (lv_at hl 0 rfl) ?_
  refine k_get hx hb hw uw_MO hown hK hP 0 rfl rfl 26 (by decide) (hw _ wd_740) rfl d_MO_map_1 ?_
  refine lv_iload_n hx hb d_MO_map_4 rfl (lv_at hl 1 rfl) ?_
  refine lv_iload_n hx hb d_MO_map_5 rfl (lv_at hl 2 rfl) ?_
  refine lv_iconst (v := nI 1) hx hb d_MO_map_6 (by decide) ?_
  refine k_icmp_ne (tgt := 27) hx hb d_MO_map_7 (by decide) (by omega) (by omega) (fun h7 => ?_) (fun h7 => ?_)
  · exfalso; omega
  · refine lv_sipush (v := nI 2048) hx hb d_MO_map_10 (by decide) ?_
    refine lv_aload_n hx hb d_MO_map_13 rfl (lv_at hl 0 rfl) ?_
    refine k_get hx hb hw uw_MO hown hK hP 0 rfl rfl 8 (by decide) (hw _ wd_722) rfl d_MO_map_14 ?_
    refine lv_iload_n hx hb d_MO_map_17 rfl (lv_at hl 3 rfl) ?_
    refine k_iald hx hb hK hP 1 0 rfl rfl (by omega) (by omega) d_MO_map_18 ?_
    refine lv_imul hx hb d_MO_map_19 ?_
    refine lv_sipush (v := nI 1024) hx hb d_MO_map_20 (by decide) ?_
    refine lv_isub hx hb d_MO_map_23 ?_
    refine lv_goto (tgt := 66) hx hb d_MO_map_24 (by decide) ?_
    refine k_iast (ws' := [(h0, .inr (8, [.int (xth), .int (nI nby), .ref a1, .int (xra), .int (nI ndb), .ref a2, .int (nI ncb), .ref a3, .ref a4, .int (nI nfr), .ref a5, .ref a6, .int (nI nsy), .int (nI nai), .ref a7, .ref a8, .int (xas), .int (xan), .int (xst), .int (xhr), .int (xhb), .int (xse), .int (xbe), .ref a9, .ref b1, .ref b2, .ref b3, .ref b4, .ref b5, .ref b6, .ref b7, .ref b8, .ref c1, .ref c2, .ref c3, .ref c4, .ref c5, .ref c6, .ref c7, .int (xrg)])), (a4, .inl (tc 0, 340, .inl pd)), (b3, .inl (tc 0, 16, .inl (upd x.1 car (((nI 2048) * (pd fr)) - (nI 1024))))), (b4, .inl (tc 0, 16, .inl x.2))]) hx hb hK hP hD hS 2 0 rfl rfl (by omega) (by omega) d_MO_map_66 rfl (fun H locs hP hD hS => ?_)
    refine lv_aload_n hx hb d_MO_map_67 rfl (lv_at hl 0 rfl) ?_
    refine k_get hx hb hw uw_MO hown hK hP 0 rfl rfl 27 (by decide) (hw _ wd_741) rfl d_MO_map_68 ?_
    refine lv_iload_n hx hb d_MO_map_71 rfl (lv_at hl 1 rfl) ?_
    refine lv_iload_n hx hb d_MO_map_72 rfl (lv_at hl 2 rfl) ?_
    refine lv_iconst (v := nI 1) hx hb d_MO_map_73 (by decide) ?_
    refine k_icmp_ne (tgt := 81) hx hb d_MO_map_74 (by decide) (by omega) (by omega) (fun h74 => ?_) (fun h74 => ?_)
    · exfalso; omega
    · refine lv_iconst (v := nI 0) hx hb d_MO_map_77 (by decide) ?_
      refine lv_goto (tgt := 124) hx hb d_MO_map_78 (by decide) ?_
      refine k_iast (ws' := [(h0, .inr (8, [.int (xth), .int (nI nby), .ref a1, .int (xra), .int (nI ndb), .ref a2, .int (nI ncb), .ref a3, .ref a4, .int (nI nfr), .ref a5, .ref a6, .int (nI nsy), .int (nI nai), .ref a7, .ref a8, .int (xas), .int (xan), .int (xst), .int (xhr), .int (xhb), .int (xse), .int (xbe), .ref a9, .ref b1, .ref b2, .ref b3, .ref b4, .ref b5, .ref b6, .ref b7, .ref b8, .ref c1, .ref c2, .ref c3, .ref c4, .ref c5, .ref c6, .ref c7, .int (xrg)])), (a4, .inl (tc 0, 340, .inl pd)), (b3, .inl (tc 0, 16, .inl (upd x.1 car (((nI 2048) * (pd fr)) - (nI 1024))))), (b4, .inl (tc 0, 16, .inl (upd x.2 car (nI 0))))]) hx hb hK hP hD hS 3 0 rfl rfl (by omega) (by omega) d_MO_map_124 rfl (fun H locs hP hD hS => ?_)
      rw [hQ]
      exact k_vret () hx hb hr hlk hK hP hD hS [0, 1, 2, 3] (by decide) rfl trivial d_MO_map_125
set_option maxHeartbeats 4000000 in
set_option maxRecDepth 100000 in
theorem c_MO_map_2 (l : Launch) (D : va_G) (tc : Nat → ClassId) (tb : Nat → Nat) (h0 : Nat) (nby : Nat) (ndb : Nat) (ncb : Nat) (nfr : Nat) (nsy : Nat) (nai : Nat) (xth : Int32) (xra : Int32) (xas : Int32) (xan : Int32) (xst : Int32) (xhr : Int32) (xhb : Int32) (xse : Int32) (xbe : Int32) (xrg : Int32) (a1 : Nat) (a2 : Nat) (a3 : Nat) (a4 : Nat) (a5 : Nat) (a6 : Nat) (a7 : Nat) (a8 : Nat) (a9 : Nat) (b1 : Nat) (b2 : Nat) (b3 : Nat) (b4 : Nat) (b5 : Nat) (b6 : Nat) (b7 : Nat) (b8 : Nat) (c1 : Nat) (c2 : Nat) (c3 : Nat) (c4 : Nat) (c5 : Nat) (c6 : Nat) (c7 : Nat) (x : RP) (pd : Nat → Int32) (car : Nat) (fr : Nat) (hcar : car < 16) (hfr : fr + 2 ≤ 340) : Mv l D tc tb y_MO_map prog_10_method_21_code 4 none ({ frames := 0, cells := 0, slots := 0, locals := 0 }) [.ref h0, .int (nI car), .int (nI 2), .int (nI fr)] [(h0, .inr (8, [.int (xth), .int (nI nby), .ref a1, .int (xra), .int (nI ndb), .ref a2, .int (nI ncb), .ref a3, .ref a4, .int (nI nfr), .ref a5, .ref a6, .int (nI nsy), .int (nI nai), .ref a7, .ref a8, .int (xas), .int (xan), .int (xst), .int (xhr), .int (xhb), .int (xse), .int (xbe), .ref a9, .ref b1, .ref b2, .ref b3, .ref b4, .ref b5, .ref b6, .ref b7, .ref b8, .ref c1, .ref c2, .ref c3, .ref c4, .ref c5, .ref c6, .ref c7, .int (xrg)])), (a4, .inl (tc 0, 340, .inl pd)), (b3, .inl (tc 0, 16, .inl x.1)), (b4, .inl (tc 0, 16, .inl x.2))] (fun _ : Unit => True) (fun _ : Unit => [(h0, .inr (8, [.int (xth), .int (nI nby), .ref a1, .int (xra), .int (nI ndb), .ref a2, .int (nI ncb), .ref a3, .ref a4, .int (nI nfr), .ref a5, .ref a6, .int (nI nsy), .int (nI nai), .ref a7, .ref a8, .int (xas), .int (xan), .int (xst), .int (xhr), .int (xhb), .int (xse), .int (xbe), .ref a9, .ref b1, .ref b2, .ref b3, .ref b4, .ref b5, .ref b6, .ref b7, .ref b8, .ref c1, .ref c2, .ref c3, .ref c4, .ref c5, .ref c6, .ref c7, .int (xrg)])), (a4, .inl (tc 0, 340, .inl pd)), (b3, .inl (tc 0, 16, .inl ((mr2 pd fr car x).1))), (b4, .inl (tc 0, 16, .inl ((mr2 pd fr car x).2)))]) := by
  refine Mv.go (by decide) (Nat.le_of_ble_eq_true rfl) ?_
  intro p e s m below meth c A ls R args Q C
  obtain ⟨hx, hb, hr, hts, hown, hlk, hml, hin, hA, hST, hN, hK, hP, hD, hS, hl, hR, hQ⟩ := C
  have hw : ∀ w ∈ lw_g, w.before args s = true := fun w h => hts w (List.mem_cons_of_mem _ h)
  have hl : lv_has ls 4 [(0, .ref h0), (1, .int (nI car)), (2, .int (nI 2)), (3, .int (nI fr))] := hl
  refine lv_aload_n hx hb d_MO_map_0 rfl (lv_at hl 0 rfl) ?_
  refine k_get hx hb hw uw_MO hown hK hP 0 rfl rfl 26 (by decide) (hw _ wd_740) rfl d_MO_map_1 ?_
  refine lv_iload_n hx hb d_MO_map_4 rfl (lv_at hl 1 rfl) ?_
  refine lv_iload_n hx hb d_MO_map_5 rfl (lv_at hl 2 rfl) ?_
  refine lv_iconst (v := nI 1) hx hb d_MO_map_6 (by decide) ?_
  refine k_icmp_ne (tgt := 27) hx hb d_MO_map_7 (by decide) (by omega) (by omega) (fun h7 => ?_) (fun h7 => ?_)
  · refine lv_iload_n hx hb d_MO_map_27 rfl (lv_at hl 2 rfl) ?_
    refine lv_iconst (v := nI 2) hx hb d_MO_map_28 (by decide) ?_
    refine k_icmp_ne (tgt := 49) hx hb d_MO_map_29 (by decide) (by omega) (by omega) (fun h29 => ?_) (fun h29 => ?_)
    · exfalso; omega
    · refine lv_sipush (v := nI 1448) hx hb d_MO_map_32 (by decide) ?_
      refine lv_aload_n hx hb d_MO_map_35 rfl (lv_at hl 0 rfl) ?_
      refine k_get hx hb hw uw_MO hown hK hP 0 rfl rfl 8 (by decide) (hw _ wd_722) rfl d_MO_map_36 ?_
      refine lv_iload_n hx hb d_MO_map_39 rfl (lv_at hl 3 rfl) ?_
      refine k_iald hx hb hK hP 1 0 rfl rfl (by omega) (by omega) d_MO_map_40 ?_
      refine lv_imul hx hb d_MO_map_41 ?_
      refine lv_sipush (v := nI 724) hx hb d_MO_map_42 (by decide) ?_
      refine lv_isub hx hb d_MO_map_45 ?_
      refine lv_goto (tgt := 66) hx hb d_MO_map_46 (by decide) ?_
      refine k_iast (ws' := [(h0, .inr (8, [.int (xth), .int (nI nby), .ref a1, .int (xra), .int (nI ndb), .ref a2, .int (nI ncb), .ref a3, .ref a4, .int (nI nfr), .ref a5, .ref a6, .int (nI nsy), .int (nI nai), .ref a7, .ref a8, .int (xas), .int (xan), .int (xst), .int (xhr), .int (xhb), .int (xse), .int (xbe), .ref a9, .ref b1, .ref b2, .ref b3, .ref b4, .ref b5, .ref b6, .ref b7, .ref b8, .ref c1, .ref c2, .ref c3, .ref c4, .ref c5, .ref c6, .ref c7, .int (xrg)])), (a4, .inl (tc 0, 340, .inl pd)), (b3, .inl (tc 0, 16, .inl (upd x.1 car (((nI 1448) * (pd fr)) - (nI 724))))), (b4, .inl (tc 0, 16, .inl x.2))]) hx hb hK hP hD hS 2 0 rfl rfl (by omega) (by omega) d_MO_map_66 rfl (fun H locs hP hD hS => ?_)
      refine lv_aload_n hx hb d_MO_map_67 rfl (lv_at hl 0 rfl) ?_
      refine k_get hx hb hw uw_MO hown hK hP 0 rfl rfl 27 (by decide) (hw _ wd_741) rfl d_MO_map_68 ?_
      refine lv_iload_n hx hb d_MO_map_71 rfl (lv_at hl 1 rfl) ?_
      refine lv_iload_n hx hb d_MO_map_72 rfl (lv_at hl 2 rfl) ?_
      refine lv_iconst (v := nI 1) hx hb d_MO_map_73 (by decide) ?_
      refine k_icmp_ne (tgt := 81) hx hb d_MO_map_74 (by decide) (by omega) (by omega) (fun h74 => ?_) (fun h74 => ?_)
      · refine lv_iload_n hx hb d_MO_map_81 rfl (lv_at hl 2 rfl) ?_
        refine lv_iconst (v := nI 2) hx hb d_MO_map_82 (by decide) ?_
        refine k_icmp_ne (tgt := 105) hx hb d_MO_map_83 (by decide) (by omega) (by omega) (fun h83 => ?_) (fun h83 => ?_)
        · exfalso; omega
        · refine lv_sipush (v := nI 1448) hx hb d_MO_map_86 (by decide) ?_
          refine lv_aload_n hx hb d_MO_map_89 rfl (lv_at hl 0 rfl) ?_
          refine k_get hx hb hw uw_MO hown hK hP 0 rfl rfl 8 (by decide) (hw _ wd_722) rfl d_MO_map_90 ?_
          refine lv_iload_n hx hb d_MO_map_93 rfl (lv_at hl 3 rfl) ?_
          refine lv_iconst (v := nI 1) hx hb d_MO_map_94 (by decide) ?_
          refine k_iadd hx hb d_MO_map_95 ?_
          refine k_iald hx hb hK hP 1 0 rfl rfl (by omega) (by omega) d_MO_map_96 ?_
          refine lv_imul hx hb d_MO_map_97 ?_
          refine lv_sipush (v := nI 724) hx hb d_MO_map_98 (by decide) ?_
          refine lv_isub hx hb d_MO_map_101 ?_
          refine lv_goto (tgt := 124) hx hb d_MO_map_102 (by decide) ?_
          refine k_iast (ws' := [(h0, .inr (8, [.int (xth), .int (nI nby), .ref a1, .int (xra), .int (nI ndb), .ref a2, .int (nI ncb), .ref a3, .ref a4, .int (nI nfr), .ref a5, .ref a6, .int (nI nsy), .int (nI nai), .ref a7, .ref a8, .int (xas), .int (xan), .int (xst), .int (xhr), .int (xhb), .int (xse), .int (xbe), .ref a9, .ref b1, .ref b2, .ref b3, .ref b4, .ref b5, .ref b6, .ref b7, .ref b8, .ref c1, .ref c2, .ref c3, .ref c4, .ref c5, .ref c6, .ref c7, .int (xrg)])), (a4, .inl (tc 0, 340, .inl pd)), (b3, .inl (tc 0, 16, .inl (upd x.1 car (((nI 1448) * (pd fr)) - (nI 724))))), (b4, .inl (tc 0, 16, .inl (upd x.2 car (((nI 1448) * (pd (fr + 1))) - (nI 724)))))]) hx hb hK hP hD hS 3 0 rfl rfl (by omega) (by omega) d_MO_map_124 rfl (fun H locs hP hD hS => ?_)
          rw [hQ]
          exact k_vret () hx hb hr hlk hK hP hD hS [0, 1, 2, 3] (by decide) rfl trivial d_MO_map_125
      · exfalso; omega
  · exfalso; omega
set_option maxHeartbeats 4000000 in
set_option maxRecDepth 100000 in
theorem c_MO_map_4 (l : Launch) (D : va_G) (tc : Nat → ClassId) (tb : Nat → Nat) (h0 : Nat) (nby : Nat) (ndb : Nat) (ncb : Nat) (nfr : Nat) (nsy : Nat) (nai : Nat) (xth : Int32) (xra : Int32) (xas : Int32) (xan : Int32) (xst : Int32) (xhr : Int32) (xhb : Int32) (xse : Int32) (xbe : Int32) (xrg : Int32) (a1 : Nat) (a2 : Nat) (a3 : Nat) (a4 : Nat) (a5 : Nat) (a6 : Nat) (a7 : Nat) (a8 : Nat) (a9 : Nat) (b1 : Nat) (b2 : Nat) (b3 : Nat) (b4 : Nat) (b5 : Nat) (b6 : Nat) (b7 : Nat) (b8 : Nat) (c1 : Nat) (c2 : Nat) (c3 : Nat) (c4 : Nat) (c5 : Nat) (c6 : Nat) (c7 : Nat) (x : RP) (pd : Nat → Int32) (car : Nat) (fr : Nat) (hcar : car < 16) (hfr : fr + 4 ≤ 340) (hbt : ∀ j, j < fr + 4 → pd j = 0 ∨ pd j = 1) : Mv l D tc tb y_MO_map prog_10_method_21_code 4 none ({ frames := 1, cells := 0, slots := 0, locals := 21 }) [.ref h0, .int (nI car), .int (nI 4), .int (nI fr)] [(h0, .inr (8, [.int (xth), .int (nI nby), .ref a1, .int (xra), .int (nI ndb), .ref a2, .int (nI ncb), .ref a3, .ref a4, .int (nI nfr), .ref a5, .ref a6, .int (nI nsy), .int (nI nai), .ref a7, .ref a8, .int (xas), .int (xan), .int (xst), .int (xhr), .int (xhb), .int (xse), .int (xbe), .ref a9, .ref b1, .ref b2, .ref b3, .ref b4, .ref b5, .ref b6, .ref b7, .ref b8, .ref c1, .ref c2, .ref c3, .ref c4, .ref c5, .ref c6, .ref c7, .int (xrg)])), (a4, .inl (tc 0, 340, .inl pd)), (b3, .inl (tc 0, 16, .inl x.1)), (b4, .inl (tc 0, 16, .inl x.2))] (fun _ : Unit => True) (fun _ : Unit => [(h0, .inr (8, [.int (xth), .int (nI nby), .ref a1, .int (xra), .int (nI ndb), .ref a2, .int (nI ncb), .ref a3, .ref a4, .int (nI nfr), .ref a5, .ref a6, .int (nI nsy), .int (nI nai), .ref a7, .ref a8, .int (xas), .int (xan), .int (xst), .int (xhr), .int (xhb), .int (xse), .int (xbe), .ref a9, .ref b1, .ref b2, .ref b3, .ref b4, .ref b5, .ref b6, .ref b7, .ref b8, .ref c1, .ref c2, .ref c3, .ref c4, .ref c5, .ref c6, .ref c7, .int (xrg)])), (a4, .inl (tc 0, 340, .inl pd)), (b3, .inl (tc 0, 16, .inl ((mo4 pd fr car x).1))), (b4, .inl (tc 0, 16, .inl ((mo4 pd fr car x).2)))]) := by
  refine Mv.go (by decide) (Nat.le_of_ble_eq_true rfl) ?_
  intro p e s m below meth c A ls R args Q C
  obtain ⟨hx, hb, hr, hts, hown, hlk, hml, hin, hA, hST, hN, hK, hP, hD, hS, hl, hR, hQ⟩ := C
  have hw : ∀ w ∈ lw_g, w.before args s = true := fun w h => hts w (List.mem_cons_of_mem _ h)
  have hl : lv_has ls 4 [(0, .ref h0), (1, .int (nI car)), (2, .int (nI 4)), (3, .int (nI fr))] := hl
  refine lv_aload_n hx hb d_MO_map_0 rfl (lv_at hl 0 rfl) ?_
  refine k_get hx hb hw uw_MO hown hK hP 0 rfl rfl 26 (by decide) (hw _ wd_740) rfl d_MO_map_1 ?_
  refine lv_iload_n hx hb d_MO_map_4 rfl (lv_at hl 1 rfl) ?_
  refine lv_iload_n hx hb d_MO_map_5 rfl (lv_at hl 2 rfl) ?_
  refine lv_iconst (v := nI 1) hx hb d_MO_map_6 (by decide) ?_
  refine k_icmp_ne (tgt := 27) hx hb d_MO_map_7 (by decide) (by omega) (by omega) (fun h7 => ?_) (fun h7 => ?_)
  · refine lv_iload_n hx hb d_MO_map_27 rfl (lv_at hl 2 rfl) ?_
    refine lv_iconst (v := nI 2) hx hb d_MO_map_28 (by decide) ?_
    refine k_icmp_ne (tgt := 49) hx hb d_MO_map_29 (by decide) (by omega) (by omega) (fun h29 => ?_) (fun h29 => ?_)
    · refine lv_aload_n hx hb d_MO_map_49 rfl (lv_at hl 0 rfl) ?_
      refine k_get hx hb hw uw_MO hown hK hP 0 rfl rfl 8 (by decide) (hw _ wd_722) rfl d_MO_map_50 ?_
      refine lv_iload_n hx hb d_MO_map_53 rfl (lv_at hl 3 rfl) ?_
      refine k_iald hx hb hK hP 1 0 rfl rfl (by omega) (by omega) d_MO_map_54 ?_
      refine lv_aload_n hx hb d_MO_map_55 rfl (lv_at hl 0 rfl) ?_
      refine k_get hx hb hw uw_MO hown hK hP 0 rfl rfl 8 (by decide) (hw _ wd_722) rfl d_MO_map_56 ?_
      refine lv_iload_n hx hb d_MO_map_59 rfl (lv_at hl 3 rfl) ?_
      refine lv_iconst (v := nI 1) hx hb d_MO_map_60 (by decide) ?_
      refine k_iadd hx hb d_MO_map_61 ?_
      refine k_iald hx hb hK hP 1 0 rfl rfl (by omega) (by omega) d_MO_map_62 ?_
      refine k_calli (wr := [(h0, .inr (8, [.int (xth), .int (nI nby), .ref a1, .int (xra), .int (nI ndb), .ref a2, .int (nI ncb), .ref a3, .ref a4, .int (nI nfr), .ref a5, .ref a6, .int (nI nsy), .int (nI nai), .ref a7, .ref a8, .int (xas), .int (xan), .int (xst), .int (xhr), .int (xhb), .int (xse), .int (xbe), .ref a9, .ref b1, .ref b2, .ref b3, .ref b4, .ref b5, .ref b6, .ref b7, .ref b8, .ref c1, .ref c2, .ref c3, .ref c4, .ref c5, .ref c6, .ref c7, .int (xrg)])), (a4, .inl (tc 0, 340, .inl pd)), (b3, .inl (tc 0, 16, .inl x.1)), (b4, .inl (tc 0, 16, .inl x.2))]) (k_runS (As := [.int (pd fr), .int (pd (fr + 1))]) (rest := [.int (nI car), .ref b3]) (wc := []) ⟨hx, hb, hml, hown, hts⟩ (c_MO_level l D tc tb (pd fr) (pd (fr + 1)) (hbt _ (by omega)) (hbt _ (by omega)) s.heap.size) (va_cwS 2 hts (k_goodS wd_881 wd_882 wd_11 wd_883) rfl rfl rfl hd_MO_level ⟨by rw [hR]; exact Nat.le_of_ble_eq_true rfl, by rw [hR]; exact Nat.le_of_ble_eq_true rfl⟩) hK hP hD hS hST hN hA [] (by decide) rfl rfl hl.1 rfl (Nat.le_of_ble_eq_true rfl) d_MO_map_63 ⟨by rw [hR]; exact Nat.le_of_ble_eq_true rfl, by rw [hR]; exact Nat.le_of_ble_eq_true rfl⟩) hP hD hS hA [] [0, 1, 2, 3] rfl rfl (by decide) (by decide) (fun _ H locs hp63 hP hD hS => ?_)
      have hP : va_P D classes [(h0, .inr (8, [.int (xth), .int (nI nby), .ref a1, .int (xra), .int (nI ndb), .ref a2, .int (nI ncb), .ref a3, .ref a4, .int (nI nfr), .ref a5, .ref a6, .int (nI nsy), .int (nI nai), .ref a7, .ref a8, .int (xas), .int (xan), .int (xst), .int (xhr), .int (xhb), .int (xse), .int (xbe), .ref a9, .ref b1, .ref b2, .ref b3, .ref b4, .ref b5, .ref b6, .ref b7, .ref b8, .ref c1, .ref c2, .ref c3, .ref c4, .ref c5, .ref c6, .ref c7, .int (xrg)])), (a4, .inl (tc 0, 340, .inl pd)), (b3, .inl (tc 0, 16, .inl x.1)), (b4, .inl (tc 0, 16, .inl x.2))] H := hP
      have hD : va_D A [(h0, .inr (8, [.int (xth), .int (nI nby), .ref a1, .int (xra), .int (nI ndb), .ref a2, .int (nI ncb), .ref a3, .ref a4, .int (nI nfr), .ref a5, .ref a6, .int (nI nsy), .int (nI nai), .ref a7, .ref a8, .int (xas), .int (xan), .int (xst), .int (xhr), .int (xhb), .int (xse), .int (xbe), .ref a9, .ref b1, .ref b2, .ref b3, .ref b4, .ref b5, .ref b6, .ref b7, .ref b8, .ref c1, .ref c2, .ref c3, .ref c4, .ref c5, .ref c6, .ref c7, .int (xrg)])), (a4, .inl (tc 0, 340, .inl pd)), (b3, .inl (tc 0, 16, .inl x.1)), (b4, .inl (tc 0, 16, .inl x.2))] := hD
      refine W.widen (k := 0) (n := 0) (Nat.le_of_ble_eq_true rfl) (Nat.le_of_ble_eq_true rfl) ?_
      refine W.eq (g2 := F0 m 66 ls [.int (levT (lvI (pd fr) (pd (fr + 1)))), .int (nI car), .ref b3]) rfl ?_
      refine k_iast (ws' := [(h0, .inr (8, [.int (xth), .int (nI nby), .ref a1, .int (xra), .int (nI ndb), .ref a2, .int (nI ncb), .ref a3, .ref a4, .int (nI nfr), .ref a5, .ref a6, .int (nI nsy), .int (nI nai), .ref a7, .ref a8, .int (xas), .int (xan), .int (xst), .int (xhr), .int (xhb), .int (xse), .int (xbe), .ref a9, .ref b1, .ref b2, .ref b3, .ref b4, .ref b5, .ref b6, .ref b7, .ref b8, .ref c1, .ref c2, .ref c3, .ref c4, .ref c5, .ref c6, .ref c7, .int (xrg)])), (a4, .inl (tc 0, 340, .inl pd)), (b3, .inl (tc 0, 16, .inl (upd x.1 car (levT (lvI (pd fr) (pd (fr + 1))))))), (b4, .inl (tc 0, 16, .inl x.2))]) hx hb hK hP hD hS 2 0 rfl rfl (by omega) (by omega) d_MO_map_66 rfl (fun H locs hP hD hS => ?_)
      refine lv_aload_n hx hb d_MO_map_67 rfl (lv_at hl 0 rfl) ?_
      refine k_get hx hb hw uw_MO hown hK hP 0 rfl rfl 27 (by decide) (hw _ wd_741) rfl d_MO_map_68 ?_
      refine lv_iload_n hx hb d_MO_map_71 rfl (lv_at hl 1 rfl) ?_
      refine lv_iload_n hx hb d_MO_map_72 rfl (lv_at hl 2 rfl) ?_
      refine lv_iconst (v := nI 1) hx hb d_MO_map_73 (by decide) ?_
      refine k_icmp_ne (tgt := 81) hx hb d_MO_map_74 (by decide) (by omega) (by omega) (fun h74 => ?_) (fun h74 => ?_)
      · refine lv_iload_n hx hb d_MO_map_81 rfl (lv_at hl 2 rfl) ?_
        refine lv_iconst (v := nI 2) hx hb d_MO_map_82 (by decide) ?_
        refine k_icmp_ne (tgt := 105) hx hb d_MO_map_83 (by decide) (by omega) (by omega) (fun h83 => ?_) (fun h83 => ?_)
        · refine lv_aload_n hx hb d_MO_map_105 rfl (lv_at hl 0 rfl) ?_
          refine k_get hx hb hw uw_MO hown hK hP 0 rfl rfl 8 (by decide) (hw _ wd_722) rfl d_MO_map_106 ?_
          refine lv_iload_n hx hb d_MO_map_109 rfl (lv_at hl 3 rfl) ?_
          refine lv_iconst (v := nI 2) hx hb d_MO_map_110 (by decide) ?_
          refine k_iadd hx hb d_MO_map_111 ?_
          refine k_iald hx hb hK hP 1 0 rfl rfl (by omega) (by omega) d_MO_map_112 ?_
          refine lv_aload_n hx hb d_MO_map_113 rfl (lv_at hl 0 rfl) ?_
          refine k_get hx hb hw uw_MO hown hK hP 0 rfl rfl 8 (by decide) (hw _ wd_722) rfl d_MO_map_114 ?_
          refine lv_iload_n hx hb d_MO_map_117 rfl (lv_at hl 3 rfl) ?_
          refine lv_iconst (v := nI 3) hx hb d_MO_map_118 (by decide) ?_
          refine k_iadd hx hb d_MO_map_119 ?_
          refine k_iald hx hb hK hP 1 0 rfl rfl (by omega) (by omega) d_MO_map_120 ?_
          refine k_calli (wr := [(h0, .inr (8, [.int (xth), .int (nI nby), .ref a1, .int (xra), .int (nI ndb), .ref a2, .int (nI ncb), .ref a3, .ref a4, .int (nI nfr), .ref a5, .ref a6, .int (nI nsy), .int (nI nai), .ref a7, .ref a8, .int (xas), .int (xan), .int (xst), .int (xhr), .int (xhb), .int (xse), .int (xbe), .ref a9, .ref b1, .ref b2, .ref b3, .ref b4, .ref b5, .ref b6, .ref b7, .ref b8, .ref c1, .ref c2, .ref c3, .ref c4, .ref c5, .ref c6, .ref c7, .int (xrg)])), (a4, .inl (tc 0, 340, .inl pd)), (b3, .inl (tc 0, 16, .inl (upd x.1 car (levT (lvI (pd fr) (pd (fr + 1))))))), (b4, .inl (tc 0, 16, .inl x.2))]) (k_runS (As := [.int (pd (fr + 2)), .int (pd (fr + 3))]) (rest := [.int (nI car), .ref b4]) (wc := []) ⟨hx, hb, hml, hown, hts⟩ (c_MO_level l D tc tb (pd (fr + 2)) (pd (fr + 3)) (hbt _ (by omega)) (hbt _ (by omega)) H.size) (va_cwS 2 hts (k_goodS wd_881 wd_882 wd_11 wd_883) rfl rfl rfl hd_MO_level ⟨by rw [hR]; exact Nat.le_of_ble_eq_true rfl, by rw [hR]; exact Nat.le_of_ble_eq_true rfl⟩) hK hP hD hS hST hN hA [] (by decide) rfl rfl hl.1 rfl (Nat.le_of_ble_eq_true rfl) d_MO_map_121 ⟨by rw [hR]; exact Nat.le_of_ble_eq_true rfl, by rw [hR]; exact Nat.le_of_ble_eq_true rfl⟩) hP hD hS hA [] [0, 1, 2, 3] rfl rfl (by decide) (by decide) (fun _ H locs hp121 hP hD hS => ?_)
          have hP : va_P D classes [(h0, .inr (8, [.int (xth), .int (nI nby), .ref a1, .int (xra), .int (nI ndb), .ref a2, .int (nI ncb), .ref a3, .ref a4, .int (nI nfr), .ref a5, .ref a6, .int (nI nsy), .int (nI nai), .ref a7, .ref a8, .int (xas), .int (xan), .int (xst), .int (xhr), .int (xhb), .int (xse), .int (xbe), .ref a9, .ref b1, .ref b2, .ref b3, .ref b4, .ref b5, .ref b6, .ref b7, .ref b8, .ref c1, .ref c2, .ref c3, .ref c4, .ref c5, .ref c6, .ref c7, .int (xrg)])), (a4, .inl (tc 0, 340, .inl pd)), (b3, .inl (tc 0, 16, .inl (upd x.1 car (levT (lvI (pd fr) (pd (fr + 1))))))), (b4, .inl (tc 0, 16, .inl x.2))] H := hP
          have hD : va_D A [(h0, .inr (8, [.int (xth), .int (nI nby), .ref a1, .int (xra), .int (nI ndb), .ref a2, .int (nI ncb), .ref a3, .ref a4, .int (nI nfr), .ref a5, .ref a6, .int (nI nsy), .int (nI nai), .ref a7, .ref a8, .int (xas), .int (xan), .int (xst), .int (xhr), .int (xhb), .int (xse), .int (xbe), .ref a9, .ref b1, .ref b2, .ref b3, .ref b4, .ref b5, .ref b6, .ref b7, .ref b8, .ref c1, .ref c2, .ref c3, .ref c4, .ref c5, .ref c6, .ref c7, .int (xrg)])), (a4, .inl (tc 0, 340, .inl pd)), (b3, .inl (tc 0, 16, .inl (upd x.1 car (levT (lvI (pd fr) (pd (fr + 1))))))), (b4, .inl (tc 0, 16, .inl x.2))] := hD
          refine W.widen (k := 0) (n := 0) (Nat.le_of_ble_eq_true rfl) (Nat.le_of_ble_eq_true rfl) ?_
          refine W.eq (g2 := F0 m 124 ls [.int (levT (lvI (pd (fr + 2)) (pd (fr + 3)))), .int (nI car), .ref b4]) rfl ?_
          refine k_iast (ws' := [(h0, .inr (8, [.int (xth), .int (nI nby), .ref a1, .int (xra), .int (nI ndb), .ref a2, .int (nI ncb), .ref a3, .ref a4, .int (nI nfr), .ref a5, .ref a6, .int (nI nsy), .int (nI nai), .ref a7, .ref a8, .int (xas), .int (xan), .int (xst), .int (xhr), .int (xhb), .int (xse), .int (xbe), .ref a9, .ref b1, .ref b2, .ref b3, .ref b4, .ref b5, .ref b6, .ref b7, .ref b8, .ref c1, .ref c2, .ref c3, .ref c4, .ref c5, .ref c6, .ref c7, .int (xrg)])), (a4, .inl (tc 0, 340, .inl pd)), (b3, .inl (tc 0, 16, .inl (upd x.1 car (levT (lvI (pd fr) (pd (fr + 1))))))), (b4, .inl (tc 0, 16, .inl (upd x.2 car (levT (lvI (pd (fr + 2)) (pd (fr + 3)))))))]) hx hb hK hP hD hS 3 0 rfl rfl (by omega) (by omega) d_MO_map_124 rfl (fun H locs hP hD hS => ?_)
          rw [hQ]
          exact k_vret () hx hb hr hlk hK hP hD hS [0, 1, 2, 3] (by decide) rfl trivial d_MO_map_125
        · exfalso; omega
      · exfalso; omega
    · exfalso; omega
  · exfalso; omega
set_option maxHeartbeats 4000000 in
set_option maxRecDepth 100000 in
theorem c_MO_sample22 (l : Launch) (D : va_G) (tc : Nat → ClassId) (tb : Nat → Nat) (h0 : Nat) (nby : Nat) (ndb : Nat) (ncb : Nat) (nfr : Nat) (nsy : Nat) (nai : Nat) (xth : Int32) (xra : Int32) (xas : Int32) (xan : Int32) (xst : Int32) (xhr : Int32) (xhb : Int32) (xse : Int32) (xbe : Int32) (xrg : Int32) (a1 : Nat) (a2 : Nat) (a3 : Nat) (a4 : Nat) (a5 : Nat) (a6 : Nat) (a7 : Nat) (a8 : Nat) (a9 : Nat) (b1 : Nat) (b2 : Nat) (b3 : Nat) (b4 : Nat) (b5 : Nat) (b6 : Nat) (b7 : Nat) (b8 : Nat) (c1 : Nat) (c2 : Nat) (c3 : Nat) (c4 : Nat) (c5 : Nat) (c6 : Nat) (c7 : Nat) (wi : Nat → Int32) (wq : Nat → Int32) (x : Int32) (y : Int32) (hf : nfr < 520) : Mv l D tc tb y_MO_sample22 prog_10_method_22_code 3 none ({ frames := 1, cells := 0, slots := 0, locals := 20 }) [.ref h0, .int (x), .int (y)] [(h0, .inr (8, [.int (xth), .int (nI nby), .ref a1, .int (xra), .int (nI ndb), .ref a2, .int (nI ncb), .ref a3, .ref a4, .int (nI nfr), .ref a5, .ref a6, .int (nI nsy), .int (nI nai), .ref a7, .ref a8, .int (xas), .int (xan), .int (xst), .int (xhr), .int (xhb), .int (xse), .int (xbe), .ref a9, .ref b1, .ref b2, .ref b3, .ref b4, .ref b5, .ref b6, .ref b7, .ref b8, .ref c1, .ref c2, .ref c3, .ref c4, .ref c5, .ref c6, .ref c7, .int (xrg)])), (a5, .inl (tc 0, 520, .inl wi)), (a6, .inl (tc 0, 520, .inl wq))] (fun _ : Unit => True) (fun _ : Unit => [(h0, .inr (8, [.int (xth), .int (nI nby), .ref a1, .int (xra), .int (nI ndb), .ref a2, .int (nI ncb), .ref a3, .ref a4, .int (nI (nfr + 1)), .ref a5, .ref a6, .int (nI nsy), .int (nI nai), .ref a7, .ref a8, .int (xas), .int (xan), .int (xst), .int (xhr), .int (xhb), .int (xse), .int (xbe), .ref a9, .ref b1, .ref b2, .ref b3, .ref b4, .ref b5, .ref b6, .ref b7, .ref b8, .ref c1, .ref c2, .ref c3, .ref c4, .ref c5, .ref c6, .ref c7, .int (xrg)])), (a5, .inl (tc 0, 520, .inl (upd wi nfr (satF x)))), (a6, .inl (tc 0, 520, .inl (upd wq nfr (satF y))))]) := by
  refine Mv.go (by decide) (Nat.le_of_ble_eq_true rfl) ?_
  intro p e s m below meth c A ls R args Q C
  obtain ⟨hx, hb, hr, hts, hown, hlk, hml, hin, hA, hST, hN, hK, hP, hD, hS, hl, hR, hQ⟩ := C
  have hw : ∀ w ∈ lw_g, w.before args s = true := fun w h => hts w (List.mem_cons_of_mem _ h)
  have hl : lv_has ls 3 [(0, .ref h0), (1, .int (x)), (2, .int (y))] := hl
  refine lv_aload_n hx hb d_MO_sample22_0 rfl (lv_at hl 0 rfl) ?_
  refine k_get hx hb hw uw_MO hown hK hP 0 rfl rfl 10 (by decide) (hw _ wd_724) rfl d_MO_sample22_1 ?_
  refine lv_aload_n hx hb d_MO_sample22_4 rfl (lv_at hl 0 rfl) ?_
  refine k_get hx hb hw uw_MO hown hK hP 0 rfl rfl 9 (by decide) (hw _ wd_723) rfl d_MO_sample22_5 ?_
  refine lv_iload_n hx hb d_MO_sample22_8 rfl (lv_at hl 1 rfl) ?_
  refine k_calli (wr := [(h0, .inr (8, [.int (xth), .int (nI nby), .ref a1, .int (xra), .int (nI ndb), .ref a2, .int (nI ncb), .ref a3, .ref a4, .int (nI nfr), .ref a5, .ref a6, .int (nI nsy), .int (nI nai), .ref a7, .ref a8, .int (xas), .int (xan), .int (xst), .int (xhr), .int (xhb), .int (xse), .int (xbe), .ref a9, .ref b1, .ref b2, .ref b3, .ref b4, .ref b5, .ref b6, .ref b7, .ref b8, .ref c1, .ref c2, .ref c3, .ref c4, .ref c5, .ref c6, .ref c7, .int (xrg)])), (a5, .inl (tc 0, 520, .inl wi)), (a6, .inl (tc 0, 520, .inl wq))]) (k_runS (As := [.int (x)]) (rest := [.int (nI nfr), .ref a5]) (wc := []) ⟨hx, hb, hml, hown, hts⟩ (c_MO_saturate l D tc tb x  s.heap.size) (va_cwS 1 hts (k_goodS wd_856 wd_857 wd_11 wd_858) rfl rfl rfl hd_MO_saturate ⟨by rw [hR]; exact Nat.le_of_ble_eq_true rfl, by rw [hR]; exact Nat.le_of_ble_eq_true rfl⟩) hK hP hD hS hST hN hA [] (by decide) rfl rfl hl.1 rfl (Nat.le_of_ble_eq_true rfl) d_MO_sample22_9 ⟨by rw [hR]; exact Nat.le_of_ble_eq_true rfl, by rw [hR]; exact Nat.le_of_ble_eq_true rfl⟩) hP hD hS hA [] [0, 1, 2] rfl rfl (by decide) (by decide) (fun _ H locs hp9 hP hD hS => ?_)
  have hP : va_P D classes [(h0, .inr (8, [.int (xth), .int (nI nby), .ref a1, .int (xra), .int (nI ndb), .ref a2, .int (nI ncb), .ref a3, .ref a4, .int (nI nfr), .ref a5, .ref a6, .int (nI nsy), .int (nI nai), .ref a7, .ref a8, .int (xas), .int (xan), .int (xst), .int (xhr), .int (xhb), .int (xse), .int (xbe), .ref a9, .ref b1, .ref b2, .ref b3, .ref b4, .ref b5, .ref b6, .ref b7, .ref b8, .ref c1, .ref c2, .ref c3, .ref c4, .ref c5, .ref c6, .ref c7, .int (xrg)])), (a5, .inl (tc 0, 520, .inl wi)), (a6, .inl (tc 0, 520, .inl wq))] H := hP
  have hD : va_D A [(h0, .inr (8, [.int (xth), .int (nI nby), .ref a1, .int (xra), .int (nI ndb), .ref a2, .int (nI ncb), .ref a3, .ref a4, .int (nI nfr), .ref a5, .ref a6, .int (nI nsy), .int (nI nai), .ref a7, .ref a8, .int (xas), .int (xan), .int (xst), .int (xhr), .int (xhb), .int (xse), .int (xbe), .ref a9, .ref b1, .ref b2, .ref b3, .ref b4, .ref b5, .ref b6, .ref b7, .ref b8, .ref c1, .ref c2, .ref c3, .ref c4, .ref c5, .ref c6, .ref c7, .int (xrg)])), (a5, .inl (tc 0, 520, .inl wi)), (a6, .inl (tc 0, 520, .inl wq))] := hD
  refine W.widen (k := 0) (n := 0) (Nat.le_of_ble_eq_true rfl) (Nat.le_of_ble_eq_true rfl) ?_
  refine W.eq (g2 := F0 m 12 ls [.int (satF x), .int (nI nfr), .ref a5]) rfl ?_
  refine k_iast (ws' := [(h0, .inr (8, [.int (xth), .int (nI nby), .ref a1, .int (xra), .int (nI ndb), .ref a2, .int (nI ncb), .ref a3, .ref a4, .int (nI nfr), .ref a5, .ref a6, .int (nI nsy), .int (nI nai), .ref a7, .ref a8, .int (xas), .int (xan), .int (xst), .int (xhr), .int (xhb), .int (xse), .int (xbe), .ref a9, .ref b1, .ref b2, .ref b3, .ref b4, .ref b5, .ref b6, .ref b7, .ref b8, .ref c1, .ref c2, .ref c3, .ref c4, .ref c5, .ref c6, .ref c7, .int (xrg)])), (a5, .inl (tc 0, 520, .inl (upd wi nfr (satF x)))), (a6, .inl (tc 0, 520, .inl wq))]) hx hb hK hP hD hS 1 0 rfl rfl (by omega) (by omega) d_MO_sample22_12 rfl (fun H locs hP hD hS => ?_)
  refine lv_aload_n hx hb d_MO_sample22_13 rfl (lv_at hl 0 rfl) ?_
  refine k_get hx hb hw uw_MO hown hK hP 0 rfl rfl 11 (by decide) (hw _ wd_725) rfl d_MO_sample22_14 ?_
  refine lv_aload_n hx hb d_MO_sample22_17 rfl (lv_at hl 0 rfl) ?_
  refine k_get hx hb hw uw_MO hown hK hP 0 rfl rfl 9 (by decide) (hw _ wd_723) rfl d_MO_sample22_18 ?_
  refine lv_iload_n hx hb d_MO_sample22_21 rfl (lv_at hl 2 rfl) ?_
  refine k_calli (wr := [(h0, .inr (8, [.int (xth), .int (nI nby), .ref a1, .int (xra), .int (nI ndb), .ref a2, .int (nI ncb), .ref a3, .ref a4, .int (nI nfr), .ref a5, .ref a6, .int (nI nsy), .int (nI nai), .ref a7, .ref a8, .int (xas), .int (xan), .int (xst), .int (xhr), .int (xhb), .int (xse), .int (xbe), .ref a9, .ref b1, .ref b2, .ref b3, .ref b4, .ref b5, .ref b6, .ref b7, .ref b8, .ref c1, .ref c2, .ref c3, .ref c4, .ref c5, .ref c6, .ref c7, .int (xrg)])), (a5, .inl (tc 0, 520, .inl (upd wi nfr (satF x)))), (a6, .inl (tc 0, 520, .inl wq))]) (k_runS (As := [.int (y)]) (rest := [.int (nI nfr), .ref a6]) (wc := []) ⟨hx, hb, hml, hown, hts⟩ (c_MO_saturate l D tc tb y  H.size) (va_cwS 1 hts (k_goodS wd_856 wd_857 wd_11 wd_858) rfl rfl rfl hd_MO_saturate ⟨by rw [hR]; exact Nat.le_of_ble_eq_true rfl, by rw [hR]; exact Nat.le_of_ble_eq_true rfl⟩) hK hP hD hS hST hN hA [] (by decide) rfl rfl hl.1 rfl (Nat.le_of_ble_eq_true rfl) d_MO_sample22_22 ⟨by rw [hR]; exact Nat.le_of_ble_eq_true rfl, by rw [hR]; exact Nat.le_of_ble_eq_true rfl⟩) hP hD hS hA [] [0, 1, 2] rfl rfl (by decide) (by decide) (fun _ H locs hp22 hP hD hS => ?_)
  have hP : va_P D classes [(h0, .inr (8, [.int (xth), .int (nI nby), .ref a1, .int (xra), .int (nI ndb), .ref a2, .int (nI ncb), .ref a3, .ref a4, .int (nI nfr), .ref a5, .ref a6, .int (nI nsy), .int (nI nai), .ref a7, .ref a8, .int (xas), .int (xan), .int (xst), .int (xhr), .int (xhb), .int (xse), .int (xbe), .ref a9, .ref b1, .ref b2, .ref b3, .ref b4, .ref b5, .ref b6, .ref b7, .ref b8, .ref c1, .ref c2, .ref c3, .ref c4, .ref c5, .ref c6, .ref c7, .int (xrg)])), (a5, .inl (tc 0, 520, .inl (upd wi nfr (satF x)))), (a6, .inl (tc 0, 520, .inl wq))] H := hP
  have hD : va_D A [(h0, .inr (8, [.int (xth), .int (nI nby), .ref a1, .int (xra), .int (nI ndb), .ref a2, .int (nI ncb), .ref a3, .ref a4, .int (nI nfr), .ref a5, .ref a6, .int (nI nsy), .int (nI nai), .ref a7, .ref a8, .int (xas), .int (xan), .int (xst), .int (xhr), .int (xhb), .int (xse), .int (xbe), .ref a9, .ref b1, .ref b2, .ref b3, .ref b4, .ref b5, .ref b6, .ref b7, .ref b8, .ref c1, .ref c2, .ref c3, .ref c4, .ref c5, .ref c6, .ref c7, .int (xrg)])), (a5, .inl (tc 0, 520, .inl (upd wi nfr (satF x)))), (a6, .inl (tc 0, 520, .inl wq))] := hD
  refine W.widen (k := 0) (n := 0) (Nat.le_of_ble_eq_true rfl) (Nat.le_of_ble_eq_true rfl) ?_
  refine W.eq (g2 := F0 m 25 ls [.int (satF y), .int (nI nfr), .ref a6]) rfl ?_
  refine k_iast (ws' := [(h0, .inr (8, [.int (xth), .int (nI nby), .ref a1, .int (xra), .int (nI ndb), .ref a2, .int (nI ncb), .ref a3, .ref a4, .int (nI nfr), .ref a5, .ref a6, .int (nI nsy), .int (nI nai), .ref a7, .ref a8, .int (xas), .int (xan), .int (xst), .int (xhr), .int (xhb), .int (xse), .int (xbe), .ref a9, .ref b1, .ref b2, .ref b3, .ref b4, .ref b5, .ref b6, .ref b7, .ref b8, .ref c1, .ref c2, .ref c3, .ref c4, .ref c5, .ref c6, .ref c7, .int (xrg)])), (a5, .inl (tc 0, 520, .inl (upd wi nfr (satF x)))), (a6, .inl (tc 0, 520, .inl (upd wq nfr (satF y))))]) hx hb hK hP hD hS 2 0 rfl rfl (by omega) (by omega) d_MO_sample22_25 rfl (fun H locs hP hD hS => ?_)
  refine lv_aload_n hx hb d_MO_sample22_26 rfl (lv_at hl 0 rfl) ?_
  refine lv_dup hx hb d_MO_sample22_27 rfl ?_
  refine k_get hx hb hw uw_MO hown hK hP 0 rfl rfl 9 (by decide) (hw _ wd_723) rfl d_MO_sample22_28 ?_
  refine lv_iconst (v := nI 1) hx hb d_MO_sample22_31 (by decide) ?_
  refine k_iadd hx hb d_MO_sample22_32 ?_
  refine k_put (ws' := [(h0, .inr (8, [.int (xth), .int (nI nby), .ref a1, .int (xra), .int (nI ndb), .ref a2, .int (nI ncb), .ref a3, .ref a4, .int (nI (nfr + 1)), .ref a5, .ref a6, .int (nI nsy), .int (nI nai), .ref a7, .ref a8, .int (xas), .int (xan), .int (xst), .int (xhr), .int (xhb), .int (xse), .int (xbe), .ref a9, .ref b1, .ref b2, .ref b3, .ref b4, .ref b5, .ref b6, .ref b7, .ref b8, .ref c1, .ref c2, .ref c3, .ref c4, .ref c5, .ref c6, .ref c7, .int (xrg)])), (a5, .inl (tc 0, 520, .inl (upd wi nfr (satF x)))), (a6, .inl (tc 0, 520, .inl (upd wq nfr (satF y))))]) hx hb hw uw_MO tok_MO nn_MO hown hK hP hD hS 0 rfl rfl 9 (by decide) (hw _ wd_723) rfl rfl rfl (Nat.le_of_ble_eq_true rfl) d_MO_sample22_33 rfl (fun H locs hP hD hS => ?_)
  rw [hQ]
  exact k_vret () hx hb hr hlk hK hP hD hS [0, 1, 2] (by decide) rfl trivial d_MO_sample22_36
