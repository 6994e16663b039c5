set_option maxHeartbeats 4000000 in
set_option maxRecDepth 100000 in
theorem c_PA_init (l : Launch) (D : va_G) (tc : Nat → ClassId) (tb : Nat → Nat) (h0 : Nat) : Mv l D tc tb y_PA_init prog_3_method_1_code 2 none ({ frames := 2, cells := 6, slots := 548, locals := 41 }) [.ref h0] [(h0, .inr (7, [.null, .null, .null, .null, .null, .null]))] (fun u : Nat × Nat × Nat × Nat × Nat × Nat => True) (fun u : Nat × Nat × Nat × Nat × Nat × Nat => [(h0, .inr (7, [.ref u.1, .ref u.2.1, .ref u.2.2.1, .ref u.2.2.2.1, .ref u.2.2.2.2.1, .ref u.2.2.2.2.2])), (u.1, .inl (tc 0, 144, .inl (fun _ => 0))), (u.2.1, .inl (tc 2, 144, .inr (.inl (fun _ => 0)))), (u.2.2.1, .inl (tc 0, 128, .inl (fun w => nI (outN w)))), (u.2.2.2.1, .inl (tc 0, 4, .inl (fun _ => 0))), (u.2.2.2.2.1, .inl (tc 0, 64, .inl (fun _ => 0))), (u.2.2.2.2.2, .inl (tc 0, 64, .inl (fun _ => 0)))]) := by
  refine Mv.go (by decide) (Nat.le_of_ble_eq_true rfl) ?_
  intro p e s m below meth c A ls R args Q C
  obtain ⟨hx, hb, hr, hts, hown, hlk, hml, hin, hA, hST, hN, hK, hP, hD, hS, hl, hR, hQ⟩ := C
  have hw : ∀ w ∈ lw_g, w.before args s = true := fun w h => hts w (List.mem_cons_of_mem _ h)
  have hl : lv_has ls 2 [(0, .ref h0)] := hl
  refine lv_aload_n hx hb d_PA_init_0 rfl (lv_at hl 0 rfl) ?_
  refine W.objInit hx hb hown (hw _ wd_183) (hw _ wd_25) (hw _ wd_26) rfl (by rw [hml]; exact hl.1) rfl d_PA_init_1 (by rw [hR]; exact Nat.le_of_ble_eq_true rfl) (by rw [hR]; exact Nat.le_of_ble_eq_true rfl) ?_
  refine W.eq (g2 := F0 m 4 ls []) rfl ?_
  refine lv_aload_n hx hb d_PA_init_4 rfl (lv_at hl 0 rfl) ?_
  refine lv_sipush (v := nI 144) hx hb d_PA_init_5 (by decide) ?_
  refine k_newaI hx hb (hw _ wd_51) hK hP hD hS hA (n := 144) (by decide) (by rw [hR]; exact Nat.le_of_ble_eq_true rfl) (by rw [hR]; exact Nat.le_of_ble_eq_true rfl) d_PA_init_8 (fun b0 H hP hD hS => ?_)
  have hP : va_P D classes [(h0, .inr (7, [.null, .null, .null, .null, .null, .null])), (b0, .inl (tc 0, 144, .inl (fun _ => 0)))] H := hP
  have hD : va_D A [(h0, .inr (7, [.null, .null, .null, .null, .null, .null])), (b0, .inl (tc 0, 144, .inl (fun _ => 0)))] := hD
  refine W.widen (k := 1) (n := 144) (Nat.le_of_ble_eq_true rfl) (Nat.le_of_ble_eq_true rfl) ?_
  refine k_putF (ws' := [(h0, .inr (7, [.ref b0, .null, .null, .null, .null, .null])), (b0, .inl (tc 0, 144, .inl (fun _ => 0)))]) hx hb hw uw_PA tok_PA nn_PA hown hK hP hD hS 0 rfl rfl 0 (by decide) (hw _ wd_193) rfl hin rfl rfl rfl (Nat.le_of_ble_eq_true rfl) d_PA_init_10 rfl (fun H locs hP hD hS => ?_)
  refine lv_aload_n hx hb d_PA_init_13 rfl (lv_at hl 0 rfl) ?_
  refine lv_sipush (v := nI 144) hx hb d_PA_init_14 (by decide) ?_
  refine k_newaL hx hb (hw _ wd_213) hK hP hD hS hA (n := 144) (by decide) (by rw [hR]; exact Nat.le_of_ble_eq_true rfl) (by rw [hR]; exact Nat.le_of_ble_eq_true rfl) d_PA_init_17 (fun ch H hP hD hS => ?_)
  have hP : va_P D classes [(h0, .inr (7, [.ref b0, .null, .null, .null, .null, .null])), (b0, .inl (tc 0, 144, .inl (fun _ => 0))), (ch, .inl (tc 2, 144, .inr (.inl (fun _ => 0))))] H := hP
  have hD : va_D A [(h0, .inr (7, [.ref b0, .null, .null, .null, .null, .null])), (b0, .inl (tc 0, 144, .inl (fun _ => 0))), (ch, .inl (tc 2, 144, .inr (.inl (fun _ => 0))))] := hD
  refine W.widen (k := 2) (n := 288) (Nat.le_of_ble_eq_true rfl) (Nat.le_of_ble_eq_true rfl) ?_
  refine k_putF (ws' := [(h0, .inr (7, [.ref b0, .ref ch, .null, .null, .null, .null])), (b0, .inl (tc 0, 144, .inl (fun _ => 0))), (ch, .inl (tc 2, 144, .inr (.inl (fun _ => 0))))]) hx hb hw uw_PA tok_PA nn_PA hown hK hP hD hS 0 rfl rfl 1 (by decide) (hw _ wd_195) rfl hin rfl rfl rfl (Nat.le_of_ble_eq_true rfl) d_PA_init_19 rfl (fun H locs hP hD hS => ?_)
  refine lv_aload_n hx hb d_PA_init_22 rfl (lv_at hl 0 rfl) ?_
  refine lv_sipush (v := nI 128) hx hb d_PA_init_23 (by decide) ?_
  refine k_newaI hx hb (hw _ wd_51) hK hP hD hS hA (n := 128) (by decide) (by rw [hR]; exact Nat.le_of_ble_eq_true rfl) (by rw [hR]; exact Nat.le_of_ble_eq_true rfl) d_PA_init_26 (fun ou H hP hD hS => ?_)
  have hP : va_P D classes [(h0, .inr (7, [.ref b0, .ref ch, .null, .null, .null, .null])), (b0, .inl (tc 0, 144, .inl (fun _ => 0))), (ch, .inl (tc 2, 144, .inr (.inl (fun _ => 0)))), (ou, .inl (tc 0, 128, .inl (fun _ => 0)))] H := hP
  have hD : va_D A [(h0, .inr (7, [.ref b0, .ref ch, .null, .null, .null, .null])), (b0, .inl (tc 0, 144, .inl (fun _ => 0))), (ch, .inl (tc 2, 144, .inr (.inl (fun _ => 0)))), (ou, .inl (tc 0, 128, .inl (fun _ => 0)))] := hD
  refine W.widen (k := 3) (n := 416) (Nat.le_of_ble_eq_true rfl) (Nat.le_of_ble_eq_true rfl) ?_
  refine k_putF (ws' := [(h0, .inr (7, [.ref b0, .ref ch, .ref ou, .null, .null, .null])), (b0, .inl (tc 0, 144, .inl (fun _ => 0))), (ch, .inl (tc 2, 144, .inr (.inl (fun _ => 0)))), (ou, .inl (tc 0, 128, .inl (fun _ => 0)))]) hx hb hw uw_PA tok_PA nn_PA hown hK hP hD hS 0 rfl rfl 2 (by decide) (hw _ wd_196) rfl hin rfl rfl rfl (Nat.le_of_ble_eq_true rfl) d_PA_init_28 rfl (fun H locs hP hD hS => ?_)
  refine lv_iconst (v := nI 0) hx hb d_PA_init_31 (by decide) ?_
  refine lv_istore_n (lv' := [(1, .int (nI 0)), (0, .ref h0)]) hx hb d_PA_init_32 rfl hl (by decide) rfl (fun ls hl => ?_)
  refine k_loop (P := fun k : Nat => ∀ (H : Heap) (locs : List Loc) (ls : Array Slot), lv_has ls 2 [(1, .int (nI k)), (0, .ref h0)] → va_P D classes [(h0, .inr (7, [.ref b0, .ref ch, .ref ou, .null, .null, .null])), (b0, .inl (tc 0, 144, .inl (fun _ => 0))), (ch, .inl (tc 2, 144, .inr (.inl (fun _ => 0)))), (ou, .inl (tc 0, 128, .inl (gF outV (fun _ => 0) k)))] H → va_D A [(h0, .inr (7, [.ref b0, .ref ch, .ref ou, .null, .null, .null])), (b0, .inl (tc 0, 144, .inl (fun _ => 0))), (ch, .inl (tc 2, 144, .inr (.inl (fun _ => 0)))), (ou, .inl (tc 0, 128, .inl (gF outV (fun _ => 0) k)))] → va_S A s.heap H locs → W p l e R s m args below meth c H locs 3 416 Q (F0 m 33 ls [])) (128) (fun k hk_k ih_k  H locs ls hl hP hD hS => ?_) (0) (by omega)   H locs ls (lv_sub hl [0, 1] rfl) (by exact hP) (k_Ds hD [0, 1, 2, 3] (by decide) rfl) hS
  refine lv_iload_n hx hb d_PA_init_33 rfl (lv_at hl 0 rfl) ?_
  refine lv_sipush (v := nI 128) hx hb d_PA_init_34 (by decide) ?_
  refine k_icmp_ge (tgt := 67) hx hb d_PA_init_37 (by decide) (by omega) (by omega) (fun h37 => ?_) (fun h37 => ?_)
  · obtain rfl : 128 = k := by omega
    have hP : va_P D classes [(h0, .inr (7, [.ref b0, .ref ch, .ref ou, .null, .null, .null])), (b0, .inl (tc 0, 144, .inl (fun _ => 0))), (ch, .inl (tc 2, 144, .inr (.inl (fun _ => 0)))), (ou, .inl (tc 0, 128, .inl (fun w => nI (outN w))))] H := k_rep hP 3 rfl (fun j hj => (gF_all outV _ 128 j hj).trans (out_eq hj)) rfl
    have hD : va_D A [(h0, .inr (7, [.ref b0, .ref ch, .ref ou, .null, .null, .null])), (b0, .inl (tc 0, 144, .inl (fun _ => 0))), (ch, .inl (tc 2, 144, .inr (.inl (fun _ => 0)))), (ou, .inl (tc 0, 128, .inl (fun w => nI (outN w))))] := k_Ds hD [0, 1, 2, 3] (by decide) rfl
    refine lv_aload_n hx hb d_PA_init_67 rfl (lv_at hl 1 rfl) ?_
    refine lv_iconst (v := nI 4) hx hb d_PA_init_68 (by decide) ?_
    refine k_newaI hx hb (hw _ wd_51) hK hP hD hS hA (n := 4) (by decide) (by rw [hR]; exact Nat.le_of_ble_eq_true rfl) (by rw [hR]; exact Nat.le_of_ble_eq_true rfl) d_PA_init_69 (fun ga H hP hD hS => ?_)
    have hP : va_P D classes [(h0, .inr (7, [.ref b0, .ref ch, .ref ou, .null, .null, .null])), (b0, .inl (tc 0, 144, .inl (fun _ => 0))), (ch, .inl (tc 2, 144, .inr (.inl (fun _ => 0)))), (ou, .inl (tc 0, 128, .inl (fun w => nI (outN w)))), (ga, .inl (tc 0, 4, .inl (fun _ => 0)))] H := hP
    have hD : va_D A [(h0, .inr (7, [.ref b0, .ref ch, .ref ou, .null, .null, .null])), (b0, .inl (tc 0, 144, .inl (fun _ => 0))), (ch, .inl (tc 2, 144, .inr (.inl (fun _ => 0)))), (ou, .inl (tc 0, 128, .inl (fun w => nI (outN w)))), (ga, .inl (tc 0, 4, .inl (fun _ => 0)))] := hD
    refine W.widen (k := 4) (n := 420) (Nat.le_of_ble_eq_true rfl) (Nat.le_of_ble_eq_true rfl) ?_
    refine k_putF (ws' := [(h0, .inr (7, [.ref b0, .ref ch, .ref ou, .ref ga, .null, .null])), (b0, .inl (tc 0, 144, .inl (fun _ => 0))), (ch, .inl (tc 2, 144, .inr (.inl (fun _ => 0)))), (ou, .inl (tc 0, 128, .inl (fun w => nI (outN w)))), (ga, .inl (tc 0, 4, .inl (fun _ => 0)))]) hx hb hw uw_PA tok_PA nn_PA hown hK hP hD hS 0 rfl rfl 3 (by decide) (hw _ wd_197) rfl hin rfl rfl rfl (Nat.le_of_ble_eq_true rfl) d_PA_init_71 rfl (fun H locs hP hD hS => ?_)
    refine lv_aload_n hx hb d_PA_init_74 rfl (lv_at hl 1 rfl) ?_
    refine lv_bipush (v := nI 64) hx hb d_PA_init_75 (by decide) ?_
    refine k_newaI hx hb (hw _ wd_51) hK hP hD hS hA (n := 64) (by decide) (by rw [hR]; exact Nat.le_of_ble_eq_true rfl) (by rw [hR]; exact Nat.le_of_ble_eq_true rfl) d_PA_init_77 (fun me H hP hD hS => ?_)
    have hP : va_P D classes [(h0, .inr (7, [.ref b0, .ref ch, .ref ou, .ref ga, .null, .null])), (b0, .inl (tc 0, 144, .inl (fun _ => 0))), (ch, .inl (tc 2, 144, .inr (.inl (fun _ => 0)))), (ou, .inl (tc 0, 128, .inl (fun w => nI (outN w)))), (ga, .inl (tc 0, 4, .inl (fun _ => 0))), (me, .inl (tc 0, 64, .inl (fun _ => 0)))] H := hP
    have hD : va_D A [(h0, .inr (7, [.ref b0, .ref ch, .ref ou, .ref ga, .null, .null])), (b0, .inl (tc 0, 144, .inl (fun _ => 0))), (ch, .inl (tc 2, 144, .inr (.inl (fun _ => 0)))), (ou, .inl (tc 0, 128, .inl (fun w => nI (outN w)))), (ga, .inl (tc 0, 4, .inl (fun _ => 0))), (me, .inl (tc 0, 64, .inl (fun _ => 0)))] := hD
    refine W.widen (k := 5) (n := 484) (Nat.le_of_ble_eq_true rfl) (Nat.le_of_ble_eq_true rfl) ?_
    refine k_put (ws' := [(h0, .inr (7, [.ref b0, .ref ch, .ref ou, .ref ga, .ref me, .null])), (b0, .inl (tc 0, 144, .inl (fun _ => 0))), (ch, .inl (tc 2, 144, .inr (.inl (fun _ => 0)))), (ou, .inl (tc 0, 128, .inl (fun w => nI (outN w)))), (ga, .inl (tc 0, 4, .inl (fun _ => 0))), (me, .inl (tc 0, 64, .inl (fun _ => 0)))]) hx hb hw uw_PA tok_PA nn_PA hown hK hP hD hS 0 rfl rfl 4 (by decide) (hw _ wd_198) rfl rfl rfl (Nat.le_of_ble_eq_true rfl) d_PA_init_79 rfl (fun H locs hP hD hS => ?_)
    refine lv_aload_n hx hb d_PA_init_82 rfl (lv_at hl 1 rfl) ?_
    refine lv_bipush (v := nI 64) hx hb d_PA_init_83 (by decide) ?_
    refine k_newaI hx hb (hw _ wd_51) hK hP hD hS hA (n := 64) (by decide) (by rw [hR]; exact Nat.le_of_ble_eq_true rfl) (by rw [hR]; exact Nat.le_of_ble_eq_true rfl) d_PA_init_85 (fun ne H hP hD hS => ?_)
    have hP : va_P D classes [(h0, .inr (7, [.ref b0, .ref ch, .ref ou, .ref ga, .ref me, .null])), (b0, .inl (tc 0, 144, .inl (fun _ => 0))), (ch, .inl (tc 2, 144, .inr (.inl (fun _ => 0)))), (ou, .inl (tc 0, 128, .inl (fun w => nI (outN w)))), (ga, .inl (tc 0, 4, .inl (fun _ => 0))), (me, .inl (tc 0, 64, .inl (fun _ => 0))), (ne, .inl (tc 0, 64, .inl (fun _ => 0)))] H := hP
    have hD : va_D A [(h0, .inr (7, [.ref b0, .ref ch, .ref ou, .ref ga, .ref me, .null])), (b0, .inl (tc 0, 144, .inl (fun _ => 0))), (ch, .inl (tc 2, 144, .inr (.inl (fun _ => 0)))), (ou, .inl (tc 0, 128, .inl (fun w => nI (outN w)))), (ga, .inl (tc 0, 4, .inl (fun _ => 0))), (me, .inl (tc 0, 64, .inl (fun _ => 0))), (ne, .inl (tc 0, 64, .inl (fun _ => 0)))] := hD
    refine W.widen (k := 6) (n := 548) (Nat.le_of_ble_eq_true rfl) (Nat.le_of_ble_eq_true rfl) ?_
    refine k_put (ws' := [(h0, .inr (7, [.ref b0, .ref ch, .ref ou, .ref ga, .ref me, .ref ne])), (b0, .inl (tc 0, 144, .inl (fun _ => 0))), (ch, .inl (tc 2, 144, .inr (.inl (fun _ => 0)))), (ou, .inl (tc 0, 128, .inl (fun w => nI (outN w)))), (ga, .inl (tc 0, 4, .inl (fun _ => 0))), (me, .inl (tc 0, 64, .inl (fun _ => 0))), (ne, .inl (tc 0, 64, .inl (fun _ => 0)))]) hx hb hw uw_PA tok_PA nn_PA hown hK hP hD hS 0 rfl rfl 5 (by decide) (hw _ wd_199) rfl rfl rfl (Nat.le_of_ble_eq_true rfl) d_PA_init_87 rfl (fun H locs hP hD hS => ?_)
    rw [hQ]
    exact k_vret (b0, ch, ou, ga, me, ne) hx hb hr hlk hK hP hD hS [0, 1, 2, 3, 4, 5, 6] (by decide) rfl trivial d_PA_init_90
  · refine lv_aload_n hx hb d_PA_init_40 rfl (lv_at hl 1 rfl) ?_
    refine k_get hx hb hw uw_PA hown hK hP 0 rfl rfl 2 (by decide) (hw _ wd_196) rfl d_PA_init_41 ?_
    refine lv_iload_n hx hb d_PA_init_44 rfl (lv_at hl 0 rfl) ?_
    refine lv_iload_n hx hb d_PA_init_45 rfl (lv_at hl 0 rfl) ?_
    refine lv_bipush (v := nI 91) hx hb d_PA_init_46 (by decide) ?_
    refine k_calli (wr := [(h0, .inr (7, [.ref b0, .ref ch, .ref ou, .null, .null, .null])), (b0, .inl (tc 0, 144, .inl (fun _ => 0))), (ch, .inl (tc 2, 144, .inr (.inl (fun _ => 0)))), (ou, .inl (tc 0, 128, .inl (gF outV (fun _ => 0) k)))]) (k_runSN (As := [.int (nI k), .int (nI 91)]) (rest := [.int (nI k), .ref ou]) (wc := []) ⟨hx, hb, hml, hown, hts⟩ (c_CL_codeOf l D tc tb (nI k) (nI 91)  H.size) ⟨va_cnB 2 hts (k_good wd_186) rfl rfl rfl (hN _ wd_184) (hw _ wd_1) hd_CL_codeOf ⟨by rw [hR]; exact Nat.le_of_ble_eq_true rfl, by rw [hR]; exact Nat.le_of_ble_eq_true rfl⟩, hw _ wd_185, trivial⟩ hK hP hD hS hST hN hA [] (by decide) rfl rfl hl.1 rfl (Nat.le_of_ble_eq_true rfl) d_PA_init_48 ⟨by rw [hR]; exact Nat.le_of_ble_eq_true rfl, by rw [hR]; exact Nat.le_of_ble_eq_true rfl⟩) hP hD hS hA [] [0, 1, 2, 3] rfl rfl (by decide) (by decide) (fun _ H locs hp48 hP hD hS => ?_)
    have hP : va_P D classes [(h0, .inr (7, [.ref b0, .ref ch, .ref ou, .null, .null, .null])), (b0, .inl (tc 0, 144, .inl (fun _ => 0))), (ch, .inl (tc 2, 144, .inr (.inl (fun _ => 0)))), (ou, .inl (tc 0, 128, .inl (gF outV (fun _ => 0) k)))] H := hP
    have hD : va_D A [(h0, .inr (7, [.ref b0, .ref ch, .ref ou, .null, .null, .null])), (b0, .inl (tc 0, 144, .inl (fun _ => 0))), (ch, .inl (tc 2, 144, .inr (.inl (fun _ => 0)))), (ou, .inl (tc 0, 128, .inl (gF outV (fun _ => 0) k)))] := hD
    refine W.widen (k := 3) (n := 416) (Nat.le_of_ble_eq_true rfl) (Nat.le_of_ble_eq_true rfl) ?_
    refine W.eq (g2 := F0 m 51 ls [.int (coF (nI k) (nI 91)), .int (nI k), .ref ou]) rfl ?_
    refine lv_iconst (v := nI 2) hx hb d_PA_init_51 (by decide) ?_
    refine lv_imul hx hb d_PA_init_52 ?_
    refine lv_iload_n hx hb d_PA_init_53 rfl (lv_at hl 0 rfl) ?_
    refine lv_bipush (v := nI 121) hx hb d_PA_init_54 (by decide) ?_
    refine k_calli (wr := [(h0, .inr (7, [.ref b0, .ref ch, .ref ou, .null, .null, .null])), (b0, .inl (tc 0, 144, .inl (fun _ => 0))), (ch, .inl (tc 2, 144, .inr (.inl (fun _ => 0)))), (ou, .inl (tc 0, 128, .inl (gF outV (fun _ => 0) k)))]) (k_runSN (As := [.int (nI k), .int (nI 121)]) (rest := [.int ((coF (nI k) (nI 91)) * (nI 2)), .int (nI k), .ref ou]) (wc := []) ⟨hx, hb, hml, hown, hts⟩ (c_CL_codeOf l D tc tb (nI k) (nI 121)  H.size) ⟨va_cnB 2 hts (k_good wd_186) rfl rfl rfl (hN _ wd_184) (hw _ wd_1) hd_CL_codeOf ⟨by rw [hR]; exact Nat.le_of_ble_eq_true rfl, by rw [hR]; exact Nat.le_of_ble_eq_true rfl⟩, hw _ wd_185, trivial⟩ hK hP hD hS hST hN hA [] (by decide) rfl rfl hl.1 rfl (Nat.le_of_ble_eq_true rfl) d_PA_init_56 ⟨by rw [hR]; exact Nat.le_of_ble_eq_true rfl, by rw [hR]; exact Nat.le_of_ble_eq_true rfl⟩) hP hD hS hA [] [0, 1, 2, 3] rfl rfl (by decide) (by decide) (fun _ H locs hp56 hP hD hS => ?_)
    have hP : va_P D classes [(h0, .inr (7, [.ref b0, .ref ch, .ref ou, .null, .null, .null])), (b0, .inl (tc 0, 144, .inl (fun _ => 0))), (ch, .inl (tc 2, 144, .inr (.inl (fun _ => 0)))), (ou, .inl (tc 0, 128, .inl (gF outV (fun _ => 0) k)))] H := hP
    have hD : va_D A [(h0, .inr (7, [.ref b0, .ref ch, .ref ou, .null, .null, .null])), (b0, .inl (tc 0, 144, .inl (fun _ => 0))), (ch, .inl (tc 2, 144, .inr (.inl (fun _ => 0)))), (ou, .inl (tc 0, 128, .inl (gF outV (fun _ => 0) k)))] := hD
    refine W.widen (k := 3) (n := 416) (Nat.le_of_ble_eq_true rfl) (Nat.le_of_ble_eq_true rfl) ?_
    refine W.eq (g2 := F0 m 59 ls [.int (coF (nI k) (nI 121)), .int ((coF (nI k) (nI 91)) * (nI 2)), .int (nI k), .ref ou]) rfl ?_
    refine lv_iadd hx hb d_PA_init_59 ?_
    refine k_iast (ws' := [(h0, .inr (7, [.ref b0, .ref ch, .ref ou, .null, .null, .null])), (b0, .inl (tc 0, 144, .inl (fun _ => 0))), (ch, .inl (tc 2, 144, .inr (.inl (fun _ => 0)))), (ou, .inl (tc 0, 128, .inl (upd (gF outV (fun _ => 0) k) k (((coF (nI k) (nI 91)) * (nI 2)) + (coF (nI k) (nI 121))))))]) hx hb hK hP hD hS 3 0 rfl rfl (by omega) (by omega) d_PA_init_60 rfl (fun H locs hP hD hS => ?_)
    refine lv_iinc (k := 0) (v := nI (k + 1)) (lv' := [(1, .int (nI (k + 1))), (0, .ref h0)]) hx hb d_PA_init_61 hl rfl (k_incN _ 1) (by decide) rfl (fun ls hl => ?_)
    refine lv_goto (tgt := 33) hx hb d_PA_init_64 (by decide) ?_
    exact ih_k (by omega)   H locs ls (lv_sub hl [0, 1] rfl) (by exact hP) (k_Ds hD [0, 1, 2, 3] (by decide) rfl) hS
set_option maxHeartbeats 4000000 in
set_option maxRecDepth 100000 in
theorem c_PA_step (l : Launch) (D : va_G) (tc : Nat → ClassId) (tb : Nat → Nat) (h0 : Nat) (b0 : Nat) (ch : Nat) (ou : Nat) (ga : Nat) (me : Nat) (ne : Nat) (bf : Nat → Int32) (cf : Nat → Int64) (gf : Nat → Int32) (mf : Nat → Int32) (nf : Nat → Int32) (k : Nat) (xa : Int32) (xb : Int32) (hk : k < 144) : Mv l D tc tb y_PA_step prog_3_method_3_code 10 none ({ frames := 0, cells := 0, slots := 0, locals := 0 }) [.ref h0, .int (nI k), .int (xa), .int (xb)] [(h0, .inr (7, [.ref b0, .ref ch, .ref ou, .ref ga, .ref me, .ref ne])), (b0, .inl (tc 0, 144, .inl bf)), (ch, .inl (tc 2, 144, .inr (.inl cf))), (ou, .inl (tc 0, 128, .inl (fun w => nI (outN w)))), (ga, .inl (tc 0, 4, .inl gf)), (me, .inl (tc 0, 64, .inl mf)), (ne, .inl (tc 0, 64, .inl nf))] (fun _ : Unit => True) (fun _ : Unit => [(h0, .inr (7, [.ref b0, .ref ch, .ref ou, .ref ga, .ref ne, .ref me])), (b0, .inl (tc 0, 144, .inl bf)), (ch, .inl (tc 2, 144, .inr (.inl (vp_updL cf k (chF mf xa xb 64))))), (ou, .inl (tc 0, 128, .inl (fun w => nI (outN w)))), (ga, .inl (tc 0, 4, .inl (gn4 xa xb))), (me, .inl (tc 0, 64, .inl mf)), (ne, .inl (tc 0, 64, .inl (vtS mf xa xb)))]) := by
  refine Mv.go (by decide) (Nat.le_of_ble_eq_true rfl) ?_
  intro p e s m below meth c A ls R args Q C
  obtain ⟨hx, hb, hr, hts, hown, hlk, hml, hin, hA, hST, hN, hK, hP, hD, hS, hl, hR, hQ⟩ := C
  have hw : ∀ w ∈ lw_g, w.before args s = true := fun w h => hts w (List.mem_cons_of_mem _ h)
  have hl : lv_has ls 10 [(0, .ref h0), (1, .int (nI k)), (2, .int (xa)), (3, .int (xb))] := hl
  refine lv_aload_n hx hb d_PA_step_0 rfl (lv_at hl 0 rfl) ?_
  refine k_get hx hb hw uw_PA hown hK hP 0 rfl rfl 3 (by decide) (hw _ wd_197) rfl d_PA_step_1 ?_
  refine lv_iconst (v := nI 0) hx hb d_PA_step_4 (by decide) ?_
  refine lv_iload_n hx hb d_PA_step_5 rfl (lv_at hl 2 rfl) ?_
  refine lv_ineg hx hb d_PA_step_6 ?_
  refine lv_iload_n hx hb d_PA_step_7 rfl (lv_at hl 3 rfl) ?_
  refine lv_isub hx hb d_PA_step_8 ?_
  refine k_iast (ws' := [(h0, .inr (7, [.ref b0, .ref ch, .ref ou, .ref ga, .ref me, .ref ne])), (b0, .inl (tc 0, 144, .inl bf)), (ch, .inl (tc 2, 144, .inr (.inl cf))), (ou, .inl (tc 0, 128, .inl (fun w => nI (outN w)))), (ga, .inl (tc 0, 4, .inl (upd gf 0 ((-xa) - xb)))), (me, .inl (tc 0, 64, .inl mf)), (ne, .inl (tc 0, 64, .inl nf))]) hx hb hK hP hD hS 4 0 rfl rfl (by omega) (by omega) d_PA_step_9 rfl (fun H locs hP hD hS => ?_)
  refine lv_aload_n hx hb d_PA_step_10 rfl (lv_at hl 0 rfl) ?_
  refine k_get hx hb hw uw_PA hown hK hP 0 rfl rfl 3 (by decide) (hw _ wd_197) rfl d_PA_step_11 ?_
  refine lv_iconst (v := nI 1) hx hb d_PA_step_14 (by decide) ?_
  refine lv_iload_n hx hb d_PA_step_15 rfl (lv_at hl 3 rfl) ?_
  refine lv_iload_n hx hb d_PA_step_16 rfl (lv_at hl 2 rfl) ?_
  refine lv_isub hx hb d_PA_step_17 ?_
  refine k_iast (ws' := [(h0, .inr (7, [.ref b0, .ref ch, .ref ou, .ref ga, .ref me, .ref ne])), (b0, .inl (tc 0, 144, .inl bf)), (ch, .inl (tc 2, 144, .inr (.inl cf))), (ou, .inl (tc 0, 128, .inl (fun w => nI (outN w)))), (ga, .inl (tc 0, 4, .inl (upd (upd gf 0 ((-xa) - xb)) 1 (xb - xa)))), (me, .inl (tc 0, 64, .inl mf)), (ne, .inl (tc 0, 64, .inl nf))]) hx hb hK hP hD hS 4 0 rfl rfl (by omega) (by omega) d_PA_step_18 rfl (fun H locs hP hD hS => ?_)
  refine lv_aload_n hx hb d_PA_step_19 rfl (lv_at hl 0 rfl) ?_
  refine k_get hx hb hw uw_PA hown hK hP 0 rfl rfl 3 (by decide) (hw _ wd_197) rfl d_PA_step_20 ?_
  refine lv_iconst (v := nI 2) hx hb d_PA_step_23 (by decide) ?_
  refine lv_iload_n hx hb d_PA_step_24 rfl (lv_at hl 2 rfl) ?_
  refine lv_iload_n hx hb d_PA_step_25 rfl (lv_at hl 3 rfl) ?_
  refine lv_isub hx hb d_PA_step_26 ?_
  refine k_iast (ws' := [(h0, .inr (7, [.ref b0, .ref ch, .ref ou, .ref ga, .ref me, .ref ne])), (b0, .inl (tc 0, 144, .inl bf)), (ch, .inl (tc 2, 144, .inr (.inl cf))), (ou, .inl (tc 0, 128, .inl (fun w => nI (outN w)))), (ga, .inl (tc 0, 4, .inl (upd (upd (upd gf 0 ((-xa) - xb)) 1 (xb - xa)) 2 (xa - xb)))), (me, .inl (tc 0, 64, .inl mf)), (ne, .inl (tc 0, 64, .inl nf))]) hx hb hK hP hD hS 4 0 rfl rfl (by omega) (by omega) d_PA_step_27 rfl (fun H locs hP hD hS => ?_)
  refine lv_aload_n hx hb d_PA_step_28 rfl (lv_at hl 0 rfl) ?_
  refine k_get hx hb hw uw_PA hown hK hP 0 rfl rfl 3 (by decide) (hw _ wd_197) rfl d_PA_step_29 ?_
  refine lv_iconst (v := nI 3) hx hb d_PA_step_32 (by decide) ?_
  refine lv_iload_n hx hb d_PA_step_33 rfl (lv_at hl 2 rfl) ?_
  refine lv_iload_n hx hb d_PA_step_34 rfl (lv_at hl 3 rfl) ?_
  refine lv_iadd hx hb d_PA_step_35 ?_
  refine k_iast (ws' := [(h0, .inr (7, [.ref b0, .ref ch, .ref ou, .ref ga, .ref me, .ref ne])), (b0, .inl (tc 0, 144, .inl bf)), (ch, .inl (tc 2, 144, .inr (.inl cf))), (ou, .inl (tc 0, 128, .inl (fun w => nI (outN w)))), (ga, .inl (tc 0, 4, .inl (upd (upd (upd (upd gf 0 ((-xa) - xb)) 1 (xb - xa)) 2 (xa - xb)) 3 (xa + xb)))), (me, .inl (tc 0, 64, .inl mf)), (ne, .inl (tc 0, 64, .inl nf))]) hx hb hK hP hD hS 4 0 rfl rfl (by omega) (by omega) d_PA_step_36 rfl (fun H locs hP hD hS => ?_)
  have hP : va_P D classes [(h0, .inr (7, [.ref b0, .ref ch, .ref ou, .ref ga, .ref me, .ref ne])), (b0, .inl (tc 0, 144, .inl bf)), (ch, .inl (tc 2, 144, .inr (.inl cf))), (ou, .inl (tc 0, 128, .inl (fun w => nI (outN w)))), (ga, .inl (tc 0, 4, .inl (gn4 xa xb))), (me, .inl (tc 0, 64, .inl mf)), (ne, .inl (tc 0, 64, .inl nf))] H := k_rep hP 4 rfl (gn4_all xa xb gf) rfl
  have hD : va_D A [(h0, .inr (7, [.ref b0, .ref ch, .ref ou, .ref ga, .ref me, .ref ne])), (b0, .inl (tc 0, 144, .inl bf)), (ch, .inl (tc 2, 144, .inr (.inl cf))), (ou, .inl (tc 0, 128, .inl (fun w => nI (outN w)))), (ga, .inl (tc 0, 4, .inl (gn4 xa xb))), (me, .inl (tc 0, 64, .inl mf)), (ne, .inl (tc 0, 64, .inl nf))] := k_Ds hD [0, 1, 2, 3, 4, 5, 6] (by decide) rfl
  refine lv_lconst (v := 0) hx hb d_PA_step_37 (by decide) ?_
  refine lv_lstore (lv' := [(4, .long (0)), (0, .ref h0), (1, .int (nI k)), (2, .int (xa)), (3, .int (xb))]) hx hb d_PA_step_38 hl (by decide) rfl (fun ls hl => ?_)
  refine lv_iconst (v := nI 0) hx hb d_PA_step_40 (by decide) ?_
  refine lv_istore (lv' := [(6, .int (nI 0)), (4, .long (0)), (0, .ref h0), (1, .int (nI k)), (2, .int (xa)), (3, .int (xb))]) hx hb d_PA_step_41 hl (by decide) rfl (fun ls hl => ?_)
  refine k_loop (P := fun i : Nat => ∀ (H : Heap) (locs : List Loc) (ls : Array Slot), lv_has ls 10 [(6, .int (nI i)), (4, .long (chF mf xa xb i)), (0, .ref h0), (1, .int (nI k)), (2, .int (xa)), (3, .int (xb))] → va_P D classes [(h0, .inr (7, [.ref b0, .ref ch, .ref ou, .ref ga, .ref me, .ref ne])), (b0, .inl (tc 0, 144, .inl bf)), (ch, .inl (tc 2, 144, .inr (.inl cf))), (ou, .inl (tc 0, 128, .inl (fun w => nI (outN w)))), (ga, .inl (tc 0, 4, .inl (gn4 xa xb))), (me, .inl (tc 0, 64, .inl mf)), (ne, .inl (tc 0, 64, .inl (gF (vtS mf xa xb) nf i)))] H → va_D A [(h0, .inr (7, [.ref b0, .ref ch, .ref ou, .ref ga, .ref me, .ref ne])), (b0, .inl (tc 0, 144, .inl bf)), (ch, .inl (tc 2, 144, .inr (.inl cf))), (ou, .inl (tc 0, 128, .inl (fun w => nI (outN w)))), (ga, .inl (tc 0, 4, .inl (gn4 xa xb))), (me, .inl (tc 0, 64, .inl mf)), (ne, .inl (tc 0, 64, .inl (gF (vtS mf xa xb) nf i)))] → va_S A s.heap H locs → W p l e R s m args below meth c H locs 0 0 Q (F0 m 43 ls [])) (64) (fun i hk_i ih_i  H locs ls hl hP hD hS => ?_) (0) (by omega)   H locs ls (lv_sub hl [0, 1, 2, 3, 4, 5] rfl) (by exact hP) (k_Ds hD [0, 1, 2, 3, 4, 5, 6] (by decide) rfl) hS
  refine lv_iload hx hb d_PA_step_43 (lv_at hl 0 rfl) ?_
  refine lv_bipush (v := nI 64) hx hb d_PA_step_45 (by decide) ?_
  refine k_icmp_ge (tgt := 146) hx hb d_PA_step_47 (by decide) (by omega) (by omega) (fun h47 => ?_) (fun h47 => ?_)
  · obtain rfl : 64 = i := by omega
    have hP : va_P D classes [(h0, .inr (7, [.ref b0, .ref ch, .ref ou, .ref ga, .ref me, .ref ne])), (b0, .inl (tc 0, 144, .inl bf)), (ch, .inl (tc 2, 144, .inr (.inl cf))), (ou, .inl (tc 0, 128, .inl (fun w => nI (outN w)))), (ga, .inl (tc 0, 4, .inl (gn4 xa xb))), (me, .inl (tc 0, 64, .inl mf)), (ne, .inl (tc 0, 64, .inl (vtS mf xa xb)))] H := k_rep hP 6 rfl (fun j hj => gF_all (vtS mf xa xb) nf 64 j hj) rfl
    have hD : va_D A [(h0, .inr (7, [.ref b0, .ref ch, .ref ou, .ref ga, .ref me, .ref ne])), (b0, .inl (tc 0, 144, .inl bf)), (ch, .inl (tc 2, 144, .inr (.inl cf))), (ou, .inl (tc 0, 128, .inl (fun w => nI (outN w)))), (ga, .inl (tc 0, 4, .inl (gn4 xa xb))), (me, .inl (tc 0, 64, .inl mf)), (ne, .inl (tc 0, 64, .inl (vtS mf xa xb)))] := k_Ds hD [0, 1, 2, 3, 4, 5, 6] (by decide) rfl
    refine lv_aload_n hx hb d_PA_step_146 rfl (lv_at hl 2 rfl) ?_
    refine k_get hx hb hw uw_PA hown hK hP 0 rfl rfl 1 (by decide) (hw _ wd_195) rfl d_PA_step_147 ?_
    refine lv_iload_n hx hb d_PA_step_150 rfl (lv_at hl 3 rfl) ?_
    refine lv_lload hx hb d_PA_step_151 (lv_at hl 1 rfl) ?_
    refine k_last (ws' := [(h0, .inr (7, [.ref b0, .ref ch, .ref ou, .ref ga, .ref me, .ref ne])), (b0, .inl (tc 0, 144, .inl bf)), (ch, .inl (tc 2, 144, .inr (.inl (vp_updL cf k (chF mf xa xb 64))))), (ou, .inl (tc 0, 128, .inl (fun w => nI (outN w)))), (ga, .inl (tc 0, 4, .inl (gn4 xa xb))), (me, .inl (tc 0, 64, .inl mf)), (ne, .inl (tc 0, 64, .inl (vtS mf xa xb)))]) hx hb hK hP hD hS 2 2 rfl rfl (by omega) (by omega) d_PA_step_153 rfl (fun H locs hP hD hS => ?_)
    refine lv_aload_n hx hb d_PA_step_154 rfl (lv_at hl 2 rfl) ?_
    refine k_get hx hb hw uw_PA hown hK hP 0 rfl rfl 4 (by decide) (hw _ wd_198) rfl d_PA_step_155 ?_
    refine lv_astore (lv' := [(6, .ref me), (4, .long (chF mf xa xb 64)), (0, .ref h0), (1, .int (nI k)), (2, .int (xa)), (3, .int (xb))]) hx hb d_PA_step_158 hl (by decide) rfl (fun ls hl => ?_)
    refine lv_aload_n hx hb d_PA_step_160 rfl (lv_at hl 2 rfl) ?_
    refine lv_aload_n hx hb d_PA_step_161 rfl (lv_at hl 2 rfl) ?_
    refine k_get hx hb hw uw_PA hown hK hP 0 rfl rfl 5 (by decide) (hw _ wd_199) rfl d_PA_step_162 ?_
    refine k_put (ws' := [(h0, .inr (7, [.ref b0, .ref ch, .ref ou, .ref ga, .ref ne, .ref ne])), (b0, .inl (tc 0, 144, .inl bf)), (ch, .inl (tc 2, 144, .inr (.inl (vp_updL cf k (chF mf xa xb 64))))), (ou, .inl (tc 0, 128, .inl (fun w => nI (outN w)))), (ga, .inl (tc 0, 4, .inl (gn4 xa xb))), (me, .inl (tc 0, 64, .inl mf)), (ne, .inl (tc 0, 64, .inl (vtS mf xa xb)))]) hx hb hw uw_PA tok_PA nn_PA hown hK hP hD hS 0 rfl rfl 4 (by decide) (hw _ wd_198) rfl rfl rfl (Nat.le_of_ble_eq_true rfl) d_PA_step_165 rfl (fun H locs hP hD hS => ?_)
    refine lv_aload_n hx hb d_PA_step_168 rfl (lv_at hl 2 rfl) ?_
    refine lv_aload hx hb d_PA_step_169 (lv_at hl 0 rfl) ?_
    refine k_put (ws' := [(h0, .inr (7, [.ref b0, .ref ch, .ref ou, .ref ga, .ref ne, .ref me])), (b0, .inl (tc 0, 144, .inl bf)), (ch, .inl (tc 2, 144, .inr (.inl (vp_updL cf k (chF mf xa xb 64))))), (ou, .inl (tc 0, 128, .inl (fun w => nI (outN w)))), (ga, .inl (tc 0, 4, .inl (gn4 xa xb))), (me, .inl (tc 0, 64, .inl mf)), (ne, .inl (tc 0, 64, .inl (vtS mf xa xb)))]) hx hb hw uw_PA tok_PA nn_PA hown hK hP hD hS 0 rfl rfl 5 (by decide) (hw _ wd_199) rfl rfl rfl (Nat.le_of_ble_eq_true rfl) d_PA_step_171 rfl (fun H locs hP hD hS => ?_)
    rw [hQ]
    exact k_vret () hx hb hr hlk hK hP hD hS [0, 1, 2, 3, 4, 5, 6] (by decide) rfl trivial d_PA_step_174
  · refine lv_iload hx hb d_PA_step_50 (lv_at hl 0 rfl) ?_
    refine lv_bipush (v := nI 31) hx hb d_PA_step_52 (by decide) ?_
    refine lv_iand hx hb d_PA_step_54 ?_
    refine k_topi (y := nI (i % 32)) (pk_andN (by omega) 5 (by decide)) ?_
    refine lv_iconst (v := nI 2) hx hb d_PA_step_55 (by decide) ?_
    refine k_imul hx hb d_PA_step_56 ?_
    refine lv_istore (lv' := [(7, .int (nI ((i % 32) * 2))), (6, .int (nI i)), (4, .long (chF mf xa xb i)), (0, .ref h0), (1, .int (nI k)), (2, .int (xa)), (3, .int (xb))]) hx hb d_PA_step_57 hl (by decide) rfl (fun ls hl => ?_)
    refine lv_aload_n hx hb d_PA_step_59 rfl (lv_at hl 3 rfl) ?_
    refine k_get hx hb hw uw_PA hown hK hP 0 rfl rfl 4 (by decide) (hw _ wd_198) rfl d_PA_step_60 ?_
    refine lv_iload hx hb d_PA_step_63 (lv_at hl 0 rfl) ?_
    refine k_iald hx hb hK hP 5 0 rfl rfl (by omega) (by omega) d_PA_step_65 ?_
    refine lv_aload_n hx hb d_PA_step_66 rfl (lv_at hl 3 rfl) ?_
    refine k_get hx hb hw uw_PA hown hK hP 0 rfl rfl 3 (by decide) (hw _ wd_197) rfl d_PA_step_67 ?_
    refine lv_aload_n hx hb d_PA_step_70 rfl (lv_at hl 3 rfl) ?_
    refine k_get hx hb hw uw_PA hown hK hP 0 rfl rfl 2 (by decide) (hw _ wd_196) rfl d_PA_step_71 ?_
    refine lv_iload hx hb d_PA_step_74 (lv_at hl 1 rfl) ?_
    refine lv_iconst (v := nI 2) hx hb d_PA_step_76 (by decide) ?_
    refine k_imul hx hb d_PA_step_77 ?_
    refine k_iald hx hb hK hP 3 0 rfl rfl (by omega) (by omega) d_PA_step_78 ?_
    refine k_topi (y := nI (outN (i * 2))) rfl ?_
    refine k_iald hx hb hK hP 4 0 rfl rfl (out_lt (by omega)) (by omega) d_PA_step_79 ?_
    refine lv_iadd hx hb d_PA_step_80 ?_
    refine k_topi (y := stM mf xa xb i) rfl ?_
    refine lv_istore (lv' := [(8, .int (stM mf xa xb i)), (7, .int (nI ((i % 32) * 2))), (6, .int (nI i)), (4, .long (chF mf xa xb i)), (0, .ref h0), (1, .int (nI k)), (2, .int (xa)), (3, .int (xb))]) hx hb d_PA_step_81 hl (by decide) rfl (fun ls hl => ?_)
    refine lv_aload_n hx hb d_PA_step_83 rfl (lv_at hl 4 rfl) ?_
    refine k_get hx hb hw uw_PA hown hK hP 0 rfl rfl 4 (by decide) (hw _ wd_198) rfl d_PA_step_84 ?_
    refine lv_iload hx hb d_PA_step_87 (lv_at hl 1 rfl) ?_
    refine lv_iconst (v := nI 1) hx hb d_PA_step_89 (by decide) ?_
    refine k_iadd hx hb d_PA_step_90 ?_
    refine k_iald hx hb hK hP 5 0 rfl rfl (by omega) (by omega) d_PA_step_91 ?_
    refine lv_aload_n hx hb d_PA_step_92 rfl (lv_at hl 4 rfl) ?_
    refine k_get hx hb hw uw_PA hown hK hP 0 rfl rfl 3 (by decide) (hw _ wd_197) rfl d_PA_step_93 ?_
    refine lv_aload_n hx hb d_PA_step_96 rfl (lv_at hl 4 rfl) ?_
    refine k_get hx hb hw uw_PA hown hK hP 0 rfl rfl 2 (by decide) (hw _ wd_196) rfl d_PA_step_97 ?_
    refine lv_iload hx hb d_PA_step_100 (lv_at hl 2 rfl) ?_
    refine lv_iconst (v := nI 2) hx hb d_PA_step_102 (by decide) ?_
    refine k_imul hx hb d_PA_step_103 ?_
    refine lv_iconst (v := nI 1) hx hb d_PA_step_104 (by decide) ?_
    refine k_iadd hx hb d_PA_step_105 ?_
    refine k_iald hx hb hK hP 3 0 rfl rfl (by omega) (by omega) d_PA_step_106 ?_
    refine k_topi (y := nI (outN (i * 2 + 1))) rfl ?_
    refine k_iald hx hb hK hP 4 0 rfl rfl (out_lt (by omega)) (by omega) d_PA_step_107 ?_
    refine lv_iadd hx hb d_PA_step_108 ?_
    refine k_topi (y := stO mf xa xb i) rfl ?_
    refine lv_istore (lv' := [(9, .int (stO mf xa xb i)), (8, .int (stM mf xa xb i)), (7, .int (nI ((i % 32) * 2))), (6, .int (nI i)), (4, .long (chF mf xa xb i)), (0, .ref h0), (1, .int (nI k)), (2, .int (xa)), (3, .int (xb))]) hx hb d_PA_step_109 hl (by decide) rfl (fun ls hl => ?_)
    refine lv_iload hx hb d_PA_step_111 (lv_at hl 0 rfl) ?_
    refine lv_iload hx hb d_PA_step_113 (lv_at hl 1 rfl) ?_
    refine lv_icmp_le (tgt := 131) hx hb d_PA_step_115 (by decide) (fun h115 => ?_) (fun h115 => ?_)
    · refine lv_aload_n hx hb d_PA_step_131 rfl (lv_at hl 5 rfl) ?_
      refine k_get hx hb hw uw_PA hown hK hP 0 rfl rfl 5 (by decide) (hw _ wd_199) rfl d_PA_step_132 ?_
      refine lv_iload hx hb d_PA_step_135 (lv_at hl 3 rfl) ?_
      refine lv_iload hx hb d_PA_step_137 (lv_at hl 1 rfl) ?_
      refine k_iast (ws' := [(h0, .inr (7, [.ref b0, .ref ch, .ref ou, .ref ga, .ref me, .ref ne])), (b0, .inl (tc 0, 144, .inl bf)), (ch, .inl (tc 2, 144, .inr (.inl cf))), (ou, .inl (tc 0, 128, .inl (fun w => nI (outN w)))), (ga, .inl (tc 0, 4, .inl (gn4 xa xb))), (me, .inl (tc 0, 64, .inl mf)), (ne, .inl (tc 0, 64, .inl (upd (gF (vtS mf xa xb) nf i) i (stM mf xa xb i))))]) hx hb hK hP hD hS 6 0 rfl rfl (by omega) (by omega) d_PA_step_139 rfl (fun H locs hP hD hS => ?_)
      refine lv_iinc (k := 3) (v := nI (i + 1)) (lv' := [(6, .int (nI (i + 1))), (9, .int (stO mf xa xb i)), (8, .int (stM mf xa xb i)), (7, .int (nI ((i % 32) * 2))), (4, .long (chF mf xa xb i)), (0, .ref h0), (1, .int (nI k)), (2, .int (xa)), (3, .int (xb))]) hx hb d_PA_step_140 hl rfl (k_incN _ 1) (by decide) rfl (fun ls hl => ?_)
      refine lv_goto (tgt := 43) hx hb d_PA_step_143 (by decide) ?_
      exact ih_i (by omega)   H locs ls (by first | (rw [chF_t h115]; exact lv_sub hl [0, 4, 5, 6, 7, 8] rfl) | (rw [chF_f h115]; exact lv_sub hl [0, 4, 5, 6, 7, 8] rfl)) (by first | (rw [vtS_t h115]; exact hP) | (rw [vtS_f h115]; exact hP)) (k_Ds hD [0, 1, 2, 3, 4, 5, 6] (by decide) rfl) hS
    · refine lv_iload hx hb d_PA_step_118 (lv_at hl 0 rfl) ?_
      refine lv_istore (lv' := [(8, .int (stO mf xa xb i)), (9, .int (stO mf xa xb i)), (7, .int (nI ((i % 32) * 2))), (6, .int (nI i)), (4, .long (chF mf xa xb i)), (0, .ref h0), (1, .int (nI k)), (2, .int (xa)), (3, .int (xb))]) hx hb d_PA_step_120 hl (by decide) rfl (fun ls hl => ?_)
      refine lv_lload hx hb d_PA_step_122 (lv_at hl 4 rfl) ?_
      refine lv_lconst (v := 1) hx hb d_PA_step_124 (by decide) ?_
      refine lv_iload hx hb d_PA_step_125 (lv_at hl 3 rfl) ?_
      refine lv_lshl hx hb d_PA_step_127 rfl ?_
      refine lv_lor hx hb d_PA_step_128 ?_
      refine lv_lstore (lv' := [(4, .long ((chF mf xa xb i) ||| (1 <<< ((nI i).toInt64 &&& 63)))), (8, .int (stO mf xa xb i)), (9, .int (stO mf xa xb i)), (7, .int (nI ((i % 32) * 2))), (6, .int (nI i)), (0, .ref h0), (1, .int (nI k)), (2, .int (xa)), (3, .int (xb))]) hx hb d_PA_step_129 hl (by decide) rfl (fun ls hl => ?_)
      refine lv_aload_n hx hb d_PA_step_131 rfl (lv_at hl 5 rfl) ?_
      refine k_get hx hb hw uw_PA hown hK hP 0 rfl rfl 5 (by decide) (hw _ wd_199) rfl d_PA_step_132 ?_
      refine lv_iload hx hb d_PA_step_135 (lv_at hl 4 rfl) ?_
      refine lv_iload hx hb d_PA_step_137 (lv_at hl 1 rfl) ?_
      refine k_iast (ws' := [(h0, .inr (7, [.ref b0, .ref ch, .ref ou, .ref ga, .ref me, .ref ne])), (b0, .inl (tc 0, 144, .inl bf)), (ch, .inl (tc 2, 144, .inr (.inl cf))), (ou, .inl (tc 0, 128, .inl (fun w => nI (outN w)))), (ga, .inl (tc 0, 4, .inl (gn4 xa xb))), (me, .inl (tc 0, 64, .inl mf)), (ne, .inl (tc 0, 64, .inl (upd (gF (vtS mf xa xb) nf i) i (stO mf xa xb i))))]) hx hb hK hP hD hS 6 0 rfl rfl (by omega) (by omega) d_PA_step_139 rfl (fun H locs hP hD hS => ?_)
      refine lv_iinc (k := 4) (v := nI (i + 1)) (lv' := [(6, .int (nI (i + 1))), (4, .long ((chF mf xa xb i) ||| (1 <<< ((nI i).toInt64 &&& 63)))), (8, .int (stO mf xa xb i)), (9, .int (stO mf xa xb i)), (7, .int (nI ((i % 32) * 2))), (0, .ref h0), (1, .int (nI k)), (2, .int (xa)), (3, .int (xb))]) hx hb d_PA_step_140 hl rfl (k_incN _ 1) (by decide) rfl (fun ls hl => ?_)
      refine lv_goto (tgt := 43) hx hb d_PA_step_143 (by decide) ?_
      exact ih_i (by omega)   H locs ls (by first | (rw [chF_t h115]; exact lv_sub hl [0, 1, 5, 6, 7, 8] rfl) | (rw [chF_f h115]; exact lv_sub hl [0, 1, 5, 6, 7, 8] rfl)) (by first | (rw [vtS_t h115]; exact hP) | (rw [vtS_f h115]; exact hP)) (k_Ds hD [0, 1, 2, 3, 4, 5, 6] (by decide) rfl) hS
set_option maxHeartbeats 4000000 in
set_option maxRecDepth 100000 in
theorem c_PA_firstGreatest (l : Launch) (D : va_G) (tc : Nat → ClassId) (tb : Nat → Nat) (h0 : Nat) (b0 : Nat) (ch : Nat) (ou : Nat) (ga : Nat) (me : Nat) (ne : Nat) (bf : Nat → Int32) (cf : Nat → Int64) (gf : Nat → Int32) (mf : Nat → Int32) (nf : Nat → Int32) : Mi l D tc tb y_PA_firstGreatest prog_3_method_4_code 3 (some .int) ({ frames := 0, cells := 0, slots := 0, locals := 0 }) [.ref h0] [(h0, .inr (7, [.ref b0, .ref ch, .ref ou, .ref ga, .ref me, .ref ne])), (b0, .inl (tc 0, 144, .inl bf)), (ch, .inl (tc 2, 144, .inr (.inl cf))), (ou, .inl (tc 0, 128, .inl (fun w => nI (outN w)))), (ga, .inl (tc 0, 4, .inl gf)), (me, .inl (tc 0, 64, .inl mf)), (ne, .inl (tc 0, 64, .inl nf))] (fun _ : Unit => True) (fun _ : Unit => nI (fgF mf 64)) (fun _ : Unit => [(h0, .inr (7, [.ref b0, .ref ch, .ref ou, .ref ga, .ref me, .ref ne])), (b0, .inl (tc 0, 144, .inl bf)), (ch, .inl (tc 2, 144, .inr (.inl cf))), (ou, .inl (tc 0, 128, .inl (fun w => nI (outN w)))), (ga, .inl (tc 0, 4, .inl gf)), (me, .inl (tc 0, 64, .inl mf)), (ne, .inl (tc 0, 64, .inl nf))]) := by
  refine Mi.go (by decide) (Nat.le_of_ble_eq_true rfl) ?_
  intro p e s m below meth c A ls R args Q C
  obtain ⟨hx, hb, hr, hts, hown, hlk, hml, hin, hA, hST, hN, hK, hP, hD, hS, hl, hR, hQ⟩ := C
  have hw : ∀ w ∈ lw_g, w.before args s = true := fun w h => hts w (List.mem_cons_of_mem _ h)
  have hl : lv_has ls 3 [(0, .ref h0)] := hl
  refine lv_iconst (v := nI 0) hx hb d_PA_firstGreatest_0 (by decide) ?_
  refine lv_istore_n (lv' := [(1, .int (nI 0)), (0, .ref h0)]) hx hb d_PA_firstGreatest_1 rfl hl (by decide) rfl (fun ls hl => ?_)
  refine lv_iconst (v := nI 1) hx hb d_PA_firstGreatest_2 (by decide) ?_
  refine lv_istore_n (lv' := [(2, .int (nI 1)), (1, .int (nI 0)), (0, .ref h0)]) hx hb d_PA_firstGreatest_3 rfl hl (by decide) rfl (fun ls hl => ?_)
  refine k_loop (P := fun i : Nat => ∀ (H : Heap) (locs : List Loc) (ls : Array Slot), lv_has ls 3 [(2, .int (nI i)), (1, .int (nI (fgF mf i))), (0, .ref h0)] → va_P D classes [(h0, .inr (7, [.ref b0, .ref ch, .ref ou, .ref ga, .ref me, .ref ne])), (b0, .inl (tc 0, 144, .inl bf)), (ch, .inl (tc 2, 144, .inr (.inl cf))), (ou, .inl (tc 0, 128, .inl (fun w => nI (outN w)))), (ga, .inl (tc 0, 4, .inl gf)), (me, .inl (tc 0, 64, .inl mf)), (ne, .inl (tc 0, 64, .inl nf))] H → va_D A [(h0, .inr (7, [.ref b0, .ref ch, .ref ou, .ref ga, .ref me, .ref ne])), (b0, .inl (tc 0, 144, .inl bf)), (ch, .inl (tc 2, 144, .inr (.inl cf))), (ou, .inl (tc 0, 128, .inl (fun w => nI (outN w)))), (ga, .inl (tc 0, 4, .inl gf)), (me, .inl (tc 0, 64, .inl mf)), (ne, .inl (tc 0, 64, .inl nf))] → va_S A s.heap H locs → W p l e R s m args below meth c H locs 0 0 Q (F0 m 4 ls [])) (64) (fun i hk_i ih_i  H locs ls hl hP hD hS => ?_) (1) (by omega)   s.heap [] ls (by rw [fgF_1]; exact lv_sub hl [0, 1, 2] rfl) (by exact hP) (k_Ds hD [0, 1, 2, 3, 4, 5, 6] (by decide) rfl) hS
  refine lv_iload_n hx hb d_PA_firstGreatest_4 rfl (lv_at hl 0 rfl) ?_
  refine lv_bipush (v := nI 64) hx hb d_PA_firstGreatest_5 (by decide) ?_
  refine k_icmp_ge (tgt := 33) hx hb d_PA_firstGreatest_7 (by decide) (by omega) (by omega) (fun h7 => ?_) (fun h7 => ?_)
  · obtain rfl : 64 = i := by omega
    refine lv_iload_n hx hb d_PA_firstGreatest_33 rfl (lv_at hl 1 rfl) ?_
    rw [hQ]
    exact k_iret () hx hb hr hlk hK hP hD hS [0, 1, 2, 3, 4, 5, 6] (by decide) rfl trivial rfl d_PA_firstGreatest_34
  · have hfg := (fgF_lt mf i).1
    refine lv_aload_n hx hb d_PA_firstGreatest_10 rfl (lv_at hl 2 rfl) ?_
    refine k_get hx hb hw uw_PA hown hK hP 0 rfl rfl 4 (by decide) (hw _ wd_198) rfl d_PA_firstGreatest_11 ?_
    refine lv_iload_n hx hb d_PA_firstGreatest_14 rfl (lv_at hl 0 rfl) ?_
    refine k_iald hx hb hK hP 5 0 rfl rfl (by omega) (by omega) d_PA_firstGreatest_15 ?_
    refine lv_aload_n hx hb d_PA_firstGreatest_16 rfl (lv_at hl 2 rfl) ?_
    refine k_get hx hb hw uw_PA hown hK hP 0 rfl rfl 4 (by decide) (hw _ wd_198) rfl d_PA_firstGreatest_17 ?_
    refine lv_iload_n hx hb d_PA_firstGreatest_20 rfl (lv_at hl 1 rfl) ?_
    refine k_iald hx hb hK hP 5 0 rfl rfl (by omega) (by omega) d_PA_firstGreatest_21 ?_
    refine lv_icmp_le (tgt := 27) hx hb d_PA_firstGreatest_22 (by decide) (fun h22 => ?_) (fun h22 => ?_)
    · refine lv_iinc (k := 0) (v := nI (i + 1)) (lv' := [(2, .int (nI (i + 1))), (1, .int (nI (fgF mf i))), (0, .ref h0)]) hx hb d_PA_firstGreatest_27 hl rfl (k_incN _ 1) (by decide) rfl (fun ls hl => ?_)
      refine lv_goto (tgt := 4) hx hb d_PA_firstGreatest_30 (by decide) ?_
      exact ih_i (by omega)   H locs ls (by first | (rw [fgF_t h22]; exact lv_sub hl [0, 1, 2] rfl) | (rw [fgF_f h22]; exact lv_sub hl [0, 1, 2] rfl)) (by exact hP) (k_Ds hD [0, 1, 2, 3, 4, 5, 6] (by decide) rfl) hS
    · refine lv_iload_n hx hb d_PA_firstGreatest_25 rfl (lv_at hl 0 rfl) ?_
      refine lv_istore_n (lv' := [(1, .int (nI i)), (2, .int (nI i)), (0, .ref h0)]) hx hb d_PA_firstGreatest_26 rfl hl (by decide) rfl (fun ls hl => ?_)
      refine lv_iinc (k := 1) (v := nI (i + 1)) (lv' := [(2, .int (nI (i + 1))), (1, .int (nI i)), (0, .ref h0)]) hx hb d_PA_firstGreatest_27 hl rfl (k_incN _ 1) (by decide) rfl (fun ls hl => ?_)
      refine lv_goto (tgt := 4) hx hb d_PA_firstGreatest_30 (by decide) ?_
      exact ih_i (by omega)   H locs ls (by first | (rw [fgF_t h22]; exact lv_sub hl [0, 1, 2] rfl) | (rw [fgF_f h22]; exact lv_sub hl [0, 1, 2] rfl)) (by exact hP) (k_Ds hD [0, 1, 2, 3, 4, 5, 6] (by decide) rfl) hS
set_option maxHeartbeats 4000000 in
set_option maxRecDepth 100000 in
theorem c_PA_goBack (l : Launch) (D : va_G) (tc : Nat → ClassId) (tb : Nat → Nat) (h0 : Nat) (b0 : Nat) (ch : Nat) (ou : Nat) (ga : Nat) (me : Nat) (ne : Nat) (bf : Nat → Int32) (cf : Nat → Int64) (gf : Nat → Int32) (mf : Nat → Int32) (nf : Nat → Int32) (la : Nat) (ns : Nat) (hla : la < 64) (hns : ns ≤ 144) : Mv l D tc tb y_PA_goBack prog_3_method_5_code 5 none ({ frames := 0, cells := 0, slots := 0, locals := 0 }) [.ref h0, .int (nI la), .int (nI ns)] [(h0, .inr (7, [.ref b0, .ref ch, .ref ou, .ref ga, .ref me, .ref ne])), (b0, .inl (tc 0, 144, .inl bf)), (ch, .inl (tc 2, 144, .inr (.inl cf))), (ou, .inl (tc 0, 128, .inl (fun w => nI (outN w)))), (ga, .inl (tc 0, 4, .inl gf)), (me, .inl (tc 0, 64, .inl mf)), (ne, .inl (tc 0, 64, .inl nf))] (fun _ : Unit => True) (fun _ : Unit => [(h0, .inr (7, [.ref b0, .ref ch, .ref ou, .ref ga, .ref me, .ref ne])), (b0, .inl (tc 0, 144, .inl (gbF cf ns la bf))), (ch, .inl (tc 2, 144, .inr (.inl cf))), (ou, .inl (tc 0, 128, .inl (fun w => nI (outN w)))), (ga, .inl (tc 0, 4, .inl gf)), (me, .inl (tc 0, 64, .inl mf)), (ne, .inl (tc 0, 64, .inl nf))]) := by
  refine Mv.go (by decide) (Nat.le_of_ble_eq_true rfl) ?_
  intro p e s m below meth c A ls R args Q C
  obtain ⟨hx, hb, hr, hts, hown, hlk, hml, hin, hA, hST, hN, hK, hP, hD, hS, hl, hR, hQ⟩ := C
  have hw : ∀ w ∈ lw_g, w.before args s = true := fun w h => hts w (List.mem_cons_of_mem _ h)
  have hl : lv_has ls 5 [(0, .ref h0), (1, .int (nI la)), (2, .int (nI ns))] := hl
  refine lv_iload_n hx hb d_PA_goBack_0 rfl (lv_at hl 1 rfl) ?_
  refine lv_istore_n (lv' := [(3, .int (nI la)), (0, .ref h0), (1, .int (nI la)), (2, .int (nI ns))]) hx hb d_PA_goBack_1 rfl hl (by decide) rfl (fun ls hl => ?_)
  refine lv_iload_n hx hb d_PA_goBack_2 rfl (lv_at hl 3 rfl) ?_
  refine lv_iconst (v := nI 1) hx hb d_PA_goBack_3 (by decide) ?_
  refine lv_isub hx hb d_PA_goBack_4 ?_
  refine lv_istore (lv' := [(4, .int ((nI ns) - (nI 1))), (3, .int (nI la)), (0, .ref h0), (1, .int (nI la)), (2, .int (nI ns))]) hx hb d_PA_goBack_5 hl (by decide) rfl (fun ls hl => ?_)
  refine k_loopN (P := fun j : Nat => ∀ (nd : Nat) (bg : Nat → Int32), (j ≤ ns) → (nd < 64) → (gbF cf j nd bg = gbF cf ns la bf) → ∀ (H : Heap) (locs : List Loc) (ls : Array Slot), lv_has ls 5 [(4, .int (nI j - nI 1)), (3, .int (nI nd)), (0, .ref h0), (1, .int (nI la)), (2, .int (nI ns))] → va_P D classes [(h0, .inr (7, [.ref b0, .ref ch, .ref ou, .ref ga, .ref me, .ref ne])), (b0, .inl (tc 0, 144, .inl bg)), (ch, .inl (tc 2, 144, .inr (.inl cf))), (ou, .inl (tc 0, 128, .inl (fun w => nI (outN w)))), (ga, .inl (tc 0, 4, .inl gf)), (me, .inl (tc 0, 64, .inl mf)), (ne, .inl (tc 0, 64, .inl nf))] H → va_D A [(h0, .inr (7, [.ref b0, .ref ch, .ref ou, .ref ga, .ref me, .ref ne])), (b0, .inl (tc 0, 144, .inl bg)), (ch, .inl (tc 2, 144, .inr (.inl cf))), (ou, .inl (tc 0, 128, .inl (fun w => nI (outN w)))), (ga, .inl (tc 0, 4, .inl gf)), (me, .inl (tc 0, 64, .inl mf)), (ne, .inl (tc 0, 64, .inl nf))] → va_S A s.heap H locs → W p l e R s m args below meth c H locs 0 0 Q (F0 m 7 ls [])) (fun j ih_j nd bg hj hnd hg H locs ls hl hP hD hS => ?_) (ns) la bf (by omega) (by omega) (by rfl) s.heap [] ls (lv_sub hl [0, 1, 2, 3, 4] rfl) (by exact hP) (k_Ds hD [0, 1, 2, 3, 4, 5, 6] (by decide) rfl) hS
  refine lv_iload hx hb d_PA_goBack_7 (lv_at hl 0 rfl) ?_
  refine lv_if_lt (tgt := 48) hx hb d_PA_goBack_9 (by decide) (fun h9 => ?_) (fun h9 => ?_)
  · obtain rfl := k_eq0 (by omega) h9
    have hg : bg = gbF cf ns la bf := hg
    subst hg
    rw [hQ]
    exact k_vret () hx hb hr hlk hK hP hD hS [0, 1, 2, 3, 4, 5, 6] (by decide) rfl trivial d_PA_goBack_48
  · obtain ⟨i, rfl⟩ := k_lt0 (by omega) h9
    rw [k_prd] at hl
    refine lv_aload_n hx hb d_PA_goBack_12 rfl (lv_at hl 2 rfl) ?_
    refine k_get hx hb hw uw_PA hown hK hP 0 rfl rfl 0 (by decide) (hw _ wd_193) rfl d_PA_goBack_13 ?_
    refine lv_iload hx hb d_PA_goBack_16 (lv_at hl 0 rfl) ?_
    refine lv_iload_n hx hb d_PA_goBack_18 rfl (lv_at hl 1 rfl) ?_
    refine lv_iconst (v := nI 5) hx hb d_PA_goBack_19 (by decide) ?_
    refine lv_ishr hx hb d_PA_goBack_20 ?_
    refine k_iast (ws' := [(h0, .inr (7, [.ref b0, .ref ch, .ref ou, .ref ga, .ref me, .ref ne])), (b0, .inl (tc 0, 144, .inl (upd bg i ((nI nd) >>> ((nI 5) &&& 31))))), (ch, .inl (tc 2, 144, .inr (.inl cf))), (ou, .inl (tc 0, 128, .inl (fun w => nI (outN w)))), (ga, .inl (tc 0, 4, .inl gf)), (me, .inl (tc 0, 64, .inl mf)), (ne, .inl (tc 0, 64, .inl nf))]) hx hb hK hP hD hS 1 0 rfl rfl (by omega) (by omega) d_PA_goBack_21 rfl (fun H locs hP hD hS => ?_)
    refine lv_iload_n hx hb d_PA_goBack_22 rfl (lv_at hl 1 rfl) ?_
    refine lv_bipush (v := nI 31) hx hb d_PA_goBack_23 (by decide) ?_
    refine lv_iand hx hb d_PA_goBack_25 ?_
    refine k_topi (y := nI (nd % 32)) (pk_andN (by omega) 5 (by decide)) ?_
    refine lv_iconst (v := nI 2) hx hb d_PA_goBack_26 (by decide) ?_
    refine k_imul hx hb d_PA_goBack_27 ?_
    refine lv_aload_n hx hb d_PA_goBack_28 rfl (lv_at hl 2 rfl) ?_
    refine k_get hx hb hw uw_PA hown hK hP 0 rfl rfl 1 (by decide) (hw _ wd_195) rfl d_PA_goBack_29 ?_
    refine lv_iload hx hb d_PA_goBack_32 (lv_at hl 0 rfl) ?_
    refine k_lald hx hb hK hP 2 2 rfl rfl (by omega) (by omega) d_PA_goBack_34 ?_
    refine lv_iload_n hx hb d_PA_goBack_35 rfl (lv_at hl 1 rfl) ?_
    refine lv_lshr hx hb d_PA_goBack_36 rfl ?_
    refine lv_lconst (v := 1) hx hb d_PA_goBack_37 (by decide) ?_
    refine lv_land hx hb d_PA_goBack_38 ?_
    refine k_topl (y := cbV (cf i) nd) rfl ?_
    refine lv_l2i hx hb d_PA_goBack_39 rfl ?_
    refine lv_iadd hx hb d_PA_goBack_40 ?_
    refine k_topi (y := nI (nd % 32 * 2 + cbN (cf i) nd)) (cb_ok _ _ _) ?_
    refine lv_istore_n (lv' := [(3, .int (nI (nd % 32 * 2 + cbN (cf i) nd))), (4, .int (nI i)), (0, .ref h0), (1, .int (nI la)), (2, .int (nI ns))]) hx hb d_PA_goBack_41 rfl hl (by decide) rfl (fun ls hl => ?_)
    refine lv_iinc (k := 1) (v := nI (i) - nI 1) (lv' := [(4, .int (nI (i) - nI 1)), (3, .int (nI (nd % 32 * 2 + cbN (cf i) nd))), (0, .ref h0), (1, .int (nI la)), (2, .int (nI ns))]) hx hb d_PA_goBack_42 hl rfl (k_dec1 _) (by decide) rfl (fun ls hl => ?_)
    refine lv_goto (tgt := 7) hx hb d_PA_goBack_45 (by decide) ?_
    exact ih_j i rfl (nd % 32 * 2 + cbN (cf i) nd) (upd bg i ((nI nd) >>> ((nI 5) &&& 31))) (by omega) (by have hcb := cb_lt (cf i) nd; omega) (by rw [← hg, gbF_s]; rfl) H locs ls (lv_sub hl [0, 1, 2, 3, 4] rfl) (by exact hP) (k_Ds hD [0, 1, 2, 3, 4, 5, 6] (by decide) rfl) hS
set_option maxHeartbeats 4000000 in
set_option maxRecDepth 100000 in
theorem c_PA_decode (l : Launch) (D : va_G) (tc : Nat → ClassId) (tb : Nat → Nat) (h0 : Nat) (b0 : Nat) (ch : Nat) (ou : Nat) (ga : Nat) (me : Nat) (ne : Nat) (bf : Nat → Int32) (cf : Nat → Int64) (gf : Nat → Int32) (mf : Nat → Int32) (nf : Nat → Int32) (qs : Nat) (sf : Nat → Int32) (ct : Nat) (th : Int32) (hct : ct ≤ 144) (hcn : cnt th ct ≤ 240) : Mi l D tc tb y_PA_decode prog_3_method_2_code 9 (some .int) ({ frames := 1, cells := 0, slots := 0, locals := 29 }) [.ref h0, .ref qs, .int (nI ct), .int (th)] [(h0, .inr (7, [.ref b0, .ref ch, .ref ou, .ref ga, .ref me, .ref ne])), (b0, .inl (tc 0, 144, .inl bf)), (ch, .inl (tc 2, 144, .inr (.inl cf))), (ou, .inl (tc 0, 128, .inl (fun w => nI (outN w)))), (ga, .inl (tc 0, 4, .inl gf)), (me, .inl (tc 0, 64, .inl mf)), (ne, .inl (tc 0, 64, .inl nf)), (qs, .inl (tc 0, 240, .inl sf))] (fun u : Nat × Nat × (Nat → Int32) × (Nat → Int32) => True) (fun u : Nat × Nat × (Nat → Int32) × (Nat → Int32) => dcM th sf ct) (fun u : Nat × Nat × (Nat → Int32) × (Nat → Int32) => [(h0, .inr (7, [.ref b0, .ref ch, .ref ou, .ref ga, .ref u.1, .ref u.2.1])), (b0, .inl (tc 0, 144, .inl (dcB th sf ct cf bf))), (ch, .inl (tc 2, 144, .inr (.inl (vcF (skA th sf) (skB th sf) cf ct)))), (ou, .inl (tc 0, 128, .inl (fun w => nI (outN w)))), (ga, .inl (tc 0, 4, .inl u.2.2.2)), (u.1, .inl (tc 0, 64, .inl (vtM (skA th sf) (skB th sf) ct))), (u.2.1, .inl (tc 0, 64, .inl u.2.2.1)), (qs, .inl (tc 0, 240, .inl sf))]) := by
  refine Mi.go (by decide) (Nat.le_of_ble_eq_true rfl) ?_
  intro p e s m below meth c A ls R args Q C
  obtain ⟨hx, hb, hr, hts, hown, hlk, hml, hin, hA, hST, hN, hK, hP, hD, hS, hl, hR, hQ⟩ := C
  have hw : ∀ w ∈ lw_g, w.before args s = true := fun w h => hts w (List.mem_cons_of_mem _ h)
  have hl : lv_has ls 9 [(0, .ref h0), (1, .ref qs), (2, .int (nI ct)), (3, .int (th))] := hl
  refine lv_iload_n hx hb d_PA_decode_0 rfl (lv_at hl 2 rfl) ?_
  refine lv_sipush (v := nI 144) hx hb d_PA_decode_1 (by decide) ?_
  refine va_mmin hx hb (by rw [hml]; exact hl.1.symm) hown (hw _ wd_648) (hw _ wd_301) (hw _ wd_17) (hw _ wd_302) (by rw [hR]; exact Nat.le_of_ble_eq_true rfl) (by rw [hR]; exact Nat.le_of_ble_eq_true rfl) (by rw [hR]; exact Nat.zero_le _) (by rw [hR]; exact Nat.zero_le _) d_PA_decode_4 ?_
  refine k_topi (y := nI ct) (if_neg (fun h => absurd ((nI_ltI (by omega) (by omega)).mp h) (by omega))) ?_
  refine lv_istore (lv' := [(4, .int (nI ct)), (0, .ref h0), (1, .ref qs), (2, .int (nI ct)), (3, .int (th))]) hx hb d_PA_decode_7 hl (by decide) rfl (fun ls hl => ?_)
  refine lv_aload_n hx hb d_PA_decode_9 rfl (lv_at hl 1 rfl) ?_
  refine k_get hx hb hw uw_PA hown hK hP 0 rfl rfl 4 (by decide) (hw _ wd_198) rfl d_PA_decode_10 ?_
  refine lv_ldc (v := -1000000) hx hb hown (hw _ wd_649) d_PA_decode_13 ?_
  refine k_callv (wr := [(h0, .inr (7, [.ref b0, .ref ch, .ref ou, .ref ga, .ref me, .ref ne])), (b0, .inl (tc 0, 144, .inl bf)), (ch, .inl (tc 2, 144, .inr (.inl cf))), (ou, .inl (tc 0, 128, .inl (fun w => nI (outN w)))), (ga, .inl (tc 0, 4, .inl gf)), (ne, .inl (tc 0, 64, .inl nf)), (qs, .inl (tc 0, 240, .inl sf))]) (k_runS (As := [.ref me, .int (-1000000)]) (rest := []) (wc := [(me, .inl (tc 0, 64, .inl mf))]) ⟨hx, hb, hml, hown, hts⟩ (c_AR_fill l D tc tb me 64 mf (-1000000) (by omega) s.heap.size) (va_cwS 2 hts (k_goodS wd_650 wd_174 wd_8 wd_175) rfl rfl rfl hd_AR_fill ⟨by rw [hR]; exact Nat.le_of_ble_eq_true rfl, by rw [hR]; exact Nat.le_of_ble_eq_true rfl⟩) hK hP hD hS hST hN hA [5] (by decide) rfl rfl hl.1 rfl (Nat.le_of_ble_eq_true rfl) d_PA_decode_15 ⟨by rw [hR]; exact Nat.le_of_ble_eq_true rfl, by rw [hR]; exact Nat.le_of_ble_eq_true rfl⟩) hP hD hS hA [5] [0, 1, 2, 3, 4, 6, 7] rfl rfl (by decide) (by decide) (fun _ H locs hp15 hP hD hS => ?_)
  have hP : va_P D classes [(h0, .inr (7, [.ref b0, .ref ch, .ref ou, .ref ga, .ref me, .ref ne])), (b0, .inl (tc 0, 144, .inl bf)), (ch, .inl (tc 2, 144, .inr (.inl cf))), (ou, .inl (tc 0, 128, .inl (fun w => nI (outN w)))), (ga, .inl (tc 0, 4, .inl gf)), (ne, .inl (tc 0, 64, .inl nf)), (qs, .inl (tc 0, 240, .inl sf)), (me, .inl (tc 0, 64, .inl (fun _ => (-1000000))))] H := hP
  have hD : va_D A [(h0, .inr (7, [.ref b0, .ref ch, .ref ou, .ref ga, .ref me, .ref ne])), (b0, .inl (tc 0, 144, .inl bf)), (ch, .inl (tc 2, 144, .inr (.inl cf))), (ou, .inl (tc 0, 128, .inl (fun w => nI (outN w)))), (ga, .inl (tc 0, 4, .inl gf)), (ne, .inl (tc 0, 64, .inl nf)), (qs, .inl (tc 0, 240, .inl sf)), (me, .inl (tc 0, 64, .inl (fun _ => (-1000000))))] := hD
  refine W.widen (k := 0) (n := 0) (Nat.le_of_ble_eq_true rfl) (Nat.le_of_ble_eq_true rfl) ?_
  refine W.eq (g2 := F0 m 18 ls []) rfl ?_
  refine lv_aload_n hx hb d_PA_decode_18 rfl (lv_at hl 1 rfl) ?_
  refine k_get hx hb hw uw_PA hown hK hP 0 rfl rfl 4 (by decide) (hw _ wd_198) rfl d_PA_decode_19 ?_
  refine lv_iconst (v := nI 0) hx hb d_PA_decode_22 (by decide) ?_
  refine lv_iconst (v := nI 0) hx hb d_PA_decode_23 (by decide) ?_
  refine k_iast (ws' := [(h0, .inr (7, [.ref b0, .ref ch, .ref ou, .ref ga, .ref me, .ref ne])), (b0, .inl (tc 0, 144, .inl bf)), (ch, .inl (tc 2, 144, .inr (.inl cf))), (ou, .inl (tc 0, 128, .inl (fun w => nI (outN w)))), (ga, .inl (tc 0, 4, .inl gf)), (ne, .inl (tc 0, 64, .inl nf)), (qs, .inl (tc 0, 240, .inl sf)), (me, .inl (tc 0, 64, .inl (upd (fun _ => (-1000000)) 0 (nI 0))))]) hx hb hK hP hD hS 7 0 rfl rfl (by omega) (by omega) d_PA_decode_24 rfl (fun H locs hP hD hS => ?_)
  have hP : va_P D classes [(h0, .inr (7, [.ref b0, .ref ch, .ref ou, .ref ga, .ref me, .ref ne])), (b0, .inl (tc 0, 144, .inl bf)), (ch, .inl (tc 2, 144, .inr (.inl cf))), (ou, .inl (tc 0, 128, .inl (fun w => nI (outN w)))), (ga, .inl (tc 0, 4, .inl gf)), (ne, .inl (tc 0, 64, .inl nf)), (qs, .inl (tc 0, 240, .inl sf)), (me, .inl (tc 0, 64, .inl m0F))] H := hP
  have hD : va_D A [(h0, .inr (7, [.ref b0, .ref ch, .ref ou, .ref ga, .ref me, .ref ne])), (b0, .inl (tc 0, 144, .inl bf)), (ch, .inl (tc 2, 144, .inr (.inl cf))), (ou, .inl (tc 0, 128, .inl (fun w => nI (outN w)))), (ga, .inl (tc 0, 4, .inl gf)), (ne, .inl (tc 0, 64, .inl nf)), (qs, .inl (tc 0, 240, .inl sf)), (me, .inl (tc 0, 64, .inl m0F))] := k_Ds hD [0, 1, 2, 3, 4, 5, 6, 7] (by decide) rfl
  refine lv_iconst (v := nI 0) hx hb d_PA_decode_25 (by decide) ?_
  refine lv_istore (lv' := [(5, .int (nI 0)), (4, .int (nI ct)), (0, .ref h0), (1, .ref qs), (2, .int (nI ct)), (3, .int (th))]) hx hb d_PA_decode_26 hl (by decide) rfl (fun ls hl => ?_)
  refine lv_iconst (v := nI 0) hx hb d_PA_decode_28 (by decide) ?_
  refine lv_istore (lv' := [(6, .int (nI 0)), (5, .int (nI 0)), (4, .int (nI ct)), (0, .ref h0), (1, .ref qs), (2, .int (nI ct)), (3, .int (th))]) hx hb d_PA_decode_29 hl (by decide) rfl (fun ls hl => ?_)
  refine k_loop (P := fun k : Nat => ∀ (mx : Nat) (nx : Nat) (gx : Nat → Int32) (fx : Nat → Int32), ∀ (H : Heap) (locs : List Loc) (ls : Array Slot), lv_has ls 9 [(6, .int (nI k)), (5, .int (nI (cnt th k))), (4, .int (nI ct)), (0, .ref h0), (1, .ref qs), (2, .int (nI ct)), (3, .int (th))] → va_P D classes [(h0, .inr (7, [.ref b0, .ref ch, .ref ou, .ref ga, .ref mx, .ref nx])), (b0, .inl (tc 0, 144, .inl bf)), (ch, .inl (tc 2, 144, .inr (.inl (vcF (skA th sf) (skB th sf) cf k)))), (ou, .inl (tc 0, 128, .inl (fun w => nI (outN w)))), (ga, .inl (tc 0, 4, .inl gx)), (mx, .inl (tc 0, 64, .inl (vtM (skA th sf) (skB th sf) k))), (nx, .inl (tc 0, 64, .inl fx)), (qs, .inl (tc 0, 240, .inl sf))] H → va_D A [(h0, .inr (7, [.ref b0, .ref ch, .ref ou, .ref ga, .ref mx, .ref nx])), (b0, .inl (tc 0, 144, .inl bf)), (ch, .inl (tc 2, 144, .inr (.inl (vcF (skA th sf) (skB th sf) cf k)))), (ou, .inl (tc 0, 128, .inl (fun w => nI (outN w)))), (ga, .inl (tc 0, 4, .inl gx)), (mx, .inl (tc 0, 64, .inl (vtM (skA th sf) (skB th sf) k))), (nx, .inl (tc 0, 64, .inl fx)), (qs, .inl (tc 0, 240, .inl sf))] → va_S A s.heap H locs → W p l e R s m args below meth c H locs 0 0 Q (F0 m 31 ls [])) (ct) (fun k hk_k ih_k mx nx gx fx H locs ls hl hP hD hS => ?_) (0) (by omega) me ne gf nf  H locs ls (lv_sub hl [0, 1, 2, 3, 4, 5, 6] rfl) (by have hP := k_sub hP (is := [0, 1, 2, 3, 4, 7, 5, 6]) (w := [(h0, .inr (7, [.ref b0, .ref ch, .ref ou, .ref ga, .ref me, .ref ne])), (b0, .inl (tc 0, 144, .inl bf)), (ch, .inl (tc 2, 144, .inr (.inl cf))), (ou, .inl (tc 0, 128, .inl (fun w => nI (outN w)))), (ga, .inl (tc 0, 4, .inl gf)), (me, .inl (tc 0, 64, .inl m0F)), (ne, .inl (tc 0, 64, .inl nf)), (qs, .inl (tc 0, 240, .inl sf))]) rfl; rw [vtM_0, vcF_0]; exact hP) (k_Ds hD [0, 1, 2, 3, 4, 7, 5, 6] (by decide) rfl) hS
  refine lv_iload hx hb d_PA_decode_31 (lv_at hl 0 rfl) ?_
  refine lv_iload hx hb d_PA_decode_33 (lv_at hl 2 rfl) ?_
  refine k_icmp_ge (tgt := 110) hx hb d_PA_decode_35 (by decide) (by omega) (by omega) (fun h35 => ?_) (fun h35 => ?_)
  · obtain rfl : ct = k := by omega
    refine lv_aload_n hx hb d_PA_decode_110 rfl (lv_at hl 3 rfl) ?_
    refine k_calli (wr := [(qs, .inl (tc 0, 240, .inl sf))]) (k_runV (As := []) (rest := []) (wc := [(h0, .inr (7, [.ref b0, .ref ch, .ref ou, .ref ga, .ref mx, .ref nx])), (b0, .inl (tc 0, 144, .inl bf)), (ch, .inl (tc 2, 144, .inr (.inl (vcF (skA th sf) (skB th sf) cf ct)))), (ou, .inl (tc 0, 128, .inl (fun w => nI (outN w)))), (ga, .inl (tc 0, 4, .inl gx)), (mx, .inl (tc 0, 64, .inl (vtM (skA th sf) (skB th sf) ct))), (nx, .inl (tc 0, 64, .inl fx))]) ⟨hx, hb, hml, hown, hts⟩ (c_PA_firstGreatest l D tc tb h0 b0 ch ou ga mx nx bf (vcF (skA th sf) (skB th sf) cf ct) gx (vtM (skA th sf) (skB th sf) ct) fx  H.size) (cwV 0 hts (k_goodV wd_657 wd_659 wd_m23 wd_9 wd_660) rfl rfl rfl ⟨rfl, hd_PA_firstGreatest⟩ ⟨by rw [hR]; exact Nat.le_of_ble_eq_true rfl, by rw [hR]; exact Nat.le_of_ble_eq_true rfl⟩) hK hP hD hS hST hN hA [0, 1, 2, 3, 4, 5, 6] (by decide) rfl 0 rfl rfl rfl rfl hl.1 rfl (Nat.le_of_ble_eq_true rfl) d_PA_decode_111 ⟨by rw [hR]; exact Nat.le_of_ble_eq_true rfl, by rw [hR]; exact Nat.le_of_ble_eq_true rfl⟩) hP hD hS hA [0, 1, 2, 3, 4, 5, 6] [7] rfl rfl (by decide) (by decide) (fun _ H locs hp111 hP hD hS => ?_)
    have hP : va_P D classes [(qs, .inl (tc 0, 240, .inl sf)), (h0, .inr (7, [.ref b0, .ref ch, .ref ou, .ref ga, .ref mx, .ref nx])), (b0, .inl (tc 0, 144, .inl bf)), (ch, .inl (tc 2, 144, .inr (.inl (vcF (skA th sf) (skB th sf) cf ct)))), (ou, .inl (tc 0, 128, .inl (fun w => nI (outN w)))), (ga, .inl (tc 0, 4, .inl gx)), (mx, .inl (tc 0, 64, .inl (vtM (skA th sf) (skB th sf) ct))), (nx, .inl (tc 0, 64, .inl fx))] H := hP
    have hD : va_D A [(qs, .inl (tc 0, 240, .inl sf)), (h0, .inr (7, [.ref b0, .ref ch, .ref ou, .ref ga, .ref mx, .ref nx])), (b0, .inl (tc 0, 144, .inl bf)), (ch, .inl (tc 2, 144, .inr (.inl (vcF (skA th sf) (skB th sf) cf ct)))), (ou, .inl (tc 0, 128, .inl (fun w => nI (outN w)))), (ga, .inl (tc 0, 4, .inl gx)), (mx, .inl (tc 0, 64, .inl (vtM (skA th sf) (skB th sf) ct))), (nx, .inl (tc 0, 64, .inl fx))] := hD
    refine W.widen (k := 0) (n := 0) (Nat.le_of_ble_eq_true rfl) (Nat.le_of_ble_eq_true rfl) ?_
    refine W.eq (g2 := F0 m 114 ls [.int (nI (fgF (vtM (skA th sf) (skB th sf) ct) 64))]) rfl ?_
    refine lv_istore (lv' := [(6, .int (nI (fgF (vtM (skA th sf) (skB th sf) ct) 64))), (5, .int (nI (cnt th ct))), (4, .int (nI ct)), (0, .ref h0), (1, .ref qs), (2, .int (nI ct)), (3, .int (th))]) hx hb d_PA_decode_114 hl (by decide) rfl (fun ls hl => ?_)
    refine lv_aload_n hx hb d_PA_decode_116 rfl (lv_at hl 3 rfl) ?_
    refine lv_iload hx hb d_PA_decode_117 (lv_at hl 0 rfl) ?_
    refine lv_iload hx hb d_PA_decode_119 (lv_at hl 2 rfl) ?_
    refine k_callv (wr := [(qs, .inl (tc 0, 240, .inl sf))]) (k_runV (As := [.int (nI (fgF (vtM (skA th sf) (skB th sf) ct) 64)), .int (nI ct)]) (rest := []) (wc := [(h0, .inr (7, [.ref b0, .ref ch, .ref ou, .ref ga, .ref mx, .ref nx])), (b0, .inl (tc 0, 144, .inl bf)), (ch, .inl (tc 2, 144, .inr (.inl (vcF (skA th sf) (skB th sf) cf ct)))), (ou, .inl (tc 0, 128, .inl (fun w => nI (outN w)))), (ga, .inl (tc 0, 4, .inl gx)), (mx, .inl (tc 0, 64, .inl (vtM (skA th sf) (skB th sf) ct))), (nx, .inl (tc 0, 64, .inl fx))]) ⟨hx, hb, hml, hown, hts⟩ (c_PA_goBack l D tc tb h0 b0 ch ou ga mx nx bf (vcF (skA th sf) (skB th sf) cf ct) gx (vtM (skA th sf) (skB th sf) ct) fx (fgF (vtM (skA th sf) (skB th sf) ct) 64) ct ((fgF_lt _ 64).2 (by decide)) (by omega) H.size) (cwV 2 hts (k_goodV wd_661 wd_663 wd_m24 wd_9 wd_664) rfl rfl rfl ⟨rfl, hd_PA_goBack⟩ ⟨by rw [hR]; exact Nat.le_of_ble_eq_true rfl, by rw [hR]; exact Nat.le_of_ble_eq_true rfl⟩) hK hP hD hS hST hN hA [1, 2, 3, 4, 5, 6, 7] (by decide) rfl 1 rfl rfl rfl rfl hl.1 rfl (Nat.le_of_ble_eq_true rfl) d_PA_decode_121 ⟨by rw [hR]; exact Nat.le_of_ble_eq_true rfl, by rw [hR]; exact Nat.le_of_ble_eq_true rfl⟩) hP hD hS hA [1, 2, 3, 4, 5, 6, 7] [0] rfl rfl (by decide) (by decide) (fun _ H locs hp121 hP hD hS => ?_)
    have hP : va_P D classes [(qs, .inl (tc 0, 240, .inl sf)), (h0, .inr (7, [.ref b0, .ref ch, .ref ou, .ref ga, .ref mx, .ref nx])), (b0, .inl (tc 0, 144, .inl (gbF (vcF (skA th sf) (skB th sf) cf ct) ct (fgF (vtM (skA th sf) (skB th sf) ct) 64) bf))), (ch, .inl (tc 2, 144, .inr (.inl (vcF (skA th sf) (skB th sf) cf ct)))), (ou, .inl (tc 0, 128, .inl (fun w => nI (outN w)))), (ga, .inl (tc 0, 4, .inl gx)), (mx, .inl (tc 0, 64, .inl (vtM (skA th sf) (skB th sf) ct))), (nx, .inl (tc 0, 64, .inl fx))] H := hP
    have hD : va_D A [(qs, .inl (tc 0, 240, .inl sf)), (h0, .inr (7, [.ref b0, .ref ch, .ref ou, .ref ga, .ref mx, .ref nx])), (b0, .inl (tc 0, 144, .inl (gbF (vcF (skA th sf) (skB th sf) cf ct) ct (fgF (vtM (skA th sf) (skB th sf) ct) 64) bf))), (ch, .inl (tc 2, 144, .inr (.inl (vcF (skA th sf) (skB th sf) cf ct)))), (ou, .inl (tc 0, 128, .inl (fun w => nI (outN w)))), (ga, .inl (tc 0, 4, .inl gx)), (mx, .inl (tc 0, 64, .inl (vtM (skA th sf) (skB th sf) ct))), (nx, .inl (tc 0, 64, .inl fx))] := hD
    refine W.widen (k := 0) (n := 0) (Nat.le_of_ble_eq_true rfl) (Nat.le_of_ble_eq_true rfl) ?_
    refine W.eq (g2 := F0 m 124 ls []) rfl ?_
    refine lv_aload_n hx hb d_PA_decode_124 rfl (lv_at hl 3 rfl) ?_
    refine k_get hx hb hw uw_PA hown hK hP 1 rfl rfl 4 (by decide) (hw _ wd_198) rfl d_PA_decode_125 ?_
    refine lv_iload hx hb d_PA_decode_128 (lv_at hl 0 rfl) ?_
    refine k_iald hx hb hK hP 6 0 rfl rfl ((fgF_lt _ 64).2 (by decide)) (by omega) d_PA_decode_130 ?_
    rw [hQ]
    exact k_iret (mx, nx, fx, gx) hx hb hr hlk hK hP hD hS [1, 2, 3, 4, 5, 6, 7, 0] (by decide) rfl trivial rfl d_PA_decode_131
  · have hcl := cnt_240 th h35 hcn
    refine lv_iconst (v := nI 0) hx hb d_PA_decode_38 (by decide) ?_
    refine lv_istore (lv' := [(7, .int (nI 0)), (6, .int (nI k)), (5, .int (nI (cnt th k))), (4, .int (nI ct)), (0, .ref h0), (1, .ref qs), (2, .int (nI ct)), (3, .int (th))]) hx hb d_PA_decode_39 hl (by decide) rfl (fun ls hl => ?_)
    refine lv_iconst (v := nI 0) hx hb d_PA_decode_41 (by decide) ?_
    refine lv_istore (lv' := [(8, .int (nI 0)), (7, .int (nI 0)), (6, .int (nI k)), (5, .int (nI (cnt th k))), (4, .int (nI ct)), (0, .ref h0), (1, .ref qs), (2, .int (nI ct)), (3, .int (th))]) hx hb d_PA_decode_42 hl (by decide) rfl (fun ls hl => ?_)
    refine lv_iload_n hx hb d_PA_decode_44 rfl (lv_at hl 8 rfl) ?_
    refine lv_iload hx hb d_PA_decode_45 (lv_at hl 2 rfl) ?_
    refine k_calli (wr := [(h0, .inr (7, [.ref b0, .ref ch, .ref ou, .ref ga, .ref mx, .ref nx])), (b0, .inl (tc 0, 144, .inl bf)), (ch, .inl (tc 2, 144, .inr (.inl (vcF (skA th sf) (skB th sf) cf k)))), (ou, .inl (tc 0, 128, .inl (fun w => nI (outN w)))), (ga, .inl (tc 0, 4, .inl gx)), (mx, .inl (tc 0, 64, .inl (vtM (skA th sf) (skB th sf) k))), (nx, .inl (tc 0, 64, .inl fx)), (qs, .inl (tc 0, 240, .inl sf))]) (k_runSN (As := [.int (th), .int (nI k)]) (rest := []) (wc := []) ⟨hx, hb, hml, hown, hts⟩ (c_CL_keepsA l D tc tb th k (by omega) H.size) ⟨va_cnB 2 hts (k_good wd_486) rfl rfl rfl (hN _ wd_651) (hw _ wd_1) hd_CL_keepsA ⟨by rw [hR]; exact Nat.le_of_ble_eq_true rfl, by rw [hR]; exact Nat.le_of_ble_eq_true rfl⟩, hw _ wd_485, trivial⟩ hK hP hD hS hST hN hA [] (by decide) rfl rfl hl.1 rfl (Nat.le_of_ble_eq_true rfl) d_PA_decode_47 ⟨by rw [hR]; exact Nat.le_of_ble_eq_true rfl, by rw [hR]; exact Nat.le_of_ble_eq_true rfl⟩) hP hD hS hA [] [0, 1, 2, 3, 4, 5, 6, 7] rfl rfl (by decide) (by decide) (fun _ H locs hp47 hP hD hS => ?_)
    have hP : va_P D classes [(h0, .inr (7, [.ref b0, .ref ch, .ref ou, .ref ga, .ref mx, .ref nx])), (b0, .inl (tc 0, 144, .inl bf)), (ch, .inl (tc 2, 144, .inr (.inl (vcF (skA th sf) (skB th sf) cf k)))), (ou, .inl (tc 0, 128, .inl (fun w => nI (outN w)))), (ga, .inl (tc 0, 4, .inl gx)), (mx, .inl (tc 0, 64, .inl (vtM (skA th sf) (skB th sf) k))), (nx, .inl (tc 0, 64, .inl fx)), (qs, .inl (tc 0, 240, .inl sf))] H := hP
    have hD : va_D A [(h0, .inr (7, [.ref b0, .ref ch, .ref ou, .ref ga, .ref mx, .ref nx])), (b0, .inl (tc 0, 144, .inl bf)), (ch, .inl (tc 2, 144, .inr (.inl (vcF (skA th sf) (skB th sf) cf k)))), (ou, .inl (tc 0, 128, .inl (fun w => nI (outN w)))), (ga, .inl (tc 0, 4, .inl gx)), (mx, .inl (tc 0, 64, .inl (vtM (skA th sf) (skB th sf) k))), (nx, .inl (tc 0, 64, .inl fx)), (qs, .inl (tc 0, 240, .inl sf))] := hD
    refine W.widen (k := 0) (n := 0) (Nat.le_of_ble_eq_true rfl) (Nat.le_of_ble_eq_true rfl) ?_
    refine W.eq (g2 := F0 m 50 ls [.int (kpA th k)]) rfl ?_
    refine lv_if_eq (tgt := 69) hx hb d_PA_decode_50 (by decide) (fun h50 => ?_) (fun h50 => ?_)
    · rw [if_pos h50] at hcl
      refine lv_iload_n hx hb d_PA_decode_69 rfl (lv_at hl 8 rfl) ?_
      refine lv_iload hx hb d_PA_decode_70 (lv_at hl 2 rfl) ?_
      refine k_calli (wr := [(h0, .inr (7, [.ref b0, .ref ch, .ref ou, .ref ga, .ref mx, .ref nx])), (b0, .inl (tc 0, 144, .inl bf)), (ch, .inl (tc 2, 144, .inr (.inl (vcF (skA th sf) (skB th sf) cf k)))), (ou, .inl (tc 0, 128, .inl (fun w => nI (outN w)))), (ga, .inl (tc 0, 4, .inl gx)), (mx, .inl (tc 0, 64, .inl (vtM (skA th sf) (skB th sf) k))), (nx, .inl (tc 0, 64, .inl fx)), (qs, .inl (tc 0, 240, .inl sf))]) (k_runSN (As := [.int (th), .int (nI k)]) (rest := []) (wc := []) ⟨hx, hb, hml, hown, hts⟩ (c_CL_keepsB l D tc tb th k (by omega) H.size) ⟨va_cnB 2 hts (k_good wd_494) rfl rfl rfl (hN _ wd_652) (hw _ wd_1) hd_CL_keepsB ⟨by rw [hR]; exact Nat.le_of_ble_eq_true rfl, by rw [hR]; exact Nat.le_of_ble_eq_true rfl⟩, hw _ wd_493, trivial⟩ hK hP hD hS hST hN hA [] (by decide) rfl rfl hl.1 rfl (Nat.le_of_ble_eq_true rfl) d_PA_decode_72 ⟨by rw [hR]; exact Nat.le_of_ble_eq_true rfl, by rw [hR]; exact Nat.le_of_ble_eq_true rfl⟩) hP hD hS hA [] [0, 1, 2, 3, 4, 5, 6, 7] rfl rfl (by decide) (by decide) (fun _ H locs hp72 hP hD hS => ?_)
      have hP : va_P D classes [(h0, .inr (7, [.ref b0, .ref ch, .ref ou, .ref ga, .ref mx, .ref nx])), (b0, .inl (tc 0, 144, .inl bf)), (ch, .inl (tc 2, 144, .inr (.inl (vcF (skA th sf) (skB th sf) cf k)))), (ou, .inl (tc 0, 128, .inl (fun w => nI (outN w)))), (ga, .inl (tc 0, 4, .inl gx)), (mx, .inl (tc 0, 64, .inl (vtM (skA th sf) (skB th sf) k))), (nx, .inl (tc 0, 64, .inl fx)), (qs, .inl (tc 0, 240, .inl sf))] H := hP
      have hD : va_D A [(h0, .inr (7, [.ref b0, .ref ch, .ref ou, .ref ga, .ref mx, .ref nx])), (b0, .inl (tc 0, 144, .inl bf)), (ch, .inl (tc 2, 144, .inr (.inl (vcF (skA th sf) (skB th sf) cf k)))), (ou, .inl (tc 0, 128, .inl (fun w => nI (outN w)))), (ga, .inl (tc 0, 4, .inl gx)), (mx, .inl (tc 0, 64, .inl (vtM (skA th sf) (skB th sf) k))), (nx, .inl (tc 0, 64, .inl fx)), (qs, .inl (tc 0, 240, .inl sf))] := hD
      refine W.widen (k := 0) (n := 0) (Nat.le_of_ble_eq_true rfl) (Nat.le_of_ble_eq_true rfl) ?_
      refine W.eq (g2 := F0 m 75 ls [.int (kpB th k)]) rfl ?_
      refine lv_if_eq (tgt := 94) hx hb d_PA_decode_75 (by decide) (fun h75 => ?_) (fun h75 => ?_)
      · rw [if_pos h75] at hcl
        refine lv_aload_n hx hb d_PA_decode_94 rfl (lv_at hl 5 rfl) ?_
        refine lv_iload hx hb d_PA_decode_95 (lv_at hl 2 rfl) ?_
        refine lv_iload hx hb d_PA_decode_97 (lv_at hl 1 rfl) ?_
        refine k_topi (y := skA th sf k) (by unfold skA; first | rw [if_pos h50] | rw [if_neg h50]) ?_
        refine lv_iload hx hb d_PA_decode_99 (lv_at hl 0 rfl) ?_
        refine k_topi (y := skB th sf k) (by unfold skB; first | rw [if_pos h75] | (rw [if_neg h75, if_pos h50] <;> rfl) | (rw [if_neg h75, if_neg h50] <;> rfl)) ?_
        refine k_callv (wr := [(qs, .inl (tc 0, 240, .inl sf))]) (k_runV (As := [.int (nI k), .int (skA th sf k), .int (skB th sf k)]) (rest := []) (wc := [(h0, .inr (7, [.ref b0, .ref ch, .ref ou, .ref ga, .ref mx, .ref nx])), (b0, .inl (tc 0, 144, .inl bf)), (ch, .inl (tc 2, 144, .inr (.inl (vcF (skA th sf) (skB th sf) cf k)))), (ou, .inl (tc 0, 128, .inl (fun w => nI (outN w)))), (ga, .inl (tc 0, 4, .inl gx)), (mx, .inl (tc 0, 64, .inl (vtM (skA th sf) (skB th sf) k))), (nx, .inl (tc 0, 64, .inl fx))]) ⟨hx, hb, hml, hown, hts⟩ (c_PA_step l D tc tb h0 b0 ch ou ga mx nx bf (vcF (skA th sf) (skB th sf) cf k) gx (vtM (skA th sf) (skB th sf) k) fx k (skA th sf k) (skB th sf k) (by omega) H.size) (cwV 3 hts (k_goodV wd_653 wd_655 wd_m22 wd_9 wd_656) rfl rfl rfl ⟨rfl, hd_PA_step⟩ ⟨by rw [hR]; exact Nat.le_of_ble_eq_true rfl, by rw [hR]; exact Nat.le_of_ble_eq_true rfl⟩) hK hP hD hS hST hN hA [0, 1, 2, 3, 4, 5, 6] (by decide) rfl 0 rfl rfl rfl rfl hl.1 rfl (Nat.le_of_ble_eq_true rfl) d_PA_decode_101 ⟨by rw [hR]; exact Nat.le_of_ble_eq_true rfl, by rw [hR]; exact Nat.le_of_ble_eq_true rfl⟩) hP hD hS hA [0, 1, 2, 3, 4, 5, 6] [7] rfl rfl (by decide) (by decide) (fun _ H locs hp101 hP hD hS => ?_)
        have hP : va_P D classes [(qs, .inl (tc 0, 240, .inl sf)), (h0, .inr (7, [.ref b0, .ref ch, .ref ou, .ref ga, .ref nx, .ref mx])), (b0, .inl (tc 0, 144, .inl bf)), (ch, .inl (tc 2, 144, .inr (.inl (vp_updL (vcF (skA th sf) (skB th sf) cf k) k (chF (vtM (skA th sf) (skB th sf) k) (skA th sf k) (skB th sf k) 64))))), (ou, .inl (tc 0, 128, .inl (fun w => nI (outN w)))), (ga, .inl (tc 0, 4, .inl (gn4 (skA th sf k) (skB th sf k)))), (mx, .inl (tc 0, 64, .inl (vtM (skA th sf) (skB th sf) k))), (nx, .inl (tc 0, 64, .inl (vtS (vtM (skA th sf) (skB th sf) k) (skA th sf k) (skB th sf k))))] H := hP
        have hD : va_D A [(qs, .inl (tc 0, 240, .inl sf)), (h0, .inr (7, [.ref b0, .ref ch, .ref ou, .ref ga, .ref nx, .ref mx])), (b0, .inl (tc 0, 144, .inl bf)), (ch, .inl (tc 2, 144, .inr (.inl (vp_updL (vcF (skA th sf) (skB th sf) cf k) k (chF (vtM (skA th sf) (skB th sf) k) (skA th sf k) (skB th sf k) 64))))), (ou, .inl (tc 0, 128, .inl (fun w => nI (outN w)))), (ga, .inl (tc 0, 4, .inl (gn4 (skA th sf k) (skB th sf k)))), (mx, .inl (tc 0, 64, .inl (vtM (skA th sf) (skB th sf) k))), (nx, .inl (tc 0, 64, .inl (vtS (vtM (skA th sf) (skB th sf) k) (skA th sf k) (skB th sf k))))] := hD
        refine W.widen (k := 0) (n := 0) (Nat.le_of_ble_eq_true rfl) (Nat.le_of_ble_eq_true rfl) ?_
        refine W.eq (g2 := F0 m 104 ls []) rfl ?_
        refine lv_iinc (k := 2) (v := nI (k + 1)) (lv' := [(6, .int (nI (k + 1))), (8, .int (nI 0)), (7, .int (nI 0)), (5, .int (nI (cnt th k))), (4, .int (nI ct)), (0, .ref h0), (1, .ref qs), (2, .int (nI ct)), (3, .int (th))]) hx hb d_PA_decode_104 hl rfl (k_incN _ 1) (by decide) rfl (fun ls hl => ?_)
        refine lv_goto (tgt := 31) hx hb d_PA_decode_107 (by decide) ?_
        exact ih_k (by omega) nx mx (gn4 (skA th sf k) (skB th sf k)) (vtM (skA th sf) (skB th sf) k)  H locs ls (by first | (rw [cn00 h50 h75]; exact lv_sub hl [0, 3, 4, 5, 6, 7, 8] rfl) | (rw [cn01 h50 h75]; exact lv_sub hl [0, 3, 4, 5, 6, 7, 8] rfl) | (rw [cn10 h50 h75]; exact lv_sub hl [0, 3, 4, 5, 6, 7, 8] rfl) | (rw [cn11 h50 h75]; exact lv_sub hl [0, 3, 4, 5, 6, 7, 8] rfl)) (by have hP := k_sub hP (is := [1, 2, 3, 4, 5, 7, 6, 0]) (w := [(h0, .inr (7, [.ref b0, .ref ch, .ref ou, .ref ga, .ref nx, .ref mx])), (b0, .inl (tc 0, 144, .inl bf)), (ch, .inl (tc 2, 144, .inr (.inl (vp_updL (vcF (skA th sf) (skB th sf) cf k) k (chF (vtM (skA th sf) (skB th sf) k) (skA th sf k) (skB th sf k) 64))))), (ou, .inl (tc 0, 128, .inl (fun w => nI (outN w)))), (ga, .inl (tc 0, 4, .inl (gn4 (skA th sf k) (skB th sf k)))), (nx, .inl (tc 0, 64, .inl (vtS (vtM (skA th sf) (skB th sf) k) (skA th sf k) (skB th sf k)))), (mx, .inl (tc 0, 64, .inl (vtM (skA th sf) (skB th sf) k))), (qs, .inl (tc 0, 240, .inl sf))]) rfl; rw [vtM_s, vcF_s]; exact hP) (k_Ds hD [1, 2, 3, 4, 5, 7, 6, 0] (by decide) rfl) hS
      · rw [if_neg h75] at hcl
        refine lv_iload hx hb d_PA_decode_78 (lv_at hl 3 rfl) ?_
        refine lv_aload_n hx hb d_PA_decode_80 rfl (lv_at hl 6 rfl) ?_
        refine va_alen (v := nI 240) hx hb hK hP 7 0 rfl rfl rfl d_PA_decode_81 ?_
        refine k_icmp_ge (tgt := 94) hx hb d_PA_decode_82 (by decide) (by omega) (by omega) (fun h82 => ?_) (fun h82 => ?_)
        · exfalso; omega
        · refine lv_aload_n hx hb d_PA_decode_85 rfl (lv_at hl 6 rfl) ?_
          refine lv_iload hx hb d_PA_decode_86 (lv_at hl 3 rfl) ?_
          refine k_iald hx hb hK hP 7 0 rfl rfl (by omega) (by omega) d_PA_decode_88 ?_
          refine lv_istore (lv' := [(8, .int (sf (cnt th k))), (7, .int (nI 0)), (6, .int (nI k)), (5, .int (nI (cnt th k))), (4, .int (nI ct)), (0, .ref h0), (1, .ref qs), (2, .int (nI ct)), (3, .int (th))]) hx hb d_PA_decode_89 hl (by decide) rfl (fun ls hl => ?_)
          refine lv_iinc (k := 3) (v := nI (cnt th k + 1)) (lv' := [(5, .int (nI (cnt th k + 1))), (8, .int (sf (cnt th k))), (7, .int (nI 0)), (6, .int (nI k)), (4, .int (nI ct)), (0, .ref h0), (1, .ref qs), (2, .int (nI ct)), (3, .int (th))]) hx hb d_PA_decode_91 hl rfl (k_incN _ 1) (by decide) rfl (fun ls hl => ?_)
          refine lv_aload_n hx hb d_PA_decode_94 rfl (lv_at hl 5 rfl) ?_
          refine lv_iload hx hb d_PA_decode_95 (lv_at hl 3 rfl) ?_
          refine lv_iload hx hb d_PA_decode_97 (lv_at hl 2 rfl) ?_
          refine k_topi (y := skA th sf k) (by unfold skA; first | rw [if_pos h50] | rw [if_neg h50]) ?_
          refine lv_iload hx hb d_PA_decode_99 (lv_at hl 1 rfl) ?_
          refine k_topi (y := skB th sf k) (by unfold skB; first | rw [if_pos h75] | (rw [if_neg h75, if_pos h50] <;> rfl) | (rw [if_neg h75, if_neg h50] <;> rfl)) ?_
          refine k_callv (wr := [(qs, .inl (tc 0, 240, .inl sf))]) (k_runV (As := [.int (nI k), .int (skA th sf k), .int (skB th sf k)]) (rest := []) (wc := [(h0, .inr (7, [.ref b0, .ref ch, .ref ou, .ref ga, .ref mx, .ref nx])), (b0, .inl (tc 0, 144, .inl bf)), (ch, .inl (tc 2, 144, .inr (.inl (vcF (skA th sf) (skB th sf) cf k)))), (ou, .inl (tc 0, 128, .inl (fun w => nI (outN w)))), (ga, .inl (tc 0, 4, .inl gx)), (mx, .inl (tc 0, 64, .inl (vtM (skA th sf) (skB th sf) k))), (nx, .inl (tc 0, 64, .inl fx))]) ⟨hx, hb, hml, hown, hts⟩ (c_PA_step l D tc tb h0 b0 ch ou ga mx nx bf (vcF (skA th sf) (skB th sf) cf k) gx (vtM (skA th sf) (skB th sf) k) fx k (skA th sf k) (skB th sf k) (by omega) H.size) (cwV 3 hts (k_goodV wd_653 wd_655 wd_m22 wd_9 wd_656) rfl rfl rfl ⟨rfl, hd_PA_step⟩ ⟨by rw [hR]; exact Nat.le_of_ble_eq_true rfl, by rw [hR]; exact Nat.le_of_ble_eq_true rfl⟩) hK hP hD hS hST hN hA [0, 1, 2, 3, 4, 5, 6] (by decide) rfl 0 rfl rfl rfl rfl hl.1 rfl (Nat.le_of_ble_eq_true rfl) d_PA_decode_101 ⟨by rw [hR]; exact Nat.le_of_ble_eq_true rfl, by rw [hR]; exact Nat.le_of_ble_eq_true rfl⟩) hP hD hS hA [0, 1, 2, 3, 4, 5, 6] [7] rfl rfl (by decide) (by decide) (fun _ H locs hp101 hP hD hS => ?_)
          have hP : va_P D classes [(qs, .inl (tc 0, 240, .inl sf)), (h0, .inr (7, [.ref b0, .ref ch, .ref ou, .ref ga, .ref nx, .ref mx])), (b0, .inl (tc 0, 144, .inl bf)), (ch, .inl (tc 2, 144, .inr (.inl (vp_updL (vcF (skA th sf) (skB th sf) cf k) k (chF (vtM (skA th sf) (skB th sf) k) (skA th sf k) (skB th sf k) 64))))), (ou, .inl (tc 0, 128, .inl (fun w => nI (outN w)))), (ga, .inl (tc 0, 4, .inl (gn4 (skA th sf k) (skB th sf k)))), (mx, .inl (tc 0, 64, .inl (vtM (skA th sf) (skB th sf) k))), (nx, .inl (tc 0, 64, .inl (vtS (vtM (skA th sf) (skB th sf) k) (skA th sf k) (skB th sf k))))] H := hP
          have hD : va_D A [(qs, .inl (tc 0, 240, .inl sf)), (h0, .inr (7, [.ref b0, .ref ch, .ref ou, .ref ga, .ref nx, .ref mx])), (b0, .inl (tc 0, 144, .inl bf)), (ch, .inl (tc 2, 144, .inr (.inl (vp_updL (vcF (skA th sf) (skB th sf) cf k) k (chF (vtM (skA th sf) (skB th sf) k) (skA th sf k) (skB th sf k) 64))))), (ou, .inl (tc 0, 128, .inl (fun w => nI (outN w)))), (ga, .inl (tc 0, 4, .inl (gn4 (skA th sf k) (skB th sf k)))), (mx, .inl (tc 0, 64, .inl (vtM (skA th sf) (skB th sf) k))), (nx, .inl (tc 0, 64, .inl (vtS (vtM (skA th sf) (skB th sf) k) (skA th sf k) (skB th sf k))))] := hD
          refine W.widen (k := 0) (n := 0) (Nat.le_of_ble_eq_true rfl) (Nat.le_of_ble_eq_true rfl) ?_
          refine W.eq (g2 := F0 m 104 ls []) rfl ?_
          refine lv_iinc (k := 3) (v := nI (k + 1)) (lv' := [(6, .int (nI (k + 1))), (5, .int (nI (cnt th k + 1))), (8, .int (sf (cnt th k))), (7, .int (nI 0)), (4, .int (nI ct)), (0, .ref h0), (1, .ref qs), (2, .int (nI ct)), (3, .int (th))]) hx hb d_PA_decode_104 hl rfl (k_incN _ 1) (by decide) rfl (fun ls hl => ?_)
          refine lv_goto (tgt := 31) hx hb d_PA_decode_107 (by decide) ?_
          exact ih_k (by omega) nx mx (gn4 (skA th sf k) (skB th sf k)) (vtM (skA th sf) (skB th sf) k)  H locs ls (by first | (rw [cn00 h50 h75]; exact lv_sub hl [0, 1, 4, 5, 6, 7, 8] rfl) | (rw [cn01 h50 h75]; exact lv_sub hl [0, 1, 4, 5, 6, 7, 8] rfl) | (rw [cn10 h50 h75]; exact lv_sub hl [0, 1, 4, 5, 6, 7, 8] rfl) | (rw [cn11 h50 h75]; exact lv_sub hl [0, 1, 4, 5, 6, 7, 8] rfl)) (by have hP := k_sub hP (is := [1, 2, 3, 4, 5, 7, 6, 0]) (w := [(h0, .inr (7, [.ref b0, .ref ch, .ref ou, .ref ga, .ref nx, .ref mx])), (b0, .inl (tc 0, 144, .inl bf)), (ch, .inl (tc 2, 144, .inr (.inl (vp_updL (vcF (skA th sf) (skB th sf) cf k) k (chF (vtM (skA th sf) (skB th sf) k) (skA th sf k) (skB th sf k) 64))))), (ou, .inl (tc 0, 128, .inl (fun w => nI (outN w)))), (ga, .inl (tc 0, 4, .inl (gn4 (skA th sf k) (skB th sf k)))), (nx, .inl (tc 0, 64, .inl (vtS (vtM (skA th sf) (skB th sf) k) (skA th sf k) (skB th sf k)))), (mx, .inl (tc 0, 64, .inl (vtM (skA th sf) (skB th sf) k))), (qs, .inl (tc 0, 240, .inl sf))]) rfl; rw [vtM_s, vcF_s]; exact hP) (k_Ds hD [1, 2, 3, 4, 5, 7, 6, 0] (by decide) rfl) hS
    · rw [if_neg h50] at hcl
      refine lv_iload hx hb d_PA_decode_53 (lv_at hl 3 rfl) ?_
      refine lv_aload_n hx hb d_PA_decode_55 rfl (lv_at hl 6 rfl) ?_
      refine va_alen (v := nI 240) hx hb hK hP 7 0 rfl rfl rfl d_PA_decode_56 ?_
      refine k_icmp_ge (tgt := 69) hx hb d_PA_decode_57 (by decide) (by omega) (by omega) (fun h57 => ?_) (fun h57 => ?_)
      · exfalso; omega
      · refine lv_aload_n hx hb d_PA_decode_60 rfl (lv_at hl 6 rfl) ?_
        refine lv_iload hx hb d_PA_decode_61 (lv_at hl 3 rfl) ?_
        refine k_iald hx hb hK hP 7 0 rfl rfl (by omega) (by omega) d_PA_decode_63 ?_
        refine lv_istore (lv' := [(7, .int (sf (cnt th k))), (8, .int (nI 0)), (6, .int (nI k)), (5, .int (nI (cnt th k))), (4, .int (nI ct)), (0, .ref h0), (1, .ref qs), (2, .int (nI ct)), (3, .int (th))]) hx hb d_PA_decode_64 hl (by decide) rfl (fun ls hl => ?_)
        refine lv_iinc (k := 3) (v := nI (cnt th k + 1)) (lv' := [(5, .int (nI (cnt th k + 1))), (7, .int (sf (cnt th k))), (8, .int (nI 0)), (6, .int (nI k)), (4, .int (nI ct)), (0, .ref h0), (1, .ref qs), (2, .int (nI ct)), (3, .int (th))]) hx hb d_PA_decode_66 hl rfl (k_incN _ 1) (by decide) rfl (fun ls hl => ?_)
        refine lv_iload_n hx hb d_PA_decode_69 rfl (lv_at hl 8 rfl) ?_
        refine lv_iload hx hb d_PA_decode_70 (lv_at hl 3 rfl) ?_
        refine k_calli (wr := [(h0, .inr (7, [.ref b0, .ref ch, .ref ou, .ref ga, .ref mx, .ref nx])), (b0, .inl (tc 0, 144, .inl bf)), (ch, .inl (tc 2, 144, .inr (.inl (vcF (skA th sf) (skB th sf) cf k)))), (ou, .inl (tc 0, 128, .inl (fun w => nI (outN w)))), (ga, .inl (tc 0, 4, .inl gx)), (mx, .inl (tc 0, 64, .inl (vtM (skA th sf) (skB th sf) k))), (nx, .inl (tc 0, 64, .inl fx)), (qs, .inl (tc 0, 240, .inl sf))]) (k_runSN (As := [.int (th), .int (nI k)]) (rest := []) (wc := []) ⟨hx, hb, hml, hown, hts⟩ (c_CL_keepsB l D tc tb th k (by omega) H.size) ⟨va_cnB 2 hts (k_good wd_494) rfl rfl rfl (hN _ wd_652) (hw _ wd_1) hd_CL_keepsB ⟨by rw [hR]; exact Nat.le_of_ble_eq_true rfl, by rw [hR]; exact Nat.le_of_ble_eq_true rfl⟩, hw _ wd_493, trivial⟩ hK hP hD hS hST hN hA [] (by decide) rfl rfl hl.1 rfl (Nat.le_of_ble_eq_true rfl) d_PA_decode_72 ⟨by rw [hR]; exact Nat.le_of_ble_eq_true rfl, by rw [hR]; exact Nat.le_of_ble_eq_true rfl⟩) hP hD hS hA [] [0, 1, 2, 3, 4, 5, 6, 7] rfl rfl (by decide) (by decide) (fun _ H locs hp72 hP hD hS => ?_)
        have hP : va_P D classes [(h0, .inr (7, [.ref b0, .ref ch, .ref ou, .ref ga, .ref mx, .ref nx])), (b0, .inl (tc 0, 144, .inl bf)), (ch, .inl (tc 2, 144, .inr (.inl (vcF (skA th sf) (skB th sf) cf k)))), (ou, .inl (tc 0, 128, .inl (fun w => nI (outN w)))), (ga, .inl (tc 0, 4, .inl gx)), (mx, .inl (tc 0, 64, .inl (vtM (skA th sf) (skB th sf) k))), (nx, .inl (tc 0, 64, .inl fx)), (qs, .inl (tc 0, 240, .inl sf))] H := hP
        have hD : va_D A [(h0, .inr (7, [.ref b0, .ref ch, .ref ou, .ref ga, .ref mx, .ref nx])), (b0, .inl (tc 0, 144, .inl bf)), (ch, .inl (tc 2, 144, .inr (.inl (vcF (skA th sf) (skB th sf) cf k)))), (ou, .inl (tc 0, 128, .inl (fun w => nI (outN w)))), (ga, .inl (tc 0, 4, .inl gx)), (mx, .inl (tc 0, 64, .inl (vtM (skA th sf) (skB th sf) k))), (nx, .inl (tc 0, 64, .inl fx)), (qs, .inl (tc 0, 240, .inl sf))] := hD
        refine W.widen (k := 0) (n := 0) (Nat.le_of_ble_eq_true rfl) (Nat.le_of_ble_eq_true rfl) ?_
        refine W.eq (g2 := F0 m 75 ls [.int (kpB th k)]) rfl ?_
        refine lv_if_eq (tgt := 94) hx hb d_PA_decode_75 (by decide) (fun h75 => ?_) (fun h75 => ?_)
        · rw [if_pos h75] at hcl
          refine lv_aload_n hx hb d_PA_decode_94 rfl (lv_at hl 5 rfl) ?_
          refine lv_iload hx hb d_PA_decode_95 (lv_at hl 3 rfl) ?_
          refine lv_iload hx hb d_PA_decode_97 (lv_at hl 1 rfl) ?_
          refine k_topi (y := skA th sf k) (by unfold skA; first | rw [if_pos h50] | rw [if_neg h50]) ?_
          refine lv_iload hx hb d_PA_decode_99 (lv_at hl 2 rfl) ?_
          refine k_topi (y := skB th sf k) (by unfold skB; first | rw [if_pos h75] | (rw [if_neg h75, if_pos h50] <;> rfl) | (rw [if_neg h75, if_neg h50] <;> rfl)) ?_
          refine k_callv (wr := [(qs, .inl (tc 0, 240, .inl sf))]) (k_runV (As := [.int (nI k), .int (skA th sf k), .int (skB th sf k)]) (rest := []) (wc := [(h0, .inr (7, [.ref b0, .ref ch, .ref ou, .ref ga, .ref mx, .ref nx])), (b0, .inl (tc 0, 144, .inl bf)), (ch, .inl (tc 2, 144, .inr (.inl (vcF (skA th sf) (skB th sf) cf k)))), (ou, .inl (tc 0, 128, .inl (fun w => nI (outN w)))), (ga, .inl (tc 0, 4, .inl gx)), (mx, .inl (tc 0, 64, .inl (vtM (skA th sf) (skB th sf) k))), (nx, .inl (tc 0, 64, .inl fx))]) ⟨hx, hb, hml, hown, hts⟩ (c_PA_step l D tc tb h0 b0 ch ou ga mx nx bf (vcF (skA th sf) (skB th sf) cf k) gx (vtM (skA th sf) (skB th sf) k) fx k (skA th sf k) (skB th sf k) (by omega) H.size) (cwV 3 hts (k_goodV wd_653 wd_655 wd_m22 wd_9 wd_656) rfl rfl rfl ⟨rfl, hd_PA_step⟩ ⟨by rw [hR]; exact Nat.le_of_ble_eq_true rfl, by rw [hR]; exact Nat.le_of_ble_eq_true rfl⟩) hK hP hD hS hST hN hA [0, 1, 2, 3, 4, 5, 6] (by decide) rfl 0 rfl rfl rfl rfl hl.1 rfl (Nat.le_of_ble_eq_true rfl) d_PA_decode_101 ⟨by rw [hR]; exact Nat.le_of_ble_eq_true rfl, by rw [hR]; exact Nat.le_of_ble_eq_true rfl⟩) hP hD hS hA [0, 1, 2, 3, 4, 5, 6] [7] rfl rfl (by decide) (by decide) (fun _ H locs hp101 hP hD hS => ?_)
          have hP : va_P D classes [(qs, .inl (tc 0, 240, .inl sf)), (h0, .inr (7, [.ref b0, .ref ch, .ref ou, .ref ga, .ref nx, .ref mx])), (b0, .inl (tc 0, 144, .inl bf)), (ch, .inl (tc 2, 144, .inr (.inl (vp_updL (vcF (skA th sf) (skB th sf) cf k) k (chF (vtM (skA th sf) (skB th sf) k) (skA th sf k) (skB th sf k) 64))))), (ou, .inl (tc 0, 128, .inl (fun w => nI (outN w)))), (ga, .inl (tc 0, 4, .inl (gn4 (skA th sf k) (skB th sf k)))), (mx, .inl (tc 0, 64, .inl (vtM (skA th sf) (skB th sf) k))), (nx, .inl (tc 0, 64, .inl (vtS (vtM (skA th sf) (skB th sf) k) (skA th sf k) (skB th sf k))))] H := hP
          have hD : va_D A [(qs, .inl (tc 0, 240, .inl sf)), (h0, .inr (7, [.ref b0, .ref ch, .ref ou, .ref ga, .ref nx, .ref mx])), (b0, .inl (tc 0, 144, .inl bf)), (ch, .inl (tc 2, 144, .inr (.inl (vp_updL (vcF (skA th sf) (skB th sf) cf k) k (chF (vtM (skA th sf) (skB th sf) k) (skA th sf k) (skB th sf k) 64))))), (ou, .inl (tc 0, 128, .inl (fun w => nI (outN w)))), (ga, .inl (tc 0, 4, .inl (gn4 (skA th sf k) (skB th sf k)))), (mx, .inl (tc 0, 64, .inl (vtM (skA th sf) (skB th sf) k))), (nx, .inl (tc 0, 64, .inl (vtS (vtM (skA th sf) (skB th sf) k) (skA th sf k) (skB th sf k))))] := hD
          refine W.widen (k := 0) (n := 0) (Nat.le_of_ble_eq_true rfl) (Nat.le_of_ble_eq_true rfl) ?_
          refine W.eq (g2 := F0 m 104 ls []) rfl ?_
          refine lv_iinc (k := 3) (v := nI (k + 1)) (lv' := [(6, .int (nI (k + 1))), (5, .int (nI (cnt th k + 1))), (7, .int (sf (cnt th k))), (8, .int (nI 0)), (4, .int (nI ct)), (0, .ref h0), (1, .ref qs), (2, .int (nI ct)), (3, .int (th))]) hx hb d_PA_decode_104 hl rfl (k_incN _ 1) (by decide) rfl (fun ls hl => ?_)
          refine lv_goto (tgt := 31) hx hb d_PA_decode_107 (by decide) ?_
          exact ih_k (by omega) nx mx (gn4 (skA th sf k) (skB th sf k)) (vtM (skA th sf) (skB th sf) k)  H locs ls (by first | (rw [cn00 h50 h75]; exact lv_sub hl [0, 1, 4, 5, 6, 7, 8] rfl) | (rw [cn01 h50 h75]; exact lv_sub hl [0, 1, 4, 5, 6, 7, 8] rfl) | (rw [cn10 h50 h75]; exact lv_sub hl [0, 1, 4, 5, 6, 7, 8] rfl) | (rw [cn11 h50 h75]; exact lv_sub hl [0, 1, 4, 5, 6, 7, 8] rfl)) (by have hP := k_sub hP (is := [1, 2, 3, 4, 5, 7, 6, 0]) (w := [(h0, .inr (7, [.ref b0, .ref ch, .ref ou, .ref ga, .ref nx, .ref mx])), (b0, .inl (tc 0, 144, .inl bf)), (ch, .inl (tc 2, 144, .inr (.inl (vp_updL (vcF (skA th sf) (skB th sf) cf k) k (chF (vtM (skA th sf) (skB th sf) k) (skA th sf k) (skB th sf k) 64))))), (ou, .inl (tc 0, 128, .inl (fun w => nI (outN w)))), (ga, .inl (tc 0, 4, .inl (gn4 (skA th sf k) (skB th sf k)))), (nx, .inl (tc 0, 64, .inl (vtS (vtM (skA th sf) (skB th sf) k) (skA th sf k) (skB th sf k)))), (mx, .inl (tc 0, 64, .inl (vtM (skA th sf) (skB th sf) k))), (qs, .inl (tc 0, 240, .inl sf))]) rfl; rw [vtM_s, vcF_s]; exact hP) (k_Ds hD [1, 2, 3, 4, 5, 7, 6, 0] (by decide) rfl) hS
        · rw [if_neg h75] at hcl
          refine lv_iload hx hb d_PA_decode_78 (lv_at hl 0 rfl) ?_
          refine lv_aload_n hx hb d_PA_decode_80 rfl (lv_at hl 6 rfl) ?_
          refine va_alen (v := nI 240) hx hb hK hP 7 0 rfl rfl rfl d_PA_decode_81 ?_
          refine k_icmp_ge (tgt := 94) hx hb d_PA_decode_82 (by decide) (by omega) (by omega) (fun h82 => ?_) (fun h82 => ?_)
          · exfalso; omega
          · refine lv_aload_n hx hb d_PA_decode_85 rfl (lv_at hl 6 rfl) ?_
            refine lv_iload hx hb d_PA_decode_86 (lv_at hl 0 rfl) ?_
            refine k_iald hx hb hK hP 7 0 rfl rfl (by omega) (by omega) d_PA_decode_88 ?_
            refine lv_istore (lv' := [(8, .int (sf (cnt th k + 1))), (5, .int (nI (cnt th k + 1))), (7, .int (sf (cnt th k))), (6, .int (nI k)), (4, .int (nI ct)), (0, .ref h0), (1, .ref qs), (2, .int (nI ct)), (3, .int (th))]) hx hb d_PA_decode_89 hl (by decide) rfl (fun ls hl => ?_)
            refine lv_iinc (k := 1) (v := nI (cnt th k + 1 + 1)) (lv' := [(5, .int (nI (cnt th k + 1 + 1))), (8, .int (sf (cnt th k + 1))), (7, .int (sf (cnt th k))), (6, .int (nI k)), (4, .int (nI ct)), (0, .ref h0), (1, .ref qs), (2, .int (nI ct)), (3, .int (th))]) hx hb d_PA_decode_91 hl rfl (k_incN _ 1) (by decide) rfl (fun ls hl => ?_)
            refine lv_aload_n hx hb d_PA_decode_94 rfl (lv_at hl 5 rfl) ?_
            refine lv_iload hx hb d_PA_decode_95 (lv_at hl 3 rfl) ?_
            refine lv_iload hx hb d_PA_decode_97 (lv_at hl 2 rfl) ?_
            refine k_topi (y := skA th sf k) (by unfold skA; first | rw [if_pos h50] | rw [if_neg h50]) ?_
            refine lv_iload hx hb d_PA_decode_99 (lv_at hl 1 rfl) ?_
            refine k_topi (y := skB th sf k) (by unfold skB; first | rw [if_pos h75] | (rw [if_neg h75, if_pos h50] <;> rfl) | (rw [if_neg h75, if_neg h50] <;> rfl)) ?_
            refine k_callv (wr := [(qs, .inl (tc 0, 240, .inl sf))]) (k_runV (As := [.int (nI k), .int (skA th sf k), .int (skB th sf k)]) (rest := []) (wc := [(h0, .inr (7, [.ref b0, .ref ch, .ref ou, .ref ga, .ref mx, .ref nx])), (b0, .inl (tc 0, 144, .inl bf)), (ch, .inl (tc 2, 144, .inr (.inl (vcF (skA th sf) (skB th sf) cf k)))), (ou, .inl (tc 0, 128, .inl (fun w => nI (outN w)))), (ga, .inl (tc 0, 4, .inl gx)), (mx, .inl (tc 0, 64, .inl (vtM (skA th sf) (skB th sf) k))), (nx, .inl (tc 0, 64, .inl fx))]) ⟨hx, hb, hml, hown, hts⟩ (c_PA_step l D tc tb h0 b0 ch ou ga mx nx bf (vcF (skA th sf) (skB th sf) cf k) gx (vtM (skA th sf) (skB th sf) k) fx k (skA th sf k) (skB th sf k) (by omega) H.size) (cwV 3 hts (k_goodV wd_653 wd_655 wd_m22 wd_9 wd_656) rfl rfl rfl ⟨rfl, hd_PA_step⟩ ⟨by rw [hR]; exact Nat.le_of_ble_eq_true rfl, by rw [hR]; exact Nat.le_of_ble_eq_true rfl⟩) hK hP hD hS hST hN hA [0, 1, 2, 3, 4, 5, 6] (by decide) rfl 0 rfl rfl rfl rfl hl.1 rfl (Nat.le_of_ble_eq_true rfl) d_PA_decode_101 ⟨by rw [hR]; exact Nat.le_of_ble_eq_true rfl, by rw [hR]; exact Nat.le_of_ble_eq_true rfl⟩) hP hD hS hA [0, 1, 2, 3, 4, 5, 6] [7] rfl rfl (by decide) (by decide) (fun _ H locs hp101 hP hD hS => ?_)
            have hP : va_P D classes [(qs, .inl (tc 0, 240, .inl sf)), (h0, .inr (7, [.ref b0, .ref ch, .ref ou, .ref ga, .ref nx, .ref mx])), (b0, .inl (tc 0, 144, .inl bf)), (ch, .inl (tc 2, 144, .inr (.inl (vp_updL (vcF (skA th sf) (skB th sf) cf k) k (chF (vtM (skA th sf) (skB th sf) k) (skA th sf k) (skB th sf k) 64))))), (ou, .inl (tc 0, 128, .inl (fun w => nI (outN w)))), (ga, .inl (tc 0, 4, .inl (gn4 (skA th sf k) (skB th sf k)))), (mx, .inl (tc 0, 64, .inl (vtM (skA th sf) (skB th sf) k))), (nx, .inl (tc 0, 64, .inl (vtS (vtM (skA th sf) (skB th sf) k) (skA th sf k) (skB th sf k))))] H := hP
            have hD : va_D A [(qs, .inl (tc 0, 240, .inl sf)), (h0, .inr (7, [.ref b0, .ref ch, .ref ou, .ref ga, .ref nx, .ref mx])), (b0, .inl (tc 0, 144, .inl bf)), (ch, .inl (tc 2, 144, .inr (.inl (vp_updL (vcF (skA th sf) (skB th sf) cf k) k (chF (vtM (skA th sf) (skB th sf) k) (skA th sf k) (skB th sf k) 64))))), (ou, .inl (tc 0, 128, .inl (fun w => nI (outN w)))), (ga, .inl (tc 0, 4, .inl (gn4 (skA th sf k) (skB th sf k)))), (mx, .inl (tc 0, 64, .inl (vtM (skA th sf) (skB th sf) k))), (nx, .inl (tc 0, 64, .inl (vtS (vtM (skA th sf) (skB th sf) k) (skA th sf k) (skB th sf k))))] := hD
            refine W.widen (k := 0) (n := 0) (Nat.le_of_ble_eq_true rfl) (Nat.le_of_ble_eq_true rfl) ?_
            refine W.eq (g2 := F0 m 104 ls []) rfl ?_
            refine lv_iinc (k := 3) (v := nI (k + 1)) (lv' := [(6, .int (nI (k + 1))), (5, .int (nI (cnt th k + 1 + 1))), (8, .int (sf (cnt th k + 1))), (7, .int (sf (cnt th k))), (4, .int (nI ct)), (0, .ref h0), (1, .ref qs), (2, .int (nI ct)), (3, .int (th))]) hx hb d_PA_decode_104 hl rfl (k_incN _ 1) (by decide) rfl (fun ls hl => ?_)
            refine lv_goto (tgt := 31) hx hb d_PA_decode_107 (by decide) ?_
            exact ih_k (by omega) nx mx (gn4 (skA th sf k) (skB th sf k)) (vtM (skA th sf) (skB th sf) k)  H locs ls (by first | (rw [cn00 h50 h75]; exact lv_sub hl [0, 1, 4, 5, 6, 7, 8] rfl) | (rw [cn01 h50 h75]; exact lv_sub hl [0, 1, 4, 5, 6, 7, 8] rfl) | (rw [cn10 h50 h75]; exact lv_sub hl [0, 1, 4, 5, 6, 7, 8] rfl) | (rw [cn11 h50 h75]; exact lv_sub hl [0, 1, 4, 5, 6, 7, 8] rfl)) (by have hP := k_sub hP (is := [1, 2, 3, 4, 5, 7, 6, 0]) (w := [(h0, .inr (7, [.ref b0, .ref ch, .ref ou, .ref ga, .ref nx, .ref mx])), (b0, .inl (tc 0, 144, .inl bf)), (ch, .inl (tc 2, 144, .inr (.inl (vp_updL (vcF (skA th sf) (skB th sf) cf k) k (chF (vtM (skA th sf) (skB th sf) k) (skA th sf k) (skB th sf k) 64))))), (ou, .inl (tc 0, 128, .inl (fun w => nI (outN w)))), (ga, .inl (tc 0, 4, .inl (gn4 (skA th sf k) (skB th sf k)))), (nx, .inl (tc 0, 64, .inl (vtS (vtM (skA th sf) (skB th sf) k) (skA th sf k) (skB th sf k)))), (mx, .inl (tc 0, 64, .inl (vtM (skA th sf) (skB th sf) k))), (qs, .inl (tc 0, 240, .inl sf))]) rfl; rw [vtM_s, vcF_s]; exact hP) (k_Ds hD [1, 2, 3, 4, 5, 7, 6, 0] (by decide) rfl) hS
