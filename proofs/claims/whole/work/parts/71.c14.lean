set_option maxHeartbeats 4000000 in
set_option maxRecDepth 100000 in
theorem c_CL_disturb_no (l : Launch) (D : va_G) (tc : Nat → ClassId) (tb : Nat → Nat) (h0 : Nat) (wq0 : Nat) (fw : Nat) (oa : Nat) (sn : Nat) (rc : Nat) (mc : Nat) (oi : Nat) (oq : Nat) (ac : Nat) (ww : RP) (xk : Int32) (xi : Int32) (xq : Int32) (hbad : hasF xk ac = 0) : Mi l D tc tb y_CL_disturb prog_1_method_8_code 4 (some .boolean) ({ frames := 1, cells := 0, slots := 0, locals := 21 }) [.ref h0, .int (xk), .int (xi), .int (xq)] [(h0, .inr (0, [.ref wq0, .int (nI mc), .ref fw, .ref oa, .ref sn, .ref rc])), (oa, .inr (1, [.ref oi, .ref oq, .int (nI ac)])), (oi, .inl (tc 1, 520, .inl ww.1)), (oq, .inl (tc 1, 520, .inl ww.2))] (fun _ : Unit => True) (fun _ : Unit => nI 0) (fun _ : Unit => [(h0, .inr (0, [.ref wq0, .int (nI mc), .ref fw, .ref oa, .ref sn, .ref rc])), (oa, .inr (1, [.ref oi, .ref oq, .int (nI ac)])), (oi, .inl (tc 1, 520, .inl ww.1)), (oq, .inl (tc 1, 520, .inl ww.2))]) := by
  refine Mi.go (by decide) (Nat.le_of_ble_eq_true rfl) ?_
  intro p e s m below meth c A ls R args Q C
  obtain ⟨hx, hb, hr, hts, hown, hlk, hml, hin, hA, hST, hN, hK, hP, hD, hS, hl, hR, hQ⟩ := C
  have hw : ∀ w ∈ lw_g, w.before args s = true := fun w h => hts w (List.mem_cons_of_mem _ h)
  have hl : lv_has ls 4 [(0, .ref h0), (1, .int (xk)), (2, .int (xi)), (3, .int (xq))] := hl
  refine lv_aload_n hx hb d_CL_disturb_0 rfl (lv_at hl 0 rfl) ?_
  refine k_get hx hb hw uw_CL hown hK hP 0 rfl rfl 3 (by decide) (hw _ wd_254) rfl d_CL_disturb_1 ?_
  refine lv_iload_n hx hb d_CL_disturb_4 rfl (lv_at hl 1 rfl) ?_
  refine k_calli (wr := [(h0, .inr (0, [.ref wq0, .int (nI mc), .ref fw, .ref oa, .ref sn, .ref rc]))]) (k_runV (As := [.int (xk)]) (rest := []) (wc := [(oa, .inr (1, [.ref oi, .ref oq, .int (nI ac)])), (oi, .inl (tc 1, 520, .inl ww.1)), (oq, .inl (tc 1, 520, .inl ww.2))]) ⟨hx, hb, hml, hown, hts⟩ (c_WA_has l D tc tb oa oi oq ac 520 ww.1 ww.2 xk  s.heap.size) (cwV 1 hts (k_goodV wd_289 wd_290 wd_291 wd_2 wd_292) rfl rfl rfl ⟨rfl, hd_WA_has⟩ ⟨by rw [hR]; exact Nat.le_of_ble_eq_true rfl, by rw [hR]; exact Nat.le_of_ble_eq_true rfl⟩) hK hP hD hS hST hN hA [1, 2, 3] (by decide) rfl 1 rfl rfl rfl rfl hl.1 rfl (Nat.le_of_ble_eq_true rfl) d_CL_disturb_5 ⟨by rw [hR]; exact Nat.le_of_ble_eq_true rfl, by rw [hR]; exact Nat.le_of_ble_eq_true rfl⟩) hP hD hS hA [1, 2, 3] [0] rfl rfl (by decide) (by decide) (fun _ H locs hp5 hP hD hS => ?_)
  have hP : va_P D classes [(h0, .inr (0, [.ref wq0, .int (nI mc), .ref fw, .ref oa, .ref sn, .ref rc])), (oa, .inr (1, [.ref oi, .ref oq, .int (nI ac)])), (oi, .inl (tc 1, 520, .inl ww.1)), (oq, .inl (tc 1, 520, .inl ww.2))] H := hP
  have hD : va_D A [(h0, .inr (0, [.ref wq0, .int (nI mc), .ref fw, .ref oa, .ref sn, .ref rc])), (oa, .inr (1, [.ref oi, .ref oq, .int (nI ac)])), (oi, .inl (tc 1, 520, .inl ww.1)), (oq, .inl (tc 1, 520, .inl ww.2))] := hD
  refine W.widen (k := 0) (n := 0) (Nat.le_of_ble_eq_true rfl) (Nat.le_of_ble_eq_true rfl) ?_
  refine W.eq (g2 := F0 m 8 ls [.int (hasF xk ac)]) rfl ?_
  refine lv_if_ne (tgt := 13) hx hb d_CL_disturb_8 (by decide) (fun h8 => ?_) (fun h8 => ?_)
  · exact absurd hbad h8
  · refine lv_iconst (v := nI 0) hx hb d_CL_disturb_11 (by decide) ?_
    rw [hQ]
    exact k_zret () hx hb hr hlk hK hP hD hS [0, 1, 2, 3] (by decide) rfl trivial rfl rfl d_CL_disturb_12
set_option maxHeartbeats 4000000 in
set_option maxRecDepth 100000 in
theorem c_CL_disturb_ok (l : Launch) (D : va_G) (tc : Nat → ClassId) (tb : Nat → Nat) (h0 : Nat) (wq0 : Nat) (fw : Nat) (oa : Nat) (sn : Nat) (rc : Nat) (mc : Nat) (oi : Nat) (oq : Nat) (ac : Nat) (ww : RP) (k : Nat) (xi : Int32) (xq : Int32) (hk : k < ac) (hac : ac ≤ 520) : Mi l D tc tb y_CL_disturb prog_1_method_8_code 4 (some .boolean) ({ frames := 3, cells := 0, slots := 0, locals := 61 }) [.ref h0, .int (nI k), .int (xi), .int (xq)] [(h0, .inr (0, [.ref wq0, .int (nI mc), .ref fw, .ref oa, .ref sn, .ref rc])), (oa, .inr (1, [.ref oi, .ref oq, .int (nI ac)])), (oi, .inl (tc 1, 520, .inl ww.1)), (oq, .inl (tc 1, 520, .inl ww.2))] (fun _ : Unit => True) (fun _ : Unit => nI 1) (fun _ : Unit => [(h0, .inr (0, [.ref wq0, .int (nI mc), .ref fw, .ref oa, .ref sn, .ref rc])), (oa, .inr (1, [.ref oi, .ref oq, .int (nI ac)])), (oi, .inl (tc 1, 520, .inl (upd ww.1 k (satF (ww.1 k + xi))))), (oq, .inl (tc 1, 520, .inl (upd ww.2 k (satF (ww.2 k + xq)))))]) := by
  refine Mi.go (by decide) (Nat.le_of_ble_eq_true rfl) ?_
  intro p e s m below meth c A ls R args Q C
  obtain ⟨hx, hb, hr, hts, hown, hlk, hml, hin, hA, hST, hN, hK, hP, hD, hS, hl, hR, hQ⟩ := C
  have hw : ∀ w ∈ lw_g, w.before args s = true := fun w h => hts w (List.mem_cons_of_mem _ h)
  have hl : lv_has ls 4 [(0, .ref h0), (1, .int (nI k)), (2, .int (xi)), (3, .int (xq))] := hl
  refine lv_aload_n hx hb d_CL_disturb_0 rfl (lv_at hl 0 rfl) ?_
  refine k_get hx hb hw uw_CL hown hK hP 0 rfl rfl 3 (by decide) (hw _ wd_254) rfl d_CL_disturb_1 ?_
  refine lv_iload_n hx hb d_CL_disturb_4 rfl (lv_at hl 1 rfl) ?_
  refine k_calli (wr := [(h0, .inr (0, [.ref wq0, .int (nI mc), .ref fw, .ref oa, .ref sn, .ref rc]))]) (k_runV (As := [.int (nI k)]) (rest := []) (wc := [(oa, .inr (1, [.ref oi, .ref oq, .int (nI ac)])), (oi, .inl (tc 1, 520, .inl ww.1)), (oq, .inl (tc 1, 520, .inl ww.2))]) ⟨hx, hb, hml, hown, hts⟩ (c_WA_has l D tc tb oa oi oq ac 520 ww.1 ww.2 (nI k)  s.heap.size) (cwV 1 hts (k_goodV wd_289 wd_290 wd_291 wd_2 wd_292) rfl rfl rfl ⟨rfl, hd_WA_has⟩ ⟨by rw [hR]; exact Nat.le_of_ble_eq_true rfl, by rw [hR]; exact Nat.le_of_ble_eq_true rfl⟩) hK hP hD hS hST hN hA [1, 2, 3] (by decide) rfl 1 rfl rfl rfl rfl hl.1 rfl (Nat.le_of_ble_eq_true rfl) d_CL_disturb_5 ⟨by rw [hR]; exact Nat.le_of_ble_eq_true rfl, by rw [hR]; exact Nat.le_of_ble_eq_true rfl⟩) hP hD hS hA [1, 2, 3] [0] rfl rfl (by decide) (by decide) (fun _ H locs hp5 hP hD hS => ?_)
  have hP : va_P D classes [(h0, .inr (0, [.ref wq0, .int (nI mc), .ref fw, .ref oa, .ref sn, .ref rc])), (oa, .inr (1, [.ref oi, .ref oq, .int (nI ac)])), (oi, .inl (tc 1, 520, .inl ww.1)), (oq, .inl (tc 1, 520, .inl ww.2))] H := hP
  have hD : va_D A [(h0, .inr (0, [.ref wq0, .int (nI mc), .ref fw, .ref oa, .ref sn, .ref rc])), (oa, .inr (1, [.ref oi, .ref oq, .int (nI ac)])), (oi, .inl (tc 1, 520, .inl ww.1)), (oq, .inl (tc 1, 520, .inl ww.2))] := hD
  refine W.widen (k := 0) (n := 0) (Nat.le_of_ble_eq_true rfl) (Nat.le_of_ble_eq_true rfl) ?_
  refine W.eq (g2 := F0 m 8 ls [.int (hasF (nI k) ac)]) rfl ?_
  refine lv_if_ne (tgt := 13) hx hb d_CL_disturb_8 (by decide) (fun h8 => ?_) (fun h8 => ?_)
  · refine lv_aload_n hx hb d_CL_disturb_13 rfl (lv_at hl 0 rfl) ?_
    refine k_get hx hb hw uw_CL hown hK hP 0 rfl rfl 3 (by decide) (hw _ wd_254) rfl d_CL_disturb_14 ?_
    refine lv_iload_n hx hb d_CL_disturb_17 rfl (lv_at hl 1 rfl) ?_
    refine lv_iload_n hx hb d_CL_disturb_18 rfl (lv_at hl 2 rfl) ?_
    refine lv_iload_n hx hb d_CL_disturb_19 rfl (lv_at hl 3 rfl) ?_
    refine k_callv (wr := [(h0, .inr (0, [.ref wq0, .int (nI mc), .ref fw, .ref oa, .ref sn, .ref rc]))]) (k_runV (As := [.int (nI k), .int (xi), .int (xq)]) (rest := []) (wc := [(oa, .inr (1, [.ref oi, .ref oq, .int (nI ac)])), (oi, .inl (tc 1, 520, .inl ww.1)), (oq, .inl (tc 1, 520, .inl ww.2))]) ⟨hx, hb, hml, hown, hts⟩ (c_WA_addTo l D tc tb oa oi oq ac 520 ww.1 ww.2 k xi xq (by omega) (by omega) H.size) (cwV 3 hts (k_goodV wd_293 wd_294 wd_295 wd_2 wd_296) rfl rfl rfl ⟨rfl, hd_WA_addTo⟩ ⟨by rw [hR]; exact Nat.le_of_ble_eq_true rfl, by rw [hR]; exact Nat.le_of_ble_eq_true rfl⟩) hK hP hD hS hST hN hA [1, 2, 3] (by decide) rfl 1 rfl rfl rfl rfl hl.1 rfl (Nat.le_of_ble_eq_true rfl) d_CL_disturb_20 ⟨by rw [hR]; exact Nat.le_of_ble_eq_true rfl, by rw [hR]; exact Nat.le_of_ble_eq_true rfl⟩) hP hD hS hA [1, 2, 3] [0] rfl rfl (by decide) (by decide) (fun _ H locs hp20 hP hD hS => ?_)
    have hP : va_P D classes [(h0, .inr (0, [.ref wq0, .int (nI mc), .ref fw, .ref oa, .ref sn, .ref rc])), (oa, .inr (1, [.ref oi, .ref oq, .int (nI ac)])), (oi, .inl (tc 1, 520, .inl (upd ww.1 k (satF (ww.1 k + xi))))), (oq, .inl (tc 1, 520, .inl (upd ww.2 k (satF (ww.2 k + xq)))))] H := hP
    have hD : va_D A [(h0, .inr (0, [.ref wq0, .int (nI mc), .ref fw, .ref oa, .ref sn, .ref rc])), (oa, .inr (1, [.ref oi, .ref oq, .int (nI ac)])), (oi, .inl (tc 1, 520, .inl (upd ww.1 k (satF (ww.1 k + xi))))), (oq, .inl (tc 1, 520, .inl (upd ww.2 k (satF (ww.2 k + xq)))))] := hD
    refine W.widen (k := 0) (n := 0) (Nat.le_of_ble_eq_true rfl) (Nat.le_of_ble_eq_true rfl) ?_
    refine W.eq (g2 := F0 m 23 ls []) rfl ?_
    refine lv_iconst (v := nI 1) hx hb d_CL_disturb_23 (by decide) ?_
    rw [hQ]
    exact k_zret () hx hb hr hlk hK hP hD hS [0, 1, 2, 3] (by decide) rfl trivial rfl rfl d_CL_disturb_24
  · exact absurd h8 (has_ok hk (by omega))
set_option maxHeartbeats 4000000 in
set_option maxRecDepth 100000 in
theorem c_MO_disturb_no (l : Launch) (D : va_G) (tc : Nat → ClassId) (tb : Nat → Nat) (h0 : Nat) (nby : Nat) (ndb : Nat) (ncb : Nat) (nfr : Nat) (nsy : Nat) (nai : Nat) (xth : Int32) (xra : Int32) (xas : Int32) (xan : Int32) (xst : Int32) (xhr : Int32) (xhb : Int32) (xse : Int32) (xbe : Int32) (xrg : Int32) (a1 : Nat) (a2 : Nat) (a3 : Nat) (a4 : Nat) (a5 : Nat) (a6 : Nat) (a7 : Nat) (a8 : Nat) (a9 : Nat) (b1 : Nat) (b2 : Nat) (b3 : Nat) (b4 : Nat) (b5 : Nat) (b6 : Nat) (b7 : Nat) (b8 : Nat) (c1 : Nat) (c2 : Nat) (c3 : Nat) (c4 : Nat) (c5 : Nat) (c6 : Nat) (c7 : Nat) (xk : Int32) (xi : Int32) (xq : Int32) (hbad : xk < 0 ∨ ¬ xk < nI nai) : Mi l D tc tb y_MO_disturb prog_10_method_28_code 4 (some .boolean) ({ frames := 0, cells := 0, slots := 0, locals := 0 }) [.ref h0, .int (xk), .int (xi), .int (xq)] [(h0, .inr (8, [.int (xth), .int (nI nby), .ref a1, .int (xra), .int (nI ndb), .ref a2, .int (nI ncb), .ref a3, .ref a4, .int (nI nfr), .ref a5, .ref a6, .int (nI nsy), .int (nI nai), .ref a7, .ref a8, .int (xas), .int (xan), .int (xst), .int (xhr), .int (xhb), .int (xse), .int (xbe), .ref a9, .ref b1, .ref b2, .ref b3, .ref b4, .ref b5, .ref b6, .ref b7, .ref b8, .ref c1, .ref c2, .ref c3, .ref c4, .ref c5, .ref c6, .ref c7, .int (xrg)]))] (fun _ : Unit => True) (fun _ : Unit => nI 0) (fun _ : Unit => [(h0, .inr (8, [.int (nI 0), .int (nI nby), .ref a1, .int (xra), .int (nI ndb), .ref a2, .int (nI ncb), .ref a3, .ref a4, .int (nI nfr), .ref a5, .ref a6, .int (nI nsy), .int (nI nai), .ref a7, .ref a8, .int (xas), .int (xan), .int (xst), .int (xhr), .int (xhb), .int (xse), .int (xbe), .ref a9, .ref b1, .ref b2, .ref b3, .ref b4, .ref b5, .ref b6, .ref b7, .ref b8, .ref c1, .ref c2, .ref c3, .ref c4, .ref c5, .ref c6, .ref c7, .int (xrg)]))]) := by
  refine Mi.go (by decide) (Nat.le_of_ble_eq_true rfl) ?_
  intro p e s m below meth c A ls R args Q C
  obtain ⟨hx, hb, hr, hts, hown, hlk, hml, hin, hA, hST, hN, hK, hP, hD, hS, hl, hR, hQ⟩ := C
  have hw : ∀ w ∈ lw_g, w.before args s = true := fun w h => hts w (List.mem_cons_of_mem _ h)
  have hl : lv_has ls 4 [(0, .ref h0), (1, .int (xk)), (2, .int (xi)), (3, .int (xq))] := hl
  refine lv_aload_n hx hb d_MO_disturb_0 rfl (lv_at hl 0 rfl) ?_
  refine lv_iconst (v := nI 0) hx hb d_MO_disturb_1 (by decide) ?_
  refine k_put (ws' := [(h0, .inr (8, [.int (nI 0), .int (nI nby), .ref a1, .int (xra), .int (nI ndb), .ref a2, .int (nI ncb), .ref a3, .ref a4, .int (nI nfr), .ref a5, .ref a6, .int (nI nsy), .int (nI nai), .ref a7, .ref a8, .int (xas), .int (xan), .int (xst), .int (xhr), .int (xhb), .int (xse), .int (xbe), .ref a9, .ref b1, .ref b2, .ref b3, .ref b4, .ref b5, .ref b6, .ref b7, .ref b8, .ref c1, .ref c2, .ref c3, .ref c4, .ref c5, .ref c6, .ref c7, .int (xrg)]))]) hx hb hw uw_MO tok_MO nn_MO hown hK hP hD hS 0 rfl rfl 0 (by decide) (hw _ wd_714) rfl rfl rfl (Nat.le_of_ble_eq_true rfl) d_MO_disturb_2 rfl (fun H locs hP hD hS => ?_)
  refine lv_iload_n hx hb d_MO_disturb_5 rfl (lv_at hl 1 rfl) ?_
  refine lv_if_lt (tgt := 17) hx hb d_MO_disturb_6 (by decide) (fun h6 => ?_) (fun h6 => ?_)
  · refine lv_iconst (v := nI 0) hx hb d_MO_disturb_17 (by decide) ?_
    rw [hQ]
    exact k_zret () hx hb hr hlk hK hP hD hS [0] (by decide) rfl trivial rfl rfl d_MO_disturb_18
  · refine lv_iload_n hx hb d_MO_disturb_9 rfl (lv_at hl 1 rfl) ?_
    refine lv_aload_n hx hb d_MO_disturb_10 rfl (lv_at hl 0 rfl) ?_
    refine k_get hx hb hw uw_MO hown hK hP 0 rfl rfl 13 (by decide) (hw _ wd_727) rfl d_MO_disturb_11 ?_
    refine lv_icmp_lt (tgt := 19) hx hb d_MO_disturb_14 (by decide) (fun h14 => ?_) (fun h14 => ?_)
    · exact False.elim (hbad.elim h6 (fun q9 => q9 h14))
    · refine lv_iconst (v := nI 0) hx hb d_MO_disturb_17 (by decide) ?_
      rw [hQ]
      exact k_zret () hx hb hr hlk hK hP hD hS [0] (by decide) rfl trivial rfl rfl d_MO_disturb_18
set_option maxHeartbeats 4000000 in
set_option maxRecDepth 100000 in
theorem c_MO_disturb_ok (l : Launch) (D : va_G) (tc : Nat → ClassId) (tb : Nat → Nat) (h0 : Nat) (nby : Nat) (ndb : Nat) (ncb : Nat) (nfr : Nat) (nsy : Nat) (nai : Nat) (xth : Int32) (xra : Int32) (xas : Int32) (xan : Int32) (xst : Int32) (xhr : Int32) (xhb : Int32) (xse : Int32) (xbe : Int32) (xrg : Int32) (a1 : Nat) (a2 : Nat) (a3 : Nat) (a4 : Nat) (a5 : Nat) (a6 : Nat) (a7 : Nat) (a8 : Nat) (a9 : Nat) (b1 : Nat) (b2 : Nat) (b3 : Nat) (b4 : Nat) (b5 : Nat) (b6 : Nat) (b7 : Nat) (b8 : Nat) (c1 : Nat) (c2 : Nat) (c3 : Nat) (c4 : Nat) (c5 : Nat) (c6 : Nat) (c7 : Nat) (ww : RP) (k : Nat) (xi : Int32) (xq : Int32) (hk : k < nai) (hac : nai ≤ 560) : Mi l D tc tb y_MO_disturb prog_10_method_28_code 4 (some .boolean) ({ frames := 1, cells := 0, slots := 0, locals := 20 }) [.ref h0, .int (nI k), .int (xi), .int (xq)] [(h0, .inr (8, [.int (xth), .int (nI nby), .ref a1, .int (xra), .int (nI ndb), .ref a2, .int (nI ncb), .ref a3, .ref a4, .int (nI nfr), .ref a5, .ref a6, .int (nI nsy), .int (nI nai), .ref a7, .ref a8, .int (xas), .int (xan), .int (xst), .int (xhr), .int (xhb), .int (xse), .int (xbe), .ref a9, .ref b1, .ref b2, .ref b3, .ref b4, .ref b5, .ref b6, .ref b7, .ref b8, .ref c1, .ref c2, .ref c3, .ref c4, .ref c5, .ref c6, .ref c7, .int (xrg)])), (a7, .inl (tc 0, 560, .inl ww.1)), (a8, .inl (tc 0, 560, .inl ww.2))] (fun _ : Unit => True) (fun _ : Unit => nI 1) (fun _ : Unit => [(h0, .inr (8, [.int (nI 0), .int (nI nby), .ref a1, .int (xra), .int (nI ndb), .ref a2, .int (nI ncb), .ref a3, .ref a4, .int (nI nfr), .ref a5, .ref a6, .int (nI nsy), .int (nI nai), .ref a7, .ref a8, .int (xas), .int (xan), .int (xst), .int (xhr), .int (xhb), .int (xse), .int (xbe), .ref a9, .ref b1, .ref b2, .ref b3, .ref b4, .ref b5, .ref b6, .ref b7, .ref b8, .ref c1, .ref c2, .ref c3, .ref c4, .ref c5, .ref c6, .ref c7, .int (xrg)])), (a7, .inl (tc 0, 560, .inl (upd ww.1 k (satF (ww.1 k + xi))))), (a8, .inl (tc 0, 560, .inl (upd ww.2 k (satF (ww.2 k + xq)))))]) := by
  refine Mi.go (by decide) (Nat.le_of_ble_eq_true rfl) ?_
  intro p e s m below meth c A ls R args Q C
  obtain ⟨hx, hb, hr, hts, hown, hlk, hml, hin, hA, hST, hN, hK, hP, hD, hS, hl, hR, hQ⟩ := C
  have hw : ∀ w ∈ lw_g, w.before args s = true := fun w h => hts w (List.mem_cons_of_mem _ h)
  have hl : lv_has ls 4 [(0, .ref h0), (1, .int (nI k)), (2, .int (xi)), (3, .int (xq))] := hl
  refine lv_aload_n hx hb d_MO_disturb_0 rfl (lv_at hl 0 rfl) ?_
  refine lv_iconst (v := nI 0) hx hb d_MO_disturb_1 (by decide) ?_
  refine k_put (ws' := [(h0, .inr (8, [.int (nI 0), .int (nI nby), .ref a1, .int (xra), .int (nI ndb), .ref a2, .int (nI ncb), .ref a3, .ref a4, .int (nI nfr), .ref a5, .ref a6, .int (nI nsy), .int (nI nai), .ref a7, .ref a8, .int (xas), .int (xan), .int (xst), .int (xhr), .int (xhb), .int (xse), .int (xbe), .ref a9, .ref b1, .ref b2, .ref b3, .ref b4, .ref b5, .ref b6, .ref b7, .ref b8, .ref c1, .ref c2, .ref c3, .ref c4, .ref c5, .ref c6, .ref c7, .int (xrg)])), (a7, .inl (tc 0, 560, .inl ww.1)), (a8, .inl (tc 0, 560, .inl ww.2))]) hx hb hw uw_MO tok_MO nn_MO hown hK hP hD hS 0 rfl rfl 0 (by decide) (hw _ wd_714) rfl rfl rfl (Nat.le_of_ble_eq_true rfl) d_MO_disturb_2 rfl (fun H locs hP hD hS => ?_)
  refine lv_iload_n hx hb d_MO_disturb_5 rfl (lv_at hl 1 rfl) ?_
  refine lv_if_lt (tgt := 17) hx hb d_MO_disturb_6 (by decide) (fun h6 => ?_) (fun h6 => ?_)
  · exact absurd h6 (nI_pos (by omega))
  · refine lv_iload_n hx hb d_MO_disturb_9 rfl (lv_at hl 1 rfl) ?_
    refine lv_aload_n hx hb d_MO_disturb_10 rfl (lv_at hl 0 rfl) ?_
    refine k_get hx hb hw uw_MO hown hK hP 0 rfl rfl 13 (by decide) (hw _ wd_727) rfl d_MO_disturb_11 ?_
    refine k_icmp_lt (tgt := 19) hx hb d_MO_disturb_14 (by decide) (by omega) (by omega) (fun h14 => ?_) (fun h14 => ?_)
    · refine lv_aload_n hx hb d_MO_disturb_19 rfl (lv_at hl 0 rfl) ?_
      refine k_get hx hb hw uw_MO hown hK hP 0 rfl rfl 14 (by decide) (hw _ wd_728) rfl d_MO_disturb_20 ?_
      refine lv_iload_n hx hb d_MO_disturb_23 rfl (lv_at hl 1 rfl) ?_
      refine lv_aload_n hx hb d_MO_disturb_24 rfl (lv_at hl 0 rfl) ?_
      refine k_get hx hb hw uw_MO hown hK hP 0 rfl rfl 14 (by decide) (hw _ wd_728) rfl d_MO_disturb_25 ?_
      refine lv_iload_n hx hb d_MO_disturb_28 rfl (lv_at hl 1 rfl) ?_
      refine k_iald hx hb hK hP 1 0 rfl rfl (by omega) (by omega) d_MO_disturb_29 ?_
      refine lv_iload_n hx hb d_MO_disturb_30 rfl (lv_at hl 2 rfl) ?_
      refine lv_iadd hx hb d_MO_disturb_31 ?_
      refine k_calli (wr := [(h0, .inr (8, [.int (nI 0), .int (nI nby), .ref a1, .int (xra), .int (nI ndb), .ref a2, .int (nI ncb), .ref a3, .ref a4, .int (nI nfr), .ref a5, .ref a6, .int (nI nsy), .int (nI nai), .ref a7, .ref a8, .int (xas), .int (xan), .int (xst), .int (xhr), .int (xhb), .int (xse), .int (xbe), .ref a9, .ref b1, .ref b2, .ref b3, .ref b4, .ref b5, .ref b6, .ref b7, .ref b8, .ref c1, .ref c2, .ref c3, .ref c4, .ref c5, .ref c6, .ref c7, .int (xrg)])), (a7, .inl (tc 0, 560, .inl ww.1)), (a8, .inl (tc 0, 560, .inl ww.2))]) (k_runS (As := [.int ((ww.1 k) + xi)]) (rest := [.int (nI k), .ref a7]) (wc := []) ⟨hx, hb, hml, hown, hts⟩ (c_MO_saturate l D tc tb ((ww.1 k) + xi)  H.size) (va_cwS 1 hts (k_goodS wd_856 wd_857 wd_11 wd_858) rfl rfl rfl hd_MO_saturate ⟨by rw [hR]; exact Nat.le_of_ble_eq_true rfl, by rw [hR]; exact Nat.le_of_ble_eq_true rfl⟩) hK hP hD hS hST hN hA [] (by decide) rfl rfl hl.1 rfl (Nat.le_of_ble_eq_true rfl) d_MO_disturb_32 ⟨by rw [hR]; exact Nat.le_of_ble_eq_true rfl, by rw [hR]; exact Nat.le_of_ble_eq_true rfl⟩) hP hD hS hA [] [0, 1, 2] rfl rfl (by decide) (by decide) (fun _ H locs hp32 hP hD hS => ?_)
      have hP : va_P D classes [(h0, .inr (8, [.int (nI 0), .int (nI nby), .ref a1, .int (xra), .int (nI ndb), .ref a2, .int (nI ncb), .ref a3, .ref a4, .int (nI nfr), .ref a5, .ref a6, .int (nI nsy), .int (nI nai), .ref a7, .ref a8, .int (xas), .int (xan), .int (xst), .int (xhr), .int (xhb), .int (xse), .int (xbe), .ref a9, .ref b1, .ref b2, .ref b3, .ref b4, .ref b5, .ref b6, .ref b7, .ref b8, .ref c1, .ref c2, .ref c3, .ref c4, .ref c5, .ref c6, .ref c7, .int (xrg)])), (a7, .inl (tc 0, 560, .inl ww.1)), (a8, .inl (tc 0, 560, .inl ww.2))] H := hP
      have hD : va_D A [(h0, .inr (8, [.int (nI 0), .int (nI nby), .ref a1, .int (xra), .int (nI ndb), .ref a2, .int (nI ncb), .ref a3, .ref a4, .int (nI nfr), .ref a5, .ref a6, .int (nI nsy), .int (nI nai), .ref a7, .ref a8, .int (xas), .int (xan), .int (xst), .int (xhr), .int (xhb), .int (xse), .int (xbe), .ref a9, .ref b1, .ref b2, .ref b3, .ref b4, .ref b5, .ref b6, .ref b7, .ref b8, .ref c1, .ref c2, .ref c3, .ref c4, .ref c5, .ref c6, .ref c7, .int (xrg)])), (a7, .inl (tc 0, 560, .inl ww.1)), (a8, .inl (tc 0, 560, .inl ww.2))] := hD
      refine W.widen (k := 0) (n := 0) (Nat.le_of_ble_eq_true rfl) (Nat.le_of_ble_eq_true rfl) ?_
      refine W.eq (g2 := F0 m 35 ls [.int (satF ((ww.1 k) + xi)), .int (nI k), .ref a7]) rfl ?_
      refine k_iast (ws' := [(h0, .inr (8, [.int (nI 0), .int (nI nby), .ref a1, .int (xra), .int (nI ndb), .ref a2, .int (nI ncb), .ref a3, .ref a4, .int (nI nfr), .ref a5, .ref a6, .int (nI nsy), .int (nI nai), .ref a7, .ref a8, .int (xas), .int (xan), .int (xst), .int (xhr), .int (xhb), .int (xse), .int (xbe), .ref a9, .ref b1, .ref b2, .ref b3, .ref b4, .ref b5, .ref b6, .ref b7, .ref b8, .ref c1, .ref c2, .ref c3, .ref c4, .ref c5, .ref c6, .ref c7, .int (xrg)])), (a7, .inl (tc 0, 560, .inl (upd ww.1 k (satF ((ww.1 k) + xi))))), (a8, .inl (tc 0, 560, .inl ww.2))]) hx hb hK hP hD hS 1 0 rfl rfl (by omega) (by omega) d_MO_disturb_35 rfl (fun H locs hP hD hS => ?_)
      refine lv_aload_n hx hb d_MO_disturb_36 rfl (lv_at hl 0 rfl) ?_
      refine k_get hx hb hw uw_MO hown hK hP 0 rfl rfl 15 (by decide) (hw _ wd_729) rfl d_MO_disturb_37 ?_
      refine lv_iload_n hx hb d_MO_disturb_40 rfl (lv_at hl 1 rfl) ?_
      refine lv_aload_n hx hb d_MO_disturb_41 rfl (lv_at hl 0 rfl) ?_
      refine k_get hx hb hw uw_MO hown hK hP 0 rfl rfl 15 (by decide) (hw _ wd_729) rfl d_MO_disturb_42 ?_
      refine lv_iload_n hx hb d_MO_disturb_45 rfl (lv_at hl 1 rfl) ?_
      refine k_iald hx hb hK hP 2 0 rfl rfl (by omega) (by omega) d_MO_disturb_46 ?_
      refine lv_iload_n hx hb d_MO_disturb_47 rfl (lv_at hl 3 rfl) ?_
      refine lv_iadd hx hb d_MO_disturb_48 ?_
      refine k_calli (wr := [(h0, .inr (8, [.int (nI 0), .int (nI nby), .ref a1, .int (xra), .int (nI ndb), .ref a2, .int (nI ncb), .ref a3, .ref a4, .int (nI nfr), .ref a5, .ref a6, .int (nI nsy), .int (nI nai), .ref a7, .ref a8, .int (xas), .int (xan), .int (xst), .int (xhr), .int (xhb), .int (xse), .int (xbe), .ref a9, .ref b1, .ref b2, .ref b3, .ref b4, .ref b5, .ref b6, .ref b7, .ref b8, .ref c1, .ref c2, .ref c3, .ref c4, .ref c5, .ref c6, .ref c7, .int (xrg)])), (a7, .inl (tc 0, 560, .inl (upd ww.1 k (satF ((ww.1 k) + xi))))), (a8, .inl (tc 0, 560, .inl ww.2))]) (k_runS (As := [.int ((ww.2 k) + xq)]) (rest := [.int (nI k), .ref a8]) (wc := []) ⟨hx, hb, hml, hown, hts⟩ (c_MO_saturate l D tc tb ((ww.2 k) + xq)  H.size) (va_cwS 1 hts (k_goodS wd_856 wd_857 wd_11 wd_858) rfl rfl rfl hd_MO_saturate ⟨by rw [hR]; exact Nat.le_of_ble_eq_true rfl, by rw [hR]; exact Nat.le_of_ble_eq_true rfl⟩) hK hP hD hS hST hN hA [] (by decide) rfl rfl hl.1 rfl (Nat.le_of_ble_eq_true rfl) d_MO_disturb_49 ⟨by rw [hR]; exact Nat.le_of_ble_eq_true rfl, by rw [hR]; exact Nat.le_of_ble_eq_true rfl⟩) hP hD hS hA [] [0, 1, 2] rfl rfl (by decide) (by decide) (fun _ H locs hp49 hP hD hS => ?_)
      have hP : va_P D classes [(h0, .inr (8, [.int (nI 0), .int (nI nby), .ref a1, .int (xra), .int (nI ndb), .ref a2, .int (nI ncb), .ref a3, .ref a4, .int (nI nfr), .ref a5, .ref a6, .int (nI nsy), .int (nI nai), .ref a7, .ref a8, .int (xas), .int (xan), .int (xst), .int (xhr), .int (xhb), .int (xse), .int (xbe), .ref a9, .ref b1, .ref b2, .ref b3, .ref b4, .ref b5, .ref b6, .ref b7, .ref b8, .ref c1, .ref c2, .ref c3, .ref c4, .ref c5, .ref c6, .ref c7, .int (xrg)])), (a7, .inl (tc 0, 560, .inl (upd ww.1 k (satF ((ww.1 k) + xi))))), (a8, .inl (tc 0, 560, .inl ww.2))] H := hP
      have hD : va_D A [(h0, .inr (8, [.int (nI 0), .int (nI nby), .ref a1, .int (xra), .int (nI ndb), .ref a2, .int (nI ncb), .ref a3, .ref a4, .int (nI nfr), .ref a5, .ref a6, .int (nI nsy), .int (nI nai), .ref a7, .ref a8, .int (xas), .int (xan), .int (xst), .int (xhr), .int (xhb), .int (xse), .int (xbe), .ref a9, .ref b1, .ref b2, .ref b3, .ref b4, .ref b5, .ref b6, .ref b7, .ref b8, .ref c1, .ref c2, .ref c3, .ref c4, .ref c5, .ref c6, .ref c7, .int (xrg)])), (a7, .inl (tc 0, 560, .inl (upd ww.1 k (satF ((ww.1 k) + xi))))), (a8, .inl (tc 0, 560, .inl ww.2))] := hD
      refine W.widen (k := 0) (n := 0) (Nat.le_of_ble_eq_true rfl) (Nat.le_of_ble_eq_true rfl) ?_
      refine W.eq (g2 := F0 m 52 ls [.int (satF ((ww.2 k) + xq)), .int (nI k), .ref a8]) rfl ?_
      refine k_iast (ws' := [(h0, .inr (8, [.int (nI 0), .int (nI nby), .ref a1, .int (xra), .int (nI ndb), .ref a2, .int (nI ncb), .ref a3, .ref a4, .int (nI nfr), .ref a5, .ref a6, .int (nI nsy), .int (nI nai), .ref a7, .ref a8, .int (xas), .int (xan), .int (xst), .int (xhr), .int (xhb), .int (xse), .int (xbe), .ref a9, .ref b1, .ref b2, .ref b3, .ref b4, .ref b5, .ref b6, .ref b7, .ref b8, .ref c1, .ref c2, .ref c3, .ref c4, .ref c5, .ref c6, .ref c7, .int (xrg)])), (a7, .inl (tc 0, 560, .inl (upd ww.1 k (satF ((ww.1 k) + xi))))), (a8, .inl (tc 0, 560, .inl (upd ww.2 k (satF ((ww.2 k) + xq)))))]) hx hb hK hP hD hS 2 0 rfl rfl (by omega) (by omega) d_MO_disturb_52 rfl (fun H locs hP hD hS => ?_)
      refine lv_iconst (v := nI 1) hx hb d_MO_disturb_53 (by decide) ?_
      rw [hQ]
      exact k_zret () hx hb hr hlk hK hP hD hS [0, 1, 2] (by decide) rfl trivial rfl rfl d_MO_disturb_54
    · exfalso; omega
set_option maxHeartbeats 4000000 in
set_option maxRecDepth 100000 in
theorem c_CL_stir_no (l : Launch) (D : va_G) (tc : Nat → ClassId) (tb : Nat → Nat) (h0 : Nat) (wq0 : Nat) (fw : Nat) (oa : Nat) (sn : Nat) (rc : Nat) (mc : Nat) (oi : Nat) (oq : Nat) (ac : Nat) (ww : RP) (xa : Int32) (xs : Int32) (hbad : xa < 0 ∨ nI 2000 < xa ∨ ac = 0) (hac : ac ≤ 520) : Mi l D tc tb y_CL_stir prog_1_method_9_code 6 (some .boolean) ({ frames := 0, cells := 0, slots := 0, locals := 0 }) [.ref h0, .int (xa), .int (xs)] [(h0, .inr (0, [.ref wq0, .int (nI mc), .ref fw, .ref oa, .ref sn, .ref rc])), (oa, .inr (1, [.ref oi, .ref oq, .int (nI ac)])), (oi, .inl (tc 1, 520, .inl ww.1)), (oq, .inl (tc 1, 520, .inl ww.2))] (fun _ : Unit => True) (fun _ : Unit => nI 0) (fun _ : Unit => [(h0, .inr (0, [.ref wq0, .int (nI mc), .ref fw, .ref oa, .ref sn, .ref rc])), (oa, .inr (1, [.ref oi, .ref oq, .int (nI ac)])), (oi, .inl (tc 1, 520, .inl ww.1)), (oq, .inl (tc 1, 520, .inl ww.2))]) := by
  refine Mi.go (by decide) (Nat.le_of_ble_eq_true rfl) ?_
  intro p e s m below meth c A ls R args Q C
  obtain ⟨hx, hb, hr, hts, hown, hlk, hml, hin, hA, hST, hN, hK, hP, hD, hS, hl, hR, hQ⟩ := C
  have hw : ∀ w ∈ lw_g, w.before args s = true := fun w h => hts w (List.mem_cons_of_mem _ h)
  have hl : lv_has ls 6 [(0, .ref h0), (1, .int (xa)), (2, .int (xs))] := hl
  refine lv_iload_n hx hb d_CL_stir_0 rfl (lv_at hl 1 rfl) ?_
  refine lv_if_lt (tgt := 21) hx hb d_CL_stir_1 (by decide) (fun h1 => ?_) (fun h1 => ?_)
  · refine lv_iconst (v := nI 0) hx hb d_CL_stir_21 (by decide) ?_
    rw [hQ]
    exact k_zret () hx hb hr hlk hK hP hD hS [0, 1, 2, 3] (by decide) rfl trivial rfl rfl d_CL_stir_22
  · refine lv_iload_n hx hb d_CL_stir_4 rfl (lv_at hl 1 rfl) ?_
    refine lv_sipush (v := nI 2000) hx hb d_CL_stir_5 (by decide) ?_
    refine lv_icmp_gt (tgt := 21) hx hb d_CL_stir_8 (by decide) (fun h8 => ?_) (fun h8 => ?_)
    · refine lv_iconst (v := nI 0) hx hb d_CL_stir_21 (by decide) ?_
      rw [hQ]
      exact k_zret () hx hb hr hlk hK hP hD hS [0, 1, 2, 3] (by decide) rfl trivial rfl rfl d_CL_stir_22
    · refine lv_aload_n hx hb d_CL_stir_11 rfl (lv_at hl 0 rfl) ?_
      refine k_get hx hb hw uw_CL hown hK hP 0 rfl rfl 3 (by decide) (hw _ wd_254) rfl d_CL_stir_12 ?_
      refine k_get hx hb hw uw_WA hown hK hP 1 rfl rfl 2 (by decide) (hw _ wd_43) rfl d_CL_stir_15 ?_
      refine k_if_ne (tgt := 23) hx hb d_CL_stir_18 (by decide) (by omega) (fun h18 => ?_) (fun h18 => ?_)
      · exact False.elim (hbad.elim h1 (fun q9 => q9.elim h8 (fun w9 => by omega)))
      · refine lv_iconst (v := nI 0) hx hb d_CL_stir_21 (by decide) ?_
        rw [hQ]
        exact k_zret () hx hb hr hlk hK hP hD hS [0, 1, 2, 3] (by decide) rfl trivial rfl rfl d_CL_stir_22
set_option maxHeartbeats 4000000 in
set_option maxRecDepth 100000 in
theorem c_CL_stir_ok (l : Launch) (D : va_G) (tc : Nat → ClassId) (tb : Nat → Nat) (h0 : Nat) (wq0 : Nat) (fw : Nat) (oa : Nat) (sn : Nat) (rc : Nat) (mc : Nat) (oi : Nat) (oq : Nat) (ac : Nat) (ww : RP) (am : Nat) (xs : Int32) (ham : am ≤ 2000) (ha0 : 0 < ac) (hac : ac ≤ 520) : Mi l D tc tb y_CL_stir prog_1_method_9_code 6 (some .boolean) ({ frames := 3, cells := 0, slots := 0, locals := 61 }) [.ref h0, .int (nI am), .int (xs)] [(h0, .inr (0, [.ref wq0, .int (nI mc), .ref fw, .ref oa, .ref sn, .ref rc])), (oa, .inr (1, [.ref oi, .ref oq, .int (nI ac)])), (oi, .inl (tc 1, 520, .inl ww.1)), (oq, .inl (tc 1, 520, .inl ww.2))] (fun _ : Unit => True) (fun _ : Unit => nI 1) (fun _ : Unit => [(h0, .inr (0, [.ref wq0, .int (nI mc), .ref fw, .ref oa, .ref sn, .ref rc])), (oa, .inr (1, [.ref oi, .ref oq, .int (nI ac)])), (oi, .inl (tc 1, 520, .inl ((srF xs (nI am) ww ac).1))), (oq, .inl (tc 1, 520, .inl ((srF xs (nI am) ww ac).2)))]) := by
  refine Mi.go (by decide) (Nat.le_of_ble_eq_true rfl) ?_
  intro p e s m below meth c A ls R args Q C
  obtain ⟨hx, hb, hr, hts, hown, hlk, hml, hin, hA, hST, hN, hK, hP, hD, hS, hl, hR, hQ⟩ := C
  have hw : ∀ w ∈ lw_g, w.before args s = true := fun w h => hts w (List.mem_cons_of_mem _ h)
  have hl : lv_has ls 6 [(0, .ref h0), (1, .int (nI am)), (2, .int (xs))] := hl
  refine lv_iload_n hx hb d_CL_stir_0 rfl (lv_at hl 1 rfl) ?_
  refine lv_if_lt (tgt := 21) hx hb d_CL_stir_1 (by decide) (fun h1 => ?_) (fun h1 => ?_)
  · exact absurd h1 (nI_pos (by omega))
  · refine lv_iload_n hx hb d_CL_stir_4 rfl (lv_at hl 1 rfl) ?_
    refine lv_sipush (v := nI 2000) hx hb d_CL_stir_5 (by decide) ?_
    refine k_icmp_gt (tgt := 21) hx hb d_CL_stir_8 (by decide) (by omega) (by omega) (fun h8 => ?_) (fun h8 => ?_)
    · exfalso; omega
    · refine lv_aload_n hx hb d_CL_stir_11 rfl (lv_at hl 0 rfl) ?_
      refine k_get hx hb hw uw_CL hown hK hP 0 rfl rfl 3 (by decide) (hw _ wd_254) rfl d_CL_stir_12 ?_
      refine k_get hx hb hw uw_WA hown hK hP 1 rfl rfl 2 (by decide) (hw _ wd_43) rfl d_CL_stir_15 ?_
      refine k_if_ne (tgt := 23) hx hb d_CL_stir_18 (by decide) (by omega) (fun h18 => ?_) (fun h18 => ?_)
      · refine lv_iload_n hx hb d_CL_stir_23 rfl (lv_at hl 2 rfl) ?_
        refine lv_istore_n (lv' := [(3, .int (xs)), (0, .ref h0), (1, .int (nI am)), (2, .int (xs))]) hx hb d_CL_stir_24 rfl hl (by decide) rfl (fun ls hl => ?_)
        refine lv_iconst (v := nI 0) hx hb d_CL_stir_25 (by decide) ?_
        refine lv_istore (lv' := [(4, .int (nI 0)), (3, .int (xs)), (0, .ref h0), (1, .int (nI am)), (2, .int (xs))]) hx hb d_CL_stir_26 hl (by decide) rfl (fun ls hl => ?_)
        refine k_loop (P := fun k : Nat => ∀ (H : Heap) (locs : List Loc) (ls : Array Slot), lv_has ls 6 [(4, .int (nI k)), (3, .int (sX xs k)), (0, .ref h0), (1, .int (nI am)), (2, .int (xs))] → va_P D classes [(h0, .inr (0, [.ref wq0, .int (nI mc), .ref fw, .ref oa, .ref sn, .ref rc])), (oa, .inr (1, [.ref oi, .ref oq, .int (nI ac)])), (oi, .inl (tc 1, 520, .inl ((srF xs (nI am) ww k).1))), (oq, .inl (tc 1, 520, .inl ((srF xs (nI am) ww k).2)))] H → va_D A [(h0, .inr (0, [.ref wq0, .int (nI mc), .ref fw, .ref oa, .ref sn, .ref rc])), (oa, .inr (1, [.ref oi, .ref oq, .int (nI ac)])), (oi, .inl (tc 1, 520, .inl ((srF xs (nI am) ww k).1))), (oq, .inl (tc 1, 520, .inl ((srF xs (nI am) ww k).2)))] → va_S A s.heap H locs → W p l e R s m args below meth c H locs 0 0 Q (F0 m 28 ls [])) (ac) (fun k hk_k ih_k  H locs ls hl hP hD hS => ?_) (0) (by omega)   s.heap [] ls (lv_sub hl [0, 1, 2, 3, 4] rfl) (by rw [srF_0]; exact hP) (k_Ds hD [0, 1, 2, 3] (by decide) rfl) hS
        refine lv_iload hx hb d_CL_stir_28 (lv_at hl 0 rfl) ?_
        refine lv_aload_n hx hb d_CL_stir_30 rfl (lv_at hl 2 rfl) ?_
        refine k_get hx hb hw uw_CL hown hK hP 0 rfl rfl 3 (by decide) (hw _ wd_254) rfl d_CL_stir_31 ?_
        refine k_get hx hb hw uw_WA hown hK hP 1 rfl rfl 2 (by decide) (hw _ wd_43) rfl d_CL_stir_34 ?_
        refine k_icmp_ge (tgt := 79) hx hb d_CL_stir_37 (by decide) (by omega) (by omega) (fun h37 => ?_) (fun h37 => ?_)
        · obtain rfl : ac = k := by omega
          refine lv_iconst (v := nI 1) hx hb d_CL_stir_79 (by decide) ?_
          rw [hQ]
          exact k_zret () hx hb hr hlk hK hP hD hS [0, 1, 2, 3] (by decide) rfl trivial rfl rfl d_CL_stir_80
        · refine lv_iload_n hx hb d_CL_stir_40 rfl (lv_at hl 1 rfl) ?_
          refine k_calli (wr := [(h0, .inr (0, [.ref wq0, .int (nI mc), .ref fw, .ref oa, .ref sn, .ref rc])), (oa, .inr (1, [.ref oi, .ref oq, .int (nI ac)])), (oi, .inl (tc 1, 520, .inl ((srF xs (nI am) ww k).1))), (oq, .inl (tc 1, 520, .inl ((srF xs (nI am) ww k).2)))]) (k_runS (As := [.int (sX xs k)]) (rest := []) (wc := []) ⟨hx, hb, hml, hown, hts⟩ (c_CL_nextStir l D tc tb (sX xs k)  H.size) (va_cwS 1 hts (k_goodS wd_310 wd_311 wd_1 wd_312) rfl rfl rfl hd_CL_nextStir ⟨by rw [hR]; exact Nat.le_of_ble_eq_true rfl, by rw [hR]; exact Nat.le_of_ble_eq_true rfl⟩) hK hP hD hS hST hN hA [] (by decide) rfl rfl hl.1 rfl (Nat.le_of_ble_eq_true rfl) d_CL_stir_41 ⟨by rw [hR]; exact Nat.le_of_ble_eq_true rfl, by rw [hR]; exact Nat.le_of_ble_eq_true rfl⟩) hP hD hS hA [] [0, 1, 2, 3] rfl rfl (by decide) (by decide) (fun _ H locs hp41 hP hD hS => ?_)
          have hP : va_P D classes [(h0, .inr (0, [.ref wq0, .int (nI mc), .ref fw, .ref oa, .ref sn, .ref rc])), (oa, .inr (1, [.ref oi, .ref oq, .int (nI ac)])), (oi, .inl (tc 1, 520, .inl ((srF xs (nI am) ww k).1))), (oq, .inl (tc 1, 520, .inl ((srF xs (nI am) ww k).2)))] H := hP
          have hD : va_D A [(h0, .inr (0, [.ref wq0, .int (nI mc), .ref fw, .ref oa, .ref sn, .ref rc])), (oa, .inr (1, [.ref oi, .ref oq, .int (nI ac)])), (oi, .inl (tc 1, 520, .inl ((srF xs (nI am) ww k).1))), (oq, .inl (tc 1, 520, .inl ((srF xs (nI am) ww k).2)))] := hD
          refine W.widen (k := 0) (n := 0) (Nat.le_of_ble_eq_true rfl) (Nat.le_of_ble_eq_true rfl) ?_
          refine W.eq (g2 := F0 m 44 ls [.int (nsF (sX xs k))]) rfl ?_
          refine lv_istore_n (lv' := [(3, .int (nsF (sX xs k))), (4, .int (nI k)), (0, .ref h0), (1, .int (nI am)), (2, .int (xs))]) hx hb d_CL_stir_44 rfl hl (by decide) rfl (fun ls hl => ?_)
          refine lv_iload_n hx hb d_CL_stir_45 rfl (lv_at hl 0 rfl) ?_
          refine lv_iload_n hx hb d_CL_stir_46 rfl (lv_at hl 3 rfl) ?_
          refine k_calli (wr := [(h0, .inr (0, [.ref wq0, .int (nI mc), .ref fw, .ref oa, .ref sn, .ref rc])), (oa, .inr (1, [.ref oi, .ref oq, .int (nI ac)])), (oi, .inl (tc 1, 520, .inl ((srF xs (nI am) ww k).1))), (oq, .inl (tc 1, 520, .inl ((srF xs (nI am) ww k).2)))]) (k_runS (As := [.int (nsF (sX xs k)), .int (nI am)]) (rest := []) (wc := []) ⟨hx, hb, hml, hown, hts⟩ (c_CL_stirBy l D tc tb (nsF (sX xs k)) (nI am) (st_ne ham) H.size) (va_cwS 2 hts (k_goodS wd_314 wd_315 wd_1 wd_316) rfl rfl rfl hd_CL_stirBy ⟨by rw [hR]; exact Nat.le_of_ble_eq_true rfl, by rw [hR]; exact Nat.le_of_ble_eq_true rfl⟩) hK hP hD hS hST hN hA [] (by decide) rfl rfl hl.1 rfl (Nat.le_of_ble_eq_true rfl) d_CL_stir_47 ⟨by rw [hR]; exact Nat.le_of_ble_eq_true rfl, by rw [hR]; exact Nat.le_of_ble_eq_true rfl⟩) hP hD hS hA [] [0, 1, 2, 3] rfl rfl (by decide) (by decide) (fun _ H locs hp47 hP hD hS => ?_)
          have hP : va_P D classes [(h0, .inr (0, [.ref wq0, .int (nI mc), .ref fw, .ref oa, .ref sn, .ref rc])), (oa, .inr (1, [.ref oi, .ref oq, .int (nI ac)])), (oi, .inl (tc 1, 520, .inl ((srF xs (nI am) ww k).1))), (oq, .inl (tc 1, 520, .inl ((srF xs (nI am) ww k).2)))] H := hP
          have hD : va_D A [(h0, .inr (0, [.ref wq0, .int (nI mc), .ref fw, .ref oa, .ref sn, .ref rc])), (oa, .inr (1, [.ref oi, .ref oq, .int (nI ac)])), (oi, .inl (tc 1, 520, .inl ((srF xs (nI am) ww k).1))), (oq, .inl (tc 1, 520, .inl ((srF xs (nI am) ww k).2)))] := hD
          refine W.widen (k := 0) (n := 0) (Nat.le_of_ble_eq_true rfl) (Nat.le_of_ble_eq_true rfl) ?_
          refine W.eq (g2 := F0 m 50 ls [.int (sbY (nsF (sX xs k)) (nI am))]) rfl ?_
          refine lv_istore (lv' := [(5, .int (sbY (nsF (sX xs k)) (nI am))), (3, .int (nsF (sX xs k))), (4, .int (nI k)), (0, .ref h0), (1, .int (nI am)), (2, .int (xs))]) hx hb d_CL_stir_50 hl (by decide) rfl (fun ls hl => ?_)
          refine lv_iload_n hx hb d_CL_stir_52 rfl (lv_at hl 1 rfl) ?_
          refine k_calli (wr := [(h0, .inr (0, [.ref wq0, .int (nI mc), .ref fw, .ref oa, .ref sn, .ref rc])), (oa, .inr (1, [.ref oi, .ref oq, .int (nI ac)])), (oi, .inl (tc 1, 520, .inl ((srF xs (nI am) ww k).1))), (oq, .inl (tc 1, 520, .inl ((srF xs (nI am) ww k).2)))]) (k_runS (As := [.int (nsF (sX xs k))]) (rest := []) (wc := []) ⟨hx, hb, hml, hown, hts⟩ (c_CL_nextStir l D tc tb (nsF (sX xs k))  H.size) (va_cwS 1 hts (k_goodS wd_310 wd_311 wd_1 wd_312) rfl rfl rfl hd_CL_nextStir ⟨by rw [hR]; exact Nat.le_of_ble_eq_true rfl, by rw [hR]; exact Nat.le_of_ble_eq_true rfl⟩) hK hP hD hS hST hN hA [] (by decide) rfl rfl hl.1 rfl (Nat.le_of_ble_eq_true rfl) d_CL_stir_53 ⟨by rw [hR]; exact Nat.le_of_ble_eq_true rfl, by rw [hR]; exact Nat.le_of_ble_eq_true rfl⟩) hP hD hS hA [] [0, 1, 2, 3] rfl rfl (by decide) (by decide) (fun _ H locs hp53 hP hD hS => ?_)
          have hP : va_P D classes [(h0, .inr (0, [.ref wq0, .int (nI mc), .ref fw, .ref oa, .ref sn, .ref rc])), (oa, .inr (1, [.ref oi, .ref oq, .int (nI ac)])), (oi, .inl (tc 1, 520, .inl ((srF xs (nI am) ww k).1))), (oq, .inl (tc 1, 520, .inl ((srF xs (nI am) ww k).2)))] H := hP
          have hD : va_D A [(h0, .inr (0, [.ref wq0, .int (nI mc), .ref fw, .ref oa, .ref sn, .ref rc])), (oa, .inr (1, [.ref oi, .ref oq, .int (nI ac)])), (oi, .inl (tc 1, 520, .inl ((srF xs (nI am) ww k).1))), (oq, .inl (tc 1, 520, .inl ((srF xs (nI am) ww k).2)))] := hD
          refine W.widen (k := 0) (n := 0) (Nat.le_of_ble_eq_true rfl) (Nat.le_of_ble_eq_true rfl) ?_
          refine W.eq (g2 := F0 m 56 ls [.int (nsF (nsF (sX xs k)))]) rfl ?_
          refine lv_istore_n (lv' := [(3, .int (nsF (nsF (sX xs k)))), (5, .int (sbY (nsF (sX xs k)) (nI am))), (4, .int (nI k)), (0, .ref h0), (1, .int (nI am)), (2, .int (xs))]) hx hb d_CL_stir_56 rfl hl (by decide) rfl (fun ls hl => ?_)
          refine lv_aload_n hx hb d_CL_stir_57 rfl (lv_at hl 3 rfl) ?_
          refine k_get hx hb hw uw_CL hown hK hP 0 rfl rfl 3 (by decide) (hw _ wd_254) rfl d_CL_stir_58 ?_
          refine lv_iload hx hb d_CL_stir_61 (lv_at hl 2 rfl) ?_
          refine lv_iload hx hb d_CL_stir_63 (lv_at hl 1 rfl) ?_
          refine lv_iload_n hx hb d_CL_stir_65 rfl (lv_at hl 0 rfl) ?_
          refine lv_iload_n hx hb d_CL_stir_66 rfl (lv_at hl 4 rfl) ?_
          refine k_calli (wr := [(h0, .inr (0, [.ref wq0, .int (nI mc), .ref fw, .ref oa, .ref sn, .ref rc])), (oa, .inr (1, [.ref oi, .ref oq, .int (nI ac)])), (oi, .inl (tc 1, 520, .inl ((srF xs (nI am) ww k).1))), (oq, .inl (tc 1, 520, .inl ((srF xs (nI am) ww k).2)))]) (k_runS (As := [.int (nsF (nsF (sX xs k))), .int (nI am)]) (rest := [.int (sbY (nsF (sX xs k)) (nI am)), .int (nI k), .ref oa]) (wc := []) ⟨hx, hb, hml, hown, hts⟩ (c_CL_stirBy l D tc tb (nsF (nsF (sX xs k))) (nI am) (st_ne ham) H.size) (va_cwS 2 hts (k_goodS wd_314 wd_315 wd_1 wd_316) rfl rfl rfl hd_CL_stirBy ⟨by rw [hR]; exact Nat.le_of_ble_eq_true rfl, by rw [hR]; exact Nat.le_of_ble_eq_true rfl⟩) hK hP hD hS hST hN hA [] (by decide) rfl rfl hl.1 rfl (Nat.le_of_ble_eq_true rfl) d_CL_stir_67 ⟨by rw [hR]; exact Nat.le_of_ble_eq_true rfl, by rw [hR]; exact Nat.le_of_ble_eq_true rfl⟩) hP hD hS hA [] [0, 1, 2, 3] rfl rfl (by decide) (by decide) (fun _ H locs hp67 hP hD hS => ?_)
          have hP : va_P D classes [(h0, .inr (0, [.ref wq0, .int (nI mc), .ref fw, .ref oa, .ref sn, .ref rc])), (oa, .inr (1, [.ref oi, .ref oq, .int (nI ac)])), (oi, .inl (tc 1, 520, .inl ((srF xs (nI am) ww k).1))), (oq, .inl (tc 1, 520, .inl ((srF xs (nI am) ww k).2)))] H := hP
          have hD : va_D A [(h0, .inr (0, [.ref wq0, .int (nI mc), .ref fw, .ref oa, .ref sn, .ref rc])), (oa, .inr (1, [.ref oi, .ref oq, .int (nI ac)])), (oi, .inl (tc 1, 520, .inl ((srF xs (nI am) ww k).1))), (oq, .inl (tc 1, 520, .inl ((srF xs (nI am) ww k).2)))] := hD
          refine W.widen (k := 0) (n := 0) (Nat.le_of_ble_eq_true rfl) (Nat.le_of_ble_eq_true rfl) ?_
          refine W.eq (g2 := F0 m 70 ls [.int (sbY (nsF (nsF (sX xs k))) (nI am)), .int (sbY (nsF (sX xs k)) (nI am)), .int (nI k), .ref oa]) rfl ?_
          refine k_callv (wr := [(h0, .inr (0, [.ref wq0, .int (nI mc), .ref fw, .ref oa, .ref sn, .ref rc]))]) (k_runV (As := [.int (nI k), .int (sbY (nsF (sX xs k)) (nI am)), .int (sbY (nsF (nsF (sX xs k))) (nI am))]) (rest := []) (wc := [(oa, .inr (1, [.ref oi, .ref oq, .int (nI ac)])), (oi, .inl (tc 1, 520, .inl ((srF xs (nI am) ww k).1))), (oq, .inl (tc 1, 520, .inl ((srF xs (nI am) ww k).2)))]) ⟨hx, hb, hml, hown, hts⟩ (c_WA_addTo l D tc tb oa oi oq ac 520 ((srF xs (nI am) ww k).1) ((srF xs (nI am) ww k).2) k (sbY (nsF (sX xs k)) (nI am)) (sbY (nsF (nsF (sX xs k))) (nI am)) (by omega) (by omega) H.size) (cwV 3 hts (k_goodV wd_293 wd_294 wd_295 wd_2 wd_296) rfl rfl rfl ⟨rfl, hd_WA_addTo⟩ ⟨by rw [hR]; exact Nat.le_of_ble_eq_true rfl, by rw [hR]; exact Nat.le_of_ble_eq_true rfl⟩) hK hP hD hS hST hN hA [1, 2, 3] (by decide) rfl 1 rfl rfl rfl rfl hl.1 rfl (Nat.le_of_ble_eq_true rfl) d_CL_stir_70 ⟨by rw [hR]; exact Nat.le_of_ble_eq_true rfl, by rw [hR]; exact Nat.le_of_ble_eq_true rfl⟩) hP hD hS hA [1, 2, 3] [0] rfl rfl (by decide) (by decide) (fun _ H locs hp70 hP hD hS => ?_)
          have hP : va_P D classes [(h0, .inr (0, [.ref wq0, .int (nI mc), .ref fw, .ref oa, .ref sn, .ref rc])), (oa, .inr (1, [.ref oi, .ref oq, .int (nI ac)])), (oi, .inl (tc 1, 520, .inl (upd ((srF xs (nI am) ww k).1) k (satF (((srF xs (nI am) ww k).1) k + (sbY (nsF (sX xs k)) (nI am))))))), (oq, .inl (tc 1, 520, .inl (upd ((srF xs (nI am) ww k).2) k (satF (((srF xs (nI am) ww k).2) k + (sbY (nsF (nsF (sX xs k))) (nI am)))))))] H := hP
          have hD : va_D A [(h0, .inr (0, [.ref wq0, .int (nI mc), .ref fw, .ref oa, .ref sn, .ref rc])), (oa, .inr (1, [.ref oi, .ref oq, .int (nI ac)])), (oi, .inl (tc 1, 520, .inl (upd ((srF xs (nI am) ww k).1) k (satF (((srF xs (nI am) ww k).1) k + (sbY (nsF (sX xs k)) (nI am))))))), (oq, .inl (tc 1, 520, .inl (upd ((srF xs (nI am) ww k).2) k (satF (((srF xs (nI am) ww k).2) k + (sbY (nsF (nsF (sX xs k))) (nI am)))))))] := hD
          refine W.widen (k := 0) (n := 0) (Nat.le_of_ble_eq_true rfl) (Nat.le_of_ble_eq_true rfl) ?_
          refine W.eq (g2 := F0 m 73 ls []) rfl ?_
          refine lv_iinc (k := 2) (v := nI (k + 1)) (lv' := [(4, .int (nI (k + 1))), (3, .int (nsF (nsF (sX xs k)))), (5, .int (sbY (nsF (sX xs k)) (nI am))), (0, .ref h0), (1, .int (nI am)), (2, .int (xs))]) hx hb d_CL_stir_73 hl rfl (k_incN _ 1) (by decide) rfl (fun ls hl => ?_)
          refine lv_goto (tgt := 28) hx hb d_CL_stir_76 (by decide) ?_
          exact ih_k (by omega)   H locs ls (lv_sub hl [0, 1, 3, 4, 5] rfl) (by rw [srF_s]; exact hP) (k_Ds hD [0, 1, 2, 3] (by decide) rfl) hS
      · exfalso; omega
set_option maxHeartbeats 4000000 in
set_option maxRecDepth 100000 in
theorem c_MO_stir_no (l : Launch) (D : va_G) (tc : Nat → ClassId) (tb : Nat → Nat) (h0 : Nat) (nby : Nat) (ndb : Nat) (ncb : Nat) (nfr : Nat) (nsy : Nat) (nai : Nat) (xth : Int32) (xra : Int32) (xas : Int32) (xan : Int32) (xst : Int32) (xhr : Int32) (xhb : Int32) (xse : Int32) (xbe : Int32) (xrg : Int32) (a1 : Nat) (a2 : Nat) (a3 : Nat) (a4 : Nat) (a5 : Nat) (a6 : Nat) (a7 : Nat) (a8 : Nat) (a9 : Nat) (b1 : Nat) (b2 : Nat) (b3 : Nat) (b4 : Nat) (b5 : Nat) (b6 : Nat) (b7 : Nat) (b8 : Nat) (c1 : Nat) (c2 : Nat) (c3 : Nat) (c4 : Nat) (c5 : Nat) (c6 : Nat) (c7 : Nat) (xa : Int32) (xs : Int32) (hbad : xa < 0 ∨ nI 2000 < xa ∨ nai = 0) (hac : nai ≤ 560) : Mi l D tc tb y_MO_stir prog_10_method_29_code 5 (some .boolean) ({ frames := 0, cells := 0, slots := 0, locals := 0 }) [.ref h0, .int (xa), .int (xs)] [(h0, .inr (8, [.int (xth), .int (nI nby), .ref a1, .int (xra), .int (nI ndb), .ref a2, .int (nI ncb), .ref a3, .ref a4, .int (nI nfr), .ref a5, .ref a6, .int (nI nsy), .int (nI nai), .ref a7, .ref a8, .int (xas), .int (xan), .int (xst), .int (xhr), .int (xhb), .int (xse), .int (xbe), .ref a9, .ref b1, .ref b2, .ref b3, .ref b4, .ref b5, .ref b6, .ref b7, .ref b8, .ref c1, .ref c2, .ref c3, .ref c4, .ref c5, .ref c6, .ref c7, .int (xrg)]))] (fun _ : Unit => True) (fun _ : Unit => nI 0) (fun _ : Unit => [(h0, .inr (8, [.int (nI 0), .int (nI nby), .ref a1, .int (xra), .int (nI ndb), .ref a2, .int (nI ncb), .ref a3, .ref a4, .int (nI nfr), .ref a5, .ref a6, .int (nI nsy), .int (nI nai), .ref a7, .ref a8, .int (xas), .int (xan), .int (xst), .int (xhr), .int (xhb), .int (xse), .int (xbe), .ref a9, .ref b1, .ref b2, .ref b3, .ref b4, .ref b5, .ref b6, .ref b7, .ref b8, .ref c1, .ref c2, .ref c3, .ref c4, .ref c5, .ref c6, .ref c7, .int (xrg)]))]) := by
  refine Mi.go (by decide) (Nat.le_of_ble_eq_true rfl) ?_
  intro p e s m below meth c A ls R args Q C
  obtain ⟨hx, hb, hr, hts, hown, hlk, hml, hin, hA, hST, hN, hK, hP, hD, hS, hl, hR, hQ⟩ := C
  have hw : ∀ w ∈ lw_g, w.before args s = true := fun w h => hts w (List.mem_cons_of_mem _ h)
  have hl : lv_has ls 5 [(0, .ref h0), (1, .int (xa)), (2, .int (xs))] := hl
  refine lv_aload_n hx hb d_MO_stir_0 rfl (lv_at hl 0 rfl) ?_
  refine lv_iconst (v := nI 0) hx hb d_MO_stir_1 (by decide) ?_
  refine k_put (ws' := [(h0, .inr (8, [.int (nI 0), .int (nI nby), .ref a1, .int (xra), .int (nI ndb), .ref a2, .int (nI ncb), .ref a3, .ref a4, .int (nI nfr), .ref a5, .ref a6, .int (nI nsy), .int (nI nai), .ref a7, .ref a8, .int (xas), .int (xan), .int (xst), .int (xhr), .int (xhb), .int (xse), .int (xbe), .ref a9, .ref b1, .ref b2, .ref b3, .ref b4, .ref b5, .ref b6, .ref b7, .ref b8, .ref c1, .ref c2, .ref c3, .ref c4, .ref c5, .ref c6, .ref c7, .int (xrg)]))]) hx hb hw uw_MO tok_MO nn_MO hown hK hP hD hS 0 rfl rfl 0 (by decide) (hw _ wd_714) rfl rfl rfl (Nat.le_of_ble_eq_true rfl) d_MO_stir_2 rfl (fun H locs hP hD hS => ?_)
  refine lv_iload_n hx hb d_MO_stir_5 rfl (lv_at hl 1 rfl) ?_
  refine lv_if_lt (tgt := 23) hx hb d_MO_stir_6 (by decide) (fun h6 => ?_) (fun h6 => ?_)
  · refine lv_iconst (v := nI 0) hx hb d_MO_stir_23 (by decide) ?_
    rw [hQ]
    exact k_zret () hx hb hr hlk hK hP hD hS [0] (by decide) rfl trivial rfl rfl d_MO_stir_24
  · refine lv_iload_n hx hb d_MO_stir_9 rfl (lv_at hl 1 rfl) ?_
    refine lv_sipush (v := nI 2000) hx hb d_MO_stir_10 (by decide) ?_
    refine lv_icmp_gt (tgt := 23) hx hb d_MO_stir_13 (by decide) (fun h13 => ?_) (fun h13 => ?_)
    · refine lv_iconst (v := nI 0) hx hb d_MO_stir_23 (by decide) ?_
      rw [hQ]
      exact k_zret () hx hb hr hlk hK hP hD hS [0] (by decide) rfl trivial rfl rfl d_MO_stir_24
    · refine lv_aload_n hx hb d_MO_stir_16 rfl (lv_at hl 0 rfl) ?_
      refine k_get hx hb hw uw_MO hown hK hP 0 rfl rfl 13 (by decide) (hw _ wd_727) rfl d_MO_stir_17 ?_
      refine k_if_ne (tgt := 25) hx hb d_MO_stir_20 (by decide) (by omega) (fun h20 => ?_) (fun h20 => ?_)
      · exact False.elim (hbad.elim h6 (fun q9 => q9.elim h13 (fun w9 => by omega)))
      · refine lv_iconst (v := nI 0) hx hb d_MO_stir_23 (by decide) ?_
        rw [hQ]
        exact k_zret () hx hb hr hlk hK hP hD hS [0] (by decide) rfl trivial rfl rfl d_MO_stir_24
set_option maxHeartbeats 4000000 in
set_option maxRecDepth 100000 in
theorem c_MO_stir_ok (l : Launch) (D : va_G) (tc : Nat → ClassId) (tb : Nat → Nat) (h0 : Nat) (nby : Nat) (ndb : Nat) (ncb : Nat) (nfr : Nat) (nsy : Nat) (nai : Nat) (xth : Int32) (xra : Int32) (xas : Int32) (xan : Int32) (xst : Int32) (xhr : Int32) (xhb : Int32) (xse : Int32) (xbe : Int32) (xrg : Int32) (a1 : Nat) (a2 : Nat) (a3 : Nat) (a4 : Nat) (a5 : Nat) (a6 : Nat) (a7 : Nat) (a8 : Nat) (a9 : Nat) (b1 : Nat) (b2 : Nat) (b3 : Nat) (b4 : Nat) (b5 : Nat) (b6 : Nat) (b7 : Nat) (b8 : Nat) (c1 : Nat) (c2 : Nat) (c3 : Nat) (c4 : Nat) (c5 : Nat) (c6 : Nat) (c7 : Nat) (ww : RP) (am : Nat) (xs : Int32) (ham : am ≤ 2000) (ha0 : 0 < nai) (hac : nai ≤ 560) : Mi l D tc tb y_MO_stir prog_10_method_29_code 5 (some .boolean) ({ frames := 1, cells := 0, slots := 0, locals := 20 }) [.ref h0, .int (nI am), .int (xs)] [(h0, .inr (8, [.int (xth), .int (nI nby), .ref a1, .int (xra), .int (nI ndb), .ref a2, .int (nI ncb), .ref a3, .ref a4, .int (nI nfr), .ref a5, .ref a6, .int (nI nsy), .int (nI nai), .ref a7, .ref a8, .int (xas), .int (xan), .int (xst), .int (xhr), .int (xhb), .int (xse), .int (xbe), .ref a9, .ref b1, .ref b2, .ref b3, .ref b4, .ref b5, .ref b6, .ref b7, .ref b8, .ref c1, .ref c2, .ref c3, .ref c4, .ref c5, .ref c6, .ref c7, .int (xrg)])), (a7, .inl (tc 0, 560, .inl ww.1)), (a8, .inl (tc 0, 560, .inl ww.2))] (fun _ : Unit => True) (fun _ : Unit => nI 1) (fun _ : Unit => [(h0, .inr (8, [.int (nI 0), .int (nI nby), .ref a1, .int (xra), .int (nI ndb), .ref a2, .int (nI ncb), .ref a3, .ref a4, .int (nI nfr), .ref a5, .ref a6, .int (nI nsy), .int (nI nai), .ref a7, .ref a8, .int (xas), .int (xan), .int (xst), .int (xhr), .int (xhb), .int (xse), .int (xbe), .ref a9, .ref b1, .ref b2, .ref b3, .ref b4, .ref b5, .ref b6, .ref b7, .ref b8, .ref c1, .ref c2, .ref c3, .ref c4, .ref c5, .ref c6, .ref c7, .int (xrg)])), (a7, .inl (tc 0, 560, .inl ((smF xs am ww nai).1))), (a8, .inl (tc 0, 560, .inl ((smF xs am ww nai).2)))]) := by
  refine Mi.go (by decide) (Nat.le_of_ble_eq_true rfl) ?_
  intro p e s m below meth c A ls R args Q C
  obtain ⟨hx, hb, hr, hts, hown, hlk, hml, hin, hA, hST, hN, hK, hP, hD, hS, hl, hR, hQ⟩ := C
  have hw : ∀ w ∈ lw_g, w.before args s = true := fun w h => hts w (List.mem_cons_of_mem _ h)
  have hl : lv_has ls 5 [(0, .ref h0), (1, .int (nI am)), (2, .int (xs))] := hl
  refine lv_aload_n hx hb d_MO_stir_0 rfl (lv_at hl 0 rfl) ?_
  refine lv_iconst (v := nI 0) hx hb d_MO_stir_1 (by decide) ?_
  refine k_put (ws' := [(h0, .inr (8, [.int (nI 0), .int (nI nby), .ref a1, .int (xra), .int (nI ndb), .ref a2, .int (nI ncb), .ref a3, .ref a4, .int (nI nfr), .ref a5, .ref a6, .int (nI nsy), .int (nI nai), .ref a7, .ref a8, .int (xas), .int (xan), .int (xst), .int (xhr), .int (xhb), .int (xse), .int (xbe), .ref a9, .ref b1, .ref b2, .ref b3, .ref b4, .ref b5, .ref b6, .ref b7, .ref b8, .ref c1, .ref c2, .ref c3, .ref c4, .ref c5, .ref c6, .ref c7, .int (xrg)])), (a7, .inl (tc 0, 560, .inl ww.1)), (a8, .inl (tc 0, 560, .inl ww.2))]) hx hb hw uw_MO tok_MO nn_MO hown hK hP hD hS 0 rfl rfl 0 (by decide) (hw _ wd_714) rfl rfl rfl (Nat.le_of_ble_eq_true rfl) d_MO_stir_2 rfl (fun H locs hP hD hS => ?_)
  refine lv_iload_n hx hb d_MO_stir_5 rfl (lv_at hl 1 rfl) ?_
  refine lv_if_lt (tgt := 23) hx hb d_MO_stir_6 (by decide) (fun h6 => ?_) (fun h6 => ?_)
  · exact absurd h6 (nI_pos (by omega))
  · refine lv_iload_n hx hb d_MO_stir_9 rfl (lv_at hl 1 rfl) ?_
    refine lv_sipush (v := nI 2000) hx hb d_MO_stir_10 (by decide) ?_
    refine k_icmp_gt (tgt := 23) hx hb d_MO_stir_13 (by decide) (by omega) (by omega) (fun h13 => ?_) (fun h13 => ?_)
    · exfalso; omega
    · refine lv_aload_n hx hb d_MO_stir_16 rfl (lv_at hl 0 rfl) ?_
      refine k_get hx hb hw uw_MO hown hK hP 0 rfl rfl 13 (by decide) (hw _ wd_727) rfl d_MO_stir_17 ?_
      refine k_if_ne (tgt := 25) hx hb d_MO_stir_20 (by decide) (by omega) (fun h20 => ?_) (fun h20 => ?_)
      · refine lv_iload_n hx hb d_MO_stir_25 rfl (lv_at hl 2 rfl) ?_
        refine lv_istore_n (lv' := [(3, .int (xs)), (0, .ref h0), (1, .int (nI am)), (2, .int (xs))]) hx hb d_MO_stir_26 rfl hl (by decide) rfl (fun ls hl => ?_)
        refine lv_iconst (v := nI 0) hx hb d_MO_stir_27 (by decide) ?_
        refine lv_istore (lv' := [(4, .int (nI 0)), (3, .int (xs)), (0, .ref h0), (1, .int (nI am)), (2, .int (xs))]) hx hb d_MO_stir_28 hl (by decide) rfl (fun ls hl => ?_)
        refine k_loop (P := fun k : Nat => ∀ (H : Heap) (locs : List Loc) (ls : Array Slot), lv_has ls 5 [(4, .int (nI k)), (3, .int (sX xs k)), (0, .ref h0), (1, .int (nI am)), (2, .int (xs))] → va_P D classes [(h0, .inr (8, [.int (nI 0), .int (nI nby), .ref a1, .int (xra), .int (nI ndb), .ref a2, .int (nI ncb), .ref a3, .ref a4, .int (nI nfr), .ref a5, .ref a6, .int (nI nsy), .int (nI nai), .ref a7, .ref a8, .int (xas), .int (xan), .int (xst), .int (xhr), .int (xhb), .int (xse), .int (xbe), .ref a9, .ref b1, .ref b2, .ref b3, .ref b4, .ref b5, .ref b6, .ref b7, .ref b8, .ref c1, .ref c2, .ref c3, .ref c4, .ref c5, .ref c6, .ref c7, .int (xrg)])), (a7, .inl (tc 0, 560, .inl ((smF xs am ww k).1))), (a8, .inl (tc 0, 560, .inl ((smF xs am ww k).2)))] H → va_D A [(h0, .inr (8, [.int (nI 0), .int (nI nby), .ref a1, .int (xra), .int (nI ndb), .ref a2, .int (nI ncb), .ref a3, .ref a4, .int (nI nfr), .ref a5, .ref a6, .int (nI nsy), .int (nI nai), .ref a7, .ref a8, .int (xas), .int (xan), .int (xst), .int (xhr), .int (xhb), .int (xse), .int (xbe), .ref a9, .ref b1, .ref b2, .ref b3, .ref b4, .ref b5, .ref b6, .ref b7, .ref b8, .ref c1, .ref c2, .ref c3, .ref c4, .ref c5, .ref c6, .ref c7, .int (xrg)])), (a7, .inl (tc 0, 560, .inl ((smF xs am ww k).1))), (a8, .inl (tc 0, 560, .inl ((smF xs am ww k).2)))] → va_S A s.heap H locs → W p l e R s m args below meth c H locs 0 0 Q (F0 m 30 ls [])) (nai) (fun k hk_k ih_k  H locs ls hl hP hD hS => ?_) (0) (by omega)   H locs ls (lv_sub hl [0, 1, 2, 3, 4] rfl) (by rw [smF_0]; exact hP) (k_Ds hD [0, 1, 2] (by decide) rfl) hS
        refine lv_iload hx hb d_MO_stir_30 (lv_at hl 0 rfl) ?_
        refine lv_aload_n hx hb d_MO_stir_32 rfl (lv_at hl 2 rfl) ?_
        refine k_get hx hb hw uw_MO hown hK hP 0 rfl rfl 13 (by decide) (hw _ wd_727) rfl d_MO_stir_33 ?_
        refine k_icmp_ge (tgt := 123) hx hb d_MO_stir_36 (by decide) (by omega) (by omega) (fun h36 => ?_) (fun h36 => ?_)
        · obtain rfl : nai = k := by omega
          refine lv_iconst (v := nI 1) hx hb d_MO_stir_123 (by decide) ?_
          rw [hQ]
          exact k_zret () hx hb hr hlk hK hP hD hS [0, 1, 2] (by decide) rfl trivial rfl rfl d_MO_stir_124
        · refine lv_iload_n hx hb d_MO_stir_39 rfl (lv_at hl 1 rfl) ?_
          refine lv_ldc (v := nI 1103515245) hx hb hown (hw _ wd_917) d_MO_stir_40 ?_
          refine lv_imul hx hb d_MO_stir_42 ?_
          refine lv_sipush (v := nI 12345) hx hb d_MO_stir_43 (by decide) ?_
          refine lv_iadd hx hb d_MO_stir_46 ?_
          refine k_topi (y := nsF (sX xs k)) rfl ?_
          refine lv_istore_n (lv' := [(3, .int (nsF (sX xs k))), (4, .int (nI k)), (0, .ref h0), (1, .int (nI am)), (2, .int (xs))]) hx hb d_MO_stir_47 rfl hl (by decide) rfl (fun ls hl => ?_)
          refine lv_aload_n hx hb d_MO_stir_48 rfl (lv_at hl 2 rfl) ?_
          refine k_get hx hb hw uw_MO hown hK hP 0 rfl rfl 14 (by decide) (hw _ wd_728) rfl d_MO_stir_49 ?_
          refine lv_iload hx hb d_MO_stir_52 (lv_at hl 1 rfl) ?_
          refine lv_aload_n hx hb d_MO_stir_54 rfl (lv_at hl 2 rfl) ?_
          refine k_get hx hb hw uw_MO hown hK hP 0 rfl rfl 14 (by decide) (hw _ wd_728) rfl d_MO_stir_55 ?_
          refine lv_iload hx hb d_MO_stir_58 (lv_at hl 1 rfl) ?_
          refine k_iald hx hb hK hP 1 0 rfl rfl (by omega) (by omega) d_MO_stir_60 ?_
          refine lv_iload_n hx hb d_MO_stir_61 rfl (lv_at hl 0 rfl) ?_
          refine lv_bipush (v := nI 16) hx hb d_MO_stir_62 (by decide) ?_
          refine lv_iushr hx hb d_MO_stir_64 rfl ?_
          refine lv_iconst (v := nI 2) hx hb d_MO_stir_65 (by decide) ?_
          refine lv_iload_n hx hb d_MO_stir_66 rfl (lv_at hl 3 rfl) ?_
          refine k_imul hx hb d_MO_stir_67 ?_
          refine lv_iconst (v := nI 1) hx hb d_MO_stir_68 (by decide) ?_
          refine k_iadd hx hb d_MO_stir_69 ?_
          refine lv_irem hx hb d_MO_stir_70 (nI_ne0 (by omega) (by omega)) ?_
          refine lv_iadd hx hb d_MO_stir_71 ?_
          refine lv_iload_n hx hb d_MO_stir_72 rfl (lv_at hl 3 rfl) ?_
          refine lv_isub hx hb d_MO_stir_73 ?_
          refine k_topi (y := smV (nsF (sX xs k)) am ((smF xs am ww k).1 k)) rfl ?_
          refine k_calli (wr := [(h0, .inr (8, [.int (nI 0), .int (nI nby), .ref a1, .int (xra), .int (nI ndb), .ref a2, .int (nI ncb), .ref a3, .ref a4, .int (nI nfr), .ref a5, .ref a6, .int (nI nsy), .int (nI nai), .ref a7, .ref a8, .int (xas), .int (xan), .int (xst), .int (xhr), .int (xhb), .int (xse), .int (xbe), .ref a9, .ref b1, .ref b2, .ref b3, .ref b4, .ref b5, .ref b6, .ref b7, .ref b8, .ref c1, .ref c2, .ref c3, .ref c4, .ref c5, .ref c6, .ref c7, .int (xrg)])), (a7, .inl (tc 0, 560, .inl ((smF xs am ww k).1))), (a8, .inl (tc 0, 560, .inl ((smF xs am ww k).2)))]) (k_runS (As := [.int (smV (nsF (sX xs k)) am ((smF xs am ww k).1 k))]) (rest := [.int (nI k), .ref a7]) (wc := []) ⟨hx, hb, hml, hown, hts⟩ (c_MO_saturate l D tc tb (smV (nsF (sX xs k)) am ((smF xs am ww k).1 k))  H.size) (va_cwS 1 hts (k_goodS wd_856 wd_857 wd_11 wd_858) rfl rfl rfl hd_MO_saturate ⟨by rw [hR]; exact Nat.le_of_ble_eq_true rfl, by rw [hR]; exact Nat.le_of_ble_eq_true rfl⟩) hK hP hD hS hST hN hA [] (by decide) rfl rfl hl.1 rfl (Nat.le_of_ble_eq_true rfl) d_MO_stir_74 ⟨by rw [hR]; exact Nat.le_of_ble_eq_true rfl, by rw [hR]; exact Nat.le_of_ble_eq_true rfl⟩) hP hD hS hA [] [0, 1, 2] rfl rfl (by decide) (by decide) (fun _ H locs hp74 hP hD hS => ?_)
          have hP : va_P D classes [(h0, .inr (8, [.int (nI 0), .int (nI nby), .ref a1, .int (xra), .int (nI ndb), .ref a2, .int (nI ncb), .ref a3, .ref a4, .int (nI nfr), .ref a5, .ref a6, .int (nI nsy), .int (nI nai), .ref a7, .ref a8, .int (xas), .int (xan), .int (xst), .int (xhr), .int (xhb), .int (xse), .int (xbe), .ref a9, .ref b1, .ref b2, .ref b3, .ref b4, .ref b5, .ref b6, .ref b7, .ref b8, .ref c1, .ref c2, .ref c3, .ref c4, .ref c5, .ref c6, .ref c7, .int (xrg)])), (a7, .inl (tc 0, 560, .inl ((smF xs am ww k).1))), (a8, .inl (tc 0, 560, .inl ((smF xs am ww k).2)))] H := hP
          have hD : va_D A [(h0, .inr (8, [.int (nI 0), .int (nI nby), .ref a1, .int (xra), .int (nI ndb), .ref a2, .int (nI ncb), .ref a3, .ref a4, .int (nI nfr), .ref a5, .ref a6, .int (nI nsy), .int (nI nai), .ref a7, .ref a8, .int (xas), .int (xan), .int (xst), .int (xhr), .int (xhb), .int (xse), .int (xbe), .ref a9, .ref b1, .ref b2, .ref b3, .ref b4, .ref b5, .ref b6, .ref b7, .ref b8, .ref c1, .ref c2, .ref c3, .ref c4, .ref c5, .ref c6, .ref c7, .int (xrg)])), (a7, .inl (tc 0, 560, .inl ((smF xs am ww k).1))), (a8, .inl (tc 0, 560, .inl ((smF xs am ww k).2)))] := hD
          refine W.widen (k := 0) (n := 0) (Nat.le_of_ble_eq_true rfl) (Nat.le_of_ble_eq_true rfl) ?_
          refine W.eq (g2 := F0 m 77 ls [.int (satF (smV (nsF (sX xs k)) am ((smF xs am ww k).1 k))), .int (nI k), .ref a7]) rfl ?_
          refine k_iast (ws' := [(h0, .inr (8, [.int (nI 0), .int (nI nby), .ref a1, .int (xra), .int (nI ndb), .ref a2, .int (nI ncb), .ref a3, .ref a4, .int (nI nfr), .ref a5, .ref a6, .int (nI nsy), .int (nI nai), .ref a7, .ref a8, .int (xas), .int (xan), .int (xst), .int (xhr), .int (xhb), .int (xse), .int (xbe), .ref a9, .ref b1, .ref b2, .ref b3, .ref b4, .ref b5, .ref b6, .ref b7, .ref b8, .ref c1, .ref c2, .ref c3, .ref c4, .ref c5, .ref c6, .ref c7, .int (xrg)])), (a7, .inl (tc 0, 560, .inl (upd ((smF xs am ww k).1) k (satF (smV (nsF (sX xs k)) am ((smF xs am ww k).1 k)))))), (a8, .inl (tc 0, 560, .inl ((smF xs am ww k).2)))]) hx hb hK hP hD hS 1 0 rfl rfl (by omega) (by omega) d_MO_stir_77 rfl (fun H locs hP hD hS => ?_)
          refine lv_iload_n hx hb d_MO_stir_78 rfl (lv_at hl 0 rfl) ?_
          refine lv_ldc (v := nI 1103515245) hx hb hown (hw _ wd_917) d_MO_stir_79 ?_
          refine lv_imul hx hb d_MO_stir_81 ?_
          refine lv_sipush (v := nI 12345) hx hb d_MO_stir_82 (by decide) ?_
          refine lv_iadd hx hb d_MO_stir_85 ?_
          refine k_topi (y := nsF (nsF (sX xs k))) rfl ?_
          refine lv_istore_n (lv' := [(3, .int (nsF (nsF (sX xs k)))), (4, .int (nI k)), (0, .ref h0), (1, .int (nI am)), (2, .int (xs))]) hx hb d_MO_stir_86 rfl hl (by decide) rfl (fun ls hl => ?_)
          refine lv_aload_n hx hb d_MO_stir_87 rfl (lv_at hl 2 rfl) ?_
          refine k_get hx hb hw uw_MO hown hK hP 0 rfl rfl 15 (by decide) (hw _ wd_729) rfl d_MO_stir_88 ?_
          refine lv_iload hx hb d_MO_stir_91 (lv_at hl 1 rfl) ?_
          refine lv_aload_n hx hb d_MO_stir_93 rfl (lv_at hl 2 rfl) ?_
          refine k_get hx hb hw uw_MO hown hK hP 0 rfl rfl 15 (by decide) (hw _ wd_729) rfl d_MO_stir_94 ?_
          refine lv_iload hx hb d_MO_stir_97 (lv_at hl 1 rfl) ?_
          refine k_iald hx hb hK hP 2 0 rfl rfl (by omega) (by omega) d_MO_stir_99 ?_
          refine lv_iload_n hx hb d_MO_stir_100 rfl (lv_at hl 0 rfl) ?_
          refine lv_bipush (v := nI 16) hx hb d_MO_stir_101 (by decide) ?_
          refine lv_iushr hx hb d_MO_stir_103 rfl ?_
          refine lv_iconst (v := nI 2) hx hb d_MO_stir_104 (by decide) ?_
          refine lv_iload_n hx hb d_MO_stir_105 rfl (lv_at hl 3 rfl) ?_
          refine k_imul hx hb d_MO_stir_106 ?_
          refine lv_iconst (v := nI 1) hx hb d_MO_stir_107 (by decide) ?_
          refine k_iadd hx hb d_MO_stir_108 ?_
          refine lv_irem hx hb d_MO_stir_109 (nI_ne0 (by omega) (by omega)) ?_
          refine lv_iadd hx hb d_MO_stir_110 ?_
          refine lv_iload_n hx hb d_MO_stir_111 rfl (lv_at hl 3 rfl) ?_
          refine lv_isub hx hb d_MO_stir_112 ?_
          refine k_topi (y := smV (nsF (nsF (sX xs k))) am ((smF xs am ww k).2 k)) rfl ?_
          refine k_calli (wr := [(h0, .inr (8, [.int (nI 0), .int (nI nby), .ref a1, .int (xra), .int (nI ndb), .ref a2, .int (nI ncb), .ref a3, .ref a4, .int (nI nfr), .ref a5, .ref a6, .int (nI nsy), .int (nI nai), .ref a7, .ref a8, .int (xas), .int (xan), .int (xst), .int (xhr), .int (xhb), .int (xse), .int (xbe), .ref a9, .ref b1, .ref b2, .ref b3, .ref b4, .ref b5, .ref b6, .ref b7, .ref b8, .ref c1, .ref c2, .ref c3, .ref c4, .ref c5, .ref c6, .ref c7, .int (xrg)])), (a7, .inl (tc 0, 560, .inl (upd ((smF xs am ww k).1) k (satF (smV (nsF (sX xs k)) am ((smF xs am ww k).1 k)))))), (a8, .inl (tc 0, 560, .inl ((smF xs am ww k).2)))]) (k_runS (As := [.int (smV (nsF (nsF (sX xs k))) am ((smF xs am ww k).2 k))]) (rest := [.int (nI k), .ref a8]) (wc := []) ⟨hx, hb, hml, hown, hts⟩ (c_MO_saturate l D tc tb (smV (nsF (nsF (sX xs k))) am ((smF xs am ww k).2 k))  H.size) (va_cwS 1 hts (k_goodS wd_856 wd_857 wd_11 wd_858) rfl rfl rfl hd_MO_saturate ⟨by rw [hR]; exact Nat.le_of_ble_eq_true rfl, by rw [hR]; exact Nat.le_of_ble_eq_true rfl⟩) hK hP hD hS hST hN hA [] (by decide) rfl rfl hl.1 rfl (Nat.le_of_ble_eq_true rfl) d_MO_stir_113 ⟨by rw [hR]; exact Nat.le_of_ble_eq_true rfl, by rw [hR]; exact Nat.le_of_ble_eq_true rfl⟩) hP hD hS hA [] [0, 1, 2] rfl rfl (by decide) (by decide) (fun _ H locs hp113 hP hD hS => ?_)
          have hP : va_P D classes [(h0, .inr (8, [.int (nI 0), .int (nI nby), .ref a1, .int (xra), .int (nI ndb), .ref a2, .int (nI ncb), .ref a3, .ref a4, .int (nI nfr), .ref a5, .ref a6, .int (nI nsy), .int (nI nai), .ref a7, .ref a8, .int (xas), .int (xan), .int (xst), .int (xhr), .int (xhb), .int (xse), .int (xbe), .ref a9, .ref b1, .ref b2, .ref b3, .ref b4, .ref b5, .ref b6, .ref b7, .ref b8, .ref c1, .ref c2, .ref c3, .ref c4, .ref c5, .ref c6, .ref c7, .int (xrg)])), (a7, .inl (tc 0, 560, .inl (upd ((smF xs am ww k).1) k (satF (smV (nsF (sX xs k)) am ((smF xs am ww k).1 k)))))), (a8, .inl (tc 0, 560, .inl ((smF xs am ww k).2)))] H := hP
          have hD : va_D A [(h0, .inr (8, [.int (nI 0), .int (nI nby), .ref a1, .int (xra), .int (nI ndb), .ref a2, .int (nI ncb), .ref a3, .ref a4, .int (nI nfr), .ref a5, .ref a6, .int (nI nsy), .int (nI nai), .ref a7, .ref a8, .int (xas), .int (xan), .int (xst), .int (xhr), .int (xhb), .int (xse), .int (xbe), .ref a9, .ref b1, .ref b2, .ref b3, .ref b4, .ref b5, .ref b6, .ref b7, .ref b8, .ref c1, .ref c2, .ref c3, .ref c4, .ref c5, .ref c6, .ref c7, .int (xrg)])), (a7, .inl (tc 0, 560, .inl (upd ((smF xs am ww k).1) k (satF (smV (nsF (sX xs k)) am ((smF xs am ww k).1 k)))))), (a8, .inl (tc 0, 560, .inl ((smF xs am ww k).2)))] := hD
          refine W.widen (k := 0) (n := 0) (Nat.le_of_ble_eq_true rfl) (Nat.le_of_ble_eq_true rfl) ?_
          refine W.eq (g2 := F0 m 116 ls [.int (satF (smV (nsF (nsF (sX xs k))) am ((smF xs am ww k).2 k))), .int (nI k), .ref a8]) rfl ?_
          refine k_iast (ws' := [(h0, .inr (8, [.int (nI 0), .int (nI nby), .ref a1, .int (xra), .int (nI ndb), .ref a2, .int (nI ncb), .ref a3, .ref a4, .int (nI nfr), .ref a5, .ref a6, .int (nI nsy), .int (nI nai), .ref a7, .ref a8, .int (xas), .int (xan), .int (xst), .int (xhr), .int (xhb), .int (xse), .int (xbe), .ref a9, .ref b1, .ref b2, .ref b3, .ref b4, .ref b5, .ref b6, .ref b7, .ref b8, .ref c1, .ref c2, .ref c3, .ref c4, .ref c5, .ref c6, .ref c7, .int (xrg)])), (a7, .inl (tc 0, 560, .inl (upd ((smF xs am ww k).1) k (satF (smV (nsF (sX xs k)) am ((smF xs am ww k).1 k)))))), (a8, .inl (tc 0, 560, .inl (upd ((smF xs am ww k).2) k (satF (smV (nsF (nsF (sX xs k))) am ((smF xs am ww k).2 k))))))]) hx hb hK hP hD hS 2 0 rfl rfl (by omega) (by omega) d_MO_stir_116 rfl (fun H locs hP hD hS => ?_)
          refine lv_iinc (k := 1) (v := nI (k + 1)) (lv' := [(4, .int (nI (k + 1))), (3, .int (nsF (nsF (sX xs k)))), (0, .ref h0), (1, .int (nI am)), (2, .int (xs))]) hx hb d_MO_stir_117 hl rfl (k_incN _ 1) (by decide) rfl (fun ls hl => ?_)
          refine lv_goto (tgt := 30) hx hb d_MO_stir_120 (by decide) ?_
          exact ih_k (by omega)   H locs ls (lv_sub hl [0, 1, 2, 3, 4] rfl) (by rw [smF_s]; exact hP) (k_Ds hD [0, 1, 2] (by decide) rfl) hS
      · exfalso; omega
