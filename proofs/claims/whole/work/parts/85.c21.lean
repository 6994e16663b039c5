set_option maxHeartbeats 4000000 in
set_option maxRecDepth 100000 in
theorem c_CL_sample_00 (l : Launch) (D : va_G) (tc : Nat → ClassId) (tb : Nat → Nat) (h0 : Nat) (wq0 : Nat) (fw : Nat) (oa : Nat) (sn : Nat) (rc : Nat) (mc : Nat) (wi9 : Nat) (wq9 : Nat) (ac : Nat) (ww : RP) (xa : Int32) (k : Nat) (xb : Int32) (ha_ : xa = 0) (hb_ : xb = 0) (hk : k < ac) (hac : ac ≤ 480) (hv : (ww.1 k).toInt16.toInt32 = ww.1 k) : Mi l D tc tb y_CL_sample prog_1_method_6_code 5 (some .short) ({ frames := 1, cells := 0, slots := 0, locals := 21 }) [.ref h0, .int (xa), .int (nI k), .int (xb)] [(h0, .inr (0, [.ref wq0, .int (nI mc), .ref fw, .ref oa, .ref sn, .ref rc])), (fw, .inr (1, [.ref wi9, .ref wq9, .int (nI ac)])), (wi9, .inl (tc 1, 480, .inl ww.1)), (wq9, .inl (tc 1, 480, .inl ww.2))] (fun _ : Unit => True) (fun _ : Unit => ww.1 k) (fun _ : Unit => [(h0, .inr (0, [.ref wq0, .int (nI mc), .ref fw, .ref oa, .ref sn, .ref rc])), (fw, .inr (1, [.ref wi9, .ref wq9, .int (nI ac)])), (wi9, .inl (tc 1, 480, .inl ww.1)), (wq9, .inl (tc 1, 480, .inl ww.2))]) := by
  refine Mi.go (by decide) (Nat.le_of_ble_eq_true rfl) ?_
  intro p e s m below meth c A ls R args Q C
  obtain ⟨hx, hb, hr, hts, hown, hlk, hml, hin, hA, hST, hN, hK, hP, hD, hS, hl, hR, hQ⟩ := C
  have hw : ∀ w ∈ lw_g, w.before args s = true := fun w h => hts w (List.mem_cons_of_mem _ h)
  have hl : lv_has ls 5 [(0, .ref h0), (1, .int (xa)), (2, .int (nI k)), (3, .int (xb))] := hl
  refine lv_iload_n hx hb d_CL_sample_0 rfl (lv_at hl 1 rfl) ?_
  refine lv_if_eq (tgt := 11) hx hb d_CL_sample_1 (by decide) (fun h1 => ?_) (fun h1 => ?_)
  · refine lv_aload_n hx hb d_CL_sample_11 rfl (lv_at hl 0 rfl) ?_
    refine k_get hx hb hw uw_CL hown hK hP 0 rfl rfl 2 (by decide) (hw _ wd_253) rfl d_CL_sample_12 ?_
    refine lv_astore (lv' := [(4, .ref fw), (0, .ref h0), (1, .int (xa)), (2, .int (nI k)), (3, .int (xb))]) hx hb d_CL_sample_15 hl (by decide) rfl (fun ls hl => ?_)
    refine lv_aload hx hb d_CL_sample_17 (lv_at hl 0 rfl) ?_
    refine lv_iload_n hx hb d_CL_sample_19 rfl (lv_at hl 3 rfl) ?_
    refine k_calli (wr := [(h0, .inr (0, [.ref wq0, .int (nI mc), .ref fw, .ref oa, .ref sn, .ref rc]))]) (k_runV (As := [.int (nI k)]) (rest := []) (wc := [(fw, .inr (1, [.ref wi9, .ref wq9, .int (nI ac)])), (wi9, .inl (tc 1, 480, .inl ww.1)), (wq9, .inl (tc 1, 480, .inl ww.2))]) ⟨hx, hb, hml, hown, hts⟩ (c_WA_has l D tc tb fw wi9 wq9 ac 480 ww.1 ww.2 (nI k)  s.heap.size) (cwV 1 hts (k_goodV wd_289 wd_290 wd_291 wd_2 wd_292) rfl rfl rfl ⟨rfl, hd_WA_has⟩ ⟨by rw [hR]; exact Nat.le_of_ble_eq_true rfl, by rw [hR]; exact Nat.le_of_ble_eq_true rfl⟩) hK hP hD hS hST hN hA [1, 2, 3] (by decide) rfl 1 rfl rfl rfl rfl hl.1 rfl (Nat.le_of_ble_eq_true rfl) d_CL_sample_20 ⟨by rw [hR]; exact Nat.le_of_ble_eq_true rfl, by rw [hR]; exact Nat.le_of_ble_eq_true rfl⟩) hP hD hS hA [1, 2, 3] [0] rfl rfl (by decide) (by decide) (fun _ H locs hp20 hP hD hS => ?_)
    have hP : va_P D classes [(h0, .inr (0, [.ref wq0, .int (nI mc), .ref fw, .ref oa, .ref sn, .ref rc])), (fw, .inr (1, [.ref wi9, .ref wq9, .int (nI ac)])), (wi9, .inl (tc 1, 480, .inl ww.1)), (wq9, .inl (tc 1, 480, .inl ww.2))] H := hP
    have hD : va_D A [(h0, .inr (0, [.ref wq0, .int (nI mc), .ref fw, .ref oa, .ref sn, .ref rc])), (fw, .inr (1, [.ref wi9, .ref wq9, .int (nI ac)])), (wi9, .inl (tc 1, 480, .inl ww.1)), (wq9, .inl (tc 1, 480, .inl ww.2))] := hD
    refine W.widen (k := 0) (n := 0) (Nat.le_of_ble_eq_true rfl) (Nat.le_of_ble_eq_true rfl) ?_
    refine W.eq (g2 := F0 m 23 ls [.int (hasF (nI k) ac)]) rfl ?_
    refine lv_if_ne (tgt := 36) hx hb d_CL_sample_23 (by decide) (fun h23 => ?_) (fun h23 => ?_)
    · refine lv_iload_n hx hb d_CL_sample_36 rfl (lv_at hl 4 rfl) ?_
      refine lv_if_eq (tgt := 50) hx hb d_CL_sample_37 (by decide) (fun h37 => ?_) (fun h37 => ?_)
      · refine lv_aload hx hb d_CL_sample_50 (lv_at hl 0 rfl) ?_
        refine k_get hx hb hw uw_WA hown hK hP 1 rfl rfl 0 (by decide) (hw _ wd_36) rfl d_CL_sample_52 ?_
        refine lv_iload_n hx hb d_CL_sample_55 rfl (lv_at hl 3 rfl) ?_
        refine k_sald hx hb hK hP 2 1 rfl rfl (by omega) (by omega) d_CL_sample_56 ?_
        rw [hQ]
        exact k_zret () hx hb hr hlk hK hP hD hS [0, 1, 2, 3] (by decide) rfl trivial (nar_s hv) rfl d_CL_sample_57
      · exact absurd hb_ h37
    · exact absurd h23 (has_ok hk (by omega))
  · exact absurd ha_ h1
set_option maxHeartbeats 4000000 in
set_option maxRecDepth 100000 in
theorem c_CL_sample_01 (l : Launch) (D : va_G) (tc : Nat → ClassId) (tb : Nat → Nat) (h0 : Nat) (wq0 : Nat) (fw : Nat) (oa : Nat) (sn : Nat) (rc : Nat) (mc : Nat) (wi9 : Nat) (wq9 : Nat) (ac : Nat) (ww : RP) (xa : Int32) (k : Nat) (xb : Int32) (ha_ : xa = 0) (hb_ : ¬ xb = 0) (hk : k < ac) (hac : ac ≤ 480) (hv : (ww.2 k).toInt16.toInt32 = ww.2 k) : Mi l D tc tb y_CL_sample prog_1_method_6_code 5 (some .short) ({ frames := 1, cells := 0, slots := 0, locals := 21 }) [.ref h0, .int (xa), .int (nI k), .int (xb)] [(h0, .inr (0, [.ref wq0, .int (nI mc), .ref fw, .ref oa, .ref sn, .ref rc])), (fw, .inr (1, [.ref wi9, .ref wq9, .int (nI ac)])), (wi9, .inl (tc 1, 480, .inl ww.1)), (wq9, .inl (tc 1, 480, .inl ww.2))] (fun _ : Unit => True) (fun _ : Unit => ww.2 k) (fun _ : Unit => [(h0, .inr (0, [.ref wq0, .int (nI mc), .ref fw, .ref oa, .ref sn, .ref rc])), (fw, .inr (1, [.ref wi9, .ref wq9, .int (nI ac)])), (wi9, .inl (tc 1, 480, .inl ww.1)), (wq9, .inl (tc 1, 480, .inl ww.2))]) := by
  refine Mi.go (by decide) (Nat.le_of_ble_eq_true rfl) ?_
  intro p e s m below meth c A ls R args Q C
  obtain ⟨hx, hb, hr, hts, hown, hlk, hml, hin, hA, hST, hN, hK, hP, hD, hS, hl, hR, hQ⟩ := C
  have hw : ∀ w ∈ lw_g, w.before args s = true := fun w h => hts w (List.mem_cons_of_mem _ h)
  have hl : lv_has ls 5 [(0, .ref h0), (1, .int (xa)), (2, .int (nI k)), (3, .int (xb))] := hl
  refine lv_iload_n hx hb d_CL_sample_0 rfl (lv_at hl 1 rfl) ?_
  refine lv_if_eq (tgt := 11) hx hb d_CL_sample_1 (by decide) (fun h1 => ?_) (fun h1 => ?_)
  · refine lv_aload_n hx hb d_CL_sample_11 rfl (lv_at hl 0 rfl) ?_
    refine k_get hx hb hw uw_CL hown hK hP 0 rfl rfl 2 (by decide) (hw _ wd_253) rfl d_CL_sample_12 ?_
    refine lv_astore (lv' := [(4, .ref fw), (0, .ref h0), (1, .int (xa)), (2, .int (nI k)), (3, .int (xb))]) hx hb d_CL_sample_15 hl (by decide) rfl (fun ls hl => ?_)
    refine lv_aload hx hb d_CL_sample_17 (lv_at hl 0 rfl) ?_
    refine lv_iload_n hx hb d_CL_sample_19 rfl (lv_at hl 3 rfl) ?_
    refine k_calli (wr := [(h0, .inr (0, [.ref wq0, .int (nI mc), .ref fw, .ref oa, .ref sn, .ref rc]))]) (k_runV (As := [.int (nI k)]) (rest := []) (wc := [(fw, .inr (1, [.ref wi9, .ref wq9, .int (nI ac)])), (wi9, .inl (tc 1, 480, .inl ww.1)), (wq9, .inl (tc 1, 480, .inl ww.2))]) ⟨hx, hb, hml, hown, hts⟩ (c_WA_has l D tc tb fw wi9 wq9 ac 480 ww.1 ww.2 (nI k)  s.heap.size) (cwV 1 hts (k_goodV wd_289 wd_290 wd_291 wd_2 wd_292) rfl rfl rfl ⟨rfl, hd_WA_has⟩ ⟨by rw [hR]; exact Nat.le_of_ble_eq_true rfl, by rw [hR]; exact Nat.le_of_ble_eq_true rfl⟩) hK hP hD hS hST hN hA [1, 2, 3] (by decide) rfl 1 rfl rfl rfl rfl hl.1 rfl (Nat.le_of_ble_eq_true rfl) d_CL_sample_20 ⟨by rw [hR]; exact Nat.le_of_ble_eq_true rfl, by rw [hR]; exact Nat.le_of_ble_eq_true rfl⟩) hP hD hS hA [1, 2, 3] [0] rfl rfl (by decide) (by decide) (fun _ H locs hp20 hP hD hS => ?_)
    have hP : va_P D classes [(h0, .inr (0, [.ref wq0, .int (nI mc), .ref fw, .ref oa, .ref sn, .ref rc])), (fw, .inr (1, [.ref wi9, .ref wq9, .int (nI ac)])), (wi9, .inl (tc 1, 480, .inl ww.1)), (wq9, .inl (tc 1, 480, .inl ww.2))] H := hP
    have hD : va_D A [(h0, .inr (0, [.ref wq0, .int (nI mc), .ref fw, .ref oa, .ref sn, .ref rc])), (fw, .inr (1, [.ref wi9, .ref wq9, .int (nI ac)])), (wi9, .inl (tc 1, 480, .inl ww.1)), (wq9, .inl (tc 1, 480, .inl ww.2))] := hD
    refine W.widen (k := 0) (n := 0) (Nat.le_of_ble_eq_true rfl) (Nat.le_of_ble_eq_true rfl) ?_
    refine W.eq (g2 := F0 m 23 ls [.int (hasF (nI k) ac)]) rfl ?_
    refine lv_if_ne (tgt := 36) hx hb d_CL_sample_23 (by decide) (fun h23 => ?_) (fun h23 => ?_)
    · refine lv_iload_n hx hb d_CL_sample_36 rfl (lv_at hl 4 rfl) ?_
      refine lv_if_eq (tgt := 50) hx hb d_CL_sample_37 (by decide) (fun h37 => ?_) (fun h37 => ?_)
      · exact absurd h37 hb_
      · refine lv_aload hx hb d_CL_sample_40 (lv_at hl 0 rfl) ?_
        refine k_get hx hb hw uw_WA hown hK hP 1 rfl rfl 1 (by decide) (hw _ wd_40) rfl d_CL_sample_42 ?_
        refine lv_iload_n hx hb d_CL_sample_45 rfl (lv_at hl 3 rfl) ?_
        refine k_sald hx hb hK hP 3 1 rfl rfl (by omega) (by omega) d_CL_sample_46 ?_
        refine lv_goto (tgt := 57) hx hb d_CL_sample_47 (by decide) ?_
        rw [hQ]
        exact k_zret () hx hb hr hlk hK hP hD hS [0, 1, 2, 3] (by decide) rfl trivial (nar_s hv) rfl d_CL_sample_57
    · exact absurd h23 (has_ok hk (by omega))
  · exact absurd ha_ h1
set_option maxHeartbeats 4000000 in
set_option maxRecDepth 100000 in
theorem c_CL_sample_10 (l : Launch) (D : va_G) (tc : Nat → ClassId) (tb : Nat → Nat) (h0 : Nat) (wq0 : Nat) (fw : Nat) (oa : Nat) (sn : Nat) (rc : Nat) (mc : Nat) (wi9 : Nat) (wq9 : Nat) (ac : Nat) (ww : RP) (xa : Int32) (k : Nat) (xb : Int32) (ha_ : ¬ xa = 0) (hb_ : xb = 0) (hk : k < ac) (hac : ac ≤ 520) (hv : (ww.1 k).toInt16.toInt32 = ww.1 k) : Mi l D tc tb y_CL_sample prog_1_method_6_code 5 (some .short) ({ frames := 1, cells := 0, slots := 0, locals := 21 }) [.ref h0, .int (xa), .int (nI k), .int (xb)] [(h0, .inr (0, [.ref wq0, .int (nI mc), .ref fw, .ref oa, .ref sn, .ref rc])), (oa, .inr (1, [.ref wi9, .ref wq9, .int (nI ac)])), (wi9, .inl (tc 1, 520, .inl ww.1)), (wq9, .inl (tc 1, 520, .inl ww.2))] (fun _ : Unit => True) (fun _ : Unit => ww.1 k) (fun _ : Unit => [(h0, .inr (0, [.ref wq0, .int (nI mc), .ref fw, .ref oa, .ref sn, .ref rc])), (oa, .inr (1, [.ref wi9, .ref wq9, .int (nI ac)])), (wi9, .inl (tc 1, 520, .inl ww.1)), (wq9, .inl (tc 1, 520, .inl ww.2))]) := by
  refine Mi.go (by decide) (Nat.le_of_ble_eq_true rfl) ?_
  intro p e s m below meth c A ls R args Q C
  obtain ⟨hx, hb, hr, hts, hown, hlk, hml, hin, hA, hST, hN, hK, hP, hD, hS, hl, hR, hQ⟩ := C
  have hw : ∀ w ∈ lw_g, w.before args s = true := fun w h => hts w (List.mem_cons_of_mem _ h)
  have hl : lv_has ls 5 [(0, .ref h0), (1, .int (xa)), (2, .int (nI k)), (3, .int (xb))] := hl
  refine lv_iload_n hx hb d_CL_sample_0 rfl (lv_at hl 1 rfl) ?_
  refine lv_if_eq (tgt := 11) hx hb d_CL_sample_1 (by decide) (fun h1 => ?_) (fun h1 => ?_)
  · exact absurd h1 ha_
  · refine lv_aload_n hx hb d_CL_sample_4 rfl (lv_at hl 0 rfl) ?_
    refine k_get hx hb hw uw_CL hown hK hP 0 rfl rfl 3 (by decide) (hw _ wd_254) rfl d_CL_sample_5 ?_
    refine lv_goto (tgt := 15) hx hb d_CL_sample_8 (by decide) ?_
    refine lv_astore (lv' := [(4, .ref oa), (0, .ref h0), (1, .int (xa)), (2, .int (nI k)), (3, .int (xb))]) hx hb d_CL_sample_15 hl (by decide) rfl (fun ls hl => ?_)
    refine lv_aload hx hb d_CL_sample_17 (lv_at hl 0 rfl) ?_
    refine lv_iload_n hx hb d_CL_sample_19 rfl (lv_at hl 3 rfl) ?_
    refine k_calli (wr := [(h0, .inr (0, [.ref wq0, .int (nI mc), .ref fw, .ref oa, .ref sn, .ref rc]))]) (k_runV (As := [.int (nI k)]) (rest := []) (wc := [(oa, .inr (1, [.ref wi9, .ref wq9, .int (nI ac)])), (wi9, .inl (tc 1, 520, .inl ww.1)), (wq9, .inl (tc 1, 520, .inl ww.2))]) ⟨hx, hb, hml, hown, hts⟩ (c_WA_has l D tc tb oa wi9 wq9 ac 520 ww.1 ww.2 (nI k)  s.heap.size) (cwV 1 hts (k_goodV wd_289 wd_290 wd_291 wd_2 wd_292) rfl rfl rfl ⟨rfl, hd_WA_has⟩ ⟨by rw [hR]; exact Nat.le_of_ble_eq_true rfl, by rw [hR]; exact Nat.le_of_ble_eq_true rfl⟩) hK hP hD hS hST hN hA [1, 2, 3] (by decide) rfl 1 rfl rfl rfl rfl hl.1 rfl (Nat.le_of_ble_eq_true rfl) d_CL_sample_20 ⟨by rw [hR]; exact Nat.le_of_ble_eq_true rfl, by rw [hR]; exact Nat.le_of_ble_eq_true rfl⟩) hP hD hS hA [1, 2, 3] [0] rfl rfl (by decide) (by decide) (fun _ H locs hp20 hP hD hS => ?_)
    have hP : va_P D classes [(h0, .inr (0, [.ref wq0, .int (nI mc), .ref fw, .ref oa, .ref sn, .ref rc])), (oa, .inr (1, [.ref wi9, .ref wq9, .int (nI ac)])), (wi9, .inl (tc 1, 520, .inl ww.1)), (wq9, .inl (tc 1, 520, .inl ww.2))] H := hP
    have hD : va_D A [(h0, .inr (0, [.ref wq0, .int (nI mc), .ref fw, .ref oa, .ref sn, .ref rc])), (oa, .inr (1, [.ref wi9, .ref wq9, .int (nI ac)])), (wi9, .inl (tc 1, 520, .inl ww.1)), (wq9, .inl (tc 1, 520, .inl ww.2))] := hD
    refine W.widen (k := 0) (n := 0) (Nat.le_of_ble_eq_true rfl) (Nat.le_of_ble_eq_true rfl) ?_
    refine W.eq (g2 := F0 m 23 ls [.int (hasF (nI k) ac)]) rfl ?_
    refine lv_if_ne (tgt := 36) hx hb d_CL_sample_23 (by decide) (fun h23 => ?_) (fun h23 => ?_)
    · refine lv_iload_n hx hb d_CL_sample_36 rfl (lv_at hl 4 rfl) ?_
      refine lv_if_eq (tgt := 50) hx hb d_CL_sample_37 (by decide) (fun h37 => ?_) (fun h37 => ?_)
      · refine lv_aload hx hb d_CL_sample_50 (lv_at hl 0 rfl) ?_
        refine k_get hx hb hw uw_WA hown hK hP 1 rfl rfl 0 (by decide) (hw _ wd_36) rfl d_CL_sample_52 ?_
        refine lv_iload_n hx hb d_CL_sample_55 rfl (lv_at hl 3 rfl) ?_
        refine k_sald hx hb hK hP 2 1 rfl rfl (by omega) (by omega) d_CL_sample_56 ?_
        rw [hQ]
        exact k_zret () hx hb hr hlk hK hP hD hS [0, 1, 2, 3] (by decide) rfl trivial (nar_s hv) rfl d_CL_sample_57
      · exact absurd hb_ h37
    · exact absurd h23 (has_ok hk (by omega))
set_option maxHeartbeats 4000000 in
set_option maxRecDepth 100000 in
theorem c_CL_sample_11 (l : Launch) (D : va_G) (tc : Nat → ClassId) (tb : Nat → Nat) (h0 : Nat) (wq0 : Nat) (fw : Nat) (oa : Nat) (sn : Nat) (rc : Nat) (mc : Nat) (wi9 : Nat) (wq9 : Nat) (ac : Nat) (ww : RP) (xa : Int32) (k : Nat) (xb : Int32) (ha_ : ¬ xa = 0) (hb_ : ¬ xb = 0) (hk : k < ac) (hac : ac ≤ 520) (hv : (ww.2 k).toInt16.toInt32 = ww.2 k) : Mi l D tc tb y_CL_sample prog_1_method_6_code 5 (some .short) ({ frames := 1, cells := 0, slots := 0, locals := 21 }) [.ref h0, .int (xa), .int (nI k), .int (xb)] [(h0, .inr (0, [.ref wq0, .int (nI mc), .ref fw, .ref oa, .ref sn, .ref rc])), (oa, .inr (1, [.ref wi9, .ref wq9, .int (nI ac)])), (wi9, .inl (tc 1, 520, .inl ww.1)), (wq9, .inl (tc 1, 520, .inl ww.2))] (fun _ : Unit => True) (fun _ : Unit => ww.2 k) (fun _ : Unit => [(h0, .inr (0, [.ref wq0, .int (nI mc), .ref fw, .ref oa, .ref sn, .ref rc])), (oa, .inr (1, [.ref wi9, .ref wq9, .int (nI ac)])), (wi9, .inl (tc 1, 520, .inl ww.1)), (wq9, .inl (tc 1, 520, .inl ww.2))]) := by
  refine Mi.go (by decide) (Nat.le_of_ble_eq_true rfl) ?_
  intro p e s m below meth c A ls R args Q C
  obtain ⟨hx, hb, hr, hts, hown, hlk, hml, hin, hA, hST, hN, hK, hP, hD, hS, hl, hR, hQ⟩ := C
  have hw : ∀ w ∈ lw_g, w.before args s = true := fun w h => hts w (List.mem_cons_of_mem _ h)
  have hl : lv_has ls 5 [(0, .ref h0), (1, .int (xa)), (2, .int (nI k)), (3, .int (xb))] := hl
  refine lv_iload_n hx hb d_CL_sample_0 rfl (lv_at hl 1 rfl) ?_
  refine lv_if_eq (tgt := 11) hx hb d_CL_sample_1 (by decide) (fun h1 => ?_) (fun h1 => ?_)
  · exact absurd h1 ha_
  · refine lv_aload_n hx hb d_CL_sample_4 rfl (lv_at hl 0 rfl) ?_
    refine k_get hx hb hw uw_CL hown hK hP 0 rfl rfl 3 (by decide) (hw _ wd_254) rfl d_CL_sample_5 ?_
    refine lv_goto (tgt := 15) hx hb d_CL_sample_8 (by decide) ?_
    refine lv_astore (lv' := [(4, .ref oa), (0, .ref h0), (1, .int (xa)), (2, .int (nI k)), (3, .int (xb))]) hx hb d_CL_sample_15 hl (by decide) rfl (fun ls hl => ?_)
    refine lv_aload hx hb d_CL_sample_17 (lv_at hl 0 rfl) ?_
    refine lv_iload_n hx hb d_CL_sample_19 rfl (lv_at hl 3 rfl) ?_
    refine k_calli (wr := [(h0, .inr (0, [.ref wq0, .int (nI mc), .ref fw, .ref oa, .ref sn, .ref rc]))]) (k_runV (As := [.int (nI k)]) (rest := []) (wc := [(oa, .inr (1, [.ref wi9, .ref wq9, .int (nI ac)])), (wi9, .inl (tc 1, 520, .inl ww.1)), (wq9, .inl (tc 1, 520, .inl ww.2))]) ⟨hx, hb, hml, hown, hts⟩ (c_WA_has l D tc tb oa wi9 wq9 ac 520 ww.1 ww.2 (nI k)  s.heap.size) (cwV 1 hts (k_goodV wd_289 wd_290 wd_291 wd_2 wd_292) rfl rfl rfl ⟨rfl, hd_WA_has⟩ ⟨by rw [hR]; exact Nat.le_of_ble_eq_true rfl, by rw [hR]; exact Nat.le_of_ble_eq_true rfl⟩) hK hP hD hS hST hN hA [1, 2, 3] (by decide) rfl 1 rfl rfl rfl rfl hl.1 rfl (Nat.le_of_ble_eq_true rfl) d_CL_sample_20 ⟨by rw [hR]; exact Nat.le_of_ble_eq_true rfl, by rw [hR]; exact Nat.le_of_ble_eq_true rfl⟩) hP hD hS hA [1, 2, 3] [0] rfl rfl (by decide) (by decide) (fun _ H locs hp20 hP hD hS => ?_)
    have hP : va_P D classes [(h0, .inr (0, [.ref wq0, .int (nI mc), .ref fw, .ref oa, .ref sn, .ref rc])), (oa, .inr (1, [.ref wi9, .ref wq9, .int (nI ac)])), (wi9, .inl (tc 1, 520, .inl ww.1)), (wq9, .inl (tc 1, 520, .inl ww.2))] H := hP
    have hD : va_D A [(h0, .inr (0, [.ref wq0, .int (nI mc), .ref fw, .ref oa, .ref sn, .ref rc])), (oa, .inr (1, [.ref wi9, .ref wq9, .int (nI ac)])), (wi9, .inl (tc 1, 520, .inl ww.1)), (wq9, .inl (tc 1, 520, .inl ww.2))] := hD
    refine W.widen (k := 0) (n := 0) (Nat.le_of_ble_eq_true rfl) (Nat.le_of_ble_eq_true rfl) ?_
    refine W.eq (g2 := F0 m 23 ls [.int (hasF (nI k) ac)]) rfl ?_
    refine lv_if_ne (tgt := 36) hx hb d_CL_sample_23 (by decide) (fun h23 => ?_) (fun h23 => ?_)
    · refine lv_iload_n hx hb d_CL_sample_36 rfl (lv_at hl 4 rfl) ?_
      refine lv_if_eq (tgt := 50) hx hb d_CL_sample_37 (by decide) (fun h37 => ?_) (fun h37 => ?_)
      · exact absurd h37 hb_
      · refine lv_aload hx hb d_CL_sample_40 (lv_at hl 0 rfl) ?_
        refine k_get hx hb hw uw_WA hown hK hP 1 rfl rfl 1 (by decide) (hw _ wd_40) rfl d_CL_sample_42 ?_
        refine lv_iload_n hx hb d_CL_sample_45 rfl (lv_at hl 3 rfl) ?_
        refine k_sald hx hb hK hP 3 1 rfl rfl (by omega) (by omega) d_CL_sample_46 ?_
        refine lv_goto (tgt := 57) hx hb d_CL_sample_47 (by decide) ?_
        rw [hQ]
        exact k_zret () hx hb hr hlk hK hP hD hS [0, 1, 2, 3] (by decide) rfl trivial (nar_s hv) rfl d_CL_sample_57
    · exact absurd h23 (has_ok hk (by omega))
