set_option maxHeartbeats 4000000 in
set_option maxRecDepth 100000 in
theorem c_CL_bit_none (l : Launch) (D : va_G) (tc : Nat → ClassId) (tb : Nat → Nat) (h0 : Nat) (wq0 : Nat) (fw : Nat) (oa : Nat) (sn : Nat) (rc : Nat) (mc : Nat) (fi : Nat) (fq : Nat) (fc : Nat) (xs : Int32) (xk : Int32) (hf0 : fc = 0) : Mi l D tc tb y_CL_bit prog_1_method_5_code 4 (some .int) ({ frames := 0, cells := 0, slots := 0, locals := 0 }) [.ref h0, .int (xs), .int (xk)] [(h0, .inr (0, [.ref wq0, .int (nI mc), .ref fw, .ref oa, .ref sn, .ref rc])), (fw, .inr (1, [.ref fi, .ref fq, .int (nI fc)]))] (fun _ : Unit => True) (fun _ : Unit => -1) (fun _ : Unit => [(h0, .inr (0, [.ref wq0, .int (nI mc), .ref fw, .ref oa, .ref sn, .ref rc])), (fw, .inr (1, [.ref fi, .ref fq, .int (nI fc)]))]) := by
  refine Mi.go (by decide) (Nat.le_of_ble_eq_true rfl) ?_
  intro p e s m below meth c A ls R args Q C
  obtain ⟨hx, hb, hr, hts, hown, hlk, hml, hin, hA, hST, hN, hK, hP, hD, hS, hl, hR, hQ⟩ := C
  have hw : ∀ w ∈ lw_g, w.before args s = true := fun w h => hts w (List.mem_cons_of_mem _ h)
  have hl : lv_has ls 4 [(0, .ref h0), (1, .int (xs)), (2, .int (xk))] := hl
  refine lv_aload_n hx hb d_CL_bit_0 rfl (lv_at hl 0 rfl) ?_
  refine k_get hx hb hw uw_CL hown hK hP 0 rfl rfl 2 (by decide) (hw _ wd_253) rfl d_CL_bit_1 ?_
  refine k_get hx hb hw uw_WA hown hK hP 1 rfl rfl 2 (by decide) (hw _ wd_43) rfl d_CL_bit_4 ?_
  refine k_if_ne (tgt := 12) hx hb d_CL_bit_7 (by decide) (by omega) (fun h7 => ?_) (fun h7 => ?_)
  · exfalso; omega
  · refine lv_iconst (v := -1) hx hb d_CL_bit_10 (by decide) ?_
    rw [hQ]
    exact k_iret () hx hb hr hlk hK hP hD hS [0, 1] (by decide) rfl trivial rfl d_CL_bit_11
set_option maxHeartbeats 4000000 in
set_option maxRecDepth 100000 in
theorem c_CL_bit_out (l : Launch) (D : va_G) (tc : Nat → ClassId) (tb : Nat → Nat) (h0 : Nat) (wq0 : Nat) (fw : Nat) (oa : Nat) (sn : Nat) (rc : Nat) (mc : Nat) (fi : Nat) (fq : Nat) (fc : Nat) (sd : Nat) (ss : Nat) (sf : Nat) (st : Nat) (sp : Nat) (sc : Nat) (si : Nat) (d1 : Nat) (d2 : Nat) (d3 : Nat) (pn : Nat) (cn : Nat) (xs : Int32) (xk : Int32) (hf0 : 0 < fc) (hfc : fc ≤ 480) (hbad : xs < 0 ∨ nI 2 < xs) : Mi l D tc tb y_CL_bit prog_1_method_5_code 4 (some .int) ({ frames := 0, cells := 0, slots := 0, locals := 0 }) [.ref h0, .int (xs), .int (xk)] [(h0, .inr (0, [.ref wq0, .int (nI mc), .ref fw, .ref oa, .ref sn, .ref rc])), (fw, .inr (1, [.ref fi, .ref fq, .int (nI fc)])), (sn, .inr (5, [.ref sd, .ref ss, .ref sf, .ref st, .ref sp, .ref sc, .ref si])), (sd, .inr (4, [.ref d1, .ref d2, .ref d3, .int (nI pn), .int (nI cn)]))] (fun _ : Unit => True) (fun _ : Unit => -1) (fun _ : Unit => [(h0, .inr (0, [.ref wq0, .int (nI mc), .ref fw, .ref oa, .ref sn, .ref rc])), (fw, .inr (1, [.ref fi, .ref fq, .int (nI fc)])), (sn, .inr (5, [.ref sd, .ref ss, .ref sf, .ref st, .ref sp, .ref sc, .ref si])), (sd, .inr (4, [.ref d1, .ref d2, .ref d3, .int (nI pn), .int (nI cn)]))]) := by
  refine Mi.go (by decide) (Nat.le_of_ble_eq_true rfl) ?_
  intro p e s m below meth c A ls R args Q C
  obtain ⟨hx, hb, hr, hts, hown, hlk, hml, hin, hA, hST, hN, hK, hP, hD, hS, hl, hR, hQ⟩ := C
  have hw : ∀ w ∈ lw_g, w.before args s = true := fun w h => hts w (List.mem_cons_of_mem _ h)
  have hl : lv_has ls 4 [(0, .ref h0), (1, .int (xs)), (2, .int (xk))] := hl
  refine lv_aload_n hx hb d_CL_bit_0 rfl (lv_at hl 0 rfl) ?_
  refine k_get hx hb hw uw_CL hown hK hP 0 rfl rfl 2 (by decide) (hw _ wd_253) rfl d_CL_bit_1 ?_
  refine k_get hx hb hw uw_WA hown hK hP 1 rfl rfl 2 (by decide) (hw _ wd_43) rfl d_CL_bit_4 ?_
  refine k_if_ne (tgt := 12) hx hb d_CL_bit_7 (by decide) (by omega) (fun h7 => ?_) (fun h7 => ?_)
  · refine lv_aload_n hx hb d_CL_bit_12 rfl (lv_at hl 0 rfl) ?_
    refine k_get hx hb hw uw_CL hown hK hP 0 rfl rfl 4 (by decide) (hw _ wd_255) rfl d_CL_bit_13 ?_
    refine k_get hx hb hw uw_SE hown hK hP 2 rfl rfl 0 (by decide) (hw _ wd_145) rfl d_CL_bit_16 ?_
    refine lv_astore_n (lv' := [(3, .ref sd), (0, .ref h0), (1, .int (xs)), (2, .int (xk))]) hx hb d_CL_bit_19 rfl hl (by decide) rfl (fun ls hl => ?_)
    refine lv_iload_n hx hb d_CL_bit_20 rfl (lv_at hl 2 rfl) ?_
    refine lv_tableOut (tgt := 87) hx hb d_CL_bit_21 (sw_out hbad) (by decide) ?_
    refine lv_iconst (v := -1) hx hb d_CL_bit_87 (by decide) ?_
    rw [hQ]
    exact k_iret () hx hb hr hlk hK hP hD hS [0, 1, 2, 3] (by decide) rfl trivial rfl d_CL_bit_88
  · exfalso; omega
set_option maxHeartbeats 4000000 in
set_option maxRecDepth 100000 in
theorem c_CL_bit_m1_0 (l : Launch) (D : va_G) (tc : Nat → ClassId) (tb : Nat → Nat) (h0 : Nat) (wq0 : Nat) (fw : Nat) (oa : Nat) (sn : Nat) (rc : Nat) (mc : Nat) (fi : Nat) (fq : Nat) (fc : Nat) (sd : Nat) (ss : Nat) (sf : Nat) (st : Nat) (sp : Nat) (sc : Nat) (si : Nat) (d1 : Nat) (d2 : Nat) (d3 : Nat) (pn : Nat) (cn : Nat) (hf0 : 0 < fc) (hfc : fc ≤ 480) : Mi l D tc tb y_CL_bit prog_1_method_5_code 4 (some .int) ({ frames := 1, cells := 0, slots := 0, locals := 22 }) [.ref h0, .int (nI 0), .int (-1)] [(h0, .inr (0, [.ref wq0, .int (nI mc), .ref fw, .ref oa, .ref sn, .ref rc])), (fw, .inr (1, [.ref fi, .ref fq, .int (nI fc)])), (sn, .inr (5, [.ref sd, .ref ss, .ref sf, .ref st, .ref sp, .ref sc, .ref si])), (sd, .inr (4, [.ref d1, .ref d2, .ref d3, .int (nI pn), .int (nI cn)]))] (fun _ : Unit => True) (fun _ : Unit => nI pn) (fun _ : Unit => [(h0, .inr (0, [.ref wq0, .int (nI mc), .ref fw, .ref oa, .ref sn, .ref rc])), (fw, .inr (1, [.ref fi, .ref fq, .int (nI fc)])), (sn, .inr (5, [.ref sd, .ref ss, .ref sf, .ref st, .ref sp, .ref sc, .ref si])), (sd, .inr (4, [.ref d1, .ref d2, .ref d3, .int (nI pn), .int (nI cn)]))]) := by
  refine Mi.go (by decide) (Nat.le_of_ble_eq_true rfl) ?_
  intro p e s m below meth c A ls R args Q C
  obtain ⟨hx, hb, hr, hts, hown, hlk, hml, hin, hA, hST, hN, hK, hP, hD, hS, hl, hR, hQ⟩ := C
  have hw : ∀ w ∈ lw_g, w.before args s = true := fun w h => hts w (List.mem_cons_of_mem _ h)
  have hl : lv_has ls 4 [(0, .ref h0), (1, .int (nI 0)), (2, .int (-1))] := hl
  refine lv_aload_n hx hb d_CL_bit_0 rfl (lv_at hl 0 rfl) ?_
  refine k_get hx hb hw uw_CL hown hK hP 0 rfl rfl 2 (by decide) (hw _ wd_253) rfl d_CL_bit_1 ?_
  refine k_get hx hb hw uw_WA hown hK hP 1 rfl rfl 2 (by decide) (hw _ wd_43) rfl d_CL_bit_4 ?_
  refine k_if_ne (tgt := 12) hx hb d_CL_bit_7 (by decide) (by omega) (fun h7 => ?_) (fun h7 => ?_)
  · refine lv_aload_n hx hb d_CL_bit_12 rfl (lv_at hl 0 rfl) ?_
    refine k_get hx hb hw uw_CL hown hK hP 0 rfl rfl 4 (by decide) (hw _ wd_255) rfl d_CL_bit_13 ?_
    refine k_get hx hb hw uw_SE hown hK hP 2 rfl rfl 0 (by decide) (hw _ wd_145) rfl d_CL_bit_16 ?_
    refine lv_astore_n (lv' := [(3, .ref sd), (0, .ref h0), (1, .int (nI 0)), (2, .int (-1))]) hx hb d_CL_bit_19 rfl hl (by decide) rfl (fun ls hl => ?_)
    refine lv_iload_n hx hb d_CL_bit_20 rfl (lv_at hl 2 rfl) ?_
    refine lv_tableIn (tgt := 48) hx hb d_CL_bit_21 (by decide) (by decide) rfl (by decide) ?_
    refine lv_aload_n hx hb d_CL_bit_48 rfl (lv_at hl 0 rfl) ?_
    refine k_get hx hb hw uw_BR hown hK hP 3 rfl rfl 0 (by decide) (hw _ wd_108) rfl d_CL_bit_49 ?_
    refine lv_aload_n hx hb d_CL_bit_52 rfl (lv_at hl 0 rfl) ?_
    refine k_get hx hb hw uw_BR hown hK hP 3 rfl rfl 3 (by decide) (hw _ wd_116) rfl d_CL_bit_53 ?_
    refine lv_iload_n hx hb d_CL_bit_56 rfl (lv_at hl 3 rfl) ?_
    refine k_calli (wr := [(h0, .inr (0, [.ref wq0, .int (nI mc), .ref fw, .ref oa, .ref sn, .ref rc])), (fw, .inr (1, [.ref fi, .ref fq, .int (nI fc)])), (sn, .inr (5, [.ref sd, .ref ss, .ref sf, .ref st, .ref sp, .ref sc, .ref si])), (sd, .inr (4, [.ref d1, .ref d2, .ref d3, .int (nI pn), .int (nI cn)]))]) (k_runS (As := [.ref d1, .int (nI pn), .int (-1)]) (rest := []) (wc := []) ⟨hx, hb, hml, hown, hts⟩ (c_CL_bitOrCount_m1 l D tc tb d1 pn  s.heap.size) (va_cwS 3 hts (k_goodS wd_282 wd_283 wd_1 wd_284) rfl rfl rfl hd_CL_bitOrCount ⟨by rw [hR]; exact Nat.le_of_ble_eq_true rfl, by rw [hR]; exact Nat.le_of_ble_eq_true rfl⟩) hK hP hD hS hST hN hA [] (by decide) rfl rfl hl.1 rfl (Nat.le_of_ble_eq_true rfl) d_CL_bit_57 ⟨by rw [hR]; exact Nat.le_of_ble_eq_true rfl, by rw [hR]; exact Nat.le_of_ble_eq_true rfl⟩) hP hD hS hA [] [0, 1, 2, 3] rfl rfl (by decide) (by decide) (fun _ H locs hp57 hP hD hS => ?_)
    have hP : va_P D classes [(h0, .inr (0, [.ref wq0, .int (nI mc), .ref fw, .ref oa, .ref sn, .ref rc])), (fw, .inr (1, [.ref fi, .ref fq, .int (nI fc)])), (sn, .inr (5, [.ref sd, .ref ss, .ref sf, .ref st, .ref sp, .ref sc, .ref si])), (sd, .inr (4, [.ref d1, .ref d2, .ref d3, .int (nI pn), .int (nI cn)]))] H := hP
    have hD : va_D A [(h0, .inr (0, [.ref wq0, .int (nI mc), .ref fw, .ref oa, .ref sn, .ref rc])), (fw, .inr (1, [.ref fi, .ref fq, .int (nI fc)])), (sn, .inr (5, [.ref sd, .ref ss, .ref sf, .ref st, .ref sp, .ref sc, .ref si])), (sd, .inr (4, [.ref d1, .ref d2, .ref d3, .int (nI pn), .int (nI cn)]))] := hD
    refine W.widen (k := 0) (n := 0) (Nat.le_of_ble_eq_true rfl) (Nat.le_of_ble_eq_true rfl) ?_
    refine W.eq (g2 := F0 m 60 ls [.int (nI pn)]) rfl ?_
    rw [hQ]
    exact k_iret () hx hb hr hlk hK hP hD hS [0, 1, 2, 3] (by decide) rfl trivial rfl d_CL_bit_60
  · exfalso; omega
set_option maxHeartbeats 4000000 in
set_option maxRecDepth 100000 in
theorem c_CL_bit_no_0 (l : Launch) (D : va_G) (tc : Nat → ClassId) (tb : Nat → Nat) (h0 : Nat) (wq0 : Nat) (fw : Nat) (oa : Nat) (sn : Nat) (rc : Nat) (mc : Nat) (fi : Nat) (fq : Nat) (fc : Nat) (sd : Nat) (ss : Nat) (sf : Nat) (st : Nat) (sp : Nat) (sc : Nat) (si : Nat) (d1 : Nat) (d2 : Nat) (d3 : Nat) (pn : Nat) (cn : Nat) (xk : Int32) (hf0 : 0 < fc) (hfc : fc ≤ 480) (hm : ¬ xk = -1) (hbad : xk < 0 ∨ ¬ xk < nI pn) : Mi l D tc tb y_CL_bit prog_1_method_5_code 4 (some .int) ({ frames := 1, cells := 0, slots := 0, locals := 22 }) [.ref h0, .int (nI 0), .int (xk)] [(h0, .inr (0, [.ref wq0, .int (nI mc), .ref fw, .ref oa, .ref sn, .ref rc])), (fw, .inr (1, [.ref fi, .ref fq, .int (nI fc)])), (sn, .inr (5, [.ref sd, .ref ss, .ref sf, .ref st, .ref sp, .ref sc, .ref si])), (sd, .inr (4, [.ref d1, .ref d2, .ref d3, .int (nI pn), .int (nI cn)]))] (fun _ : Unit => True) (fun _ : Unit => -1) (fun _ : Unit => [(h0, .inr (0, [.ref wq0, .int (nI mc), .ref fw, .ref oa, .ref sn, .ref rc])), (fw, .inr (1, [.ref fi, .ref fq, .int (nI fc)])), (sn, .inr (5, [.ref sd, .ref ss, .ref sf, .ref st, .ref sp, .ref sc, .ref si])), (sd, .inr (4, [.ref d1, .ref d2, .ref d3, .int (nI pn), .int (nI cn)]))]) := by
  refine Mi.go (by decide) (Nat.le_of_ble_eq_true rfl) ?_
  intro p e s m below meth c A ls R args Q C
  obtain ⟨hx, hb, hr, hts, hown, hlk, hml, hin, hA, hST, hN, hK, hP, hD, hS, hl, hR, hQ⟩ := C
  have hw : ∀ w ∈ lw_g, w.before args s = true := fun w h => hts w (List.mem_cons_of_mem _ h)
  have hl : lv_has ls 4 [(0, .ref h0), (1, .int (nI 0)), (2, .int (xk))] := hl
  refine lv_aload_n hx hb d_CL_bit_0 rfl (lv_at hl 0 rfl) ?_
  refine k_get hx hb hw uw_CL hown hK hP 0 rfl rfl 2 (by decide) (hw _ wd_253) rfl d_CL_bit_1 ?_
  refine k_get hx hb hw uw_WA hown hK hP 1 rfl rfl 2 (by decide) (hw _ wd_43) rfl d_CL_bit_4 ?_
  refine k_if_ne (tgt := 12) hx hb d_CL_bit_7 (by decide) (by omega) (fun h7 => ?_) (fun h7 => ?_)
  · refine lv_aload_n hx hb d_CL_bit_12 rfl (lv_at hl 0 rfl) ?_
    refine k_get hx hb hw uw_CL hown hK hP 0 rfl rfl 4 (by decide) (hw _ wd_255) rfl d_CL_bit_13 ?_
    refine k_get hx hb hw uw_SE hown hK hP 2 rfl rfl 0 (by decide) (hw _ wd_145) rfl d_CL_bit_16 ?_
    refine lv_astore_n (lv' := [(3, .ref sd), (0, .ref h0), (1, .int (nI 0)), (2, .int (xk))]) hx hb d_CL_bit_19 rfl hl (by decide) rfl (fun ls hl => ?_)
    refine lv_iload_n hx hb d_CL_bit_20 rfl (lv_at hl 2 rfl) ?_
    refine lv_tableIn (tgt := 48) hx hb d_CL_bit_21 (by decide) (by decide) rfl (by decide) ?_
    refine lv_aload_n hx hb d_CL_bit_48 rfl (lv_at hl 0 rfl) ?_
    refine k_get hx hb hw uw_BR hown hK hP 3 rfl rfl 0 (by decide) (hw _ wd_108) rfl d_CL_bit_49 ?_
    refine lv_aload_n hx hb d_CL_bit_52 rfl (lv_at hl 0 rfl) ?_
    refine k_get hx hb hw uw_BR hown hK hP 3 rfl rfl 3 (by decide) (hw _ wd_116) rfl d_CL_bit_53 ?_
    refine lv_iload_n hx hb d_CL_bit_56 rfl (lv_at hl 3 rfl) ?_
    refine k_calli (wr := [(h0, .inr (0, [.ref wq0, .int (nI mc), .ref fw, .ref oa, .ref sn, .ref rc])), (fw, .inr (1, [.ref fi, .ref fq, .int (nI fc)])), (sn, .inr (5, [.ref sd, .ref ss, .ref sf, .ref st, .ref sp, .ref sc, .ref si])), (sd, .inr (4, [.ref d1, .ref d2, .ref d3, .int (nI pn), .int (nI cn)]))]) (k_runS (As := [.ref d1, .int (nI pn), .int (xk)]) (rest := []) (wc := []) ⟨hx, hb, hml, hown, hts⟩ (c_CL_bitOrCount_no l D tc tb d1 pn xk hm hbad s.heap.size) (va_cwS 3 hts (k_goodS wd_282 wd_283 wd_1 wd_284) rfl rfl rfl hd_CL_bitOrCount ⟨by rw [hR]; exact Nat.le_of_ble_eq_true rfl, by rw [hR]; exact Nat.le_of_ble_eq_true rfl⟩) hK hP hD hS hST hN hA [] (by decide) rfl rfl hl.1 rfl (Nat.le_of_ble_eq_true rfl) d_CL_bit_57 ⟨by rw [hR]; exact Nat.le_of_ble_eq_true rfl, by rw [hR]; exact Nat.le_of_ble_eq_true rfl⟩) hP hD hS hA [] [0, 1, 2, 3] rfl rfl (by decide) (by decide) (fun _ H locs hp57 hP hD hS => ?_)
    have hP : va_P D classes [(h0, .inr (0, [.ref wq0, .int (nI mc), .ref fw, .ref oa, .ref sn, .ref rc])), (fw, .inr (1, [.ref fi, .ref fq, .int (nI fc)])), (sn, .inr (5, [.ref sd, .ref ss, .ref sf, .ref st, .ref sp, .ref sc, .ref si])), (sd, .inr (4, [.ref d1, .ref d2, .ref d3, .int (nI pn), .int (nI cn)]))] H := hP
    have hD : va_D A [(h0, .inr (0, [.ref wq0, .int (nI mc), .ref fw, .ref oa, .ref sn, .ref rc])), (fw, .inr (1, [.ref fi, .ref fq, .int (nI fc)])), (sn, .inr (5, [.ref sd, .ref ss, .ref sf, .ref st, .ref sp, .ref sc, .ref si])), (sd, .inr (4, [.ref d1, .ref d2, .ref d3, .int (nI pn), .int (nI cn)]))] := hD
    refine W.widen (k := 0) (n := 0) (Nat.le_of_ble_eq_true rfl) (Nat.le_of_ble_eq_true rfl) ?_
    refine W.eq (g2 := F0 m 60 ls [.int (-1)]) rfl ?_
    rw [hQ]
    exact k_iret () hx hb hr hlk hK hP hD hS [0, 1, 2, 3] (by decide) rfl trivial rfl d_CL_bit_60
  · exfalso; omega
set_option maxHeartbeats 4000000 in
set_option maxRecDepth 100000 in
theorem c_CL_bit_ok_0 (l : Launch) (D : va_G) (tc : Nat → ClassId) (tb : Nat → Nat) (h0 : Nat) (wq0 : Nat) (fw : Nat) (oa : Nat) (sn : Nat) (rc : Nat) (mc : Nat) (fi : Nat) (fq : Nat) (fc : Nat) (sd : Nat) (ss : Nat) (sf : Nat) (st : Nat) (sp : Nat) (sc : Nat) (si : Nat) (d1 : Nat) (d2 : Nat) (d3 : Nat) (pn : Nat) (cn : Nat) (f : Nat → Int32) (k : Nat) (hf0 : 0 < fc) (hfc : fc ≤ 480) (hk : k < pn) (hcn : pn ≤ 144) : Mi l D tc tb y_CL_bit prog_1_method_5_code 4 (some .int) ({ frames := 1, cells := 0, slots := 0, locals := 22 }) [.ref h0, .int (nI 0), .int (nI k)] [(h0, .inr (0, [.ref wq0, .int (nI mc), .ref fw, .ref oa, .ref sn, .ref rc])), (fw, .inr (1, [.ref fi, .ref fq, .int (nI fc)])), (sn, .inr (5, [.ref sd, .ref ss, .ref sf, .ref st, .ref sp, .ref sc, .ref si])), (sd, .inr (4, [.ref d1, .ref d2, .ref d3, .int (nI pn), .int (nI cn)])), (d1, .inl (tc 0, 144, .inl f))] (fun _ : Unit => True) (fun _ : Unit => f k) (fun _ : Unit => [(h0, .inr (0, [.ref wq0, .int (nI mc), .ref fw, .ref oa, .ref sn, .ref rc])), (fw, .inr (1, [.ref fi, .ref fq, .int (nI fc)])), (sn, .inr (5, [.ref sd, .ref ss, .ref sf, .ref st, .ref sp, .ref sc, .ref si])), (sd, .inr (4, [.ref d1, .ref d2, .ref d3, .int (nI pn), .int (nI cn)])), (d1, .inl (tc 0, 144, .inl f))]) := by
  refine Mi.go (by decide) (Nat.le_of_ble_eq_true rfl) ?_
  intro p e s m below meth c A ls R args Q C
  obtain ⟨hx, hb, hr, hts, hown, hlk, hml, hin, hA, hST, hN, hK, hP, hD, hS, hl, hR, hQ⟩ := C
  have hw : ∀ w ∈ lw_g, w.before args s = true := fun w h => hts w (List.mem_cons_of_mem _ h)
  have hl : lv_has ls 4 [(0, .ref h0), (1, .int (nI 0)), (2, .int (nI k))] := hl
  refine lv_aload_n hx hb d_CL_bit_0 rfl (lv_at hl 0 rfl) ?_
  refine k_get hx hb hw uw_CL hown hK hP 0 rfl rfl 2 (by decide) (hw _ wd_253) rfl d_CL_bit_1 ?_
  refine k_get hx hb hw uw_WA hown hK hP 1 rfl rfl 2 (by decide) (hw _ wd_43) rfl d_CL_bit_4 ?_
  refine k_if_ne (tgt := 12) hx hb d_CL_bit_7 (by decide) (by omega) (fun h7 => ?_) (fun h7 => ?_)
  · refine lv_aload_n hx hb d_CL_bit_12 rfl (lv_at hl 0 rfl) ?_
    refine k_get hx hb hw uw_CL hown hK hP 0 rfl rfl 4 (by decide) (hw _ wd_255) rfl d_CL_bit_13 ?_
    refine k_get hx hb hw uw_SE hown hK hP 2 rfl rfl 0 (by decide) (hw _ wd_145) rfl d_CL_bit_16 ?_
    refine lv_astore_n (lv' := [(3, .ref sd), (0, .ref h0), (1, .int (nI 0)), (2, .int (nI k))]) hx hb d_CL_bit_19 rfl hl (by decide) rfl (fun ls hl => ?_)
    refine lv_iload_n hx hb d_CL_bit_20 rfl (lv_at hl 2 rfl) ?_
    refine lv_tableIn (tgt := 48) hx hb d_CL_bit_21 (by decide) (by decide) rfl (by decide) ?_
    refine lv_aload_n hx hb d_CL_bit_48 rfl (lv_at hl 0 rfl) ?_
    refine k_get hx hb hw uw_BR hown hK hP 3 rfl rfl 0 (by decide) (hw _ wd_108) rfl d_CL_bit_49 ?_
    refine lv_aload_n hx hb d_CL_bit_52 rfl (lv_at hl 0 rfl) ?_
    refine k_get hx hb hw uw_BR hown hK hP 3 rfl rfl 3 (by decide) (hw _ wd_116) rfl d_CL_bit_53 ?_
    refine lv_iload_n hx hb d_CL_bit_56 rfl (lv_at hl 3 rfl) ?_
    refine k_calli (wr := [(h0, .inr (0, [.ref wq0, .int (nI mc), .ref fw, .ref oa, .ref sn, .ref rc])), (fw, .inr (1, [.ref fi, .ref fq, .int (nI fc)])), (sn, .inr (5, [.ref sd, .ref ss, .ref sf, .ref st, .ref sp, .ref sc, .ref si])), (sd, .inr (4, [.ref d1, .ref d2, .ref d3, .int (nI pn), .int (nI cn)]))]) (k_runS (As := [.ref d1, .int (nI pn), .int (nI k)]) (rest := []) (wc := [(d1, .inl (tc 0, 144, .inl f))]) ⟨hx, hb, hml, hown, hts⟩ (c_CL_bitOrCount_ok l D tc tb d1 pn 144 f k (by omega) (by omega) (by omega) s.heap.size) (va_cwS 3 hts (k_goodS wd_282 wd_283 wd_1 wd_284) rfl rfl rfl hd_CL_bitOrCount ⟨by rw [hR]; exact Nat.le_of_ble_eq_true rfl, by rw [hR]; exact Nat.le_of_ble_eq_true rfl⟩) hK hP hD hS hST hN hA [4] (by decide) rfl rfl hl.1 rfl (Nat.le_of_ble_eq_true rfl) d_CL_bit_57 ⟨by rw [hR]; exact Nat.le_of_ble_eq_true rfl, by rw [hR]; exact Nat.le_of_ble_eq_true rfl⟩) hP hD hS hA [4] [0, 1, 2, 3] rfl rfl (by decide) (by decide) (fun _ H locs hp57 hP hD hS => ?_)
    have hP : va_P D classes [(h0, .inr (0, [.ref wq0, .int (nI mc), .ref fw, .ref oa, .ref sn, .ref rc])), (fw, .inr (1, [.ref fi, .ref fq, .int (nI fc)])), (sn, .inr (5, [.ref sd, .ref ss, .ref sf, .ref st, .ref sp, .ref sc, .ref si])), (sd, .inr (4, [.ref d1, .ref d2, .ref d3, .int (nI pn), .int (nI cn)])), (d1, .inl (tc 0, 144, .inl f))] H := hP
    have hD : va_D A [(h0, .inr (0, [.ref wq0, .int (nI mc), .ref fw, .ref oa, .ref sn, .ref rc])), (fw, .inr (1, [.ref fi, .ref fq, .int (nI fc)])), (sn, .inr (5, [.ref sd, .ref ss, .ref sf, .ref st, .ref sp, .ref sc, .ref si])), (sd, .inr (4, [.ref d1, .ref d2, .ref d3, .int (nI pn), .int (nI cn)])), (d1, .inl (tc 0, 144, .inl f))] := hD
    refine W.widen (k := 0) (n := 0) (Nat.le_of_ble_eq_true rfl) (Nat.le_of_ble_eq_true rfl) ?_
    refine W.eq (g2 := F0 m 60 ls [.int (f k)]) rfl ?_
    rw [hQ]
    exact k_iret () hx hb hr hlk hK hP hD hS [0, 1, 2, 3, 4] (by decide) rfl trivial rfl d_CL_bit_60
  · exfalso; omega
set_option maxHeartbeats 4000000 in
set_option maxRecDepth 100000 in
theorem c_CL_bit_m1_1 (l : Launch) (D : va_G) (tc : Nat → ClassId) (tb : Nat → Nat) (h0 : Nat) (wq0 : Nat) (fw : Nat) (oa : Nat) (sn : Nat) (rc : Nat) (mc : Nat) (fi : Nat) (fq : Nat) (fc : Nat) (sd : Nat) (ss : Nat) (sf : Nat) (st : Nat) (sp : Nat) (sc : Nat) (si : Nat) (d1 : Nat) (d2 : Nat) (d3 : Nat) (pn : Nat) (cn : Nat) (hf0 : 0 < fc) (hfc : fc ≤ 480) : Mi l D tc tb y_CL_bit prog_1_method_5_code 4 (some .int) ({ frames := 1, cells := 0, slots := 0, locals := 22 }) [.ref h0, .int (nI 1), .int (-1)] [(h0, .inr (0, [.ref wq0, .int (nI mc), .ref fw, .ref oa, .ref sn, .ref rc])), (fw, .inr (1, [.ref fi, .ref fq, .int (nI fc)])), (sn, .inr (5, [.ref sd, .ref ss, .ref sf, .ref st, .ref sp, .ref sc, .ref si])), (sd, .inr (4, [.ref d1, .ref d2, .ref d3, .int (nI pn), .int (nI cn)]))] (fun _ : Unit => True) (fun _ : Unit => nI cn) (fun _ : Unit => [(h0, .inr (0, [.ref wq0, .int (nI mc), .ref fw, .ref oa, .ref sn, .ref rc])), (fw, .inr (1, [.ref fi, .ref fq, .int (nI fc)])), (sn, .inr (5, [.ref sd, .ref ss, .ref sf, .ref st, .ref sp, .ref sc, .ref si])), (sd, .inr (4, [.ref d1, .ref d2, .ref d3, .int (nI pn), .int (nI cn)]))]) := by
  refine Mi.go (by decide) (Nat.le_of_ble_eq_true rfl) ?_
  intro p e s m below meth c A ls R args Q C
  obtain ⟨hx, hb, hr, hts, hown, hlk, hml, hin, hA, hST, hN, hK, hP, hD, hS, hl, hR, hQ⟩ := C
  have hw : ∀ w ∈ lw_g, w.before args s = true := fun w h => hts w (List.mem_cons_of_mem _ h)
  have hl : lv_has ls 4 [(0, .ref h0), (1, .int (nI 1)), (2, .int (-1))] := hl
  refine lv_aload_n hx hb d_CL_bit_0 rfl (lv_at hl 0 rfl) ?_
  refine k_get hx hb hw uw_CL hown hK hP 0 rfl rfl 2 (by decide) (hw _ wd_253) rfl d_CL_bit_1 ?_
  refine k_get hx hb hw uw_WA hown hK hP 1 rfl rfl 2 (by decide) (hw _ wd_43) rfl d_CL_bit_4 ?_
  refine k_if_ne (tgt := 12) hx hb d_CL_bit_7 (by decide) (by omega) (fun h7 => ?_) (fun h7 => ?_)
  · refine lv_aload_n hx hb d_CL_bit_12 rfl (lv_at hl 0 rfl) ?_
    refine k_get hx hb hw uw_CL hown hK hP 0 rfl rfl 4 (by decide) (hw _ wd_255) rfl d_CL_bit_13 ?_
    refine k_get hx hb hw uw_SE hown hK hP 2 rfl rfl 0 (by decide) (hw _ wd_145) rfl d_CL_bit_16 ?_
    refine lv_astore_n (lv' := [(3, .ref sd), (0, .ref h0), (1, .int (nI 1)), (2, .int (-1))]) hx hb d_CL_bit_19 rfl hl (by decide) rfl (fun ls hl => ?_)
    refine lv_iload_n hx hb d_CL_bit_20 rfl (lv_at hl 2 rfl) ?_
    refine lv_tableIn (tgt := 61) hx hb d_CL_bit_21 (by decide) (by decide) rfl (by decide) ?_
    refine lv_aload_n hx hb d_CL_bit_61 rfl (lv_at hl 0 rfl) ?_
    refine k_get hx hb hw uw_BR hown hK hP 3 rfl rfl 1 (by decide) (hw _ wd_111) rfl d_CL_bit_62 ?_
    refine lv_aload_n hx hb d_CL_bit_65 rfl (lv_at hl 0 rfl) ?_
    refine k_get hx hb hw uw_BR hown hK hP 3 rfl rfl 4 (by decide) (hw _ wd_119) rfl d_CL_bit_66 ?_
    refine lv_iload_n hx hb d_CL_bit_69 rfl (lv_at hl 3 rfl) ?_
    refine k_calli (wr := [(h0, .inr (0, [.ref wq0, .int (nI mc), .ref fw, .ref oa, .ref sn, .ref rc])), (fw, .inr (1, [.ref fi, .ref fq, .int (nI fc)])), (sn, .inr (5, [.ref sd, .ref ss, .ref sf, .ref st, .ref sp, .ref sc, .ref si])), (sd, .inr (4, [.ref d1, .ref d2, .ref d3, .int (nI pn), .int (nI cn)]))]) (k_runS (As := [.ref d2, .int (nI cn), .int (-1)]) (rest := []) (wc := []) ⟨hx, hb, hml, hown, hts⟩ (c_CL_bitOrCount_m1 l D tc tb d2 cn  s.heap.size) (va_cwS 3 hts (k_goodS wd_282 wd_283 wd_1 wd_284) rfl rfl rfl hd_CL_bitOrCount ⟨by rw [hR]; exact Nat.le_of_ble_eq_true rfl, by rw [hR]; exact Nat.le_of_ble_eq_true rfl⟩) hK hP hD hS hST hN hA [] (by decide) rfl rfl hl.1 rfl (Nat.le_of_ble_eq_true rfl) d_CL_bit_70 ⟨by rw [hR]; exact Nat.le_of_ble_eq_true rfl, by rw [hR]; exact Nat.le_of_ble_eq_true rfl⟩) hP hD hS hA [] [0, 1, 2, 3] rfl rfl (by decide) (by decide) (fun _ H locs hp70 hP hD hS => ?_)
    have hP : va_P D classes [(h0, .inr (0, [.ref wq0, .int (nI mc), .ref fw, .ref oa, .ref sn, .ref rc])), (fw, .inr (1, [.ref fi, .ref fq, .int (nI fc)])), (sn, .inr (5, [.ref sd, .ref ss, .ref sf, .ref st, .ref sp, .ref sc, .ref si])), (sd, .inr (4, [.ref d1, .ref d2, .ref d3, .int (nI pn), .int (nI cn)]))] H := hP
    have hD : va_D A [(h0, .inr (0, [.ref wq0, .int (nI mc), .ref fw, .ref oa, .ref sn, .ref rc])), (fw, .inr (1, [.ref fi, .ref fq, .int (nI fc)])), (sn, .inr (5, [.ref sd, .ref ss, .ref sf, .ref st, .ref sp, .ref sc, .ref si])), (sd, .inr (4, [.ref d1, .ref d2, .ref d3, .int (nI pn), .int (nI cn)]))] := hD
    refine W.widen (k := 0) (n := 0) (Nat.le_of_ble_eq_true rfl) (Nat.le_of_ble_eq_true rfl) ?_
    refine W.eq (g2 := F0 m 73 ls [.int (nI cn)]) rfl ?_
    rw [hQ]
    exact k_iret () hx hb hr hlk hK hP hD hS [0, 1, 2, 3] (by decide) rfl trivial rfl d_CL_bit_73
  · exfalso; omega
set_option maxHeartbeats 4000000 in
set_option maxRecDepth 100000 in
theorem c_CL_bit_no_1 (l : Launch) (D : va_G) (tc : Nat → ClassId) (tb : Nat → Nat) (h0 : Nat) (wq0 : Nat) (fw : Nat) (oa : Nat) (sn : Nat) (rc : Nat) (mc : Nat) (fi : Nat) (fq : Nat) (fc : Nat) (sd : Nat) (ss : Nat) (sf : Nat) (st : Nat) (sp : Nat) (sc : Nat) (si : Nat) (d1 : Nat) (d2 : Nat) (d3 : Nat) (pn : Nat) (cn : Nat) (xk : Int32) (hf0 : 0 < fc) (hfc : fc ≤ 480) (hm : ¬ xk = -1) (hbad : xk < 0 ∨ ¬ xk < nI cn) : Mi l D tc tb y_CL_bit prog_1_method_5_code 4 (some .int) ({ frames := 1, cells := 0, slots := 0, locals := 22 }) [.ref h0, .int (nI 1), .int (xk)] [(h0, .inr (0, [.ref wq0, .int (nI mc), .ref fw, .ref oa, .ref sn, .ref rc])), (fw, .inr (1, [.ref fi, .ref fq, .int (nI fc)])), (sn, .inr (5, [.ref sd, .ref ss, .ref sf, .ref st, .ref sp, .ref sc, .ref si])), (sd, .inr (4, [.ref d1, .ref d2, .ref d3, .int (nI pn), .int (nI cn)]))] (fun _ : Unit => True) (fun _ : Unit => -1) (fun _ : Unit => [(h0, .inr (0, [.ref wq0, .int (nI mc), .ref fw, .ref oa, .ref sn, .ref rc])), (fw, .inr (1, [.ref fi, .ref fq, .int (nI fc)])), (sn, .inr (5, [.ref sd, .ref ss, .ref sf, .ref st, .ref sp, .ref sc, .ref si])), (sd, .inr (4, [.ref d1, .ref d2, .ref d3, .int (nI pn), .int (nI cn)]))]) := by
  refine Mi.go (by decide) (Nat.le_of_ble_eq_true rfl) ?_
  intro p e s m below meth c A ls R args Q C
  obtain ⟨hx, hb, hr, hts, hown, hlk, hml, hin, hA, hST, hN, hK, hP, hD, hS, hl, hR, hQ⟩ := C
  have hw : ∀ w ∈ lw_g, w.before args s = true := fun w h => hts w (List.mem_cons_of_mem _ h)
  have hl : lv_has ls 4 [(0, .ref h0), (1, .int (nI 1)), (2, .int (xk))] := hl
  refine lv_aload_n hx hb d_CL_bit_0 rfl (lv_at hl 0 rfl) ?_
  refine k_get hx hb hw uw_CL hown hK hP 0 rfl rfl 2 (by decide) (hw _ wd_253) rfl d_CL_bit_1 ?_
  refine k_get hx hb hw uw_WA hown hK hP 1 rfl rfl 2 (by decide) (hw _ wd_43) rfl d_CL_bit_4 ?_
  refine k_if_ne (tgt := 12) hx hb d_CL_bit_7 (by decide) (by omega) (fun h7 => ?_) (fun h7 => ?_)
  · refine lv_aload_n hx hb d_CL_bit_12 rfl (lv_at hl 0 rfl) ?_
    refine k_get hx hb hw uw_CL hown hK hP 0 rfl rfl 4 (by decide) (hw _ wd_255) rfl d_CL_bit_13 ?_
    refine k_get hx hb hw uw_SE hown hK hP 2 rfl rfl 0 (by decide) (hw _ wd_145) rfl d_CL_bit_16 ?_
    refine lv_astore_n (lv' := [(3, .ref sd), (0, .ref h0), (1, .int (nI 1)), (2, .int (xk))]) hx hb d_CL_bit_19 rfl hl (by decide) rfl (fun ls hl => ?_)
    refine lv_iload_n hx hb d_CL_bit_20 rfl (lv_at hl 2 rfl) ?_
    refine lv_tableIn (tgt := 61) hx hb d_CL_bit_21 (by decide) (by decide) rfl (by decide) ?_
    refine lv_aload_n hx hb d_CL_bit_61 rfl (lv_at hl 0 rfl) ?_
    refine k_get hx hb hw uw_BR hown hK hP 3 rfl rfl 1 (by decide) (hw _ wd_111) rfl d_CL_bit_62 ?_
    refine lv_aload_n hx hb d_CL_bit_65 rfl (lv_at hl 0 rfl) ?_
    refine k_get hx hb hw uw_BR hown hK hP 3 rfl rfl 4 (by decide) (hw _ wd_119) rfl d_CL_bit_66 ?_
    refine lv_iload_n hx hb d_CL_bit_69 rfl (lv_at hl 3 rfl) ?_
    refine k_calli (wr := [(h0, .inr (0, [.ref wq0, .int (nI mc), .ref fw, .ref oa, .ref sn, .ref rc])), (fw, .inr (1, [.ref fi, .ref fq, .int (nI fc)])), (sn, .inr (5, [.ref sd, .ref ss, .ref sf, .ref st, .ref sp, .ref sc, .ref si])), (sd, .inr (4, [.ref d1, .ref d2, .ref d3, .int (nI pn), .int (nI cn)]))]) (k_runS (As := [.ref d2, .int (nI cn), .int (xk)]) (rest := []) (wc := []) ⟨hx, hb, hml, hown, hts⟩ (c_CL_bitOrCount_no l D tc tb d2 cn xk hm hbad s.heap.size) (va_cwS 3 hts (k_goodS wd_282 wd_283 wd_1 wd_284) rfl rfl rfl hd_CL_bitOrCount ⟨by rw [hR]; exact Nat.le_of_ble_eq_true rfl, by rw [hR]; exact Nat.le_of_ble_eq_true rfl⟩) hK hP hD hS hST hN hA [] (by decide) rfl rfl hl.1 rfl (Nat.le_of_ble_eq_true rfl) d_CL_bit_70 ⟨by rw [hR]; exact Nat.le_of_ble_eq_true rfl, by rw [hR]; exact Nat.le_of_ble_eq_true rfl⟩) hP hD hS hA [] [0, 1, 2, 3] rfl rfl (by decide) (by decide) (fun _ H locs hp70 hP hD hS => ?_)
    have hP : va_P D classes [(h0, .inr (0, [.ref wq0, .int (nI mc), .ref fw, .ref oa, .ref sn, .ref rc])), (fw, .inr (1, [.ref fi, .ref fq, .int (nI fc)])), (sn, .inr (5, [.ref sd, .ref ss, .ref sf, .ref st, .ref sp, .ref sc, .ref si])), (sd, .inr (4, [.ref d1, .ref d2, .ref d3, .int (nI pn), .int (nI cn)]))] H := hP
    have hD : va_D A [(h0, .inr (0, [.ref wq0, .int (nI mc), .ref fw, .ref oa, .ref sn, .ref rc])), (fw, .inr (1, [.ref fi, .ref fq, .int (nI fc)])), (sn, .inr (5, [.ref sd, .ref ss, .ref sf, .ref st, .ref sp, .ref sc, .ref si])), (sd, .inr (4, [.ref d1, .ref d2, .ref d3, .int (nI pn), .int (nI cn)]))] := hD
    refine W.widen (k := 0) (n := 0) (Nat.le_of_ble_eq_true rfl) (Nat.le_of_ble_eq_true rfl) ?_
    refine W.eq (g2 := F0 m 73 ls [.int (-1)]) rfl ?_
    rw [hQ]
    exact k_iret () hx hb hr hlk hK hP hD hS [0, 1, 2, 3] (by decide) rfl trivial rfl d_CL_bit_73
  · exfalso; omega
set_option maxHeartbeats 4000000 in
set_option maxRecDepth 100000 in
theorem c_CL_bit_ok_1 (l : Launch) (D : va_G) (tc : Nat → ClassId) (tb : Nat → Nat) (h0 : Nat) (wq0 : Nat) (fw : Nat) (oa : Nat) (sn : Nat) (rc : Nat) (mc : Nat) (fi : Nat) (fq : Nat) (fc : Nat) (sd : Nat) (ss : Nat) (sf : Nat) (st : Nat) (sp : Nat) (sc : Nat) (si : Nat) (d1 : Nat) (d2 : Nat) (d3 : Nat) (pn : Nat) (cn : Nat) (f : Nat → Int32) (k : Nat) (hf0 : 0 < fc) (hfc : fc ≤ 480) (hk : k < cn) (hcn : cn ≤ 240) : Mi l D tc tb y_CL_bit prog_1_method_5_code 4 (some .int) ({ frames := 1, cells := 0, slots := 0, locals := 22 }) [.ref h0, .int (nI 1), .int (nI k)] [(h0, .inr (0, [.ref wq0, .int (nI mc), .ref fw, .ref oa, .ref sn, .ref rc])), (fw, .inr (1, [.ref fi, .ref fq, .int (nI fc)])), (sn, .inr (5, [.ref sd, .ref ss, .ref sf, .ref st, .ref sp, .ref sc, .ref si])), (sd, .inr (4, [.ref d1, .ref d2, .ref d3, .int (nI pn), .int (nI cn)])), (d2, .inl (tc 0, 240, .inl f))] (fun _ : Unit => True) (fun _ : Unit => f k) (fun _ : Unit => [(h0, .inr (0, [.ref wq0, .int (nI mc), .ref fw, .ref oa, .ref sn, .ref rc])), (fw, .inr (1, [.ref fi, .ref fq, .int (nI fc)])), (sn, .inr (5, [.ref sd, .ref ss, .ref sf, .ref st, .ref sp, .ref sc, .ref si])), (sd, .inr (4, [.ref d1, .ref d2, .ref d3, .int (nI pn), .int (nI cn)])), (d2, .inl (tc 0, 240, .inl f))]) := by
  refine Mi.go (by decide) (Nat.le_of_ble_eq_true rfl) ?_
  intro p e s m below meth c A ls R args Q C
  obtain ⟨hx, hb, hr, hts, hown, hlk, hml, hin, hA, hST, hN, hK, hP, hD, hS, hl, hR, hQ⟩ := C
  have hw : ∀ w ∈ lw_g, w.before args s = true := fun w h => hts w (List.mem_cons_of_mem _ h)
  have hl : lv_has ls 4 [(0, .ref h0), (1, .int (nI 1)), (2, .int (nI k))] := hl
  refine lv_aload_n hx hb d_CL_bit_0 rfl (lv_at hl 0 rfl) ?_
  refine k_get hx hb hw uw_CL hown hK hP 0 rfl rfl 2 (by decide) (hw _ wd_253) rfl d_CL_bit_1 ?_
  refine k_get hx hb hw uw_WA hown hK hP 1 rfl rfl 2 (by decide) (hw _ wd_43) rfl d_CL_bit_4 ?_
  refine k_if_ne (tgt := 12) hx hb d_CL_bit_7 (by decide) (by omega) (fun h7 => ?_) (fun h7 => ?_)
  · refine lv_aload_n hx hb d_CL_bit_12 rfl (lv_at hl 0 rfl) ?_
    refine k_get hx hb hw uw_CL hown hK hP 0 rfl rfl 4 (by decide) (hw _ wd_255) rfl d_CL_bit_13 ?_
    refine k_get hx hb hw uw_SE hown hK hP 2 rfl rfl 0 (by decide) (hw _ wd_145) rfl d_CL_bit_16 ?_
    refine lv_astore_n (lv' := [(3, .ref sd), (0, .ref h0), (1, .int (nI 1)), (2, .int (nI k))]) hx hb d_CL_bit_19 rfl hl (by decide) rfl (fun ls hl => ?_)
    refine lv_iload_n hx hb d_CL_bit_20 rfl (lv_at hl 2 rfl) ?_
    refine lv_tableIn (tgt := 61) hx hb d_CL_bit_21 (by decide) (by decide) rfl (by decide) ?_
    refine lv_aload_n hx hb d_CL_bit_61 rfl (lv_at hl 0 rfl) ?_
    refine k_get hx hb hw uw_BR hown hK hP 3 rfl rfl 1 (by decide) (hw _ wd_111) rfl d_CL_bit_62 ?_
    refine lv_aload_n hx hb d_CL_bit_65 rfl (lv_at hl 0 rfl) ?_
    refine k_get hx hb hw uw_BR hown hK hP 3 rfl rfl 4 (by decide) (hw _ wd_119) rfl d_CL_bit_66 ?_
    refine lv_iload_n hx hb d_CL_bit_69 rfl (lv_at hl 3 rfl) ?_
    refine k_calli (wr := [(h0, .inr (0, [.ref wq0, .int (nI mc), .ref fw, .ref oa, .ref sn, .ref rc])), (fw, .inr (1, [.ref fi, .ref fq, .int (nI fc)])), (sn, .inr (5, [.ref sd, .ref ss, .ref sf, .ref st, .ref sp, .ref sc, .ref si])), (sd, .inr (4, [.ref d1, .ref d2, .ref d3, .int (nI pn), .int (nI cn)]))]) (k_runS (As := [.ref d2, .int (nI cn), .int (nI k)]) (rest := []) (wc := [(d2, .inl (tc 0, 240, .inl f))]) ⟨hx, hb, hml, hown, hts⟩ (c_CL_bitOrCount_ok l D tc tb d2 cn 240 f k (by omega) (by omega) (by omega) s.heap.size) (va_cwS 3 hts (k_goodS wd_282 wd_283 wd_1 wd_284) rfl rfl rfl hd_CL_bitOrCount ⟨by rw [hR]; exact Nat.le_of_ble_eq_true rfl, by rw [hR]; exact Nat.le_of_ble_eq_true rfl⟩) hK hP hD hS hST hN hA [4] (by decide) rfl rfl hl.1 rfl (Nat.le_of_ble_eq_true rfl) d_CL_bit_70 ⟨by rw [hR]; exact Nat.le_of_ble_eq_true rfl, by rw [hR]; exact Nat.le_of_ble_eq_true rfl⟩) hP hD hS hA [4] [0, 1, 2, 3] rfl rfl (by decide) (by decide) (fun _ H locs hp70 hP hD hS => ?_)
    have hP : va_P D classes [(h0, .inr (0, [.ref wq0, .int (nI mc), .ref fw, .ref oa, .ref sn, .ref rc])), (fw, .inr (1, [.ref fi, .ref fq, .int (nI fc)])), (sn, .inr (5, [.ref sd, .ref ss, .ref sf, .ref st, .ref sp, .ref sc, .ref si])), (sd, .inr (4, [.ref d1, .ref d2, .ref d3, .int (nI pn), .int (nI cn)])), (d2, .inl (tc 0, 240, .inl f))] H := hP
    have hD : va_D A [(h0, .inr (0, [.ref wq0, .int (nI mc), .ref fw, .ref oa, .ref sn, .ref rc])), (fw, .inr (1, [.ref fi, .ref fq, .int (nI fc)])), (sn, .inr (5, [.ref sd, .ref ss, .ref sf, .ref st, .ref sp, .ref sc, .ref si])), (sd, .inr (4, [.ref d1, .ref d2, .ref d3, .int (nI pn), .int (nI cn)])), (d2, .inl (tc 0, 240, .inl f))] := hD
    refine W.widen (k := 0) (n := 0) (Nat.le_of_ble_eq_true rfl) (Nat.le_of_ble_eq_true rfl) ?_
    refine W.eq (g2 := F0 m 73 ls [.int (f k)]) rfl ?_
    rw [hQ]
    exact k_iret () hx hb hr hlk hK hP hD hS [0, 1, 2, 3, 4] (by decide) rfl trivial rfl d_CL_bit_73
  · exfalso; omega
set_option maxHeartbeats 4000000 in
set_option maxRecDepth 100000 in
theorem c_CL_bit_m1_2 (l : Launch) (D : va_G) (tc : Nat → ClassId) (tb : Nat → Nat) (h0 : Nat) (wq0 : Nat) (fw : Nat) (oa : Nat) (sn : Nat) (rc : Nat) (mc : Nat) (fi : Nat) (fq : Nat) (fc : Nat) (sd : Nat) (ss : Nat) (sf : Nat) (st : Nat) (sp : Nat) (sc : Nat) (si : Nat) (d1 : Nat) (d2 : Nat) (d3 : Nat) (pn : Nat) (cn : Nat) (hf0 : 0 < fc) (hfc : fc ≤ 480) : Mi l D tc tb y_CL_bit prog_1_method_5_code 4 (some .int) ({ frames := 1, cells := 0, slots := 0, locals := 22 }) [.ref h0, .int (nI 2), .int (-1)] [(h0, .inr (0, [.ref wq0, .int (nI mc), .ref fw, .ref oa, .ref sn, .ref rc])), (fw, .inr (1, [.ref fi, .ref fq, .int (nI fc)])), (sn, .inr (5, [.ref sd, .ref ss, .ref sf, .ref st, .ref sp, .ref sc, .ref si])), (sd, .inr (4, [.ref d1, .ref d2, .ref d3, .int (nI pn), .int (nI cn)]))] (fun _ : Unit => True) (fun _ : Unit => nI cn) (fun _ : Unit => [(h0, .inr (0, [.ref wq0, .int (nI mc), .ref fw, .ref oa, .ref sn, .ref rc])), (fw, .inr (1, [.ref fi, .ref fq, .int (nI fc)])), (sn, .inr (5, [.ref sd, .ref ss, .ref sf, .ref st, .ref sp, .ref sc, .ref si])), (sd, .inr (4, [.ref d1, .ref d2, .ref d3, .int (nI pn), .int (nI cn)]))]) := by
  refine Mi.go (by decide) (Nat.le_of_ble_eq_true rfl) ?_
  intro p e s m below meth c A ls R args Q C
  obtain ⟨hx, hb, hr, hts, hown, hlk, hml, hin, hA, hST, hN, hK, hP, hD, hS, hl, hR, hQ⟩ := C
  have hw : ∀ w ∈ lw_g, w.before args s = true := fun w h => hts w (List.mem_cons_of_mem _ h)
  have hl : lv_has ls 4 [(0, .ref h0), (1, .int (nI 2)), (2, .int (-1))] := hl
  refine lv_aload_n hx hb d_CL_bit_0 rfl (lv_at hl 0 rfl) ?_
  refine k_get hx hb hw uw_CL hown hK hP 0 rfl rfl 2 (by decide) (hw _ wd_253) rfl d_CL_bit_1 ?_
  refine k_get hx hb hw uw_WA hown hK hP 1 rfl rfl 2 (by decide) (hw _ wd_43) rfl d_CL_bit_4 ?_
  refine k_if_ne (tgt := 12) hx hb d_CL_bit_7 (by decide) (by omega) (fun h7 => ?_) (fun h7 => ?_)
  · refine lv_aload_n hx hb d_CL_bit_12 rfl (lv_at hl 0 rfl) ?_
    refine k_get hx hb hw uw_CL hown hK hP 0 rfl rfl 4 (by decide) (hw _ wd_255) rfl d_CL_bit_13 ?_
    refine k_get hx hb hw uw_SE hown hK hP 2 rfl rfl 0 (by decide) (hw _ wd_145) rfl d_CL_bit_16 ?_
    refine lv_astore_n (lv' := [(3, .ref sd), (0, .ref h0), (1, .int (nI 2)), (2, .int (-1))]) hx hb d_CL_bit_19 rfl hl (by decide) rfl (fun ls hl => ?_)
    refine lv_iload_n hx hb d_CL_bit_20 rfl (lv_at hl 2 rfl) ?_
    refine lv_tableIn (tgt := 74) hx hb d_CL_bit_21 (by decide) (by decide) rfl (by decide) ?_
    refine lv_aload_n hx hb d_CL_bit_74 rfl (lv_at hl 0 rfl) ?_
    refine k_get hx hb hw uw_BR hown hK hP 3 rfl rfl 2 (by decide) (hw _ wd_113) rfl d_CL_bit_75 ?_
    refine lv_aload_n hx hb d_CL_bit_78 rfl (lv_at hl 0 rfl) ?_
    refine k_get hx hb hw uw_BR hown hK hP 3 rfl rfl 4 (by decide) (hw _ wd_119) rfl d_CL_bit_79 ?_
    refine lv_iload_n hx hb d_CL_bit_82 rfl (lv_at hl 3 rfl) ?_
    refine k_calli (wr := [(h0, .inr (0, [.ref wq0, .int (nI mc), .ref fw, .ref oa, .ref sn, .ref rc])), (fw, .inr (1, [.ref fi, .ref fq, .int (nI fc)])), (sn, .inr (5, [.ref sd, .ref ss, .ref sf, .ref st, .ref sp, .ref sc, .ref si])), (sd, .inr (4, [.ref d1, .ref d2, .ref d3, .int (nI pn), .int (nI cn)]))]) (k_runS (As := [.ref d3, .int (nI cn), .int (-1)]) (rest := []) (wc := []) ⟨hx, hb, hml, hown, hts⟩ (c_CL_bitOrCount_m1 l D tc tb d3 cn  s.heap.size) (va_cwS 3 hts (k_goodS wd_282 wd_283 wd_1 wd_284) rfl rfl rfl hd_CL_bitOrCount ⟨by rw [hR]; exact Nat.le_of_ble_eq_true rfl, by rw [hR]; exact Nat.le_of_ble_eq_true rfl⟩) hK hP hD hS hST hN hA [] (by decide) rfl rfl hl.1 rfl (Nat.le_of_ble_eq_true rfl) d_CL_bit_83 ⟨by rw [hR]; exact Nat.le_of_ble_eq_true rfl, by rw [hR]; exact Nat.le_of_ble_eq_true rfl⟩) hP hD hS hA [] [0, 1, 2, 3] rfl rfl (by decide) (by decide) (fun _ H locs hp83 hP hD hS => ?_)
    have hP : va_P D classes [(h0, .inr (0, [.ref wq0, .int (nI mc), .ref fw, .ref oa, .ref sn, .ref rc])), (fw, .inr (1, [.ref fi, .ref fq, .int (nI fc)])), (sn, .inr (5, [.ref sd, .ref ss, .ref sf, .ref st, .ref sp, .ref sc, .ref si])), (sd, .inr (4, [.ref d1, .ref d2, .ref d3, .int (nI pn), .int (nI cn)]))] H := hP
    have hD : va_D A [(h0, .inr (0, [.ref wq0, .int (nI mc), .ref fw, .ref oa, .ref sn, .ref rc])), (fw, .inr (1, [.ref fi, .ref fq, .int (nI fc)])), (sn, .inr (5, [.ref sd, .ref ss, .ref sf, .ref st, .ref sp, .ref sc, .ref si])), (sd, .inr (4, [.ref d1, .ref d2, .ref d3, .int (nI pn), .int (nI cn)]))] := hD
    refine W.widen (k := 0) (n := 0) (Nat.le_of_ble_eq_true rfl) (Nat.le_of_ble_eq_true rfl) ?_
    refine W.eq (g2 := F0 m 86 ls [.int (nI cn)]) rfl ?_
    rw [hQ]
    exact k_iret () hx hb hr hlk hK hP hD hS [0, 1, 2, 3] (by decide) rfl trivial rfl d_CL_bit_86
  · exfalso; omega
set_option maxHeartbeats 4000000 in
set_option maxRecDepth 100000 in
theorem c_CL_bit_no_2 (l : Launch) (D : va_G) (tc : Nat → ClassId) (tb : Nat → Nat) (h0 : Nat) (wq0 : Nat) (fw : Nat) (oa : Nat) (sn : Nat) (rc : Nat) (mc : Nat) (fi : Nat) (fq : Nat) (fc : Nat) (sd : Nat) (ss : Nat) (sf : Nat) (st : Nat) (sp : Nat) (sc : Nat) (si : Nat) (d1 : Nat) (d2 : Nat) (d3 : Nat) (pn : Nat) (cn : Nat) (xk : Int32) (hf0 : 0 < fc) (hfc : fc ≤ 480) (hm : ¬ xk = -1) (hbad : xk < 0 ∨ ¬ xk < nI cn) : Mi l D tc tb y_CL_bit prog_1_method_5_code 4 (some .int) ({ frames := 1, cells := 0, slots := 0, locals := 22 }) [.ref h0, .int (nI 2), .int (xk)] [(h0, .inr (0, [.ref wq0, .int (nI mc), .ref fw, .ref oa, .ref sn, .ref rc])), (fw, .inr (1, [.ref fi, .ref fq, .int (nI fc)])), (sn, .inr (5, [.ref sd, .ref ss, .ref sf, .ref st, .ref sp, .ref sc, .ref si])), (sd, .inr (4, [.ref d1, .ref d2, .ref d3, .int (nI pn), .int (nI cn)]))] (fun _ : Unit => True) (fun _ : Unit => -1) (fun _ : Unit => [(h0, .inr (0, [.ref wq0, .int (nI mc), .ref fw, .ref oa, .ref sn, .ref rc])), (fw, .inr (1, [.ref fi, .ref fq, .int (nI fc)])), (sn, .inr (5, [.ref sd, .ref ss, .ref sf, .ref st, .ref sp, .ref sc, .ref si])), (sd, .inr (4, [.ref d1, .ref d2, .ref d3, .int (nI pn), .int (nI cn)]))]) := by
  refine Mi.go (by decide) (Nat.le_of_ble_eq_true rfl) ?_
  intro p e s m below meth c A ls R args Q C
  obtain ⟨hx, hb, hr, hts, hown, hlk, hml, hin, hA, hST, hN, hK, hP, hD, hS, hl, hR, hQ⟩ := C
  have hw : ∀ w ∈ lw_g, w.before args s = true := fun w h => hts w (List.mem_cons_of_mem _ h)
  have hl : lv_has ls 4 [(0, .ref h0), (1, .int (nI 2)), (2, .int (xk))] := hl
  refine lv_aload_n hx hb d_CL_bit_0 rfl (lv_at hl 0 rfl) ?_
  refine k_get hx hb hw uw_CL hown hK hP 0 rfl rfl 2 (by decide) (hw _ wd_253) rfl d_CL_bit_1 ?_
  refine k_get hx hb hw uw_WA hown hK hP 1 rfl rfl 2 (by decide) (hw _ wd_43) rfl d_CL_bit_4 ?_
  refine k_if_ne (tgt := 12) hx hb d_CL_bit_7 (by decide) (by omega) (fun h7 => ?_) (fun h7 => ?_)
  · refine lv_aload_n hx hb d_CL_bit_12 rfl (lv_at hl 0 rfl) ?_
    refine k_get hx hb hw uw_CL hown hK hP 0 rfl rfl 4 (by decide) (hw _ wd_255) rfl d_CL_bit_13 ?_
    refine k_get hx hb hw uw_SE hown hK hP 2 rfl rfl 0 (by decide) (hw _ wd_145) rfl d_CL_bit_16 ?_
    refine lv_astore_n (lv' := [(3, .ref sd), (0, .ref h0), (1, .int (nI 2)), (2, .int (xk))]) hx hb d_CL_bit_19 rfl hl (by decide) rfl (fun ls hl => ?_)
    refine lv_iload_n hx hb d_CL_bit_20 rfl (lv_at hl 2 rfl) ?_
    refine lv_tableIn (tgt := 74) hx hb d_CL_bit_21 (by decide) (by decide) rfl (by decide) ?_
    refine lv_aload_n hx hb d_CL_bit_74 rfl (lv_at hl 0 rfl) ?_
    refine k_get hx hb hw uw_BR hown hK hP 3 rfl rfl 2 (by decide) (hw _ wd_113) rfl d_CL_bit_75 ?_
    refine lv_aload_n hx hb d_CL_bit_78 rfl (lv_at hl 0 rfl) ?_
    refine k_get hx hb hw uw_BR hown hK hP 3 rfl rfl 4 (by decide) (hw _ wd_119) rfl d_CL_bit_79 ?_
    refine lv_iload_n hx hb d_CL_bit_82 rfl (lv_at hl 3 rfl) ?_
    refine k_calli (wr := [(h0, .inr (0, [.ref wq0, .int (nI mc), .ref fw, .ref oa, .ref sn, .ref rc])), (fw, .inr (1, [.ref fi, .ref fq, .int (nI fc)])), (sn, .inr (5, [.ref sd, .ref ss, .ref sf, .ref st, .ref sp, .ref sc, .ref si])), (sd, .inr (4, [.ref d1, .ref d2, .ref d3, .int (nI pn), .int (nI cn)]))]) (k_runS (As := [.ref d3, .int (nI cn), .int (xk)]) (rest := []) (wc := []) ⟨hx, hb, hml, hown, hts⟩ (c_CL_bitOrCount_no l D tc tb d3 cn xk hm hbad s.heap.size) (va_cwS 3 hts (k_goodS wd_282 wd_283 wd_1 wd_284) rfl rfl rfl hd_CL_bitOrCount ⟨by rw [hR]; exact Nat.le_of_ble_eq_true rfl, by rw [hR]; exact Nat.le_of_ble_eq_true rfl⟩) hK hP hD hS hST hN hA [] (by decide) rfl rfl hl.1 rfl (Nat.le_of_ble_eq_true rfl) d_CL_bit_83 ⟨by rw [hR]; exact Nat.le_of_ble_eq_true rfl, by rw [hR]; exact Nat.le_of_ble_eq_true rfl⟩) hP hD hS hA [] [0, 1, 2, 3] rfl rfl (by decide) (by decide) (fun _ H locs hp83 hP hD hS => ?_)
    have hP : va_P D classes [(h0, .inr (0, [.ref wq0, .int (nI mc), .ref fw, .ref oa, .ref sn, .ref rc])), (fw, .inr (1, [.ref fi, .ref fq, .int (nI fc)])), (sn, .inr (5, [.ref sd, .ref ss, .ref sf, .ref st, .ref sp, .ref sc, .ref si])), (sd, .inr (4, [.ref d1, .ref d2, .ref d3, .int (nI pn), .int (nI cn)]))] H := hP
    have hD : va_D A [(h0, .inr (0, [.ref wq0, .int (nI mc), .ref fw, .ref oa, .ref sn, .ref rc])), (fw, .inr (1, [.ref fi, .ref fq, .int (nI fc)])), (sn, .inr (5, [.ref sd, .ref ss, .ref sf, .ref st, .ref sp, .ref sc, .ref si])), (sd, .inr (4, [.ref d1, .ref d2, .ref d3, .int (nI pn), .int (nI cn)]))] := hD
    refine W.widen (k := 0) (n := 0) (Nat.le_of_ble_eq_true rfl) (Nat.le_of_ble_eq_true rfl) ?_
    refine W.eq (g2 := F0 m 86 ls [.int (-1)]) rfl ?_
    rw [hQ]
    exact k_iret () hx hb hr hlk hK hP hD hS [0, 1, 2, 3] (by decide) rfl trivial rfl d_CL_bit_86
  · exfalso; omega
set_option maxHeartbeats 4000000 in
set_option maxRecDepth 100000 in
theorem c_CL_bit_ok_2 (l : Launch) (D : va_G) (tc : Nat → ClassId) (tb : Nat → Nat) (h0 : Nat) (wq0 : Nat) (fw : Nat) (oa : Nat) (sn : Nat) (rc : Nat) (mc : Nat) (fi : Nat) (fq : Nat) (fc : Nat) (sd : Nat) (ss : Nat) (sf : Nat) (st : Nat) (sp : Nat) (sc : Nat) (si : Nat) (d1 : Nat) (d2 : Nat) (d3 : Nat) (pn : Nat) (cn : Nat) (f : Nat → Int32) (k : Nat) (hf0 : 0 < fc) (hfc : fc ≤ 480) (hk : k < cn) (hcn : cn ≤ 240) : Mi l D tc tb y_CL_bit prog_1_method_5_code 4 (some .int) ({ frames := 1, cells := 0, slots := 0, locals := 22 }) [.ref h0, .int (nI 2), .int (nI k)] [(h0, .inr (0, [.ref wq0, .int (nI mc), .ref fw, .ref oa, .ref sn, .ref rc])), (fw, .inr (1, [.ref fi, .ref fq, .int (nI fc)])), (sn, .inr (5, [.ref sd, .ref ss, .ref sf, .ref st, .ref sp, .ref sc, .ref si])), (sd, .inr (4, [.ref d1, .ref d2, .ref d3, .int (nI pn), .int (nI cn)])), (d3, .inl (tc 0, 240, .inl f))] (fun _ : Unit => True) (fun _ : Unit => f k) (fun _ : Unit => [(h0, .inr (0, [.ref wq0, .int (nI mc), .ref fw, .ref oa, .ref sn, .ref rc])), (fw, .inr (1, [.ref fi, .ref fq, .int (nI fc)])), (sn, .inr (5, [.ref sd, .ref ss, .ref sf, .ref st, .ref sp, .ref sc, .ref si])), (sd, .inr (4, [.ref d1, .ref d2, .ref d3, .int (nI pn), .int (nI cn)])), (d3, .inl (tc 0, 240, .inl f))]) := by
  refine Mi.go (by decide) (Nat.le_of_ble_eq_true rfl) ?_
  intro p e s m below meth c A ls R args Q C
  obtain ⟨hx, hb, hr, hts, hown, hlk, hml, hin, hA, hST, hN, hK, hP, hD, hS, hl, hR, hQ⟩ := C
  have hw : ∀ w ∈ lw_g, w.before args s = true := fun w h => hts w (List.mem_cons_of_mem _ h)
  have hl : lv_has ls 4 [(0, .ref h0), (1, .int (nI 2)), (2, .int (nI k))] := hl
  refine lv_aload_n hx hb d_CL_bit_0 rfl (lv_at hl 0 rfl) ?_
  refine k_get hx hb hw uw_CL hown hK hP 0 rfl rfl 2 (by decide) (hw _ wd_253) rfl d_CL_bit_1 ?_
  refine k_get hx hb hw uw_WA hown hK hP 1 rfl rfl 2 (by decide) (hw _ wd_43) rfl d_CL_bit_4 ?_
  refine k_if_ne (tgt := 12) hx hb d_CL_bit_7 (by decide) (by omega) (fun h7 => ?_) (fun h7 => ?_)
  · refine lv_aload_n hx hb d_CL_bit_12 rfl (lv_at hl 0 rfl) ?_
    refine k_get hx hb hw uw_CL hown hK hP 0 rfl rfl 4 (by decide) (hw _ wd_255) rfl d_CL_bit_13 ?_
    refine k_get hx hb hw uw_SE hown hK hP 2 rfl rfl 0 (by decide) (hw _ wd_145) rfl d_CL_bit_16 ?_
    refine lv_astore_n (lv' := [(3, .ref sd), (0, .ref h0), (1, .int (nI 2)), (2, .int (nI k))]) hx hb d_CL_bit_19 rfl hl (by decide) rfl (fun ls hl => ?_)
    refine lv_iload_n hx hb d_CL_bit_20 rfl (lv_at hl 2 rfl) ?_
    refine lv_tableIn (tgt := 74) hx hb d_CL_bit_21 (by decide) (by decide) rfl (by decide) ?_
    refine lv_aload_n hx hb d_CL_bit_74 rfl (lv_at hl 0 rfl) ?_
    refine k_get hx hb hw uw_BR hown hK hP 3 rfl rfl 2 (by decide) (hw _ wd_113) rfl d_CL_bit_75 ?_
    refine lv_aload_n hx hb d_CL_bit_78 rfl (lv_at hl 0 rfl) ?_
    refine k_get hx hb hw uw_BR hown hK hP 3 rfl rfl 4 (by decide) (hw _ wd_119) rfl d_CL_bit_79 ?_
    refine lv_iload_n hx hb d_CL_bit_82 rfl (lv_at hl 3 rfl) ?_
    refine k_calli (wr := [(h0, .inr (0, [.ref wq0, .int (nI mc), .ref fw, .ref oa, .ref sn, .ref rc])), (fw, .inr (1, [.ref fi, .ref fq, .int (nI fc)])), (sn, .inr (5, [.ref sd, .ref ss, .ref sf, .ref st, .ref sp, .ref sc, .ref si])), (sd, .inr (4, [.ref d1, .ref d2, .ref d3, .int (nI pn), .int (nI cn)]))]) (k_runS (As := [.ref d3, .int (nI cn), .int (nI k)]) (rest := []) (wc := [(d3, .inl (tc 0, 240, .inl f))]) ⟨hx, hb, hml, hown, hts⟩ (c_CL_bitOrCount_ok l D tc tb d3 cn 240 f k (by omega) (by omega) (by omega) s.heap.size) (va_cwS 3 hts (k_goodS wd_282 wd_283 wd_1 wd_284) rfl rfl rfl hd_CL_bitOrCount ⟨by rw [hR]; exact Nat.le_of_ble_eq_true rfl, by rw [hR]; exact Nat.le_of_ble_eq_true rfl⟩) hK hP hD hS hST hN hA [4] (by decide) rfl rfl hl.1 rfl (Nat.le_of_ble_eq_true rfl) d_CL_bit_83 ⟨by rw [hR]; exact Nat.le_of_ble_eq_true rfl, by rw [hR]; exact Nat.le_of_ble_eq_true rfl⟩) hP hD hS hA [4] [0, 1, 2, 3] rfl rfl (by decide) (by decide) (fun _ H locs hp83 hP hD hS => ?_)
    have hP : va_P D classes [(h0, .inr (0, [.ref wq0, .int (nI mc), .ref fw, .ref oa, .ref sn, .ref rc])), (fw, .inr (1, [.ref fi, .ref fq, .int (nI fc)])), (sn, .inr (5, [.ref sd, .ref ss, .ref sf, .ref st, .ref sp, .ref sc, .ref si])), (sd, .inr (4, [.ref d1, .ref d2, .ref d3, .int (nI pn), .int (nI cn)])), (d3, .inl (tc 0, 240, .inl f))] H := hP
    have hD : va_D A [(h0, .inr (0, [.ref wq0, .int (nI mc), .ref fw, .ref oa, .ref sn, .ref rc])), (fw, .inr (1, [.ref fi, .ref fq, .int (nI fc)])), (sn, .inr (5, [.ref sd, .ref ss, .ref sf, .ref st, .ref sp, .ref sc, .ref si])), (sd, .inr (4, [.ref d1, .ref d2, .ref d3, .int (nI pn), .int (nI cn)])), (d3, .inl (tc 0, 240, .inl f))] := hD
    refine W.widen (k := 0) (n := 0) (Nat.le_of_ble_eq_true rfl) (Nat.le_of_ble_eq_true rfl) ?_
    refine W.eq (g2 := F0 m 86 ls [.int (f k)]) rfl ?_
    rw [hQ]
    exact k_iret () hx hb hr hlk hK hP hD hS [0, 1, 2, 3, 4] (by decide) rfl trivial rfl d_CL_bit_86
  · exfalso; omega
