set_option maxHeartbeats 4000000 in
set_option maxRecDepth 100000 in
theorem c_PO_takeCarriers (l : Launch) (D : va_G) (tc : Nat → ClassId) (tb : Nat → Nat) (h0 : Nat) (qa : Nat) (qb : Nat) (f : Nat → Int32) (g : Nat → Int32) (wv : Nat) (wa : Nat) (wb : Nat) (wc : Nat) (wi : Nat → Int32) (wq : Nat → Int32) (fr : Nat) (hfr : fr + 16 ≤ 520) : Mv l D tc tb y_PO_takeCarriers prog_4_method_4_code 4 none ({ frames := 2, cells := 0, slots := 0, locals := 61 }) [.ref h0, .ref wv, .int (nI fr)] [(h0, .inr (2, [.ref qa, .ref qb])), (qa, .inl (tc 0, 16, .inl f)), (qb, .inl (tc 0, 16, .inl g)), (wv, .inr (1, [.ref wa, .ref wb, .int (nI wc)])), (wa, .inl (tc 1, 520, .inl wi)), (wb, .inl (tc 1, 520, .inl wq))] (fun _ : Unit => True) (fun _ : Unit => [(h0, .inr (2, [.ref qa, .ref qb])), (qa, .inl (tc 0, 16, .inl ((pxA wi wq fr).1))), (qb, .inl (tc 0, 16, .inl ((pxA wi wq fr).2))), (wv, .inr (1, [.ref wa, .ref wb, .int (nI wc)])), (wa, .inl (tc 1, 520, .inl wi)), (wb, .inl (tc 1, 520, .inl wq))]) := by
  refine Mv.go (by decide) (Nat.le_of_ble_eq_true rfl) ?_
  intro p e s m below meth c A ls R args Q C
  obtain ⟨hx, hb, hr, hts, hown, hlk, hml, hin, hA, hST, hN, hK, hP, hD, hS, hl, hR, hQ⟩ := C
  have hw : ∀ w ∈ lw_g, w.before args s = true := fun w h => hts w (List.mem_cons_of_mem _ h)
  have hl : lv_has ls 4 [(0, .ref h0), (1, .ref wv), (2, .int (nI fr))] := hl
  refine lv_iconst (v := nI 0) hx hb d_PO_takeCarriers_0 (by decide) ?_
  refine lv_istore_n (lv' := [(3, .int (nI 0)), (0, .ref h0), (1, .ref wv), (2, .int (nI fr))]) hx hb d_PO_takeCarriers_1 rfl hl (by decide) rfl (fun ls hl => ?_)
  refine k_loop (P := fun k : Nat => ∀ (H : Heap) (locs : List Loc) (ls : Array Slot), lv_has ls 4 [(3, .int (nI k)), (0, .ref h0), (1, .ref wv), (2, .int (nI fr))] → va_P D classes [(h0, .inr (2, [.ref qa, .ref qb])), (qa, .inl (tc 0, 16, .inl (gF (fun j => wi (fr + j)) f k))), (qb, .inl (tc 0, 16, .inl (gF (fun j => wq (fr + j)) g k))), (wv, .inr (1, [.ref wa, .ref wb, .int (nI wc)])), (wa, .inl (tc 1, 520, .inl wi)), (wb, .inl (tc 1, 520, .inl wq))] H → va_D A [(h0, .inr (2, [.ref qa, .ref qb])), (qa, .inl (tc 0, 16, .inl (gF (fun j => wi (fr + j)) f k))), (qb, .inl (tc 0, 16, .inl (gF (fun j => wq (fr + j)) g k))), (wv, .inr (1, [.ref wa, .ref wb, .int (nI wc)])), (wa, .inl (tc 1, 520, .inl wi)), (wb, .inl (tc 1, 520, .inl wq))] → va_S A s.heap H locs → W p l e R s m args below meth c H locs 0 0 Q (F0 m 2 ls [])) (16) (fun k hk_k ih_k  H locs ls hl hP hD hS => ?_) (0) (by omega)   s.heap [] ls (lv_sub hl [0, 1, 2, 3] rfl) (by exact hP) (k_Ds hD [0, 1, 2, 3, 4, 5] (by decide) rfl) hS
  refine lv_iload_n hx hb d_PO_takeCarriers_2 rfl (lv_at hl 0 rfl) ?_
  refine lv_bipush (v := nI 16) hx hb d_PO_takeCarriers_3 (by decide) ?_
  refine k_icmp_ge (tgt := 42) hx hb d_PO_takeCarriers_5 (by decide) (by omega) (by omega) (fun h5 => ?_) (fun h5 => ?_)
  · obtain rfl : 16 = k := by omega
    have hP : va_P D classes [(h0, .inr (2, [.ref qa, .ref qb])), (qa, .inl (tc 0, 16, .inl (fun j => wi (fr + j)))), (qb, .inl (tc 0, 16, .inl (gF (fun j => wq (fr + j)) g 16))), (wv, .inr (1, [.ref wa, .ref wb, .int (nI wc)])), (wa, .inl (tc 1, 520, .inl wi)), (wb, .inl (tc 1, 520, .inl wq))] H := k_rep hP 1 rfl (fun j hj => gF_all _ f 16 j hj) rfl
    have hD : va_D A [(h0, .inr (2, [.ref qa, .ref qb])), (qa, .inl (tc 0, 16, .inl (fun j => wi (fr + j)))), (qb, .inl (tc 0, 16, .inl (gF (fun j => wq (fr + j)) g 16))), (wv, .inr (1, [.ref wa, .ref wb, .int (nI wc)])), (wa, .inl (tc 1, 520, .inl wi)), (wb, .inl (tc 1, 520, .inl wq))] := k_Ds hD [0, 1, 2, 3, 4, 5] (by decide) rfl
    have hP : va_P D classes [(h0, .inr (2, [.ref qa, .ref qb])), (qa, .inl (tc 0, 16, .inl (fun j => wi (fr + j)))), (qb, .inl (tc 0, 16, .inl (fun j => wq (fr + j)))), (wv, .inr (1, [.ref wa, .ref wb, .int (nI wc)])), (wa, .inl (tc 1, 520, .inl wi)), (wb, .inl (tc 1, 520, .inl wq))] H := k_rep hP 2 rfl (fun j hj => gF_all _ g 16 j hj) rfl
    have hD : va_D A [(h0, .inr (2, [.ref qa, .ref qb])), (qa, .inl (tc 0, 16, .inl (fun j => wi (fr + j)))), (qb, .inl (tc 0, 16, .inl (fun j => wq (fr + j)))), (wv, .inr (1, [.ref wa, .ref wb, .int (nI wc)])), (wa, .inl (tc 1, 520, .inl wi)), (wb, .inl (tc 1, 520, .inl wq))] := k_Ds hD [0, 1, 2, 3, 4, 5] (by decide) rfl
    refine lv_aload_n hx hb d_PO_takeCarriers_42 rfl (lv_at hl 1 rfl) ?_
    refine lv_iconst (v := -1) hx hb d_PO_takeCarriers_43 (by decide) ?_
    refine k_callv (wr := [(wv, .inr (1, [.ref wa, .ref wb, .int (nI wc)])), (wa, .inl (tc 1, 520, .inl wi)), (wb, .inl (tc 1, 520, .inl wq))]) (k_runV (As := [.int (-1)]) (rest := []) (wc := [(h0, .inr (2, [.ref qa, .ref qb])), (qa, .inl (tc 0, 16, .inl ((fun j => wi (fr + j), fun j => wq (fr + j)).1))), (qb, .inl (tc 0, 16, .inl ((fun j => wi (fr + j), fun j => wq (fr + j)).2)))]) ⟨hx, hb, hml, hown, hts⟩ (c_PO_transform l D tc tb h0 qa qb (fun j => wi (fr + j), fun j => wq (fr + j)) (-1)  H.size) (cwV 1 hts (k_goodV wd_78 wd_79 wd_80 wd_3 wd_81) rfl rfl rfl ⟨rfl, hd_PO_transform⟩ ⟨by rw [hR]; exact Nat.le_of_ble_eq_true rfl, by rw [hR]; exact Nat.le_of_ble_eq_true rfl⟩) hK hP hD hS hST hN hA [0, 1, 2] (by decide) rfl 0 rfl rfl rfl rfl hl.1 rfl (Nat.le_of_ble_eq_true rfl) d_PO_takeCarriers_44 ⟨by rw [hR]; exact Nat.le_of_ble_eq_true rfl, by rw [hR]; exact Nat.le_of_ble_eq_true rfl⟩) hP hD hS hA [0, 1, 2] [3, 4, 5] rfl rfl (by decide) (by decide) (fun _ H locs hp44 hP hD hS => ?_)
    have hP : va_P D classes [(wv, .inr (1, [.ref wa, .ref wb, .int (nI wc)])), (wa, .inl (tc 1, 520, .inl wi)), (wb, .inl (tc 1, 520, .inl wq)), (h0, .inr (2, [.ref qa, .ref qb])), (qa, .inl (tc 0, 16, .inl ((trF (-1) (fun j => wi (fr + j), fun j => wq (fr + j))).1))), (qb, .inl (tc 0, 16, .inl ((trF (-1) (fun j => wi (fr + j), fun j => wq (fr + j))).2)))] H := hP
    have hD : va_D A [(wv, .inr (1, [.ref wa, .ref wb, .int (nI wc)])), (wa, .inl (tc 1, 520, .inl wi)), (wb, .inl (tc 1, 520, .inl wq)), (h0, .inr (2, [.ref qa, .ref qb])), (qa, .inl (tc 0, 16, .inl ((trF (-1) (fun j => wi (fr + j), fun j => wq (fr + j))).1))), (qb, .inl (tc 0, 16, .inl ((trF (-1) (fun j => wi (fr + j), fun j => wq (fr + j))).2)))] := hD
    refine W.widen (k := 0) (n := 0) (Nat.le_of_ble_eq_true rfl) (Nat.le_of_ble_eq_true rfl) ?_
    refine W.eq (g2 := F0 m 47 ls []) rfl ?_
    rw [hQ]
    exact k_vret () hx hb hr hlk hK hP hD hS [3, 4, 5, 0, 1, 2] (by decide) rfl trivial d_PO_takeCarriers_47
  · refine lv_aload_n hx hb d_PO_takeCarriers_8 rfl (lv_at hl 1 rfl) ?_
    refine k_get hx hb hw uw_PO hown hK hP 0 rfl rfl 0 (by decide) (hw _ wd_59) rfl d_PO_takeCarriers_9 ?_
    refine lv_iload_n hx hb d_PO_takeCarriers_12 rfl (lv_at hl 0 rfl) ?_
    refine lv_aload_n hx hb d_PO_takeCarriers_13 rfl (lv_at hl 2 rfl) ?_
    refine k_get hx hb hw uw_WA hown hK hP 3 rfl rfl 0 (by decide) (hw _ wd_34) rfl d_PO_takeCarriers_14 ?_
    refine lv_iload_n hx hb d_PO_takeCarriers_17 rfl (lv_at hl 3 rfl) ?_
    refine lv_iload_n hx hb d_PO_takeCarriers_18 rfl (lv_at hl 0 rfl) ?_
    refine k_iadd hx hb d_PO_takeCarriers_19 ?_
    refine k_sald hx hb hK hP 4 1 rfl rfl (by omega) (by omega) d_PO_takeCarriers_20 ?_
    refine k_iast (ws' := [(h0, .inr (2, [.ref qa, .ref qb])), (qa, .inl (tc 0, 16, .inl (upd (gF (fun j => wi (fr + j)) f k) k (wi (fr + k))))), (qb, .inl (tc 0, 16, .inl (gF (fun j => wq (fr + j)) g k))), (wv, .inr (1, [.ref wa, .ref wb, .int (nI wc)])), (wa, .inl (tc 1, 520, .inl wi)), (wb, .inl (tc 1, 520, .inl wq))]) hx hb hK hP hD hS 1 0 rfl rfl (by omega) (by omega) d_PO_takeCarriers_21 rfl (fun H locs hP hD hS => ?_)
    refine lv_aload_n hx hb d_PO_takeCarriers_22 rfl (lv_at hl 1 rfl) ?_
    refine k_get hx hb hw uw_PO hown hK hP 0 rfl rfl 1 (by decide) (hw _ wd_63) rfl d_PO_takeCarriers_23 ?_
    refine lv_iload_n hx hb d_PO_takeCarriers_26 rfl (lv_at hl 0 rfl) ?_
    refine lv_aload_n hx hb d_PO_takeCarriers_27 rfl (lv_at hl 2 rfl) ?_
    refine k_get hx hb hw uw_WA hown hK hP 3 rfl rfl 1 (by decide) (hw _ wd_38) rfl d_PO_takeCarriers_28 ?_
    refine lv_iload_n hx hb d_PO_takeCarriers_31 rfl (lv_at hl 3 rfl) ?_
    refine lv_iload_n hx hb d_PO_takeCarriers_32 rfl (lv_at hl 0 rfl) ?_
    refine k_iadd hx hb d_PO_takeCarriers_33 ?_
    refine k_sald hx hb hK hP 5 1 rfl rfl (by omega) (by omega) d_PO_takeCarriers_34 ?_
    refine k_iast (ws' := [(h0, .inr (2, [.ref qa, .ref qb])), (qa, .inl (tc 0, 16, .inl (upd (gF (fun j => wi (fr + j)) f k) k (wi (fr + k))))), (qb, .inl (tc 0, 16, .inl (upd (gF (fun j => wq (fr + j)) g k) k (wq (fr + k))))), (wv, .inr (1, [.ref wa, .ref wb, .int (nI wc)])), (wa, .inl (tc 1, 520, .inl wi)), (wb, .inl (tc 1, 520, .inl wq))]) hx hb hK hP hD hS 2 0 rfl rfl (by omega) (by omega) d_PO_takeCarriers_35 rfl (fun H locs hP hD hS => ?_)
    refine lv_iinc (k := 0) (v := nI (k + 1)) (lv' := [(3, .int (nI (k + 1))), (0, .ref h0), (1, .ref wv), (2, .int (nI fr))]) hx hb d_PO_takeCarriers_36 hl rfl (k_incN _ 1) (by decide) rfl (fun ls hl => ?_)
    refine lv_goto (tgt := 2) hx hb d_PO_takeCarriers_39 (by decide) ?_
    exact ih_k (by omega)   H locs ls (lv_sub hl [0, 1, 2, 3] rfl) (by exact hP) (k_Ds hD [0, 1, 2, 3, 4, 5] (by decide) rfl) hS
set_option maxHeartbeats 4000000 in
set_option maxRecDepth 100000 in
theorem c_RE_softOf (l : Launch) (D : va_G) (tc : Nat → ClassId) (tb : Nat → Nat) (v : Int64) : Mi l D tc tb y_RE_softOf prog_5_method_9_code 2 (some .int) ({ frames := 1, cells := 0, slots := 0, locals := 19 }) [.long (v)] [] (fun _ : Unit => True) (fun _ : Unit => soF v) (fun _ : Unit => []) := by
  refine Mi.go (by decide) (Nat.le_of_ble_eq_true rfl) ?_
  intro p e s m below meth c A ls R args Q C
  obtain ⟨hx, hb, hr, hts, hown, hlk, hml, hin, hA, hST, hN, hK, hP, hD, hS, hl, hR, hQ⟩ := C
  have hw : ∀ w ∈ lw_g, w.before args s = true := fun w h => hts w (List.mem_cons_of_mem _ h)
  have hl : lv_has ls 2 [(0, .long (v))] := hl
  refine lv_ldc2 (v := -2047) hx hb hown (hw _ wd_631) d_RE_softOf_0 ?_
  refine lv_ldc2 (v := 2047) hx hb hown (hw _ wd_632) d_RE_softOf_3 ?_
  refine lv_lload_n hx hb d_RE_softOf_6 rfl (lv_at hl 0 rfl) ?_
  refine lv_bipush (v := nI 10) hx hb d_RE_softOf_7 (by decide) ?_
  refine lv_lshr hx hb d_RE_softOf_9 rfl ?_
  refine va_mmin_long hx hb (by rw [hml]; exact hl.1.symm) hown (hw _ wd_633) (hw _ wd_634) (hw _ wd_17) (hw _ wd_635) (by rw [hR]; exact Nat.le_of_ble_eq_true rfl) (by rw [hR]; exact Nat.le_of_ble_eq_true rfl) (by rw [hR]; exact Nat.zero_le _) (by rw [hR]; exact Nat.zero_le _) d_RE_softOf_10 ?_
  refine va_mmax_long hx hb (by rw [hml]; exact hl.1.symm) hown (hw _ wd_636) (hw _ wd_637) (hw _ wd_17) (hw _ wd_638) (by rw [hR]; exact Nat.le_of_ble_eq_true rfl) (by rw [hR]; exact Nat.le_of_ble_eq_true rfl) (by rw [hR]; exact Nat.zero_le _) (by rw [hR]; exact Nat.zero_le _) d_RE_softOf_13 ?_
  refine lv_l2i hx hb d_RE_softOf_16 rfl ?_
  rw [hQ]
  exact k_iret () hx hb hr hlk hK hP hD hS [] (by decide) rfl trivial rfl d_RE_softOf_17
set_option maxHeartbeats 4000000 in
set_option maxRecDepth 100000 in
theorem c_RE_takeCarrier_1 (l : Launch) (D : va_G) (tc : Nat → ClassId) (tb : Nat → Nat) (h0 : Nat) (to : Nat) (fo : Nat) (le : Nat) (tr : Nat) (po : Nat) (sy : Nat) (so : Nat) (pt : Nat) (sk : Nat) (fcn : Int32) (la : Nat) (lb : Nat) (lx : RP) (pa : Nat) (pb : Nat) (px : RP) (ys : Nat → Int32) (car : Nat) (pl : Nat) (hcar : car < 16) (hpl : pl + 1 ≤ 48) : Mv l D tc tb y_RE_takeCarrier prog_5_method_8_code 18 none ({ frames := 2, cells := 0, slots := 0, locals := 40 }) [.ref h0, .int (nI car), .int (nI pl), .int (nI 1)] [(h0, .inr (6, [.ref to, .ref fo, .int (fcn), .ref le, .ref tr, .ref po, .ref sy, .ref so, .ref pt, .ref sk])), (le, .inr (2, [.ref la, .ref lb])), (la, .inl (tc 0, 16, .inl lx.1)), (lb, .inl (tc 0, 16, .inl lx.2)), (po, .inr (2, [.ref pa, .ref pb])), (pa, .inl (tc 0, 16, .inl px.1)), (pb, .inl (tc 0, 16, .inl px.2)), (sy, .inl (tc 0, 48, .inl ys))] (fun _ : Unit => True) (fun _ : Unit => [(h0, .inr (6, [.ref to, .ref fo, .int (fcn), .ref le, .ref tr, .ref po, .ref sy, .ref so, .ref pt, .ref sk])), (le, .inr (2, [.ref la, .ref lb])), (la, .inl (tc 0, 16, .inl lx.1)), (lb, .inl (tc 0, 16, .inl lx.2)), (po, .inr (2, [.ref pa, .ref pb])), (pa, .inl (tc 0, 16, .inl px.1)), (pb, .inl (tc 0, 16, .inl px.2)), (sy, .inl (tc 0, 48, .inl (tc1 lx px car pl ys)))]) := by
  refine Mv.go (by decide) (Nat.le_of_ble_eq_true rfl) ?_
  intro p e s m below meth c A ls R args Q C
  obtain ⟨hx, hb, hr, hts, hown, hlk, hml, hin, hA, hST, hN, hK, hP, hD, hS, hl, hR, hQ⟩ := C
  have hw : ∀ w ∈ lw_g, w.before args s = true := fun w h => hts w (List.mem_cons_of_mem _ h)
  have hl : lv_has ls 18 [(0, .ref h0), (1, .int (nI car)), (2, .int (nI pl)), (3, .int (nI 1))] := hl
  refine lv_aload_n hx hb d_RE_takeCarrier_0 rfl (lv_at hl 0 rfl) ?_
  refine k_get hx hb hw uw_RE hown hK hP 0 rfl rfl 3 (by decide) (hw _ wd_222) rfl d_RE_takeCarrier_1 ?_
  refine k_get hx hb hw uw_PO hown hK hP 1 rfl rfl 0 (by decide) (hw _ wd_61) rfl d_RE_takeCarrier_4 ?_
  refine lv_iload_n hx hb d_RE_takeCarrier_7 rfl (lv_at hl 1 rfl) ?_
  refine k_iald hx hb hK hP 2 0 rfl rfl (by omega) (by omega) d_RE_takeCarrier_8 ?_
  refine lv_i2l hx hb d_RE_takeCarrier_9 rfl ?_
  refine lv_lstore (lv' := [(4, .long ((lx.1 car).toInt64)), (0, .ref h0), (1, .int (nI car)), (2, .int (nI pl)), (3, .int (nI 1))]) hx hb d_RE_takeCarrier_10 hl (by decide) rfl (fun ls hl => ?_)
  refine lv_aload_n hx hb d_RE_takeCarrier_12 rfl (lv_at hl 1 rfl) ?_
  refine k_get hx hb hw uw_RE hown hK hP 0 rfl rfl 3 (by decide) (hw _ wd_222) rfl d_RE_takeCarrier_13 ?_
  refine k_get hx hb hw uw_PO hown hK hP 1 rfl rfl 1 (by decide) (hw _ wd_65) rfl d_RE_takeCarrier_16 ?_
  refine lv_iload_n hx hb d_RE_takeCarrier_19 rfl (lv_at hl 2 rfl) ?_
  refine k_iald hx hb hK hP 3 0 rfl rfl (by omega) (by omega) d_RE_takeCarrier_20 ?_
  refine lv_i2l hx hb d_RE_takeCarrier_21 rfl ?_
  refine lv_lstore (lv' := [(6, .long ((lx.2 car).toInt64)), (4, .long ((lx.1 car).toInt64)), (0, .ref h0), (1, .int (nI car)), (2, .int (nI pl)), (3, .int (nI 1))]) hx hb d_RE_takeCarrier_22 hl (by decide) rfl (fun ls hl => ?_)
  refine lv_aload_n hx hb d_RE_takeCarrier_24 rfl (lv_at hl 2 rfl) ?_
  refine k_get hx hb hw uw_RE hown hK hP 0 rfl rfl 5 (by decide) (hw _ wd_225) rfl d_RE_takeCarrier_25 ?_
  refine k_get hx hb hw uw_PO hown hK hP 4 rfl rfl 0 (by decide) (hw _ wd_61) rfl d_RE_takeCarrier_28 ?_
  refine lv_iload_n hx hb d_RE_takeCarrier_31 rfl (lv_at hl 3 rfl) ?_
  refine k_iald hx hb hK hP 5 0 rfl rfl (by omega) (by omega) d_RE_takeCarrier_32 ?_
  refine lv_i2l hx hb d_RE_takeCarrier_33 rfl ?_
  refine lv_lstore (lv' := [(8, .long ((px.1 car).toInt64)), (6, .long ((lx.2 car).toInt64)), (4, .long ((lx.1 car).toInt64)), (0, .ref h0), (1, .int (nI car)), (2, .int (nI pl)), (3, .int (nI 1))]) hx hb d_RE_takeCarrier_34 hl (by decide) rfl (fun ls hl => ?_)
  refine lv_aload_n hx hb d_RE_takeCarrier_36 rfl (lv_at hl 3 rfl) ?_
  refine k_get hx hb hw uw_RE hown hK hP 0 rfl rfl 5 (by decide) (hw _ wd_225) rfl d_RE_takeCarrier_37 ?_
  refine k_get hx hb hw uw_PO hown hK hP 4 rfl rfl 1 (by decide) (hw _ wd_65) rfl d_RE_takeCarrier_40 ?_
  refine lv_iload_n hx hb d_RE_takeCarrier_43 rfl (lv_at hl 4 rfl) ?_
  refine k_iald hx hb hK hP 6 0 rfl rfl (by omega) (by omega) d_RE_takeCarrier_44 ?_
  refine lv_i2l hx hb d_RE_takeCarrier_45 rfl ?_
  refine lv_lstore (lv' := [(10, .long ((px.2 car).toInt64)), (8, .long ((px.1 car).toInt64)), (6, .long ((lx.2 car).toInt64)), (4, .long ((lx.1 car).toInt64)), (0, .ref h0), (1, .int (nI car)), (2, .int (nI pl)), (3, .int (nI 1))]) hx hb d_RE_takeCarrier_46 hl (by decide) rfl (fun ls hl => ?_)
  refine lv_lload hx hb d_RE_takeCarrier_48 (lv_at hl 1 rfl) ?_
  refine lv_lload hx hb d_RE_takeCarrier_50 (lv_at hl 3 rfl) ?_
  refine lv_lmul hx hb d_RE_takeCarrier_52 ?_
  refine lv_lload hx hb d_RE_takeCarrier_53 (lv_at hl 0 rfl) ?_
  refine lv_lload hx hb d_RE_takeCarrier_55 (lv_at hl 2 rfl) ?_
  refine lv_lmul hx hb d_RE_takeCarrier_57 ?_
  refine lv_ladd hx hb d_RE_takeCarrier_58 ?_
  refine k_topl (y := zrF lx px car) rfl ?_
  refine lv_lstore (lv' := [(12, .long (zrF lx px car)), (10, .long ((px.2 car).toInt64)), (8, .long ((px.1 car).toInt64)), (6, .long ((lx.2 car).toInt64)), (4, .long ((lx.1 car).toInt64)), (0, .ref h0), (1, .int (nI car)), (2, .int (nI pl)), (3, .int (nI 1))]) hx hb d_RE_takeCarrier_59 hl (by decide) rfl (fun ls hl => ?_)
  refine lv_lload hx hb d_RE_takeCarrier_61 (lv_at hl 1 rfl) ?_
  refine lv_lload hx hb d_RE_takeCarrier_63 (lv_at hl 4 rfl) ?_
  refine lv_lmul hx hb d_RE_takeCarrier_65 ?_
  refine lv_lload hx hb d_RE_takeCarrier_66 (lv_at hl 2 rfl) ?_
  refine lv_lload hx hb d_RE_takeCarrier_68 (lv_at hl 3 rfl) ?_
  refine lv_lmul hx hb d_RE_takeCarrier_70 ?_
  refine lv_lsub hx hb d_RE_takeCarrier_71 ?_
  refine k_topl (y := ziF lx px car) rfl ?_
  refine lv_lstore (lv' := [(14, .long (ziF lx px car)), (12, .long (zrF lx px car)), (10, .long ((px.2 car).toInt64)), (8, .long ((px.1 car).toInt64)), (6, .long ((lx.2 car).toInt64)), (4, .long ((lx.1 car).toInt64)), (0, .ref h0), (1, .int (nI car)), (2, .int (nI pl)), (3, .int (nI 1))]) hx hb d_RE_takeCarrier_72 hl (by decide) rfl (fun ls hl => ?_)
  refine lv_aload_n hx hb d_RE_takeCarrier_74 rfl (lv_at hl 6 rfl) ?_
  refine k_get hx hb hw uw_RE hown hK hP 0 rfl rfl 6 (by decide) (hw _ wd_226) rfl d_RE_takeCarrier_75 ?_
  refine lv_iload_n hx hb d_RE_takeCarrier_78 rfl (lv_at hl 8 rfl) ?_
  refine lv_lload hx hb d_RE_takeCarrier_79 (lv_at hl 1 rfl) ?_
  refine k_calli (wr := [(h0, .inr (6, [.ref to, .ref fo, .int (fcn), .ref le, .ref tr, .ref po, .ref sy, .ref so, .ref pt, .ref sk])), (le, .inr (2, [.ref la, .ref lb])), (la, .inl (tc 0, 16, .inl lx.1)), (lb, .inl (tc 0, 16, .inl lx.2)), (po, .inr (2, [.ref pa, .ref pb])), (pa, .inl (tc 0, 16, .inl px.1)), (pb, .inl (tc 0, 16, .inl px.2)), (sy, .inl (tc 0, 48, .inl ys))]) (k_runS (As := [.long (zrF lx px car)]) (rest := [.int (nI pl), .ref sy]) (wc := []) ⟨hx, hb, hml, hown, hts⟩ (c_RE_softOf l D tc tb (zrF lx px car)  s.heap.size) (va_cwS 1 hts (k_goodS wd_628 wd_629 wd_7 wd_630) rfl rfl rfl hd_RE_softOf ⟨by rw [hR]; exact Nat.le_of_ble_eq_true rfl, by rw [hR]; exact Nat.le_of_ble_eq_true rfl⟩) hK hP hD hS hST hN hA [] (by decide) rfl rfl hl.1 rfl (Nat.le_of_ble_eq_true rfl) d_RE_takeCarrier_81 ⟨by rw [hR]; exact Nat.le_of_ble_eq_true rfl, by rw [hR]; exact Nat.le_of_ble_eq_true rfl⟩) hP hD hS hA [] [0, 1, 2, 3, 4, 5, 6, 7] rfl rfl (by decide) (by decide) (fun _ H locs hp81 hP hD hS => ?_)
  have hP : va_P D classes [(h0, .inr (6, [.ref to, .ref fo, .int (fcn), .ref le, .ref tr, .ref po, .ref sy, .ref so, .ref pt, .ref sk])), (le, .inr (2, [.ref la, .ref lb])), (la, .inl (tc 0, 16, .inl lx.1)), (lb, .inl (tc 0, 16, .inl lx.2)), (po, .inr (2, [.ref pa, .ref pb])), (pa, .inl (tc 0, 16, .inl px.1)), (pb, .inl (tc 0, 16, .inl px.2)), (sy, .inl (tc 0, 48, .inl ys))] H := hP
  have hD : va_D A [(h0, .inr (6, [.ref to, .ref fo, .int (fcn), .ref le, .ref tr, .ref po, .ref sy, .ref so, .ref pt, .ref sk])), (le, .inr (2, [.ref la, .ref lb])), (la, .inl (tc 0, 16, .inl lx.1)), (lb, .inl (tc 0, 16, .inl lx.2)), (po, .inr (2, [.ref pa, .ref pb])), (pa, .inl (tc 0, 16, .inl px.1)), (pb, .inl (tc 0, 16, .inl px.2)), (sy, .inl (tc 0, 48, .inl ys))] := hD
  refine W.widen (k := 0) (n := 0) (Nat.le_of_ble_eq_true rfl) (Nat.le_of_ble_eq_true rfl) ?_
  refine W.eq (g2 := F0 m 84 ls [.int (soF (zrF lx px car)), .int (nI pl), .ref sy]) rfl ?_
  refine k_iast (ws' := [(h0, .inr (6, [.ref to, .ref fo, .int (fcn), .ref le, .ref tr, .ref po, .ref sy, .ref so, .ref pt, .ref sk])), (le, .inr (2, [.ref la, .ref lb])), (la, .inl (tc 0, 16, .inl lx.1)), (lb, .inl (tc 0, 16, .inl lx.2)), (po, .inr (2, [.ref pa, .ref pb])), (pa, .inl (tc 0, 16, .inl px.1)), (pb, .inl (tc 0, 16, .inl px.2)), (sy, .inl (tc 0, 48, .inl (upd ys pl (soF (zrF lx px car)))))]) hx hb hK hP hD hS 7 0 rfl rfl (by omega) (by omega) d_RE_takeCarrier_84 rfl (fun H locs hP hD hS => ?_)
  refine lv_iload_n hx hb d_RE_takeCarrier_85 rfl (lv_at hl 9 rfl) ?_
  refine lv_iconst (v := nI 2) hx hb d_RE_takeCarrier_86 (by decide) ?_
  refine k_icmp_ne (tgt := 106) hx hb d_RE_takeCarrier_87 (by decide) (by omega) (by omega) (fun h87 => ?_) (fun h87 => ?_)
  · refine lv_iload_n hx hb d_RE_takeCarrier_106 rfl (lv_at hl 9 rfl) ?_
    refine lv_iconst (v := nI 4) hx hb d_RE_takeCarrier_107 (by decide) ?_
    refine k_icmp_ne (tgt := 182) hx hb d_RE_takeCarrier_108 (by decide) (by omega) (by omega) (fun h108 => ?_) (fun h108 => ?_)
    · rw [hQ]
      exact k_vret () hx hb hr hlk hK hP hD hS [0, 1, 2, 3, 4, 5, 6, 7] (by decide) rfl trivial d_RE_takeCarrier_182
    · exfalso; omega
  · exfalso; omega
set_option maxHeartbeats 4000000 in
set_option maxRecDepth 100000 in
theorem c_RE_takeCarrier_2 (l : Launch) (D : va_G) (tc : Nat → ClassId) (tb : Nat → Nat) (h0 : Nat) (to : Nat) (fo : Nat) (le : Nat) (tr : Nat) (po : Nat) (sy : Nat) (so : Nat) (pt : Nat) (sk : Nat) (fcn : Int32) (la : Nat) (lb : Nat) (lx : RP) (pa : Nat) (pb : Nat) (px : RP) (ys : Nat → Int32) (car : Nat) (pl : Nat) (hcar : car < 16) (hpl : pl + 2 ≤ 48) : Mv l D tc tb y_RE_takeCarrier prog_5_method_8_code 18 none ({ frames := 2, cells := 0, slots := 0, locals := 40 }) [.ref h0, .int (nI car), .int (nI pl), .int (nI 2)] [(h0, .inr (6, [.ref to, .ref fo, .int (fcn), .ref le, .ref tr, .ref po, .ref sy, .ref so, .ref pt, .ref sk])), (le, .inr (2, [.ref la, .ref lb])), (la, .inl (tc 0, 16, .inl lx.1)), (lb, .inl (tc 0, 16, .inl lx.2)), (po, .inr (2, [.ref pa, .ref pb])), (pa, .inl (tc 0, 16, .inl px.1)), (pb, .inl (tc 0, 16, .inl px.2)), (sy, .inl (tc 0, 48, .inl ys))] (fun _ : Unit => True) (fun _ : Unit => [(h0, .inr (6, [.ref to, .ref fo, .int (fcn), .ref le, .ref tr, .ref po, .ref sy, .ref so, .ref pt, .ref sk])), (le, .inr (2, [.ref la, .ref lb])), (la, .inl (tc 0, 16, .inl lx.1)), (lb, .inl (tc 0, 16, .inl lx.2)), (po, .inr (2, [.ref pa, .ref pb])), (pa, .inl (tc 0, 16, .inl px.1)), (pb, .inl (tc 0, 16, .inl px.2)), (sy, .inl (tc 0, 48, .inl (tc2 lx px car pl ys)))]) := by
  refine Mv.go (by decide) (Nat.le_of_ble_eq_true rfl) ?_
  intro p e s m below meth c A ls R args Q C
  obtain ⟨hx, hb, hr, hts, hown, hlk, hml, hin, hA, hST, hN, hK, hP, hD, hS, hl, hR, hQ⟩ := C
  have hw : ∀ w ∈ lw_g, w.before args s = true := fun w h => hts w (List.mem_cons_of_mem _ h)
  have hl : lv_has ls 18 [(0, .ref h0), (1, .int (nI car)), (2, .int (nI pl)), (3, .int (nI 2))] := hl
  refine lv_aload_n hx hb d_RE_takeCarrier_0 rfl (lv_at hl 0 rfl) ?_
  refine k_get hx hb hw uw_RE hown hK hP 0 rfl rfl 3 (by decide) (hw _ wd_222) rfl d_RE_takeCarrier_1 ?_
  refine k_get hx hb hw uw_PO hown hK hP 1 rfl rfl 0 (by decide) (hw _ wd_61) rfl d_RE_takeCarrier_4 ?_
  refine lv_iload_n hx hb d_RE_takeCarrier_7 rfl (lv_at hl 1 rfl) ?_
  refine k_iald hx hb hK hP 2 0 rfl rfl (by omega) (by omega) d_RE_takeCarrier_8 ?_
  refine lv_i2l hx hb d_RE_takeCarrier_9 rfl ?_
  refine lv_lstore (lv' := [(4, .long ((lx.1 car).toInt64)), (0, .ref h0), (1, .int (nI car)), (2, .int (nI pl)), (3, .int (nI 2))]) hx hb d_RE_takeCarrier_10 hl (by decide) rfl (fun ls hl => ?_)
  refine lv_aload_n hx hb d_RE_takeCarrier_12 rfl (lv_at hl 1 rfl) ?_
  refine k_get hx hb hw uw_RE hown hK hP 0 rfl rfl 3 (by decide) (hw _ wd_222) rfl d_RE_takeCarrier_13 ?_
  refine k_get hx hb hw uw_PO hown hK hP 1 rfl rfl 1 (by decide) (hw _ wd_65) rfl d_RE_takeCarrier_16 ?_
  refine lv_iload_n hx hb d_RE_takeCarrier_19 rfl (lv_at hl 2 rfl) ?_
  refine k_iald hx hb hK hP 3 0 rfl rfl (by omega) (by omega) d_RE_takeCarrier_20 ?_
  refine lv_i2l hx hb d_RE_takeCarrier_21 rfl ?_
  refine lv_lstore (lv' := [(6, .long ((lx.2 car).toInt64)), (4, .long ((lx.1 car).toInt64)), (0, .ref h0), (1, .int (nI car)), (2, .int (nI pl)), (3, .int (nI 2))]) hx hb d_RE_takeCarrier_22 hl (by decide) rfl (fun ls hl => ?_)
  refine lv_aload_n hx hb d_RE_takeCarrier_24 rfl (lv_at hl 2 rfl) ?_
  refine k_get hx hb hw uw_RE hown hK hP 0 rfl rfl 5 (by decide) (hw _ wd_225) rfl d_RE_takeCarrier_25 ?_
  refine k_get hx hb hw uw_PO hown hK hP 4 rfl rfl 0 (by decide) (hw _ wd_61) rfl d_RE_takeCarrier_28 ?_
  refine lv_iload_n hx hb d_RE_takeCarrier_31 rfl (lv_at hl 3 rfl) ?_
  refine k_iald hx hb hK hP 5 0 rfl rfl (by omega) (by omega) d_RE_takeCarrier_32 ?_
  refine lv_i2l hx hb d_RE_takeCarrier_33 rfl ?_
  refine lv_lstore (lv' := [(8, .long ((px.1 car).toInt64)), (6, .long ((lx.2 car).toInt64)), (4, .long ((lx.1 car).toInt64)), (0, .ref h0), (1, .int (nI car)), (2, .int (nI pl)), (3, .int (nI 2))]) hx hb d_RE_takeCarrier_34 hl (by decide) rfl (fun ls hl => ?_)
  refine lv_aload_n hx hb d_RE_takeCarrier_36 rfl (lv_at hl 3 rfl) ?_
  refine k_get hx hb hw uw_RE hown hK hP 0 rfl rfl 5 (by decide) (hw _ wd_225) rfl d_RE_takeCarrier_37 ?_
  refine k_get hx hb hw uw_PO hown hK hP 4 rfl rfl 1 (by decide) (hw _ wd_65) rfl d_RE_takeCarrier_40 ?_
  refine lv_iload_n hx hb d_RE_takeCarrier_43 rfl (lv_at hl 4 rfl) ?_
  refine k_iald hx hb hK hP 6 0 rfl rfl (by omega) (by omega) d_RE_takeCarrier_44 ?_
  refine lv_i2l hx hb d_RE_takeCarrier_45 rfl ?_
  refine lv_lstore (lv' := [(10, .long ((px.2 car).toInt64)), (8, .long ((px.1 car).toInt64)), (6, .long ((lx.2 car).toInt64)), (4, .long ((lx.1 car).toInt64)), (0, .ref h0), (1, .int (nI car)), (2, .int (nI pl)), (3, .int (nI 2))]) hx hb d_RE_takeCarrier_46 hl (by decide) rfl (fun ls hl => ?_)
  refine lv_lload hx hb d_RE_takeCarrier_48 (lv_at hl 1 rfl) ?_
  refine lv_lload hx hb d_RE_takeCarrier_50 (lv_at hl 3 rfl) ?_
  refine lv_lmul hx hb d_RE_takeCarrier_52 ?_
  refine lv_lload hx hb d_RE_takeCarrier_53 (lv_at hl 0 rfl) ?_
  refine lv_lload hx hb d_RE_takeCarrier_55 (lv_at hl 2 rfl) ?_
  refine lv_lmul hx hb d_RE_takeCarrier_57 ?_
  refine lv_ladd hx hb d_RE_takeCarrier_58 ?_
  refine k_topl (y := zrF lx px car) rfl ?_
  refine lv_lstore (lv' := [(12, .long (zrF lx px car)), (10, .long ((px.2 car).toInt64)), (8, .long ((px.1 car).toInt64)), (6, .long ((lx.2 car).toInt64)), (4, .long ((lx.1 car).toInt64)), (0, .ref h0), (1, .int (nI car)), (2, .int (nI pl)), (3, .int (nI 2))]) hx hb d_RE_takeCarrier_59 hl (by decide) rfl (fun ls hl => ?_)
  refine lv_lload hx hb d_RE_takeCarrier_61 (lv_at hl 1 rfl) ?_
  refine lv_lload hx hb d_RE_takeCarrier_63 (lv_at hl 4 rfl) ?_
  refine lv_lmul hx hb d_RE_takeCarrier_65 ?_
  refine lv_lload hx hb d_RE_takeCarrier_66 (lv_at hl 2 rfl) ?_
  refine lv_lload hx hb d_RE_takeCarrier_68 (lv_at hl 3 rfl) ?_
  refine lv_lmul hx hb d_RE_takeCarrier_70 ?_
  refine lv_lsub hx hb d_RE_takeCarrier_71 ?_
  refine k_topl (y := ziF lx px car) rfl ?_
  refine lv_lstore (lv' := [(14, .long (ziF lx px car)), (12, .long (zrF lx px car)), (10, .long ((px.2 car).toInt64)), (8, .long ((px.1 car).toInt64)), (6, .long ((lx.2 car).toInt64)), (4, .long ((lx.1 car).toInt64)), (0, .ref h0), (1, .int (nI car)), (2, .int (nI pl)), (3, .int (nI 2))]) hx hb d_RE_takeCarrier_72 hl (by decide) rfl (fun ls hl => ?_)
  refine lv_aload_n hx hb d_RE_takeCarrier_74 rfl (lv_at hl 6 rfl) ?_
  refine k_get hx hb hw uw_RE hown hK hP 0 rfl rfl 6 (by decide) (hw _ wd_226) rfl d_RE_takeCarrier_75 ?_
  refine lv_iload_n hx hb d_RE_takeCarrier_78 rfl (lv_at hl 8 rfl) ?_
  refine lv_lload hx hb d_RE_takeCarrier_79 (lv_at hl 1 rfl) ?_
  refine k_calli (wr := [(h0, .inr (6, [.ref to, .ref fo, .int (fcn), .ref le, .ref tr, .ref po, .ref sy, .ref so, .ref pt, .ref sk])), (le, .inr (2, [.ref la, .ref lb])), (la, .inl (tc 0, 16, .inl lx.1)), (lb, .inl (tc 0, 16, .inl lx.2)), (po, .inr (2, [.ref pa, .ref pb])), (pa, .inl (tc 0, 16, .inl px.1)), (pb, .inl (tc 0, 16, .inl px.2)), (sy, .inl (tc 0, 48, .inl ys))]) (k_runS (As := [.long (zrF lx px car)]) (rest := [.int (nI pl), .ref sy]) (wc := []) ⟨hx, hb, hml, hown, hts⟩ (c_RE_softOf l D tc tb (zrF lx px car)  s.heap.size) (va_cwS 1 hts (k_goodS wd_628 wd_629 wd_7 wd_630) rfl rfl rfl hd_RE_softOf ⟨by rw [hR]; exact Nat.le_of_ble_eq_true rfl, by rw [hR]; exact Nat.le_of_ble_eq_true rfl⟩) hK hP hD hS hST hN hA [] (by decide) rfl rfl hl.1 rfl (Nat.le_of_ble_eq_true rfl) d_RE_takeCarrier_81 ⟨by rw [hR]; exact Nat.le_of_ble_eq_true rfl, by rw [hR]; exact Nat.le_of_ble_eq_true rfl⟩) hP hD hS hA [] [0, 1, 2, 3, 4, 5, 6, 7] rfl rfl (by decide) (by decide) (fun _ H locs hp81 hP hD hS => ?_)
  have hP : va_P D classes [(h0, .inr (6, [.ref to, .ref fo, .int (fcn), .ref le, .ref tr, .ref po, .ref sy, .ref so, .ref pt, .ref sk])), (le, .inr (2, [.ref la, .ref lb])), (la, .inl (tc 0, 16, .inl lx.1)), (lb, .inl (tc 0, 16, .inl lx.2)), (po, .inr (2, [.ref pa, .ref pb])), (pa, .inl (tc 0, 16, .inl px.1)), (pb, .inl (tc 0, 16, .inl px.2)), (sy, .inl (tc 0, 48, .inl ys))] H := hP
  have hD : va_D A [(h0, .inr (6, [.ref to, .ref fo, .int (fcn), .ref le, .ref tr, .ref po, .ref sy, .ref so, .ref pt, .ref sk])), (le, .inr (2, [.ref la, .ref lb])), (la, .inl (tc 0, 16, .inl lx.1)), (lb, .inl (tc 0, 16, .inl lx.2)), (po, .inr (2, [.ref pa, .ref pb])), (pa, .inl (tc 0, 16, .inl px.1)), (pb, .inl (tc 0, 16, .inl px.2)), (sy, .inl (tc 0, 48, .inl ys))] := hD
  refine W.widen (k := 0) (n := 0) (Nat.le_of_ble_eq_true rfl) (Nat.le_of_ble_eq_true rfl) ?_
  refine W.eq (g2 := F0 m 84 ls [.int (soF (zrF lx px car)), .int (nI pl), .ref sy]) rfl ?_
  refine k_iast (ws' := [(h0, .inr (6, [.ref to, .ref fo, .int (fcn), .ref le, .ref tr, .ref po, .ref sy, .ref so, .ref pt, .ref sk])), (le, .inr (2, [.ref la, .ref lb])), (la, .inl (tc 0, 16, .inl lx.1)), (lb, .inl (tc 0, 16, .inl lx.2)), (po, .inr (2, [.ref pa, .ref pb])), (pa, .inl (tc 0, 16, .inl px.1)), (pb, .inl (tc 0, 16, .inl px.2)), (sy, .inl (tc 0, 48, .inl (upd ys pl (soF (zrF lx px car)))))]) hx hb hK hP hD hS 7 0 rfl rfl (by omega) (by omega) d_RE_takeCarrier_84 rfl (fun H locs hP hD hS => ?_)
  refine lv_iload_n hx hb d_RE_takeCarrier_85 rfl (lv_at hl 9 rfl) ?_
  refine lv_iconst (v := nI 2) hx hb d_RE_takeCarrier_86 (by decide) ?_
  refine k_icmp_ne (tgt := 106) hx hb d_RE_takeCarrier_87 (by decide) (by omega) (by omega) (fun h87 => ?_) (fun h87 => ?_)
  · exfalso; omega
  · refine lv_aload_n hx hb d_RE_takeCarrier_90 rfl (lv_at hl 6 rfl) ?_
    refine k_get hx hb hw uw_RE hown hK hP 0 rfl rfl 6 (by decide) (hw _ wd_226) rfl d_RE_takeCarrier_91 ?_
    refine lv_iload_n hx hb d_RE_takeCarrier_94 rfl (lv_at hl 8 rfl) ?_
    refine lv_iconst (v := nI 1) hx hb d_RE_takeCarrier_95 (by decide) ?_
    refine k_iadd hx hb d_RE_takeCarrier_96 ?_
    refine lv_lload hx hb d_RE_takeCarrier_97 (lv_at hl 0 rfl) ?_
    refine k_calli (wr := [(h0, .inr (6, [.ref to, .ref fo, .int (fcn), .ref le, .ref tr, .ref po, .ref sy, .ref so, .ref pt, .ref sk])), (le, .inr (2, [.ref la, .ref lb])), (la, .inl (tc 0, 16, .inl lx.1)), (lb, .inl (tc 0, 16, .inl lx.2)), (po, .inr (2, [.ref pa, .ref pb])), (pa, .inl (tc 0, 16, .inl px.1)), (pb, .inl (tc 0, 16, .inl px.2)), (sy, .inl (tc 0, 48, .inl (upd ys pl (soF (zrF lx px car)))))]) (k_runS (As := [.long (ziF lx px car)]) (rest := [.int (nI (pl + 1)), .ref sy]) (wc := []) ⟨hx, hb, hml, hown, hts⟩ (c_RE_softOf l D tc tb (ziF lx px car)  H.size) (va_cwS 1 hts (k_goodS wd_628 wd_629 wd_7 wd_630) rfl rfl rfl hd_RE_softOf ⟨by rw [hR]; exact Nat.le_of_ble_eq_true rfl, by rw [hR]; exact Nat.le_of_ble_eq_true rfl⟩) hK hP hD hS hST hN hA [] (by decide) rfl rfl hl.1 rfl (Nat.le_of_ble_eq_true rfl) d_RE_takeCarrier_99 ⟨by rw [hR]; exact Nat.le_of_ble_eq_true rfl, by rw [hR]; exact Nat.le_of_ble_eq_true rfl⟩) hP hD hS hA [] [0, 1, 2, 3, 4, 5, 6, 7] rfl rfl (by decide) (by decide) (fun _ H locs hp99 hP hD hS => ?_)
    have hP : va_P D classes [(h0, .inr (6, [.ref to, .ref fo, .int (fcn), .ref le, .ref tr, .ref po, .ref sy, .ref so, .ref pt, .ref sk])), (le, .inr (2, [.ref la, .ref lb])), (la, .inl (tc 0, 16, .inl lx.1)), (lb, .inl (tc 0, 16, .inl lx.2)), (po, .inr (2, [.ref pa, .ref pb])), (pa, .inl (tc 0, 16, .inl px.1)), (pb, .inl (tc 0, 16, .inl px.2)), (sy, .inl (tc 0, 48, .inl (upd ys pl (soF (zrF lx px car)))))] H := hP
    have hD : va_D A [(h0, .inr (6, [.ref to, .ref fo, .int (fcn), .ref le, .ref tr, .ref po, .ref sy, .ref so, .ref pt, .ref sk])), (le, .inr (2, [.ref la, .ref lb])), (la, .inl (tc 0, 16, .inl lx.1)), (lb, .inl (tc 0, 16, .inl lx.2)), (po, .inr (2, [.ref pa, .ref pb])), (pa, .inl (tc 0, 16, .inl px.1)), (pb, .inl (tc 0, 16, .inl px.2)), (sy, .inl (tc 0, 48, .inl (upd ys pl (soF (zrF lx px car)))))] := hD
    refine W.widen (k := 0) (n := 0) (Nat.le_of_ble_eq_true rfl) (Nat.le_of_ble_eq_true rfl) ?_
    refine W.eq (g2 := F0 m 102 ls [.int (soF (ziF lx px car)), .int (nI (pl + 1)), .ref sy]) rfl ?_
    refine k_iast (ws' := [(h0, .inr (6, [.ref to, .ref fo, .int (fcn), .ref le, .ref tr, .ref po, .ref sy, .ref so, .ref pt, .ref sk])), (le, .inr (2, [.ref la, .ref lb])), (la, .inl (tc 0, 16, .inl lx.1)), (lb, .inl (tc 0, 16, .inl lx.2)), (po, .inr (2, [.ref pa, .ref pb])), (pa, .inl (tc 0, 16, .inl px.1)), (pb, .inl (tc 0, 16, .inl px.2)), (sy, .inl (tc 0, 48, .inl (upd (upd ys pl (soF (zrF lx px car))) (pl + 1) (soF (ziF lx px car)))))]) hx hb hK hP hD hS 7 0 rfl rfl (by omega) (by omega) d_RE_takeCarrier_102 rfl (fun H locs hP hD hS => ?_)
    refine lv_goto (tgt := 182) hx hb d_RE_takeCarrier_103 (by decide) ?_
    rw [hQ]
    exact k_vret () hx hb hr hlk hK hP hD hS [0, 1, 2, 3, 4, 5, 6, 7] (by decide) rfl trivial d_RE_takeCarrier_182
set_option maxHeartbeats 4000000 in
set_option maxRecDepth 100000 in
theorem c_RE_takeCarrier_4 (l : Launch) (D : va_G) (tc : Nat → ClassId) (tb : Nat → Nat) (h0 : Nat) (to : Nat) (fo : Nat) (le : Nat) (tr : Nat) (po : Nat) (sy : Nat) (so : Nat) (pt : Nat) (sk : Nat) (fcn : Int32) (la : Nat) (lb : Nat) (lx : RP) (pa : Nat) (pb : Nat) (px : RP) (ys : Nat → Int32) (car : Nat) (pl : Nat) (hcar : car < 16) (hpl : pl + 4 ≤ 48) : Mv l D tc tb y_RE_takeCarrier prog_5_method_8_code 18 none ({ frames := 2, cells := 0, slots := 0, locals := 40 }) [.ref h0, .int (nI car), .int (nI pl), .int (nI 4)] [(h0, .inr (6, [.ref to, .ref fo, .int (fcn), .ref le, .ref tr, .ref po, .ref sy, .ref so, .ref pt, .ref sk])), (le, .inr (2, [.ref la, .ref lb])), (la, .inl (tc 0, 16, .inl lx.1)), (lb, .inl (tc 0, 16, .inl lx.2)), (po, .inr (2, [.ref pa, .ref pb])), (pa, .inl (tc 0, 16, .inl px.1)), (pb, .inl (tc 0, 16, .inl px.2)), (sy, .inl (tc 0, 48, .inl ys))] (fun _ : Unit => True) (fun _ : Unit => [(h0, .inr (6, [.ref to, .ref fo, .int (fcn), .ref le, .ref tr, .ref po, .ref sy, .ref so, .ref pt, .ref sk])), (le, .inr (2, [.ref la, .ref lb])), (la, .inl (tc 0, 16, .inl lx.1)), (lb, .inl (tc 0, 16, .inl lx.2)), (po, .inr (2, [.ref pa, .ref pb])), (pa, .inl (tc 0, 16, .inl px.1)), (pb, .inl (tc 0, 16, .inl px.2)), (sy, .inl (tc 0, 48, .inl (tc4 lx px car pl ys)))]) := by
  refine Mv.go (by decide) (Nat.le_of_ble_eq_true rfl) ?_
  intro p e s m below meth c A ls R args Q C
  obtain ⟨hx, hb, hr, hts, hown, hlk, hml, hin, hA, hST, hN, hK, hP, hD, hS, hl, hR, hQ⟩ := C
  have hw : ∀ w ∈ lw_g, w.before args s = true := fun w h => hts w (List.mem_cons_of_mem _ h)
  have hl : lv_has ls 18 [(0, .ref h0), (1, .int (nI car)), (2, .int (nI pl)), (3, .int (nI 4))] := hl
  refine lv_aload_n hx hb d_RE_takeCarrier_0 rfl (lv_at hl 0 rfl) ?_
  refine k_get hx hb hw uw_RE hown hK hP 0 rfl rfl 3 (by decide) (hw _ wd_222) rfl d_RE_takeCarrier_1 ?_
  refine k_get hx hb hw uw_PO hown hK hP 1 rfl rfl 0 (by decide) (hw _ wd_61) rfl d_RE_takeCarrier_4 ?_
  refine lv_iload_n hx hb d_RE_takeCarrier_7 rfl (lv_at hl 1 rfl) ?_
  refine k_iald hx hb hK hP 2 0 rfl rfl (by omega) (by omega) d_RE_takeCarrier_8 ?_
  refine lv_i2l hx hb d_RE_takeCarrier_9 rfl ?_
  refine lv_lstore (lv' := [(4, .long ((lx.1 car).toInt64)), (0, .ref h0), (1, .int (nI car)), (2, .int (nI pl)), (3, .int (nI 4))]) hx hb d_RE_takeCarrier_10 hl (by decide) rfl (fun ls hl => ?_)
  refine lv_aload_n hx hb d_RE_takeCarrier_12 rfl (lv_at hl 1 rfl) ?_
  refine k_get hx hb hw uw_RE hown hK hP 0 rfl rfl 3 (by decide) (hw _ wd_222) rfl d_RE_takeCarrier_13 ?_
  refine k_get hx hb hw uw_PO hown hK hP 1 rfl rfl 1 (by decide) (hw _ wd_65) rfl d_RE_takeCarrier_16 ?_
  refine lv_iload_n hx hb d_RE_takeCarrier_19 rfl (lv_at hl 2 rfl) ?_
  refine k_iald hx hb hK hP 3 0 rfl rfl (by omega) (by omega) d_RE_takeCarrier_20 ?_
  refine lv_i2l hx hb d_RE_takeCarrier_21 rfl ?_
  refine lv_lstore (lv' := [(6, .long ((lx.2 car).toInt64)), (4, .long ((lx.1 car).toInt64)), (0, .ref h0), (1, .int (nI car)), (2, .int (nI pl)), (3, .int (nI 4))]) hx hb d_RE_takeCarrier_22 hl (by decide) rfl (fun ls hl => ?_)
  refine lv_aload_n hx hb d_RE_takeCarrier_24 rfl (lv_at hl 2 rfl) ?_
  refine k_get hx hb hw uw_RE hown hK hP 0 rfl rfl 5 (by decide) (hw _ wd_225) rfl d_RE_takeCarrier_25 ?_
  refine k_get hx hb hw uw_PO hown hK hP 4 rfl rfl 0 (by decide) (hw _ wd_61) rfl d_RE_takeCarrier_28 ?_
  refine lv_iload_n hx hb d_RE_takeCarrier_31 rfl (lv_at hl 3 rfl) ?_
  refine k_iald hx hb hK hP 5 0 rfl rfl (by omega) (by omega) d_RE_takeCarrier_32 ?_
  refine lv_i2l hx hb d_RE_takeCarrier_33 rfl ?_
  refine lv_lstore (lv' := [(8, .long ((px.1 car).toInt64)), (6, .long ((lx.2 car).toInt64)), (4, .long ((lx.1 car).toInt64)), (0, .ref h0), (1, .int (nI car)), (2, .int (nI pl)), (3, .int (nI 4))]) hx hb d_RE_takeCarrier_34 hl (by decide) rfl (fun ls hl => ?_)
  refine lv_aload_n hx hb d_RE_takeCarrier_36 rfl (lv_at hl 3 rfl) ?_
  refine k_get hx hb hw uw_RE hown hK hP 0 rfl rfl 5 (by decide) (hw _ wd_225) rfl d_RE_takeCarrier_37 ?_
  refine k_get hx hb hw uw_PO hown hK hP 4 rfl rfl 1 (by decide) (hw _ wd_65) rfl d_RE_takeCarrier_40 ?_
  refine lv_iload_n hx hb d_RE_takeCarrier_43 rfl (lv_at hl 4 rfl) ?_
  refine k_iald hx hb hK hP 6 0 rfl rfl (by omega) (by omega) d_RE_takeCarrier_44 ?_
  refine lv_i2l hx hb d_RE_takeCarrier_45 rfl ?_
  refine lv_lstore (lv' := [(10, .long ((px.2 car).toInt64)), (8, .long ((px.1 car).toInt64)), (6, .long ((lx.2 car).toInt64)), (4, .long ((lx.1 car).toInt64)), (0, .ref h0), (1, .int (nI car)), (2, .int (nI pl)), (3, .int (nI 4))]) hx hb d_RE_takeCarrier_46 hl (by decide) rfl (fun ls hl => ?_)
  refine lv_lload hx hb d_RE_takeCarrier_48 (lv_at hl 1 rfl) ?_
  refine lv_lload hx hb d_RE_takeCarrier_50 (lv_at hl 3 rfl) ?_
  refine lv_lmul hx hb d_RE_takeCarrier_52 ?_
  refine lv_lload hx hb d_RE_takeCarrier_53 (lv_at hl 0 rfl) ?_
  refine lv_lload hx hb d_RE_takeCarrier_55 (lv_at hl 2 rfl) ?_
  refine lv_lmul hx hb d_RE_takeCarrier_57 ?_
  refine lv_ladd hx hb d_RE_takeCarrier_58 ?_
  refine k_topl (y := zrF lx px car) rfl ?_
  refine lv_lstore (lv' := [(12, .long (zrF lx px car)), (10, .long ((px.2 car).toInt64)), (8, .long ((px.1 car).toInt64)), (6, .long ((lx.2 car).toInt64)), (4, .long ((lx.1 car).toInt64)), (0, .ref h0), (1, .int (nI car)), (2, .int (nI pl)), (3, .int (nI 4))]) hx hb d_RE_takeCarrier_59 hl (by decide) rfl (fun ls hl => ?_)
  refine lv_lload hx hb d_RE_takeCarrier_61 (lv_at hl 1 rfl) ?_
  refine lv_lload hx hb d_RE_takeCarrier_63 (lv_at hl 4 rfl) ?_
  refine lv_lmul hx hb d_RE_takeCarrier_65 ?_
  refine lv_lload hx hb d_RE_takeCarrier_66 (lv_at hl 2 rfl) ?_
  refine lv_lload hx hb d_RE_takeCarrier_68 (lv_at hl 3 rfl) ?_
  refine lv_lmul hx hb d_RE_takeCarrier_70 ?_
  refine lv_lsub hx hb d_RE_takeCarrier_71 ?_
  refine k_topl (y := ziF lx px car) rfl ?_
  refine lv_lstore (lv' := [(14, .long (ziF lx px car)), (12, .long (zrF lx px car)), (10, .long ((px.2 car).toInt64)), (8, .long ((px.1 car).toInt64)), (6, .long ((lx.2 car).toInt64)), (4, .long ((lx.1 car).toInt64)), (0, .ref h0), (1, .int (nI car)), (2, .int (nI pl)), (3, .int (nI 4))]) hx hb d_RE_takeCarrier_72 hl (by decide) rfl (fun ls hl => ?_)
  refine lv_aload_n hx hb d_RE_takeCarrier_74 rfl (lv_at hl 6 rfl) ?_
  refine k_get hx hb hw uw_RE hown hK hP 0 rfl rfl 6 (by decide) (hw _ wd_226) rfl d_RE_takeCarrier_75 ?_
  refine lv_iload_n hx hb d_RE_takeCarrier_78 rfl (lv_at hl 8 rfl) ?_
  refine lv_lload hx hb d_RE_takeCarrier_79 (lv_at hl 1 rfl) ?_
  refine k_calli (wr := [(h0, .inr (6, [.ref to, .ref fo, .int (fcn), .ref le, .ref tr, .ref po, .ref sy, .ref so, .ref pt, .ref sk])), (le, .inr (2, [.ref la, .ref lb])), (la, .inl (tc 0, 16, .inl lx.1)), (lb, .inl (tc 0, 16, .inl lx.2)), (po, .inr (2, [.ref pa, .ref pb])), (pa, .inl (tc 0, 16, .inl px.1)), (pb, .inl (tc 0, 16, .inl px.2)), (sy, .inl (tc 0, 48, .inl ys))]) (k_runS (As := [.long (zrF lx px car)]) (rest := [.int (nI pl), .ref sy]) (wc := []) ⟨hx, hb, hml, hown, hts⟩ (c_RE_softOf l D tc tb (zrF lx px car)  s.heap.size) (va_cwS 1 hts (k_goodS wd_628 wd_629 wd_7 wd_630) rfl rfl rfl hd_RE_softOf ⟨by rw [hR]; exact Nat.le_of_ble_eq_true rfl, by rw [hR]; exact Nat.le_of_ble_eq_true rfl⟩) hK hP hD hS hST hN hA [] (by decide) rfl rfl hl.1 rfl (Nat.le_of_ble_eq_true rfl) d_RE_takeCarrier_81 ⟨by rw [hR]; exact Nat.le_of_ble_eq_true rfl, by rw [hR]; exact Nat.le_of_ble_eq_true rfl⟩) hP hD hS hA [] [0, 1, 2, 3, 4, 5, 6, 7] rfl rfl (by decide) (by decide) (fun _ H locs hp81 hP hD hS => ?_)
  have hP : va_P D classes [(h0, .inr (6, [.ref to, .ref fo, .int (fcn), .ref le, .ref tr, .ref po, .ref sy, .ref so, .ref pt, .ref sk])), (le, .inr (2, [.ref la, .ref lb])), (la, .inl (tc 0, 16, .inl lx.1)), (lb, .inl (tc 0, 16, .inl lx.2)), (po, .inr (2, [.ref pa, .ref pb])), (pa, .inl (tc 0, 16, .inl px.1)), (pb, .inl (tc 0, 16, .inl px.2)), (sy, .inl (tc 0, 48, .inl ys))] H := hP
  have hD : va_D A [(h0, .inr (6, [.ref to, .ref fo, .int (fcn), .ref le, .ref tr, .ref po, .ref sy, .ref so, .ref pt, .ref sk])), (le, .inr (2, [.ref la, .ref lb])), (la, .inl (tc 0, 16, .inl lx.1)), (lb, .inl (tc 0, 16, .inl lx.2)), (po, .inr (2, [.ref pa, .ref pb])), (pa, .inl (tc 0, 16, .inl px.1)), (pb, .inl (tc 0, 16, .inl px.2)), (sy, .inl (tc 0, 48, .inl ys))] := hD
  refine W.widen (k := 0) (n := 0) (Nat.le_of_ble_eq_true rfl) (Nat.le_of_ble_eq_true rfl) ?_
  refine W.eq (g2 := F0 m 84 ls [.int (soF (zrF lx px car)), .int (nI pl), .ref sy]) rfl ?_
  refine k_iast (ws' := [(h0, .inr (6, [.ref to, .ref fo, .int (fcn), .ref le, .ref tr, .ref po, .ref sy, .ref so, .ref pt, .ref sk])), (le, .inr (2, [.ref la, .ref lb])), (la, .inl (tc 0, 16, .inl lx.1)), (lb, .inl (tc 0, 16, .inl lx.2)), (po, .inr (2, [.ref pa, .ref pb])), (pa, .inl (tc 0, 16, .inl px.1)), (pb, .inl (tc 0, 16, .inl px.2)), (sy, .inl (tc 0, 48, .inl (upd ys pl (soF (zrF lx px car)))))]) hx hb hK hP hD hS 7 0 rfl rfl (by omega) (by omega) d_RE_takeCarrier_84 rfl (fun H locs hP hD hS => ?_)
  refine lv_iload_n hx hb d_RE_takeCarrier_85 rfl (lv_at hl 9 rfl) ?_
  refine lv_iconst (v := nI 2) hx hb d_RE_takeCarrier_86 (by decide) ?_
  refine k_icmp_ne (tgt := 106) hx hb d_RE_takeCarrier_87 (by decide) (by omega) (by omega) (fun h87 => ?_) (fun h87 => ?_)
  · refine lv_iload_n hx hb d_RE_takeCarrier_106 rfl (lv_at hl 9 rfl) ?_
    refine lv_iconst (v := nI 4) hx hb d_RE_takeCarrier_107 (by decide) ?_
    refine k_icmp_ne (tgt := 182) hx hb d_RE_takeCarrier_108 (by decide) (by omega) (by omega) (fun h108 => ?_) (fun h108 => ?_)
    · exfalso; omega
    · refine lv_lload hx hb d_RE_takeCarrier_111 (lv_at hl 5 rfl) ?_
      refine lv_lload hx hb d_RE_takeCarrier_113 (lv_at hl 5 rfl) ?_
      refine lv_lmul hx hb d_RE_takeCarrier_115 ?_
      refine lv_lload hx hb d_RE_takeCarrier_116 (lv_at hl 4 rfl) ?_
      refine lv_lload hx hb d_RE_takeCarrier_118 (lv_at hl 4 rfl) ?_
      refine lv_lmul hx hb d_RE_takeCarrier_120 ?_
      refine lv_ladd hx hb d_RE_takeCarrier_121 ?_
      refine lv_ldc2 (v := 648) hx hb hown (hw _ wd_639) d_RE_takeCarrier_122 ?_
      refine lv_lmul hx hb d_RE_takeCarrier_125 ?_
      refine lv_bipush (v := nI 11) hx hb d_RE_takeCarrier_126 (by decide) ?_
      refine lv_lshr hx hb d_RE_takeCarrier_128 rfl ?_
      refine k_topl (y := eeF lx car) rfl ?_
      refine lv_lstore (lv' := [(16, .long (eeF lx car)), (14, .long (ziF lx px car)), (12, .long (zrF lx px car)), (10, .long ((px.2 car).toInt64)), (8, .long ((px.1 car).toInt64)), (6, .long ((lx.2 car).toInt64)), (4, .long ((lx.1 car).toInt64)), (0, .ref h0), (1, .int (nI car)), (2, .int (nI pl)), (3, .int (nI 4))]) hx hb d_RE_takeCarrier_129 hl (by decide) rfl (fun ls hl => ?_)
      refine lv_aload_n hx hb d_RE_takeCarrier_131 rfl (lv_at hl 7 rfl) ?_
      refine k_get hx hb hw uw_RE hown hK hP 0 rfl rfl 6 (by decide) (hw _ wd_226) rfl d_RE_takeCarrier_132 ?_
      refine lv_iload_n hx hb d_RE_takeCarrier_135 rfl (lv_at hl 9 rfl) ?_
      refine lv_iconst (v := nI 1) hx hb d_RE_takeCarrier_136 (by decide) ?_
      refine k_iadd hx hb d_RE_takeCarrier_137 ?_
      refine lv_lload hx hb d_RE_takeCarrier_138 (lv_at hl 0 rfl) ?_
      refine lv_lload hx hb d_RE_takeCarrier_140 (lv_at hl 2 rfl) ?_
      refine va_mabs_long hx hb (by rw [hml]; exact hl.1.symm) hown (hw _ wd_640) (hw _ wd_641) (hw _ wd_17) (hw _ wd_642) (by rw [hR]; exact Nat.le_of_ble_eq_true rfl) (by rw [hR]; exact Nat.le_of_ble_eq_true rfl) (by rw [hR]; exact Nat.zero_le _) (by rw [hR]; exact Nat.zero_le _) d_RE_takeCarrier_142 ?_
      refine k_topl (y := abF (zrF lx px car)) rfl ?_
      refine lv_lsub hx hb d_RE_takeCarrier_145 ?_
      refine k_calli (wr := [(h0, .inr (6, [.ref to, .ref fo, .int (fcn), .ref le, .ref tr, .ref po, .ref sy, .ref so, .ref pt, .ref sk])), (le, .inr (2, [.ref la, .ref lb])), (la, .inl (tc 0, 16, .inl lx.1)), (lb, .inl (tc 0, 16, .inl lx.2)), (po, .inr (2, [.ref pa, .ref pb])), (pa, .inl (tc 0, 16, .inl px.1)), (pb, .inl (tc 0, 16, .inl px.2)), (sy, .inl (tc 0, 48, .inl (upd ys pl (soF (zrF lx px car)))))]) (k_runS (As := [.long ((eeF lx car) - (abF (zrF lx px car)))]) (rest := [.int (nI (pl + 1)), .ref sy]) (wc := []) ⟨hx, hb, hml, hown, hts⟩ (c_RE_softOf l D tc tb ((eeF lx car) - (abF (zrF lx px car)))  H.size) (va_cwS 1 hts (k_goodS wd_628 wd_629 wd_7 wd_630) rfl rfl rfl hd_RE_softOf ⟨by rw [hR]; exact Nat.le_of_ble_eq_true rfl, by rw [hR]; exact Nat.le_of_ble_eq_true rfl⟩) hK hP hD hS hST hN hA [] (by decide) rfl rfl hl.1 rfl (Nat.le_of_ble_eq_true rfl) d_RE_takeCarrier_146 ⟨by rw [hR]; exact Nat.le_of_ble_eq_true rfl, by rw [hR]; exact Nat.le_of_ble_eq_true rfl⟩) hP hD hS hA [] [0, 1, 2, 3, 4, 5, 6, 7] rfl rfl (by decide) (by decide) (fun _ H locs hp146 hP hD hS => ?_)
      have hP : va_P D classes [(h0, .inr (6, [.ref to, .ref fo, .int (fcn), .ref le, .ref tr, .ref po, .ref sy, .ref so, .ref pt, .ref sk])), (le, .inr (2, [.ref la, .ref lb])), (la, .inl (tc 0, 16, .inl lx.1)), (lb, .inl (tc 0, 16, .inl lx.2)), (po, .inr (2, [.ref pa, .ref pb])), (pa, .inl (tc 0, 16, .inl px.1)), (pb, .inl (tc 0, 16, .inl px.2)), (sy, .inl (tc 0, 48, .inl (upd ys pl (soF (zrF lx px car)))))] H := hP
      have hD : va_D A [(h0, .inr (6, [.ref to, .ref fo, .int (fcn), .ref le, .ref tr, .ref po, .ref sy, .ref so, .ref pt, .ref sk])), (le, .inr (2, [.ref la, .ref lb])), (la, .inl (tc 0, 16, .inl lx.1)), (lb, .inl (tc 0, 16, .inl lx.2)), (po, .inr (2, [.ref pa, .ref pb])), (pa, .inl (tc 0, 16, .inl px.1)), (pb, .inl (tc 0, 16, .inl px.2)), (sy, .inl (tc 0, 48, .inl (upd ys pl (soF (zrF lx px car)))))] := hD
      refine W.widen (k := 0) (n := 0) (Nat.le_of_ble_eq_true rfl) (Nat.le_of_ble_eq_true rfl) ?_
      refine W.eq (g2 := F0 m 149 ls [.int (soF ((eeF lx car) - (abF (zrF lx px car)))), .int (nI (pl + 1)), .ref sy]) rfl ?_
      refine k_iast (ws' := [(h0, .inr (6, [.ref to, .ref fo, .int (fcn), .ref le, .ref tr, .ref po, .ref sy, .ref so, .ref pt, .ref sk])), (le, .inr (2, [.ref la, .ref lb])), (la, .inl (tc 0, 16, .inl lx.1)), (lb, .inl (tc 0, 16, .inl lx.2)), (po, .inr (2, [.ref pa, .ref pb])), (pa, .inl (tc 0, 16, .inl px.1)), (pb, .inl (tc 0, 16, .inl px.2)), (sy, .inl (tc 0, 48, .inl (upd (upd ys pl (soF (zrF lx px car))) (pl + 1) (soF ((eeF lx car) - (abF (zrF lx px car)))))))]) hx hb hK hP hD hS 7 0 rfl rfl (by omega) (by omega) d_RE_takeCarrier_149 rfl (fun H locs hP hD hS => ?_)
      refine lv_aload_n hx hb d_RE_takeCarrier_150 rfl (lv_at hl 7 rfl) ?_
      refine k_get hx hb hw uw_RE hown hK hP 0 rfl rfl 6 (by decide) (hw _ wd_226) rfl d_RE_takeCarrier_151 ?_
      refine lv_iload_n hx hb d_RE_takeCarrier_154 rfl (lv_at hl 9 rfl) ?_
      refine lv_iconst (v := nI 2) hx hb d_RE_takeCarrier_155 (by decide) ?_
      refine k_iadd hx hb d_RE_takeCarrier_156 ?_
      refine lv_lload hx hb d_RE_takeCarrier_157 (lv_at hl 1 rfl) ?_
      refine k_calli (wr := [(h0, .inr (6, [.ref to, .ref fo, .int (fcn), .ref le, .ref tr, .ref po, .ref sy, .ref so, .ref pt, .ref sk])), (le, .inr (2, [.ref la, .ref lb])), (la, .inl (tc 0, 16, .inl lx.1)), (lb, .inl (tc 0, 16, .inl lx.2)), (po, .inr (2, [.ref pa, .ref pb])), (pa, .inl (tc 0, 16, .inl px.1)), (pb, .inl (tc 0, 16, .inl px.2)), (sy, .inl (tc 0, 48, .inl (upd (upd ys pl (soF (zrF lx px car))) (pl + 1) (soF ((eeF lx car) - (abF (zrF lx px car)))))))]) (k_runS (As := [.long (ziF lx px car)]) (rest := [.int (nI (pl + 2)), .ref sy]) (wc := []) ⟨hx, hb, hml, hown, hts⟩ (c_RE_softOf l D tc tb (ziF lx px car)  H.size) (va_cwS 1 hts (k_goodS wd_628 wd_629 wd_7 wd_630) rfl rfl rfl hd_RE_softOf ⟨by rw [hR]; exact Nat.le_of_ble_eq_true rfl, by rw [hR]; exact Nat.le_of_ble_eq_true rfl⟩) hK hP hD hS hST hN hA [] (by decide) rfl rfl hl.1 rfl (Nat.le_of_ble_eq_true rfl) d_RE_takeCarrier_159 ⟨by rw [hR]; exact Nat.le_of_ble_eq_true rfl, by rw [hR]; exact Nat.le_of_ble_eq_true rfl⟩) hP hD hS hA [] [0, 1, 2, 3, 4, 5, 6, 7] rfl rfl (by decide) (by decide) (fun _ H locs hp159 hP hD hS => ?_)
      have hP : va_P D classes [(h0, .inr (6, [.ref to, .ref fo, .int (fcn), .ref le, .ref tr, .ref po, .ref sy, .ref so, .ref pt, .ref sk])), (le, .inr (2, [.ref la, .ref lb])), (la, .inl (tc 0, 16, .inl lx.1)), (lb, .inl (tc 0, 16, .inl lx.2)), (po, .inr (2, [.ref pa, .ref pb])), (pa, .inl (tc 0, 16, .inl px.1)), (pb, .inl (tc 0, 16, .inl px.2)), (sy, .inl (tc 0, 48, .inl (upd (upd ys pl (soF (zrF lx px car))) (pl + 1) (soF ((eeF lx car) - (abF (zrF lx px car)))))))] H := hP
      have hD : va_D A [(h0, .inr (6, [.ref to, .ref fo, .int (fcn), .ref le, .ref tr, .ref po, .ref sy, .ref so, .ref pt, .ref sk])), (le, .inr (2, [.ref la, .ref lb])), (la, .inl (tc 0, 16, .inl lx.1)), (lb, .inl (tc 0, 16, .inl lx.2)), (po, .inr (2, [.ref pa, .ref pb])), (pa, .inl (tc 0, 16, .inl px.1)), (pb, .inl (tc 0, 16, .inl px.2)), (sy, .inl (tc 0, 48, .inl (upd (upd ys pl (soF (zrF lx px car))) (pl + 1) (soF ((eeF lx car) - (abF (zrF lx px car)))))))] := hD
      refine W.widen (k := 0) (n := 0) (Nat.le_of_ble_eq_true rfl) (Nat.le_of_ble_eq_true rfl) ?_
      refine W.eq (g2 := F0 m 162 ls [.int (soF (ziF lx px car)), .int (nI (pl + 2)), .ref sy]) rfl ?_
      refine k_iast (ws' := [(h0, .inr (6, [.ref to, .ref fo, .int (fcn), .ref le, .ref tr, .ref po, .ref sy, .ref so, .ref pt, .ref sk])), (le, .inr (2, [.ref la, .ref lb])), (la, .inl (tc 0, 16, .inl lx.1)), (lb, .inl (tc 0, 16, .inl lx.2)), (po, .inr (2, [.ref pa, .ref pb])), (pa, .inl (tc 0, 16, .inl px.1)), (pb, .inl (tc 0, 16, .inl px.2)), (sy, .inl (tc 0, 48, .inl (upd (upd (upd ys pl (soF (zrF lx px car))) (pl + 1) (soF ((eeF lx car) - (abF (zrF lx px car))))) (pl + 2) (soF (ziF lx px car)))))]) hx hb hK hP hD hS 7 0 rfl rfl (by omega) (by omega) d_RE_takeCarrier_162 rfl (fun H locs hP hD hS => ?_)
      refine lv_aload_n hx hb d_RE_takeCarrier_163 rfl (lv_at hl 7 rfl) ?_
      refine k_get hx hb hw uw_RE hown hK hP 0 rfl rfl 6 (by decide) (hw _ wd_226) rfl d_RE_takeCarrier_164 ?_
      refine lv_iload_n hx hb d_RE_takeCarrier_167 rfl (lv_at hl 9 rfl) ?_
      refine lv_iconst (v := nI 3) hx hb d_RE_takeCarrier_168 (by decide) ?_
      refine k_iadd hx hb d_RE_takeCarrier_169 ?_
      refine lv_lload hx hb d_RE_takeCarrier_170 (lv_at hl 0 rfl) ?_
      refine lv_lload hx hb d_RE_takeCarrier_172 (lv_at hl 1 rfl) ?_
      refine va_mabs_long hx hb (by rw [hml]; exact hl.1.symm) hown (hw _ wd_640) (hw _ wd_641) (hw _ wd_17) (hw _ wd_642) (by rw [hR]; exact Nat.le_of_ble_eq_true rfl) (by rw [hR]; exact Nat.le_of_ble_eq_true rfl) (by rw [hR]; exact Nat.zero_le _) (by rw [hR]; exact Nat.zero_le _) d_RE_takeCarrier_174 ?_
      refine k_topl (y := abF (ziF lx px car)) rfl ?_
      refine lv_lsub hx hb d_RE_takeCarrier_177 ?_
      refine k_calli (wr := [(h0, .inr (6, [.ref to, .ref fo, .int (fcn), .ref le, .ref tr, .ref po, .ref sy, .ref so, .ref pt, .ref sk])), (le, .inr (2, [.ref la, .ref lb])), (la, .inl (tc 0, 16, .inl lx.1)), (lb, .inl (tc 0, 16, .inl lx.2)), (po, .inr (2, [.ref pa, .ref pb])), (pa, .inl (tc 0, 16, .inl px.1)), (pb, .inl (tc 0, 16, .inl px.2)), (sy, .inl (tc 0, 48, .inl (upd (upd (upd ys pl (soF (zrF lx px car))) (pl + 1) (soF ((eeF lx car) - (abF (zrF lx px car))))) (pl + 2) (soF (ziF lx px car)))))]) (k_runS (As := [.long ((eeF lx car) - (abF (ziF lx px car)))]) (rest := [.int (nI (pl + 3)), .ref sy]) (wc := []) ⟨hx, hb, hml, hown, hts⟩ (c_RE_softOf l D tc tb ((eeF lx car) - (abF (ziF lx px car)))  H.size) (va_cwS 1 hts (k_goodS wd_628 wd_629 wd_7 wd_630) rfl rfl rfl hd_RE_softOf ⟨by rw [hR]; exact Nat.le_of_ble_eq_true rfl, by rw [hR]; exact Nat.le_of_ble_eq_true rfl⟩) hK hP hD hS hST hN hA [] (by decide) rfl rfl hl.1 rfl (Nat.le_of_ble_eq_true rfl) d_RE_takeCarrier_178 ⟨by rw [hR]; exact Nat.le_of_ble_eq_true rfl, by rw [hR]; exact Nat.le_of_ble_eq_true rfl⟩) hP hD hS hA [] [0, 1, 2, 3, 4, 5, 6, 7] rfl rfl (by decide) (by decide) (fun _ H locs hp178 hP hD hS => ?_)
      have hP : va_P D classes [(h0, .inr (6, [.ref to, .ref fo, .int (fcn), .ref le, .ref tr, .ref po, .ref sy, .ref so, .ref pt, .ref sk])), (le, .inr (2, [.ref la, .ref lb])), (la, .inl (tc 0, 16, .inl lx.1)), (lb, .inl (tc 0, 16, .inl lx.2)), (po, .inr (2, [.ref pa, .ref pb])), (pa, .inl (tc 0, 16, .inl px.1)), (pb, .inl (tc 0, 16, .inl px.2)), (sy, .inl (tc 0, 48, .inl (upd (upd (upd ys pl (soF (zrF lx px car))) (pl + 1) (soF ((eeF lx car) - (abF (zrF lx px car))))) (pl + 2) (soF (ziF lx px car)))))] H := hP
      have hD : va_D A [(h0, .inr (6, [.ref to, .ref fo, .int (fcn), .ref le, .ref tr, .ref po, .ref sy, .ref so, .ref pt, .ref sk])), (le, .inr (2, [.ref la, .ref lb])), (la, .inl (tc 0, 16, .inl lx.1)), (lb, .inl (tc 0, 16, .inl lx.2)), (po, .inr (2, [.ref pa, .ref pb])), (pa, .inl (tc 0, 16, .inl px.1)), (pb, .inl (tc 0, 16, .inl px.2)), (sy, .inl (tc 0, 48, .inl (upd (upd (upd ys pl (soF (zrF lx px car))) (pl + 1) (soF ((eeF lx car) - (abF (zrF lx px car))))) (pl + 2) (soF (ziF lx px car)))))] := hD
      refine W.widen (k := 0) (n := 0) (Nat.le_of_ble_eq_true rfl) (Nat.le_of_ble_eq_true rfl) ?_
      refine W.eq (g2 := F0 m 181 ls [.int (soF ((eeF lx car) - (abF (ziF lx px car)))), .int (nI (pl + 3)), .ref sy]) rfl ?_
      refine k_iast (ws' := [(h0, .inr (6, [.ref to, .ref fo, .int (fcn), .ref le, .ref tr, .ref po, .ref sy, .ref so, .ref pt, .ref sk])), (le, .inr (2, [.ref la, .ref lb])), (la, .inl (tc 0, 16, .inl lx.1)), (lb, .inl (tc 0, 16, .inl lx.2)), (po, .inr (2, [.ref pa, .ref pb])), (pa, .inl (tc 0, 16, .inl px.1)), (pb, .inl (tc 0, 16, .inl px.2)), (sy, .inl (tc 0, 48, .inl (upd (upd (upd (upd ys pl (soF (zrF lx px car))) (pl + 1) (soF ((eeF lx car) - (abF (zrF lx px car))))) (pl + 2) (soF (ziF lx px car))) (pl + 3) (soF ((eeF lx car) - (abF (ziF lx px car)))))))]) hx hb hK hP hD hS 7 0 rfl rfl (by omega) (by omega) d_RE_takeCarrier_181 rfl (fun H locs hP hD hS => ?_)
      rw [hQ]
      exact k_vret () hx hb hr hlk hK hP hD hS [0, 1, 2, 3, 4, 5, 6, 7] (by decide) rfl trivial d_RE_takeCarrier_182
  · exfalso; omega
set_option maxHeartbeats 4000000 in
set_option maxRecDepth 100000 in
theorem c_RE_takeSymbols_1 (l : Launch) (D : va_G) (tc : Nat → ClassId) (tb : Nat → Nat) (h0 : Nat) (to : Nat) (fo : Nat) (le : Nat) (tr : Nat) (po : Nat) (sy : Nat) (so : Nat) (pt : Nat) (sk : Nat) (fcn : Int32) (la : Nat) (lb : Nat) (lx : RP) (pa : Nat) (pb : Nat) (px : RP) (ys : Nat → Int32) (sf : Nat → Int32) (wv : Nat) (wa : Nat) (wb : Nat) (wc : Nat) (wi : Nat → Int32) (wq : Nat → Int32) (fr : Nat) (sb : Nat) (hsb : 12 * sb ≤ 240) (hfr : fr + 20 * sb ≤ 520) : Mv l D tc tb y_RE_takeSymbols prog_5_method_7_code 8 none ({ frames := 3, cells := 0, slots := 0, locals := 84 }) [.ref h0, .ref wv, .int (nI fr), .int (nI sb), .int (nI 1)] [(h0, .inr (6, [.ref to, .ref fo, .int (fcn), .ref le, .ref tr, .ref po, .ref sy, .ref so, .ref pt, .ref sk])), (le, .inr (2, [.ref la, .ref lb])), (la, .inl (tc 0, 16, .inl lx.1)), (lb, .inl (tc 0, 16, .inl lx.2)), (po, .inr (2, [.ref pa, .ref pb])), (pa, .inl (tc 0, 16, .inl px.1)), (pb, .inl (tc 0, 16, .inl px.2)), (sy, .inl (tc 0, 48, .inl ys)), (so, .inl (tc 0, 240, .inl sf)), (wv, .inr (1, [.ref wa, .ref wb, .int (nI wc)])), (wa, .inl (tc 1, 520, .inl wi)), (wb, .inl (tc 1, 520, .inl wq))] (fun _ : Unit => True) (fun _ : Unit => [(h0, .inr (6, [.ref to, .ref fo, .int (fcn), .ref le, .ref tr, .ref po, .ref sy, .ref so, .ref pt, .ref sk])), (le, .inr (2, [.ref la, .ref lb])), (la, .inl (tc 0, 16, .inl lx.1)), (lb, .inl (tc 0, 16, .inl lx.2)), (po, .inr (2, [.ref pa, .ref pb])), (pa, .inl (tc 0, 16, .inl ((pxB wi wq fr px sb).1))), (pb, .inl (tc 0, 16, .inl ((pxB wi wq fr px sb).2))), (sy, .inl (tc 0, 48, .inl (ysB tc1 1 lx wi wq fr ys sb))), (so, .inl (tc 0, 240, .inl (sfB tc1 12 1 lx wi wq fr ys sf sb))), (wv, .inr (1, [.ref wa, .ref wb, .int (nI wc)])), (wa, .inl (tc 1, 520, .inl wi)), (wb, .inl (tc 1, 520, .inl wq))]) := by
  refine Mv.go (by decide) (Nat.le_of_ble_eq_true rfl) ?_
  intro p e s m below meth c A ls R args Q C
  obtain ⟨hx, hb, hr, hts, hown, hlk, hml, hin, hA, hST, hN, hK, hP, hD, hS, hl, hR, hQ⟩ := C
  have hw : ∀ w ∈ lw_g, w.before args s = true := fun w h => hts w (List.mem_cons_of_mem _ h)
  have hl : lv_has ls 8 [(0, .ref h0), (1, .ref wv), (2, .int (nI fr)), (3, .int (nI sb)), (4, .int (nI 1))] := hl
  refine lv_bipush (v := nI 12) hx hb d_RE_takeSymbols_0 (by decide) ?_
  refine lv_iload hx hb d_RE_takeSymbols_2 (lv_at hl 4 rfl) ?_
  refine k_imul hx hb d_RE_takeSymbols_4 ?_
  refine lv_istore (lv' := [(5, .int (nI 12)), (0, .ref h0), (1, .ref wv), (2, .int (nI fr)), (3, .int (nI sb)), (4, .int (nI 1))]) hx hb d_RE_takeSymbols_5 hl (by decide) rfl (fun ls hl => ?_)
  refine lv_iconst (v := nI 0) hx hb d_RE_takeSymbols_7 (by decide) ?_
  refine lv_istore (lv' := [(6, .int (nI 0)), (5, .int (nI 12)), (0, .ref h0), (1, .ref wv), (2, .int (nI fr)), (3, .int (nI sb)), (4, .int (nI 1))]) hx hb d_RE_takeSymbols_8 hl (by decide) rfl (fun ls hl => ?_)
  refine k_loop (P := fun b : Nat => ∀ (H : Heap) (locs : List Loc) (ls : Array Slot), lv_has ls 8 [(6, .int (nI b)), (5, .int (nI 12)), (0, .ref h0), (1, .ref wv), (2, .int (nI fr)), (3, .int (nI sb)), (4, .int (nI 1))] → va_P D classes [(h0, .inr (6, [.ref to, .ref fo, .int (fcn), .ref le, .ref tr, .ref po, .ref sy, .ref so, .ref pt, .ref sk])), (le, .inr (2, [.ref la, .ref lb])), (la, .inl (tc 0, 16, .inl lx.1)), (lb, .inl (tc 0, 16, .inl lx.2)), (po, .inr (2, [.ref pa, .ref pb])), (pa, .inl (tc 0, 16, .inl ((pxB wi wq fr px b).1))), (pb, .inl (tc 0, 16, .inl ((pxB wi wq fr px b).2))), (sy, .inl (tc 0, 48, .inl (ysB tc1 1 lx wi wq fr ys b))), (so, .inl (tc 0, 240, .inl (sfB tc1 12 1 lx wi wq fr ys sf b))), (wv, .inr (1, [.ref wa, .ref wb, .int (nI wc)])), (wa, .inl (tc 1, 520, .inl wi)), (wb, .inl (tc 1, 520, .inl wq))] H → va_D A [(h0, .inr (6, [.ref to, .ref fo, .int (fcn), .ref le, .ref tr, .ref po, .ref sy, .ref so, .ref pt, .ref sk])), (le, .inr (2, [.ref la, .ref lb])), (la, .inl (tc 0, 16, .inl lx.1)), (lb, .inl (tc 0, 16, .inl lx.2)), (po, .inr (2, [.ref pa, .ref pb])), (pa, .inl (tc 0, 16, .inl ((pxB wi wq fr px b).1))), (pb, .inl (tc 0, 16, .inl ((pxB wi wq fr px b).2))), (sy, .inl (tc 0, 48, .inl (ysB tc1 1 lx wi wq fr ys b))), (so, .inl (tc 0, 240, .inl (sfB tc1 12 1 lx wi wq fr ys sf b))), (wv, .inr (1, [.ref wa, .ref wb, .int (nI wc)])), (wa, .inl (tc 1, 520, .inl wi)), (wb, .inl (tc 1, 520, .inl wq))] → va_S A s.heap H locs → W p l e R s m args below meth c H locs 0 0 Q (F0 m 10 ls [])) (sb) (fun b hk_b ih_b  H locs ls hl hP hD hS => ?_) (0) (by omega)   s.heap [] ls (lv_sub hl [0, 1, 2, 3, 4, 5, 6] rfl) (by rw [pxB_0, ysB_0, sfB_0]; exact hP) (k_Ds hD [0, 1, 2, 3, 4, 5, 6, 7, 8, 9, 10, 11] (by decide) rfl) hS
  refine lv_iload hx hb d_RE_takeSymbols_10 (lv_at hl 0 rfl) ?_
  refine lv_iload_n hx hb d_RE_takeSymbols_12 rfl (lv_at hl 5 rfl) ?_
  refine k_icmp_ge (tgt := 128) hx hb d_RE_takeSymbols_13 (by decide) (by omega) (by omega) (fun h13 => ?_) (fun h13 => ?_)
  · obtain rfl : sb = b := by omega
    rw [hQ]
    exact k_vret () hx hb hr hlk hK hP hD hS [0, 1, 2, 3, 4, 5, 6, 7, 8, 9, 10, 11] (by decide) rfl trivial d_RE_takeSymbols_128
  · refine lv_iload hx hb d_RE_takeSymbols_16 (lv_at hl 0 rfl) ?_
    refine lv_iconst (v := nI 1) hx hb d_RE_takeSymbols_18 (by decide) ?_
    refine k_iadd hx hb d_RE_takeSymbols_19 ?_
    refine lv_iload hx hb d_RE_takeSymbols_20 (lv_at hl 1 rfl) ?_
    refine k_imul hx hb d_RE_takeSymbols_22 ?_
    refine lv_aload_n hx hb d_RE_takeSymbols_23 rfl (lv_at hl 2 rfl) ?_
    refine k_get hx hb hw uw_RE hown hK hP 0 rfl rfl 7 (by decide) (hw _ wd_227) rfl d_RE_takeSymbols_24 ?_
    refine va_alen (v := nI 240) hx hb hK hP 8 0 rfl rfl rfl d_RE_takeSymbols_27 ?_
    refine k_icmp_gt (tgt := 128) hx hb d_RE_takeSymbols_28 (by decide) (by omega) (by omega) (fun h28 => ?_) (fun h28 => ?_)
    · exfalso; omega
    · refine lv_aload_n hx hb d_RE_takeSymbols_31 rfl (lv_at hl 2 rfl) ?_
      refine k_get hx hb hw uw_RE hown hK hP 0 rfl rfl 5 (by decide) (hw _ wd_225) rfl d_RE_takeSymbols_32 ?_
      refine lv_aload_n hx hb d_RE_takeSymbols_35 rfl (lv_at hl 3 rfl) ?_
      refine lv_iload_n hx hb d_RE_takeSymbols_36 rfl (lv_at hl 4 rfl) ?_
      refine lv_iload hx hb d_RE_takeSymbols_37 (lv_at hl 0 rfl) ?_
      refine lv_bipush (v := nI 20) hx hb d_RE_takeSymbols_39 (by decide) ?_
      refine k_imul hx hb d_RE_takeSymbols_41 ?_
      refine k_iadd hx hb d_RE_takeSymbols_42 ?_
      refine lv_iconst (v := nI 4) hx hb d_RE_takeSymbols_43 (by decide) ?_
      refine k_iadd hx hb d_RE_takeSymbols_44 ?_
      refine k_callv (wr := [(h0, .inr (6, [.ref to, .ref fo, .int (fcn), .ref le, .ref tr, .ref po, .ref sy, .ref so, .ref pt, .ref sk])), (le, .inr (2, [.ref la, .ref lb])), (la, .inl (tc 0, 16, .inl lx.1)), (lb, .inl (tc 0, 16, .inl lx.2)), (sy, .inl (tc 0, 48, .inl (ysB tc1 1 lx wi wq fr ys b))), (so, .inl (tc 0, 240, .inl (sfB tc1 12 1 lx wi wq fr ys sf b)))]) (k_runV (As := [.ref wv, .int (nI ((fr + (b * 20)) + 4))]) (rest := []) (wc := [(po, .inr (2, [.ref pa, .ref pb])), (pa, .inl (tc 0, 16, .inl ((pxB wi wq fr px b).1))), (pb, .inl (tc 0, 16, .inl ((pxB wi wq fr px b).2))), (wv, .inr (1, [.ref wa, .ref wb, .int (nI wc)])), (wa, .inl (tc 1, 520, .inl wi)), (wb, .inl (tc 1, 520, .inl wq))]) ⟨hx, hb, hml, hown, hts⟩ (c_PO_takeCarriers l D tc tb po pa pb ((pxB wi wq fr px b).1) ((pxB wi wq fr px b).2) wv wa wb wc wi wq ((fr + (b * 20)) + 4) (by omega) H.size) (cwV 2 hts (k_goodV wd_614 wd_615 wd_616 wd_3 wd_617) rfl rfl rfl ⟨rfl, hd_PO_takeCarriers⟩ ⟨by rw [hR]; exact Nat.le_of_ble_eq_true rfl, by rw [hR]; exact Nat.le_of_ble_eq_true rfl⟩) hK hP hD hS hST hN hA [4, 5, 6, 9, 10, 11] (by decide) rfl 4 rfl rfl rfl rfl hl.1 rfl (Nat.le_of_ble_eq_true rfl) d_RE_takeSymbols_45 ⟨by rw [hR]; exact Nat.le_of_ble_eq_true rfl, by rw [hR]; exact Nat.le_of_ble_eq_true rfl⟩) hP hD hS hA [4, 5, 6, 9, 10, 11] [0, 1, 2, 3, 7, 8] rfl rfl (by decide) (by decide) (fun _ H locs hp45 hP hD hS => ?_)
      have hP : va_P D classes [(h0, .inr (6, [.ref to, .ref fo, .int (fcn), .ref le, .ref tr, .ref po, .ref sy, .ref so, .ref pt, .ref sk])), (le, .inr (2, [.ref la, .ref lb])), (la, .inl (tc 0, 16, .inl lx.1)), (lb, .inl (tc 0, 16, .inl lx.2)), (sy, .inl (tc 0, 48, .inl (ysB tc1 1 lx wi wq fr ys b))), (so, .inl (tc 0, 240, .inl (sfB tc1 12 1 lx wi wq fr ys sf b))), (po, .inr (2, [.ref pa, .ref pb])), (pa, .inl (tc 0, 16, .inl ((pxA wi wq ((fr + (b * 20)) + 4)).1))), (pb, .inl (tc 0, 16, .inl ((pxA wi wq ((fr + (b * 20)) + 4)).2))), (wv, .inr (1, [.ref wa, .ref wb, .int (nI wc)])), (wa, .inl (tc 1, 520, .inl wi)), (wb, .inl (tc 1, 520, .inl wq))] H := hP
      have hD : va_D A [(h0, .inr (6, [.ref to, .ref fo, .int (fcn), .ref le, .ref tr, .ref po, .ref sy, .ref so, .ref pt, .ref sk])), (le, .inr (2, [.ref la, .ref lb])), (la, .inl (tc 0, 16, .inl lx.1)), (lb, .inl (tc 0, 16, .inl lx.2)), (sy, .inl (tc 0, 48, .inl (ysB tc1 1 lx wi wq fr ys b))), (so, .inl (tc 0, 240, .inl (sfB tc1 12 1 lx wi wq fr ys sf b))), (po, .inr (2, [.ref pa, .ref pb])), (pa, .inl (tc 0, 16, .inl ((pxA wi wq ((fr + (b * 20)) + 4)).1))), (pb, .inl (tc 0, 16, .inl ((pxA wi wq ((fr + (b * 20)) + 4)).2))), (wv, .inr (1, [.ref wa, .ref wb, .int (nI wc)])), (wa, .inl (tc 1, 520, .inl wi)), (wb, .inl (tc 1, 520, .inl wq))] := hD
      refine W.widen (k := 0) (n := 0) (Nat.le_of_ble_eq_true rfl) (Nat.le_of_ble_eq_true rfl) ?_
      refine W.eq (g2 := F0 m 48 ls []) rfl ?_
      refine lv_iconst (v := nI 0) hx hb d_RE_takeSymbols_48 (by decide) ?_
      refine lv_istore (lv' := [(7, .int (nI 0)), (6, .int (nI b)), (5, .int (nI 12)), (0, .ref h0), (1, .ref wv), (2, .int (nI fr)), (3, .int (nI sb)), (4, .int (nI 1))]) hx hb d_RE_takeSymbols_49 hl (by decide) rfl (fun ls hl => ?_)
      refine k_loop (P := fun j : Nat => ∀ (H : Heap) (locs : List Loc) (ls : Array Slot), lv_has ls 8 [(7, .int (nI j)), (6, .int (nI b)), (5, .int (nI 12)), (0, .ref h0), (1, .ref wv), (2, .int (nI fr)), (3, .int (nI sb)), (4, .int (nI 1))] → va_P D classes [(h0, .inr (6, [.ref to, .ref fo, .int (fcn), .ref le, .ref tr, .ref po, .ref sy, .ref so, .ref pt, .ref sk])), (le, .inr (2, [.ref la, .ref lb])), (la, .inl (tc 0, 16, .inl lx.1)), (lb, .inl (tc 0, 16, .inl lx.2)), (sy, .inl (tc 0, 48, .inl (tsJ tc1 1 lx (pxA wi wq (fr + b * 20 + 4)) (ysB tc1 1 lx wi wq fr ys b) j))), (so, .inl (tc 0, 240, .inl (sfB tc1 12 1 lx wi wq fr ys sf b))), (po, .inr (2, [.ref pa, .ref pb])), (pa, .inl (tc 0, 16, .inl ((pxA wi wq ((fr + (b * 20)) + 4)).1))), (pb, .inl (tc 0, 16, .inl ((pxA wi wq ((fr + (b * 20)) + 4)).2))), (wv, .inr (1, [.ref wa, .ref wb, .int (nI wc)])), (wa, .inl (tc 1, 520, .inl wi)), (wb, .inl (tc 1, 520, .inl wq))] H → va_D A [(h0, .inr (6, [.ref to, .ref fo, .int (fcn), .ref le, .ref tr, .ref po, .ref sy, .ref so, .ref pt, .ref sk])), (le, .inr (2, [.ref la, .ref lb])), (la, .inl (tc 0, 16, .inl lx.1)), (lb, .inl (tc 0, 16, .inl lx.2)), (sy, .inl (tc 0, 48, .inl (tsJ tc1 1 lx (pxA wi wq (fr + b * 20 + 4)) (ysB tc1 1 lx wi wq fr ys b) j))), (so, .inl (tc 0, 240, .inl (sfB tc1 12 1 lx wi wq fr ys sf b))), (po, .inr (2, [.ref pa, .ref pb])), (pa, .inl (tc 0, 16, .inl ((pxA wi wq ((fr + (b * 20)) + 4)).1))), (pb, .inl (tc 0, 16, .inl ((pxA wi wq ((fr + (b * 20)) + 4)).2))), (wv, .inr (1, [.ref wa, .ref wb, .int (nI wc)])), (wa, .inl (tc 1, 520, .inl wi)), (wb, .inl (tc 1, 520, .inl wq))] → va_S A s.heap H locs → W p l e R s m args below meth c H locs 0 0 Q (F0 m 51 ls [])) (12) (fun j hk_j ih_j  H locs ls hl hP hD hS => ?_) (0) (by omega)   H locs ls (lv_sub hl [0, 1, 2, 3, 4, 5, 6, 7] rfl) (by rw [tsJ_0]; exact hP) (k_Ds hD [0, 1, 2, 3, 4, 5, 6, 7, 8, 9, 10, 11] (by decide) rfl) hS
      refine lv_iload hx hb d_RE_takeSymbols_51 (lv_at hl 0 rfl) ?_
      refine lv_bipush (v := nI 12) hx hb d_RE_takeSymbols_53 (by decide) ?_
      refine k_icmp_ge (tgt := 81) hx hb d_RE_takeSymbols_55 (by decide) (by omega) (by omega) (fun h55 => ?_) (fun h55 => ?_)
      · obtain rfl : 12 = j := by omega
        refine lv_iconst (v := nI 0) hx hb d_RE_takeSymbols_81 (by decide) ?_
        refine lv_istore (lv' := [(7, .int (nI 0)), (6, .int (nI b)), (5, .int (nI 12)), (0, .ref h0), (1, .ref wv), (2, .int (nI fr)), (3, .int (nI sb)), (4, .int (nI 1))]) hx hb d_RE_takeSymbols_82 hl (by decide) rfl (fun ls hl => ?_)
        refine k_loop (P := fun k : Nat => ∀ (H : Heap) (locs : List Loc) (ls : Array Slot), lv_has ls 8 [(7, .int (nI k)), (6, .int (nI b)), (5, .int (nI 12)), (0, .ref h0), (1, .ref wv), (2, .int (nI fr)), (3, .int (nI sb)), (4, .int (nI 1))] → va_P D classes [(h0, .inr (6, [.ref to, .ref fo, .int (fcn), .ref le, .ref tr, .ref po, .ref sy, .ref so, .ref pt, .ref sk])), (le, .inr (2, [.ref la, .ref lb])), (la, .inl (tc 0, 16, .inl lx.1)), (lb, .inl (tc 0, 16, .inl lx.2)), (sy, .inl (tc 0, 48, .inl (tsJ tc1 1 lx (pxA wi wq (fr + b * 20 + 4)) (ysB tc1 1 lx wi wq fr ys b) 12))), (so, .inl (tc 0, 240, .inl (soK 12 1 b (tsJ tc1 1 lx (pxA wi wq (fr + b * 20 + 4)) (ysB tc1 1 lx wi wq fr ys b) 12) (sfB tc1 12 1 lx wi wq fr ys sf b) k))), (po, .inr (2, [.ref pa, .ref pb])), (pa, .inl (tc 0, 16, .inl ((pxA wi wq ((fr + (b * 20)) + 4)).1))), (pb, .inl (tc 0, 16, .inl ((pxA wi wq ((fr + (b * 20)) + 4)).2))), (wv, .inr (1, [.ref wa, .ref wb, .int (nI wc)])), (wa, .inl (tc 1, 520, .inl wi)), (wb, .inl (tc 1, 520, .inl wq))] H → va_D A [(h0, .inr (6, [.ref to, .ref fo, .int (fcn), .ref le, .ref tr, .ref po, .ref sy, .ref so, .ref pt, .ref sk])), (le, .inr (2, [.ref la, .ref lb])), (la, .inl (tc 0, 16, .inl lx.1)), (lb, .inl (tc 0, 16, .inl lx.2)), (sy, .inl (tc 0, 48, .inl (tsJ tc1 1 lx (pxA wi wq (fr + b * 20 + 4)) (ysB tc1 1 lx wi wq fr ys b) 12))), (so, .inl (tc 0, 240, .inl (soK 12 1 b (tsJ tc1 1 lx (pxA wi wq (fr + b * 20 + 4)) (ysB tc1 1 lx wi wq fr ys b) 12) (sfB tc1 12 1 lx wi wq fr ys sf b) k))), (po, .inr (2, [.ref pa, .ref pb])), (pa, .inl (tc 0, 16, .inl ((pxA wi wq ((fr + (b * 20)) + 4)).1))), (pb, .inl (tc 0, 16, .inl ((pxA wi wq ((fr + (b * 20)) + 4)).2))), (wv, .inr (1, [.ref wa, .ref wb, .int (nI wc)])), (wa, .inl (tc 1, 520, .inl wi)), (wb, .inl (tc 1, 520, .inl wq))] → va_S A s.heap H locs → W p l e R s m args below meth c H locs 0 0 Q (F0 m 84 ls [])) (12) (fun k hk_k ih_k  H locs ls hl hP hD hS => ?_) (0) (by omega)   H locs ls (lv_sub hl [0, 1, 2, 3, 4, 5, 6, 7] rfl) (by rw [soK_0]; exact hP) (k_Ds hD [0, 1, 2, 3, 4, 5, 6, 7, 8, 9, 10, 11] (by decide) rfl) hS
        refine lv_iload hx hb d_RE_takeSymbols_84 (lv_at hl 0 rfl) ?_
        refine lv_iload hx hb d_RE_takeSymbols_86 (lv_at hl 2 rfl) ?_
        refine k_icmp_ge (tgt := 122) hx hb d_RE_takeSymbols_88 (by decide) (by omega) (by omega) (fun h88 => ?_) (fun h88 => ?_)
        · obtain rfl : 12 = k := by omega
          refine lv_iinc (k := 1) (v := nI (b + 1)) (lv' := [(6, .int (nI (b + 1))), (7, .int (nI 12)), (5, .int (nI 12)), (0, .ref h0), (1, .ref wv), (2, .int (nI fr)), (3, .int (nI sb)), (4, .int (nI 1))]) hx hb d_RE_takeSymbols_122 hl rfl (k_incN _ 1) (by decide) rfl (fun ls hl => ?_)
          refine lv_goto (tgt := 10) hx hb d_RE_takeSymbols_125 (by decide) ?_
          exact ih_b (by omega)   H locs ls (lv_sub hl [0, 2, 3, 4, 5, 6, 7] rfl) (by have hP := k_sub hP (is := [0, 1, 2, 3, 6, 7, 8, 4, 5, 9, 10, 11]) (w := [(h0, .inr (6, [.ref to, .ref fo, .int (fcn), .ref le, .ref tr, .ref po, .ref sy, .ref so, .ref pt, .ref sk])), (le, .inr (2, [.ref la, .ref lb])), (la, .inl (tc 0, 16, .inl lx.1)), (lb, .inl (tc 0, 16, .inl lx.2)), (po, .inr (2, [.ref pa, .ref pb])), (pa, .inl (tc 0, 16, .inl ((pxA wi wq ((fr + (b * 20)) + 4)).1))), (pb, .inl (tc 0, 16, .inl ((pxA wi wq ((fr + (b * 20)) + 4)).2))), (sy, .inl (tc 0, 48, .inl (tsJ tc1 1 lx (pxA wi wq (fr + b * 20 + 4)) (ysB tc1 1 lx wi wq fr ys b) 12))), (so, .inl (tc 0, 240, .inl (soK 12 1 b (tsJ tc1 1 lx (pxA wi wq (fr + b * 20 + 4)) (ysB tc1 1 lx wi wq fr ys b) 12) (sfB tc1 12 1 lx wi wq fr ys sf b) 12))), (wv, .inr (1, [.ref wa, .ref wb, .int (nI wc)])), (wa, .inl (tc 1, 520, .inl wi)), (wb, .inl (tc 1, 520, .inl wq))]) rfl; rw [pxB_s, ysB_s, sfB_s]; exact hP) (k_Ds hD [0, 1, 2, 3, 6, 7, 8, 4, 5, 9, 10, 11] (by decide) rfl) hS
        · have hpl := place1 k h88
          refine lv_aload_n hx hb d_RE_takeSymbols_91 rfl (lv_at hl 3 rfl) ?_
          refine k_get hx hb hw uw_RE hown hK hP 0 rfl rfl 7 (by decide) (hw _ wd_227) rfl d_RE_takeSymbols_92 ?_
          refine lv_iload hx hb d_RE_takeSymbols_95 (lv_at hl 1 rfl) ?_
          refine lv_iload hx hb d_RE_takeSymbols_97 (lv_at hl 2 rfl) ?_
          refine k_imul hx hb d_RE_takeSymbols_99 ?_
          refine lv_iload hx hb d_RE_takeSymbols_100 (lv_at hl 0 rfl) ?_
          refine k_iadd hx hb d_RE_takeSymbols_102 ?_
          refine lv_aload_n hx hb d_RE_takeSymbols_103 rfl (lv_at hl 3 rfl) ?_
          refine k_get hx hb hw uw_RE hown hK hP 0 rfl rfl 6 (by decide) (hw _ wd_226) rfl d_RE_takeSymbols_104 ?_
          refine lv_iload hx hb d_RE_takeSymbols_107 (lv_at hl 0 rfl) ?_
          refine lv_iload hx hb d_RE_takeSymbols_109 (lv_at hl 7 rfl) ?_
          refine k_calli (wr := [(h0, .inr (6, [.ref to, .ref fo, .int (fcn), .ref le, .ref tr, .ref po, .ref sy, .ref so, .ref pt, .ref sk])), (le, .inr (2, [.ref la, .ref lb])), (la, .inl (tc 0, 16, .inl lx.1)), (lb, .inl (tc 0, 16, .inl lx.2)), (sy, .inl (tc 0, 48, .inl (tsJ tc1 1 lx (pxA wi wq (fr + b * 20 + 4)) (ysB tc1 1 lx wi wq fr ys b) 12))), (so, .inl (tc 0, 240, .inl (soK 12 1 b (tsJ tc1 1 lx (pxA wi wq (fr + b * 20 + 4)) (ysB tc1 1 lx wi wq fr ys b) 12) (sfB tc1 12 1 lx wi wq fr ys sf b) k))), (po, .inr (2, [.ref pa, .ref pb])), (pa, .inl (tc 0, 16, .inl ((pxA wi wq ((fr + (b * 20)) + 4)).1))), (pb, .inl (tc 0, 16, .inl ((pxA wi wq ((fr + (b * 20)) + 4)).2))), (wv, .inr (1, [.ref wa, .ref wb, .int (nI wc)])), (wa, .inl (tc 1, 520, .inl wi)), (wb, .inl (tc 1, 520, .inl wq))]) (k_runSN (As := [.int (nI k), .int (nI 1)]) (rest := [.ref sy, .int (nI ((b * 12) + k)), .ref so]) (wc := []) ⟨hx, hb, hml, hown, hts⟩ (c_CL_placeOf_1 l D tc tb k (by omega) H.size) ⟨va_cnB 2 hts (k_good wd_503) rfl rfl rfl (hN _ wd_643) (hw _ wd_1) hd_CL_placeOf ⟨by rw [hR]; exact Nat.le_of_ble_eq_true rfl, by rw [hR]; exact Nat.le_of_ble_eq_true rfl⟩, hw _ wd_502, trivial⟩ hK hP hD hS hST hN hA [] (by decide) rfl rfl hl.1 rfl (Nat.le_of_ble_eq_true rfl) d_RE_takeSymbols_111 ⟨by rw [hR]; exact Nat.le_of_ble_eq_true rfl, by rw [hR]; exact Nat.le_of_ble_eq_true rfl⟩) hP hD hS hA [] [0, 1, 2, 3, 4, 5, 6, 7, 8, 9, 10, 11] rfl rfl (by decide) (by decide) (fun _ H locs hp111 hP hD hS => ?_)
          have hP : va_P D classes [(h0, .inr (6, [.ref to, .ref fo, .int (fcn), .ref le, .ref tr, .ref po, .ref sy, .ref so, .ref pt, .ref sk])), (le, .inr (2, [.ref la, .ref lb])), (la, .inl (tc 0, 16, .inl lx.1)), (lb, .inl (tc 0, 16, .inl lx.2)), (sy, .inl (tc 0, 48, .inl (tsJ tc1 1 lx (pxA wi wq (fr + b * 20 + 4)) (ysB tc1 1 lx wi wq fr ys b) 12))), (so, .inl (tc 0, 240, .inl (soK 12 1 b (tsJ tc1 1 lx (pxA wi wq (fr + b * 20 + 4)) (ysB tc1 1 lx wi wq fr ys b) 12) (sfB tc1 12 1 lx wi wq fr ys sf b) k))), (po, .inr (2, [.ref pa, .ref pb])), (pa, .inl (tc 0, 16, .inl ((pxA wi wq ((fr + (b * 20)) + 4)).1))), (pb, .inl (tc 0, 16, .inl ((pxA wi wq ((fr + (b * 20)) + 4)).2))), (wv, .inr (1, [.ref wa, .ref wb, .int (nI wc)])), (wa, .inl (tc 1, 520, .inl wi)), (wb, .inl (tc 1, 520, .inl wq))] H := hP
          have hD : va_D A [(h0, .inr (6, [.ref to, .ref fo, .int (fcn), .ref le, .ref tr, .ref po, .ref sy, .ref so, .ref pt, .ref sk])), (le, .inr (2, [.ref la, .ref lb])), (la, .inl (tc 0, 16, .inl lx.1)), (lb, .inl (tc 0, 16, .inl lx.2)), (sy, .inl (tc 0, 48, .inl (tsJ tc1 1 lx (pxA wi wq (fr + b * 20 + 4)) (ysB tc1 1 lx wi wq fr ys b) 12))), (so, .inl (tc 0, 240, .inl (soK 12 1 b (tsJ tc1 1 lx (pxA wi wq (fr + b * 20 + 4)) (ysB tc1 1 lx wi wq fr ys b) 12) (sfB tc1 12 1 lx wi wq fr ys sf b) k))), (po, .inr (2, [.ref pa, .ref pb])), (pa, .inl (tc 0, 16, .inl ((pxA wi wq ((fr + (b * 20)) + 4)).1))), (pb, .inl (tc 0, 16, .inl ((pxA wi wq ((fr + (b * 20)) + 4)).2))), (wv, .inr (1, [.ref wa, .ref wb, .int (nI wc)])), (wa, .inl (tc 1, 520, .inl wi)), (wb, .inl (tc 1, 520, .inl wq))] := hD
          refine W.widen (k := 0) (n := 0) (Nat.le_of_ble_eq_true rfl) (Nat.le_of_ble_eq_true rfl) ?_
          refine W.eq (g2 := F0 m 114 ls [.int (nI (placeN k 1)), .ref sy, .int (nI ((b * 12) + k)), .ref so]) rfl ?_
          refine k_iald hx hb hK hP 4 0 rfl rfl (by omega) (by omega) d_RE_takeSymbols_114 ?_
          refine k_iast (ws' := [(h0, .inr (6, [.ref to, .ref fo, .int (fcn), .ref le, .ref tr, .ref po, .ref sy, .ref so, .ref pt, .ref sk])), (le, .inr (2, [.ref la, .ref lb])), (la, .inl (tc 0, 16, .inl lx.1)), (lb, .inl (tc 0, 16, .inl lx.2)), (sy, .inl (tc 0, 48, .inl (tsJ tc1 1 lx (pxA wi wq (fr + b * 20 + 4)) (ysB tc1 1 lx wi wq fr ys b) 12))), (so, .inl (tc 0, 240, .inl (upd (soK 12 1 b (tsJ tc1 1 lx (pxA wi wq (fr + b * 20 + 4)) (ysB tc1 1 lx wi wq fr ys b) 12) (sfB tc1 12 1 lx wi wq fr ys sf b) k) ((b * 12) + k) ((tsJ tc1 1 lx (pxA wi wq (fr + b * 20 + 4)) (ysB tc1 1 lx wi wq fr ys b) 12) (placeN k 1))))), (po, .inr (2, [.ref pa, .ref pb])), (pa, .inl (tc 0, 16, .inl ((pxA wi wq ((fr + (b * 20)) + 4)).1))), (pb, .inl (tc 0, 16, .inl ((pxA wi wq ((fr + (b * 20)) + 4)).2))), (wv, .inr (1, [.ref wa, .ref wb, .int (nI wc)])), (wa, .inl (tc 1, 520, .inl wi)), (wb, .inl (tc 1, 520, .inl wq))]) hx hb hK hP hD hS 5 0 rfl rfl (by omega) (by omega) d_RE_takeSymbols_115 rfl (fun H locs hP hD hS => ?_)
          refine lv_iinc (k := 0) (v := nI (k + 1)) (lv' := [(7, .int (nI (k + 1))), (6, .int (nI b)), (5, .int (nI 12)), (0, .ref h0), (1, .ref wv), (2, .int (nI fr)), (3, .int (nI sb)), (4, .int (nI 1))]) hx hb d_RE_takeSymbols_116 hl rfl (k_incN _ 1) (by decide) rfl (fun ls hl => ?_)
          refine lv_goto (tgt := 84) hx hb d_RE_takeSymbols_119 (by decide) ?_
          exact ih_k (by omega)   H locs ls (lv_sub hl [0, 1, 2, 3, 4, 5, 6, 7] rfl) (by rw [soK_s]; exact hP) (k_Ds hD [0, 1, 2, 3, 4, 5, 6, 7, 8, 9, 10, 11] (by decide) rfl) hS
      · have hcd := cod_lt j h55
        refine lv_aload_n hx hb d_RE_takeSymbols_58 rfl (lv_at hl 3 rfl) ?_
        refine k_tabN hx hb hST hS 2 rfl hown (va_Nw.use rfl (hN _ wd_623)) d_RE_takeSymbols_59 ?_
        refine lv_iload hx hb d_RE_takeSymbols_62 (lv_at hl 0 rfl) ?_
        refine k_tald hx hb hST hS 2 rfl (by omega) (by omega) d_RE_takeSymbols_64 ?_
        refine lv_iload hx hb d_RE_takeSymbols_65 (lv_at hl 7 rfl) ?_
        refine lv_iload hx hb d_RE_takeSymbols_67 (lv_at hl 0 rfl) ?_
        refine k_imul hx hb d_RE_takeSymbols_69 ?_
        refine lv_iload hx hb d_RE_takeSymbols_70 (lv_at hl 7 rfl) ?_
        refine k_callv (wr := [(so, .inl (tc 0, 240, .inl (sfB tc1 12 1 lx wi wq fr ys sf b))), (wv, .inr (1, [.ref wa, .ref wb, .int (nI wc)])), (wa, .inl (tc 1, 520, .inl wi)), (wb, .inl (tc 1, 520, .inl wq))]) (k_runV (As := [.int (nI (codN j)), .int (nI (1 * j)), .int (nI 1)]) (rest := []) (wc := [(h0, .inr (6, [.ref to, .ref fo, .int (fcn), .ref le, .ref tr, .ref po, .ref sy, .ref so, .ref pt, .ref sk])), (le, .inr (2, [.ref la, .ref lb])), (la, .inl (tc 0, 16, .inl lx.1)), (lb, .inl (tc 0, 16, .inl lx.2)), (po, .inr (2, [.ref pa, .ref pb])), (pa, .inl (tc 0, 16, .inl ((pxA wi wq ((fr + (b * 20)) + 4)).1))), (pb, .inl (tc 0, 16, .inl ((pxA wi wq ((fr + (b * 20)) + 4)).2))), (sy, .inl (tc 0, 48, .inl (tsJ tc1 1 lx (pxA wi wq (fr + b * 20 + 4)) (ysB tc1 1 lx wi wq fr ys b) j)))]) ⟨hx, hb, hml, hown, hts⟩ (c_RE_takeCarrier_1 l D tc tb h0 to fo le tr po sy so pt sk fcn la lb lx pa pb (pxA wi wq ((fr + (b * 20)) + 4)) (tsJ tc1 1 lx (pxA wi wq (fr + b * 20 + 4)) (ysB tc1 1 lx wi wq fr ys b) j) (codN j) (1 * j) (by omega) (by omega) H.size) (cwV 3 hts (k_goodV wd_624 wd_626 wd_m21 wd_7 wd_627) rfl rfl rfl ⟨rfl, hd_RE_takeCarrier⟩ ⟨by rw [hR]; exact Nat.le_of_ble_eq_true rfl, by rw [hR]; exact Nat.le_of_ble_eq_true rfl⟩) hK hP hD hS hST hN hA [0, 1, 2, 3, 6, 7, 8, 4] (by decide) rfl 0 rfl rfl rfl rfl hl.1 rfl (Nat.le_of_ble_eq_true rfl) d_RE_takeSymbols_72 ⟨by rw [hR]; exact Nat.le_of_ble_eq_true rfl, by rw [hR]; exact Nat.le_of_ble_eq_true rfl⟩) hP hD hS hA [0, 1, 2, 3, 6, 7, 8, 4] [5, 9, 10, 11] rfl rfl (by decide) (by decide) (fun _ H locs hp72 hP hD hS => ?_)
        have hP : va_P D classes [(so, .inl (tc 0, 240, .inl (sfB tc1 12 1 lx wi wq fr ys sf b))), (wv, .inr (1, [.ref wa, .ref wb, .int (nI wc)])), (wa, .inl (tc 1, 520, .inl wi)), (wb, .inl (tc 1, 520, .inl wq)), (h0, .inr (6, [.ref to, .ref fo, .int (fcn), .ref le, .ref tr, .ref po, .ref sy, .ref so, .ref pt, .ref sk])), (le, .inr (2, [.ref la, .ref lb])), (la, .inl (tc 0, 16, .inl lx.1)), (lb, .inl (tc 0, 16, .inl lx.2)), (po, .inr (2, [.ref pa, .ref pb])), (pa, .inl (tc 0, 16, .inl ((pxA wi wq ((fr + (b * 20)) + 4)).1))), (pb, .inl (tc 0, 16, .inl ((pxA wi wq ((fr + (b * 20)) + 4)).2))), (sy, .inl (tc 0, 48, .inl (tc1 lx (pxA wi wq ((fr + (b * 20)) + 4)) (codN j) (1 * j) (tsJ tc1 1 lx (pxA wi wq (fr + b * 20 + 4)) (ysB tc1 1 lx wi wq fr ys b) j))))] H := hP
        have hD : va_D A [(so, .inl (tc 0, 240, .inl (sfB tc1 12 1 lx wi wq fr ys sf b))), (wv, .inr (1, [.ref wa, .ref wb, .int (nI wc)])), (wa, .inl (tc 1, 520, .inl wi)), (wb, .inl (tc 1, 520, .inl wq)), (h0, .inr (6, [.ref to, .ref fo, .int (fcn), .ref le, .ref tr, .ref po, .ref sy, .ref so, .ref pt, .ref sk])), (le, .inr (2, [.ref la, .ref lb])), (la, .inl (tc 0, 16, .inl lx.1)), (lb, .inl (tc 0, 16, .inl lx.2)), (po, .inr (2, [.ref pa, .ref pb])), (pa, .inl (tc 0, 16, .inl ((pxA wi wq ((fr + (b * 20)) + 4)).1))), (pb, .inl (tc 0, 16, .inl ((pxA wi wq ((fr + (b * 20)) + 4)).2))), (sy, .inl (tc 0, 48, .inl (tc1 lx (pxA wi wq ((fr + (b * 20)) + 4)) (codN j) (1 * j) (tsJ tc1 1 lx (pxA wi wq (fr + b * 20 + 4)) (ysB tc1 1 lx wi wq fr ys b) j))))] := hD
        refine W.widen (k := 0) (n := 0) (Nat.le_of_ble_eq_true rfl) (Nat.le_of_ble_eq_true rfl) ?_
        refine W.eq (g2 := F0 m 75 ls []) rfl ?_
        refine lv_iinc (k := 0) (v := nI (j + 1)) (lv' := [(7, .int (nI (j + 1))), (6, .int (nI b)), (5, .int (nI 12)), (0, .ref h0), (1, .ref wv), (2, .int (nI fr)), (3, .int (nI sb)), (4, .int (nI 1))]) hx hb d_RE_takeSymbols_75 hl rfl (k_incN _ 1) (by decide) rfl (fun ls hl => ?_)
        refine lv_goto (tgt := 51) hx hb d_RE_takeSymbols_78 (by decide) ?_
        exact ih_j (by omega)   H locs ls (lv_sub hl [0, 1, 2, 3, 4, 5, 6, 7] rfl) (by have hP := k_sub hP (is := [4, 5, 6, 7, 11, 0, 8, 9, 10, 1, 2, 3]) (w := [(h0, .inr (6, [.ref to, .ref fo, .int (fcn), .ref le, .ref tr, .ref po, .ref sy, .ref so, .ref pt, .ref sk])), (le, .inr (2, [.ref la, .ref lb])), (la, .inl (tc 0, 16, .inl lx.1)), (lb, .inl (tc 0, 16, .inl lx.2)), (sy, .inl (tc 0, 48, .inl (tc1 lx (pxA wi wq ((fr + (b * 20)) + 4)) (codN j) (1 * j) (tsJ tc1 1 lx (pxA wi wq (fr + b * 20 + 4)) (ysB tc1 1 lx wi wq fr ys b) j)))), (so, .inl (tc 0, 240, .inl (sfB tc1 12 1 lx wi wq fr ys sf b))), (po, .inr (2, [.ref pa, .ref pb])), (pa, .inl (tc 0, 16, .inl ((pxA wi wq ((fr + (b * 20)) + 4)).1))), (pb, .inl (tc 0, 16, .inl ((pxA wi wq ((fr + (b * 20)) + 4)).2))), (wv, .inr (1, [.ref wa, .ref wb, .int (nI wc)])), (wa, .inl (tc 1, 520, .inl wi)), (wb, .inl (tc 1, 520, .inl wq))]) rfl; rw [tsJ_s]; exact hP) (k_Ds hD [4, 5, 6, 7, 11, 0, 8, 9, 10, 1, 2, 3] (by decide) rfl) hS
set_option maxHeartbeats 4000000 in
set_option maxRecDepth 100000 in
theorem c_RE_takeSymbols_2 (l : Launch) (D : va_G) (tc : Nat → ClassId) (tb : Nat → Nat) (h0 : Nat) (to : Nat) (fo : Nat) (le : Nat) (tr : Nat) (po : Nat) (sy : Nat) (so : Nat) (pt : Nat) (sk : Nat) (fcn : Int32) (la : Nat) (lb : Nat) (lx : RP) (pa : Nat) (pb : Nat) (px : RP) (ys : Nat → Int32) (sf : Nat → Int32) (wv : Nat) (wa : Nat) (wb : Nat) (wc : Nat) (wi : Nat → Int32) (wq : Nat → Int32) (fr : Nat) (sb : Nat) (hsb : 24 * sb ≤ 240) (hfr : fr + 20 * sb ≤ 520) : Mv l D tc tb y_RE_takeSymbols prog_5_method_7_code 8 none ({ frames := 3, cells := 0, slots := 0, locals := 84 }) [.ref h0, .ref wv, .int (nI fr), .int (nI sb), .int (nI 2)] [(h0, .inr (6, [.ref to, .ref fo, .int (fcn), .ref le, .ref tr, .ref po, .ref sy, .ref so, .ref pt, .ref sk])), (le, .inr (2, [.ref la, .ref lb])), (la, .inl (tc 0, 16, .inl lx.1)), (lb, .inl (tc 0, 16, .inl lx.2)), (po, .inr (2, [.ref pa, .ref pb])), (pa, .inl (tc 0, 16, .inl px.1)), (pb, .inl (tc 0, 16, .inl px.2)), (sy, .inl (tc 0, 48, .inl ys)), (so, .inl (tc 0, 240, .inl sf)), (wv, .inr (1, [.ref wa, .ref wb, .int (nI wc)])), (wa, .inl (tc 1, 520, .inl wi)), (wb, .inl (tc 1, 520, .inl wq))] (fun _ : Unit => True) (fun _ : Unit => [(h0, .inr (6, [.ref to, .ref fo, .int (fcn), .ref le, .ref tr, .ref po, .ref sy, .ref so, .ref pt, .ref sk])), (le, .inr (2, [.ref la, .ref lb])), (la, .inl (tc 0, 16, .inl lx.1)), (lb, .inl (tc 0, 16, .inl lx.2)), (po, .inr (2, [.ref pa, .ref pb])), (pa, .inl (tc 0, 16, .inl ((pxB wi wq fr px sb).1))), (pb, .inl (tc 0, 16, .inl ((pxB wi wq fr px sb).2))), (sy, .inl (tc 0, 48, .inl (ysB tc2 2 lx wi wq fr ys sb))), (so, .inl (tc 0, 240, .inl (sfB tc2 24 2 lx wi wq fr ys sf sb))), (wv, .inr (1, [.ref wa, .ref wb, .int (nI wc)])), (wa, .inl (tc 1, 520, .inl wi)), (wb, .inl (tc 1, 520, .inl wq))]) := by
  refine Mv.go (by decide) (Nat.le_of_ble_eq_true rfl) ?_
  intro p e s m below meth c A ls R args Q C
  obtain ⟨hx, hb, hr, hts, hown, hlk, hml, hin, hA, hST, hN, hK, hP, hD, hS, hl, hR, hQ⟩ := C
  have hw : ∀ w ∈ lw_g, w.before args s = true := fun w h => hts w (List.mem_cons_of_mem _ h)
  have hl : lv_has ls 8 [(0, .ref h0), (1, .ref wv), (2, .int (nI fr)), (3, .int (nI sb)), (4, .int (nI 2))] := hl
  refine lv_bipush (v := nI 12) hx hb d_RE_takeSymbols_0 (by decide) ?_
  refine lv_iload hx hb d_RE_takeSymbols_2 (lv_at hl 4 rfl) ?_
  refine k_imul hx hb d_RE_takeSymbols_4 ?_
  refine lv_istore (lv' := [(5, .int (nI 24)), (0, .ref h0), (1, .ref wv), (2, .int (nI fr)), (3, .int (nI sb)), (4, .int (nI 2))]) hx hb d_RE_takeSymbols_5 hl (by decide) rfl (fun ls hl => ?_)
  refine lv_iconst (v := nI 0) hx hb d_RE_takeSymbols_7 (by decide) ?_
  refine lv_istore (lv' := [(6, .int (nI 0)), (5, .int (nI 24)), (0, .ref h0), (1, .ref wv), (2, .int (nI fr)), (3, .int (nI sb)), (4, .int (nI 2))]) hx hb d_RE_takeSymbols_8 hl (by decide) rfl (fun ls hl => ?_)
  refine k_loop (P := fun b : Nat => ∀ (H : Heap) (locs : List Loc) (ls : Array Slot), lv_has ls 8 [(6, .int (nI b)), (5, .int (nI 24)), (0, .ref h0), (1, .ref wv), (2, .int (nI fr)), (3, .int (nI sb)), (4, .int (nI 2))] → va_P D classes [(h0, .inr (6, [.ref to, .ref fo, .int (fcn), .ref le, .ref tr, .ref po, .ref sy, .ref so, .ref pt, .ref sk])), (le, .inr (2, [.ref la, .ref lb])), (la, .inl (tc 0, 16, .inl lx.1)), (lb, .inl (tc 0, 16, .inl lx.2)), (po, .inr (2, [.ref pa, .ref pb])), (pa, .inl (tc 0, 16, .inl ((pxB wi wq fr px b).1))), (pb, .inl (tc 0, 16, .inl ((pxB wi wq fr px b).2))), (sy, .inl (tc 0, 48, .inl (ysB tc2 2 lx wi wq fr ys b))), (so, .inl (tc 0, 240, .inl (sfB tc2 24 2 lx wi wq fr ys sf b))), (wv, .inr (1, [.ref wa, .ref wb, .int (nI wc)])), (wa, .inl (tc 1, 520, .inl wi)), (wb, .inl (tc 1, 520, .inl wq))] H → va_D A [(h0, .inr (6, [.ref to, .ref fo, .int (fcn), .ref le, .ref tr, .ref po, .ref sy, .ref so, .ref pt, .ref sk])), (le, .inr (2, [.ref la, .ref lb])), (la, .inl (tc 0, 16, .inl lx.1)), (lb, .inl (tc 0, 16, .inl lx.2)), (po, .inr (2, [.ref pa, .ref pb])), (pa, .inl (tc 0, 16, .inl ((pxB wi wq fr px b).1))), (pb, .inl (tc 0, 16, .inl ((pxB wi wq fr px b).2))), (sy, .inl (tc 0, 48, .inl (ysB tc2 2 lx wi wq fr ys b))), (so, .inl (tc 0, 240, .inl (sfB tc2 24 2 lx wi wq fr ys sf b))), (wv, .inr (1, [.ref wa, .ref wb, .int (nI wc)])), (wa, .inl (tc 1, 520, .inl wi)), (wb, .inl (tc 1, 520, .inl wq))] → va_S A s.heap H locs → W p l e R s m args below meth c H locs 0 0 Q (F0 m 10 ls [])) (sb) (fun b hk_b ih_b  H locs ls hl hP hD hS => ?_) (0) (by omega)   s.heap [] ls (lv_sub hl [0, 1, 2, 3, 4, 5, 6] rfl) (by rw [pxB_0, ysB_0, sfB_0]; exact hP) (k_Ds hD [0, 1, 2, 3, 4, 5, 6, 7, 8, 9, 10, 11] (by decide) rfl) hS
  refine lv_iload hx hb d_RE_takeSymbols_10 (lv_at hl 0 rfl) ?_
  refine lv_iload_n hx hb d_RE_takeSymbols_12 rfl (lv_at hl 5 rfl) ?_
  refine k_icmp_ge (tgt := 128) hx hb d_RE_takeSymbols_13 (by decide) (by omega) (by omega) (fun h13 => ?_) (fun h13 => ?_)
  · obtain rfl : sb = b := by omega
    rw [hQ]
    exact k_vret () hx hb hr hlk hK hP hD hS [0, 1, 2, 3, 4, 5, 6, 7, 8, 9, 10, 11] (by decide) rfl trivial d_RE_takeSymbols_128
  · refine lv_iload hx hb d_RE_takeSymbols_16 (lv_at hl 0 rfl) ?_
    refine lv_iconst (v := nI 1) hx hb d_RE_takeSymbols_18 (by decide) ?_
    refine k_iadd hx hb d_RE_takeSymbols_19 ?_
    refine lv_iload hx hb d_RE_takeSymbols_20 (lv_at hl 1 rfl) ?_
    refine k_imul hx hb d_RE_takeSymbols_22 ?_
    refine lv_aload_n hx hb d_RE_takeSymbols_23 rfl (lv_at hl 2 rfl) ?_
    refine k_get hx hb hw uw_RE hown hK hP 0 rfl rfl 7 (by decide) (hw _ wd_227) rfl d_RE_takeSymbols_24 ?_
    refine va_alen (v := nI 240) hx hb hK hP 8 0 rfl rfl rfl d_RE_takeSymbols_27 ?_
    refine k_icmp_gt (tgt := 128) hx hb d_RE_takeSymbols_28 (by decide) (by omega) (by omega) (fun h28 => ?_) (fun h28 => ?_)
    · exfalso; omega
    · refine lv_aload_n hx hb d_RE_takeSymbols_31 rfl (lv_at hl 2 rfl) ?_
      refine k_get hx hb hw uw_RE hown hK hP 0 rfl rfl 5 (by decide) (hw _ wd_225) rfl d_RE_takeSymbols_32 ?_
      refine lv_aload_n hx hb d_RE_takeSymbols_35 rfl (lv_at hl 3 rfl) ?_
      refine lv_iload_n hx hb d_RE_takeSymbols_36 rfl (lv_at hl 4 rfl) ?_
      refine lv_iload hx hb d_RE_takeSymbols_37 (lv_at hl 0 rfl) ?_
      refine lv_bipush (v := nI 20) hx hb d_RE_takeSymbols_39 (by decide) ?_
      refine k_imul hx hb d_RE_takeSymbols_41 ?_
      refine k_iadd hx hb d_RE_takeSymbols_42 ?_
      refine lv_iconst (v := nI 4) hx hb d_RE_takeSymbols_43 (by decide) ?_
      refine k_iadd hx hb d_RE_takeSymbols_44 ?_
      refine k_callv (wr := [(h0, .inr (6, [.ref to, .ref fo, .int (fcn), .ref le, .ref tr, .ref po, .ref sy, .ref so, .ref pt, .ref sk])), (le, .inr (2, [.ref la, .ref lb])), (la, .inl (tc 0, 16, .inl lx.1)), (lb, .inl (tc 0, 16, .inl lx.2)), (sy, .inl (tc 0, 48, .inl (ysB tc2 2 lx wi wq fr ys b))), (so, .inl (tc 0, 240, .inl (sfB tc2 24 2 lx wi wq fr ys sf b)))]) (k_runV (As := [.ref wv, .int (nI ((fr + (b * 20)) + 4))]) (rest := []) (wc := [(po, .inr (2, [.ref pa, .ref pb])), (pa, .inl (tc 0, 16, .inl ((pxB wi wq fr px b).1))), (pb, .inl (tc 0, 16, .inl ((pxB wi wq fr px b).2))), (wv, .inr (1, [.ref wa, .ref wb, .int (nI wc)])), (wa, .inl (tc 1, 520, .inl wi)), (wb, .inl (tc 1, 520, .inl wq))]) ⟨hx, hb, hml, hown, hts⟩ (c_PO_takeCarriers l D tc tb po pa pb ((pxB wi wq fr px b).1) ((pxB wi wq fr px b).2) wv wa wb wc wi wq ((fr + (b * 20)) + 4) (by omega) H.size) (cwV 2 hts (k_goodV wd_614 wd_615 wd_616 wd_3 wd_617) rfl rfl rfl ⟨rfl, hd_PO_takeCarriers⟩ ⟨by rw [hR]; exact Nat.le_of_ble_eq_true rfl, by rw [hR]; exact Nat.le_of_ble_eq_true rfl⟩) hK hP hD hS hST hN hA [4, 5, 6, 9, 10, 11] (by decide) rfl 4 rfl rfl rfl rfl hl.1 rfl (Nat.le_of_ble_eq_true rfl) d_RE_takeSymbols_45 ⟨by rw [hR]; exact Nat.le_of_ble_eq_true rfl, by rw [hR]; exact Nat.le_of_ble_eq_true rfl⟩) hP hD hS hA [4, 5, 6, 9, 10, 11] [0, 1, 2, 3, 7, 8] rfl rfl (by decide) (by decide) (fun _ H locs hp45 hP hD hS => ?_)
      have hP : va_P D classes [(h0, .inr (6, [.ref to, .ref fo, .int (fcn), .ref le, .ref tr, .ref po, .ref sy, .ref so, .ref pt, .ref sk])), (le, .inr (2, [.ref la, .ref lb])), (la, .inl (tc 0, 16, .inl lx.1)), (lb, .inl (tc 0, 16, .inl lx.2)), (sy, .inl (tc 0, 48, .inl (ysB tc2 2 lx wi wq fr ys b))), (so, .inl (tc 0, 240, .inl (sfB tc2 24 2 lx wi wq fr ys sf b))), (po, .inr (2, [.ref pa, .ref pb])), (pa, .inl (tc 0, 16, .inl ((pxA wi wq ((fr + (b * 20)) + 4)).1))), (pb, .inl (tc 0, 16, .inl ((pxA wi wq ((fr + (b * 20)) + 4)).2))), (wv, .inr (1, [.ref wa, .ref wb, .int (nI wc)])), (wa, .inl (tc 1, 520, .inl wi)), (wb, .inl (tc 1, 520, .inl wq))] H := hP
      have hD : va_D A [(h0, .inr (6, [.ref to, .ref fo, .int (fcn), .ref le, .ref tr, .ref po, .ref sy, .ref so, .ref pt, .ref sk])), (le, .inr (2, [.ref la, .ref lb])), (la, .inl (tc 0, 16, .inl lx.1)), (lb, .inl (tc 0, 16, .inl lx.2)), (sy, .inl (tc 0, 48, .inl (ysB tc2 2 lx wi wq fr ys b))), (so, .inl (tc 0, 240, .inl (sfB tc2 24 2 lx wi wq fr ys sf b))), (po, .inr (2, [.ref pa, .ref pb])), (pa, .inl (tc 0, 16, .inl ((pxA wi wq ((fr + (b * 20)) + 4)).1))), (pb, .inl (tc 0, 16, .inl ((pxA wi wq ((fr + (b * 20)) + 4)).2))), (wv, .inr (1, [.ref wa, .ref wb, .int (nI wc)])), (wa, .inl (tc 1, 520, .inl wi)), (wb, .inl (tc 1, 520, .inl wq))] := hD
      refine W.widen (k := 0) (n := 0) (Nat.le_of_ble_eq_true rfl) (Nat.le_of_ble_eq_true rfl) ?_
      refine W.eq (g2 := F0 m 48 ls []) rfl ?_
      refine lv_iconst (v := nI 0) hx hb d_RE_takeSymbols_48 (by decide) ?_
      refine lv_istore (lv' := [(7, .int (nI 0)), (6, .int (nI b)), (5, .int (nI 24)), (0, .ref h0), (1, .ref wv), (2, .int (nI fr)), (3, .int (nI sb)), (4, .int (nI 2))]) hx hb d_RE_takeSymbols_49 hl (by decide) rfl (fun ls hl => ?_)
      refine k_loop (P := fun j : Nat => ∀ (H : Heap) (locs : List Loc) (ls : Array Slot), lv_has ls 8 [(7, .int (nI j)), (6, .int (nI b)), (5, .int (nI 24)), (0, .ref h0), (1, .ref wv), (2, .int (nI fr)), (3, .int (nI sb)), (4, .int (nI 2))] → va_P D classes [(h0, .inr (6, [.ref to, .ref fo, .int (fcn), .ref le, .ref tr, .ref po, .ref sy, .ref so, .ref pt, .ref sk])), (le, .inr (2, [.ref la, .ref lb])), (la, .inl (tc 0, 16, .inl lx.1)), (lb, .inl (tc 0, 16, .inl lx.2)), (sy, .inl (tc 0, 48, .inl (tsJ tc2 2 lx (pxA wi wq (fr + b * 20 + 4)) (ysB tc2 2 lx wi wq fr ys b) j))), (so, .inl (tc 0, 240, .inl (sfB tc2 24 2 lx wi wq fr ys sf b))), (po, .inr (2, [.ref pa, .ref pb])), (pa, .inl (tc 0, 16, .inl ((pxA wi wq ((fr + (b * 20)) + 4)).1))), (pb, .inl (tc 0, 16, .inl ((pxA wi wq ((fr + (b * 20)) + 4)).2))), (wv, .inr (1, [.ref wa, .ref wb, .int (nI wc)])), (wa, .inl (tc 1, 520, .inl wi)), (wb, .inl (tc 1, 520, .inl wq))] H → va_D A [(h0, .inr (6, [.ref to, .ref fo, .int (fcn), .ref le, .ref tr, .ref po, .ref sy, .ref so, .ref pt, .ref sk])), (le, .inr (2, [.ref la, .ref lb])), (la, .inl (tc 0, 16, .inl lx.1)), (lb, .inl (tc 0, 16, .inl lx.2)), (sy, .inl (tc 0, 48, .inl (tsJ tc2 2 lx (pxA wi wq (fr + b * 20 + 4)) (ysB tc2 2 lx wi wq fr ys b) j))), (so, .inl (tc 0, 240, .inl (sfB tc2 24 2 lx wi wq fr ys sf b))), (po, .inr (2, [.ref pa, .ref pb])), (pa, .inl (tc 0, 16, .inl ((pxA wi wq ((fr + (b * 20)) + 4)).1))), (pb, .inl (tc 0, 16, .inl ((pxA wi wq ((fr + (b * 20)) + 4)).2))), (wv, .inr (1, [.ref wa, .ref wb, .int (nI wc)])), (wa, .inl (tc 1, 520, .inl wi)), (wb, .inl (tc 1, 520, .inl wq))] → va_S A s.heap H locs → W p l e R s m args below meth c H locs 0 0 Q (F0 m 51 ls [])) (12) (fun j hk_j ih_j  H locs ls hl hP hD hS => ?_) (0) (by omega)   H locs ls (lv_sub hl [0, 1, 2, 3, 4, 5, 6, 7] rfl) (by rw [tsJ_0]; exact hP) (k_Ds hD [0, 1, 2, 3, 4, 5, 6, 7, 8, 9, 10, 11] (by decide) rfl) hS
      refine lv_iload hx hb d_RE_takeSymbols_51 (lv_at hl 0 rfl) ?_
      refine lv_bipush (v := nI 12) hx hb d_RE_takeSymbols_53 (by decide) ?_
      refine k_icmp_ge (tgt := 81) hx hb d_RE_takeSymbols_55 (by decide) (by omega) (by omega) (fun h55 => ?_) (fun h55 => ?_)
      · obtain rfl : 12 = j := by omega
        refine lv_iconst (v := nI 0) hx hb d_RE_takeSymbols_81 (by decide) ?_
        refine lv_istore (lv' := [(7, .int (nI 0)), (6, .int (nI b)), (5, .int (nI 24)), (0, .ref h0), (1, .ref wv), (2, .int (nI fr)), (3, .int (nI sb)), (4, .int (nI 2))]) hx hb d_RE_takeSymbols_82 hl (by decide) rfl (fun ls hl => ?_)
        refine k_loop (P := fun k : Nat => ∀ (H : Heap) (locs : List Loc) (ls : Array Slot), lv_has ls 8 [(7, .int (nI k)), (6, .int (nI b)), (5, .int (nI 24)), (0, .ref h0), (1, .ref wv), (2, .int (nI fr)), (3, .int (nI sb)), (4, .int (nI 2))] → va_P D classes [(h0, .inr (6, [.ref to, .ref fo, .int (fcn), .ref le, .ref tr, .ref po, .ref sy, .ref so, .ref pt, .ref sk])), (le, .inr (2, [.ref la, .ref lb])), (la, .inl (tc 0, 16, .inl lx.1)), (lb, .inl (tc 0, 16, .inl lx.2)), (sy, .inl (tc 0, 48, .inl (tsJ tc2 2 lx (pxA wi wq (fr + b * 20 + 4)) (ysB tc2 2 lx wi wq fr ys b) 12))), (so, .inl (tc 0, 240, .inl (soK 24 2 b (tsJ tc2 2 lx (pxA wi wq (fr + b * 20 + 4)) (ysB tc2 2 lx wi wq fr ys b) 12) (sfB tc2 24 2 lx wi wq fr ys sf b) k))), (po, .inr (2, [.ref pa, .ref pb])), (pa, .inl (tc 0, 16, .inl ((pxA wi wq ((fr + (b * 20)) + 4)).1))), (pb, .inl (tc 0, 16, .inl ((pxA wi wq ((fr + (b * 20)) + 4)).2))), (wv, .inr (1, [.ref wa, .ref wb, .int (nI wc)])), (wa, .inl (tc 1, 520, .inl wi)), (wb, .inl (tc 1, 520, .inl wq))] H → va_D A [(h0, .inr (6, [.ref to, .ref fo, .int (fcn), .ref le, .ref tr, .ref po, .ref sy, .ref so, .ref pt, .ref sk])), (le, .inr (2, [.ref la, .ref lb])), (la, .inl (tc 0, 16, .inl lx.1)), (lb, .inl (tc 0, 16, .inl lx.2)), (sy, .inl (tc 0, 48, .inl (tsJ tc2 2 lx (pxA wi wq (fr + b * 20 + 4)) (ysB tc2 2 lx wi wq fr ys b) 12))), (so, .inl (tc 0, 240, .inl (soK 24 2 b (tsJ tc2 2 lx (pxA wi wq (fr + b * 20 + 4)) (ysB tc2 2 lx wi wq fr ys b) 12) (sfB tc2 24 2 lx wi wq fr ys sf b) k))), (po, .inr (2, [.ref pa, .ref pb])), (pa, .inl (tc 0, 16, .inl ((pxA wi wq ((fr + (b * 20)) + 4)).1))), (pb, .inl (tc 0, 16, .inl ((pxA wi wq ((fr + (b * 20)) + 4)).2))), (wv, .inr (1, [.ref wa, .ref wb, .int (nI wc)])), (wa, .inl (tc 1, 520, .inl wi)), (wb, .inl (tc 1, 520, .inl wq))] → va_S A s.heap H locs → W p l e R s m args below meth c H locs 0 0 Q (F0 m 84 ls [])) (24) (fun k hk_k ih_k  H locs ls hl hP hD hS => ?_) (0) (by omega)   H locs ls (lv_sub hl [0, 1, 2, 3, 4, 5, 6, 7] rfl) (by rw [soK_0]; exact hP) (k_Ds hD [0, 1, 2, 3, 4, 5, 6, 7, 8, 9, 10, 11] (by decide) rfl) hS
        refine lv_iload hx hb d_RE_takeSymbols_84 (lv_at hl 0 rfl) ?_
        refine lv_iload hx hb d_RE_takeSymbols_86 (lv_at hl 2 rfl) ?_
        refine k_icmp_ge (tgt := 122) hx hb d_RE_takeSymbols_88 (by decide) (by omega) (by omega) (fun h88 => ?_) (fun h88 => ?_)
        · obtain rfl : 24 = k := by omega
          refine lv_iinc (k := 1) (v := nI (b + 1)) (lv' := [(6, .int (nI (b + 1))), (7, .int (nI 24)), (5, .int (nI 24)), (0, .ref h0), (1, .ref wv), (2, .int (nI fr)), (3, .int (nI sb)), (4, .int (nI 2))]) hx hb d_RE_takeSymbols_122 hl rfl (k_incN _ 1) (by decide) rfl (fun ls hl => ?_)
          refine lv_goto (tgt := 10) hx hb d_RE_takeSymbols_125 (by decide) ?_
          exact ih_b (by omega)   H locs ls (lv_sub hl [0, 2, 3, 4, 5, 6, 7] rfl) (by have hP := k_sub hP (is := [0, 1, 2, 3, 6, 7, 8, 4, 5, 9, 10, 11]) (w := [(h0, .inr (6, [.ref to, .ref fo, .int (fcn), .ref le, .ref tr, .ref po, .ref sy, .ref so, .ref pt, .ref sk])), (le, .inr (2, [.ref la, .ref lb])), (la, .inl (tc 0, 16, .inl lx.1)), (lb, .inl (tc 0, 16, .inl lx.2)), (po, .inr (2, [.ref pa, .ref pb])), (pa, .inl (tc 0, 16, .inl ((pxA wi wq ((fr + (b * 20)) + 4)).1))), (pb, .inl (tc 0, 16, .inl ((pxA wi wq ((fr + (b * 20)) + 4)).2))), (sy, .inl (tc 0, 48, .inl (tsJ tc2 2 lx (pxA wi wq (fr + b * 20 + 4)) (ysB tc2 2 lx wi wq fr ys b) 12))), (so, .inl (tc 0, 240, .inl (soK 24 2 b (tsJ tc2 2 lx (pxA wi wq (fr + b * 20 + 4)) (ysB tc2 2 lx wi wq fr ys b) 12) (sfB tc2 24 2 lx wi wq fr ys sf b) 24))), (wv, .inr (1, [.ref wa, .ref wb, .int (nI wc)])), (wa, .inl (tc 1, 520, .inl wi)), (wb, .inl (tc 1, 520, .inl wq))]) rfl; rw [pxB_s, ysB_s, sfB_s]; exact hP) (k_Ds hD [0, 1, 2, 3, 6, 7, 8, 4, 5, 9, 10, 11] (by decide) rfl) hS
        · have hpl := place2 k h88
          refine lv_aload_n hx hb d_RE_takeSymbols_91 rfl (lv_at hl 3 rfl) ?_
          refine k_get hx hb hw uw_RE hown hK hP 0 rfl rfl 7 (by decide) (hw _ wd_227) rfl d_RE_takeSymbols_92 ?_
          refine lv_iload hx hb d_RE_takeSymbols_95 (lv_at hl 1 rfl) ?_
          refine lv_iload hx hb d_RE_takeSymbols_97 (lv_at hl 2 rfl) ?_
          refine k_imul hx hb d_RE_takeSymbols_99 ?_
          refine lv_iload hx hb d_RE_takeSymbols_100 (lv_at hl 0 rfl) ?_
          refine k_iadd hx hb d_RE_takeSymbols_102 ?_
          refine lv_aload_n hx hb d_RE_takeSymbols_103 rfl (lv_at hl 3 rfl) ?_
          refine k_get hx hb hw uw_RE hown hK hP 0 rfl rfl 6 (by decide) (hw _ wd_226) rfl d_RE_takeSymbols_104 ?_
          refine lv_iload hx hb d_RE_takeSymbols_107 (lv_at hl 0 rfl) ?_
          refine lv_iload hx hb d_RE_takeSymbols_109 (lv_at hl 7 rfl) ?_
          refine k_calli (wr := [(h0, .inr (6, [.ref to, .ref fo, .int (fcn), .ref le, .ref tr, .ref po, .ref sy, .ref so, .ref pt, .ref sk])), (le, .inr (2, [.ref la, .ref lb])), (la, .inl (tc 0, 16, .inl lx.1)), (lb, .inl (tc 0, 16, .inl lx.2)), (sy, .inl (tc 0, 48, .inl (tsJ tc2 2 lx (pxA wi wq (fr + b * 20 + 4)) (ysB tc2 2 lx wi wq fr ys b) 12))), (so, .inl (tc 0, 240, .inl (soK 24 2 b (tsJ tc2 2 lx (pxA wi wq (fr + b * 20 + 4)) (ysB tc2 2 lx wi wq fr ys b) 12) (sfB tc2 24 2 lx wi wq fr ys sf b) k))), (po, .inr (2, [.ref pa, .ref pb])), (pa, .inl (tc 0, 16, .inl ((pxA wi wq ((fr + (b * 20)) + 4)).1))), (pb, .inl (tc 0, 16, .inl ((pxA wi wq ((fr + (b * 20)) + 4)).2))), (wv, .inr (1, [.ref wa, .ref wb, .int (nI wc)])), (wa, .inl (tc 1, 520, .inl wi)), (wb, .inl (tc 1, 520, .inl wq))]) (k_runSN (As := [.int (nI k), .int (nI 2)]) (rest := [.ref sy, .int (nI ((b * 24) + k)), .ref so]) (wc := []) ⟨hx, hb, hml, hown, hts⟩ (c_CL_placeOf_2 l D tc tb k (by omega) H.size) ⟨va_cnB 2 hts (k_good wd_503) rfl rfl rfl (hN _ wd_643) (hw _ wd_1) hd_CL_placeOf ⟨by rw [hR]; exact Nat.le_of_ble_eq_true rfl, by rw [hR]; exact Nat.le_of_ble_eq_true rfl⟩, hw _ wd_502, trivial⟩ hK hP hD hS hST hN hA [] (by decide) rfl rfl hl.1 rfl (Nat.le_of_ble_eq_true rfl) d_RE_takeSymbols_111 ⟨by rw [hR]; exact Nat.le_of_ble_eq_true rfl, by rw [hR]; exact Nat.le_of_ble_eq_true rfl⟩) hP hD hS hA [] [0, 1, 2, 3, 4, 5, 6, 7, 8, 9, 10, 11] rfl rfl (by decide) (by decide) (fun _ H locs hp111 hP hD hS => ?_)
          have hP : va_P D classes [(h0, .inr (6, [.ref to, .ref fo, .int (fcn), .ref le, .ref tr, .ref po, .ref sy, .ref so, .ref pt, .ref sk])), (le, .inr (2, [.ref la, .ref lb])), (la, .inl (tc 0, 16, .inl lx.1)), (lb, .inl (tc 0, 16, .inl lx.2)), (sy, .inl (tc 0, 48, .inl (tsJ tc2 2 lx (pxA wi wq (fr + b * 20 + 4)) (ysB tc2 2 lx wi wq fr ys b) 12))), (so, .inl (tc 0, 240, .inl (soK 24 2 b (tsJ tc2 2 lx (pxA wi wq (fr + b * 20 + 4)) (ysB tc2 2 lx wi wq fr ys b) 12) (sfB tc2 24 2 lx wi wq fr ys sf b) k))), (po, .inr (2, [.ref pa, .ref pb])), (pa, .inl (tc 0, 16, .inl ((pxA wi wq ((fr + (b * 20)) + 4)).1))), (pb, .inl (tc 0, 16, .inl ((pxA wi wq ((fr + (b * 20)) + 4)).2))), (wv, .inr (1, [.ref wa, .ref wb, .int (nI wc)])), (wa, .inl (tc 1, 520, .inl wi)), (wb, .inl (tc 1, 520, .inl wq))] H := hP
          have hD : va_D A [(h0, .inr (6, [.ref to, .ref fo, .int (fcn), .ref le, .ref tr, .ref po, .ref sy, .ref so, .ref pt, .ref sk])), (le, .inr (2, [.ref la, .ref lb])), (la, .inl (tc 0, 16, .inl lx.1)), (lb, .inl (tc 0, 16, .inl lx.2)), (sy, .inl (tc 0, 48, .inl (tsJ tc2 2 lx (pxA wi wq (fr + b * 20 + 4)) (ysB tc2 2 lx wi wq fr ys b) 12))), (so, .inl (tc 0, 240, .inl (soK 24 2 b (tsJ tc2 2 lx (pxA wi wq (fr + b * 20 + 4)) (ysB tc2 2 lx wi wq fr ys b) 12) (sfB tc2 24 2 lx wi wq fr ys sf b) k))), (po, .inr (2, [.ref pa, .ref pb])), (pa, .inl (tc 0, 16, .inl ((pxA wi wq ((fr + (b * 20)) + 4)).1))), (pb, .inl (tc 0, 16, .inl ((pxA wi wq ((fr + (b * 20)) + 4)).2))), (wv, .inr (1, [.ref wa, .ref wb, .int (nI wc)])), (wa, .inl (tc 1, 520, .inl wi)), (wb, .inl (tc 1, 520, .inl wq))] := hD
          refine W.widen (k := 0) (n := 0) (Nat.le_of_ble_eq_true rfl) (Nat.le_of_ble_eq_true rfl) ?_
          refine W.eq (g2 := F0 m 114 ls [.int (nI (placeN k 2)), .ref sy, .int (nI ((b * 24) + k)), .ref so]) rfl ?_
          refine k_iald hx hb hK hP 4 0 rfl rfl (by omega) (by omega) d_RE_takeSymbols_114 ?_
          refine k_iast (ws' := [(h0, .inr (6, [.ref to, .ref fo, .int (fcn), .ref le, .ref tr, .ref po, .ref sy, .ref so, .ref pt, .ref sk])), (le, .inr (2, [.ref la, .ref lb])), (la, .inl (tc 0, 16, .inl lx.1)), (lb, .inl (tc 0, 16, .inl lx.2)), (sy, .inl (tc 0, 48, .inl (tsJ tc2 2 lx (pxA wi wq (fr + b * 20 + 4)) (ysB tc2 2 lx wi wq fr ys b) 12))), (so, .inl (tc 0, 240, .inl (upd (soK 24 2 b (tsJ tc2 2 lx (pxA wi wq (fr + b * 20 + 4)) (ysB tc2 2 lx wi wq fr ys b) 12) (sfB tc2 24 2 lx wi wq fr ys sf b) k) ((b * 24) + k) ((tsJ tc2 2 lx (pxA wi wq (fr + b * 20 + 4)) (ysB tc2 2 lx wi wq fr ys b) 12) (placeN k 2))))), (po, .inr (2, [.ref pa, .ref pb])), (pa, .inl (tc 0, 16, .inl ((pxA wi wq ((fr + (b * 20)) + 4)).1))), (pb, .inl (tc 0, 16, .inl ((pxA wi wq ((fr + (b * 20)) + 4)).2))), (wv, .inr (1, [.ref wa, .ref wb, .int (nI wc)])), (wa, .inl (tc 1, 520, .inl wi)), (wb, .inl (tc 1, 520, .inl wq))]) hx hb hK hP hD hS 5 0 rfl rfl (by omega) (by omega) d_RE_takeSymbols_115 rfl (fun H locs hP hD hS => ?_)
          refine lv_iinc (k := 0) (v := nI (k + 1)) (lv' := [(7, .int (nI (k + 1))), (6, .int (nI b)), (5, .int (nI 24)), (0, .ref h0), (1, .ref wv), (2, .int (nI fr)), (3, .int (nI sb)), (4, .int (nI 2))]) hx hb d_RE_takeSymbols_116 hl rfl (k_incN _ 1) (by decide) rfl (fun ls hl => ?_)
          refine lv_goto (tgt := 84) hx hb d_RE_takeSymbols_119 (by decide) ?_
          exact ih_k (by omega)   H locs ls (lv_sub hl [0, 1, 2, 3, 4, 5, 6, 7] rfl) (by rw [soK_s]; exact hP) (k_Ds hD [0, 1, 2, 3, 4, 5, 6, 7, 8, 9, 10, 11] (by decide) rfl) hS
      · have hcd := cod_lt j h55
        refine lv_aload_n hx hb d_RE_takeSymbols_58 rfl (lv_at hl 3 rfl) ?_
        refine k_tabN hx hb hST hS 2 rfl hown (va_Nw.use rfl (hN _ wd_623)) d_RE_takeSymbols_59 ?_
        refine lv_iload hx hb d_RE_takeSymbols_62 (lv_at hl 0 rfl) ?_
        refine k_tald hx hb hST hS 2 rfl (by omega) (by omega) d_RE_takeSymbols_64 ?_
        refine lv_iload hx hb d_RE_takeSymbols_65 (lv_at hl 7 rfl) ?_
        refine lv_iload hx hb d_RE_takeSymbols_67 (lv_at hl 0 rfl) ?_
        refine k_imul hx hb d_RE_takeSymbols_69 ?_
        refine lv_iload hx hb d_RE_takeSymbols_70 (lv_at hl 7 rfl) ?_
        refine k_callv (wr := [(so, .inl (tc 0, 240, .inl (sfB tc2 24 2 lx wi wq fr ys sf b))), (wv, .inr (1, [.ref wa, .ref wb, .int (nI wc)])), (wa, .inl (tc 1, 520, .inl wi)), (wb, .inl (tc 1, 520, .inl wq))]) (k_runV (As := [.int (nI (codN j)), .int (nI (2 * j)), .int (nI 2)]) (rest := []) (wc := [(h0, .inr (6, [.ref to, .ref fo, .int (fcn), .ref le, .ref tr, .ref po, .ref sy, .ref so, .ref pt, .ref sk])), (le, .inr (2, [.ref la, .ref lb])), (la, .inl (tc 0, 16, .inl lx.1)), (lb, .inl (tc 0, 16, .inl lx.2)), (po, .inr (2, [.ref pa, .ref pb])), (pa, .inl (tc 0, 16, .inl ((pxA wi wq ((fr + (b * 20)) + 4)).1))), (pb, .inl (tc 0, 16, .inl ((pxA wi wq ((fr + (b * 20)) + 4)).2))), (sy, .inl (tc 0, 48, .inl (tsJ tc2 2 lx (pxA wi wq (fr + b * 20 + 4)) (ysB tc2 2 lx wi wq fr ys b) j)))]) ⟨hx, hb, hml, hown, hts⟩ (c_RE_takeCarrier_2 l D tc tb h0 to fo le tr po sy so pt sk fcn la lb lx pa pb (pxA wi wq ((fr + (b * 20)) + 4)) (tsJ tc2 2 lx (pxA wi wq (fr + b * 20 + 4)) (ysB tc2 2 lx wi wq fr ys b) j) (codN j) (2 * j) (by omega) (by omega) H.size) (cwV 3 hts (k_goodV wd_624 wd_626 wd_m21 wd_7 wd_627) rfl rfl rfl ⟨rfl, hd_RE_takeCarrier⟩ ⟨by rw [hR]; exact Nat.le_of_ble_eq_true rfl, by rw [hR]; exact Nat.le_of_ble_eq_true rfl⟩) hK hP hD hS hST hN hA [0, 1, 2, 3, 6, 7, 8, 4] (by decide) rfl 0 rfl rfl rfl rfl hl.1 rfl (Nat.le_of_ble_eq_true rfl) d_RE_takeSymbols_72 ⟨by rw [hR]; exact Nat.le_of_ble_eq_true rfl, by rw [hR]; exact Nat.le_of_ble_eq_true rfl⟩) hP hD hS hA [0, 1, 2, 3, 6, 7, 8, 4] [5, 9, 10, 11] rfl rfl (by decide) (by decide) (fun _ H locs hp72 hP hD hS => ?_)
        have hP : va_P D classes [(so, .inl (tc 0, 240, .inl (sfB tc2 24 2 lx wi wq fr ys sf b))), (wv, .inr (1, [.ref wa, .ref wb, .int (nI wc)])), (wa, .inl (tc 1, 520, .inl wi)), (wb, .inl (tc 1, 520, .inl wq)), (h0, .inr (6, [.ref to, .ref fo, .int (fcn), .ref le, .ref tr, .ref po, .ref sy, .ref so, .ref pt, .ref sk])), (le, .inr (2, [.ref la, .ref lb])), (la, .inl (tc 0, 16, .inl lx.1)), (lb, .inl (tc 0, 16, .inl lx.2)), (po, .inr (2, [.ref pa, .ref pb])), (pa, .inl (tc 0, 16, .inl ((pxA wi wq ((fr + (b * 20)) + 4)).1))), (pb, .inl (tc 0, 16, .inl ((pxA wi wq ((fr + (b * 20)) + 4)).2))), (sy, .inl (tc 0, 48, .inl (tc2 lx (pxA wi wq ((fr + (b * 20)) + 4)) (codN j) (2 * j) (tsJ tc2 2 lx (pxA wi wq (fr + b * 20 + 4)) (ysB tc2 2 lx wi wq fr ys b) j))))] H := hP
        have hD : va_D A [(so, .inl (tc 0, 240, .inl (sfB tc2 24 2 lx wi wq fr ys sf b))), (wv, .inr (1, [.ref wa, .ref wb, .int (nI wc)])), (wa, .inl (tc 1, 520, .inl wi)), (wb, .inl (tc 1, 520, .inl wq)), (h0, .inr (6, [.ref to, .ref fo, .int (fcn), .ref le, .ref tr, .ref po, .ref sy, .ref so, .ref pt, .ref sk])), (le, .inr (2, [.ref la, .ref lb])), (la, .inl (tc 0, 16, .inl lx.1)), (lb, .inl (tc 0, 16, .inl lx.2)), (po, .inr (2, [.ref pa, .ref pb])), (pa, .inl (tc 0, 16, .inl ((pxA wi wq ((fr + (b * 20)) + 4)).1))), (pb, .inl (tc 0, 16, .inl ((pxA wi wq ((fr + (b * 20)) + 4)).2))), (sy, .inl (tc 0, 48, .inl (tc2 lx (pxA wi wq ((fr + (b * 20)) + 4)) (codN j) (2 * j) (tsJ tc2 2 lx (pxA wi wq (fr + b * 20 + 4)) (ysB tc2 2 lx wi wq fr ys b) j))))] := hD
        refine W.widen (k := 0) (n := 0) (Nat.le_of_ble_eq_true rfl) (Nat.le_of_ble_eq_true rfl) ?_
        refine W.eq (g2 := F0 m 75 ls []) rfl ?_
        refine lv_iinc (k := 0) (v := nI (j + 1)) (lv' := [(7, .int (nI (j + 1))), (6, .int (nI b)), (5, .int (nI 24)), (0, .ref h0), (1, .ref wv), (2, .int (nI fr)), (3, .int (nI sb)), (4, .int (nI 2))]) hx hb d_RE_takeSymbols_75 hl rfl (k_incN _ 1) (by decide) rfl (fun ls hl => ?_)
        refine lv_goto (tgt := 51) hx hb d_RE_takeSymbols_78 (by decide) ?_
        exact ih_j (by omega)   H locs ls (lv_sub hl [0, 1, 2, 3, 4, 5, 6, 7] rfl) (by have hP := k_sub hP (is := [4, 5, 6, 7, 11, 0, 8, 9, 10, 1, 2, 3]) (w := [(h0, .inr (6, [.ref to, .ref fo, .int (fcn), .ref le, .ref tr, .ref po, .ref sy, .ref so, .ref pt, .ref sk])), (le, .inr (2, [.ref la, .ref lb])), (la, .inl (tc 0, 16, .inl lx.1)), (lb, .inl (tc 0, 16, .inl lx.2)), (sy, .inl (tc 0, 48, .inl (tc2 lx (pxA wi wq ((fr + (b * 20)) + 4)) (codN j) (2 * j) (tsJ tc2 2 lx (pxA wi wq (fr + b * 20 + 4)) (ysB tc2 2 lx wi wq fr ys b) j)))), (so, .inl (tc 0, 240, .inl (sfB tc2 24 2 lx wi wq fr ys sf b))), (po, .inr (2, [.ref pa, .ref pb])), (pa, .inl (tc 0, 16, .inl ((pxA wi wq ((fr + (b * 20)) + 4)).1))), (pb, .inl (tc 0, 16, .inl ((pxA wi wq ((fr + (b * 20)) + 4)).2))), (wv, .inr (1, [.ref wa, .ref wb, .int (nI wc)])), (wa, .inl (tc 1, 520, .inl wi)), (wb, .inl (tc 1, 520, .inl wq))]) rfl; rw [tsJ_s]; exact hP) (k_Ds hD [4, 5, 6, 7, 11, 0, 8, 9, 10, 1, 2, 3] (by decide) rfl) hS
set_option maxHeartbeats 4000000 in
set_option maxRecDepth 100000 in
theorem c_RE_takeSymbols_4 (l : Launch) (D : va_G) (tc : Nat → ClassId) (tb : Nat → Nat) (h0 : Nat) (to : Nat) (fo : Nat) (le : Nat) (tr : Nat) (po : Nat) (sy : Nat) (so : Nat) (pt : Nat) (sk : Nat) (fcn : Int32) (la : Nat) (lb : Nat) (lx : RP) (pa : Nat) (pb : Nat) (px : RP) (ys : Nat → Int32) (sf : Nat → Int32) (wv : Nat) (wa : Nat) (wb : Nat) (wc : Nat) (wi : Nat → Int32) (wq : Nat → Int32) (fr : Nat) (sb : Nat) (hsb : 48 * sb ≤ 240) (hfr : fr + 20 * sb ≤ 520) : Mv l D tc tb y_RE_takeSymbols prog_5_method_7_code 8 none ({ frames := 3, cells := 0, slots := 0, locals := 84 }) [.ref h0, .ref wv, .int (nI fr), .int (nI sb), .int (nI 4)] [(h0, .inr (6, [.ref to, .ref fo, .int (fcn), .ref le, .ref tr, .ref po, .ref sy, .ref so, .ref pt, .ref sk])), (le, .inr (2, [.ref la, .ref lb])), (la, .inl (tc 0, 16, .inl lx.1)), (lb, .inl (tc 0, 16, .inl lx.2)), (po, .inr (2, [.ref pa, .ref pb])), (pa, .inl (tc 0, 16, .inl px.1)), (pb, .inl (tc 0, 16, .inl px.2)), (sy, .inl (tc 0, 48, .inl ys)), (so, .inl (tc 0, 240, .inl sf)), (wv, .inr (1, [.ref wa, .ref wb, .int (nI wc)])), (wa, .inl (tc 1, 520, .inl wi)), (wb, .inl (tc 1, 520, .inl wq))] (fun _ : Unit => True) (fun _ : Unit => [(h0, .inr (6, [.ref to, .ref fo, .int (fcn), .ref le, .ref tr, .ref po, .ref sy, .ref so, .ref pt, .ref sk])), (le, .inr (2, [.ref la, .ref lb])), (la, .inl (tc 0, 16, .inl lx.1)), (lb, .inl (tc 0, 16, .inl lx.2)), (po, .inr (2, [.ref pa, .ref pb])), (pa, .inl (tc 0, 16, .inl ((pxB wi wq fr px sb).1))), (pb, .inl (tc 0, 16, .inl ((pxB wi wq fr px sb).2))), (sy, .inl (tc 0, 48, .inl (ysB tc4 4 lx wi wq fr ys sb))), (so, .inl (tc 0, 240, .inl (sfB tc4 48 4 lx wi wq fr ys sf sb))), (wv, .inr (1, [.ref wa, .ref wb, .int (nI wc)])), (wa, .inl (tc 1, 520, .inl wi)), (wb, .inl (tc 1, 520, .inl wq))]) := by
  refine Mv.go (by decide) (Nat.le_of_ble_eq_true rfl) ?_
  intro p e s m below meth c A ls R args Q C
  obtain ⟨hx, hb, hr, hts, hown, hlk, hml, hin, hA, hST, hN, hK, hP, hD, hS, hl, hR, hQ⟩ := C
  have hw : ∀ w ∈ lw_g, w.before args s = true := fun w h => hts w (List.mem_cons_of_mem _ h)
  have hl : lv_has ls 8 [(0, .ref h0), (1, .ref wv), (2, .int (nI fr)), (3, .int (nI sb)), (4, .int (nI 4))] := hl
  refine lv_bipush (v := nI 12) hx hb d_RE_takeSymbols_0 (by decide) ?_
  refine lv_iload hx hb d_RE_takeSymbols_2 (lv_at hl 4 rfl) ?_
  refine k_imul hx hb d_RE_takeSymbols_4 ?_
  refine lv_istore (lv' := [(5, .int (nI 48)), (0, .ref h0), (1, .ref wv), (2, .int (nI fr)), (3, .int (nI sb)), (4, .int (nI 4))]) hx hb d_RE_takeSymbols_5 hl (by decide) rfl (fun ls hl => ?_)
  refine lv_iconst (v := nI 0) hx hb d_RE_takeSymbols_7 (by decide) ?_
  refine lv_istore (lv' := [(6, .int (nI 0)), (5, .int (nI 48)), (0, .ref h0), (1, .ref wv), (2, .int (nI fr)), (3, .int (nI sb)), (4, .int (nI 4))]) hx hb d_RE_takeSymbols_8 hl (by decide) rfl (fun ls hl => ?_)
  refine k_loop (P := fun b : Nat => ∀ (H : Heap) (locs : List Loc) (ls : Array Slot), lv_has ls 8 [(6, .int (nI b)), (5, .int (nI 48)), (0, .ref h0), (1, .ref wv), (2, .int (nI fr)), (3, .int (nI sb)), (4, .int (nI 4))] → va_P D classes [(h0, .inr (6, [.ref to, .ref fo, .int (fcn), .ref le, .ref tr, .ref po, .ref sy, .ref so, .ref pt, .ref sk])), (le, .inr (2, [.ref la, .ref lb])), (la, .inl (tc 0, 16, .inl lx.1)), (lb, .inl (tc 0, 16, .inl lx.2)), (po, .inr (2, [.ref pa, .ref pb])), (pa, .inl (tc 0, 16, .inl ((pxB wi wq fr px b).1))), (pb, .inl (tc 0, 16, .inl ((pxB wi wq fr px b).2))), (sy, .inl (tc 0, 48, .inl (ysB tc4 4 lx wi wq fr ys b))), (so, .inl (tc 0, 240, .inl (sfB tc4 48 4 lx wi wq fr ys sf b))), (wv, .inr (1, [.ref wa, .ref wb, .int (nI wc)])), (wa, .inl (tc 1, 520, .inl wi)), (wb, .inl (tc 1, 520, .inl wq))] H → va_D A [(h0, .inr (6, [.ref to, .ref fo, .int (fcn), .ref le, .ref tr, .ref po, .ref sy, .ref so, .ref pt, .ref sk])), (le, .inr (2, [.ref la, .ref lb])), (la, .inl (tc 0, 16, .inl lx.1)), (lb, .inl (tc 0, 16, .inl lx.2)), (po, .inr (2, [.ref pa, .ref pb])), (pa, .inl (tc 0, 16, .inl ((pxB wi wq fr px b).1))), (pb, .inl (tc 0, 16, .inl ((pxB wi wq fr px b).2))), (sy, .inl (tc 0, 48, .inl (ysB tc4 4 lx wi wq fr ys b))), (so, .inl (tc 0, 240, .inl (sfB tc4 48 4 lx wi wq fr ys sf b))), (wv, .inr (1, [.ref wa, .ref wb, .int (nI wc)])), (wa, .inl (tc 1, 520, .inl wi)), (wb, .inl (tc 1, 520, .inl wq))] → va_S A s.heap H locs → W p l e R s m args below meth c H locs 0 0 Q (F0 m 10 ls [])) (sb) (fun b hk_b ih_b  H locs ls hl hP hD hS => ?_) (0) (by omega)   s.heap [] ls (lv_sub hl [0, 1, 2, 3, 4, 5, 6] rfl) (by rw [pxB_0, ysB_0, sfB_0]; exact hP) (k_Ds hD [0, 1, 2, 3, 4, 5, 6, 7, 8, 9, 10, 11] (by decide) rfl) hS
  refine lv_iload hx hb d_RE_takeSymbols_10 (lv_at hl 0 rfl) ?_
  refine lv_iload_n hx hb d_RE_takeSymbols_12 rfl (lv_at hl 5 rfl) ?_
  refine k_icmp_ge (tgt := 128) hx hb d_RE_takeSymbols_13 (by decide) (by omega) (by omega) (fun h13 => ?_) (fun h13 => ?_)
  · obtain rfl : sb = b := by omega
    rw [hQ]
    exact k_vret () hx hb hr hlk hK hP hD hS [0, 1, 2, 3, 4, 5, 6, 7, 8, 9, 10, 11] (by decide) rfl trivial d_RE_takeSymbols_128
  · refine lv_iload hx hb d_RE_takeSymbols_16 (lv_at hl 0 rfl) ?_
    refine lv_iconst (v := nI 1) hx hb d_RE_takeSymbols_18 (by decide) ?_
    refine k_iadd hx hb d_RE_takeSymbols_19 ?_
    refine lv_iload hx hb d_RE_takeSymbols_20 (lv_at hl 1 rfl) ?_
    refine k_imul hx hb d_RE_takeSymbols_22 ?_
    refine lv_aload_n hx hb d_RE_takeSymbols_23 rfl (lv_at hl 2 rfl) ?_
    refine k_get hx hb hw uw_RE hown hK hP 0 rfl rfl 7 (by decide) (hw _ wd_227) rfl d_RE_takeSymbols_24 ?_
    refine va_alen (v := nI 240) hx hb hK hP 8 0 rfl rfl rfl d_RE_takeSymbols_27 ?_
    refine k_icmp_gt (tgt := 128) hx hb d_RE_takeSymbols_28 (by decide) (by omega) (by omega) (fun h28 => ?_) (fun h28 => ?_)
    · exfalso; omega
    · refine lv_aload_n hx hb d_RE_takeSymbols_31 rfl (lv_at hl 2 rfl) ?_
      refine k_get hx hb hw uw_RE hown hK hP 0 rfl rfl 5 (by decide) (hw _ wd_225) rfl d_RE_takeSymbols_32 ?_
      refine lv_aload_n hx hb d_RE_takeSymbols_35 rfl (lv_at hl 3 rfl) ?_
      refine lv_iload_n hx hb d_RE_takeSymbols_36 rfl (lv_at hl 4 rfl) ?_
      refine lv_iload hx hb d_RE_takeSymbols_37 (lv_at hl 0 rfl) ?_
      refine lv_bipush (v := nI 20) hx hb d_RE_takeSymbols_39 (by decide) ?_
      refine k_imul hx hb d_RE_takeSymbols_41 ?_
      refine k_iadd hx hb d_RE_takeSymbols_42 ?_
      refine lv_iconst (v := nI 4) hx hb d_RE_takeSymbols_43 (by decide) ?_
      refine k_iadd hx hb d_RE_takeSymbols_44 ?_
      refine k_callv (wr := [(h0, .inr (6, [.ref to, .ref fo, .int (fcn), .ref le, .ref tr, .ref po, .ref sy, .ref so, .ref pt, .ref sk])), (le, .inr (2, [.ref la, .ref lb])), (la, .inl (tc 0, 16, .inl lx.1)), (lb, .inl (tc 0, 16, .inl lx.2)), (sy, .inl (tc 0, 48, .inl (ysB tc4 4 lx wi wq fr ys b))), (so, .inl (tc 0, 240, .inl (sfB tc4 48 4 lx wi wq fr ys sf b)))]) (k_runV (As := [.ref wv, .int (nI ((fr + (b * 20)) + 4))]) (rest := []) (wc := [(po, .inr (2, [.ref pa, .ref pb])), (pa, .inl (tc 0, 16, .inl ((pxB wi wq fr px b).1))), (pb, .inl (tc 0, 16, .inl ((pxB wi wq fr px b).2))), (wv, .inr (1, [.ref wa, .ref wb, .int (nI wc)])), (wa, .inl (tc 1, 520, .inl wi)), (wb, .inl (tc 1, 520, .inl wq))]) ⟨hx, hb, hml, hown, hts⟩ (c_PO_takeCarriers l D tc tb po pa pb ((pxB wi wq fr px b).1) ((pxB wi wq fr px b).2) wv wa wb wc wi wq ((fr + (b * 20)) + 4) (by omega) H.size) (cwV 2 hts (k_goodV wd_614 wd_615 wd_616 wd_3 wd_617) rfl rfl rfl ⟨rfl, hd_PO_takeCarriers⟩ ⟨by rw [hR]; exact Nat.le_of_ble_eq_true rfl, by rw [hR]; exact Nat.le_of_ble_eq_true rfl⟩) hK hP hD hS hST hN hA [4, 5, 6, 9, 10, 11] (by decide) rfl 4 rfl rfl rfl rfl hl.1 rfl (Nat.le_of_ble_eq_true rfl) d_RE_takeSymbols_45 ⟨by rw [hR]; exact Nat.le_of_ble_eq_true rfl, by rw [hR]; exact Nat.le_of_ble_eq_true rfl⟩) hP hD hS hA [4, 5, 6, 9, 10, 11] [0, 1, 2, 3, 7, 8] rfl rfl (by decide) (by decide) (fun _ H locs hp45 hP hD hS => ?_)
      have hP : va_P D classes [(h0, .inr (6, [.ref to, .ref fo, .int (fcn), .ref le, .ref tr, .ref po, .ref sy, .ref so, .ref pt, .ref sk])), (le, .inr (2, [.ref la, .ref lb])), (la, .inl (tc 0, 16, .inl lx.1)), (lb, .inl (tc 0, 16, .inl lx.2)), (sy, .inl (tc 0, 48, .inl (ysB tc4 4 lx wi wq fr ys b))), (so, .inl (tc 0, 240, .inl (sfB tc4 48 4 lx wi wq fr ys sf b))), (po, .inr (2, [.ref pa, .ref pb])), (pa, .inl (tc 0, 16, .inl ((pxA wi wq ((fr + (b * 20)) + 4)).1))), (pb, .inl (tc 0, 16, .inl ((pxA wi wq ((fr + (b * 20)) + 4)).2))), (wv, .inr (1, [.ref wa, .ref wb, .int (nI wc)])), (wa, .inl (tc 1, 520, .inl wi)), (wb, .inl (tc 1, 520, .inl wq))] H := hP
      have hD : va_D A [(h0, .inr (6, [.ref to, .ref fo, .int (fcn), .ref le, .ref tr, .ref po, .ref sy, .ref so, .ref pt, .ref sk])), (le, .inr (2, [.ref la, .ref lb])), (la, .inl (tc 0, 16, .inl lx.1)), (lb, .inl (tc 0, 16, .inl lx.2)), (sy, .inl (tc 0, 48, .inl (ysB tc4 4 lx wi wq fr ys b))), (so, .inl (tc 0, 240, .inl (sfB tc4 48 4 lx wi wq fr ys sf b))), (po, .inr (2, [.ref pa, .ref pb])), (pa, .inl (tc 0, 16, .inl ((pxA wi wq ((fr + (b * 20)) + 4)).1))), (pb, .inl (tc 0, 16, .inl ((pxA wi wq ((fr + (b * 20)) + 4)).2))), (wv, .inr (1, [.ref wa, .ref wb, .int (nI wc)])), (wa, .inl (tc 1, 520, .inl wi)), (wb, .inl (tc 1, 520, .inl wq))] := hD
      refine W.widen (k := 0) (n := 0) (Nat.le_of_ble_eq_true rfl) (Nat.le_of_ble_eq_true rfl) ?_
      refine W.eq (g2 := F0 m 48 ls []) rfl ?_
      refine lv_iconst (v := nI 0) hx hb d_RE_takeSymbols_48 (by decide) ?_
      refine lv_istore (lv' := [(7, .int (nI 0)), (6, .int (nI b)), (5, .int (nI 48)), (0, .ref h0), (1, .ref wv), (2, .int (nI fr)), (3, .int (nI sb)), (4, .int (nI 4))]) hx hb d_RE_takeSymbols_49 hl (by decide) rfl (fun ls hl => ?_)
      refine k_loop (P := fun j : Nat => ∀ (H : Heap) (locs : List Loc) (ls : Array Slot), lv_has ls 8 [(7, .int (nI j)), (6, .int (nI b)), (5, .int (nI 48)), (0, .ref h0), (1, .ref wv), (2, .int (nI fr)), (3, .int (nI sb)), (4, .int (nI 4))] → va_P D classes [(h0, .inr (6, [.ref to, .ref fo, .int (fcn), .ref le, .ref tr, .ref po, .ref sy, .ref so, .ref pt, .ref sk])), (le, .inr (2, [.ref la, .ref lb])), (la, .inl (tc 0, 16, .inl lx.1)), (lb, .inl (tc 0, 16, .inl lx.2)), (sy, .inl (tc 0, 48, .inl (tsJ tc4 4 lx (pxA wi wq (fr + b * 20 + 4)) (ysB tc4 4 lx wi wq fr ys b) j))), (so, .inl (tc 0, 240, .inl (sfB tc4 48 4 lx wi wq fr ys sf b))), (po, .inr (2, [.ref pa, .ref pb])), (pa, .inl (tc 0, 16, .inl ((pxA wi wq ((fr + (b * 20)) + 4)).1))), (pb, .inl (tc 0, 16, .inl ((pxA wi wq ((fr + (b * 20)) + 4)).2))), (wv, .inr (1, [.ref wa, .ref wb, .int (nI wc)])), (wa, .inl (tc 1, 520, .inl wi)), (wb, .inl (tc 1, 520, .inl wq))] H → va_D A [(h0, .inr (6, [.ref to, .ref fo, .int (fcn), .ref le, .ref tr, .ref po, .ref sy, .ref so, .ref pt, .ref sk])), (le, .inr (2, [.ref la, .ref lb])), (la, .inl (tc 0, 16, .inl lx.1)), (lb, .inl (tc 0, 16, .inl lx.2)), (sy, .inl (tc 0, 48, .inl (tsJ tc4 4 lx (pxA wi wq (fr + b * 20 + 4)) (ysB tc4 4 lx wi wq fr ys b) j))), (so, .inl (tc 0, 240, .inl (sfB tc4 48 4 lx wi wq fr ys sf b))), (po, .inr (2, [.ref pa, .ref pb])), (pa, .inl (tc 0, 16, .inl ((pxA wi wq ((fr + (b * 20)) + 4)).1))), (pb, .inl (tc 0, 16, .inl ((pxA wi wq ((fr + (b * 20)) + 4)).2))), (wv, .inr (1, [.ref wa, .ref wb, .int (nI wc)])), (wa, .inl (tc 1, 520, .inl wi)), (wb, .inl (tc 1, 520, .inl wq))] → va_S A s.heap H locs → W p l e R s m args below meth c H locs 0 0 Q (F0 m 51 ls [])) (12) (fun j hk_j ih_j  H locs ls hl hP hD hS => ?_) (0) (by omega)   H locs ls (lv_sub hl [0, 1, 2, 3, 4, 5, 6, 7] rfl) (by rw [tsJ_0]; exact hP) (k_Ds hD [0, 1, 2, 3, 4, 5, 6, 7, 8, 9, 10, 11] (by decide) rfl) hS
      refine lv_iload hx hb d_RE_takeSymbols_51 (lv_at hl 0 rfl) ?_
      refine lv_bipush (v := nI 12) hx hb d_RE_takeSymbols_53 (by decide) ?_
      refine k_icmp_ge (tgt := 81) hx hb d_RE_takeSymbols_55 (by decide) (by omega) (by omega) (fun h55 => ?_) (fun h55 => ?_)
      · obtain rfl : 12 = j := by omega
        refine lv_iconst (v := nI 0) hx hb d_RE_takeSymbols_81 (by decide) ?_
        refine lv_istore (lv' := [(7, .int (nI 0)), (6, .int (nI b)), (5, .int (nI 48)), (0, .ref h0), (1, .ref wv), (2, .int (nI fr)), (3, .int (nI sb)), (4, .int (nI 4))]) hx hb d_RE_takeSymbols_82 hl (by decide) rfl (fun ls hl => ?_)
        refine k_loop (P := fun k : Nat => ∀ (H : Heap) (locs : List Loc) (ls : Array Slot), lv_has ls 8 [(7, .int (nI k)), (6, .int (nI b)), (5, .int (nI 48)), (0, .ref h0), (1, .ref wv), (2, .int (nI fr)), (3, .int (nI sb)), (4, .int (nI 4))] → va_P D classes [(h0, .inr (6, [.ref to, .ref fo, .int (fcn), .ref le, .ref tr, .ref po, .ref sy, .ref so, .ref pt, .ref sk])), (le, .inr (2, [.ref la, .ref lb])), (la, .inl (tc 0, 16, .inl lx.1)), (lb, .inl (tc 0, 16, .inl lx.2)), (sy, .inl (tc 0, 48, .inl (tsJ tc4 4 lx (pxA wi wq (fr + b * 20 + 4)) (ysB tc4 4 lx wi wq fr ys b) 12))), (so, .inl (tc 0, 240, .inl (soK 48 4 b (tsJ tc4 4 lx (pxA wi wq (fr + b * 20 + 4)) (ysB tc4 4 lx wi wq fr ys b) 12) (sfB tc4 48 4 lx wi wq fr ys sf b) k))), (po, .inr (2, [.ref pa, .ref pb])), (pa, .inl (tc 0, 16, .inl ((pxA wi wq ((fr + (b * 20)) + 4)).1))), (pb, .inl (tc 0, 16, .inl ((pxA wi wq ((fr + (b * 20)) + 4)).2))), (wv, .inr (1, [.ref wa, .ref wb, .int (nI wc)])), (wa, .inl (tc 1, 520, .inl wi)), (wb, .inl (tc 1, 520, .inl wq))] H → va_D A [(h0, .inr (6, [.ref to, .ref fo, .int (fcn), .ref le, .ref tr, .ref po, .ref sy, .ref so, .ref pt, .ref sk])), (le, .inr (2, [.ref la, .ref lb])), (la, .inl (tc 0, 16, .inl lx.1)), (lb, .inl (tc 0, 16, .inl lx.2)), (sy, .inl (tc 0, 48, .inl (tsJ tc4 4 lx (pxA wi wq (fr + b * 20 + 4)) (ysB tc4 4 lx wi wq fr ys b) 12))), (so, .inl (tc 0, 240, .inl (soK 48 4 b (tsJ tc4 4 lx (pxA wi wq (fr + b * 20 + 4)) (ysB tc4 4 lx wi wq fr ys b) 12) (sfB tc4 48 4 lx wi wq fr ys sf b) k))), (po, .inr (2, [.ref pa, .ref pb])), (pa, .inl (tc 0, 16, .inl ((pxA wi wq ((fr + (b * 20)) + 4)).1))), (pb, .inl (tc 0, 16, .inl ((pxA wi wq ((fr + (b * 20)) + 4)).2))), (wv, .inr (1, [.ref wa, .ref wb, .int (nI wc)])), (wa, .inl (tc 1, 520, .inl wi)), (wb, .inl (tc 1, 520, .inl wq))] → va_S A s.heap H locs → W p l e R s m args below meth c H locs 0 0 Q (F0 m 84 ls [])) (48) (fun k hk_k ih_k  H locs ls hl hP hD hS => ?_) (0) (by omega)   H locs ls (lv_sub hl [0, 1, 2, 3, 4, 5, 6, 7] rfl) (by rw [soK_0]; exact hP) (k_Ds hD [0, 1, 2, 3, 4, 5, 6, 7, 8, 9, 10, 11] (by decide) rfl) hS
        refine lv_iload hx hb d_RE_takeSymbols_84 (lv_at hl 0 rfl) ?_
        refine lv_iload hx hb d_RE_takeSymbols_86 (lv_at hl 2 rfl) ?_
        refine k_icmp_ge (tgt := 122) hx hb d_RE_takeSymbols_88 (by decide) (by omega) (by omega) (fun h88 => ?_) (fun h88 => ?_)
        · obtain rfl : 48 = k := by omega
          refine lv_iinc (k := 1) (v := nI (b + 1)) (lv' := [(6, .int (nI (b + 1))), (7, .int (nI 48)), (5, .int (nI 48)), (0, .ref h0), (1, .ref wv), (2, .int (nI fr)), (3, .int (nI sb)), (4, .int (nI 4))]) hx hb d_RE_takeSymbols_122 hl rfl (k_incN _ 1) (by decide) rfl (fun ls hl => ?_)
          refine lv_goto (tgt := 10) hx hb d_RE_takeSymbols_125 (by decide) ?_
          exact ih_b (by omega)   H locs ls (lv_sub hl [0, 2, 3, 4, 5, 6, 7] rfl) (by have hP := k_sub hP (is := [0, 1, 2, 3, 6, 7, 8, 4, 5, 9, 10, 11]) (w := [(h0, .inr (6, [.ref to, .ref fo, .int (fcn), .ref le, .ref tr, .ref po, .ref sy, .ref so, .ref pt, .ref sk])), (le, .inr (2, [.ref la, .ref lb])), (la, .inl (tc 0, 16, .inl lx.1)), (lb, .inl (tc 0, 16, .inl lx.2)), (po, .inr (2, [.ref pa, .ref pb])), (pa, .inl (tc 0, 16, .inl ((pxA wi wq ((fr + (b * 20)) + 4)).1))), (pb, .inl (tc 0, 16, .inl ((pxA wi wq ((fr + (b * 20)) + 4)).2))), (sy, .inl (tc 0, 48, .inl (tsJ tc4 4 lx (pxA wi wq (fr + b * 20 + 4)) (ysB tc4 4 lx wi wq fr ys b) 12))), (so, .inl (tc 0, 240, .inl (soK 48 4 b (tsJ tc4 4 lx (pxA wi wq (fr + b * 20 + 4)) (ysB tc4 4 lx wi wq fr ys b) 12) (sfB tc4 48 4 lx wi wq fr ys sf b) 48))), (wv, .inr (1, [.ref wa, .ref wb, .int (nI wc)])), (wa, .inl (tc 1, 520, .inl wi)), (wb, .inl (tc 1, 520, .inl wq))]) rfl; rw [pxB_s, ysB_s, sfB_s]; exact hP) (k_Ds hD [0, 1, 2, 3, 6, 7, 8, 4, 5, 9, 10, 11] (by decide) rfl) hS
        · have hpl := place4 k h88
          refine lv_aload_n hx hb d_RE_takeSymbols_91 rfl (lv_at hl 3 rfl) ?_
          refine k_get hx hb hw uw_RE hown hK hP 0 rfl rfl 7 (by decide) (hw _ wd_227) rfl d_RE_takeSymbols_92 ?_
          refine lv_iload hx hb d_RE_takeSymbols_95 (lv_at hl 1 rfl) ?_
          refine lv_iload hx hb d_RE_takeSymbols_97 (lv_at hl 2 rfl) ?_
          refine k_imul hx hb d_RE_takeSymbols_99 ?_
          refine lv_iload hx hb d_RE_takeSymbols_100 (lv_at hl 0 rfl) ?_
          refine k_iadd hx hb d_RE_takeSymbols_102 ?_
          refine lv_aload_n hx hb d_RE_takeSymbols_103 rfl (lv_at hl 3 rfl) ?_
          refine k_get hx hb hw uw_RE hown hK hP 0 rfl rfl 6 (by decide) (hw _ wd_226) rfl d_RE_takeSymbols_104 ?_
          refine lv_iload hx hb d_RE_takeSymbols_107 (lv_at hl 0 rfl) ?_
          refine lv_iload hx hb d_RE_takeSymbols_109 (lv_at hl 7 rfl) ?_
          refine k_calli (wr := [(h0, .inr (6, [.ref to, .ref fo, .int (fcn), .ref le, .ref tr, .ref po, .ref sy, .ref so, .ref pt, .ref sk])), (le, .inr (2, [.ref la, .ref lb])), (la, .inl (tc 0, 16, .inl lx.1)), (lb, .inl (tc 0, 16, .inl lx.2)), (sy, .inl (tc 0, 48, .inl (tsJ tc4 4 lx (pxA wi wq (fr + b * 20 + 4)) (ysB tc4 4 lx wi wq fr ys b) 12))), (so, .inl (tc 0, 240, .inl (soK 48 4 b (tsJ tc4 4 lx (pxA wi wq (fr + b * 20 + 4)) (ysB tc4 4 lx wi wq fr ys b) 12) (sfB tc4 48 4 lx wi wq fr ys sf b) k))), (po, .inr (2, [.ref pa, .ref pb])), (pa, .inl (tc 0, 16, .inl ((pxA wi wq ((fr + (b * 20)) + 4)).1))), (pb, .inl (tc 0, 16, .inl ((pxA wi wq ((fr + (b * 20)) + 4)).2))), (wv, .inr (1, [.ref wa, .ref wb, .int (nI wc)])), (wa, .inl (tc 1, 520, .inl wi)), (wb, .inl (tc 1, 520, .inl wq))]) (k_runSN (As := [.int (nI k), .int (nI 4)]) (rest := [.ref sy, .int (nI ((b * 48) + k)), .ref so]) (wc := []) ⟨hx, hb, hml, hown, hts⟩ (c_CL_placeOf_4 l D tc tb k (by omega) H.size) ⟨va_cnB 2 hts (k_good wd_503) rfl rfl rfl (hN _ wd_643) (hw _ wd_1) hd_CL_placeOf ⟨by rw [hR]; exact Nat.le_of_ble_eq_true rfl, by rw [hR]; exact Nat.le_of_ble_eq_true rfl⟩, hw _ wd_502, trivial⟩ hK hP hD hS hST hN hA [] (by decide) rfl rfl hl.1 rfl (Nat.le_of_ble_eq_true rfl) d_RE_takeSymbols_111 ⟨by rw [hR]; exact Nat.le_of_ble_eq_true rfl, by rw [hR]; exact Nat.le_of_ble_eq_true rfl⟩) hP hD hS hA [] [0, 1, 2, 3, 4, 5, 6, 7, 8, 9, 10, 11] rfl rfl (by decide) (by decide) (fun _ H locs hp111 hP hD hS => ?_)
          have hP : va_P D classes [(h0, .inr (6, [.ref to, .ref fo, .int (fcn), .ref le, .ref tr, .ref po, .ref sy, .ref so, .ref pt, .ref sk])), (le, .inr (2, [.ref la, .ref lb])), (la, .inl (tc 0, 16, .inl lx.1)), (lb, .inl (tc 0, 16, .inl lx.2)), (sy, .inl (tc 0, 48, .inl (tsJ tc4 4 lx (pxA wi wq (fr + b * 20 + 4)) (ysB tc4 4 lx wi wq fr ys b) 12))), (so, .inl (tc 0, 240, .inl (soK 48 4 b (tsJ tc4 4 lx (pxA wi wq (fr + b * 20 + 4)) (ysB tc4 4 lx wi wq fr ys b) 12) (sfB tc4 48 4 lx wi wq fr ys sf b) k))), (po, .inr (2, [.ref pa, .ref pb])), (pa, .inl (tc 0, 16, .inl ((pxA wi wq ((fr + (b * 20)) + 4)).1))), (pb, .inl (tc 0, 16, .inl ((pxA wi wq ((fr + (b * 20)) + 4)).2))), (wv, .inr (1, [.ref wa, .ref wb, .int (nI wc)])), (wa, .inl (tc 1, 520, .inl wi)), (wb, .inl (tc 1, 520, .inl wq))] H := hP
          have hD : va_D A [(h0, .inr (6, [.ref to, .ref fo, .int (fcn), .ref le, .ref tr, .ref po, .ref sy, .ref so, .ref pt, .ref sk])), (le, .inr (2, [.ref la, .ref lb])), (la, .inl (tc 0, 16, .inl lx.1)), (lb, .inl (tc 0, 16, .inl lx.2)), (sy, .inl (tc 0, 48, .inl (tsJ tc4 4 lx (pxA wi wq (fr + b * 20 + 4)) (ysB tc4 4 lx wi wq fr ys b) 12))), (so, .inl (tc 0, 240, .inl (soK 48 4 b (tsJ tc4 4 lx (pxA wi wq (fr + b * 20 + 4)) (ysB tc4 4 lx wi wq fr ys b) 12) (sfB tc4 48 4 lx wi wq fr ys sf b) k))), (po, .inr (2, [.ref pa, .ref pb])), (pa, .inl (tc 0, 16, .inl ((pxA wi wq ((fr + (b * 20)) + 4)).1))), (pb, .inl (tc 0, 16, .inl ((pxA wi wq ((fr + (b * 20)) + 4)).2))), (wv, .inr (1, [.ref wa, .ref wb, .int (nI wc)])), (wa, .inl (tc 1, 520, .inl wi)), (wb, .inl (tc 1, 520, .inl wq))] := hD
          refine W.widen (k := 0) (n := 0) (Nat.le_of_ble_eq_true rfl) (Nat.le_of_ble_eq_true rfl) ?_
          refine W.eq (g2 := F0 m 114 ls [.int (nI (placeN k 4)), .ref sy, .int (nI ((b * 48) + k)), .ref so]) rfl ?_
          refine k_iald hx hb hK hP 4 0 rfl rfl (by omega) (by omega) d_RE_takeSymbols_114 ?_
          refine k_iast (ws' := [(h0, .inr (6, [.ref to, .ref fo, .int (fcn), .ref le, .ref tr, .ref po, .ref sy, .ref so, .ref pt, .ref sk])), (le, .inr (2, [.ref la, .ref lb])), (la, .inl (tc 0, 16, .inl lx.1)), (lb, .inl (tc 0, 16, .inl lx.2)), (sy, .inl (tc 0, 48, .inl (tsJ tc4 4 lx (pxA wi wq (fr + b * 20 + 4)) (ysB tc4 4 lx wi wq fr ys b) 12))), (so, .inl (tc 0, 240, .inl (upd (soK 48 4 b (tsJ tc4 4 lx (pxA wi wq (fr + b * 20 + 4)) (ysB tc4 4 lx wi wq fr ys b) 12) (sfB tc4 48 4 lx wi wq fr ys sf b) k) ((b * 48) + k) ((tsJ tc4 4 lx (pxA wi wq (fr + b * 20 + 4)) (ysB tc4 4 lx wi wq fr ys b) 12) (placeN k 4))))), (po, .inr (2, [.ref pa, .ref pb])), (pa, .inl (tc 0, 16, .inl ((pxA wi wq ((fr + (b * 20)) + 4)).1))), (pb, .inl (tc 0, 16, .inl ((pxA wi wq ((fr + (b * 20)) + 4)).2))), (wv, .inr (1, [.ref wa, .ref wb, .int (nI wc)])), (wa, .inl (tc 1, 520, .inl wi)), (wb, .inl (tc 1, 520, .inl wq))]) hx hb hK hP hD hS 5 0 rfl rfl (by omega) (by omega) d_RE_takeSymbols_115 rfl (fun H locs hP hD hS => ?_)
          refine lv_iinc (k := 0) (v := nI (k + 1)) (lv' := [(7, .int (nI (k + 1))), (6, .int (nI b)), (5, .int (nI 48)), (0, .ref h0), (1, .ref wv), (2, .int (nI fr)), (3, .int (nI sb)), (4, .int (nI 4))]) hx hb d_RE_takeSymbols_116 hl rfl (k_incN _ 1) (by decide) rfl (fun ls hl => ?_)
          refine lv_goto (tgt := 84) hx hb d_RE_takeSymbols_119 (by decide) ?_
          exact ih_k (by omega)   H locs ls (lv_sub hl [0, 1, 2, 3, 4, 5, 6, 7] rfl) (by rw [soK_s]; exact hP) (k_Ds hD [0, 1, 2, 3, 4, 5, 6, 7, 8, 9, 10, 11] (by decide) rfl) hS
      · have hcd := cod_lt j h55
        refine lv_aload_n hx hb d_RE_takeSymbols_58 rfl (lv_at hl 3 rfl) ?_
        refine k_tabN hx hb hST hS 2 rfl hown (va_Nw.use rfl (hN _ wd_623)) d_RE_takeSymbols_59 ?_
        refine lv_iload hx hb d_RE_takeSymbols_62 (lv_at hl 0 rfl) ?_
        refine k_tald hx hb hST hS 2 rfl (by omega) (by omega) d_RE_takeSymbols_64 ?_
        refine lv_iload hx hb d_RE_takeSymbols_65 (lv_at hl 7 rfl) ?_
        refine lv_iload hx hb d_RE_takeSymbols_67 (lv_at hl 0 rfl) ?_
        refine k_imul hx hb d_RE_takeSymbols_69 ?_
        refine lv_iload hx hb d_RE_takeSymbols_70 (lv_at hl 7 rfl) ?_
        refine k_callv (wr := [(so, .inl (tc 0, 240, .inl (sfB tc4 48 4 lx wi wq fr ys sf b))), (wv, .inr (1, [.ref wa, .ref wb, .int (nI wc)])), (wa, .inl (tc 1, 520, .inl wi)), (wb, .inl (tc 1, 520, .inl wq))]) (k_runV (As := [.int (nI (codN j)), .int (nI (4 * j)), .int (nI 4)]) (rest := []) (wc := [(h0, .inr (6, [.ref to, .ref fo, .int (fcn), .ref le, .ref tr, .ref po, .ref sy, .ref so, .ref pt, .ref sk])), (le, .inr (2, [.ref la, .ref lb])), (la, .inl (tc 0, 16, .inl lx.1)), (lb, .inl (tc 0, 16, .inl lx.2)), (po, .inr (2, [.ref pa, .ref pb])), (pa, .inl (tc 0, 16, .inl ((pxA wi wq ((fr + (b * 20)) + 4)).1))), (pb, .inl (tc 0, 16, .inl ((pxA wi wq ((fr + (b * 20)) + 4)).2))), (sy, .inl (tc 0, 48, .inl (tsJ tc4 4 lx (pxA wi wq (fr + b * 20 + 4)) (ysB tc4 4 lx wi wq fr ys b) j)))]) ⟨hx, hb, hml, hown, hts⟩ (c_RE_takeCarrier_4 l D tc tb h0 to fo le tr po sy so pt sk fcn la lb lx pa pb (pxA wi wq ((fr + (b * 20)) + 4)) (tsJ tc4 4 lx (pxA wi wq (fr + b * 20 + 4)) (ysB tc4 4 lx wi wq fr ys b) j) (codN j) (4 * j) (by omega) (by omega) H.size) (cwV 3 hts (k_goodV wd_624 wd_626 wd_m21 wd_7 wd_627) rfl rfl rfl ⟨rfl, hd_RE_takeCarrier⟩ ⟨by rw [hR]; exact Nat.le_of_ble_eq_true rfl, by rw [hR]; exact Nat.le_of_ble_eq_true rfl⟩) hK hP hD hS hST hN hA [0, 1, 2, 3, 6, 7, 8, 4] (by decide) rfl 0 rfl rfl rfl rfl hl.1 rfl (Nat.le_of_ble_eq_true rfl) d_RE_takeSymbols_72 ⟨by rw [hR]; exact Nat.le_of_ble_eq_true rfl, by rw [hR]; exact Nat.le_of_ble_eq_true rfl⟩) hP hD hS hA [0, 1, 2, 3, 6, 7, 8, 4] [5, 9, 10, 11] rfl rfl (by decide) (by decide) (fun _ H locs hp72 hP hD hS => ?_)
        have hP : va_P D classes [(so, .inl (tc 0, 240, .inl (sfB tc4 48 4 lx wi wq fr ys sf b))), (wv, .inr (1, [.ref wa, .ref wb, .int (nI wc)])), (wa, .inl (tc 1, 520, .inl wi)), (wb, .inl (tc 1, 520, .inl wq)), (h0, .inr (6, [.ref to, .ref fo, .int (fcn), .ref le, .ref tr, .ref po, .ref sy, .ref so, .ref pt, .ref sk])), (le, .inr (2, [.ref la, .ref lb])), (la, .inl (tc 0, 16, .inl lx.1)), (lb, .inl (tc 0, 16, .inl lx.2)), (po, .inr (2, [.ref pa, .ref pb])), (pa, .inl (tc 0, 16, .inl ((pxA wi wq ((fr + (b * 20)) + 4)).1))), (pb, .inl (tc 0, 16, .inl ((pxA wi wq ((fr + (b * 20)) + 4)).2))), (sy, .inl (tc 0, 48, .inl (tc4 lx (pxA wi wq ((fr + (b * 20)) + 4)) (codN j) (4 * j) (tsJ tc4 4 lx (pxA wi wq (fr + b * 20 + 4)) (ysB tc4 4 lx wi wq fr ys b) j))))] H := hP
        have hD : va_D A [(so, .inl (tc 0, 240, .inl (sfB tc4 48 4 lx wi wq fr ys sf b))), (wv, .inr (1, [.ref wa, .ref wb, .int (nI wc)])), (wa, .inl (tc 1, 520, .inl wi)), (wb, .inl (tc 1, 520, .inl wq)), (h0, .inr (6, [.ref to, .ref fo, .int (fcn), .ref le, .ref tr, .ref po, .ref sy, .ref so, .ref pt, .ref sk])), (le, .inr (2, [.ref la, .ref lb])), (la, .inl (tc 0, 16, .inl lx.1)), (lb, .inl (tc 0, 16, .inl lx.2)), (po, .inr (2, [.ref pa, .ref pb])), (pa, .inl (tc 0, 16, .inl ((pxA wi wq ((fr + (b * 20)) + 4)).1))), (pb, .inl (tc 0, 16, .inl ((pxA wi wq ((fr + (b * 20)) + 4)).2))), (sy, .inl (tc 0, 48, .inl (tc4 lx (pxA wi wq ((fr + (b * 20)) + 4)) (codN j) (4 * j) (tsJ tc4 4 lx (pxA wi wq (fr + b * 20 + 4)) (ysB tc4 4 lx wi wq fr ys b) j))))] := hD
        refine W.widen (k := 0) (n := 0) (Nat.le_of_ble_eq_true rfl) (Nat.le_of_ble_eq_true rfl) ?_
        refine W.eq (g2 := F0 m 75 ls []) rfl ?_
        refine lv_iinc (k := 0) (v := nI (j + 1)) (lv' := [(7, .int (nI (j + 1))), (6, .int (nI b)), (5, .int (nI 48)), (0, .ref h0), (1, .ref wv), (2, .int (nI fr)), (3, .int (nI sb)), (4, .int (nI 4))]) hx hb d_RE_takeSymbols_75 hl rfl (k_incN _ 1) (by decide) rfl (fun ls hl => ?_)
        refine lv_goto (tgt := 51) hx hb d_RE_takeSymbols_78 (by decide) ?_
        exact ih_j (by omega)   H locs ls (lv_sub hl [0, 1, 2, 3, 4, 5, 6, 7] rfl) (by have hP := k_sub hP (is := [4, 5, 6, 7, 11, 0, 8, 9, 10, 1, 2, 3]) (w := [(h0, .inr (6, [.ref to, .ref fo, .int (fcn), .ref le, .ref tr, .ref po, .ref sy, .ref so, .ref pt, .ref sk])), (le, .inr (2, [.ref la, .ref lb])), (la, .inl (tc 0, 16, .inl lx.1)), (lb, .inl (tc 0, 16, .inl lx.2)), (sy, .inl (tc 0, 48, .inl (tc4 lx (pxA wi wq ((fr + (b * 20)) + 4)) (codN j) (4 * j) (tsJ tc4 4 lx (pxA wi wq (fr + b * 20 + 4)) (ysB tc4 4 lx wi wq fr ys b) j)))), (so, .inl (tc 0, 240, .inl (sfB tc4 48 4 lx wi wq fr ys sf b))), (po, .inr (2, [.ref pa, .ref pb])), (pa, .inl (tc 0, 16, .inl ((pxA wi wq ((fr + (b * 20)) + 4)).1))), (pb, .inl (tc 0, 16, .inl ((pxA wi wq ((fr + (b * 20)) + 4)).2))), (wv, .inr (1, [.ref wa, .ref wb, .int (nI wc)])), (wa, .inl (tc 1, 520, .inl wi)), (wb, .inl (tc 1, 520, .inl wq))]) rfl; rw [tsJ_s]; exact hP) (k_Ds hD [4, 5, 6, 7, 11, 0, 8, 9, 10, 1, 2, 3] (by decide) rfl) hS
set_option maxHeartbeats 4000000 in
set_option maxRecDepth 100000 in
theorem c_RE_learnCarriers (l : Launch) (D : va_G) (tc : Nat → ClassId) (tb : Nat → Nat) (h0 : Nat) (to : Nat) (fo : Nat) (le : Nat) (tr : Nat) (po : Nat) (sy : Nat) (so : Nat) (pt : Nat) (sk : Nat) (fcn : Int32) (la : Nat) (lb : Nat) (lx : RP) (pa : Nat) (pb : Nat) (px : RP) (wv : Nat) (wa : Nat) (wb : Nat) (wc : Nat) (wi : Nat → Int32) (wq : Nat → Int32) (d0 : Nat) (hd0 : d0 + 40 ≤ 520) : Mv l D tc tb y_RE_learnCarriers prog_5_method_6_code 5 none ({ frames := 3, cells := 0, slots := 0, locals := 84 }) [.ref h0, .ref wv, .int (nI d0)] [(h0, .inr (6, [.ref to, .ref fo, .int (fcn), .ref le, .ref tr, .ref po, .ref sy, .ref so, .ref pt, .ref sk])), (le, .inr (2, [.ref la, .ref lb])), (la, .inl (tc 0, 16, .inl lx.1)), (lb, .inl (tc 0, 16, .inl lx.2)), (po, .inr (2, [.ref pa, .ref pb])), (pa, .inl (tc 0, 16, .inl px.1)), (pb, .inl (tc 0, 16, .inl px.2)), (wv, .inr (1, [.ref wa, .ref wb, .int (nI wc)])), (wa, .inl (tc 1, 520, .inl wi)), (wb, .inl (tc 1, 520, .inl wq))] (fun _ : Unit => True) (fun _ : Unit => [(h0, .inr (6, [.ref to, .ref fo, .int (fcn), .ref le, .ref tr, .ref po, .ref sy, .ref so, .ref pt, .ref sk])), (le, .inr (2, [.ref la, .ref lb])), (la, .inl (tc 0, 16, .inl ((lnP (lnP lx (pxA wi wq (d0 + 8 + 0))) (pxA wi wq (d0 + 8 + 16))).1))), (lb, .inl (tc 0, 16, .inl ((lnP (lnP lx (pxA wi wq (d0 + 8 + 0))) (pxA wi wq (d0 + 8 + 16))).2))), (po, .inr (2, [.ref pa, .ref pb])), (pa, .inl (tc 0, 16, .inl ((pxA wi wq (d0 + 8 + 16)).1))), (pb, .inl (tc 0, 16, .inl ((pxA wi wq (d0 + 8 + 16)).2))), (wv, .inr (1, [.ref wa, .ref wb, .int (nI wc)])), (wa, .inl (tc 1, 520, .inl wi)), (wb, .inl (tc 1, 520, .inl wq))]) := by
  refine Mv.go (by decide) (Nat.le_of_ble_eq_true rfl) ?_
  intro p e s m below meth c A ls R args Q C
  obtain ⟨hx, hb, hr, hts, hown, hlk, hml, hin, hA, hST, hN, hK, hP, hD, hS, hl, hR, hQ⟩ := C
  have hw : ∀ w ∈ lw_g, w.before args s = true := fun w h => hts w (List.mem_cons_of_mem _ h)
  have hl : lv_has ls 5 [(0, .ref h0), (1, .ref wv), (2, .int (nI d0))] := hl
  refine lv_iconst (v := nI 0) hx hb d_RE_learnCarriers_0 (by decide) ?_
  refine lv_istore_n (lv' := [(3, .int (nI 0)), (0, .ref h0), (1, .ref wv), (2, .int (nI d0))]) hx hb d_RE_learnCarriers_1 rfl hl (by decide) rfl (fun ls hl => ?_)
  refine lv_iload_n hx hb d_RE_learnCarriers_2 rfl (lv_at hl 0 rfl) ?_
  refine lv_iconst (v := nI 2) hx hb d_RE_learnCarriers_3 (by decide) ?_
  refine k_icmp_ge (tgt := 106) hx hb d_RE_learnCarriers_4 (by decide) (by omega) (by omega) (fun h4 => ?_) (fun h4 => ?_)
  · exfalso; omega
  · refine lv_aload_n hx hb d_RE_learnCarriers_7 rfl (lv_at hl 1 rfl) ?_
    refine k_get hx hb hw uw_RE hown hK hP 0 rfl rfl 5 (by decide) (hw _ wd_225) rfl d_RE_learnCarriers_8 ?_
    refine lv_aload_n hx hb d_RE_learnCarriers_11 rfl (lv_at hl 2 rfl) ?_
    refine lv_iload_n hx hb d_RE_learnCarriers_12 rfl (lv_at hl 3 rfl) ?_
    refine lv_bipush (v := nI 8) hx hb d_RE_learnCarriers_13 (by decide) ?_
    refine k_iadd hx hb d_RE_learnCarriers_15 ?_
    refine lv_iload_n hx hb d_RE_learnCarriers_16 rfl (lv_at hl 0 rfl) ?_
    refine lv_bipush (v := nI 16) hx hb d_RE_learnCarriers_17 (by decide) ?_
    refine k_imul hx hb d_RE_learnCarriers_19 ?_
    refine k_iadd hx hb d_RE_learnCarriers_20 ?_
    refine k_callv (wr := [(h0, .inr (6, [.ref to, .ref fo, .int (fcn), .ref le, .ref tr, .ref po, .ref sy, .ref so, .ref pt, .ref sk])), (le, .inr (2, [.ref la, .ref lb])), (la, .inl (tc 0, 16, .inl lx.1)), (lb, .inl (tc 0, 16, .inl lx.2))]) (k_runV (As := [.ref wv, .int (nI ((d0 + 8) + 0))]) (rest := []) (wc := [(po, .inr (2, [.ref pa, .ref pb])), (pa, .inl (tc 0, 16, .inl px.1)), (pb, .inl (tc 0, 16, .inl px.2)), (wv, .inr (1, [.ref wa, .ref wb, .int (nI wc)])), (wa, .inl (tc 1, 520, .inl wi)), (wb, .inl (tc 1, 520, .inl wq))]) ⟨hx, hb, hml, hown, hts⟩ (c_PO_takeCarriers l D tc tb po pa pb px.1 px.2 wv wa wb wc wi wq ((d0 + 8) + 0) (by omega) s.heap.size) (cwV 2 hts (k_goodV wd_614 wd_615 wd_616 wd_3 wd_617) rfl rfl rfl ⟨rfl, hd_PO_takeCarriers⟩ ⟨by rw [hR]; exact Nat.le_of_ble_eq_true rfl, by rw [hR]; exact Nat.le_of_ble_eq_true rfl⟩) hK hP hD hS hST hN hA [4, 5, 6, 7, 8, 9] (by decide) rfl 4 rfl rfl rfl rfl hl.1 rfl (Nat.le_of_ble_eq_true rfl) d_RE_learnCarriers_21 ⟨by rw [hR]; exact Nat.le_of_ble_eq_true rfl, by rw [hR]; exact Nat.le_of_ble_eq_true rfl⟩) hP hD hS hA [4, 5, 6, 7, 8, 9] [0, 1, 2, 3] rfl rfl (by decide) (by decide) (fun _ H locs hp21 hP hD hS => ?_)
    have hP : va_P D classes [(h0, .inr (6, [.ref to, .ref fo, .int (fcn), .ref le, .ref tr, .ref po, .ref sy, .ref so, .ref pt, .ref sk])), (le, .inr (2, [.ref la, .ref lb])), (la, .inl (tc 0, 16, .inl lx.1)), (lb, .inl (tc 0, 16, .inl lx.2)), (po, .inr (2, [.ref pa, .ref pb])), (pa, .inl (tc 0, 16, .inl ((pxA wi wq ((d0 + 8) + 0)).1))), (pb, .inl (tc 0, 16, .inl ((pxA wi wq ((d0 + 8) + 0)).2))), (wv, .inr (1, [.ref wa, .ref wb, .int (nI wc)])), (wa, .inl (tc 1, 520, .inl wi)), (wb, .inl (tc 1, 520, .inl wq))] H := hP
    have hD : va_D A [(h0, .inr (6, [.ref to, .ref fo, .int (fcn), .ref le, .ref tr, .ref po, .ref sy, .ref so, .ref pt, .ref sk])), (le, .inr (2, [.ref la, .ref lb])), (la, .inl (tc 0, 16, .inl lx.1)), (lb, .inl (tc 0, 16, .inl lx.2)), (po, .inr (2, [.ref pa, .ref pb])), (pa, .inl (tc 0, 16, .inl ((pxA wi wq ((d0 + 8) + 0)).1))), (pb, .inl (tc 0, 16, .inl ((pxA wi wq ((d0 + 8) + 0)).2))), (wv, .inr (1, [.ref wa, .ref wb, .int (nI wc)])), (wa, .inl (tc 1, 520, .inl wi)), (wb, .inl (tc 1, 520, .inl wq))] := hD
    refine W.widen (k := 0) (n := 0) (Nat.le_of_ble_eq_true rfl) (Nat.le_of_ble_eq_true rfl) ?_
    refine W.eq (g2 := F0 m 24 ls []) rfl ?_
    refine lv_iconst (v := nI 0) hx hb d_RE_learnCarriers_24 (by decide) ?_
    refine lv_istore (lv' := [(4, .int (nI 0)), (3, .int (nI 0)), (0, .ref h0), (1, .ref wv), (2, .int (nI d0))]) hx hb d_RE_learnCarriers_25 hl (by decide) rfl (fun ls hl => ?_)
    refine k_loop (P := fun k : Nat => ∀ (H : Heap) (locs : List Loc) (ls : Array Slot), lv_has ls 5 [(4, .int (nI k)), (3, .int (nI 0)), (0, .ref h0), (1, .ref wv), (2, .int (nI d0))] → va_P D classes [(h0, .inr (6, [.ref to, .ref fo, .int (fcn), .ref le, .ref tr, .ref po, .ref sy, .ref so, .ref pt, .ref sk])), (le, .inr (2, [.ref la, .ref lb])), (la, .inl (tc 0, 16, .inl (acF (fun c => tsgT c * ((pxA wi wq ((d0 + 8) + 0)).1) c) lx.1 k))), (lb, .inl (tc 0, 16, .inl (acF (fun c => tsgT c * ((pxA wi wq ((d0 + 8) + 0)).2) c) lx.2 k))), (po, .inr (2, [.ref pa, .ref pb])), (pa, .inl (tc 0, 16, .inl ((pxA wi wq ((d0 + 8) + 0)).1))), (pb, .inl (tc 0, 16, .inl ((pxA wi wq ((d0 + 8) + 0)).2))), (wv, .inr (1, [.ref wa, .ref wb, .int (nI wc)])), (wa, .inl (tc 1, 520, .inl wi)), (wb, .inl (tc 1, 520, .inl wq))] H → va_D A [(h0, .inr (6, [.ref to, .ref fo, .int (fcn), .ref le, .ref tr, .ref po, .ref sy, .ref so, .ref pt, .ref sk])), (le, .inr (2, [.ref la, .ref lb])), (la, .inl (tc 0, 16, .inl (acF (fun c => tsgT c * ((pxA wi wq ((d0 + 8) + 0)).1) c) lx.1 k))), (lb, .inl (tc 0, 16, .inl (acF (fun c => tsgT c * ((pxA wi wq ((d0 + 8) + 0)).2) c) lx.2 k))), (po, .inr (2, [.ref pa, .ref pb])), (pa, .inl (tc 0, 16, .inl ((pxA wi wq ((d0 + 8) + 0)).1))), (pb, .inl (tc 0, 16, .inl ((pxA wi wq ((d0 + 8) + 0)).2))), (wv, .inr (1, [.ref wa, .ref wb, .int (nI wc)])), (wa, .inl (tc 1, 520, .inl wi)), (wb, .inl (tc 1, 520, .inl wq))] → va_S A s.heap H locs → W p l e R s m args below meth c H locs 0 0 Q (F0 m 27 ls [])) (16) (fun k hk_k ih_k  H locs ls hl hP hD hS => ?_) (0) (by omega)   H locs ls (lv_sub hl [0, 1, 2, 3, 4] rfl) (by exact hP) (k_Ds hD [0, 1, 2, 3, 4, 5, 6, 7, 8, 9] (by decide) rfl) hS
    refine lv_iload hx hb d_RE_learnCarriers_27 (lv_at hl 0 rfl) ?_
    refine lv_bipush (v := nI 16) hx hb d_RE_learnCarriers_29 (by decide) ?_
    refine k_icmp_ge (tgt := 100) hx hb d_RE_learnCarriers_31 (by decide) (by omega) (by omega) (fun h31 => ?_) (fun h31 => ?_)
    · obtain rfl : 16 = k := by omega
      have hP : va_P D classes [(h0, .inr (6, [.ref to, .ref fo, .int (fcn), .ref le, .ref tr, .ref po, .ref sy, .ref so, .ref pt, .ref sk])), (le, .inr (2, [.ref la, .ref lb])), (la, .inl (tc 0, 16, .inl ((lnP lx (pxA wi wq (d0 + 8 + 0))).1))), (lb, .inl (tc 0, 16, .inl (acF (fun c => tsgT c * ((pxA wi wq ((d0 + 8) + 0)).2) c) lx.2 16))), (po, .inr (2, [.ref pa, .ref pb])), (pa, .inl (tc 0, 16, .inl ((pxA wi wq ((d0 + 8) + 0)).1))), (pb, .inl (tc 0, 16, .inl ((pxA wi wq ((d0 + 8) + 0)).2))), (wv, .inr (1, [.ref wa, .ref wb, .int (nI wc)])), (wa, .inl (tc 1, 520, .inl wi)), (wb, .inl (tc 1, 520, .inl wq))] H := k_rep hP 2 rfl (fun j hj => acF_all _ _ 16 j hj) rfl
      have hD : va_D A [(h0, .inr (6, [.ref to, .ref fo, .int (fcn), .ref le, .ref tr, .ref po, .ref sy, .ref so, .ref pt, .ref sk])), (le, .inr (2, [.ref la, .ref lb])), (la, .inl (tc 0, 16, .inl ((lnP lx (pxA wi wq (d0 + 8 + 0))).1))), (lb, .inl (tc 0, 16, .inl (acF (fun c => tsgT c * ((pxA wi wq ((d0 + 8) + 0)).2) c) lx.2 16))), (po, .inr (2, [.ref pa, .ref pb])), (pa, .inl (tc 0, 16, .inl ((pxA wi wq ((d0 + 8) + 0)).1))), (pb, .inl (tc 0, 16, .inl ((pxA wi wq ((d0 + 8) + 0)).2))), (wv, .inr (1, [.ref wa, .ref wb, .int (nI wc)])), (wa, .inl (tc 1, 520, .inl wi)), (wb, .inl (tc 1, 520, .inl wq))] := k_Ds hD [0, 1, 2, 3, 4, 5, 6, 7, 8, 9] (by decide) rfl
      have hP : va_P D classes [(h0, .inr (6, [.ref to, .ref fo, .int (fcn), .ref le, .ref tr, .ref po, .ref sy, .ref so, .ref pt, .ref sk])), (le, .inr (2, [.ref la, .ref lb])), (la, .inl (tc 0, 16, .inl ((lnP lx (pxA wi wq (d0 + 8 + 0))).1))), (lb, .inl (tc 0, 16, .inl ((lnP lx (pxA wi wq (d0 + 8 + 0))).2))), (po, .inr (2, [.ref pa, .ref pb])), (pa, .inl (tc 0, 16, .inl ((pxA wi wq ((d0 + 8) + 0)).1))), (pb, .inl (tc 0, 16, .inl ((pxA wi wq ((d0 + 8) + 0)).2))), (wv, .inr (1, [.ref wa, .ref wb, .int (nI wc)])), (wa, .inl (tc 1, 520, .inl wi)), (wb, .inl (tc 1, 520, .inl wq))] H := k_rep hP 3 rfl (fun j hj => acF_all _ _ 16 j hj) rfl
      have hD : va_D A [(h0, .inr (6, [.ref to, .ref fo, .int (fcn), .ref le, .ref tr, .ref po, .ref sy, .ref so, .ref pt, .ref sk])), (le, .inr (2, [.ref la, .ref lb])), (la, .inl (tc 0, 16, .inl ((lnP lx (pxA wi wq (d0 + 8 + 0))).1))), (lb, .inl (tc 0, 16, .inl ((lnP lx (pxA wi wq (d0 + 8 + 0))).2))), (po, .inr (2, [.ref pa, .ref pb])), (pa, .inl (tc 0, 16, .inl ((pxA wi wq ((d0 + 8) + 0)).1))), (pb, .inl (tc 0, 16, .inl ((pxA wi wq ((d0 + 8) + 0)).2))), (wv, .inr (1, [.ref wa, .ref wb, .int (nI wc)])), (wa, .inl (tc 1, 520, .inl wi)), (wb, .inl (tc 1, 520, .inl wq))] := k_Ds hD [0, 1, 2, 3, 4, 5, 6, 7, 8, 9] (by decide) rfl
      refine lv_iinc (k := 1) (v := nI 1) (lv' := [(3, .int (nI 1)), (4, .int (nI 16)), (0, .ref h0), (1, .ref wv), (2, .int (nI d0))]) hx hb d_RE_learnCarriers_100 hl rfl (k_incN _ 1) (by decide) rfl (fun ls hl => ?_)
      refine lv_goto (tgt := 2) hx hb d_RE_learnCarriers_103 (by decide) ?_
      refine lv_iload_n hx hb d_RE_learnCarriers_2 rfl (lv_at hl 0 rfl) ?_
      refine lv_iconst (v := nI 2) hx hb d_RE_learnCarriers_3 (by decide) ?_
      refine k_icmp_ge (tgt := 106) hx hb d_RE_learnCarriers_4 (by decide) (by omega) (by omega) (fun h4 => ?_) (fun h4 => ?_)
      · exfalso; omega
      · refine lv_aload_n hx hb d_RE_learnCarriers_7 rfl (lv_at hl 2 rfl) ?_
        refine k_get hx hb hw uw_RE hown hK hP 0 rfl rfl 5 (by decide) (hw _ wd_225) rfl d_RE_learnCarriers_8 ?_
        refine lv_aload_n hx hb d_RE_learnCarriers_11 rfl (lv_at hl 3 rfl) ?_
        refine lv_iload_n hx hb d_RE_learnCarriers_12 rfl (lv_at hl 4 rfl) ?_
        refine lv_bipush (v := nI 8) hx hb d_RE_learnCarriers_13 (by decide) ?_
        refine k_iadd hx hb d_RE_learnCarriers_15 ?_
        refine lv_iload_n hx hb d_RE_learnCarriers_16 rfl (lv_at hl 0 rfl) ?_
        refine lv_bipush (v := nI 16) hx hb d_RE_learnCarriers_17 (by decide) ?_
        refine k_imul hx hb d_RE_learnCarriers_19 ?_
        refine k_iadd hx hb d_RE_learnCarriers_20 ?_
        refine k_callv (wr := [(h0, .inr (6, [.ref to, .ref fo, .int (fcn), .ref le, .ref tr, .ref po, .ref sy, .ref so, .ref pt, .ref sk])), (le, .inr (2, [.ref la, .ref lb])), (la, .inl (tc 0, 16, .inl ((lnP lx (pxA wi wq (d0 + 8 + 0))).1))), (lb, .inl (tc 0, 16, .inl ((lnP lx (pxA wi wq (d0 + 8 + 0))).2)))]) (k_runV (As := [.ref wv, .int (nI ((d0 + 8) + 16))]) (rest := []) (wc := [(po, .inr (2, [.ref pa, .ref pb])), (pa, .inl (tc 0, 16, .inl ((pxA wi wq ((d0 + 8) + 0)).1))), (pb, .inl (tc 0, 16, .inl ((pxA wi wq ((d0 + 8) + 0)).2))), (wv, .inr (1, [.ref wa, .ref wb, .int (nI wc)])), (wa, .inl (tc 1, 520, .inl wi)), (wb, .inl (tc 1, 520, .inl wq))]) ⟨hx, hb, hml, hown, hts⟩ (c_PO_takeCarriers l D tc tb po pa pb ((pxA wi wq ((d0 + 8) + 0)).1) ((pxA wi wq ((d0 + 8) + 0)).2) wv wa wb wc wi wq ((d0 + 8) + 16) (by omega) H.size) (cwV 2 hts (k_goodV wd_614 wd_615 wd_616 wd_3 wd_617) rfl rfl rfl ⟨rfl, hd_PO_takeCarriers⟩ ⟨by rw [hR]; exact Nat.le_of_ble_eq_true rfl, by rw [hR]; exact Nat.le_of_ble_eq_true rfl⟩) hK hP hD hS hST hN hA [4, 5, 6, 7, 8, 9] (by decide) rfl 4 rfl rfl rfl rfl hl.1 rfl (Nat.le_of_ble_eq_true rfl) d_RE_learnCarriers_21 ⟨by rw [hR]; exact Nat.le_of_ble_eq_true rfl, by rw [hR]; exact Nat.le_of_ble_eq_true rfl⟩) hP hD hS hA [4, 5, 6, 7, 8, 9] [0, 1, 2, 3] rfl rfl (by decide) (by decide) (fun _ H locs hp21 hP hD hS => ?_)
        have hP : va_P D classes [(h0, .inr (6, [.ref to, .ref fo, .int (fcn), .ref le, .ref tr, .ref po, .ref sy, .ref so, .ref pt, .ref sk])), (le, .inr (2, [.ref la, .ref lb])), (la, .inl (tc 0, 16, .inl ((lnP lx (pxA wi wq (d0 + 8 + 0))).1))), (lb, .inl (tc 0, 16, .inl ((lnP lx (pxA wi wq (d0 + 8 + 0))).2))), (po, .inr (2, [.ref pa, .ref pb])), (pa, .inl (tc 0, 16, .inl ((pxA wi wq ((d0 + 8) + 16)).1))), (pb, .inl (tc 0, 16, .inl ((pxA wi wq ((d0 + 8) + 16)).2))), (wv, .inr (1, [.ref wa, .ref wb, .int (nI wc)])), (wa, .inl (tc 1, 520, .inl wi)), (wb, .inl (tc 1, 520, .inl wq))] H := hP
        have hD : va_D A [(h0, .inr (6, [.ref to, .ref fo, .int (fcn), .ref le, .ref tr, .ref po, .ref sy, .ref so, .ref pt, .ref sk])), (le, .inr (2, [.ref la, .ref lb])), (la, .inl (tc 0, 16, .inl ((lnP lx (pxA wi wq (d0 + 8 + 0))).1))), (lb, .inl (tc 0, 16, .inl ((lnP lx (pxA wi wq (d0 + 8 + 0))).2))), (po, .inr (2, [.ref pa, .ref pb])), (pa, .inl (tc 0, 16, .inl ((pxA wi wq ((d0 + 8) + 16)).1))), (pb, .inl (tc 0, 16, .inl ((pxA wi wq ((d0 + 8) + 16)).2))), (wv, .inr (1, [.ref wa, .ref wb, .int (nI wc)])), (wa, .inl (tc 1, 520, .inl wi)), (wb, .inl (tc 1, 520, .inl wq))] := hD
        refine W.widen (k := 0) (n := 0) (Nat.le_of_ble_eq_true rfl) (Nat.le_of_ble_eq_true rfl) ?_
        refine W.eq (g2 := F0 m 24 ls []) rfl ?_
        refine lv_iconst (v := nI 0) hx hb d_RE_learnCarriers_24 (by decide) ?_
        refine lv_istore (lv' := [(4, .int (nI 0)), (3, .int (nI 1)), (0, .ref h0), (1, .ref wv), (2, .int (nI d0))]) hx hb d_RE_learnCarriers_25 hl (by decide) rfl (fun ls hl => ?_)
        refine k_loop (P := fun k : Nat => ∀ (H : Heap) (locs : List Loc) (ls : Array Slot), lv_has ls 5 [(4, .int (nI k)), (3, .int (nI 1)), (0, .ref h0), (1, .ref wv), (2, .int (nI d0))] → va_P D classes [(h0, .inr (6, [.ref to, .ref fo, .int (fcn), .ref le, .ref tr, .ref po, .ref sy, .ref so, .ref pt, .ref sk])), (le, .inr (2, [.ref la, .ref lb])), (la, .inl (tc 0, 16, .inl (acF (fun c => tsgT c * ((pxA wi wq ((d0 + 8) + 16)).1) c) ((lnP lx (pxA wi wq (d0 + 8 + 0))).1) k))), (lb, .inl (tc 0, 16, .inl (acF (fun c => tsgT c * ((pxA wi wq ((d0 + 8) + 16)).2) c) ((lnP lx (pxA wi wq (d0 + 8 + 0))).2) k))), (po, .inr (2, [.ref pa, .ref pb])), (pa, .inl (tc 0, 16, .inl ((pxA wi wq ((d0 + 8) + 16)).1))), (pb, .inl (tc 0, 16, .inl ((pxA wi wq ((d0 + 8) + 16)).2))), (wv, .inr (1, [.ref wa, .ref wb, .int (nI wc)])), (wa, .inl (tc 1, 520, .inl wi)), (wb, .inl (tc 1, 520, .inl wq))] H → va_D A [(h0, .inr (6, [.ref to, .ref fo, .int (fcn), .ref le, .ref tr, .ref po, .ref sy, .ref so, .ref pt, .ref sk])), (le, .inr (2, [.ref la, .ref lb])), (la, .inl (tc 0, 16, .inl (acF (fun c => tsgT c * ((pxA wi wq ((d0 + 8) + 16)).1) c) ((lnP lx (pxA wi wq (d0 + 8 + 0))).1) k))), (lb, .inl (tc 0, 16, .inl (acF (fun c => tsgT c * ((pxA wi wq ((d0 + 8) + 16)).2) c) ((lnP lx (pxA wi wq (d0 + 8 + 0))).2) k))), (po, .inr (2, [.ref pa, .ref pb])), (pa, .inl (tc 0, 16, .inl ((pxA wi wq ((d0 + 8) + 16)).1))), (pb, .inl (tc 0, 16, .inl ((pxA wi wq ((d0 + 8) + 16)).2))), (wv, .inr (1, [.ref wa, .ref wb, .int (nI wc)])), (wa, .inl (tc 1, 520, .inl wi)), (wb, .inl (tc 1, 520, .inl wq))] → va_S A s.heap H locs → W p l e R s m args below meth c H locs 0 0 Q (F0 m 27 ls [])) (16) (fun k hk_k ih_k  H locs ls hl hP hD hS => ?_) (0) (by omega)   H locs ls (lv_sub hl [0, 1, 2, 3, 4] rfl) (by exact hP) (k_Ds hD [0, 1, 2, 3, 4, 5, 6, 7, 8, 9] (by decide) rfl) hS
        refine lv_iload hx hb d_RE_learnCarriers_27 (lv_at hl 0 rfl) ?_
        refine lv_bipush (v := nI 16) hx hb d_RE_learnCarriers_29 (by decide) ?_
        refine k_icmp_ge (tgt := 100) hx hb d_RE_learnCarriers_31 (by decide) (by omega) (by omega) (fun h31 => ?_) (fun h31 => ?_)
        · obtain rfl : 16 = k := by omega
          have hP : va_P D classes [(h0, .inr (6, [.ref to, .ref fo, .int (fcn), .ref le, .ref tr, .ref po, .ref sy, .ref so, .ref pt, .ref sk])), (le, .inr (2, [.ref la, .ref lb])), (la, .inl (tc 0, 16, .inl ((lnP (lnP lx (pxA wi wq (d0 + 8 + 0))) (pxA wi wq (d0 + 8 + 16))).1))), (lb, .inl (tc 0, 16, .inl (acF (fun c => tsgT c * ((pxA wi wq ((d0 + 8) + 16)).2) c) ((lnP lx (pxA wi wq (d0 + 8 + 0))).2) 16))), (po, .inr (2, [.ref pa, .ref pb])), (pa, .inl (tc 0, 16, .inl ((pxA wi wq ((d0 + 8) + 16)).1))), (pb, .inl (tc 0, 16, .inl ((pxA wi wq ((d0 + 8) + 16)).2))), (wv, .inr (1, [.ref wa, .ref wb, .int (nI wc)])), (wa, .inl (tc 1, 520, .inl wi)), (wb, .inl (tc 1, 520, .inl wq))] H := k_rep hP 2 rfl (fun j hj => acF_all _ _ 16 j hj) rfl
          have hD : va_D A [(h0, .inr (6, [.ref to, .ref fo, .int (fcn), .ref le, .ref tr, .ref po, .ref sy, .ref so, .ref pt, .ref sk])), (le, .inr (2, [.ref la, .ref lb])), (la, .inl (tc 0, 16, .inl ((lnP (lnP lx (pxA wi wq (d0 + 8 + 0))) (pxA wi wq (d0 + 8 + 16))).1))), (lb, .inl (tc 0, 16, .inl (acF (fun c => tsgT c * ((pxA wi wq ((d0 + 8) + 16)).2) c) ((lnP lx (pxA wi wq (d0 + 8 + 0))).2) 16))), (po, .inr (2, [.ref pa, .ref pb])), (pa, .inl (tc 0, 16, .inl ((pxA wi wq ((d0 + 8) + 16)).1))), (pb, .inl (tc 0, 16, .inl ((pxA wi wq ((d0 + 8) + 16)).2))), (wv, .inr (1, [.ref wa, .ref wb, .int (nI wc)])), (wa, .inl (tc 1, 520, .inl wi)), (wb, .inl (tc 1, 520, .inl wq))] := k_Ds hD [0, 1, 2, 3, 4, 5, 6, 7, 8, 9] (by decide) rfl
          have hP : va_P D classes [(h0, .inr (6, [.ref to, .ref fo, .int (fcn), .ref le, .ref tr, .ref po, .ref sy, .ref so, .ref pt, .ref sk])), (le, .inr (2, [.ref la, .ref lb])), (la, .inl (tc 0, 16, .inl ((lnP (lnP lx (pxA wi wq (d0 + 8 + 0))) (pxA wi wq (d0 + 8 + 16))).1))), (lb, .inl (tc 0, 16, .inl ((lnP (lnP lx (pxA wi wq (d0 + 8 + 0))) (pxA wi wq (d0 + 8 + 16))).2))), (po, .inr (2, [.ref pa, .ref pb])), (pa, .inl (tc 0, 16, .inl ((pxA wi wq ((d0 + 8) + 16)).1))), (pb, .inl (tc 0, 16, .inl ((pxA wi wq ((d0 + 8) + 16)).2))), (wv, .inr (1, [.ref wa, .ref wb, .int (nI wc)])), (wa, .inl (tc 1, 520, .inl wi)), (wb, .inl (tc 1, 520, .inl wq))] H := k_rep hP 3 rfl (fun j hj => acF_all _ _ 16 j hj) rfl
          have hD : va_D A [(h0, .inr (6, [.ref to, .ref fo, .int (fcn), .ref le, .ref tr, .ref po, .ref sy, .ref so, .ref pt, .ref sk])), (le, .inr (2, [.ref la, .ref lb])), (la, .inl (tc 0, 16, .inl ((lnP (lnP lx (pxA wi wq (d0 + 8 + 0))) (pxA wi wq (d0 + 8 + 16))).1))), (lb, .inl (tc 0, 16, .inl ((lnP (lnP lx (pxA wi wq (d0 + 8 + 0))) (pxA wi wq (d0 + 8 + 16))).2))), (po, .inr (2, [.ref pa, .ref pb])), (pa, .inl (tc 0, 16, .inl ((pxA wi wq ((d0 + 8) + 16)).1))), (pb, .inl (tc 0, 16, .inl ((pxA wi wq ((d0 + 8) + 16)).2))), (wv, .inr (1, [.ref wa, .ref wb, .int (nI wc)])), (wa, .inl (tc 1, 520, .inl wi)), (wb, .inl (tc 1, 520, .inl wq))] := k_Ds hD [0, 1, 2, 3, 4, 5, 6, 7, 8, 9] (by decide) rfl
          refine lv_iinc (k := 1) (v := nI 2) (lv' := [(3, .int (nI 2)), (4, .int (nI 16)), (0, .ref h0), (1, .ref wv), (2, .int (nI d0))]) hx hb d_RE_learnCarriers_100 hl rfl (k_incN _ 1) (by decide) rfl (fun ls hl => ?_)
          refine lv_goto (tgt := 2) hx hb d_RE_learnCarriers_103 (by decide) ?_
          refine lv_iload_n hx hb d_RE_learnCarriers_2 rfl (lv_at hl 0 rfl) ?_
          refine lv_iconst (v := nI 2) hx hb d_RE_learnCarriers_3 (by decide) ?_
          refine k_icmp_ge (tgt := 106) hx hb d_RE_learnCarriers_4 (by decide) (by omega) (by omega) (fun h4 => ?_) (fun h4 => ?_)
          · rw [hQ]
            exact k_vret () hx hb hr hlk hK hP hD hS [0, 1, 2, 3, 4, 5, 6, 7, 8, 9] (by decide) rfl trivial d_RE_learnCarriers_106
          · exfalso; omega
        · refine lv_aload_n hx hb d_RE_learnCarriers_34 rfl (lv_at hl 2 rfl) ?_
          refine k_get hx hb hw uw_RE hown hK hP 0 rfl rfl 3 (by decide) (hw _ wd_222) rfl d_RE_learnCarriers_35 ?_
          refine k_get hx hb hw uw_PO hown hK hP 1 rfl rfl 0 (by decide) (hw _ wd_61) rfl d_RE_learnCarriers_38 ?_
          refine lv_iload hx hb d_RE_learnCarriers_41 (lv_at hl 0 rfl) ?_
          refine lv_dup2_11 hx hb d_RE_learnCarriers_43 rfl rfl ?_
          refine k_iald hx hb hK hP 2 0 rfl rfl (by omega) (by omega) d_RE_learnCarriers_44 ?_
          refine k_tabN hx hb hST hS 3 rfl hown (va_Nw.use rfl (hN _ wd_618)) d_RE_learnCarriers_45 ?_
          refine lv_iload hx hb d_RE_learnCarriers_48 (lv_at hl 0 rfl) ?_
          refine k_tald hx hb hST hS 3 rfl (by omega) (by omega) d_RE_learnCarriers_50 ?_
          refine lv_aload_n hx hb d_RE_learnCarriers_51 rfl (lv_at hl 2 rfl) ?_
          refine k_get hx hb hw uw_RE hown hK hP 0 rfl rfl 5 (by decide) (hw _ wd_225) rfl d_RE_learnCarriers_52 ?_
          refine k_get hx hb hw uw_PO hown hK hP 4 rfl rfl 0 (by decide) (hw _ wd_61) rfl d_RE_learnCarriers_55 ?_
          refine lv_iload hx hb d_RE_learnCarriers_58 (lv_at hl 0 rfl) ?_
          refine k_iald hx hb hK hP 5 0 rfl rfl (by omega) (by omega) d_RE_learnCarriers_60 ?_
          refine lv_imul hx hb d_RE_learnCarriers_61 ?_
          refine lv_iadd hx hb d_RE_learnCarriers_62 ?_
          refine k_iast (ws' := [(h0, .inr (6, [.ref to, .ref fo, .int (fcn), .ref le, .ref tr, .ref po, .ref sy, .ref so, .ref pt, .ref sk])), (le, .inr (2, [.ref la, .ref lb])), (la, .inl (tc 0, 16, .inl (upd (acF (fun c => tsgT c * ((pxA wi wq ((d0 + 8) + 16)).1) c) ((lnP lx (pxA wi wq (d0 + 8 + 0))).1) k) k (((acF (fun c => tsgT c * ((pxA wi wq ((d0 + 8) + 16)).1) c) ((lnP lx (pxA wi wq (d0 + 8 + 0))).1) k) k) + ((tsgT k) * (((pxA wi wq ((d0 + 8) + 16)).1) k)))))), (lb, .inl (tc 0, 16, .inl (acF (fun c => tsgT c * ((pxA wi wq ((d0 + 8) + 16)).2) c) ((lnP lx (pxA wi wq (d0 + 8 + 0))).2) k))), (po, .inr (2, [.ref pa, .ref pb])), (pa, .inl (tc 0, 16, .inl ((pxA wi wq ((d0 + 8) + 16)).1))), (pb, .inl (tc 0, 16, .inl ((pxA wi wq ((d0 + 8) + 16)).2))), (wv, .inr (1, [.ref wa, .ref wb, .int (nI wc)])), (wa, .inl (tc 1, 520, .inl wi)), (wb, .inl (tc 1, 520, .inl wq))]) hx hb hK hP hD hS 2 0 rfl rfl (by omega) (by omega) d_RE_learnCarriers_63 rfl (fun H locs hP hD hS => ?_)
          refine lv_aload_n hx hb d_RE_learnCarriers_64 rfl (lv_at hl 2 rfl) ?_
          refine k_get hx hb hw uw_RE hown hK hP 0 rfl rfl 3 (by decide) (hw _ wd_222) rfl d_RE_learnCarriers_65 ?_
          refine k_get hx hb hw uw_PO hown hK hP 1 rfl rfl 1 (by decide) (hw _ wd_65) rfl d_RE_learnCarriers_68 ?_
          refine lv_iload hx hb d_RE_learnCarriers_71 (lv_at hl 0 rfl) ?_
          refine lv_dup2_11 hx hb d_RE_learnCarriers_73 rfl rfl ?_
          refine k_iald hx hb hK hP 3 0 rfl rfl (by omega) (by omega) d_RE_learnCarriers_74 ?_
          refine k_tabN hx hb hST hS 3 rfl hown (va_Nw.use rfl (hN _ wd_618)) d_RE_learnCarriers_75 ?_
          refine lv_iload hx hb d_RE_learnCarriers_78 (lv_at hl 0 rfl) ?_
          refine k_tald hx hb hST hS 3 rfl (by omega) (by omega) d_RE_learnCarriers_80 ?_
          refine lv_aload_n hx hb d_RE_learnCarriers_81 rfl (lv_at hl 2 rfl) ?_
          refine k_get hx hb hw uw_RE hown hK hP 0 rfl rfl 5 (by decide) (hw _ wd_225) rfl d_RE_learnCarriers_82 ?_
          refine k_get hx hb hw uw_PO hown hK hP 4 rfl rfl 1 (by decide) (hw _ wd_65) rfl d_RE_learnCarriers_85 ?_
          refine lv_iload hx hb d_RE_learnCarriers_88 (lv_at hl 0 rfl) ?_
          refine k_iald hx hb hK hP 6 0 rfl rfl (by omega) (by omega) d_RE_learnCarriers_90 ?_
          refine lv_imul hx hb d_RE_learnCarriers_91 ?_
          refine lv_iadd hx hb d_RE_learnCarriers_92 ?_
          refine k_iast (ws' := [(h0, .inr (6, [.ref to, .ref fo, .int (fcn), .ref le, .ref tr, .ref po, .ref sy, .ref so, .ref pt, .ref sk])), (le, .inr (2, [.ref la, .ref lb])), (la, .inl (tc 0, 16, .inl (upd (acF (fun c => tsgT c * ((pxA wi wq ((d0 + 8) + 16)).1) c) ((lnP lx (pxA wi wq (d0 + 8 + 0))).1) k) k (((acF (fun c => tsgT c * ((pxA wi wq ((d0 + 8) + 16)).1) c) ((lnP lx (pxA wi wq (d0 + 8 + 0))).1) k) k) + ((tsgT k) * (((pxA wi wq ((d0 + 8) + 16)).1) k)))))), (lb, .inl (tc 0, 16, .inl (upd (acF (fun c => tsgT c * ((pxA wi wq ((d0 + 8) + 16)).2) c) ((lnP lx (pxA wi wq (d0 + 8 + 0))).2) k) k (((acF (fun c => tsgT c * ((pxA wi wq ((d0 + 8) + 16)).2) c) ((lnP lx (pxA wi wq (d0 + 8 + 0))).2) k) k) + ((tsgT k) * (((pxA wi wq ((d0 + 8) + 16)).2) k)))))), (po, .inr (2, [.ref pa, .ref pb])), (pa, .inl (tc 0, 16, .inl ((pxA wi wq ((d0 + 8) + 16)).1))), (pb, .inl (tc 0, 16, .inl ((pxA wi wq ((d0 + 8) + 16)).2))), (wv, .inr (1, [.ref wa, .ref wb, .int (nI wc)])), (wa, .inl (tc 1, 520, .inl wi)), (wb, .inl (tc 1, 520, .inl wq))]) hx hb hK hP hD hS 3 0 rfl rfl (by omega) (by omega) d_RE_learnCarriers_93 rfl (fun H locs hP hD hS => ?_)
          refine lv_iinc (k := 0) (v := nI (k + 1)) (lv' := [(4, .int (nI (k + 1))), (3, .int (nI 1)), (0, .ref h0), (1, .ref wv), (2, .int (nI d0))]) hx hb d_RE_learnCarriers_94 hl rfl (k_incN _ 1) (by decide) rfl (fun ls hl => ?_)
          refine lv_goto (tgt := 27) hx hb d_RE_learnCarriers_97 (by decide) ?_
          exact ih_k (by omega)   H locs ls (lv_sub hl [0, 1, 2, 3, 4] rfl) (by exact hP) (k_Ds hD [0, 1, 2, 3, 4, 5, 6, 7, 8, 9] (by decide) rfl) hS
    · refine lv_aload_n hx hb d_RE_learnCarriers_34 rfl (lv_at hl 2 rfl) ?_
      refine k_get hx hb hw uw_RE hown hK hP 0 rfl rfl 3 (by decide) (hw _ wd_222) rfl d_RE_learnCarriers_35 ?_
      refine k_get hx hb hw uw_PO hown hK hP 1 rfl rfl 0 (by decide) (hw _ wd_61) rfl d_RE_learnCarriers_38 ?_
      refine lv_iload hx hb d_RE_learnCarriers_41 (lv_at hl 0 rfl) ?_
      refine lv_dup2_11 hx hb d_RE_learnCarriers_43 rfl rfl ?_
      refine k_iald hx hb hK hP 2 0 rfl rfl (by omega) (by omega) d_RE_learnCarriers_44 ?_
      refine k_tabN hx hb hST hS 3 rfl hown (va_Nw.use rfl (hN _ wd_618)) d_RE_learnCarriers_45 ?_
      refine lv_iload hx hb d_RE_learnCarriers_48 (lv_at hl 0 rfl) ?_
      refine k_tald hx hb hST hS 3 rfl (by omega) (by omega) d_RE_learnCarriers_50 ?_
      refine lv_aload_n hx hb d_RE_learnCarriers_51 rfl (lv_at hl 2 rfl) ?_
      refine k_get hx hb hw uw_RE hown hK hP 0 rfl rfl 5 (by decide) (hw _ wd_225) rfl d_RE_learnCarriers_52 ?_
      refine k_get hx hb hw uw_PO hown hK hP 4 rfl rfl 0 (by decide) (hw _ wd_61) rfl d_RE_learnCarriers_55 ?_
      refine lv_iload hx hb d_RE_learnCarriers_58 (lv_at hl 0 rfl) ?_
      refine k_iald hx hb hK hP 5 0 rfl rfl (by omega) (by omega) d_RE_learnCarriers_60 ?_
      refine lv_imul hx hb d_RE_learnCarriers_61 ?_
      refine lv_iadd hx hb d_RE_learnCarriers_62 ?_
      refine k_iast (ws' := [(h0, .inr (6, [.ref to, .ref fo, .int (fcn), .ref le, .ref tr, .ref po, .ref sy, .ref so, .ref pt, .ref sk])), (le, .inr (2, [.ref la, .ref lb])), (la, .inl (tc 0, 16, .inl (upd (acF (fun c => tsgT c * ((pxA wi wq ((d0 + 8) + 0)).1) c) lx.1 k) k (((acF (fun c => tsgT c * ((pxA wi wq ((d0 + 8) + 0)).1) c) lx.1 k) k) + ((tsgT k) * (((pxA wi wq ((d0 + 8) + 0)).1) k)))))), (lb, .inl (tc 0, 16, .inl (acF (fun c => tsgT c * ((pxA wi wq ((d0 + 8) + 0)).2) c) lx.2 k))), (po, .inr (2, [.ref pa, .ref pb])), (pa, .inl (tc 0, 16, .inl ((pxA wi wq ((d0 + 8) + 0)).1))), (pb, .inl (tc 0, 16, .inl ((pxA wi wq ((d0 + 8) + 0)).2))), (wv, .inr (1, [.ref wa, .ref wb, .int (nI wc)])), (wa, .inl (tc 1, 520, .inl wi)), (wb, .inl (tc 1, 520, .inl wq))]) hx hb hK hP hD hS 2 0 rfl rfl (by omega) (by omega) d_RE_learnCarriers_63 rfl (fun H locs hP hD hS => ?_)
      refine lv_aload_n hx hb d_RE_learnCarriers_64 rfl (lv_at hl 2 rfl) ?_
      refine k_get hx hb hw uw_RE hown hK hP 0 rfl rfl 3 (by decide) (hw _ wd_222) rfl d_RE_learnCarriers_65 ?_
      refine k_get hx hb hw uw_PO hown hK hP 1 rfl rfl 1 (by decide) (hw _ wd_65) rfl d_RE_learnCarriers_68 ?_
      refine lv_iload hx hb d_RE_learnCarriers_71 (lv_at hl 0 rfl) ?_
      refine lv_dup2_11 hx hb d_RE_learnCarriers_73 rfl rfl ?_
      refine k_iald hx hb hK hP 3 0 rfl rfl (by omega) (by omega) d_RE_learnCarriers_74 ?_
      refine k_tabN hx hb hST hS 3 rfl hown (va_Nw.use rfl (hN _ wd_618)) d_RE_learnCarriers_75 ?_
      refine lv_iload hx hb d_RE_learnCarriers_78 (lv_at hl 0 rfl) ?_
      refine k_tald hx hb hST hS 3 rfl (by omega) (by omega) d_RE_learnCarriers_80 ?_
      refine lv_aload_n hx hb d_RE_learnCarriers_81 rfl (lv_at hl 2 rfl) ?_
      refine k_get hx hb hw uw_RE hown hK hP 0 rfl rfl 5 (by decide) (hw _ wd_225) rfl d_RE_learnCarriers_82 ?_
      refine k_get hx hb hw uw_PO hown hK hP 4 rfl rfl 1 (by decide) (hw _ wd_65) rfl d_RE_learnCarriers_85 ?_
      refine lv_iload hx hb d_RE_learnCarriers_88 (lv_at hl 0 rfl) ?_
      refine k_iald hx hb hK hP 6 0 rfl rfl (by omega) (by omega) d_RE_learnCarriers_90 ?_
      refine lv_imul hx hb d_RE_learnCarriers_91 ?_
      refine lv_iadd hx hb d_RE_learnCarriers_92 ?_
      refine k_iast (ws' := [(h0, .inr (6, [.ref to, .ref fo, .int (fcn), .ref le, .ref tr, .ref po, .ref sy, .ref so, .ref pt, .ref sk])), (le, .inr (2, [.ref la, .ref lb])), (la, .inl (tc 0, 16, .inl (upd (acF (fun c => tsgT c * ((pxA wi wq ((d0 + 8) + 0)).1) c) lx.1 k) k (((acF (fun c => tsgT c * ((pxA wi wq ((d0 + 8) + 0)).1) c) lx.1 k) k) + ((tsgT k) * (((pxA wi wq ((d0 + 8) + 0)).1) k)))))), (lb, .inl (tc 0, 16, .inl (upd (acF (fun c => tsgT c * ((pxA wi wq ((d0 + 8) + 0)).2) c) lx.2 k) k (((acF (fun c => tsgT c * ((pxA wi wq ((d0 + 8) + 0)).2) c) lx.2 k) k) + ((tsgT k) * (((pxA wi wq ((d0 + 8) + 0)).2) k)))))), (po, .inr (2, [.ref pa, .ref pb])), (pa, .inl (tc 0, 16, .inl ((pxA wi wq ((d0 + 8) + 0)).1))), (pb, .inl (tc 0, 16, .inl ((pxA wi wq ((d0 + 8) + 0)).2))), (wv, .inr (1, [.ref wa, .ref wb, .int (nI wc)])), (wa, .inl (tc 1, 520, .inl wi)), (wb, .inl (tc 1, 520, .inl wq))]) hx hb hK hP hD hS 3 0 rfl rfl (by omega) (by omega) d_RE_learnCarriers_93 rfl (fun H locs hP hD hS => ?_)
      refine lv_iinc (k := 0) (v := nI (k + 1)) (lv' := [(4, .int (nI (k + 1))), (3, .int (nI 0)), (0, .ref h0), (1, .ref wv), (2, .int (nI d0))]) hx hb d_RE_learnCarriers_94 hl rfl (k_incN _ 1) (by decide) rfl (fun ls hl => ?_)
      refine lv_goto (tgt := 27) hx hb d_RE_learnCarriers_97 (by decide) ?_
      exact ih_k (by omega)   H locs ls (lv_sub hl [0, 1, 2, 3, 4] rfl) (by exact hP) (k_Ds hD [0, 1, 2, 3, 4, 5, 6, 7, 8, 9] (by decide) rfl) hS
set_option maxHeartbeats 4000000 in
set_option maxRecDepth 100000 in
theorem c_RE_powerAt (l : Launch) (D : va_G) (tc : Nat → ClassId) (tb : Nat → Nat) (h0 : Nat) (to : Nat) (fo : Nat) (le : Nat) (tr : Nat) (po : Nat) (sy : Nat) (so : Nat) (pt : Nat) (sk : Nat) (fcn : Int32) (ta : Nat) (td : Nat) (tx : RP) (wv : Nat) (wa : Nat) (wb : Nat) (wc : Nat) (wi : Nat → Int32) (wq : Nat → Int32) (fr : Nat) (hfr : fr + 32 ≤ 520) : Ml l D tc tb y_RE_powerAt prog_5_method_5_code 14 (some .long) ({ frames := 0, cells := 0, slots := 0, locals := 0 }) [.ref h0, .ref wv, .int (nI fr)] [(h0, .inr (6, [.ref to, .ref fo, .int (fcn), .ref le, .ref tr, .ref po, .ref sy, .ref so, .ref pt, .ref sk])), (tr, .inr (2, [.ref ta, .ref td])), (ta, .inl (tc 0, 16, .inl tx.1)), (td, .inl (tc 0, 16, .inl tx.2)), (wv, .inr (1, [.ref wa, .ref wb, .int (nI wc)])), (wa, .inl (tc 1, 520, .inl wi)), (wb, .inl (tc 1, 520, .inl wq))] (fun _ : Unit => True) (fun _ : Unit => pwF tx wi wq fr) (fun _ : Unit => [(h0, .inr (6, [.ref to, .ref fo, .int (fcn), .ref le, .ref tr, .ref po, .ref sy, .ref so, .ref pt, .ref sk])), (tr, .inr (2, [.ref ta, .ref td])), (ta, .inl (tc 0, 16, .inl tx.1)), (td, .inl (tc 0, 16, .inl tx.2)), (wv, .inr (1, [.ref wa, .ref wb, .int (nI wc)])), (wa, .inl (tc 1, 520, .inl wi)), (wb, .inl (tc 1, 520, .inl wq))]) := by
  refine Ml.go (by decide) (Nat.le_of_ble_eq_true rfl) ?_
  intro p e s m below meth c A ls R args Q C
  obtain ⟨hx, hb, hr, hts, hown, hlk, hml, hin, hA, hST, hN, hK, hP, hD, hS, hl, hR, hQ⟩ := C
  have hw : ∀ w ∈ lw_g, w.before args s = true := fun w h => hts w (List.mem_cons_of_mem _ h)
  have hl : lv_has ls 14 [(0, .ref h0), (1, .ref wv), (2, .int (nI fr))] := hl
  refine lv_lconst (v := 0) hx hb d_RE_powerAt_0 (by decide) ?_
  refine lv_lstore_n (lv' := [(3, .long (0)), (0, .ref h0), (1, .ref wv), (2, .int (nI fr))]) hx hb d_RE_powerAt_1 rfl hl (by decide) rfl (fun ls hl => ?_)
  refine lv_lconst (v := 0) hx hb d_RE_powerAt_2 (by decide) ?_
  refine lv_lstore (lv' := [(5, .long (0)), (3, .long (0)), (0, .ref h0), (1, .ref wv), (2, .int (nI fr))]) hx hb d_RE_powerAt_3 hl (by decide) rfl (fun ls hl => ?_)
  refine lv_iconst (v := nI 0) hx hb d_RE_powerAt_5 (by decide) ?_
  refine lv_istore (lv' := [(7, .int (nI 0)), (5, .long (0)), (3, .long (0)), (0, .ref h0), (1, .ref wv), (2, .int (nI fr))]) hx hb d_RE_powerAt_6 hl (by decide) rfl (fun ls hl => ?_)
  refine k_loop (P := fun k : Nat => ∀ (H : Heap) (locs : List Loc) (ls : Array Slot), lv_has ls 14 [(7, .int (nI k)), (5, .long (pwJ tx wi wq fr k)), (3, .long (pwR tx wi wq fr k)), (0, .ref h0), (1, .ref wv), (2, .int (nI fr))] → va_P D classes [(h0, .inr (6, [.ref to, .ref fo, .int (fcn), .ref le, .ref tr, .ref po, .ref sy, .ref so, .ref pt, .ref sk])), (tr, .inr (2, [.ref ta, .ref td])), (ta, .inl (tc 0, 16, .inl tx.1)), (td, .inl (tc 0, 16, .inl tx.2)), (wv, .inr (1, [.ref wa, .ref wb, .int (nI wc)])), (wa, .inl (tc 1, 520, .inl wi)), (wb, .inl (tc 1, 520, .inl wq))] H → va_D A [(h0, .inr (6, [.ref to, .ref fo, .int (fcn), .ref le, .ref tr, .ref po, .ref sy, .ref so, .ref pt, .ref sk])), (tr, .inr (2, [.ref ta, .ref td])), (ta, .inl (tc 0, 16, .inl tx.1)), (td, .inl (tc 0, 16, .inl tx.2)), (wv, .inr (1, [.ref wa, .ref wb, .int (nI wc)])), (wa, .inl (tc 1, 520, .inl wi)), (wb, .inl (tc 1, 520, .inl wq))] → va_S A s.heap H locs → W p l e R s m args below meth c H locs 0 0 Q (F0 m 8 ls [])) (32) (fun k hk_k ih_k  H locs ls hl hP hD hS => ?_) (0) (by omega)   s.heap [] ls (lv_sub hl [0, 1, 2, 3, 4, 5] rfl) (by exact hP) (k_Ds hD [0, 1, 2, 3, 4, 5, 6] (by decide) rfl) hS
  refine lv_iload hx hb d_RE_powerAt_8 (lv_at hl 0 rfl) ?_
  refine lv_bipush (v := nI 32) hx hb d_RE_powerAt_10 (by decide) ?_
  refine k_icmp_ge (tgt := 109) hx hb d_RE_powerAt_12 (by decide) (by omega) (by omega) (fun h12 => ?_) (fun h12 => ?_)
  · obtain rfl : 32 = k := by omega
    refine lv_lload_n hx hb d_RE_powerAt_109 rfl (lv_at hl 2 rfl) ?_
    refine lv_bipush (v := nI 8) hx hb d_RE_powerAt_110 (by decide) ?_
    refine lv_lshr hx hb d_RE_powerAt_112 rfl ?_
    refine lv_lload_n hx hb d_RE_powerAt_113 rfl (lv_at hl 2 rfl) ?_
    refine lv_bipush (v := nI 8) hx hb d_RE_powerAt_114 (by decide) ?_
    refine lv_lshr hx hb d_RE_powerAt_116 rfl ?_
    refine lv_lmul hx hb d_RE_powerAt_117 ?_
    refine lv_lload hx hb d_RE_powerAt_118 (lv_at hl 1 rfl) ?_
    refine lv_bipush (v := nI 8) hx hb d_RE_powerAt_120 (by decide) ?_
    refine lv_lshr hx hb d_RE_powerAt_122 rfl ?_
    refine lv_lload hx hb d_RE_powerAt_123 (lv_at hl 1 rfl) ?_
    refine lv_bipush (v := nI 8) hx hb d_RE_powerAt_125 (by decide) ?_
    refine lv_lshr hx hb d_RE_powerAt_127 rfl ?_
    refine lv_lmul hx hb d_RE_powerAt_128 ?_
    refine lv_ladd hx hb d_RE_powerAt_129 ?_
    rw [hQ]
    exact k_lret () hx hb hr hlk hK hP hD hS [0, 1, 2, 3, 4, 5, 6] (by decide) rfl trivial rfl d_RE_powerAt_130
  · refine lv_aload_n hx hb d_RE_powerAt_15 rfl (lv_at hl 4 rfl) ?_
    refine k_get hx hb hw uw_WA hown hK hP 4 rfl rfl 0 (by decide) (hw _ wd_35) rfl d_RE_powerAt_16 ?_
    refine lv_iload_n hx hb d_RE_powerAt_19 rfl (lv_at hl 5 rfl) ?_
    refine lv_iload hx hb d_RE_powerAt_20 (lv_at hl 0 rfl) ?_
    refine k_iadd hx hb d_RE_powerAt_22 ?_
    refine k_sald hx hb hK hP 5 1 rfl rfl (by omega) (by omega) d_RE_powerAt_23 ?_
    refine lv_i2l hx hb d_RE_powerAt_24 rfl ?_
    refine lv_lstore (lv' := [(8, .long ((wi (fr + k)).toInt64)), (7, .int (nI k)), (5, .long (pwJ tx wi wq fr k)), (3, .long (pwR tx wi wq fr k)), (0, .ref h0), (1, .ref wv), (2, .int (nI fr))]) hx hb d_RE_powerAt_25 hl (by decide) rfl (fun ls hl => ?_)
    refine lv_aload_n hx hb d_RE_powerAt_27 rfl (lv_at hl 5 rfl) ?_
    refine k_get hx hb hw uw_WA hown hK hP 4 rfl rfl 1 (by decide) (hw _ wd_39) rfl d_RE_powerAt_28 ?_
    refine lv_iload_n hx hb d_RE_powerAt_31 rfl (lv_at hl 6 rfl) ?_
    refine lv_iload hx hb d_RE_powerAt_32 (lv_at hl 1 rfl) ?_
    refine k_iadd hx hb d_RE_powerAt_34 ?_
    refine k_sald hx hb hK hP 6 1 rfl rfl (by omega) (by omega) d_RE_powerAt_35 ?_
    refine lv_i2l hx hb d_RE_powerAt_36 rfl ?_
    refine lv_lstore (lv' := [(10, .long ((wq (fr + k)).toInt64)), (8, .long ((wi (fr + k)).toInt64)), (7, .int (nI k)), (5, .long (pwJ tx wi wq fr k)), (3, .long (pwR tx wi wq fr k)), (0, .ref h0), (1, .ref wv), (2, .int (nI fr))]) hx hb d_RE_powerAt_37 hl (by decide) rfl (fun ls hl => ?_)
    refine lv_aload_n hx hb d_RE_powerAt_39 rfl (lv_at hl 5 rfl) ?_
    refine k_get hx hb hw uw_RE hown hK hP 0 rfl rfl 4 (by decide) (hw _ wd_224) rfl d_RE_powerAt_40 ?_
    refine k_get hx hb hw uw_PO hown hK hP 1 rfl rfl 0 (by decide) (hw _ wd_61) rfl d_RE_powerAt_43 ?_
    refine lv_iload hx hb d_RE_powerAt_46 (lv_at hl 2 rfl) ?_
    refine lv_bipush (v := nI 16) hx hb d_RE_powerAt_48 (by decide) ?_
    refine k_irem hx hb d_RE_powerAt_50 (by omega) (by omega) (by omega) ?_
    refine k_iald hx hb hK hP 2 0 rfl rfl (by omega) (by omega) d_RE_powerAt_51 ?_
    refine lv_istore (lv' := [(12, .int (tx.1 (k % 16))), (10, .long ((wq (fr + k)).toInt64)), (8, .long ((wi (fr + k)).toInt64)), (7, .int (nI k)), (5, .long (pwJ tx wi wq fr k)), (3, .long (pwR tx wi wq fr k)), (0, .ref h0), (1, .ref wv), (2, .int (nI fr))]) hx hb d_RE_powerAt_52 hl (by decide) rfl (fun ls hl => ?_)
    refine lv_aload_n hx hb d_RE_powerAt_54 rfl (lv_at hl 6 rfl) ?_
    refine k_get hx hb hw uw_RE hown hK hP 0 rfl rfl 4 (by decide) (hw _ wd_224) rfl d_RE_powerAt_55 ?_
    refine k_get hx hb hw uw_PO hown hK hP 1 rfl rfl 1 (by decide) (hw _ wd_65) rfl d_RE_powerAt_58 ?_
    refine lv_iload hx hb d_RE_powerAt_61 (lv_at hl 3 rfl) ?_
    refine lv_bipush (v := nI 16) hx hb d_RE_powerAt_63 (by decide) ?_
    refine k_irem hx hb d_RE_powerAt_65 (by omega) (by omega) (by omega) ?_
    refine k_iald hx hb hK hP 3 0 rfl rfl (by omega) (by omega) d_RE_powerAt_66 ?_
    refine lv_istore (lv' := [(13, .int (tx.2 (k % 16))), (12, .int (tx.1 (k % 16))), (10, .long ((wq (fr + k)).toInt64)), (8, .long ((wi (fr + k)).toInt64)), (7, .int (nI k)), (5, .long (pwJ tx wi wq fr k)), (3, .long (pwR tx wi wq fr k)), (0, .ref h0), (1, .ref wv), (2, .int (nI fr))]) hx hb d_RE_powerAt_67 hl (by decide) rfl (fun ls hl => ?_)
    refine lv_lload_n hx hb d_RE_powerAt_69 rfl (lv_at hl 6 rfl) ?_
    refine lv_lload hx hb d_RE_powerAt_70 (lv_at hl 3 rfl) ?_
    refine lv_iload hx hb d_RE_powerAt_72 (lv_at hl 1 rfl) ?_
    refine lv_i2l hx hb d_RE_powerAt_74 rfl ?_
    refine lv_lmul hx hb d_RE_powerAt_75 ?_
    refine lv_lload hx hb d_RE_powerAt_76 (lv_at hl 2 rfl) ?_
    refine lv_iload hx hb d_RE_powerAt_78 (lv_at hl 0 rfl) ?_
    refine lv_i2l hx hb d_RE_powerAt_80 rfl ?_
    refine lv_lmul hx hb d_RE_powerAt_81 ?_
    refine lv_ladd hx hb d_RE_powerAt_82 ?_
    refine lv_ladd hx hb d_RE_powerAt_83 ?_
    refine k_topl (y := pwR tx wi wq fr (k + 1)) rfl ?_
    refine lv_lstore_n (lv' := [(3, .long (pwR tx wi wq fr (k + 1))), (13, .int (tx.2 (k % 16))), (12, .int (tx.1 (k % 16))), (10, .long ((wq (fr + k)).toInt64)), (8, .long ((wi (fr + k)).toInt64)), (7, .int (nI k)), (5, .long (pwJ tx wi wq fr k)), (0, .ref h0), (1, .ref wv), (2, .int (nI fr))]) hx hb d_RE_powerAt_84 rfl hl (by decide) rfl (fun ls hl => ?_)
    refine lv_lload hx hb d_RE_powerAt_85 (lv_at hl 6 rfl) ?_
    refine lv_lload hx hb d_RE_powerAt_87 (lv_at hl 3 rfl) ?_
    refine lv_iload hx hb d_RE_powerAt_89 (lv_at hl 2 rfl) ?_
    refine lv_i2l hx hb d_RE_powerAt_91 rfl ?_
    refine lv_lmul hx hb d_RE_powerAt_92 ?_
    refine lv_lload hx hb d_RE_powerAt_93 (lv_at hl 4 rfl) ?_
    refine lv_iload hx hb d_RE_powerAt_95 (lv_at hl 1 rfl) ?_
    refine lv_i2l hx hb d_RE_powerAt_97 rfl ?_
    refine lv_lmul hx hb d_RE_powerAt_98 ?_
    refine lv_lsub hx hb d_RE_powerAt_99 ?_
    refine lv_ladd hx hb d_RE_powerAt_100 ?_
    refine k_topl (y := pwJ tx wi wq fr (k + 1)) rfl ?_
    refine lv_lstore (lv' := [(5, .long (pwJ tx wi wq fr (k + 1))), (3, .long (pwR tx wi wq fr (k + 1))), (13, .int (tx.2 (k % 16))), (12, .int (tx.1 (k % 16))), (10, .long ((wq (fr + k)).toInt64)), (8, .long ((wi (fr + k)).toInt64)), (7, .int (nI k)), (0, .ref h0), (1, .ref wv), (2, .int (nI fr))]) hx hb d_RE_powerAt_101 hl (by decide) rfl (fun ls hl => ?_)
    refine lv_iinc (k := 6) (v := nI (k + 1)) (lv' := [(7, .int (nI (k + 1))), (5, .long (pwJ tx wi wq fr (k + 1))), (3, .long (pwR tx wi wq fr (k + 1))), (13, .int (tx.2 (k % 16))), (12, .int (tx.1 (k % 16))), (10, .long ((wq (fr + k)).toInt64)), (8, .long ((wi (fr + k)).toInt64)), (0, .ref h0), (1, .ref wv), (2, .int (nI fr))]) hx hb d_RE_powerAt_103 hl rfl (k_incN _ 1) (by decide) rfl (fun ls hl => ?_)
    refine lv_goto (tgt := 8) hx hb d_RE_powerAt_106 (by decide) ?_
    exact ih_k (by omega)   H locs ls (lv_sub hl [0, 1, 2, 7, 8, 9] rfl) (by exact hP) (k_Ds hD [0, 1, 2, 3, 4, 5, 6] (by decide) rfl) hS
set_option maxHeartbeats 4000000 in
set_option maxRecDepth 100000 in
theorem c_RE_findStart (l : Launch) (D : va_G) (tc : Nat → ClassId) (tb : Nat → Nat) (h0 : Nat) (to : Nat) (fo : Nat) (le : Nat) (tr : Nat) (po : Nat) (sy : Nat) (so : Nat) (pt : Nat) (sk : Nat) (fcn : Int32) (ta : Nat) (td : Nat) (tx : RP) (wv : Nat) (wa : Nat) (wb : Nat) (wc : Nat) (wi : Nat → Int32) (wq : Nat → Int32) (nd : Nat) (hn1 : nd ≤ 41) (hn2 : nd = 0 ∨ nd + 99 ≤ wc) (hn3 : nd = 41 ∨ wc < nd + 100) (hwc : wc ≤ 520) : Mi l D tc tb y_RE_findStart prog_5_method_4_code 8 (some .int) ({ frames := 1, cells := 0, slots := 0, locals := 33 }) [.ref h0, .ref wv] [(h0, .inr (6, [.ref to, .ref fo, .int (fcn), .ref le, .ref tr, .ref po, .ref sy, .ref so, .ref pt, .ref sk])), (tr, .inr (2, [.ref ta, .ref td])), (ta, .inl (tc 0, 16, .inl tx.1)), (td, .inl (tc 0, 16, .inl tx.2)), (wv, .inr (1, [.ref wa, .ref wb, .int (nI wc)])), (wa, .inl (tc 1, 520, .inl wi)), (wb, .inl (tc 1, 520, .inl wq))] (fun _ : Unit => True) (fun _ : Unit => (fsF tx wi wq nd).1) (fun _ : Unit => [(h0, .inr (6, [.ref to, .ref fo, .int (fcn), .ref le, .ref tr, .ref po, .ref sy, .ref so, .ref pt, .ref sk])), (tr, .inr (2, [.ref ta, .ref td])), (ta, .inl (tc 0, 16, .inl tx.1)), (td, .inl (tc 0, 16, .inl tx.2)), (wv, .inr (1, [.ref wa, .ref wb, .int (nI wc)])), (wa, .inl (tc 1, 520, .inl wi)), (wb, .inl (tc 1, 520, .inl wq))]) := by
  refine Mi.go (by decide) (Nat.le_of_ble_eq_true rfl) ?_
  intro p e s m below meth c A ls R args Q C
  obtain ⟨hx, hb, hr, hts, hown, hlk, hml, hin, hA, hST, hN, hK, hP, hD, hS, hl, hR, hQ⟩ := C
  have hw : ∀ w ∈ lw_g, w.before args s = true := fun w h => hts w (List.mem_cons_of_mem _ h)
  have hl : lv_has ls 8 [(0, .ref h0), (1, .ref wv)] := hl
  refine lv_iconst (v := -1) hx hb d_RE_findStart_0 (by decide) ?_
  refine lv_istore_n (lv' := [(2, .int (-1)), (0, .ref h0), (1, .ref wv)]) hx hb d_RE_findStart_1 rfl hl (by decide) rfl (fun ls hl => ?_)
  refine lv_ldc2 (v := 99999999) hx hb hown (hw _ wd_605) d_RE_findStart_2 ?_
  refine lv_lstore_n (lv' := [(3, .long (99999999)), (2, .int (-1)), (0, .ref h0), (1, .ref wv)]) hx hb d_RE_findStart_5 rfl hl (by decide) rfl (fun ls hl => ?_)
  refine lv_iconst (v := nI 0) hx hb d_RE_findStart_6 (by decide) ?_
  refine lv_istore (lv' := [(5, .int (nI 0)), (3, .long (99999999)), (2, .int (-1)), (0, .ref h0), (1, .ref wv)]) hx hb d_RE_findStart_7 hl (by decide) rfl (fun ls hl => ?_)
  refine k_loop (P := fun d : Nat => ∀ (H : Heap) (locs : List Loc) (ls : Array Slot), lv_has ls 8 [(5, .int (nI d)), (3, .long ((fsF tx wi wq d).2)), (2, .int ((fsF tx wi wq d).1)), (0, .ref h0), (1, .ref wv)] → va_P D classes [(h0, .inr (6, [.ref to, .ref fo, .int (fcn), .ref le, .ref tr, .ref po, .ref sy, .ref so, .ref pt, .ref sk])), (tr, .inr (2, [.ref ta, .ref td])), (ta, .inl (tc 0, 16, .inl tx.1)), (td, .inl (tc 0, 16, .inl tx.2)), (wv, .inr (1, [.ref wa, .ref wb, .int (nI wc)])), (wa, .inl (tc 1, 520, .inl wi)), (wb, .inl (tc 1, 520, .inl wq))] H → va_D A [(h0, .inr (6, [.ref to, .ref fo, .int (fcn), .ref le, .ref tr, .ref po, .ref sy, .ref so, .ref pt, .ref sk])), (tr, .inr (2, [.ref ta, .ref td])), (ta, .inl (tc 0, 16, .inl tx.1)), (td, .inl (tc 0, 16, .inl tx.2)), (wv, .inr (1, [.ref wa, .ref wb, .int (nI wc)])), (wa, .inl (tc 1, 520, .inl wi)), (wb, .inl (tc 1, 520, .inl wq))] → va_S A s.heap H locs → W p l e R s m args below meth c H locs 0 0 Q (F0 m 9 ls [])) (nd) (fun d hk_d ih_d  H locs ls hl hP hD hS => ?_) (0) (by omega)   s.heap [] ls (lv_sub hl [0, 1, 2, 3, 4] rfl) (by exact hP) (k_Ds hD [0, 1, 2, 3, 4, 5, 6] (by decide) rfl) hS
  refine lv_iload hx hb d_RE_findStart_9 (lv_at hl 0 rfl) ?_
  refine lv_bipush (v := nI 40) hx hb d_RE_findStart_11 (by decide) ?_
  refine k_icmp_gt (tgt := 59) hx hb d_RE_findStart_13 (by decide) (by omega) (by omega) (fun h13 => ?_) (fun h13 => ?_)
  · obtain rfl : nd = d := by omega
    refine lv_iload_n hx hb d_RE_findStart_59 rfl (lv_at hl 2 rfl) ?_
    rw [hQ]
    exact k_iret () hx hb hr hlk hK hP hD hS [0, 1, 2, 3, 4, 5, 6] (by decide) rfl trivial rfl d_RE_findStart_60
  · refine lv_iload hx hb d_RE_findStart_16 (lv_at hl 0 rfl) ?_
    refine lv_bipush (v := nI 100) hx hb d_RE_findStart_18 (by decide) ?_
    refine k_iadd hx hb d_RE_findStart_20 ?_
    refine lv_aload_n hx hb d_RE_findStart_21 rfl (lv_at hl 4 rfl) ?_
    refine k_get hx hb hw uw_WA hown hK hP 4 rfl rfl 2 (by decide) (hw _ wd_42) rfl d_RE_findStart_22 ?_
    refine k_icmp_gt (tgt := 59) hx hb d_RE_findStart_25 (by decide) (by omega) (by omega) (fun h25 => ?_) (fun h25 => ?_)
    · obtain rfl : nd = d := by omega
      refine lv_iload_n hx hb d_RE_findStart_59 rfl (lv_at hl 2 rfl) ?_
      rw [hQ]
      exact k_iret () hx hb hr hlk hK hP hD hS [0, 1, 2, 3, 4, 5, 6] (by decide) rfl trivial rfl d_RE_findStart_60
    · refine lv_aload_n hx hb d_RE_findStart_28 rfl (lv_at hl 3 rfl) ?_
      refine lv_aload_n hx hb d_RE_findStart_29 rfl (lv_at hl 4 rfl) ?_
      refine lv_iload hx hb d_RE_findStart_30 (lv_at hl 0 rfl) ?_
      refine lv_bipush (v := nI 8) hx hb d_RE_findStart_32 (by decide) ?_
      refine k_iadd hx hb d_RE_findStart_34 ?_
      refine k_calll (wr := []) (k_runV (As := [.ref wv, .int (nI (d + 8))]) (rest := []) (wc := [(h0, .inr (6, [.ref to, .ref fo, .int (fcn), .ref le, .ref tr, .ref po, .ref sy, .ref so, .ref pt, .ref sk])), (tr, .inr (2, [.ref ta, .ref td])), (ta, .inl (tc 0, 16, .inl tx.1)), (td, .inl (tc 0, 16, .inl tx.2)), (wv, .inr (1, [.ref wa, .ref wb, .int (nI wc)])), (wa, .inl (tc 1, 520, .inl wi)), (wb, .inl (tc 1, 520, .inl wq))]) ⟨hx, hb, hml, hown, hts⟩ (c_RE_powerAt l D tc tb h0 to fo le tr po sy so pt sk fcn ta td tx wv wa wb wc wi wq (d + 8) (by omega) H.size) (cwV 2 hts (k_goodV wd_606 wd_608 wd_m18 wd_7 wd_609) rfl rfl rfl ⟨rfl, hd_RE_powerAt⟩ ⟨by rw [hR]; exact Nat.le_of_ble_eq_true rfl, by rw [hR]; exact Nat.le_of_ble_eq_true rfl⟩) hK hP hD hS hST hN hA [0, 1, 2, 3, 4, 5, 6] (by decide) rfl 0 rfl rfl rfl rfl hl.1 rfl (Nat.le_of_ble_eq_true rfl) d_RE_findStart_35 ⟨by rw [hR]; exact Nat.le_of_ble_eq_true rfl, by rw [hR]; exact Nat.le_of_ble_eq_true rfl⟩) hP hD hS hA [0, 1, 2, 3, 4, 5, 6] [] rfl rfl (by decide) (by decide) (fun _ H locs hp35 hP hD hS => ?_)
      have hP : va_P D classes [(h0, .inr (6, [.ref to, .ref fo, .int (fcn), .ref le, .ref tr, .ref po, .ref sy, .ref so, .ref pt, .ref sk])), (tr, .inr (2, [.ref ta, .ref td])), (ta, .inl (tc 0, 16, .inl tx.1)), (td, .inl (tc 0, 16, .inl tx.2)), (wv, .inr (1, [.ref wa, .ref wb, .int (nI wc)])), (wa, .inl (tc 1, 520, .inl wi)), (wb, .inl (tc 1, 520, .inl wq))] H := hP
      have hD : va_D A [(h0, .inr (6, [.ref to, .ref fo, .int (fcn), .ref le, .ref tr, .ref po, .ref sy, .ref so, .ref pt, .ref sk])), (tr, .inr (2, [.ref ta, .ref td])), (ta, .inl (tc 0, 16, .inl tx.1)), (td, .inl (tc 0, 16, .inl tx.2)), (wv, .inr (1, [.ref wa, .ref wb, .int (nI wc)])), (wa, .inl (tc 1, 520, .inl wi)), (wb, .inl (tc 1, 520, .inl wq))] := hD
      refine W.widen (k := 0) (n := 0) (Nat.le_of_ble_eq_true rfl) (Nat.le_of_ble_eq_true rfl) ?_
      refine W.eq (g2 := F0 m 38 ls [.long (pwF tx wi wq (d + 8))]) rfl ?_
      refine lv_lstore (lv' := [(6, .long (pwF tx wi wq (d + 8))), (5, .int (nI d)), (3, .long ((fsF tx wi wq d).2)), (2, .int ((fsF tx wi wq d).1)), (0, .ref h0), (1, .ref wv)]) hx hb d_RE_findStart_38 hl (by decide) rfl (fun ls hl => ?_)
      refine lv_lload hx hb d_RE_findStart_40 (lv_at hl 0 rfl) ?_
      refine lv_lload_n hx hb d_RE_findStart_42 rfl (lv_at hl 2 rfl) ?_
      refine W.lcmp hx hb d_RE_findStart_43 ?_
      refine lv_if_le (tgt := 53) hx hb d_RE_findStart_44 (by decide) (fun h44 => ?_) (fun h44 => ?_)
      · refine lv_iinc (k := 1) (v := nI (d + 1)) (lv' := [(5, .int (nI (d + 1))), (6, .long (pwF tx wi wq (d + 8))), (3, .long ((fsF tx wi wq d).2)), (2, .int ((fsF tx wi wq d).1)), (0, .ref h0), (1, .ref wv)]) hx hb d_RE_findStart_53 hl rfl (k_incN _ 1) (by decide) rfl (fun ls hl => ?_)
        refine lv_goto (tgt := 9) hx hb d_RE_findStart_56 (by decide) ?_
        exact ih_d (by omega)   H locs ls (by first | (rw [fsF_t h44]; exact lv_sub hl [0, 2, 3, 4, 5] rfl) | (rw [fsF_f h44]; exact lv_sub hl [0, 2, 3, 4, 5] rfl)) (by exact hP) (k_Ds hD [0, 1, 2, 3, 4, 5, 6] (by decide) rfl) hS
      · refine lv_lload hx hb d_RE_findStart_47 (lv_at hl 0 rfl) ?_
        refine lv_lstore_n (lv' := [(3, .long (pwF tx wi wq (d + 8))), (6, .long (pwF tx wi wq (d + 8))), (5, .int (nI d)), (2, .int ((fsF tx wi wq d).1)), (0, .ref h0), (1, .ref wv)]) hx hb d_RE_findStart_49 rfl hl (by decide) rfl (fun ls hl => ?_)
        refine lv_iload hx hb d_RE_findStart_50 (lv_at hl 2 rfl) ?_
        refine lv_istore_n (lv' := [(2, .int (nI d)), (3, .long (pwF tx wi wq (d + 8))), (6, .long (pwF tx wi wq (d + 8))), (5, .int (nI d)), (0, .ref h0), (1, .ref wv)]) hx hb d_RE_findStart_52 rfl hl (by decide) rfl (fun ls hl => ?_)
        refine lv_iinc (k := 3) (v := nI (d + 1)) (lv' := [(5, .int (nI (d + 1))), (2, .int (nI d)), (3, .long (pwF tx wi wq (d + 8))), (6, .long (pwF tx wi wq (d + 8))), (0, .ref h0), (1, .ref wv)]) hx hb d_RE_findStart_53 hl rfl (k_incN _ 1) (by decide) rfl (fun ls hl => ?_)
        refine lv_goto (tgt := 9) hx hb d_RE_findStart_56 (by decide) ?_
        exact ih_d (by omega)   H locs ls (by first | (rw [fsF_t h44]; exact lv_sub hl [0, 2, 1, 4, 5] rfl) | (rw [fsF_f h44]; exact lv_sub hl [0, 2, 1, 4, 5] rfl)) (by exact hP) (k_Ds hD [0, 1, 2, 3, 4, 5, 6] (by decide) rfl) hS
set_option maxHeartbeats 4000000 in
set_option maxRecDepth 100000 in
theorem c_RE_numberAt (l : Launch) (D : va_G) (tc : Nat → ClassId) (tb : Nat → Nat) (q : Nat) (bt : Nat → Int32) (fr : Nat) (ct : Nat) (hfr : fr + ct ≤ 144) : Mi l D tc tb y_RE_numberAt prog_5_method_11_code 5 (some .int) ({ frames := 0, cells := 0, slots := 0, locals := 0 }) [.ref q, .int (nI fr), .int (nI ct)] [(q, .inl (tc 0, 144, .inl bt))] (fun _ : Unit => True) (fun _ : Unit => nbF bt fr ct) (fun _ : Unit => [(q, .inl (tc 0, 144, .inl bt))]) := by
  refine Mi.go (by decide) (Nat.le_of_ble_eq_true rfl) ?_
  intro p e s m below meth c A ls R args Q C
  obtain ⟨hx, hb, hr, hts, hown, hlk, hml, hin, hA, hST, hN, hK, hP, hD, hS, hl, hR, hQ⟩ := C
  have hw : ∀ w ∈ lw_g, w.before args s = true := fun w h => hts w (List.mem_cons_of_mem _ h)
  have hl : lv_has ls 5 [(0, .ref q), (1, .int (nI fr)), (2, .int (nI ct))] := hl
  refine lv_iconst (v := nI 0) hx hb d_RE_numberAt_0 (by decide) ?_
  refine lv_istore_n (lv' := [(3, .int (nI 0)), (0, .ref q), (1, .int (nI fr)), (2, .int (nI ct))]) hx hb d_RE_numberAt_1 rfl hl (by decide) rfl (fun ls hl => ?_)
  refine lv_iconst (v := nI 0) hx hb d_RE_numberAt_2 (by decide) ?_
  refine lv_istore (lv' := [(4, .int (nI 0)), (3, .int (nI 0)), (0, .ref q), (1, .int (nI fr)), (2, .int (nI ct))]) hx hb d_RE_numberAt_3 hl (by decide) rfl (fun ls hl => ?_)
  refine k_loop (P := fun k : Nat => ∀ (H : Heap) (locs : List Loc) (ls : Array Slot), lv_has ls 5 [(4, .int (nI k)), (3, .int (nbF bt fr k)), (0, .ref q), (1, .int (nI fr)), (2, .int (nI ct))] → va_P D classes [(q, .inl (tc 0, 144, .inl bt))] H → va_D A [(q, .inl (tc 0, 144, .inl bt))] → va_S A s.heap H locs → W p l e R s m args below meth c H locs 0 0 Q (F0 m 5 ls [])) (ct) (fun k hk_k ih_k  H locs ls hl hP hD hS => ?_) (0) (by omega)   s.heap [] ls (lv_sub hl [0, 1, 2, 3, 4] rfl) (by exact hP) (k_Ds hD [0] (by decide) rfl) hS
  refine lv_iload hx hb d_RE_numberAt_5 (lv_at hl 0 rfl) ?_
  refine lv_iload_n hx hb d_RE_numberAt_7 rfl (lv_at hl 4 rfl) ?_
  refine k_icmp_ge (tgt := 29) hx hb d_RE_numberAt_8 (by decide) (by omega) (by omega) (fun h8 => ?_) (fun h8 => ?_)
  · obtain rfl : ct = k := by omega
    refine lv_iload_n hx hb d_RE_numberAt_29 rfl (lv_at hl 1 rfl) ?_
    rw [hQ]
    exact k_iret () hx hb hr hlk hK hP hD hS [0] (by decide) rfl trivial rfl d_RE_numberAt_30
  · refine lv_iload_n hx hb d_RE_numberAt_11 rfl (lv_at hl 1 rfl) ?_
    refine lv_aload_n hx hb d_RE_numberAt_12 rfl (lv_at hl 2 rfl) ?_
    refine lv_iload_n hx hb d_RE_numberAt_13 rfl (lv_at hl 3 rfl) ?_
    refine lv_iload hx hb d_RE_numberAt_14 (lv_at hl 0 rfl) ?_
    refine k_iadd hx hb d_RE_numberAt_16 ?_
    refine k_iald hx hb hK hP 0 0 rfl rfl (by omega) (by omega) d_RE_numberAt_17 ?_
    refine lv_iload hx hb d_RE_numberAt_18 (lv_at hl 0 rfl) ?_
    refine lv_ishl hx hb d_RE_numberAt_20 ?_
    refine lv_ior hx hb d_RE_numberAt_21 ?_
    refine k_topi (y := nbF bt fr (k + 1)) rfl ?_
    refine lv_istore_n (lv' := [(3, .int (nbF bt fr (k + 1))), (4, .int (nI k)), (0, .ref q), (1, .int (nI fr)), (2, .int (nI ct))]) hx hb d_RE_numberAt_22 rfl hl (by decide) rfl (fun ls hl => ?_)
    refine lv_iinc (k := 1) (v := nI (k + 1)) (lv' := [(4, .int (nI (k + 1))), (3, .int (nbF bt fr (k + 1))), (0, .ref q), (1, .int (nI fr)), (2, .int (nI ct))]) hx hb d_RE_numberAt_23 hl rfl (k_incN _ 1) (by decide) rfl (fun ls hl => ?_)
    refine lv_goto (tgt := 5) hx hb d_RE_numberAt_26 (by decide) ?_
    exact ih_k (by omega)   H locs ls (lv_sub hl [0, 1, 2, 3, 4] rfl) (by exact hP) (k_Ds hD [0] (by decide) rfl) hS
set_option maxHeartbeats 4000000 in
set_option maxRecDepth 100000 in
theorem c_RE_scrambledByte (l : Launch) (D : va_G) (tc : Nat → ClassId) (tb : Nat → Nat) (h0 : Nat) (to : Nat) (fo : Nat) (le : Nat) (tr : Nat) (po : Nat) (sy : Nat) (so : Nat) (pt : Nat) (sk : Nat) (fcn : Int32) (sv : Int32) : Mi l D tc tb y_RE_scrambledByte prog_5_method_13_code 3 (some .int) ({ frames := 1, cells := 0, slots := 0, locals := 21 }) [.ref h0] [(h0, .inr (6, [.ref to, .ref fo, .int (fcn), .ref le, .ref tr, .ref po, .ref sy, .ref so, .ref pt, .ref sk])), (sk, .inr (3, [.int (sv)]))] (fun _ : Unit => True) (fun _ : Unit => sbF sv 8) (fun _ : Unit => [(h0, .inr (6, [.ref to, .ref fo, .int (fcn), .ref le, .ref tr, .ref po, .ref sy, .ref so, .ref pt, .ref sk])), (sk, .inr (3, [.int (scI sv 8)]))]) := by
  refine Mi.go (by decide) (Nat.le_of_ble_eq_true rfl) ?_
  intro p e s m below meth c A ls R args Q C
  obtain ⟨hx, hb, hr, hts, hown, hlk, hml, hin, hA, hST, hN, hK, hP, hD, hS, hl, hR, hQ⟩ := C
  have hw : ∀ w ∈ lw_g, w.before args s = true := fun w h => hts w (List.mem_cons_of_mem _ h)
  have hl : lv_has ls 3 [(0, .ref h0)] := hl
  refine lv_iconst (v := nI 0) hx hb d_RE_scrambledByte_0 (by decide) ?_
  refine lv_istore_n (lv' := [(1, .int (nI 0)), (0, .ref h0)]) hx hb d_RE_scrambledByte_1 rfl hl (by decide) rfl (fun ls hl => ?_)
  refine lv_iconst (v := nI 0) hx hb d_RE_scrambledByte_2 (by decide) ?_
  refine lv_istore_n (lv' := [(2, .int (nI 0)), (1, .int (nI 0)), (0, .ref h0)]) hx hb d_RE_scrambledByte_3 rfl hl (by decide) rfl (fun ls hl => ?_)
  refine k_loop (P := fun k : Nat => ∀ (H : Heap) (locs : List Loc) (ls : Array Slot), lv_has ls 3 [(2, .int (nI k)), (1, .int (sbF sv k)), (0, .ref h0)] → va_P D classes [(h0, .inr (6, [.ref to, .ref fo, .int (fcn), .ref le, .ref tr, .ref po, .ref sy, .ref so, .ref pt, .ref sk])), (sk, .inr (3, [.int (scI sv k)]))] H → va_D A [(h0, .inr (6, [.ref to, .ref fo, .int (fcn), .ref le, .ref tr, .ref po, .ref sy, .ref so, .ref pt, .ref sk])), (sk, .inr (3, [.int (scI sv k)]))] → va_S A s.heap H locs → W p l e R s m args below meth c H locs 0 0 Q (F0 m 4 ls [])) (8) (fun k hk_k ih_k  H locs ls hl hP hD hS => ?_) (0) (by omega)   s.heap [] ls (lv_sub hl [0, 1, 2] rfl) (by rw [scI_0]; exact hP) (k_Ds hD [0, 1] (by decide) rfl) hS
  refine lv_iload_n hx hb d_RE_scrambledByte_4 rfl (lv_at hl 0 rfl) ?_
  refine lv_bipush (v := nI 8) hx hb d_RE_scrambledByte_5 (by decide) ?_
  refine k_icmp_ge (tgt := 28) hx hb d_RE_scrambledByte_7 (by decide) (by omega) (by omega) (fun h7 => ?_) (fun h7 => ?_)
  · obtain rfl : 8 = k := by omega
    refine lv_iload_n hx hb d_RE_scrambledByte_28 rfl (lv_at hl 1 rfl) ?_
    rw [hQ]
    exact k_iret () hx hb hr hlk hK hP hD hS [0, 1] (by decide) rfl trivial rfl d_RE_scrambledByte_29
  · refine lv_iload_n hx hb d_RE_scrambledByte_10 rfl (lv_at hl 1 rfl) ?_
    refine lv_aload_n hx hb d_RE_scrambledByte_11 rfl (lv_at hl 2 rfl) ?_
    refine k_get hx hb hw uw_RE hown hK hP 0 rfl rfl 9 (by decide) (hw _ wd_229) rfl d_RE_scrambledByte_12 ?_
    refine k_calli (wr := [(h0, .inr (6, [.ref to, .ref fo, .int (fcn), .ref le, .ref tr, .ref po, .ref sy, .ref so, .ref pt, .ref sk]))]) (k_runV (As := []) (rest := [.int (sbF sv k)]) (wc := [(sk, .inr (3, [.int ((scI sv k))]))]) ⟨hx, hb, hml, hown, hts⟩ (c_SC_next l D tc tb sk (scI sv k)  H.size) (cwV 0 hts (k_goodV wd_684 wd_527 wd_528 wd_6 wd_529) rfl rfl rfl ⟨rfl, hd_SC_next⟩ ⟨by rw [hR]; exact Nat.le_of_ble_eq_true rfl, by rw [hR]; exact Nat.le_of_ble_eq_true rfl⟩) hK hP hD hS hST hN hA [1] (by decide) rfl 1 rfl rfl rfl rfl hl.1 rfl (Nat.le_of_ble_eq_true rfl) d_RE_scrambledByte_15 ⟨by rw [hR]; exact Nat.le_of_ble_eq_true rfl, by rw [hR]; exact Nat.le_of_ble_eq_true rfl⟩) hP hD hS hA [1] [0] rfl rfl (by decide) (by decide) (fun _ H locs hp15 hP hD hS => ?_)
    have hP : va_P D classes [(h0, .inr (6, [.ref to, .ref fo, .int (fcn), .ref le, .ref tr, .ref po, .ref sy, .ref so, .ref pt, .ref sk])), (sk, .inr (3, [.int (scN (scI sv k))]))] H := hP
    have hD : va_D A [(h0, .inr (6, [.ref to, .ref fo, .int (fcn), .ref le, .ref tr, .ref po, .ref sy, .ref so, .ref pt, .ref sk])), (sk, .inr (3, [.int (scN (scI sv k))]))] := hD
    refine W.widen (k := 0) (n := 0) (Nat.le_of_ble_eq_true rfl) (Nat.le_of_ble_eq_true rfl) ?_
    refine W.eq (g2 := F0 m 18 ls [.int (scF (scI sv k)), .int (sbF sv k)]) rfl ?_
    refine lv_iload_n hx hb d_RE_scrambledByte_18 rfl (lv_at hl 0 rfl) ?_
    refine lv_ishl hx hb d_RE_scrambledByte_19 ?_
    refine lv_ior hx hb d_RE_scrambledByte_20 ?_
    refine k_topi (y := sbF sv (k + 1)) rfl ?_
    refine lv_istore_n (lv' := [(1, .int (sbF sv (k + 1))), (2, .int (nI k)), (0, .ref h0)]) hx hb d_RE_scrambledByte_21 rfl hl (by decide) rfl (fun ls hl => ?_)
    refine lv_iinc (k := 1) (v := nI (k + 1)) (lv' := [(2, .int (nI (k + 1))), (1, .int (sbF sv (k + 1))), (0, .ref h0)]) hx hb d_RE_scrambledByte_22 hl rfl (k_incN _ 1) (by decide) rfl (fun ls hl => ?_)
    refine lv_goto (tgt := 4) hx hb d_RE_scrambledByte_25 (by decide) ?_
    exact ih_k (by omega)   H locs ls (lv_sub hl [0, 1, 2] rfl) (by rw [scI_s]; exact hP) (k_Ds hD [0, 1] (by decide) rfl) hS
