set_option maxHeartbeats 4000000 in
set_option maxRecDepth 100000 in
theorem c_CL_put_no (l : Launch) (D : va_G) (tc : Nat → ClassId) (tb : Nat → Nat) (h0 : Nat) (wq0 : Nat) (fw : Nat) (oa : Nat) (sn : Nat) (rc : Nat) (mc : Nat) (xn : Int32) (y : Int64) (hbad : xn < nI 1 ∨ nI 8 < xn ∨ nI 12 < nI mc + xn) : Mi l D tc tb y_CL_put prog_1_method_2_code 5 (some .boolean) ({ frames := 0, cells := 0, slots := 0, locals := 0 }) [.ref h0, .int (xn), .long (y)] [(h0, .inr (0, [.ref wq0, .int (nI mc), .ref fw, .ref oa, .ref sn, .ref rc]))] (fun _ : Unit => True) (fun _ : Unit => nI 0) (fun _ : Unit => [(h0, .inr (0, [.ref wq0, .int (nI mc), .ref fw, .ref oa, .ref sn, .ref rc]))]) := by
  refine Mi.go (by decide) (Nat.le_of_ble_eq_true rfl) ?_
  intro p e s m below meth c A ls R args Q C
  obtain ⟨hx, hb, hr, hts, hown, hlk, hml, hin, hA, hST, hN, hK, hP, hD, hS, hl, hR, hQ⟩ := C
  have hw : ∀ w ∈ lw_g, w.before args s = true := fun w h => hts w (List.mem_cons_of_mem _ h)
  have hl : lv_has ls 5 [(0, .ref h0), (1, .int (xn)), (2, .long (y))] := hl
  refine lv_iload_n hx hb d_CL_put_0 rfl (lv_at hl 1 rfl) ?_
  refine lv_iconst (v := nI 1) hx hb d_CL_put_1 (by decide) ?_
  refine lv_icmp_lt (tgt := 22) hx hb d_CL_put_2 (by decide) (fun h2 => ?_) (fun h2 => ?_)
  · refine lv_iconst (v := nI 0) hx hb d_CL_put_22 (by decide) ?_
    rw [hQ]
    exact k_zret () hx hb hr hlk hK hP hD hS [0] (by decide) rfl trivial rfl rfl d_CL_put_23
  · refine lv_iload_n hx hb d_CL_put_5 rfl (lv_at hl 1 rfl) ?_
    refine lv_bipush (v := nI 8) hx hb d_CL_put_6 (by decide) ?_
    refine lv_icmp_gt (tgt := 22) hx hb d_CL_put_8 (by decide) (fun h8 => ?_) (fun h8 => ?_)
    · refine lv_iconst (v := nI 0) hx hb d_CL_put_22 (by decide) ?_
      rw [hQ]
      exact k_zret () hx hb hr hlk hK hP hD hS [0] (by decide) rfl trivial rfl rfl d_CL_put_23
    · refine lv_aload_n hx hb d_CL_put_11 rfl (lv_at hl 0 rfl) ?_
      refine k_get hx hb hw uw_CL hown hK hP 0 rfl rfl 1 (by decide) (hw _ wd_252) rfl d_CL_put_12 ?_
      refine lv_iload_n hx hb d_CL_put_15 rfl (lv_at hl 1 rfl) ?_
      refine lv_iadd hx hb d_CL_put_16 ?_
      refine lv_bipush (v := nI 12) hx hb d_CL_put_17 (by decide) ?_
      refine lv_icmp_le (tgt := 24) hx hb d_CL_put_19 (by decide) (fun h19 => ?_) (fun h19 => ?_)
      · exact False.elim (hbad.elim h2 (fun q9 => q9.elim h8 (fun w9 => absurd h19 (Int32.not_le.mpr w9))))
      · refine lv_iconst (v := nI 0) hx hb d_CL_put_22 (by decide) ?_
        rw [hQ]
        exact k_zret () hx hb hr hlk hK hP hD hS [0] (by decide) rfl trivial rfl rfl d_CL_put_23
set_option maxHeartbeats 4000000 in
set_option maxRecDepth 100000 in
theorem c_CL_put_ok (l : Launch) (D : va_G) (tc : Nat → ClassId) (tb : Nat → Nat) (h0 : Nat) (wq0 : Nat) (fw : Nat) (oa : Nat) (sn : Nat) (rc : Nat) (mc : Nat) (wf : Nat → Int32) (n : Nat) (y : Int64) (hn1 : 1 ≤ n) (hn8 : n ≤ 8) (hmc : mc + n ≤ 12) : Mi l D tc tb y_CL_put prog_1_method_2_code 5 (some .boolean) ({ frames := 0, cells := 0, slots := 0, locals := 0 }) [.ref h0, .int (nI n), .long (y)] [(h0, .inr (0, [.ref wq0, .int (nI mc), .ref fw, .ref oa, .ref sn, .ref rc])), (wq0, .inl (tc 0, 12, .inl wf))] (fun _ : Unit => True) (fun _ : Unit => nI 1) (fun _ : Unit => [(h0, .inr (0, [.ref wq0, .int (nI (mc + n)), .ref fw, .ref oa, .ref sn, .ref rc])), (wq0, .inl (tc 0, 12, .inl (puF y n mc wf)))]) := by
  refine Mi.go (by decide) (Nat.le_of_ble_eq_true rfl) ?_
  intro p e s m below meth c A ls R args Q C
  obtain ⟨hx, hb, hr, hts, hown, hlk, hml, hin, hA, hST, hN, hK, hP, hD, hS, hl, hR, hQ⟩ := C
  have hw : ∀ w ∈ lw_g, w.before args s = true := fun w h => hts w (List.mem_cons_of_mem _ h)
  have hl : lv_has ls 5 [(0, .ref h0), (1, .int (nI n)), (2, .long (y))] := hl
  refine lv_iload_n hx hb d_CL_put_0 rfl (lv_at hl 1 rfl) ?_
  refine lv_iconst (v := nI 1) hx hb d_CL_put_1 (by decide) ?_
  refine k_icmp_lt (tgt := 22) hx hb d_CL_put_2 (by decide) (by omega) (by omega) (fun h2 => ?_) (fun h2 => ?_)
  · exfalso; omega
  · refine lv_iload_n hx hb d_CL_put_5 rfl (lv_at hl 1 rfl) ?_
    refine lv_bipush (v := nI 8) hx hb d_CL_put_6 (by decide) ?_
    refine k_icmp_gt (tgt := 22) hx hb d_CL_put_8 (by decide) (by omega) (by omega) (fun h8 => ?_) (fun h8 => ?_)
    · exfalso; omega
    · refine lv_aload_n hx hb d_CL_put_11 rfl (lv_at hl 0 rfl) ?_
      refine k_get hx hb hw uw_CL hown hK hP 0 rfl rfl 1 (by decide) (hw _ wd_252) rfl d_CL_put_12 ?_
      refine lv_iload_n hx hb d_CL_put_15 rfl (lv_at hl 1 rfl) ?_
      refine k_iadd hx hb d_CL_put_16 ?_
      refine lv_bipush (v := nI 12) hx hb d_CL_put_17 (by decide) ?_
      refine k_icmp_le (tgt := 24) hx hb d_CL_put_19 (by decide) (by omega) (by omega) (fun h19 => ?_) (fun h19 => ?_)
      · refine lv_iload_n hx hb d_CL_put_24 rfl (lv_at hl 1 rfl) ?_
        refine lv_iconst (v := nI 1) hx hb d_CL_put_25 (by decide) ?_
        refine lv_isub hx hb d_CL_put_26 ?_
        refine lv_istore (lv' := [(4, .int ((nI n) - (nI 1))), (0, .ref h0), (1, .int (nI n)), (2, .long (y))]) hx hb d_CL_put_27 hl (by decide) rfl (fun ls hl => ?_)
        refine k_loopN (P := fun j : Nat => ∀ (cx : Nat) (fx : Nat → Int32), (j ≤ n) → (cx + j = mc + n) → (puF y j cx fx = puF y n mc wf) → ∀ (H : Heap) (locs : List Loc) (ls : Array Slot), lv_has ls 5 [(4, .int (nI j - nI 1)), (0, .ref h0), (1, .int (nI n)), (2, .long (y))] → va_P D classes [(h0, .inr (0, [.ref wq0, .int (nI cx), .ref fw, .ref oa, .ref sn, .ref rc])), (wq0, .inl (tc 0, 12, .inl fx))] H → va_D A [(h0, .inr (0, [.ref wq0, .int (nI cx), .ref fw, .ref oa, .ref sn, .ref rc])), (wq0, .inl (tc 0, 12, .inl fx))] → va_S A s.heap H locs → W p l e R s m args below meth c H locs 0 0 Q (F0 m 29 ls [])) (fun j ih_j cx fx hj hcx hg H locs ls hl hP hD hS => ?_) (n) mc wf (by omega) (by omega) (by rfl) s.heap [] ls (lv_sub hl [0, 1, 2, 3] rfl) (by exact hP) (k_Ds hD [0, 1] (by decide) rfl) hS
        refine lv_iload hx hb d_CL_put_29 (lv_at hl 0 rfl) ?_
        refine lv_if_lt (tgt := 71) hx hb d_CL_put_31 (by decide) (fun h31 => ?_) (fun h31 => ?_)
        · obtain rfl := k_eq0 (by omega) h31
          obtain rfl : cx = mc + n := by omega
          have hg : fx = puF y n mc wf := hg
          subst hg
          refine lv_iconst (v := nI 1) hx hb d_CL_put_71 (by decide) ?_
          rw [hQ]
          exact k_zret () hx hb hr hlk hK hP hD hS [0, 1] (by decide) rfl trivial rfl rfl d_CL_put_72
        · obtain ⟨i, rfl⟩ := k_lt0 (by omega) h31
          rw [k_prd] at hl
          refine lv_aload_n hx hb d_CL_put_34 rfl (lv_at hl 1 rfl) ?_
          refine k_get hx hb hw uw_CL hown hK hP 0 rfl rfl 0 (by decide) (hw _ wd_251) rfl d_CL_put_35 ?_
          refine lv_aload_n hx hb d_CL_put_38 rfl (lv_at hl 1 rfl) ?_
          refine k_get hx hb hw uw_CL hown hK hP 0 rfl rfl 1 (by decide) (hw _ wd_252) rfl d_CL_put_39 ?_
          refine lv_lload_n hx hb d_CL_put_42 rfl (lv_at hl 3 rfl) ?_
          refine lv_bipush (v := nI 8) hx hb d_CL_put_43 (by decide) ?_
          refine lv_iload hx hb d_CL_put_45 (lv_at hl 0 rfl) ?_
          refine k_imul hx hb d_CL_put_47 ?_
          refine lv_lshr hx hb d_CL_put_48 rfl ?_
          refine lv_l2i hx hb d_CL_put_49 rfl ?_
          refine lv_sipush (v := nI 255) hx hb d_CL_put_50 (by decide) ?_
          refine lv_iand hx hb d_CL_put_53 ?_
          refine k_iast (ws' := [(h0, .inr (0, [.ref wq0, .int (nI cx), .ref fw, .ref oa, .ref sn, .ref rc])), (wq0, .inl (tc 0, 12, .inl (upd fx cx (((y >>> ((nI (8 * i)).toInt64 &&& 63)).toInt32) &&& (nI 255)))))]) hx hb hK hP hD hS 1 0 rfl rfl (by omega) (by omega) d_CL_put_54 rfl (fun H locs hP hD hS => ?_)
          refine lv_aload_n hx hb d_CL_put_55 rfl (lv_at hl 1 rfl) ?_
          refine lv_dup hx hb d_CL_put_56 rfl ?_
          refine k_get hx hb hw uw_CL hown hK hP 0 rfl rfl 1 (by decide) (hw _ wd_252) rfl d_CL_put_57 ?_
          refine lv_iconst (v := nI 1) hx hb d_CL_put_60 (by decide) ?_
          refine k_iadd hx hb d_CL_put_61 ?_
          refine k_put (ws' := [(h0, .inr (0, [.ref wq0, .int (nI (cx + 1)), .ref fw, .ref oa, .ref sn, .ref rc])), (wq0, .inl (tc 0, 12, .inl (upd fx cx (((y >>> ((nI (8 * i)).toInt64 &&& 63)).toInt32) &&& (nI 255)))))]) hx hb hw uw_CL tok_CL nn_CL hown hK hP hD hS 0 rfl rfl 1 (by decide) (hw _ wd_252) rfl rfl rfl (Nat.le_of_ble_eq_true rfl) d_CL_put_62 rfl (fun H locs hP hD hS => ?_)
          refine lv_iinc (k := 0) (v := nI (i) - nI 1) (lv' := [(4, .int (nI (i) - nI 1)), (0, .ref h0), (1, .int (nI n)), (2, .long (y))]) hx hb d_CL_put_65 hl rfl (k_dec1 _) (by decide) rfl (fun ls hl => ?_)
          refine lv_goto (tgt := 29) hx hb d_CL_put_68 (by decide) ?_
          exact ih_j i rfl (cx + 1) (upd fx cx (((y >>> ((nI (8 * i)).toInt64 &&& 63)).toInt32) &&& (nI 255))) (by omega) (by omega) (by rw [← hg, puF_s]; rfl) H locs ls (lv_sub hl [0, 1, 2, 3] rfl) (by exact hP) (k_Ds hD [0, 1] (by decide) rfl) hS
      · exfalso; omega
set_option maxHeartbeats 4000000 in
set_option maxRecDepth 100000 in
theorem c_CL_wipe (l : Launch) (D : va_G) (tc : Nat → ClassId) (tb : Nat → Nat) (h0 : Nat) (wq0 : Nat) (fw : Nat) (oa : Nat) (sn : Nat) (rc : Nat) (mc : Nat) : Mv l D tc tb y_CL_wipe prog_1_method_3_code 1 none ({ frames := 0, cells := 0, slots := 0, locals := 0 }) [.ref h0] [(h0, .inr (0, [.ref wq0, .int (nI mc), .ref fw, .ref oa, .ref sn, .ref rc]))] (fun _ : Unit => True) (fun _ : Unit => [(h0, .inr (0, [.ref wq0, .int (nI 0), .ref fw, .ref oa, .ref sn, .ref rc]))]) := by
  refine Mv.go (by decide) (Nat.le_of_ble_eq_true rfl) ?_
  intro p e s m below meth c A ls R args Q C
  obtain ⟨hx, hb, hr, hts, hown, hlk, hml, hin, hA, hST, hN, hK, hP, hD, hS, hl, hR, hQ⟩ := C
  have hw : ∀ w ∈ lw_g, w.before args s = true := fun w h => hts w (List.mem_cons_of_mem _ h)
  have hl : lv_has ls 1 [(0, .ref h0)] := hl
  refine lv_aload_n hx hb d_CL_wipe_0 rfl (lv_at hl 0 rfl) ?_
  refine lv_iconst (v := nI 0) hx hb d_CL_wipe_1 (by decide) ?_
  refine k_put (ws' := [(h0, .inr (0, [.ref wq0, .int (nI 0), .ref fw, .ref oa, .ref sn, .ref rc]))]) hx hb hw uw_CL tok_CL nn_CL hown hK hP hD hS 0 rfl rfl 1 (by decide) (hw _ wd_252) rfl rfl rfl (Nat.le_of_ble_eq_true rfl) d_CL_wipe_2 rfl (fun H locs hP hD hS => ?_)
  rw [hQ]
  exact k_vret () hx hb hr hlk hK hP hD hS [0] (by decide) rfl trivial d_CL_wipe_5
set_option maxHeartbeats 4000000 in
set_option maxRecDepth 100000 in
theorem c_MO_put_no (l : Launch) (D : va_G) (tc : Nat → ClassId) (tb : Nat → Nat) (h0 : Nat) (ndb : Nat) (ncb : Nat) (nfr : Nat) (nsy : Nat) (nai : Nat) (xth : Int32) (xra : Int32) (xas : Int32) (xan : Int32) (xst : Int32) (xhr : Int32) (xhb : Int32) (xse : Int32) (xbe : Int32) (xrg : Int32) (a1 : Nat) (a2 : Nat) (a3 : Nat) (a4 : Nat) (a5 : Nat) (a6 : Nat) (a7 : Nat) (a8 : Nat) (a9 : Nat) (b1 : Nat) (b2 : Nat) (b3 : Nat) (b4 : Nat) (b5 : Nat) (b6 : Nat) (b7 : Nat) (b8 : Nat) (c1 : Nat) (c2 : Nat) (c3 : Nat) (c4 : Nat) (c5 : Nat) (c6 : Nat) (c7 : Nat) (mc : Nat) (xn : Int32) (y : Int64) (hbad : xn < nI 1 ∨ nI 8 < xn ∨ nI 12 < nI mc + xn) : Mi l D tc tb y_MO_put prog_10_method_16_code 5 (some .boolean) ({ frames := 0, cells := 0, slots := 0, locals := 0 }) [.ref h0, .int (xn), .long (y)] [(h0, .inr (8, [.int (xth), .int (nI mc), .ref a1, .int (xra), .int (nI ndb), .ref a2, .int (nI ncb), .ref a3, .ref a4, .int (nI nfr), .ref a5, .ref a6, .int (nI nsy), .int (nI nai), .ref a7, .ref a8, .int (xas), .int (xan), .int (xst), .int (xhr), .int (xhb), .int (xse), .int (xbe), .ref a9, .ref b1, .ref b2, .ref b3, .ref b4, .ref b5, .ref b6, .ref b7, .ref b8, .ref c1, .ref c2, .ref c3, .ref c4, .ref c5, .ref c6, .ref c7, .int (xrg)]))] (fun _ : Unit => True) (fun _ : Unit => nI 0) (fun _ : Unit => [(h0, .inr (8, [.int (nI 0), .int (nI mc), .ref a1, .int (xra), .int (nI ndb), .ref a2, .int (nI ncb), .ref a3, .ref a4, .int (nI nfr), .ref a5, .ref a6, .int (nI nsy), .int (nI nai), .ref a7, .ref a8, .int (xas), .int (xan), .int (xst), .int (xhr), .int (xhb), .int (xse), .int (xbe), .ref a9, .ref b1, .ref b2, .ref b3, .ref b4, .ref b5, .ref b6, .ref b7, .ref b8, .ref c1, .ref c2, .ref c3, .ref c4, .ref c5, .ref c6, .ref c7, .int (xrg)]))]) := by
  refine Mi.go (by decide) (Nat.le_of_ble_eq_true rfl) ?_
  intro p e s m below meth c A ls R args Q C
  obtain ⟨hx, hb, hr, hts, hown, hlk, hml, hin, hA, hST, hN, hK, hP, hD, hS, hl, hR, hQ⟩ := C
  have hw : ∀ w ∈ lw_g, w.before args s = true := fun w h => hts w (List.mem_cons_of_mem _ h)
  have hl : lv_has ls 5 [(0, .ref h0), (1, .int (xn)), (2, .long (y))] := hl
  refine lv_aload_n hx hb d_MO_put_0 rfl (lv_at hl 0 rfl) ?_
  refine lv_iconst (v := nI 0) hx hb d_MO_put_1 (by decide) ?_
  refine k_put (ws' := [(h0, .inr (8, [.int (nI 0), .int (nI mc), .ref a1, .int (xra), .int (nI ndb), .ref a2, .int (nI ncb), .ref a3, .ref a4, .int (nI nfr), .ref a5, .ref a6, .int (nI nsy), .int (nI nai), .ref a7, .ref a8, .int (xas), .int (xan), .int (xst), .int (xhr), .int (xhb), .int (xse), .int (xbe), .ref a9, .ref b1, .ref b2, .ref b3, .ref b4, .ref b5, .ref b6, .ref b7, .ref b8, .ref c1, .ref c2, .ref c3, .ref c4, .ref c5, .ref c6, .ref c7, .int (xrg)]))]) hx hb hw uw_MO tok_MO nn_MO hown hK hP hD hS 0 rfl rfl 0 (by decide) (hw _ wd_714) rfl rfl rfl (Nat.le_of_ble_eq_true rfl) d_MO_put_2 rfl (fun H locs hP hD hS => ?_)
  refine lv_iload_n hx hb d_MO_put_5 rfl (lv_at hl 1 rfl) ?_
  refine lv_iconst (v := nI 1) hx hb d_MO_put_6 (by decide) ?_
  refine lv_icmp_lt (tgt := 27) hx hb d_MO_put_7 (by decide) (fun h7 => ?_) (fun h7 => ?_)
  · refine lv_iconst (v := nI 0) hx hb d_MO_put_27 (by decide) ?_
    rw [hQ]
    exact k_zret () hx hb hr hlk hK hP hD hS [0] (by decide) rfl trivial rfl rfl d_MO_put_28
  · refine lv_iload_n hx hb d_MO_put_10 rfl (lv_at hl 1 rfl) ?_
    refine lv_bipush (v := nI 8) hx hb d_MO_put_11 (by decide) ?_
    refine lv_icmp_gt (tgt := 27) hx hb d_MO_put_13 (by decide) (fun h13 => ?_) (fun h13 => ?_)
    · refine lv_iconst (v := nI 0) hx hb d_MO_put_27 (by decide) ?_
      rw [hQ]
      exact k_zret () hx hb hr hlk hK hP hD hS [0] (by decide) rfl trivial rfl rfl d_MO_put_28
    · refine lv_aload_n hx hb d_MO_put_16 rfl (lv_at hl 0 rfl) ?_
      refine k_get hx hb hw uw_MO hown hK hP 0 rfl rfl 1 (by decide) (hw _ wd_715) rfl d_MO_put_17 ?_
      refine lv_iload_n hx hb d_MO_put_20 rfl (lv_at hl 1 rfl) ?_
      refine lv_iadd hx hb d_MO_put_21 ?_
      refine lv_bipush (v := nI 12) hx hb d_MO_put_22 (by decide) ?_
      refine lv_icmp_le (tgt := 29) hx hb d_MO_put_24 (by decide) (fun h24 => ?_) (fun h24 => ?_)
      · exact False.elim (hbad.elim h7 (fun q9 => q9.elim h13 (fun w9 => absurd h24 (Int32.not_le.mpr w9))))
      · refine lv_iconst (v := nI 0) hx hb d_MO_put_27 (by decide) ?_
        rw [hQ]
        exact k_zret () hx hb hr hlk hK hP hD hS [0] (by decide) rfl trivial rfl rfl d_MO_put_28
set_option maxHeartbeats 4000000 in
set_option maxRecDepth 100000 in
theorem c_MO_put_ok (l : Launch) (D : va_G) (tc : Nat → ClassId) (tb : Nat → Nat) (h0 : Nat) (ndb : Nat) (ncb : Nat) (nfr : Nat) (nsy : Nat) (nai : Nat) (xth : Int32) (xra : Int32) (xas : Int32) (xan : Int32) (xst : Int32) (xhr : Int32) (xhb : Int32) (xse : Int32) (xbe : Int32) (xrg : Int32) (a1 : Nat) (a2 : Nat) (a3 : Nat) (a4 : Nat) (a5 : Nat) (a6 : Nat) (a7 : Nat) (a8 : Nat) (a9 : Nat) (b1 : Nat) (b2 : Nat) (b3 : Nat) (b4 : Nat) (b5 : Nat) (b6 : Nat) (b7 : Nat) (b8 : Nat) (c1 : Nat) (c2 : Nat) (c3 : Nat) (c4 : Nat) (c5 : Nat) (c6 : Nat) (c7 : Nat) (mc : Nat) (wf : Nat → Int32) (n : Nat) (y : Int64) (hn1 : 1 ≤ n) (hn8 : n ≤ 8) (hmc : mc + n ≤ 12) : Mi l D tc tb y_MO_put prog_10_method_16_code 5 (some .boolean) ({ frames := 0, cells := 0, slots := 0, locals := 0 }) [.ref h0, .int (nI n), .long (y)] [(h0, .inr (8, [.int (xth), .int (nI mc), .ref a1, .int (xra), .int (nI ndb), .ref a2, .int (nI ncb), .ref a3, .ref a4, .int (nI nfr), .ref a5, .ref a6, .int (nI nsy), .int (nI nai), .ref a7, .ref a8, .int (xas), .int (xan), .int (xst), .int (xhr), .int (xhb), .int (xse), .int (xbe), .ref a9, .ref b1, .ref b2, .ref b3, .ref b4, .ref b5, .ref b6, .ref b7, .ref b8, .ref c1, .ref c2, .ref c3, .ref c4, .ref c5, .ref c6, .ref c7, .int (xrg)])), (a1, .inl (tc 0, 12, .inl wf))] (fun _ : Unit => True) (fun _ : Unit => nI 1) (fun _ : Unit => [(h0, .inr (8, [.int (nI 0), .int (nI (mc + n)), .ref a1, .int (xra), .int (nI ndb), .ref a2, .int (nI ncb), .ref a3, .ref a4, .int (nI nfr), .ref a5, .ref a6, .int (nI nsy), .int (nI nai), .ref a7, .ref a8, .int (xas), .int (xan), .int (xst), .int (xhr), .int (xhb), .int (xse), .int (xbe), .ref a9, .ref b1, .ref b2, .ref b3, .ref b4, .ref b5, .ref b6, .ref b7, .ref b8, .ref c1, .ref c2, .ref c3, .ref c4, .ref c5, .ref c6, .ref c7, .int (xrg)])), (a1, .inl (tc 0, 12, .inl (puF y n mc wf)))]) := by
  refine Mi.go (by decide) (Nat.le_of_ble_eq_true rfl) ?_
  intro p e s m below meth c A ls R args Q C
  obtain ⟨hx, hb, hr, hts, hown, hlk, hml, hin, hA, hST, hN, hK, hP, hD, hS, hl, hR, hQ⟩ := C
  have hw : ∀ w ∈ lw_g, w.before args s = true := fun w h => hts w (List.mem_cons_of_mem _ h)
  have hl : lv_has ls 5 [(0, .ref h0), (1, .int (nI n)), (2, .long (y))] := hl
  refine lv_aload_n hx hb d_MO_put_0 rfl (lv_at hl 0 rfl) ?_
  refine lv_iconst (v := nI 0) hx hb d_MO_put_1 (by decide) ?_
  refine k_put (ws' := [(h0, .inr (8, [.int (nI 0), .int (nI mc), .ref a1, .int (xra), .int (nI ndb), .ref a2, .int (nI ncb), .ref a3, .ref a4, .int (nI nfr), .ref a5, .ref a6, .int (nI nsy), .int (nI nai), .ref a7, .ref a8, .int (xas), .int (xan), .int (xst), .int (xhr), .int (xhb), .int (xse), .int (xbe), .ref a9, .ref b1, .ref b2, .ref b3, .ref b4, .ref b5, .ref b6, .ref b7, .ref b8, .ref c1, .ref c2, .ref c3, .ref c4, .ref c5, .ref c6, .ref c7, .int (xrg)])), (a1, .inl (tc 0, 12, .inl wf))]) hx hb hw uw_MO tok_MO nn_MO hown hK hP hD hS 0 rfl rfl 0 (by decide) (hw _ wd_714) rfl rfl rfl (Nat.le_of_ble_eq_true rfl) d_MO_put_2 rfl (fun H locs hP hD hS => ?_)
  refine lv_iload_n hx hb d_MO_put_5 rfl (lv_at hl 1 rfl) ?_
  refine lv_iconst (v := nI 1) hx hb d_MO_put_6 (by decide) ?_
  refine k_icmp_lt (tgt := 27) hx hb d_MO_put_7 (by decide) (by omega) (by omega) (fun h7 => ?_) (fun h7 => ?_)
  · exfalso; omega
  · refine lv_iload_n hx hb d_MO_put_10 rfl (lv_at hl 1 rfl) ?_
    refine lv_bipush (v := nI 8) hx hb d_MO_put_11 (by decide) ?_
    refine k_icmp_gt (tgt := 27) hx hb d_MO_put_13 (by decide) (by omega) (by omega) (fun h13 => ?_) (fun h13 => ?_)
    · exfalso; omega
    · refine lv_aload_n hx hb d_MO_put_16 rfl (lv_at hl 0 rfl) ?_
      refine k_get hx hb hw uw_MO hown hK hP 0 rfl rfl 1 (by decide) (hw _ wd_715) rfl d_MO_put_17 ?_
      refine lv_iload_n hx hb d_MO_put_20 rfl (lv_at hl 1 rfl) ?_
      refine k_iadd hx hb d_MO_put_21 ?_
      refine lv_bipush (v := nI 12) hx hb d_MO_put_22 (by decide) ?_
      refine k_icmp_le (tgt := 29) hx hb d_MO_put_24 (by decide) (by omega) (by omega) (fun h24 => ?_) (fun h24 => ?_)
      · refine lv_iload_n hx hb d_MO_put_29 rfl (lv_at hl 1 rfl) ?_
        refine lv_iconst (v := nI 1) hx hb d_MO_put_30 (by decide) ?_
        refine lv_isub hx hb d_MO_put_31 ?_
        refine lv_istore (lv' := [(4, .int ((nI n) - (nI 1))), (0, .ref h0), (1, .int (nI n)), (2, .long (y))]) hx hb d_MO_put_32 hl (by decide) rfl (fun ls hl => ?_)
        refine k_loopN (P := fun j : Nat => ∀ (cx : Nat) (fx : Nat → Int32), (j ≤ n) → (cx + j = mc + n) → (puF y j cx fx = puF y n mc wf) → ∀ (H : Heap) (locs : List Loc) (ls : Array Slot), lv_has ls 5 [(4, .int (nI j - nI 1)), (0, .ref h0), (1, .int (nI n)), (2, .long (y))] → va_P D classes [(h0, .inr (8, [.int (nI 0), .int (nI cx), .ref a1, .int (xra), .int (nI ndb), .ref a2, .int (nI ncb), .ref a3, .ref a4, .int (nI nfr), .ref a5, .ref a6, .int (nI nsy), .int (nI nai), .ref a7, .ref a8, .int (xas), .int (xan), .int (xst), .int (xhr), .int (xhb), .int (xse), .int (xbe), .ref a9, .ref b1, .ref b2, .ref b3, .ref b4, .ref b5, .ref b6, .ref b7, .ref b8, .ref c1, .ref c2, .ref c3, .ref c4, .ref c5, .ref c6, .ref c7, .int (xrg)])), (a1, .inl (tc 0, 12, .inl fx))] H → va_D A [(h0, .inr (8, [.int (nI 0), .int (nI cx), .ref a1, .int (xra), .int (nI ndb), .ref a2, .int (nI ncb), .ref a3, .ref a4, .int (nI nfr), .ref a5, .ref a6, .int (nI nsy), .int (nI nai), .ref a7, .ref a8, .int (xas), .int (xan), .int (xst), .int (xhr), .int (xhb), .int (xse), .int (xbe), .ref a9, .ref b1, .ref b2, .ref b3, .ref b4, .ref b5, .ref b6, .ref b7, .ref b8, .ref c1, .ref c2, .ref c3, .ref c4, .ref c5, .ref c6, .ref c7, .int (xrg)])), (a1, .inl (tc 0, 12, .inl fx))] → va_S A s.heap H locs → W p l e R s m args below meth c H locs 0 0 Q (F0 m 34 ls [])) (fun j ih_j cx fx hj hcx hg H locs ls hl hP hD hS => ?_) (n) mc wf (by omega) (by omega) (by rfl) H locs ls (lv_sub hl [0, 1, 2, 3] rfl) (by exact hP) (k_Ds hD [0, 1] (by decide) rfl) hS
        refine lv_iload hx hb d_MO_put_34 (lv_at hl 0 rfl) ?_
        refine lv_if_lt (tgt := 76) hx hb d_MO_put_36 (by decide) (fun h36 => ?_) (fun h36 => ?_)
        · obtain rfl := k_eq0 (by omega) h36
          obtain rfl : cx = mc + n := by omega
          have hg : fx = puF y n mc wf := hg
          subst hg
          refine lv_iconst (v := nI 1) hx hb d_MO_put_76 (by decide) ?_
          rw [hQ]
          exact k_zret () hx hb hr hlk hK hP hD hS [0, 1] (by decide) rfl trivial rfl rfl d_MO_put_77
        · obtain ⟨i, rfl⟩ := k_lt0 (by omega) h36
          rw [k_prd] at hl
          refine lv_aload_n hx hb d_MO_put_39 rfl (lv_at hl 1 rfl) ?_
          refine k_get hx hb hw uw_MO hown hK hP 0 rfl rfl 2 (by decide) (hw _ wd_716) rfl d_MO_put_40 ?_
          refine lv_aload_n hx hb d_MO_put_43 rfl (lv_at hl 1 rfl) ?_
          refine k_get hx hb hw uw_MO hown hK hP 0 rfl rfl 1 (by decide) (hw _ wd_715) rfl d_MO_put_44 ?_
          refine lv_lload_n hx hb d_MO_put_47 rfl (lv_at hl 3 rfl) ?_
          refine lv_bipush (v := nI 8) hx hb d_MO_put_48 (by decide) ?_
          refine lv_iload hx hb d_MO_put_50 (lv_at hl 0 rfl) ?_
          refine k_imul hx hb d_MO_put_52 ?_
          refine lv_lshr hx hb d_MO_put_53 rfl ?_
          refine lv_l2i hx hb d_MO_put_54 rfl ?_
          refine lv_sipush (v := nI 255) hx hb d_MO_put_55 (by decide) ?_
          refine lv_iand hx hb d_MO_put_58 ?_
          refine k_iast (ws' := [(h0, .inr (8, [.int (nI 0), .int (nI cx), .ref a1, .int (xra), .int (nI ndb), .ref a2, .int (nI ncb), .ref a3, .ref a4, .int (nI nfr), .ref a5, .ref a6, .int (nI nsy), .int (nI nai), .ref a7, .ref a8, .int (xas), .int (xan), .int (xst), .int (xhr), .int (xhb), .int (xse), .int (xbe), .ref a9, .ref b1, .ref b2, .ref b3, .ref b4, .ref b5, .ref b6, .ref b7, .ref b8, .ref c1, .ref c2, .ref c3, .ref c4, .ref c5, .ref c6, .ref c7, .int (xrg)])), (a1, .inl (tc 0, 12, .inl (upd fx cx (((y >>> ((nI (8 * i)).toInt64 &&& 63)).toInt32) &&& (nI 255)))))]) hx hb hK hP hD hS 1 0 rfl rfl (by omega) (by omega) d_MO_put_59 rfl (fun H locs hP hD hS => ?_)
          refine lv_aload_n hx hb d_MO_put_60 rfl (lv_at hl 1 rfl) ?_
          refine lv_dup hx hb d_MO_put_61 rfl ?_
          refine k_get hx hb hw uw_MO hown hK hP 0 rfl rfl 1 (by decide) (hw _ wd_715) rfl d_MO_put_62 ?_
          refine lv_iconst (v := nI 1) hx hb d_MO_put_65 (by decide) ?_
          refine k_iadd hx hb d_MO_put_66 ?_
          refine k_put (ws' := [(h0, .inr (8, [.int (nI 0), .int (nI (cx + 1)), .ref a1, .int (xra), .int (nI ndb), .ref a2, .int (nI ncb), .ref a3, .ref a4, .int (nI nfr), .ref a5, .ref a6, .int (nI nsy), .int (nI nai), .ref a7, .ref a8, .int (xas), .int (xan), .int (xst), .int (xhr), .int (xhb), .int (xse), .int (xbe), .ref a9, .ref b1, .ref b2, .ref b3, .ref b4, .ref b5, .ref b6, .ref b7, .ref b8, .ref c1, .ref c2, .ref c3, .ref c4, .ref c5, .ref c6, .ref c7, .int (xrg)])), (a1, .inl (tc 0, 12, .inl (upd fx cx (((y >>> ((nI (8 * i)).toInt64 &&& 63)).toInt32) &&& (nI 255)))))]) hx hb hw uw_MO tok_MO nn_MO hown hK hP hD hS 0 rfl rfl 1 (by decide) (hw _ wd_715) rfl rfl rfl (Nat.le_of_ble_eq_true rfl) d_MO_put_67 rfl (fun H locs hP hD hS => ?_)
          refine lv_iinc (k := 0) (v := nI (i) - nI 1) (lv' := [(4, .int (nI (i) - nI 1)), (0, .ref h0), (1, .int (nI n)), (2, .long (y))]) hx hb d_MO_put_70 hl rfl (k_dec1 _) (by decide) rfl (fun ls hl => ?_)
          refine lv_goto (tgt := 34) hx hb d_MO_put_73 (by decide) ?_
          exact ih_j i rfl (cx + 1) (upd fx cx (((y >>> ((nI (8 * i)).toInt64 &&& 63)).toInt32) &&& (nI 255))) (by omega) (by omega) (by rw [← hg, puF_s]; rfl) H locs ls (lv_sub hl [0, 1, 2, 3] rfl) (by exact hP) (k_Ds hD [0, 1] (by decide) rfl) hS
      · exfalso; omega
set_option maxHeartbeats 4000000 in
set_option maxRecDepth 100000 in
theorem c_MO_wipe (l : Launch) (D : va_G) (tc : Nat → ClassId) (tb : Nat → Nat) (h0 : Nat) (ndb : Nat) (ncb : Nat) (nfr : Nat) (nsy : Nat) (nai : Nat) (xth : Int32) (xra : Int32) (xas : Int32) (xan : Int32) (xst : Int32) (xhr : Int32) (xhb : Int32) (xse : Int32) (xbe : Int32) (xrg : Int32) (a1 : Nat) (a2 : Nat) (a3 : Nat) (a4 : Nat) (a5 : Nat) (a6 : Nat) (a7 : Nat) (a8 : Nat) (a9 : Nat) (b1 : Nat) (b2 : Nat) (b3 : Nat) (b4 : Nat) (b5 : Nat) (b6 : Nat) (b7 : Nat) (b8 : Nat) (c1 : Nat) (c2 : Nat) (c3 : Nat) (c4 : Nat) (c5 : Nat) (c6 : Nat) (c7 : Nat) (mc : Nat) : Mv l D tc tb y_MO_wipe prog_10_method_17_code 1 none ({ frames := 0, cells := 0, slots := 0, locals := 0 }) [.ref h0] [(h0, .inr (8, [.int (xth), .int (nI mc), .ref a1, .int (xra), .int (nI ndb), .ref a2, .int (nI ncb), .ref a3, .ref a4, .int (nI nfr), .ref a5, .ref a6, .int (nI nsy), .int (nI nai), .ref a7, .ref a8, .int (xas), .int (xan), .int (xst), .int (xhr), .int (xhb), .int (xse), .int (xbe), .ref a9, .ref b1, .ref b2, .ref b3, .ref b4, .ref b5, .ref b6, .ref b7, .ref b8, .ref c1, .ref c2, .ref c3, .ref c4, .ref c5, .ref c6, .ref c7, .int (xrg)]))] (fun _ : Unit => True) (fun _ : Unit => [(h0, .inr (8, [.int (nI 0), .int (nI 0), .ref a1, .int (xra), .int (nI ndb), .ref a2, .int (nI ncb), .ref a3, .ref a4, .int (nI nfr), .ref a5, .ref a6, .int (nI nsy), .int (nI nai), .ref a7, .ref a8, .int (xas), .int (xan), .int (xst), .int (xhr), .int (xhb), .int (xse), .int (xbe), .ref a9, .ref b1, .ref b2, .ref b3, .ref b4, .ref b5, .ref b6, .ref b7, .ref b8, .ref c1, .ref c2, .ref c3, .ref c4, .ref c5, .ref c6, .ref c7, .int (xrg)]))]) := by
  refine Mv.go (by decide) (Nat.le_of_ble_eq_true rfl) ?_
  intro p e s m below meth c A ls R args Q C
  obtain ⟨hx, hb, hr, hts, hown, hlk, hml, hin, hA, hST, hN, hK, hP, hD, hS, hl, hR, hQ⟩ := C
  have hw : ∀ w ∈ lw_g, w.before args s = true := fun w h => hts w (List.mem_cons_of_mem _ h)
  have hl : lv_has ls 1 [(0, .ref h0)] := hl
  refine lv_aload_n hx hb d_MO_wipe_0 rfl (lv_at hl 0 rfl) ?_
  refine lv_iconst (v := nI 0) hx hb d_MO_wipe_1 (by decide) ?_
  refine k_put (ws' := [(h0, .inr (8, [.int (nI 0), .int (nI mc), .ref a1, .int (xra), .int (nI ndb), .ref a2, .int (nI ncb), .ref a3, .ref a4, .int (nI nfr), .ref a5, .ref a6, .int (nI nsy), .int (nI nai), .ref a7, .ref a8, .int (xas), .int (xan), .int (xst), .int (xhr), .int (xhb), .int (xse), .int (xbe), .ref a9, .ref b1, .ref b2, .ref b3, .ref b4, .ref b5, .ref b6, .ref b7, .ref b8, .ref c1, .ref c2, .ref c3, .ref c4, .ref c5, .ref c6, .ref c7, .int (xrg)]))]) hx hb hw uw_MO tok_MO nn_MO hown hK hP hD hS 0 rfl rfl 0 (by decide) (hw _ wd_714) rfl rfl rfl (Nat.le_of_ble_eq_true rfl) d_MO_wipe_2 rfl (fun H locs hP hD hS => ?_)
  refine lv_aload_n hx hb d_MO_wipe_5 rfl (lv_at hl 0 rfl) ?_
  refine lv_iconst (v := nI 0) hx hb d_MO_wipe_6 (by decide) ?_
  refine k_put (ws' := [(h0, .inr (8, [.int (nI 0), .int (nI 0), .ref a1, .int (xra), .int (nI ndb), .ref a2, .int (nI ncb), .ref a3, .ref a4, .int (nI nfr), .ref a5, .ref a6, .int (nI nsy), .int (nI nai), .ref a7, .ref a8, .int (xas), .int (xan), .int (xst), .int (xhr), .int (xhb), .int (xse), .int (xbe), .ref a9, .ref b1, .ref b2, .ref b3, .ref b4, .ref b5, .ref b6, .ref b7, .ref b8, .ref c1, .ref c2, .ref c3, .ref c4, .ref c5, .ref c6, .ref c7, .int (xrg)]))]) hx hb hw uw_MO tok_MO nn_MO hown hK hP hD hS 0 rfl rfl 1 (by decide) (hw _ wd_715) rfl rfl rfl (Nat.le_of_ble_eq_true rfl) d_MO_wipe_7 rfl (fun H locs hP hD hS => ?_)
  rw [hQ]
  exact k_vret () hx hb hr hlk hK hP hD hS [0] (by decide) rfl trivial d_MO_wipe_10
set_option maxHeartbeats 4000000 in
set_option maxRecDepth 100000 in
theorem c_CL_nextStir (l : Launch) (D : va_G) (tc : Nat → ClassId) (tb : Nat → Nat) (x : Int32) : Mi l D tc tb y_CL_nextStir prog_1_method_17_code 1 (some .int) ({ frames := 0, cells := 0, slots := 0, locals := 0 }) [.int (x)] [] (fun _ : Unit => True) (fun _ : Unit => nsF x) (fun _ : Unit => []) := by
  refine Mi.go (by decide) (Nat.le_of_ble_eq_true rfl) ?_
  intro p e s m below meth c A ls R args Q C
  obtain ⟨hx, hb, hr, hts, hown, hlk, hml, hin, hA, hST, hN, hK, hP, hD, hS, hl, hR, hQ⟩ := C
  have hw : ∀ w ∈ lw_g, w.before args s = true := fun w h => hts w (List.mem_cons_of_mem _ h)
  have hl : lv_has ls 1 [(0, .int (x))] := hl
  refine lv_iload_n hx hb d_CL_nextStir_0 rfl (lv_at hl 0 rfl) ?_
  refine lv_ldc (v := nI 1103515245) hx hb hown (hw _ wd_313) d_CL_nextStir_1 ?_
  refine lv_imul hx hb d_CL_nextStir_3 ?_
  refine lv_sipush (v := nI 12345) hx hb d_CL_nextStir_4 (by decide) ?_
  refine lv_iadd hx hb d_CL_nextStir_7 ?_
  rw [hQ]
  exact k_iret () hx hb hr hlk hK hP hD hS [] (by decide) rfl trivial rfl d_CL_nextStir_8
set_option maxHeartbeats 4000000 in
set_option maxRecDepth 100000 in
theorem c_CL_stirBy (l : Launch) (D : va_G) (tc : Nat → ClassId) (tb : Nat → Nat) (x : Int32) (am : Int32) (hne : ¬ nI 2 * am + nI 1 = 0) : Mi l D tc tb y_CL_stirBy prog_1_method_18_code 2 (some .int) ({ frames := 0, cells := 0, slots := 0, locals := 0 }) [.int (x), .int (am)] [] (fun _ : Unit => True) (fun _ : Unit => sbY x am) (fun _ : Unit => []) := by
  refine Mi.go (by decide) (Nat.le_of_ble_eq_true rfl) ?_
  intro p e s m below meth c A ls R args Q C
  obtain ⟨hx, hb, hr, hts, hown, hlk, hml, hin, hA, hST, hN, hK, hP, hD, hS, hl, hR, hQ⟩ := C
  have hw : ∀ w ∈ lw_g, w.before args s = true := fun w h => hts w (List.mem_cons_of_mem _ h)
  have hl : lv_has ls 2 [(0, .int (x)), (1, .int (am))] := hl
  refine lv_iload_n hx hb d_CL_stirBy_0 rfl (lv_at hl 0 rfl) ?_
  refine lv_bipush (v := nI 16) hx hb d_CL_stirBy_1 (by decide) ?_
  refine lv_iushr hx hb d_CL_stirBy_3 rfl ?_
  refine lv_iconst (v := nI 2) hx hb d_CL_stirBy_4 (by decide) ?_
  refine lv_iload_n hx hb d_CL_stirBy_5 rfl (lv_at hl 1 rfl) ?_
  refine lv_imul hx hb d_CL_stirBy_6 ?_
  refine lv_iconst (v := nI 1) hx hb d_CL_stirBy_7 (by decide) ?_
  refine lv_iadd hx hb d_CL_stirBy_8 ?_
  refine lv_irem hx hb d_CL_stirBy_9 hne ?_
  refine lv_iload_n hx hb d_CL_stirBy_10 rfl (lv_at hl 1 rfl) ?_
  refine lv_isub hx hb d_CL_stirBy_11 ?_
  rw [hQ]
  exact k_iret () hx hb hr hlk hK hP hD hS [] (by decide) rfl trivial rfl d_CL_stirBy_12
set_option maxHeartbeats 4000000 in
set_option maxRecDepth 100000 in
theorem c_CL_cut_no (l : Launch) (D : va_G) (tc : Nat → ClassId) (tb : Nat → Nat) (h0 : Nat) (wq0 : Nat) (fw : Nat) (oa : Nat) (sn : Nat) (rc : Nat) (mc : Nat) (oi : Nat) (oq : Nat) (ac : Nat) (ai : Nat → Int32) (aq : Nat → Int32) (xn : Int32) (hbad : xn < 0 ∨ ¬ xn < nI ac) : Mi l D tc tb y_CL_cut prog_1_method_10_code 2 (some .boolean) ({ frames := 0, cells := 0, slots := 0, locals := 0 }) [.ref h0, .int (xn)] [(h0, .inr (0, [.ref wq0, .int (nI mc), .ref fw, .ref oa, .ref sn, .ref rc])), (oa, .inr (1, [.ref oi, .ref oq, .int (nI ac)])), (oi, .inl (tc 1, 520, .inl ai)), (oq, .inl (tc 1, 520, .inl aq))] (fun _ : Unit => True) (fun _ : Unit => nI 0) (fun _ : Unit => [(h0, .inr (0, [.ref wq0, .int (nI mc), .ref fw, .ref oa, .ref sn, .ref rc])), (oa, .inr (1, [.ref oi, .ref oq, .int (nI ac)])), (oi, .inl (tc 1, 520, .inl ai)), (oq, .inl (tc 1, 520, .inl aq))]) := by
  refine Mi.go (by decide) (Nat.le_of_ble_eq_true rfl) ?_
  intro p e s m below meth c A ls R args Q C
  obtain ⟨hx, hb, hr, hts, hown, hlk, hml, hin, hA, hST, hN, hK, hP, hD, hS, hl, hR, hQ⟩ := C
  have hw : ∀ w ∈ lw_g, w.before args s = true := fun w h => hts w (List.mem_cons_of_mem _ h)
  have hl : lv_has ls 2 [(0, .ref h0), (1, .int (xn))] := hl
  refine lv_iload_n hx hb d_CL_cut_0 rfl (lv_at hl 1 rfl) ?_
  refine lv_if_lt (tgt := 15) hx hb d_CL_cut_1 (by decide) (fun h1 => ?_) (fun h1 => ?_)
  · refine lv_iconst (v := nI 0) hx hb d_CL_cut_15 (by decide) ?_
    rw [hQ]
    exact k_zret () hx hb hr hlk hK hP hD hS [0, 1, 2, 3] (by decide) rfl trivial rfl rfl d_CL_cut_16
  · refine lv_aload_n hx hb d_CL_cut_4 rfl (lv_at hl 0 rfl) ?_
    refine k_get hx hb hw uw_CL hown hK hP 0 rfl rfl 3 (by decide) (hw _ wd_254) rfl d_CL_cut_5 ?_
    refine k_get hx hb hw uw_WA hown hK hP 1 rfl rfl 2 (by decide) (hw _ wd_43) rfl d_CL_cut_8 ?_
    refine lv_iload_n hx hb d_CL_cut_11 rfl (lv_at hl 1 rfl) ?_
    refine lv_icmp_gt (tgt := 17) hx hb d_CL_cut_12 (by decide) (fun h12 => ?_) (fun h12 => ?_)
    · exact False.elim (hbad.elim h1 (fun q9 => q9 h12))
    · refine lv_iconst (v := nI 0) hx hb d_CL_cut_15 (by decide) ?_
      rw [hQ]
      exact k_zret () hx hb hr hlk hK hP hD hS [0, 1, 2, 3] (by decide) rfl trivial rfl rfl d_CL_cut_16
set_option maxHeartbeats 4000000 in
set_option maxRecDepth 100000 in
theorem c_CL_cut_ok (l : Launch) (D : va_G) (tc : Nat → ClassId) (tb : Nat → Nat) (h0 : Nat) (wq0 : Nat) (fw : Nat) (oa : Nat) (sn : Nat) (rc : Nat) (mc : Nat) (oi : Nat) (oq : Nat) (ac : Nat) (ai : Nat → Int32) (aq : Nat → Int32) (n : Nat) (hn : n < ac) (hac : ac ≤ 520) : Mi l D tc tb y_CL_cut prog_1_method_10_code 2 (some .boolean) ({ frames := 0, cells := 0, slots := 0, locals := 0 }) [.ref h0, .int (nI n)] [(h0, .inr (0, [.ref wq0, .int (nI mc), .ref fw, .ref oa, .ref sn, .ref rc])), (oa, .inr (1, [.ref oi, .ref oq, .int (nI ac)])), (oi, .inl (tc 1, 520, .inl ai)), (oq, .inl (tc 1, 520, .inl aq))] (fun _ : Unit => True) (fun _ : Unit => nI 1) (fun _ : Unit => [(h0, .inr (0, [.ref wq0, .int (nI mc), .ref fw, .ref oa, .ref sn, .ref rc])), (oa, .inr (1, [.ref oi, .ref oq, .int (nI n)])), (oi, .inl (tc 1, 520, .inl ai)), (oq, .inl (tc 1, 520, .inl aq))]) := by
  refine Mi.go (by decide) (Nat.le_of_ble_eq_true rfl) ?_
  intro p e s m below meth c A ls R args Q C
  obtain ⟨hx, hb, hr, hts, hown, hlk, hml, hin, hA, hST, hN, hK, hP, hD, hS, hl, hR, hQ⟩ := C
  have hw : ∀ w ∈ lw_g, w.before args s = true := fun w h => hts w (List.mem_cons_of_mem _ h)
  have hl : lv_has ls 2 [(0, .ref h0), (1, .int (nI n))] := hl
  refine lv_iload_n hx hb d_CL_cut_0 rfl (lv_at hl 1 rfl) ?_
  refine lv_if_lt (tgt := 15) hx hb d_CL_cut_1 (by decide) (fun h1 => ?_) (fun h1 => ?_)
  · exact absurd h1 (nI_pos (by omega))
  · refine lv_aload_n hx hb d_CL_cut_4 rfl (lv_at hl 0 rfl) ?_
    refine k_get hx hb hw uw_CL hown hK hP 0 rfl rfl 3 (by decide) (hw _ wd_254) rfl d_CL_cut_5 ?_
    refine k_get hx hb hw uw_WA hown hK hP 1 rfl rfl 2 (by decide) (hw _ wd_43) rfl d_CL_cut_8 ?_
    refine lv_iload_n hx hb d_CL_cut_11 rfl (lv_at hl 1 rfl) ?_
    refine k_icmp_gt (tgt := 17) hx hb d_CL_cut_12 (by decide) (by omega) (by omega) (fun h12 => ?_) (fun h12 => ?_)
    · refine lv_aload_n hx hb d_CL_cut_17 rfl (lv_at hl 0 rfl) ?_
      refine k_get hx hb hw uw_CL hown hK hP 0 rfl rfl 3 (by decide) (hw _ wd_254) rfl d_CL_cut_18 ?_
      refine lv_iload_n hx hb d_CL_cut_21 rfl (lv_at hl 1 rfl) ?_
      refine k_put (ws' := [(h0, .inr (0, [.ref wq0, .int (nI mc), .ref fw, .ref oa, .ref sn, .ref rc])), (oa, .inr (1, [.ref oi, .ref oq, .int (nI n)])), (oi, .inl (tc 1, 520, .inl ai)), (oq, .inl (tc 1, 520, .inl aq))]) hx hb hw uw_WA tok_WA nn_WA hown hK hP hD hS 1 rfl rfl 2 (by decide) (hw _ wd_43) rfl rfl rfl (Nat.le_of_ble_eq_true rfl) d_CL_cut_22 rfl (fun H locs hP hD hS => ?_)
      refine lv_iconst (v := nI 1) hx hb d_CL_cut_25 (by decide) ?_
      rw [hQ]
      exact k_zret () hx hb hr hlk hK hP hD hS [0, 1, 2, 3] (by decide) rfl trivial rfl rfl d_CL_cut_26
    · exfalso; omega
set_option maxHeartbeats 4000000 in
set_option maxRecDepth 100000 in
theorem c_MO_cut_no (l : Launch) (D : va_G) (tc : Nat → ClassId) (tb : Nat → Nat) (h0 : Nat) (nby : Nat) (ndb : Nat) (ncb : Nat) (nfr : Nat) (nsy : Nat) (nai : Nat) (xth : Int32) (xra : Int32) (xas : Int32) (xan : Int32) (xst : Int32) (xhr : Int32) (xhb : Int32) (xse : Int32) (xbe : Int32) (xrg : Int32) (a1 : Nat) (a2 : Nat) (a3 : Nat) (a4 : Nat) (a5 : Nat) (a6 : Nat) (a7 : Nat) (a8 : Nat) (a9 : Nat) (b1 : Nat) (b2 : Nat) (b3 : Nat) (b4 : Nat) (b5 : Nat) (b6 : Nat) (b7 : Nat) (b8 : Nat) (c1 : Nat) (c2 : Nat) (c3 : Nat) (c4 : Nat) (c5 : Nat) (c6 : Nat) (c7 : Nat) (xn : Int32) (hbad : xn < 0 ∨ ¬ xn < nI nai) : Mi l D tc tb y_MO_cut prog_10_method_30_code 2 (some .boolean) ({ frames := 0, cells := 0, slots := 0, locals := 0 }) [.ref h0, .int (xn)] [(h0, .inr (8, [.int (xth), .int (nI nby), .ref a1, .int (xra), .int (nI ndb), .ref a2, .int (nI ncb), .ref a3, .ref a4, .int (nI nfr), .ref a5, .ref a6, .int (nI nsy), .int (nI nai), .ref a7, .ref a8, .int (xas), .int (xan), .int (xst), .int (xhr), .int (xhb), .int (xse), .int (xbe), .ref a9, .ref b1, .ref b2, .ref b3, .ref b4, .ref b5, .ref b6, .ref b7, .ref b8, .ref c1, .ref c2, .ref c3, .ref c4, .ref c5, .ref c6, .ref c7, .int (xrg)]))] (fun _ : Unit => True) (fun _ : Unit => nI 0) (fun _ : Unit => [(h0, .inr (8, [.int (nI 0), .int (nI nby), .ref a1, .int (xra), .int (nI ndb), .ref a2, .int (nI ncb), .ref a3, .ref a4, .int (nI nfr), .ref a5, .ref a6, .int (nI nsy), .int (nI nai), .ref a7, .ref a8, .int (xas), .int (xan), .int (xst), .int (xhr), .int (xhb), .int (xse), .int (xbe), .ref a9, .ref b1, .ref b2, .ref b3, .ref b4, .ref b5, .ref b6, .ref b7, .ref b8, .ref c1, .ref c2, .ref c3, .ref c4, .ref c5, .ref c6, .ref c7, .int (xrg)]))]) := by
  refine Mi.go (by decide) (Nat.le_of_ble_eq_true rfl) ?_
  intro p e s m below meth c A ls R args Q C
  obtain ⟨hx, hb, hr, hts, hown, hlk, hml, hin, hA, hST, hN, hK, hP, hD, hS, hl, hR, hQ⟩ := C
  have hw : ∀ w ∈ lw_g, w.before args s = true := fun w h => hts w (List.mem_cons_of_mem _ h)
  have hl : lv_has ls 2 [(0, .ref h0), (1, .int (xn))] := hl
  refine lv_aload_n hx hb d_MO_cut_0 rfl (lv_at hl 0 rfl) ?_
  refine lv_iconst (v := nI 0) hx hb d_MO_cut_1 (by decide) ?_
  refine k_put (ws' := [(h0, .inr (8, [.int (nI 0), .int (nI nby), .ref a1, .int (xra), .int (nI ndb), .ref a2, .int (nI ncb), .ref a3, .ref a4, .int (nI nfr), .ref a5, .ref a6, .int (nI nsy), .int (nI nai), .ref a7, .ref a8, .int (xas), .int (xan), .int (xst), .int (xhr), .int (xhb), .int (xse), .int (xbe), .ref a9, .ref b1, .ref b2, .ref b3, .ref b4, .ref b5, .ref b6, .ref b7, .ref b8, .ref c1, .ref c2, .ref c3, .ref c4, .ref c5, .ref c6, .ref c7, .int (xrg)]))]) hx hb hw uw_MO tok_MO nn_MO hown hK hP hD hS 0 rfl rfl 0 (by decide) (hw _ wd_714) rfl rfl rfl (Nat.le_of_ble_eq_true rfl) d_MO_cut_2 rfl (fun H locs hP hD hS => ?_)
  refine lv_iload_n hx hb d_MO_cut_5 rfl (lv_at hl 1 rfl) ?_
  refine lv_if_lt (tgt := 17) hx hb d_MO_cut_6 (by decide) (fun h6 => ?_) (fun h6 => ?_)
  · refine lv_iconst (v := nI 0) hx hb d_MO_cut_17 (by decide) ?_
    rw [hQ]
    exact k_zret () hx hb hr hlk hK hP hD hS [0] (by decide) rfl trivial rfl rfl d_MO_cut_18
  · refine lv_iload_n hx hb d_MO_cut_9 rfl (lv_at hl 1 rfl) ?_
    refine lv_aload_n hx hb d_MO_cut_10 rfl (lv_at hl 0 rfl) ?_
    refine k_get hx hb hw uw_MO hown hK hP 0 rfl rfl 13 (by decide) (hw _ wd_727) rfl d_MO_cut_11 ?_
    refine lv_icmp_lt (tgt := 19) hx hb d_MO_cut_14 (by decide) (fun h14 => ?_) (fun h14 => ?_)
    · exact False.elim (hbad.elim h6 (fun q9 => q9 h14))
    · refine lv_iconst (v := nI 0) hx hb d_MO_cut_17 (by decide) ?_
      rw [hQ]
      exact k_zret () hx hb hr hlk hK hP hD hS [0] (by decide) rfl trivial rfl rfl d_MO_cut_18
set_option maxHeartbeats 4000000 in
set_option maxRecDepth 100000 in
theorem c_MO_cut_ok (l : Launch) (D : va_G) (tc : Nat → ClassId) (tb : Nat → Nat) (h0 : Nat) (nby : Nat) (ndb : Nat) (ncb : Nat) (nfr : Nat) (nsy : Nat) (nai : Nat) (xth : Int32) (xra : Int32) (xas : Int32) (xan : Int32) (xst : Int32) (xhr : Int32) (xhb : Int32) (xse : Int32) (xbe : Int32) (xrg : Int32) (a1 : Nat) (a2 : Nat) (a3 : Nat) (a4 : Nat) (a5 : Nat) (a6 : Nat) (a7 : Nat) (a8 : Nat) (a9 : Nat) (b1 : Nat) (b2 : Nat) (b3 : Nat) (b4 : Nat) (b5 : Nat) (b6 : Nat) (b7 : Nat) (b8 : Nat) (c1 : Nat) (c2 : Nat) (c3 : Nat) (c4 : Nat) (c5 : Nat) (c6 : Nat) (c7 : Nat) (n : Nat) (hn : n < nai) (hac : nai ≤ 560) : Mi l D tc tb y_MO_cut prog_10_method_30_code 2 (some .boolean) ({ frames := 0, cells := 0, slots := 0, locals := 0 }) [.ref h0, .int (nI n)] [(h0, .inr (8, [.int (xth), .int (nI nby), .ref a1, .int (xra), .int (nI ndb), .ref a2, .int (nI ncb), .ref a3, .ref a4, .int (nI nfr), .ref a5, .ref a6, .int (nI nsy), .int (nI nai), .ref a7, .ref a8, .int (xas), .int (xan), .int (xst), .int (xhr), .int (xhb), .int (xse), .int (xbe), .ref a9, .ref b1, .ref b2, .ref b3, .ref b4, .ref b5, .ref b6, .ref b7, .ref b8, .ref c1, .ref c2, .ref c3, .ref c4, .ref c5, .ref c6, .ref c7, .int (xrg)]))] (fun _ : Unit => True) (fun _ : Unit => nI 1) (fun _ : Unit => [(h0, .inr (8, [.int (nI 0), .int (nI nby), .ref a1, .int (xra), .int (nI ndb), .ref a2, .int (nI ncb), .ref a3, .ref a4, .int (nI nfr), .ref a5, .ref a6, .int (nI nsy), .int (nI n), .ref a7, .ref a8, .int (xas), .int (xan), .int (xst), .int (xhr), .int (xhb), .int (xse), .int (xbe), .ref a9, .ref b1, .ref b2, .ref b3, .ref b4, .ref b5, .ref b6, .ref b7, .ref b8, .ref c1, .ref c2, .ref c3, .ref c4, .ref c5, .ref c6, .ref c7, .int (xrg)]))]) := by
  refine Mi.go (by decide) (Nat.le_of_ble_eq_true rfl) ?_
  intro p e s m below meth c A ls R args Q C
  obtain ⟨hx, hb, hr, hts, hown, hlk, hml, hin, hA, hST, hN, hK, hP, hD, hS, hl, hR, hQ⟩ := C
  have hw : ∀ w ∈ lw_g, w.before args s = true := fun w h => hts w (List.mem_cons_of_mem _ h)
  have hl : lv_has ls 2 [(0, .ref h0), (1, .int (nI n))] := hl
  refine lv_aload_n hx hb d_MO_cut_0 rfl (lv_at hl 0 rfl) ?_
  refine lv_iconst (v := nI 0) hx hb d_MO_cut_1 (by decide) ?_
  refine k_put (ws' := [(h0, .inr (8, [.int (nI 0), .int (nI nby), .ref a1, .int (xra), .int (nI ndb), .ref a2, .int (nI ncb), .ref a3, .ref a4, .int (nI nfr), .ref a5, .ref a6, .int (nI nsy), .int (nI nai), .ref a7, .ref a8, .int (xas), .int (xan), .int (xst), .int (xhr), .int (xhb), .int (xse), .int (xbe), .ref a9, .ref b1, .ref b2, .ref b3, .ref b4, .ref b5, .ref b6, .ref b7, .ref b8, .ref c1, .ref c2, .ref c3, .ref c4, .ref c5, .ref c6, .ref c7, .int (xrg)]))]) hx hb hw uw_MO tok_MO nn_MO hown hK hP hD hS 0 rfl rfl 0 (by decide) (hw _ wd_714) rfl rfl rfl (Nat.le_of_ble_eq_true rfl) d_MO_cut_2 rfl (fun H locs hP hD hS => ?_)
  refine lv_iload_n hx hb d_MO_cut_5 rfl (lv_at hl 1 rfl) ?_
  refine lv_if_lt (tgt := 17) hx hb d_MO_cut_6 (by decide) (fun h6 => ?_) (fun h6 => ?_)
  · exact absurd h6 (nI_pos (by omega))
  · refine lv_iload_n hx hb d_MO_cut_9 rfl (lv_at hl 1 rfl) ?_
    refine lv_aload_n hx hb d_MO_cut_10 rfl (lv_at hl 0 rfl) ?_
    refine k_get hx hb hw uw_MO hown hK hP 0 rfl rfl 13 (by decide) (hw _ wd_727) rfl d_MO_cut_11 ?_
    refine k_icmp_lt (tgt := 19) hx hb d_MO_cut_14 (by decide) (by omega) (by omega) (fun h14 => ?_) (fun h14 => ?_)
    · refine lv_aload_n hx hb d_MO_cut_19 rfl (lv_at hl 0 rfl) ?_
      refine lv_iload_n hx hb d_MO_cut_20 rfl (lv_at hl 1 rfl) ?_
      refine k_put (ws' := [(h0, .inr (8, [.int (nI 0), .int (nI nby), .ref a1, .int (xra), .int (nI ndb), .ref a2, .int (nI ncb), .ref a3, .ref a4, .int (nI nfr), .ref a5, .ref a6, .int (nI nsy), .int (nI n), .ref a7, .ref a8, .int (xas), .int (xan), .int (xst), .int (xhr), .int (xhb), .int (xse), .int (xbe), .ref a9, .ref b1, .ref b2, .ref b3, .ref b4, .ref b5, .ref b6, .ref b7, .ref b8, .ref c1, .ref c2, .ref c3, .ref c4, .ref c5, .ref c6, .ref c7, .int (xrg)]))]) hx hb hw uw_MO tok_MO nn_MO hown hK hP hD hS 0 rfl rfl 13 (by decide) (hw _ wd_727) rfl rfl rfl (Nat.le_of_ble_eq_true rfl) d_MO_cut_21 rfl (fun H locs hP hD hS => ?_)
      refine lv_iconst (v := nI 1) hx hb d_MO_cut_24 (by decide) ?_
      rw [hQ]
      exact k_zret () hx hb hr hlk hK hP hD hS [0] (by decide) rfl trivial rfl rfl d_MO_cut_25
    · exfalso; omega
