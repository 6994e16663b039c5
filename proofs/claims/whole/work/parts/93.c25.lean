set_option maxHeartbeats 4000000 in
set_option maxRecDepth 100000 in
theorem c_MO_bit_bad (l : Launch) (D : va_G) (tc : Nat → ClassId) (tb : Nat → Nat) (h0 : Nat) (nby : Nat) (ndb : Nat) (ncb : Nat) (nfr : Nat) (nsy : Nat) (nai : Nat) (xth : Int32) (xra : Int32) (xas : Int32) (xan : Int32) (xst : Int32) (xhr : Int32) (xhb : Int32) (xse : Int32) (xbe : Int32) (xrg : Int32) (a1 : Nat) (a2 : Nat) (a3 : Nat) (a4 : Nat) (a5 : Nat) (a6 : Nat) (a7 : Nat) (a8 : Nat) (a9 : Nat) (b1 : Nat) (b2 : Nat) (b3 : Nat) (b4 : Nat) (b5 : Nat) (b6 : Nat) (b7 : Nat) (b8 : Nat) (c1 : Nat) (c2 : Nat) (c3 : Nat) (c4 : Nat) (c5 : Nat) (c6 : Nat) (c7 : Nat) (xs : Int32) (xk : Int32) (hbad : nfr = 0 ∨ xs < 0 ∨ nI 2 < xs) (hfr : nfr ≤ 520) : Mi l D tc tb y_MO_bit prog_10_method_25_code 4 (some .int) ({ frames := 0, cells := 0, slots := 0, locals := 0 }) [.ref h0, .int (xs), .int (xk)] [(h0, .inr (8, [.int (xth), .int (nI nby), .ref a1, .int (xra), .int (nI ndb), .ref a2, .int (nI ncb), .ref a3, .ref a4, .int (nI nfr), .ref a5, .ref a6, .int (nI nsy), .int (nI nai), .ref a7, .ref a8, .int (xas), .int (xan), .int (xst), .int (xhr), .int (xhb), .int (xse), .int (xbe), .ref a9, .ref b1, .ref b2, .ref b3, .ref b4, .ref b5, .ref b6, .ref b7, .ref b8, .ref c1, .ref c2, .ref c3, .ref c4, .ref c5, .ref c6, .ref c7, .int (xrg)]))] (fun _ : Unit => True) (fun _ : Unit => -1) (fun _ : Unit => [(h0, .inr (8, [.int (nI 0), .int (nI nby), .ref a1, .int (xra), .int (nI ndb), .ref a2, .int (nI ncb), .ref a3, .ref a4, .int (nI nfr), .ref a5, .ref a6, .int (nI nsy), .int (nI nai), .ref a7, .ref a8, .int (xas), .int (xan), .int (xst), .int (xhr), .int (xhb), .int (xse), .int (xbe), .ref a9, .ref b1, .ref b2, .ref b3, .ref b4, .ref b5, .ref b6, .ref b7, .ref b8, .ref c1, .ref c2, .ref c3, .ref c4, .ref c5, .ref c6, .ref c7, .int (xrg)]))]) := by
  refine Mi.go (by decide) (Nat.le_of_ble_eq_true rfl) ?_
  intro p e s m below meth c A ls R args Q C
  obtain ⟨hx, hb, hr, hts, hown, hlk, hml, hin, hA, hST, hN, hK, hP, hD, hS, hl, hR, hQ⟩ := C
  have hw : ∀ w ∈ lw_g, w.before args s = true := fun w h => hts w (List.mem_cons_of_mem _ h)
  have hl : lv_has ls 4 [(0, .ref h0), (1, .int (xs)), (2, .int (xk))] := hl
  refine lv_aload_n hx hb d_MO_bit_0 rfl (lv_at hl 0 rfl) ?_
  refine lv_iconst (v := nI 0) hx hb d_MO_bit_1 (by decide) ?_
  refine k_put (ws' := [(h0, .inr (8, [.int (nI 0), .int (nI nby), .ref a1, .int (xra), .int (nI ndb), .ref a2, .int (nI ncb), .ref a3, .ref a4, .int (nI nfr), .ref a5, .ref a6, .int (nI nsy), .int (nI nai), .ref a7, .ref a8, .int (xas), .int (xan), .int (xst), .int (xhr), .int (xhb), .int (xse), .int (xbe), .ref a9, .ref b1, .ref b2, .ref b3, .ref b4, .ref b5, .ref b6, .ref b7, .ref b8, .ref c1, .ref c2, .ref c3, .ref c4, .ref c5, .ref c6, .ref c7, .int (xrg)]))]) hx hb hw uw_MO tok_MO nn_MO hown hK hP hD hS 0 rfl rfl 0 (by decide) (hw _ wd_714) rfl rfl rfl (Nat.le_of_ble_eq_true rfl) d_MO_bit_2 rfl (fun H locs hP hD hS => ?_)
  refine lv_aload_n hx hb d_MO_bit_5 rfl (lv_at hl 0 rfl) ?_
  refine k_get hx hb hw uw_MO hown hK hP 0 rfl rfl 9 (by decide) (hw _ wd_723) rfl d_MO_bit_6 ?_
  refine k_if_eq (tgt := 21) hx hb d_MO_bit_9 (by decide) (by omega) (fun h9 => ?_) (fun h9 => ?_)
  · refine lv_iconst (v := -1) hx hb d_MO_bit_21 (by decide) ?_
    refine lv_goto (tgt := 40) hx hb d_MO_bit_22 (by decide) ?_
    refine lv_istore_n (lv' := [(3, .int (-1)), (0, .ref h0), (1, .int (xs)), (2, .int (xk))]) hx hb d_MO_bit_40 rfl hl (by decide) rfl (fun ls hl => ?_)
    refine lv_iload_n hx hb d_MO_bit_41 rfl (lv_at hl 0 rfl) ?_
    refine lv_if_lt (tgt := 55) hx hb d_MO_bit_42 (by decide) (fun h42 => ?_) (fun h42 => ?_)
    · refine lv_iconst (v := -1) hx hb d_MO_bit_55 (by decide) ?_
      rw [hQ]
      exact k_iret () hx hb hr hlk hK hP hD hS [0] (by decide) rfl trivial rfl d_MO_bit_56
    · exact absurd (by decide) h42
  · refine lv_iload_n hx hb d_MO_bit_12 rfl (lv_at hl 1 rfl) ?_
    refine lv_if_lt (tgt := 21) hx hb d_MO_bit_13 (by decide) (fun h13 => ?_) (fun h13 => ?_)
    · refine lv_iconst (v := -1) hx hb d_MO_bit_21 (by decide) ?_
      refine lv_goto (tgt := 40) hx hb d_MO_bit_22 (by decide) ?_
      refine lv_istore_n (lv' := [(3, .int (-1)), (0, .ref h0), (1, .int (xs)), (2, .int (xk))]) hx hb d_MO_bit_40 rfl hl (by decide) rfl (fun ls hl => ?_)
      refine lv_iload_n hx hb d_MO_bit_41 rfl (lv_at hl 0 rfl) ?_
      refine lv_if_lt (tgt := 55) hx hb d_MO_bit_42 (by decide) (fun h42 => ?_) (fun h42 => ?_)
      · refine lv_iconst (v := -1) hx hb d_MO_bit_55 (by decide) ?_
        rw [hQ]
        exact k_iret () hx hb hr hlk hK hP hD hS [0] (by decide) rfl trivial rfl d_MO_bit_56
      · exact absurd (by decide) h42
    · refine lv_iload_n hx hb d_MO_bit_16 rfl (lv_at hl 1 rfl) ?_
      refine lv_iconst (v := nI 2) hx hb d_MO_bit_17 (by decide) ?_
      refine lv_icmp_le (tgt := 25) hx hb d_MO_bit_18 (by decide) (fun h18 => ?_) (fun h18 => ?_)
      · exact False.elim (hbad.elim (fun q9 => by omega) (fun q9 => q9.elim h13 (fun w9 => absurd h18 (Int32.not_le.mpr w9))))
      · refine lv_iconst (v := -1) hx hb d_MO_bit_21 (by decide) ?_
        refine lv_goto (tgt := 40) hx hb d_MO_bit_22 (by decide) ?_
        refine lv_istore_n (lv' := [(3, .int (-1)), (0, .ref h0), (1, .int (xs)), (2, .int (xk))]) hx hb d_MO_bit_40 rfl hl (by decide) rfl (fun ls hl => ?_)
        refine lv_iload_n hx hb d_MO_bit_41 rfl (lv_at hl 0 rfl) ?_
        refine lv_if_lt (tgt := 55) hx hb d_MO_bit_42 (by decide) (fun h42 => ?_) (fun h42 => ?_)
        · refine lv_iconst (v := -1) hx hb d_MO_bit_55 (by decide) ?_
          rw [hQ]
          exact k_iret () hx hb hr hlk hK hP hD hS [0] (by decide) rfl trivial rfl d_MO_bit_56
        · exact absurd (by decide) h42
set_option maxHeartbeats 4000000 in
set_option maxRecDepth 100000 in
theorem c_MO_bit_m1_0 (l : Launch) (D : va_G) (tc : Nat → ClassId) (tb : Nat → Nat) (h0 : Nat) (nby : Nat) (ndb : Nat) (ncb : Nat) (nfr : Nat) (nsy : Nat) (nai : Nat) (xth : Int32) (xra : Int32) (xas : Int32) (xan : Int32) (xst : Int32) (xhr : Int32) (xhb : Int32) (xse : Int32) (xbe : Int32) (xrg : Int32) (a1 : Nat) (a2 : Nat) (a3 : Nat) (a4 : Nat) (a5 : Nat) (a6 : Nat) (a7 : Nat) (a8 : Nat) (a9 : Nat) (b1 : Nat) (b2 : Nat) (b3 : Nat) (b4 : Nat) (b5 : Nat) (b6 : Nat) (b7 : Nat) (b8 : Nat) (c1 : Nat) (c2 : Nat) (c3 : Nat) (c4 : Nat) (c5 : Nat) (c6 : Nat) (c7 : Nat) (hf0 : 0 < nfr) (hfr : nfr ≤ 520) (hcn : ndb ≤ 160) : Mi l D tc tb y_MO_bit prog_10_method_25_code 4 (some .int) ({ frames := 0, cells := 0, slots := 0, locals := 0 }) [.ref h0, .int (nI 0), .int (-1)] [(h0, .inr (8, [.int (xth), .int (nI nby), .ref a1, .int (xra), .int (nI ndb), .ref a2, .int (nI ncb), .ref a3, .ref a4, .int (nI nfr), .ref a5, .ref a6, .int (nI nsy), .int (nI nai), .ref a7, .ref a8, .int (xas), .int (xan), .int (xst), .int (xhr), .int (xhb), .int (xse), .int (xbe), .ref a9, .ref b1, .ref b2, .ref b3, .ref b4, .ref b5, .ref b6, .ref b7, .ref b8, .ref c1, .ref c2, .ref c3, .ref c4, .ref c5, .ref c6, .ref c7, .int (xrg)]))] (fun _ : Unit => True) (fun _ : Unit => nI ndb) (fun _ : Unit => [(h0, .inr (8, [.int (nI 0), .int (nI nby), .ref a1, .int (xra), .int (nI ndb), .ref a2, .int (nI ncb), .ref a3, .ref a4, .int (nI nfr), .ref a5, .ref a6, .int (nI nsy), .int (nI nai), .ref a7, .ref a8, .int (xas), .int (xan), .int (xst), .int (xhr), .int (xhb), .int (xse), .int (xbe), .ref a9, .ref b1, .ref b2, .ref b3, .ref b4, .ref b5, .ref b6, .ref b7, .ref b8, .ref c1, .ref c2, .ref c3, .ref c4, .ref c5, .ref c6, .ref c7, .int (xrg)]))]) := by
  refine Mi.go (by decide) (Nat.le_of_ble_eq_true rfl) ?_
  intro p e s m below meth c A ls R args Q C
  obtain ⟨hx, hb, hr, hts, hown, hlk, hml, hin, hA, hST, hN, hK, hP, hD, hS, hl, hR, hQ⟩ := C
  have hw : ∀ w ∈ lw_g, w.before args s = true := fun w h => hts w (List.mem_cons_of_mem _ h)
  have hl : lv_has ls 4 [(0, .ref h0), (1, .int (nI 0)), (2, .int (-1))] := hl
  refine lv_aload_n hx hb d_MO_bit_0 rfl (lv_at hl 0 rfl) ?_
  refine lv_iconst (v := nI 0) hx hb d_MO_bit_1 (by decide) ?_
  refine k_put (ws' := [(h0, .inr (8, [.int (nI 0), .int (nI nby), .ref a1, .int (xra), .int (nI ndb), .ref a2, .int (nI ncb), .ref a3, .ref a4, .int (nI nfr), .ref a5, .ref a6, .int (nI nsy), .int (nI nai), .ref a7, .ref a8, .int (xas), .int (xan), .int (xst), .int (xhr), .int (xhb), .int (xse), .int (xbe), .ref a9, .ref b1, .ref b2, .ref b3, .ref b4, .ref b5, .ref b6, .ref b7, .ref b8, .ref c1, .ref c2, .ref c3, .ref c4, .ref c5, .ref c6, .ref c7, .int (xrg)]))]) hx hb hw uw_MO tok_MO nn_MO hown hK hP hD hS 0 rfl rfl 0 (by decide) (hw _ wd_714) rfl rfl rfl (Nat.le_of_ble_eq_true rfl) d_MO_bit_2 rfl (fun H locs hP hD hS => ?_)
  refine lv_aload_n hx hb d_MO_bit_5 rfl (lv_at hl 0 rfl) ?_
  refine k_get hx hb hw uw_MO hown hK hP 0 rfl rfl 9 (by decide) (hw _ wd_723) rfl d_MO_bit_6 ?_
  refine k_if_eq (tgt := 21) hx hb d_MO_bit_9 (by decide) (by omega) (fun h9 => ?_) (fun h9 => ?_)
  · exfalso; omega
  · refine lv_iload_n hx hb d_MO_bit_12 rfl (lv_at hl 1 rfl) ?_
    refine lv_if_lt (tgt := 21) hx hb d_MO_bit_13 (by decide) (fun h13 => ?_) (fun h13 => ?_)
    · exact absurd h13 (by decide)
    · refine lv_iload_n hx hb d_MO_bit_16 rfl (lv_at hl 1 rfl) ?_
      refine lv_iconst (v := nI 2) hx hb d_MO_bit_17 (by decide) ?_
      refine k_icmp_le (tgt := 25) hx hb d_MO_bit_18 (by decide) (by omega) (by omega) (fun h18 => ?_) (fun h18 => ?_)
      · refine lv_iload_n hx hb d_MO_bit_25 rfl (lv_at hl 1 rfl) ?_
        refine k_if_ne (tgt := 36) hx hb d_MO_bit_26 (by decide) (by omega) (fun h26 => ?_) (fun h26 => ?_)
        · exfalso; omega
        · refine lv_aload_n hx hb d_MO_bit_29 rfl (lv_at hl 0 rfl) ?_
          refine k_get hx hb hw uw_MO hown hK hP 0 rfl rfl 4 (by decide) (hw _ wd_718) rfl d_MO_bit_30 ?_
          refine lv_goto (tgt := 40) hx hb d_MO_bit_33 (by decide) ?_
          refine lv_istore_n (lv' := [(3, .int (nI ndb)), (0, .ref h0), (1, .int (nI 0)), (2, .int (-1))]) hx hb d_MO_bit_40 rfl hl (by decide) rfl (fun ls hl => ?_)
          refine lv_iload_n hx hb d_MO_bit_41 rfl (lv_at hl 0 rfl) ?_
          refine lv_if_lt (tgt := 55) hx hb d_MO_bit_42 (by decide) (fun h42 => ?_) (fun h42 => ?_)
          · exact absurd h42 (nI_pos (by omega))
          · refine lv_iload_n hx hb d_MO_bit_45 rfl (lv_at hl 3 rfl) ?_
            refine lv_iconst (v := -1) hx hb d_MO_bit_46 (by decide) ?_
            refine lv_icmp_lt (tgt := 55) hx hb d_MO_bit_47 (by decide) (fun h47 => ?_) (fun h47 => ?_)
            · exact absurd h47 (by decide)
            · refine lv_iload_n hx hb d_MO_bit_50 rfl (lv_at hl 3 rfl) ?_
              refine lv_iload_n hx hb d_MO_bit_51 rfl (lv_at hl 0 rfl) ?_
              refine lv_icmp_lt (tgt := 57) hx hb d_MO_bit_52 (by decide) (fun h52 => ?_) (fun h52 => ?_)
              · refine lv_iload_n hx hb d_MO_bit_57 rfl (lv_at hl 3 rfl) ?_
                refine lv_iconst (v := -1) hx hb d_MO_bit_58 (by decide) ?_
                refine lv_icmp_ne (tgt := 66) hx hb d_MO_bit_59 (by decide) (fun h59 => ?_) (fun h59 => ?_)
                · exact absurd rfl h59
                · refine lv_iload_n hx hb d_MO_bit_62 rfl (lv_at hl 0 rfl) ?_
                  refine lv_goto (tgt := 99) hx hb d_MO_bit_63 (by decide) ?_
                  rw [hQ]
                  exact k_iret () hx hb hr hlk hK hP hD hS [0] (by decide) rfl trivial rfl d_MO_bit_99
              · exact absurd (k_m1_lt (by omega)) h52
      · exfalso; omega
set_option maxHeartbeats 4000000 in
set_option maxRecDepth 100000 in
theorem c_MO_bit_no_0 (l : Launch) (D : va_G) (tc : Nat → ClassId) (tb : Nat → Nat) (h0 : Nat) (nby : Nat) (ndb : Nat) (ncb : Nat) (nfr : Nat) (nsy : Nat) (nai : Nat) (xth : Int32) (xra : Int32) (xas : Int32) (xan : Int32) (xst : Int32) (xhr : Int32) (xhb : Int32) (xse : Int32) (xbe : Int32) (xrg : Int32) (a1 : Nat) (a2 : Nat) (a3 : Nat) (a4 : Nat) (a5 : Nat) (a6 : Nat) (a7 : Nat) (a8 : Nat) (a9 : Nat) (b1 : Nat) (b2 : Nat) (b3 : Nat) (b4 : Nat) (b5 : Nat) (b6 : Nat) (b7 : Nat) (b8 : Nat) (c1 : Nat) (c2 : Nat) (c3 : Nat) (c4 : Nat) (c5 : Nat) (c6 : Nat) (c7 : Nat) (xk : Int32) (hf0 : 0 < nfr) (hfr : nfr ≤ 520) (hcn : ndb ≤ 160) (hm : ¬ xk = -1) (hbad : xk < 0 ∨ ¬ xk < nI ndb) : Mi l D tc tb y_MO_bit prog_10_method_25_code 4 (some .int) ({ frames := 0, cells := 0, slots := 0, locals := 0 }) [.ref h0, .int (nI 0), .int (xk)] [(h0, .inr (8, [.int (xth), .int (nI nby), .ref a1, .int (xra), .int (nI ndb), .ref a2, .int (nI ncb), .ref a3, .ref a4, .int (nI nfr), .ref a5, .ref a6, .int (nI nsy), .int (nI nai), .ref a7, .ref a8, .int (xas), .int (xan), .int (xst), .int (xhr), .int (xhb), .int (xse), .int (xbe), .ref a9, .ref b1, .ref b2, .ref b3, .ref b4, .ref b5, .ref b6, .ref b7, .ref b8, .ref c1, .ref c2, .ref c3, .ref c4, .ref c5, .ref c6, .ref c7, .int (xrg)]))] (fun _ : Unit => True) (fun _ : Unit => -1) (fun _ : Unit => [(h0, .inr (8, [.int (nI 0), .int (nI nby), .ref a1, .int (xra), .int (nI ndb), .ref a2, .int (nI ncb), .ref a3, .ref a4, .int (nI nfr), .ref a5, .ref a6, .int (nI nsy), .int (nI nai), .ref a7, .ref a8, .int (xas), .int (xan), .int (xst), .int (xhr), .int (xhb), .int (xse), .int (xbe), .ref a9, .ref b1, .ref b2, .ref b3, .ref b4, .ref b5, .ref b6, .ref b7, .ref b8, .ref c1, .ref c2, .ref c3, .ref c4, .ref c5, .ref c6, .ref c7, .int (xrg)]))]) := by
  refine Mi.go (by decide) (Nat.le_of_ble_eq_true rfl) ?_
  intro p e s m below meth c A ls R args Q C
  obtain ⟨hx, hb, hr, hts, hown, hlk, hml, hin, hA, hST, hN, hK, hP, hD, hS, hl, hR, hQ⟩ := C
  have hw : ∀ w ∈ lw_g, w.before args s = true := fun w h => hts w (List.mem_cons_of_mem _ h)
  have hl : lv_has ls 4 [(0, .ref h0), (1, .int (nI 0)), (2, .int (xk))] := hl
  refine lv_aload_n hx hb d_MO_bit_0 rfl (lv_at hl 0 rfl) ?_
  refine lv_iconst (v := nI 0) hx hb d_MO_bit_1 (by decide) ?_
  refine k_put (ws' := [(h0, .inr (8, [.int (nI 0), .int (nI nby), .ref a1, .int (xra), .int (nI ndb), .ref a2, .int (nI ncb), .ref a3, .ref a4, .int (nI nfr), .ref a5, .ref a6, .int (nI nsy), .int (nI nai), .ref a7, .ref a8, .int (xas), .int (xan), .int (xst), .int (xhr), .int (xhb), .int (xse), .int (xbe), .ref a9, .ref b1, .ref b2, .ref b3, .ref b4, .ref b5, .ref b6, .ref b7, .ref b8, .ref c1, .ref c2, .ref c3, .ref c4, .ref c5, .ref c6, .ref c7, .int (xrg)]))]) hx hb hw uw_MO tok_MO nn_MO hown hK hP hD hS 0 rfl rfl 0 (by decide) (hw _ wd_714) rfl rfl rfl (Nat.le_of_ble_eq_true rfl) d_MO_bit_2 rfl (fun H locs hP hD hS => ?_)
  refine lv_aload_n hx hb d_MO_bit_5 rfl (lv_at hl 0 rfl) ?_
  refine k_get hx hb hw uw_MO hown hK hP 0 rfl rfl 9 (by decide) (hw _ wd_723) rfl d_MO_bit_6 ?_
  refine k_if_eq (tgt := 21) hx hb d_MO_bit_9 (by decide) (by omega) (fun h9 => ?_) (fun h9 => ?_)
  · exfalso; omega
  · refine lv_iload_n hx hb d_MO_bit_12 rfl (lv_at hl 1 rfl) ?_
    refine lv_if_lt (tgt := 21) hx hb d_MO_bit_13 (by decide) (fun h13 => ?_) (fun h13 => ?_)
    · exact absurd h13 (by decide)
    · refine lv_iload_n hx hb d_MO_bit_16 rfl (lv_at hl 1 rfl) ?_
      refine lv_iconst (v := nI 2) hx hb d_MO_bit_17 (by decide) ?_
      refine k_icmp_le (tgt := 25) hx hb d_MO_bit_18 (by decide) (by omega) (by omega) (fun h18 => ?_) (fun h18 => ?_)
      · refine lv_iload_n hx hb d_MO_bit_25 rfl (lv_at hl 1 rfl) ?_
        refine k_if_ne (tgt := 36) hx hb d_MO_bit_26 (by decide) (by omega) (fun h26 => ?_) (fun h26 => ?_)
        · exfalso; omega
        · refine lv_aload_n hx hb d_MO_bit_29 rfl (lv_at hl 0 rfl) ?_
          refine k_get hx hb hw uw_MO hown hK hP 0 rfl rfl 4 (by decide) (hw _ wd_718) rfl d_MO_bit_30 ?_
          refine lv_goto (tgt := 40) hx hb d_MO_bit_33 (by decide) ?_
          refine lv_istore_n (lv' := [(3, .int (nI ndb)), (0, .ref h0), (1, .int (nI 0)), (2, .int (xk))]) hx hb d_MO_bit_40 rfl hl (by decide) rfl (fun ls hl => ?_)
          refine lv_iload_n hx hb d_MO_bit_41 rfl (lv_at hl 0 rfl) ?_
          refine lv_if_lt (tgt := 55) hx hb d_MO_bit_42 (by decide) (fun h42 => ?_) (fun h42 => ?_)
          · exact absurd h42 (nI_pos (by omega))
          · refine lv_iload_n hx hb d_MO_bit_45 rfl (lv_at hl 3 rfl) ?_
            refine lv_iconst (v := -1) hx hb d_MO_bit_46 (by decide) ?_
            refine lv_icmp_lt (tgt := 55) hx hb d_MO_bit_47 (by decide) (fun h47 => ?_) (fun h47 => ?_)
            · refine lv_iconst (v := -1) hx hb d_MO_bit_55 (by decide) ?_
              rw [hQ]
              exact k_iret () hx hb hr hlk hK hP hD hS [0] (by decide) rfl trivial rfl d_MO_bit_56
            · refine lv_iload_n hx hb d_MO_bit_50 rfl (lv_at hl 3 rfl) ?_
              refine lv_iload_n hx hb d_MO_bit_51 rfl (lv_at hl 0 rfl) ?_
              refine lv_icmp_lt (tgt := 57) hx hb d_MO_bit_52 (by decide) (fun h52 => ?_) (fun h52 => ?_)
              · exact False.elim (hbad.elim (fun q9 => h47 (k_lt_m1 hm q9)) (fun q9 => q9 h52))
              · refine lv_iconst (v := -1) hx hb d_MO_bit_55 (by decide) ?_
                rw [hQ]
                exact k_iret () hx hb hr hlk hK hP hD hS [0] (by decide) rfl trivial rfl d_MO_bit_56
      · exfalso; omega
set_option maxHeartbeats 4000000 in
set_option maxRecDepth 100000 in
theorem c_MO_bit_ok_0 (l : Launch) (D : va_G) (tc : Nat → ClassId) (tb : Nat → Nat) (h0 : Nat) (nby : Nat) (ndb : Nat) (ncb : Nat) (nfr : Nat) (nsy : Nat) (nai : Nat) (xth : Int32) (xra : Int32) (xas : Int32) (xan : Int32) (xst : Int32) (xhr : Int32) (xhb : Int32) (xse : Int32) (xbe : Int32) (xrg : Int32) (a1 : Nat) (a2 : Nat) (a3 : Nat) (a4 : Nat) (a5 : Nat) (a6 : Nat) (a7 : Nat) (a8 : Nat) (a9 : Nat) (b1 : Nat) (b2 : Nat) (b3 : Nat) (b4 : Nat) (b5 : Nat) (b6 : Nat) (b7 : Nat) (b8 : Nat) (c1 : Nat) (c2 : Nat) (c3 : Nat) (c4 : Nat) (c5 : Nat) (c6 : Nat) (c7 : Nat) (f : Nat → Int32) (k : Nat) (hf0 : 0 < nfr) (hfr : nfr ≤ 520) (hcn : ndb ≤ 160) (hk : k < ndb) : Mi l D tc tb y_MO_bit prog_10_method_25_code 4 (some .int) ({ frames := 0, cells := 0, slots := 0, locals := 0 }) [.ref h0, .int (nI 0), .int (nI k)] [(h0, .inr (8, [.int (xth), .int (nI nby), .ref a1, .int (xra), .int (nI ndb), .ref a2, .int (nI ncb), .ref a3, .ref a4, .int (nI nfr), .ref a5, .ref a6, .int (nI nsy), .int (nI nai), .ref a7, .ref a8, .int (xas), .int (xan), .int (xst), .int (xhr), .int (xhb), .int (xse), .int (xbe), .ref a9, .ref b1, .ref b2, .ref b3, .ref b4, .ref b5, .ref b6, .ref b7, .ref b8, .ref c1, .ref c2, .ref c3, .ref c4, .ref c5, .ref c6, .ref c7, .int (xrg)])), (a2, .inl (tc 0, 160, .inl f))] (fun _ : Unit => True) (fun _ : Unit => f k) (fun _ : Unit => [(h0, .inr (8, [.int (nI 0), .int (nI nby), .ref a1, .int (xra), .int (nI ndb), .ref a2, .int (nI ncb), .ref a3, .ref a4, .int (nI nfr), .ref a5, .ref a6, .int (nI nsy), .int (nI nai), .ref a7, .ref a8, .int (xas), .int (xan), .int (xst), .int (xhr), .int (xhb), .int (xse), .int (xbe), .ref a9, .ref b1, .ref b2, .ref b3, .ref b4, .ref b5, .ref b6, .ref b7, .ref b8, .ref c1, .ref c2, .ref c3, .ref c4, .ref c5, .ref c6, .ref c7, .int (xrg)])), (a2, .inl (tc 0, 160, .inl f))]) := by
  refine Mi.go (by decide) (Nat.le_of_ble_eq_true rfl) ?_
  intro p e s m below meth c A ls R args Q C
  obtain ⟨hx, hb, hr, hts, hown, hlk, hml, hin, hA, hST, hN, hK, hP, hD, hS, hl, hR, hQ⟩ := C
  have hw : ∀ w ∈ lw_g, w.before args s = true := fun w h => hts w (List.mem_cons_of_mem _ h)
  have hl : lv_has ls 4 [(0, .ref h0), (1, .int (nI 0)), (2, .int (nI k))] := hl
  refine lv_aload_n hx hb d_MO_bit_0 rfl (lv_at hl 0 rfl) ?_
  refine lv_iconst (v := nI 0) hx hb d_MO_bit_1 (by decide) ?_
  refine k_put (ws' := [(h0, .inr (8, [.int (nI 0), .int (nI nby), .ref a1, .int (xra), .int (nI ndb), .ref a2, .int (nI ncb), .ref a3, .ref a4, .int (nI nfr), .ref a5, .ref a6, .int (nI nsy), .int (nI nai), .ref a7, .ref a8, .int (xas), .int (xan), .int (xst), .int (xhr), .int (xhb), .int (xse), .int (xbe), .ref a9, .ref b1, .ref b2, .ref b3, .ref b4, .ref b5, .ref b6, .ref b7, .ref b8, .ref c1, .ref c2, .ref c3, .ref c4, .ref c5, .ref c6, .ref c7, .int (xrg)])), (a2, .inl (tc 0, 160, .inl f))]) hx hb hw uw_MO tok_MO nn_MO hown hK hP hD hS 0 rfl rfl 0 (by decide) (hw _ wd_714) rfl rfl rfl (Nat.le_of_ble_eq_true rfl) d_MO_bit_2 rfl (fun H locs hP hD hS => ?_)
  refine lv_aload_n hx hb d_MO_bit_5 rfl (lv_at hl 0 rfl) ?_
  refine k_get hx hb hw uw_MO hown hK hP 0 rfl rfl 9 (by decide) (hw _ wd_723) rfl d_MO_bit_6 ?_
  refine k_if_eq (tgt := 21) hx hb d_MO_bit_9 (by decide) (by omega) (fun h9 => ?_) (fun h9 => ?_)
  · exfalso; omega
  · refine lv_iload_n hx hb d_MO_bit_12 rfl (lv_at hl 1 rfl) ?_
    refine lv_if_lt (tgt := 21) hx hb d_MO_bit_13 (by decide) (fun h13 => ?_) (fun h13 => ?_)
    · exact absurd h13 (by decide)
    · refine lv_iload_n hx hb d_MO_bit_16 rfl (lv_at hl 1 rfl) ?_
      refine lv_iconst (v := nI 2) hx hb d_MO_bit_17 (by decide) ?_
      refine k_icmp_le (tgt := 25) hx hb d_MO_bit_18 (by decide) (by omega) (by omega) (fun h18 => ?_) (fun h18 => ?_)
      · refine lv_iload_n hx hb d_MO_bit_25 rfl (lv_at hl 1 rfl) ?_
        refine k_if_ne (tgt := 36) hx hb d_MO_bit_26 (by decide) (by omega) (fun h26 => ?_) (fun h26 => ?_)
        · exfalso; omega
        · refine lv_aload_n hx hb d_MO_bit_29 rfl (lv_at hl 0 rfl) ?_
          refine k_get hx hb hw uw_MO hown hK hP 0 rfl rfl 4 (by decide) (hw _ wd_718) rfl d_MO_bit_30 ?_
          refine lv_goto (tgt := 40) hx hb d_MO_bit_33 (by decide) ?_
          refine lv_istore_n (lv' := [(3, .int (nI ndb)), (0, .ref h0), (1, .int (nI 0)), (2, .int (nI k))]) hx hb d_MO_bit_40 rfl hl (by decide) rfl (fun ls hl => ?_)
          refine lv_iload_n hx hb d_MO_bit_41 rfl (lv_at hl 0 rfl) ?_
          refine lv_if_lt (tgt := 55) hx hb d_MO_bit_42 (by decide) (fun h42 => ?_) (fun h42 => ?_)
          · exact absurd h42 (nI_pos (by omega))
          · refine lv_iload_n hx hb d_MO_bit_45 rfl (lv_at hl 3 rfl) ?_
            refine lv_iconst (v := -1) hx hb d_MO_bit_46 (by decide) ?_
            refine lv_icmp_lt (tgt := 55) hx hb d_MO_bit_47 (by decide) (fun h47 => ?_) (fun h47 => ?_)
            · exact absurd h47 (k_nlt_m1 (by omega))
            · refine lv_iload_n hx hb d_MO_bit_50 rfl (lv_at hl 3 rfl) ?_
              refine lv_iload_n hx hb d_MO_bit_51 rfl (lv_at hl 0 rfl) ?_
              refine k_icmp_lt (tgt := 57) hx hb d_MO_bit_52 (by decide) (by omega) (by omega) (fun h52 => ?_) (fun h52 => ?_)
              · refine lv_iload_n hx hb d_MO_bit_57 rfl (lv_at hl 3 rfl) ?_
                refine lv_iconst (v := -1) hx hb d_MO_bit_58 (by decide) ?_
                refine lv_icmp_ne (tgt := 66) hx hb d_MO_bit_59 (by decide) (fun h59 => ?_) (fun h59 => ?_)
                · refine lv_iload_n hx hb d_MO_bit_66 rfl (lv_at hl 2 rfl) ?_
                  refine k_if_ne (tgt := 79) hx hb d_MO_bit_67 (by decide) (by omega) (fun h67 => ?_) (fun h67 => ?_)
                  · exfalso; omega
                  · refine lv_aload_n hx hb d_MO_bit_70 rfl (lv_at hl 1 rfl) ?_
                    refine k_get hx hb hw uw_MO hown hK hP 0 rfl rfl 5 (by decide) (hw _ wd_719) rfl d_MO_bit_71 ?_
                    refine lv_iload_n hx hb d_MO_bit_74 rfl (lv_at hl 3 rfl) ?_
                    refine k_iald hx hb hK hP 1 0 rfl rfl (by omega) (by omega) d_MO_bit_75 ?_
                    refine lv_goto (tgt := 99) hx hb d_MO_bit_76 (by decide) ?_
                    rw [hQ]
                    exact k_iret () hx hb hr hlk hK hP hD hS [0, 1] (by decide) rfl trivial rfl d_MO_bit_99
                · exact absurd h59 (nI_m1 (by omega))
              · exfalso; omega
      · exfalso; omega
set_option maxHeartbeats 4000000 in
set_option maxRecDepth 100000 in
theorem c_MO_bit_m1_1 (l : Launch) (D : va_G) (tc : Nat → ClassId) (tb : Nat → Nat) (h0 : Nat) (nby : Nat) (ndb : Nat) (ncb : Nat) (nfr : Nat) (nsy : Nat) (nai : Nat) (xth : Int32) (xra : Int32) (xas : Int32) (xan : Int32) (xst : Int32) (xhr : Int32) (xhb : Int32) (xse : Int32) (xbe : Int32) (xrg : Int32) (a1 : Nat) (a2 : Nat) (a3 : Nat) (a4 : Nat) (a5 : Nat) (a6 : Nat) (a7 : Nat) (a8 : Nat) (a9 : Nat) (b1 : Nat) (b2 : Nat) (b3 : Nat) (b4 : Nat) (b5 : Nat) (b6 : Nat) (b7 : Nat) (b8 : Nat) (c1 : Nat) (c2 : Nat) (c3 : Nat) (c4 : Nat) (c5 : Nat) (c6 : Nat) (c7 : Nat) (hf0 : 0 < nfr) (hfr : nfr ≤ 520) (hcn : ncb ≤ 340) : Mi l D tc tb y_MO_bit prog_10_method_25_code 4 (some .int) ({ frames := 0, cells := 0, slots := 0, locals := 0 }) [.ref h0, .int (nI 1), .int (-1)] [(h0, .inr (8, [.int (xth), .int (nI nby), .ref a1, .int (xra), .int (nI ndb), .ref a2, .int (nI ncb), .ref a3, .ref a4, .int (nI nfr), .ref a5, .ref a6, .int (nI nsy), .int (nI nai), .ref a7, .ref a8, .int (xas), .int (xan), .int (xst), .int (xhr), .int (xhb), .int (xse), .int (xbe), .ref a9, .ref b1, .ref b2, .ref b3, .ref b4, .ref b5, .ref b6, .ref b7, .ref b8, .ref c1, .ref c2, .ref c3, .ref c4, .ref c5, .ref c6, .ref c7, .int (xrg)]))] (fun _ : Unit => True) (fun _ : Unit => nI ncb) (fun _ : Unit => [(h0, .inr (8, [.int (nI 0), .int (nI nby), .ref a1, .int (xra), .int (nI ndb), .ref a2, .int (nI ncb), .ref a3, .ref a4, .int (nI nfr), .ref a5, .ref a6, .int (nI nsy), .int (nI nai), .ref a7, .ref a8, .int (xas), .int (xan), .int (xst), .int (xhr), .int (xhb), .int (xse), .int (xbe), .ref a9, .ref b1, .ref b2, .ref b3, .ref b4, .ref b5, .ref b6, .ref b7, .ref b8, .ref c1, .ref c2, .ref c3, .ref c4, .ref c5, .ref c6, .ref c7, .int (xrg)]))]) := by
  refine Mi.go (by decide) (Nat.le_of_ble_eq_true rfl) ?_
  intro p e s m below meth c A ls R args Q C
  obtain ⟨hx, hb, hr, hts, hown, hlk, hml, hin, hA, hST, hN, hK, hP, hD, hS, hl, hR, hQ⟩ := C
  have hw : ∀ w ∈ lw_g, w.before args s = true := fun w h => hts w (List.mem_cons_of_mem _ h)
  have hl : lv_has ls 4 [(0, .ref h0), (1, .int (nI 1)), (2, .int (-1))] := hl
  refine lv_aload_n hx hb d_MO_bit_0 rfl (lv_at hl 0 rfl) ?_
  refine lv_iconst (v := nI 0) hx hb d_MO_bit_1 (by decide) ?_
  refine k_put (ws' := [(h0, .inr (8, [.int (nI 0), .int (nI nby), .ref a1, .int (xra), .int (nI ndb), .ref a2, .int (nI ncb), .ref a3, .ref a4, .int (nI nfr), .ref a5, .ref a6, .int (nI nsy), .int (nI nai), .ref a7, .ref a8, .int (xas), .int (xan), .int (xst), .int (xhr), .int (xhb), .int (xse), .int (xbe), .ref a9, .ref b1, .ref b2, .ref b3, .ref b4, .ref b5, .ref b6, .ref b7, .ref b8, .ref c1, .ref c2, .ref c3, .ref c4, .ref c5, .ref c6, .ref c7, .int (xrg)]))]) hx hb hw uw_MO tok_MO nn_MO hown hK hP hD hS 0 rfl rfl 0 (by decide) (hw _ wd_714) rfl rfl rfl (Nat.le_of_ble_eq_true rfl) d_MO_bit_2 rfl (fun H locs hP hD hS => ?_)
  refine lv_aload_n hx hb d_MO_bit_5 rfl (lv_at hl 0 rfl) ?_
  refine k_get hx hb hw uw_MO hown hK hP 0 rfl rfl 9 (by decide) (hw _ wd_723) rfl d_MO_bit_6 ?_
  refine k_if_eq (tgt := 21) hx hb d_MO_bit_9 (by decide) (by omega) (fun h9 => ?_) (fun h9 => ?_)
  · exfalso; omega
  · refine lv_iload_n hx hb d_MO_bit_12 rfl (lv_at hl 1 rfl) ?_
    refine lv_if_lt (tgt := 21) hx hb d_MO_bit_13 (by decide) (fun h13 => ?_) (fun h13 => ?_)
    · exact absurd h13 (by decide)
    · refine lv_iload_n hx hb d_MO_bit_16 rfl (lv_at hl 1 rfl) ?_
      refine lv_iconst (v := nI 2) hx hb d_MO_bit_17 (by decide) ?_
      refine k_icmp_le (tgt := 25) hx hb d_MO_bit_18 (by decide) (by omega) (by omega) (fun h18 => ?_) (fun h18 => ?_)
      · refine lv_iload_n hx hb d_MO_bit_25 rfl (lv_at hl 1 rfl) ?_
        refine k_if_ne (tgt := 36) hx hb d_MO_bit_26 (by decide) (by omega) (fun h26 => ?_) (fun h26 => ?_)
        · refine lv_aload_n hx hb d_MO_bit_36 rfl (lv_at hl 0 rfl) ?_
          refine k_get hx hb hw uw_MO hown hK hP 0 rfl rfl 6 (by decide) (hw _ wd_720) rfl d_MO_bit_37 ?_
          refine lv_istore_n (lv' := [(3, .int (nI ncb)), (0, .ref h0), (1, .int (nI 1)), (2, .int (-1))]) hx hb d_MO_bit_40 rfl hl (by decide) rfl (fun ls hl => ?_)
          refine lv_iload_n hx hb d_MO_bit_41 rfl (lv_at hl 0 rfl) ?_
          refine lv_if_lt (tgt := 55) hx hb d_MO_bit_42 (by decide) (fun h42 => ?_) (fun h42 => ?_)
          · exact absurd h42 (nI_pos (by omega))
          · refine lv_iload_n hx hb d_MO_bit_45 rfl (lv_at hl 3 rfl) ?_
            refine lv_iconst (v := -1) hx hb d_MO_bit_46 (by decide) ?_
            refine lv_icmp_lt (tgt := 55) hx hb d_MO_bit_47 (by decide) (fun h47 => ?_) (fun h47 => ?_)
            · exact absurd h47 (by decide)
            · refine lv_iload_n hx hb d_MO_bit_50 rfl (lv_at hl 3 rfl) ?_
              refine lv_iload_n hx hb d_MO_bit_51 rfl (lv_at hl 0 rfl) ?_
              refine lv_icmp_lt (tgt := 57) hx hb d_MO_bit_52 (by decide) (fun h52 => ?_) (fun h52 => ?_)
              · refine lv_iload_n hx hb d_MO_bit_57 rfl (lv_at hl 3 rfl) ?_
                refine lv_iconst (v := -1) hx hb d_MO_bit_58 (by decide) ?_
                refine lv_icmp_ne (tgt := 66) hx hb d_MO_bit_59 (by decide) (fun h59 => ?_) (fun h59 => ?_)
                · exact absurd rfl h59
                · refine lv_iload_n hx hb d_MO_bit_62 rfl (lv_at hl 0 rfl) ?_
                  refine lv_goto (tgt := 99) hx hb d_MO_bit_63 (by decide) ?_
                  rw [hQ]
                  exact k_iret () hx hb hr hlk hK hP hD hS [0] (by decide) rfl trivial rfl d_MO_bit_99
              · exact absurd (k_m1_lt (by omega)) h52
        · exfalso; omega
      · exfalso; omega
set_option maxHeartbeats 4000000 in
set_option maxRecDepth 100000 in
theorem c_MO_bit_no_1 (l : Launch) (D : va_G) (tc : Nat → ClassId) (tb : Nat → Nat) (h0 : Nat) (nby : Nat) (ndb : Nat) (ncb : Nat) (nfr : Nat) (nsy : Nat) (nai : Nat) (xth : Int32) (xra : Int32) (xas : Int32) (xan : Int32) (xst : Int32) (xhr : Int32) (xhb : Int32) (xse : Int32) (xbe : Int32) (xrg : Int32) (a1 : Nat) (a2 : Nat) (a3 : Nat) (a4 : Nat) (a5 : Nat) (a6 : Nat) (a7 : Nat) (a8 : Nat) (a9 : Nat) (b1 : Nat) (b2 : Nat) (b3 : Nat) (b4 : Nat) (b5 : Nat) (b6 : Nat) (b7 : Nat) (b8 : Nat) (c1 : Nat) (c2 : Nat) (c3 : Nat) (c4 : Nat) (c5 : Nat) (c6 : Nat) (c7 : Nat) (xk : Int32) (hf0 : 0 < nfr) (hfr : nfr ≤ 520) (hcn : ncb ≤ 340) (hm : ¬ xk = -1) (hbad : xk < 0 ∨ ¬ xk < nI ncb) : Mi l D tc tb y_MO_bit prog_10_method_25_code 4 (some .int) ({ frames := 0, cells := 0, slots := 0, locals := 0 }) [.ref h0, .int (nI 1), .int (xk)] [(h0, .inr (8, [.int (xth), .int (nI nby), .ref a1, .int (xra), .int (nI ndb), .ref a2, .int (nI ncb), .ref a3, .ref a4, .int (nI nfr), .ref a5, .ref a6, .int (nI nsy), .int (nI nai), .ref a7, .ref a8, .int (xas), .int (xan), .int (xst), .int (xhr), .int (xhb), .int (xse), .int (xbe), .ref a9, .ref b1, .ref b2, .ref b3, .ref b4, .ref b5, .ref b6, .ref b7, .ref b8, .ref c1, .ref c2, .ref c3, .ref c4, .ref c5, .ref c6, .ref c7, .int (xrg)]))] (fun _ : Unit => True) (fun _ : Unit => -1) (fun _ : Unit => [(h0, .inr (8, [.int (nI 0), .int (nI nby), .ref a1, .int (xra), .int (nI ndb), .ref a2, .int (nI ncb), .ref a3, .ref a4, .int (nI nfr), .ref a5, .ref a6, .int (nI nsy), .int (nI nai), .ref a7, .ref a8, .int (xas), .int (xan), .int (xst), .int (xhr), .int (xhb), .int (xse), .int (xbe), .ref a9, .ref b1, .ref b2, .ref b3, .ref b4, .ref b5, .ref b6, .ref b7, .ref b8, .ref c1, .ref c2, .ref c3, .ref c4, .ref c5, .ref c6, .ref c7, .int (xrg)]))]) := by
  refine Mi.go (by decide) (Nat.le_of_ble_eq_true rfl) ?_
  intro p e s m below meth c A ls R args Q C
  obtain ⟨hx, hb, hr, hts, hown, hlk, hml, hin, hA, hST, hN, hK, hP, hD, hS, hl, hR, hQ⟩ := C
  have hw : ∀ w ∈ lw_g, w.before args s = true := fun w h => hts w (List.mem_cons_of_mem _ h)
  have hl : lv_has ls 4 [(0, .ref h0), (1, .int (nI 1)), (2, .int (xk))] := hl
  refine lv_aload_n hx hb d_MO_bit_0 rfl (lv_at hl 0 rfl) ?_
  refine lv_iconst (v := nI 0) hx hb d_MO_bit_1 (by decide) ?_
  refine k_put (ws' := [(h0, .inr (8, [.int (nI 0), .int (nI nby), .ref a1, .int (xra), .int (nI ndb), .ref a2, .int (nI ncb), .ref a3, .ref a4, .int (nI nfr), .ref a5, .ref a6, .int (nI nsy), .int (nI nai), .ref a7, .ref a8, .int (xas), .int (xan), .int (xst), .int (xhr), .int (xhb), .int (xse), .int (xbe), .ref a9, .ref b1, .ref b2, .ref b3, .ref b4, .ref b5, .ref b6, .ref b7, .ref b8, .ref c1, .ref c2, .ref c3, .ref c4, .ref c5, .ref c6, .ref c7, .int (xrg)]))]) hx hb hw uw_MO tok_MO nn_MO hown hK hP hD hS 0 rfl rfl 0 (by decide) (hw _ wd_714) rfl rfl rfl (Nat.le_of_ble_eq_true rfl) d_MO_bit_2 rfl (fun H locs hP hD hS => ?_)
  refine lv_aload_n hx hb d_MO_bit_5 rfl (lv_at hl 0 rfl) ?_
  refine k_get hx hb hw uw_MO hown hK hP 0 rfl rfl 9 (by decide) (hw _ wd_723) rfl d_MO_bit_6 ?_
  refine k_if_eq (tgt := 21) hx hb d_MO_bit_9 (by decide) (by omega) (fun h9 => ?_) (fun h9 => ?_)
  · exfalso; omega
  · refine lv_iload_n hx hb d_MO_bit_12 rfl (lv_at hl 1 rfl) ?_
    refine lv_if_lt (tgt := 21) hx hb d_MO_bit_13 (by decide) (fun h13 => ?_) (fun h13 => ?_)
    · exact absurd h13 (by decide)
    · refine lv_iload_n hx hb d_MO_bit_16 rfl (lv_at hl 1 rfl) ?_
      refine lv_iconst (v := nI 2) hx hb d_MO_bit_17 (by decide) ?_
      refine k_icmp_le (tgt := 25) hx hb d_MO_bit_18 (by decide) (by omega) (by omega) (fun h18 => ?_) (fun h18 => ?_)
      · refine lv_iload_n hx hb d_MO_bit_25 rfl (lv_at hl 1 rfl) ?_
        refine k_if_ne (tgt := 36) hx hb d_MO_bit_26 (by decide) (by omega) (fun h26 => ?_) (fun h26 => ?_)
        · refine lv_aload_n hx hb d_MO_bit_36 rfl (lv_at hl 0 rfl) ?_
          refine k_get hx hb hw uw_MO hown hK hP 0 rfl rfl 6 (by decide) (hw _ wd_720) rfl d_MO_bit_37 ?_
          refine lv_istore_n (lv' := [(3, .int (nI ncb)), (0, .ref h0), (1, .int (nI 1)), (2, .int (xk))]) hx hb d_MO_bit_40 rfl hl (by decide) rfl (fun ls hl => ?_)
          refine lv_iload_n hx hb d_MO_bit_41 rfl (lv_at hl 0 rfl) ?_
          refine lv_if_lt (tgt := 55) hx hb d_MO_bit_42 (by decide) (fun h42 => ?_) (fun h42 => ?_)
          · exact absurd h42 (nI_pos (by omega))
          · refine lv_iload_n hx hb d_MO_bit_45 rfl (lv_at hl 3 rfl) ?_
            refine lv_iconst (v := -1) hx hb d_MO_bit_46 (by decide) ?_
            refine lv_icmp_lt (tgt := 55) hx hb d_MO_bit_47 (by decide) (fun h47 => ?_) (fun h47 => ?_)
            · refine lv_iconst (v := -1) hx hb d_MO_bit_55 (by decide) ?_
              rw [hQ]
              exact k_iret () hx hb hr hlk hK hP hD hS [0] (by decide) rfl trivial rfl d_MO_bit_56
            · refine lv_iload_n hx hb d_MO_bit_50 rfl (lv_at hl 3 rfl) ?_
              refine lv_iload_n hx hb d_MO_bit_51 rfl (lv_at hl 0 rfl) ?_
              refine lv_icmp_lt (tgt := 57) hx hb d_MO_bit_52 (by decide) (fun h52 => ?_) (fun h52 => ?_)
              · exact False.elim (hbad.elim (fun q9 => h47 (k_lt_m1 hm q9)) (fun q9 => q9 h52))
              · refine lv_iconst (v := -1) hx hb d_MO_bit_55 (by decide) ?_
                rw [hQ]
                exact k_iret () hx hb hr hlk hK hP hD hS [0] (by decide) rfl trivial rfl d_MO_bit_56
        · exfalso; omega
      · exfalso; omega
set_option maxHeartbeats 4000000 in
set_option maxRecDepth 100000 in
theorem c_MO_bit_ok_1 (l : Launch) (D : va_G) (tc : Nat → ClassId) (tb : Nat → Nat) (h0 : Nat) (nby : Nat) (ndb : Nat) (ncb : Nat) (nfr : Nat) (nsy : Nat) (nai : Nat) (xth : Int32) (xra : Int32) (xas : Int32) (xan : Int32) (xst : Int32) (xhr : Int32) (xhb : Int32) (xse : Int32) (xbe : Int32) (xrg : Int32) (a1 : Nat) (a2 : Nat) (a3 : Nat) (a4 : Nat) (a5 : Nat) (a6 : Nat) (a7 : Nat) (a8 : Nat) (a9 : Nat) (b1 : Nat) (b2 : Nat) (b3 : Nat) (b4 : Nat) (b5 : Nat) (b6 : Nat) (b7 : Nat) (b8 : Nat) (c1 : Nat) (c2 : Nat) (c3 : Nat) (c4 : Nat) (c5 : Nat) (c6 : Nat) (c7 : Nat) (f : Nat → Int32) (k : Nat) (hf0 : 0 < nfr) (hfr : nfr ≤ 520) (hcn : ncb ≤ 340) (hk : k < ncb) : Mi l D tc tb y_MO_bit prog_10_method_25_code 4 (some .int) ({ frames := 0, cells := 0, slots := 0, locals := 0 }) [.ref h0, .int (nI 1), .int (nI k)] [(h0, .inr (8, [.int (xth), .int (nI nby), .ref a1, .int (xra), .int (nI ndb), .ref a2, .int (nI ncb), .ref a3, .ref a4, .int (nI nfr), .ref a5, .ref a6, .int (nI nsy), .int (nI nai), .ref a7, .ref a8, .int (xas), .int (xan), .int (xst), .int (xhr), .int (xhb), .int (xse), .int (xbe), .ref a9, .ref b1, .ref b2, .ref b3, .ref b4, .ref b5, .ref b6, .ref b7, .ref b8, .ref c1, .ref c2, .ref c3, .ref c4, .ref c5, .ref c6, .ref c7, .int (xrg)])), (a3, .inl (tc 0, 340, .inl f))] (fun _ : Unit => True) (fun _ : Unit => f k) (fun _ : Unit => [(h0, .inr (8, [.int (nI 0), .int (nI nby), .ref a1, .int (xra), .int (nI ndb), .ref a2, .int (nI ncb), .ref a3, .ref a4, .int (nI nfr), .ref a5, .ref a6, .int (nI nsy), .int (nI nai), .ref a7, .ref a8, .int (xas), .int (xan), .int (xst), .int (xhr), .int (xhb), .int (xse), .int (xbe), .ref a9, .ref b1, .ref b2, .ref b3, .ref b4, .ref b5, .ref b6, .ref b7, .ref b8, .ref c1, .ref c2, .ref c3, .ref c4, .ref c5, .ref c6, .ref c7, .int (xrg)])), (a3, .inl (tc 0, 340, .inl f))]) := by
  refine Mi.go (by decide) (Nat.le_of_ble_eq_true rfl) ?_
  intro p e s m below meth c A ls R args Q C
  obtain ⟨hx, hb, hr, hts, hown, hlk, hml, hin, hA, hST, hN, hK, hP, hD, hS, hl, hR, hQ⟩ := C
  have hw : ∀ w ∈ lw_g, w.before args s = true := fun w h => hts w (List.mem_cons_of_mem _ h)
  have hl : lv_has ls 4 [(0, .ref h0), (1, .int (nI 1)), (2, .int (nI k))] := hl
  refine lv_aload_n hx hb d_MO_bit_0 rfl (lv_at hl 0 rfl) ?_
  refine lv_iconst (v := nI 0) hx hb d_MO_bit_1 (by decide) ?_
  refine k_put (ws' := [(h0, .inr (8, [.int (nI 0), .int (nI nby), .ref a1, .int (xra), .int (nI ndb), .ref a2, .int (nI ncb), .ref a3, .ref a4, .int (nI nfr), .ref a5, .ref a6, .int (nI nsy), .int (nI nai), .ref a7, .ref a8, .int (xas), .int (xan), .int (xst), .int (xhr), .int (xhb), .int (xse), .int (xbe), .ref a9, .ref b1, .ref b2, .ref b3, .ref b4, .ref b5, .ref b6, .ref b7, .ref b8, .ref c1, .ref c2, .ref c3, .ref c4, .ref c5, .ref c6, .ref c7, .int (xrg)])), (a3, .inl (tc 0, 340, .inl f))]) hx hb hw uw_MO tok_MO nn_MO hown hK hP hD hS 0 rfl rfl 0 (by decide) (hw _ wd_714) rfl rfl rfl (Nat.le_of_ble_eq_true rfl) d_MO_bit_2 rfl (fun H locs hP hD hS => ?_)
  refine lv_aload_n hx hb d_MO_bit_5 rfl (lv_at hl 0 rfl) ?_
  refine k_get hx hb hw uw_MO hown hK hP 0 rfl rfl 9 (by decide) (hw _ wd_723) rfl d_MO_bit_6 ?_
  refine k_if_eq (tgt := 21) hx hb d_MO_bit_9 (by decide) (by omega) (fun h9 => ?_) (fun h9 => ?_)
  · exfalso; omega
  · refine lv_iload_n hx hb d_MO_bit_12 rfl (lv_at hl 1 rfl) ?_
    refine lv_if_lt (tgt := 21) hx hb d_MO_bit_13 (by decide) (fun h13 => ?_) (fun h13 => ?_)
    · exact absurd h13 (by decide)
    · refine lv_iload_n hx hb d_MO_bit_16 rfl (lv_at hl 1 rfl) ?_
      refine lv_iconst (v := nI 2) hx hb d_MO_bit_17 (by decide) ?_
      refine k_icmp_le (tgt := 25) hx hb d_MO_bit_18 (by decide) (by omega) (by omega) (fun h18 => ?_) (fun h18 => ?_)
      · refine lv_iload_n hx hb d_MO_bit_25 rfl (lv_at hl 1 rfl) ?_
        refine k_if_ne (tgt := 36) hx hb d_MO_bit_26 (by decide) (by omega) (fun h26 => ?_) (fun h26 => ?_)
        · refine lv_aload_n hx hb d_MO_bit_36 rfl (lv_at hl 0 rfl) ?_
          refine k_get hx hb hw uw_MO hown hK hP 0 rfl rfl 6 (by decide) (hw _ wd_720) rfl d_MO_bit_37 ?_
          refine lv_istore_n (lv' := [(3, .int (nI ncb)), (0, .ref h0), (1, .int (nI 1)), (2, .int (nI k))]) hx hb d_MO_bit_40 rfl hl (by decide) rfl (fun ls hl => ?_)
          refine lv_iload_n hx hb d_MO_bit_41 rfl (lv_at hl 0 rfl) ?_
          refine lv_if_lt (tgt := 55) hx hb d_MO_bit_42 (by decide) (fun h42 => ?_) (fun h42 => ?_)
          · exact absurd h42 (nI_pos (by omega))
          · refine lv_iload_n hx hb d_MO_bit_45 rfl (lv_at hl 3 rfl) ?_
            refine lv_iconst (v := -1) hx hb d_MO_bit_46 (by decide) ?_
            refine lv_icmp_lt (tgt := 55) hx hb d_MO_bit_47 (by decide) (fun h47 => ?_) (fun h47 => ?_)
            · exact absurd h47 (k_nlt_m1 (by omega))
            · refine lv_iload_n hx hb d_MO_bit_50 rfl (lv_at hl 3 rfl) ?_
              refine lv_iload_n hx hb d_MO_bit_51 rfl (lv_at hl 0 rfl) ?_
              refine k_icmp_lt (tgt := 57) hx hb d_MO_bit_52 (by decide) (by omega) (by omega) (fun h52 => ?_) (fun h52 => ?_)
              · refine lv_iload_n hx hb d_MO_bit_57 rfl (lv_at hl 3 rfl) ?_
                refine lv_iconst (v := -1) hx hb d_MO_bit_58 (by decide) ?_
                refine lv_icmp_ne (tgt := 66) hx hb d_MO_bit_59 (by decide) (fun h59 => ?_) (fun h59 => ?_)
                · refine lv_iload_n hx hb d_MO_bit_66 rfl (lv_at hl 2 rfl) ?_
                  refine k_if_ne (tgt := 79) hx hb d_MO_bit_67 (by decide) (by omega) (fun h67 => ?_) (fun h67 => ?_)
                  · refine lv_iload_n hx hb d_MO_bit_79 rfl (lv_at hl 2 rfl) ?_
                    refine lv_iconst (v := nI 1) hx hb d_MO_bit_80 (by decide) ?_
                    refine k_icmp_ne (tgt := 93) hx hb d_MO_bit_81 (by decide) (by omega) (by omega) (fun h81 => ?_) (fun h81 => ?_)
                    · exfalso; omega
                    · refine lv_aload_n hx hb d_MO_bit_84 rfl (lv_at hl 1 rfl) ?_
                      refine k_get hx hb hw uw_MO hown hK hP 0 rfl rfl 7 (by decide) (hw _ wd_721) rfl d_MO_bit_85 ?_
                      refine lv_iload_n hx hb d_MO_bit_88 rfl (lv_at hl 3 rfl) ?_
                      refine k_iald hx hb hK hP 1 0 rfl rfl (by omega) (by omega) d_MO_bit_89 ?_
                      refine lv_goto (tgt := 99) hx hb d_MO_bit_90 (by decide) ?_
                      rw [hQ]
                      exact k_iret () hx hb hr hlk hK hP hD hS [0, 1] (by decide) rfl trivial rfl d_MO_bit_99
                  · exfalso; omega
                · exact absurd h59 (nI_m1 (by omega))
              · exfalso; omega
        · exfalso; omega
      · exfalso; omega
set_option maxHeartbeats 4000000 in
set_option maxRecDepth 100000 in
theorem c_MO_bit_m1_2 (l : Launch) (D : va_G) (tc : Nat → ClassId) (tb : Nat → Nat) (h0 : Nat) (nby : Nat) (ndb : Nat) (ncb : Nat) (nfr : Nat) (nsy : Nat) (nai : Nat) (xth : Int32) (xra : Int32) (xas : Int32) (xan : Int32) (xst : Int32) (xhr : Int32) (xhb : Int32) (xse : Int32) (xbe : Int32) (xrg : Int32) (a1 : Nat) (a2 : Nat) (a3 : Nat) (a4 : Nat) (a5 : Nat) (a6 : Nat) (a7 : Nat) (a8 : Nat) (a9 : Nat) (b1 : Nat) (b2 : Nat) (b3 : Nat) (b4 : Nat) (b5 : Nat) (b6 : Nat) (b7 : Nat) (b8 : Nat) (c1 : Nat) (c2 : Nat) (c3 : Nat) (c4 : Nat) (c5 : Nat) (c6 : Nat) (c7 : Nat) (hf0 : 0 < nfr) (hfr : nfr ≤ 520) (hcn : ncb ≤ 340) : Mi l D tc tb y_MO_bit prog_10_method_25_code 4 (some .int) ({ frames := 0, cells := 0, slots := 0, locals := 0 }) [.ref h0, .int (nI 2), .int (-1)] [(h0, .inr (8, [.int (xth), .int (nI nby), .ref a1, .int (xra), .int (nI ndb), .ref a2, .int (nI ncb), .ref a3, .ref a4, .int (nI nfr), .ref a5, .ref a6, .int (nI nsy), .int (nI nai), .ref a7, .ref a8, .int (xas), .int (xan), .int (xst), .int (xhr), .int (xhb), .int (xse), .int (xbe), .ref a9, .ref b1, .ref b2, .ref b3, .ref b4, .ref b5, .ref b6, .ref b7, .ref b8, .ref c1, .ref c2, .ref c3, .ref c4, .ref c5, .ref c6, .ref c7, .int (xrg)]))] (fun _ : Unit => True) (fun _ : Unit => nI ncb) (fun _ : Unit => [(h0, .inr (8, [.int (nI 0), .int (nI nby), .ref a1, .int (xra), .int (nI ndb), .ref a2, .int (nI ncb), .ref a3, .ref a4, .int (nI nfr), .ref a5, .ref a6, .int (nI nsy), .int (nI nai), .ref a7, .ref a8, .int (xas), .int (xan), .int (xst), .int (xhr), .int (xhb), .int (xse), .int (xbe), .ref a9, .ref b1, .ref b2, .ref b3, .ref b4, .ref b5, .ref b6, .ref b7, .ref b8, .ref c1, .ref c2, .ref c3, .ref c4, .ref c5, .ref c6, .ref c7, .int (xrg)]))]) := by
  refine Mi.go (by decide) (Nat.le_of_ble_eq_true rfl) ?_
  intro p e s m below meth c A ls R args Q C
  obtain ⟨hx, hb, hr, hts, hown, hlk, hml, hin, hA, hST, hN, hK, hP, hD, hS, hl, hR, hQ⟩ := C
  have hw : ∀ w ∈ lw_g, w.before args s = true := fun w h => hts w (List.mem_cons_of_mem _ h)
  have hl : lv_has ls 4 [(0, .ref h0), (1, .int (nI 2)), (2, .int (-1))] := hl
  refine lv_aload_n hx hb d_MO_bit_0 rfl (lv_at hl 0 rfl) ?_
  refine lv_iconst (v := nI 0) hx hb d_MO_bit_1 (by decide) ?_
  refine k_put (ws' := [(h0, .inr (8, [.int (nI 0), .int (nI nby), .ref a1, .int (xra), .int (nI ndb), .ref a2, .int (nI ncb), .ref a3, .ref a4, .int (nI nfr), .ref a5, .ref a6, .int (nI nsy), .int (nI nai), .ref a7, .ref a8, .int (xas), .int (xan), .int (xst), .int (xhr), .int (xhb), .int (xse), .int (xbe), .ref a9, .ref b1, .ref b2, .ref b3, .ref b4, .ref b5, .ref b6, .ref b7, .ref b8, .ref c1, .ref c2, .ref c3, .ref c4, .ref c5, .ref c6, .ref c7, .int (xrg)]))]) hx hb hw uw_MO tok_MO nn_MO hown hK hP hD hS 0 rfl rfl 0 (by decide) (hw _ wd_714) rfl rfl rfl (Nat.le_of_ble_eq_true rfl) d_MO_bit_2 rfl (fun H locs hP hD hS => ?_)
  refine lv_aload_n hx hb d_MO_bit_5 rfl (lv_at hl 0 rfl) ?_
  refine k_get hx hb hw uw_MO hown hK hP 0 rfl rfl 9 (by decide) (hw _ wd_723) rfl d_MO_bit_6 ?_
  refine k_if_eq (tgt := 21) hx hb d_MO_bit_9 (by decide) (by omega) (fun h9 => ?_) (fun h9 => ?_)
  · exfalso; omega
  · refine lv_iload_n hx hb d_MO_bit_12 rfl (lv_at hl 1 rfl) ?_
    refine lv_if_lt (tgt := 21) hx hb d_MO_bit_13 (by decide) (fun h13 => ?_) (fun h13 => ?_)
    · exact absurd h13 (by decide)
    · refine lv_iload_n hx hb d_MO_bit_16 rfl (lv_at hl 1 rfl) ?_
      refine lv_iconst (v := nI 2) hx hb d_MO_bit_17 (by decide) ?_
      refine k_icmp_le (tgt := 25) hx hb d_MO_bit_18 (by decide) (by omega) (by omega) (fun h18 => ?_) (fun h18 => ?_)
      · refine lv_iload_n hx hb d_MO_bit_25 rfl (lv_at hl 1 rfl) ?_
        refine k_if_ne (tgt := 36) hx hb d_MO_bit_26 (by decide) (by omega) (fun h26 => ?_) (fun h26 => ?_)
        · refine lv_aload_n hx hb d_MO_bit_36 rfl (lv_at hl 0 rfl) ?_
          refine k_get hx hb hw uw_MO hown hK hP 0 rfl rfl 6 (by decide) (hw _ wd_720) rfl d_MO_bit_37 ?_
          refine lv_istore_n (lv' := [(3, .int (nI ncb)), (0, .ref h0), (1, .int (nI 2)), (2, .int (-1))]) hx hb d_MO_bit_40 rfl hl (by decide) rfl (fun ls hl => ?_)
          refine lv_iload_n hx hb d_MO_bit_41 rfl (lv_at hl 0 rfl) ?_
          refine lv_if_lt (tgt := 55) hx hb d_MO_bit_42 (by decide) (fun h42 => ?_) (fun h42 => ?_)
          · exact absurd h42 (nI_pos (by omega))
          · refine lv_iload_n hx hb d_MO_bit_45 rfl (lv_at hl 3 rfl) ?_
            refine lv_iconst (v := -1) hx hb d_MO_bit_46 (by decide) ?_
            refine lv_icmp_lt (tgt := 55) hx hb d_MO_bit_47 (by decide) (fun h47 => ?_) (fun h47 => ?_)
            · exact absurd h47 (by decide)
            · refine lv_iload_n hx hb d_MO_bit_50 rfl (lv_at hl 3 rfl) ?_
              refine lv_iload_n hx hb d_MO_bit_51 rfl (lv_at hl 0 rfl) ?_
              refine lv_icmp_lt (tgt := 57) hx hb d_MO_bit_52 (by decide) (fun h52 => ?_) (fun h52 => ?_)
              · refine lv_iload_n hx hb d_MO_bit_57 rfl (lv_at hl 3 rfl) ?_
                refine lv_iconst (v := -1) hx hb d_MO_bit_58 (by decide) ?_
                refine lv_icmp_ne (tgt := 66) hx hb d_MO_bit_59 (by decide) (fun h59 => ?_) (fun h59 => ?_)
                · exact absurd rfl h59
                · refine lv_iload_n hx hb d_MO_bit_62 rfl (lv_at hl 0 rfl) ?_
                  refine lv_goto (tgt := 99) hx hb d_MO_bit_63 (by decide) ?_
                  rw [hQ]
                  exact k_iret () hx hb hr hlk hK hP hD hS [0] (by decide) rfl trivial rfl d_MO_bit_99
              · exact absurd (k_m1_lt (by omega)) h52
        · exfalso; omega
      · exfalso; omega
set_option maxHeartbeats 4000000 in
set_option maxRecDepth 100000 in
theorem c_MO_bit_no_2 (l : Launch) (D : va_G) (tc : Nat → ClassId) (tb : Nat → Nat) (h0 : Nat) (nby : Nat) (ndb : Nat) (ncb : Nat) (nfr : Nat) (nsy : Nat) (nai : Nat) (xth : Int32) (xra : Int32) (xas : Int32) (xan : Int32) (xst : Int32) (xhr : Int32) (xhb : Int32) (xse : Int32) (xbe : Int32) (xrg : Int32) (a1 : Nat) (a2 : Nat) (a3 : Nat) (a4 : Nat) (a5 : Nat) (a6 : Nat) (a7 : Nat) (a8 : Nat) (a9 : Nat) (b1 : Nat) (b2 : Nat) (b3 : Nat) (b4 : Nat) (b5 : Nat) (b6 : Nat) (b7 : Nat) (b8 : Nat) (c1 : Nat) (c2 : Nat) (c3 : Nat) (c4 : Nat) (c5 : Nat) (c6 : Nat) (c7 : Nat) (xk : Int32) (hf0 : 0 < nfr) (hfr : nfr ≤ 520) (hcn : ncb ≤ 340) (hm : ¬ xk = -1) (hbad : xk < 0 ∨ ¬ xk < nI ncb) : Mi l D tc tb y_MO_bit prog_10_method_25_code 4 (some .int) ({ frames := 0, cells := 0, slots := 0, locals := 0 }) [.ref h0, .int (nI 2), .int (xk)] [(h0, .inr (8, [.int (xth), .int (nI nby), .ref a1, .int (xra), .int (nI ndb), .ref a2, .int (nI ncb), .ref a3, .ref a4, .int (nI nfr), .ref a5, .ref a6, .int (nI nsy), .int (nI nai), .ref a7, .ref a8, .int (xas), .int (xan), .int (xst), .int (xhr), .int (xhb), .int (xse), .int (xbe), .ref a9, .ref b1, .ref b2, .ref b3, .ref b4, .ref b5, .ref b6, .ref b7, .ref b8, .ref c1, .ref c2, .ref c3, .ref c4, .ref c5, .ref c6, .ref c7, .int (xrg)]))] (fun _ : Unit => True) (fun _ : Unit => -1) (fun _ : Unit => [(h0, .inr (8, [.int (nI 0), .int (nI nby), .ref a1, .int (xra), .int (nI ndb), .ref a2, .int (nI ncb), .ref a3, .ref a4, .int (nI nfr), .ref a5, .ref a6, .int (nI nsy), .int (nI nai), .ref a7, .ref a8, .int (xas), .int (xan), .int (xst), .int (xhr), .int (xhb), .int (xse), .int (xbe), .ref a9, .ref b1, .ref b2, .ref b3, .ref b4, .ref b5, .ref b6, .ref b7, .ref b8, .ref c1, .ref c2, .ref c3, .ref c4, .ref c5, .ref c6, .ref c7, .int (xrg)]))]) := by
  refine Mi.go (by decide) (Nat.le_of_ble_eq_true rfl) ?_
  intro p e s m below meth c A ls R args Q C
  obtain ⟨hx, hb, hr, hts, hown, hlk, hml, hin, hA, hST, hN, hK, hP, hD, hS, hl, hR, hQ⟩ := C
  have hw : ∀ w ∈ lw_g, w.before args s = true := fun w h => hts w (List.mem_cons_of_mem _ h)
  have hl : lv_has ls 4 [(0, .ref h0), (1, .int (nI 2)), (2, .int (xk))] := hl
  refine lv_aload_n hx hb d_MO_bit_0 rfl (lv_at hl 0 rfl) ?_
  refine lv_iconst (v := nI 0) hx hb d_MO_bit_1 (by decide) ?_
  refine k_put (ws' := [(h0, .inr (8, [.int (nI 0), .int (nI nby), .ref a1, .int (xra), .int (nI ndb), .ref a2, .int (nI ncb), .ref a3, .ref a4, .int (nI nfr), .ref a5, .ref a6, .int (nI nsy), .int (nI nai), .ref a7, .ref a8, .int (xas), .int (xan), .int (xst), .int (xhr), .int (xhb), .int (xse), .int (xbe), .ref a9, .ref b1, .ref b2, .ref b3, .ref b4, .ref b5, .ref b6, .ref b7, .ref b8, .ref c1, .ref c2, .ref c3, .ref c4, .ref c5, .ref c6, .ref c7, .int (xrg)]))]) hx hb hw uw_MO tok_MO nn_MO hown hK hP hD hS 0 rfl rfl 0 (by decide) (hw _ wd_714) rfl rfl rfl (Nat.le_of_ble_eq_true rfl) d_MO_bit_2 rfl (fun H locs hP hD hS => ?_)
  refine lv_aload_n hx hb d_MO_bit_5 rfl (lv_at hl 0 rfl) ?_
  refine k_get hx hb hw uw_MO hown hK hP 0 rfl rfl 9 (by decide) (hw _ wd_723) rfl d_MO_bit_6 ?_
  refine k_if_eq (tgt := 21) hx hb d_MO_bit_9 (by decide) (by omega) (fun h9 => ?_) (fun h9 => ?_)
  · exfalso; omega
  · refine lv_iload_n hx hb d_MO_bit_12 rfl (lv_at hl 1 rfl) ?_
    refine lv_if_lt (tgt := 21) hx hb d_MO_bit_13 (by decide) (fun h13 => ?_) (fun h13 => ?_)
    · exact absurd h13 (by decide)
    · refine lv_iload_n hx hb d_MO_bit_16 rfl (lv_at hl 1 rfl) ?_
      refine lv_iconst (v := nI 2) hx hb d_MO_bit_17 (by decide) ?_
      refine k_icmp_le (tgt := 25) hx hb d_MO_bit_18 (by decide) (by omega) (by omega) (fun h18 => ?_) (fun h18 => ?_)
      · refine lv_iload_n hx hb d_MO_bit_25 rfl (lv_at hl 1 rfl) ?_
        refine k_if_ne (tgt := 36) hx hb d_MO_bit_26 (by decide) (by omega) (fun h26 => ?_) (fun h26 => ?_)
        · refine lv_aload_n hx hb d_MO_bit_36 rfl (lv_at hl 0 rfl) ?_
          refine k_get hx hb hw uw_MO hown hK hP 0 rfl rfl 6 (by decide) (hw _ wd_720) rfl d_MO_bit_37 ?_
          refine lv_istore_n (lv' := [(3, .int (nI ncb)), (0, .ref h0), (1, .int (nI 2)), (2, .int (xk))]) hx hb d_MO_bit_40 rfl hl (by decide) rfl (fun ls hl => ?_)
          refine lv_iload_n hx hb d_MO_bit_41 rfl (lv_at hl 0 rfl) ?_
          refine lv_if_lt (tgt := 55) hx hb d_MO_bit_42 (by decide) (fun h42 => ?_) (fun h42 => ?_)
          · exact absurd h42 (nI_pos (by omega))
          · refine lv_iload_n hx hb d_MO_bit_45 rfl (lv_at hl 3 rfl) ?_
            refine lv_iconst (v := -1) hx hb d_MO_bit_46 (by decide) ?_
            refine lv_icmp_lt (tgt := 55) hx hb d_MO_bit_47 (by decide) (fun h47 => ?_) (fun h47 => ?_)
            · refine lv_iconst (v := -1) hx hb d_MO_bit_55 (by decide) ?_
              rw [hQ]
              exact k_iret () hx hb hr hlk hK hP hD hS [0] (by decide) rfl trivial rfl d_MO_bit_56
            · refine lv_iload_n hx hb d_MO_bit_50 rfl (lv_at hl 3 rfl) ?_
              refine lv_iload_n hx hb d_MO_bit_51 rfl (lv_at hl 0 rfl) ?_
              refine lv_icmp_lt (tgt := 57) hx hb d_MO_bit_52 (by decide) (fun h52 => ?_) (fun h52 => ?_)
              · exact False.elim (hbad.elim (fun q9 => h47 (k_lt_m1 hm q9)) (fun q9 => q9 h52))
              · refine lv_iconst (v := -1) hx hb d_MO_bit_55 (by decide) ?_
                rw [hQ]
                exact k_iret () hx hb hr hlk hK hP hD hS [0] (by decide) rfl trivial rfl d_MO_bit_56
        · exfalso; omega
      · exfalso; omega
set_option maxHeartbeats 4000000 in
set_option maxRecDepth 100000 in
theorem c_MO_bit_ok_2 (l : Launch) (D : va_G) (tc : Nat → ClassId) (tb : Nat → Nat) (h0 : Nat) (nby : Nat) (ndb : Nat) (ncb : Nat) (nfr : Nat) (nsy : Nat) (nai : Nat) (xth : Int32) (xra : Int32) (xas : Int32) (xan : Int32) (xst : Int32) (xhr : Int32) (xhb : Int32) (xse : Int32) (xbe : Int32) (xrg : Int32) (a1 : Nat) (a2 : Nat) (a3 : Nat) (a4 : Nat) (a5 : Nat) (a6 : Nat) (a7 : Nat) (a8 : Nat) (a9 : Nat) (b1 : Nat) (b2 : Nat) (b3 : Nat) (b4 : Nat) (b5 : Nat) (b6 : Nat) (b7 : Nat) (b8 : Nat) (c1 : Nat) (c2 : Nat) (c3 : Nat) (c4 : Nat) (c5 : Nat) (c6 : Nat) (c7 : Nat) (f : Nat → Int32) (k : Nat) (hf0 : 0 < nfr) (hfr : nfr ≤ 520) (hcn : ncb ≤ 340) (hk : k < ncb) : Mi l D tc tb y_MO_bit prog_10_method_25_code 4 (some .int) ({ frames := 0, cells := 0, slots := 0, locals := 0 }) [.ref h0, .int (nI 2), .int (nI k)] [(h0, .inr (8, [.int (xth), .int (nI nby), .ref a1, .int (xra), .int (nI ndb), .ref a2, .int (nI ncb), .ref a3, .ref a4, .int (nI nfr), .ref a5, .ref a6, .int (nI nsy), .int (nI nai), .ref a7, .ref a8, .int (xas), .int (xan), .int (xst), .int (xhr), .int (xhb), .int (xse), .int (xbe), .ref a9, .ref b1, .ref b2, .ref b3, .ref b4, .ref b5, .ref b6, .ref b7, .ref b8, .ref c1, .ref c2, .ref c3, .ref c4, .ref c5, .ref c6, .ref c7, .int (xrg)])), (a4, .inl (tc 0, 340, .inl f))] (fun _ : Unit => True) (fun _ : Unit => f k) (fun _ : Unit => [(h0, .inr (8, [.int (nI 0), .int (nI nby), .ref a1, .int (xra), .int (nI ndb), .ref a2, .int (nI ncb), .ref a3, .ref a4, .int (nI nfr), .ref a5, .ref a6, .int (nI nsy), .int (nI nai), .ref a7, .ref a8, .int (xas), .int (xan), .int (xst), .int (xhr), .int (xhb), .int (xse), .int (xbe), .ref a9, .ref b1, .ref b2, .ref b3, .ref b4, .ref b5, .ref b6, .ref b7, .ref b8, .ref c1, .ref c2, .ref c3, .ref c4, .ref c5, .ref c6, .ref c7, .int (xrg)])), (a4, .inl (tc 0, 340, .inl f))]) := by
  refine Mi.go (by decide) (Nat.le_of_ble_eq_true rfl) ?_
  intro p e s m below meth c A ls R args Q C
  obtain ⟨hx, hb, hr, hts, hown, hlk, hml, hin, hA, hST, hN, hK, hP, hD, hS, hl, hR, hQ⟩ := C
  have hw : ∀ w ∈ lw_g, w.before args s = true := fun w h => hts w (List.mem_cons_of_mem _ h)
  have hl : lv_has ls 4 [(0, .ref h0), (1, .int (nI 2)), (2, .int (nI k))] := hl
  refine lv_aload_n hx hb d_MO_bit_0 rfl (lv_at hl 0 rfl) ?_
  refine lv_iconst (v := nI 0) hx hb d_MO_bit_1 (by decide) ?_
  refine k_put (ws' := [(h0, .inr (8, [.int (nI 0), .int (nI nby), .ref a1, .int (xra), .int (nI ndb), .ref a2, .int (nI ncb), .ref a3, .ref a4, .int (nI nfr), .ref a5, .ref a6, .int (nI nsy), .int (nI nai), .ref a7, .ref a8, .int (xas), .int (xan), .int (xst), .int (xhr), .int (xhb), .int (xse), .int (xbe), .ref a9, .ref b1, .ref b2, .ref b3, .ref b4, .ref b5, .ref b6, .ref b7, .ref b8, .ref c1, .ref c2, .ref c3, .ref c4, .ref c5, .ref c6, .ref c7, .int (xrg)])), (a4, .inl (tc 0, 340, .inl f))]) hx hb hw uw_MO tok_MO nn_MO hown hK hP hD hS 0 rfl rfl 0 (by decide) (hw _ wd_714) rfl rfl rfl (Nat.le_of_ble_eq_true rfl) d_MO_bit_2 rfl (fun H locs hP hD hS => ?_)
  refine lv_aload_n hx hb d_MO_bit_5 rfl (lv_at hl 0 rfl) ?_
  refine k_get hx hb hw uw_MO hown hK hP 0 rfl rfl 9 (by decide) (hw _ wd_723) rfl d_MO_bit_6 ?_
  refine k_if_eq (tgt := 21) hx hb d_MO_bit_9 (by decide) (by omega) (fun h9 => ?_) (fun h9 => ?_)
  · exfalso; omega
  · refine lv_iload_n hx hb d_MO_bit_12 rfl (lv_at hl 1 rfl) ?_
    refine lv_if_lt (tgt := 21) hx hb d_MO_bit_13 (by decide) (fun h13 => ?_) (fun h13 => ?_)
    · exact absurd h13 (by decide)
    · refine lv_iload_n hx hb d_MO_bit_16 rfl (lv_at hl 1 rfl) ?_
      refine lv_iconst (v := nI 2) hx hb d_MO_bit_17 (by decide) ?_
      refine k_icmp_le (tgt := 25) hx hb d_MO_bit_18 (by decide) (by omega) (by omega) (fun h18 => ?_) (fun h18 => ?_)
      · refine lv_iload_n hx hb d_MO_bit_25 rfl (lv_at hl 1 rfl) ?_
        refine k_if_ne (tgt := 36) hx hb d_MO_bit_26 (by decide) (by omega) (fun h26 => ?_) (fun h26 => ?_)
        · refine lv_aload_n hx hb d_MO_bit_36 rfl (lv_at hl 0 rfl) ?_
          refine k_get hx hb hw uw_MO hown hK hP 0 rfl rfl 6 (by decide) (hw _ wd_720) rfl d_MO_bit_37 ?_
          refine lv_istore_n (lv' := [(3, .int (nI ncb)), (0, .ref h0), (1, .int (nI 2)), (2, .int (nI k))]) hx hb d_MO_bit_40 rfl hl (by decide) rfl (fun ls hl => ?_)
          refine lv_iload_n hx hb d_MO_bit_41 rfl (lv_at hl 0 rfl) ?_
          refine lv_if_lt (tgt := 55) hx hb d_MO_bit_42 (by decide) (fun h42 => ?_) (fun h42 => ?_)
          · exact absurd h42 (nI_pos (by omega))
          · refine lv_iload_n hx hb d_MO_bit_45 rfl (lv_at hl 3 rfl) ?_
            refine lv_iconst (v := -1) hx hb d_MO_bit_46 (by decide) ?_
            refine lv_icmp_lt (tgt := 55) hx hb d_MO_bit_47 (by decide) (fun h47 => ?_) (fun h47 => ?_)
            · exact absurd h47 (k_nlt_m1 (by omega))
            · refine lv_iload_n hx hb d_MO_bit_50 rfl (lv_at hl 3 rfl) ?_
              refine lv_iload_n hx hb d_MO_bit_51 rfl (lv_at hl 0 rfl) ?_
              refine k_icmp_lt (tgt := 57) hx hb d_MO_bit_52 (by decide) (by omega) (by omega) (fun h52 => ?_) (fun h52 => ?_)
              · refine lv_iload_n hx hb d_MO_bit_57 rfl (lv_at hl 3 rfl) ?_
                refine lv_iconst (v := -1) hx hb d_MO_bit_58 (by decide) ?_
                refine lv_icmp_ne (tgt := 66) hx hb d_MO_bit_59 (by decide) (fun h59 => ?_) (fun h59 => ?_)
                · refine lv_iload_n hx hb d_MO_bit_66 rfl (lv_at hl 2 rfl) ?_
                  refine k_if_ne (tgt := 79) hx hb d_MO_bit_67 (by decide) (by omega) (fun h67 => ?_) (fun h67 => ?_)
                  · refine lv_iload_n hx hb d_MO_bit_79 rfl (lv_at hl 2 rfl) ?_
                    refine lv_iconst (v := nI 1) hx hb d_MO_bit_80 (by decide) ?_
                    refine k_icmp_ne (tgt := 93) hx hb d_MO_bit_81 (by decide) (by omega) (by omega) (fun h81 => ?_) (fun h81 => ?_)
                    · refine lv_aload_n hx hb d_MO_bit_93 rfl (lv_at hl 1 rfl) ?_
                      refine k_get hx hb hw uw_MO hown hK hP 0 rfl rfl 8 (by decide) (hw _ wd_722) rfl d_MO_bit_94 ?_
                      refine lv_iload_n hx hb d_MO_bit_97 rfl (lv_at hl 3 rfl) ?_
                      refine k_iald hx hb hK hP 1 0 rfl rfl (by omega) (by omega) d_MO_bit_98 ?_
                      rw [hQ]
                      exact k_iret () hx hb hr hlk hK hP hD hS [0, 1] (by decide) rfl trivial rfl d_MO_bit_99
                    · exfalso; omega
                  · exfalso; omega
                · exact absurd h59 (nI_m1 (by omega))
              · exfalso; omega
        · exfalso; omega
      · exfalso; omega
set_option maxHeartbeats 4000000 in
set_option maxRecDepth 100000 in
theorem c_MO_sample_no0 (l : Launch) (D : va_G) (tc : Nat → ClassId) (tb : Nat → Nat) (h0 : Nat) (nby : Nat) (ndb : Nat) (ncb : Nat) (nfr : Nat) (nsy : Nat) (nai : Nat) (xth : Int32) (xra : Int32) (xas : Int32) (xan : Int32) (xst : Int32) (xhr : Int32) (xhb : Int32) (xse : Int32) (xbe : Int32) (xrg : Int32) (a1 : Nat) (a2 : Nat) (a3 : Nat) (a4 : Nat) (a5 : Nat) (a6 : Nat) (a7 : Nat) (a8 : Nat) (a9 : Nat) (b1 : Nat) (b2 : Nat) (b3 : Nat) (b4 : Nat) (b5 : Nat) (b6 : Nat) (b7 : Nat) (b8 : Nat) (c1 : Nat) (c2 : Nat) (c3 : Nat) (c4 : Nat) (c5 : Nat) (c6 : Nat) (c7 : Nat) (xa : Int32) (xk : Int32) (xb : Int32) (ha_ : xa = 0) (hbad : xk < 0 ∨ ¬ xk < nI nfr) : Mi l D tc tb y_MO_sample26 prog_10_method_26_code 4 (some .short) ({ frames := 0, cells := 0, slots := 0, locals := 0 }) [.ref h0, .int (xa), .int (xk), .int (xb)] [(h0, .inr (8, [.int (xth), .int (nI nby), .ref a1, .int (xra), .int (nI ndb), .ref a2, .int (nI ncb), .ref a3, .ref a4, .int (nI nfr), .ref a5, .ref a6, .int (nI nsy), .int (nI nai), .ref a7, .ref a8, .int (xas), .int (xan), .int (xst), .int (xhr), .int (xhb), .int (xse), .int (xbe), .ref a9, .ref b1, .ref b2, .ref b3, .ref b4, .ref b5, .ref b6, .ref b7, .ref b8, .ref c1, .ref c2, .ref c3, .ref c4, .ref c5, .ref c6, .ref c7, .int (xrg)]))] (fun _ : Unit => True) (fun _ : Unit => nI 0) (fun _ : Unit => [(h0, .inr (8, [.int (nI 1), .int (nI nby), .ref a1, .int (xra), .int (nI ndb), .ref a2, .int (nI ncb), .ref a3, .ref a4, .int (nI nfr), .ref a5, .ref a6, .int (nI nsy), .int (nI nai), .ref a7, .ref a8, .int (xas), .int (xan), .int (xst), .int (xhr), .int (xhb), .int (xse), .int (xbe), .ref a9, .ref b1, .ref b2, .ref b3, .ref b4, .ref b5, .ref b6, .ref b7, .ref b8, .ref c1, .ref c2, .ref c3, .ref c4, .ref c5, .ref c6, .ref c7, .int (xrg)]))]) := by
  refine Mi.go (by decide) (Nat.le_of_ble_eq_true rfl) ?_
  intro p e s m below meth c A ls R args Q C
  obtain ⟨hx, hb, hr, hts, hown, hlk, hml, hin, hA, hST, hN, hK, hP, hD, hS, hl, hR, hQ⟩ := C
  have hw : ∀ w ∈ lw_g, w.before args s = true := fun w h => hts w (List.mem_cons_of_mem _ h)
  have hl : lv_has ls 4 [(0, .ref h0), (1, .int (xa)), (2, .int (xk)), (3, .int (xb))] := hl
  refine lv_aload_n hx hb d_MO_sample26_0 rfl (lv_at hl 0 rfl) ?_
  refine lv_iload_n hx hb d_MO_sample26_1 rfl (lv_at hl 2 rfl) ?_
  refine lv_if_lt (tgt := 24) hx hb d_MO_sample26_2 (by decide) (fun h2 => ?_) (fun h2 => ?_)
  · refine lv_iconst (v := nI 1) hx hb d_MO_sample26_24 (by decide) ?_
    refine lv_goto (tgt := 29) hx hb d_MO_sample26_25 (by decide) ?_
    refine k_put (ws' := [(h0, .inr (8, [.int (nI 1), .int (nI nby), .ref a1, .int (xra), .int (nI ndb), .ref a2, .int (nI ncb), .ref a3, .ref a4, .int (nI nfr), .ref a5, .ref a6, .int (nI nsy), .int (nI nai), .ref a7, .ref a8, .int (xas), .int (xan), .int (xst), .int (xhr), .int (xhb), .int (xse), .int (xbe), .ref a9, .ref b1, .ref b2, .ref b3, .ref b4, .ref b5, .ref b6, .ref b7, .ref b8, .ref c1, .ref c2, .ref c3, .ref c4, .ref c5, .ref c6, .ref c7, .int (xrg)]))]) hx hb hw uw_MO tok_MO nn_MO hown hK hP hD hS 0 rfl rfl 0 (by decide) (hw _ wd_714) rfl rfl rfl (Nat.le_of_ble_eq_true rfl) d_MO_sample26_29 rfl (fun H locs hP hD hS => ?_)
    refine lv_aload_n hx hb d_MO_sample26_32 rfl (lv_at hl 0 rfl) ?_
    refine k_get hx hb hw uw_MO hown hK hP 0 rfl rfl 0 (by decide) (hw _ wd_714) rfl d_MO_sample26_33 ?_
    refine lv_if_le (tgt := 41) hx hb d_MO_sample26_36 (by decide) (fun h36 => ?_) (fun h36 => ?_)
    · exact absurd h36 (by decide)
    · refine lv_iconst (v := nI 0) hx hb d_MO_sample26_39 (by decide) ?_
      rw [hQ]
      exact k_zret () hx hb hr hlk hK hP hD hS [0] (by decide) rfl trivial rfl rfl d_MO_sample26_40
  · refine lv_iload_n hx hb d_MO_sample26_5 rfl (lv_at hl 2 rfl) ?_
    refine lv_iload_n hx hb d_MO_sample26_6 rfl (lv_at hl 1 rfl) ?_
    refine lv_if_eq (tgt := 17) hx hb d_MO_sample26_7 (by decide) (fun h7 => ?_) (fun h7 => ?_)
    · refine lv_aload_n hx hb d_MO_sample26_17 rfl (lv_at hl 0 rfl) ?_
      refine k_get hx hb hw uw_MO hown hK hP 0 rfl rfl 9 (by decide) (hw _ wd_723) rfl d_MO_sample26_18 ?_
      refine lv_icmp_lt (tgt := 28) hx hb d_MO_sample26_21 (by decide) (fun h21 => ?_) (fun h21 => ?_)
      · exact False.elim (hbad.elim h2 (fun q9 => q9 h21))
      · refine lv_iconst (v := nI 1) hx hb d_MO_sample26_24 (by decide) ?_
        refine lv_goto (tgt := 29) hx hb d_MO_sample26_25 (by decide) ?_
        refine k_put (ws' := [(h0, .inr (8, [.int (nI 1), .int (nI nby), .ref a1, .int (xra), .int (nI ndb), .ref a2, .int (nI ncb), .ref a3, .ref a4, .int (nI nfr), .ref a5, .ref a6, .int (nI nsy), .int (nI nai), .ref a7, .ref a8, .int (xas), .int (xan), .int (xst), .int (xhr), .int (xhb), .int (xse), .int (xbe), .ref a9, .ref b1, .ref b2, .ref b3, .ref b4, .ref b5, .ref b6, .ref b7, .ref b8, .ref c1, .ref c2, .ref c3, .ref c4, .ref c5, .ref c6, .ref c7, .int (xrg)]))]) hx hb hw uw_MO tok_MO nn_MO hown hK hP hD hS 0 rfl rfl 0 (by decide) (hw _ wd_714) rfl rfl rfl (Nat.le_of_ble_eq_true rfl) d_MO_sample26_29 rfl (fun H locs hP hD hS => ?_)
        refine lv_aload_n hx hb d_MO_sample26_32 rfl (lv_at hl 0 rfl) ?_
        refine k_get hx hb hw uw_MO hown hK hP 0 rfl rfl 0 (by decide) (hw _ wd_714) rfl d_MO_sample26_33 ?_
        refine lv_if_le (tgt := 41) hx hb d_MO_sample26_36 (by decide) (fun h36 => ?_) (fun h36 => ?_)
        · exact absurd h36 (by decide)
        · refine lv_iconst (v := nI 0) hx hb d_MO_sample26_39 (by decide) ?_
          rw [hQ]
          exact k_zret () hx hb hr hlk hK hP hD hS [0] (by decide) rfl trivial rfl rfl d_MO_sample26_40
    · exact absurd ha_ h7
set_option maxHeartbeats 4000000 in
set_option maxRecDepth 100000 in
theorem c_MO_sample_00 (l : Launch) (D : va_G) (tc : Nat → ClassId) (tb : Nat → Nat) (h0 : Nat) (nby : Nat) (ndb : Nat) (ncb : Nat) (nfr : Nat) (nsy : Nat) (nai : Nat) (xth : Int32) (xra : Int32) (xas : Int32) (xan : Int32) (xst : Int32) (xhr : Int32) (xhb : Int32) (xse : Int32) (xbe : Int32) (xrg : Int32) (a1 : Nat) (a2 : Nat) (a3 : Nat) (a4 : Nat) (a5 : Nat) (a6 : Nat) (a7 : Nat) (a8 : Nat) (a9 : Nat) (b1 : Nat) (b2 : Nat) (b3 : Nat) (b4 : Nat) (b5 : Nat) (b6 : Nat) (b7 : Nat) (b8 : Nat) (c1 : Nat) (c2 : Nat) (c3 : Nat) (c4 : Nat) (c5 : Nat) (c6 : Nat) (c7 : Nat) (f : Nat → Int32) (xa : Int32) (k : Nat) (xb : Int32) (ha_ : xa = 0) (hb_ : xb = 0) (hk : k < nfr) (hac : nfr ≤ 520) (hv : (f k).toInt16.toInt32 = f k) : Mi l D tc tb y_MO_sample26 prog_10_method_26_code 4 (some .short) ({ frames := 0, cells := 0, slots := 0, locals := 0 }) [.ref h0, .int (xa), .int (nI k), .int (xb)] [(h0, .inr (8, [.int (xth), .int (nI nby), .ref a1, .int (xra), .int (nI ndb), .ref a2, .int (nI ncb), .ref a3, .ref a4, .int (nI nfr), .ref a5, .ref a6, .int (nI nsy), .int (nI nai), .ref a7, .ref a8, .int (xas), .int (xan), .int (xst), .int (xhr), .int (xhb), .int (xse), .int (xbe), .ref a9, .ref b1, .ref b2, .ref b3, .ref b4, .ref b5, .ref b6, .ref b7, .ref b8, .ref c1, .ref c2, .ref c3, .ref c4, .ref c5, .ref c6, .ref c7, .int (xrg)])), (a5, .inl (tc 0, 520, .inl f))] (fun _ : Unit => True) (fun _ : Unit => f k) (fun _ : Unit => [(h0, .inr (8, [.int (nI 0), .int (nI nby), .ref a1, .int (xra), .int (nI ndb), .ref a2, .int (nI ncb), .ref a3, .ref a4, .int (nI nfr), .ref a5, .ref a6, .int (nI nsy), .int (nI nai), .ref a7, .ref a8, .int (xas), .int (xan), .int (xst), .int (xhr), .int (xhb), .int (xse), .int (xbe), .ref a9, .ref b1, .ref b2, .ref b3, .ref b4, .ref b5, .ref b6, .ref b7, .ref b8, .ref c1, .ref c2, .ref c3, .ref c4, .ref c5, .ref c6, .ref c7, .int (xrg)])), (a5, .inl (tc 0, 520, .inl f))]) := by
  refine Mi.go (by decide) (Nat.le_of_ble_eq_true rfl) ?_
  intro p e s m below meth c A ls R args Q C
  obtain ⟨hx, hb, hr, hts, hown, hlk, hml, hin, hA, hST, hN, hK, hP, hD, hS, hl, hR, hQ⟩ := C
  have hw : ∀ w ∈ lw_g, w.before args s = true := fun w h => hts w (List.mem_cons_of_mem _ h)
  have hl : lv_has ls 4 [(0, .ref h0), (1, .int (xa)), (2, .int (nI k)), (3, .int (xb))] := hl
  refine lv_aload_n hx hb d_MO_sample26_0 rfl (lv_at hl 0 rfl) ?_
  refine lv_iload_n hx hb d_MO_sample26_1 rfl (lv_at hl 2 rfl) ?_
  refine lv_if_lt (tgt := 24) hx hb d_MO_sample26_2 (by decide) (fun h2 => ?_) (fun h2 => ?_)
  · exact absurd h2 (nI_pos (by omega))
  · refine lv_iload_n hx hb d_MO_sample26_5 rfl (lv_at hl 2 rfl) ?_
    refine lv_iload_n hx hb d_MO_sample26_6 rfl (lv_at hl 1 rfl) ?_
    refine lv_if_eq (tgt := 17) hx hb d_MO_sample26_7 (by decide) (fun h7 => ?_) (fun h7 => ?_)
    · refine lv_aload_n hx hb d_MO_sample26_17 rfl (lv_at hl 0 rfl) ?_
      refine k_get hx hb hw uw_MO hown hK hP 0 rfl rfl 9 (by decide) (hw _ wd_723) rfl d_MO_sample26_18 ?_
      refine k_icmp_lt (tgt := 28) hx hb d_MO_sample26_21 (by decide) (by omega) (by omega) (fun h21 => ?_) (fun h21 => ?_)
      · refine lv_iconst (v := nI 0) hx hb d_MO_sample26_28 (by decide) ?_
        refine k_put (ws' := [(h0, .inr (8, [.int (nI 0), .int (nI nby), .ref a1, .int (xra), .int (nI ndb), .ref a2, .int (nI ncb), .ref a3, .ref a4, .int (nI nfr), .ref a5, .ref a6, .int (nI nsy), .int (nI nai), .ref a7, .ref a8, .int (xas), .int (xan), .int (xst), .int (xhr), .int (xhb), .int (xse), .int (xbe), .ref a9, .ref b1, .ref b2, .ref b3, .ref b4, .ref b5, .ref b6, .ref b7, .ref b8, .ref c1, .ref c2, .ref c3, .ref c4, .ref c5, .ref c6, .ref c7, .int (xrg)])), (a5, .inl (tc 0, 520, .inl f))]) hx hb hw uw_MO tok_MO nn_MO hown hK hP hD hS 0 rfl rfl 0 (by decide) (hw _ wd_714) rfl rfl rfl (Nat.le_of_ble_eq_true rfl) d_MO_sample26_29 rfl (fun H locs hP hD hS => ?_)
        refine lv_aload_n hx hb d_MO_sample26_32 rfl (lv_at hl 0 rfl) ?_
        refine k_get hx hb hw uw_MO hown hK hP 0 rfl rfl 0 (by decide) (hw _ wd_714) rfl d_MO_sample26_33 ?_
        refine lv_if_le (tgt := 41) hx hb d_MO_sample26_36 (by decide) (fun h36 => ?_) (fun h36 => ?_)
        · refine lv_iload_n hx hb d_MO_sample26_41 rfl (lv_at hl 1 rfl) ?_
          refine lv_if_eq (tgt := 67) hx hb d_MO_sample26_42 (by decide) (fun h42 => ?_) (fun h42 => ?_)
          · refine lv_iload_n hx hb d_MO_sample26_67 rfl (lv_at hl 3 rfl) ?_
            refine lv_if_eq (tgt := 80) hx hb d_MO_sample26_68 (by decide) (fun h68 => ?_) (fun h68 => ?_)
            · refine lv_aload_n hx hb d_MO_sample26_80 rfl (lv_at hl 0 rfl) ?_
              refine k_get hx hb hw uw_MO hown hK hP 0 rfl rfl 10 (by decide) (hw _ wd_724) rfl d_MO_sample26_81 ?_
              refine lv_iload_n hx hb d_MO_sample26_84 rfl (lv_at hl 2 rfl) ?_
              refine k_iald hx hb hK hP 1 0 rfl rfl (by omega) (by omega) d_MO_sample26_85 ?_
              refine lv_i2s hx hb d_MO_sample26_86 rfl ?_
              refine k_topi (y := f k) hv ?_
              rw [hQ]
              exact k_zret () hx hb hr hlk hK hP hD hS [0, 1] (by decide) rfl trivial (nar_s hv) rfl d_MO_sample26_87
            · exact absurd hb_ h68
          · exact absurd ha_ h42
        · exact absurd (by decide) h36
      · exfalso; omega
    · exact absurd ha_ h7
set_option maxHeartbeats 4000000 in
set_option maxRecDepth 100000 in
theorem c_MO_sample_01 (l : Launch) (D : va_G) (tc : Nat → ClassId) (tb : Nat → Nat) (h0 : Nat) (nby : Nat) (ndb : Nat) (ncb : Nat) (nfr : Nat) (nsy : Nat) (nai : Nat) (xth : Int32) (xra : Int32) (xas : Int32) (xan : Int32) (xst : Int32) (xhr : Int32) (xhb : Int32) (xse : Int32) (xbe : Int32) (xrg : Int32) (a1 : Nat) (a2 : Nat) (a3 : Nat) (a4 : Nat) (a5 : Nat) (a6 : Nat) (a7 : Nat) (a8 : Nat) (a9 : Nat) (b1 : Nat) (b2 : Nat) (b3 : Nat) (b4 : Nat) (b5 : Nat) (b6 : Nat) (b7 : Nat) (b8 : Nat) (c1 : Nat) (c2 : Nat) (c3 : Nat) (c4 : Nat) (c5 : Nat) (c6 : Nat) (c7 : Nat) (f : Nat → Int32) (xa : Int32) (k : Nat) (xb : Int32) (ha_ : xa = 0) (hb_ : ¬ xb = 0) (hk : k < nfr) (hac : nfr ≤ 520) (hv : (f k).toInt16.toInt32 = f k) : Mi l D tc tb y_MO_sample26 prog_10_method_26_code 4 (some .short) ({ frames := 0, cells := 0, slots := 0, locals := 0 }) [.ref h0, .int (xa), .int (nI k), .int (xb)] [(h0, .inr (8, [.int (xth), .int (nI nby), .ref a1, .int (xra), .int (nI ndb), .ref a2, .int (nI ncb), .ref a3, .ref a4, .int (nI nfr), .ref a5, .ref a6, .int (nI nsy), .int (nI nai), .ref a7, .ref a8, .int (xas), .int (xan), .int (xst), .int (xhr), .int (xhb), .int (xse), .int (xbe), .ref a9, .ref b1, .ref b2, .ref b3, .ref b4, .ref b5, .ref b6, .ref b7, .ref b8, .ref c1, .ref c2, .ref c3, .ref c4, .ref c5, .ref c6, .ref c7, .int (xrg)])), (a6, .inl (tc 0, 520, .inl f))] (fun _ : Unit => True) (fun _ : Unit => f k) (fun _ : Unit => [(h0, .inr (8, [.int (nI 0), .int (nI nby), .ref a1, .int (xra), .int (nI ndb), .ref a2, .int (nI ncb), .ref a3, .ref a4, .int (nI nfr), .ref a5, .ref a6, .int (nI nsy), .int (nI nai), .ref a7, .ref a8, .int (xas), .int (xan), .int (xst), .int (xhr), .int (xhb), .int (xse), .int (xbe), .ref a9, .ref b1, .ref b2, .ref b3, .ref b4, .ref b5, .ref b6, .ref b7, .ref b8, .ref c1, .ref c2, .ref c3, .ref c4, .ref c5, .ref c6, .ref c7, .int (xrg)])), (a6, .inl (tc 0, 520, .inl f))]) := by
  refine Mi.go (by decide) (Nat.le_of_ble_eq_true rfl) ?_
  intro p e s m below meth c A ls R args Q C
  obtain ⟨hx, hb, hr, hts, hown, hlk, hml, hin, hA, hST, hN, hK, hP, hD, hS, hl, hR, hQ⟩ := C
  have hw : ∀ w ∈ lw_g, w.before args s = true := fun w h => hts w (List.mem_cons_of_mem _ h)
  have hl : lv_has ls 4 [(0, .ref h0), (1, .int (xa)), (2, .int (nI k)), (3, .int (xb))] := hl
  refine lv_aload_n hx hb d_MO_sample26_0 rfl (lv_at hl 0 rfl) ?_
  refine lv_iload_n hx hb d_MO_sample26_1 rfl (lv_at hl 2 rfl) ?_
  refine lv_if_lt (tgt := 24) hx hb d_MO_sample26_2 (by decide) (fun h2 => ?_) (fun h2 => ?_)
  · exact absurd h2 (nI_pos (by omega))
  · refine lv_iload_n hx hb d_MO_sample26_5 rfl (lv_at hl 2 rfl) ?_
    refine lv_iload_n hx hb d_MO_sample26_6 rfl (lv_at hl 1 rfl) ?_
    refine lv_if_eq (tgt := 17) hx hb d_MO_sample26_7 (by decide) (fun h7 => ?_) (fun h7 => ?_)
    · refine lv_aload_n hx hb d_MO_sample26_17 rfl (lv_at hl 0 rfl) ?_
      refine k_get hx hb hw uw_MO hown hK hP 0 rfl rfl 9 (by decide) (hw _ wd_723) rfl d_MO_sample26_18 ?_
      refine k_icmp_lt (tgt := 28) hx hb d_MO_sample26_21 (by decide) (by omega) (by omega) (fun h21 => ?_) (fun h21 => ?_)
      · refine lv_iconst (v := nI 0) hx hb d_MO_sample26_28 (by decide) ?_
        refine k_put (ws' := [(h0, .inr (8, [.int (nI 0), .int (nI nby), .ref a1, .int (xra), .int (nI ndb), .ref a2, .int (nI ncb), .ref a3, .ref a4, .int (nI nfr), .ref a5, .ref a6, .int (nI nsy), .int (nI nai), .ref a7, .ref a8, .int (xas), .int (xan), .int (xst), .int (xhr), .int (xhb), .int (xse), .int (xbe), .ref a9, .ref b1, .ref b2, .ref b3, .ref b4, .ref b5, .ref b6, .ref b7, .ref b8, .ref c1, .ref c2, .ref c3, .ref c4, .ref c5, .ref c6, .ref c7, .int (xrg)])), (a6, .inl (tc 0, 520, .inl f))]) hx hb hw uw_MO tok_MO nn_MO hown hK hP hD hS 0 rfl rfl 0 (by decide) (hw _ wd_714) rfl rfl rfl (Nat.le_of_ble_eq_true rfl) d_MO_sample26_29 rfl (fun H locs hP hD hS => ?_)
        refine lv_aload_n hx hb d_MO_sample26_32 rfl (lv_at hl 0 rfl) ?_
        refine k_get hx hb hw uw_MO hown hK hP 0 rfl rfl 0 (by decide) (hw _ wd_714) rfl d_MO_sample26_33 ?_
        refine lv_if_le (tgt := 41) hx hb d_MO_sample26_36 (by decide) (fun h36 => ?_) (fun h36 => ?_)
        · refine lv_iload_n hx hb d_MO_sample26_41 rfl (lv_at hl 1 rfl) ?_
          refine lv_if_eq (tgt := 67) hx hb d_MO_sample26_42 (by decide) (fun h42 => ?_) (fun h42 => ?_)
          · refine lv_iload_n hx hb d_MO_sample26_67 rfl (lv_at hl 3 rfl) ?_
            refine lv_if_eq (tgt := 80) hx hb d_MO_sample26_68 (by decide) (fun h68 => ?_) (fun h68 => ?_)
            · exact absurd h68 hb_
            · refine lv_aload_n hx hb d_MO_sample26_71 rfl (lv_at hl 0 rfl) ?_
              refine k_get hx hb hw uw_MO hown hK hP 0 rfl rfl 11 (by decide) (hw _ wd_725) rfl d_MO_sample26_72 ?_
              refine lv_iload_n hx hb d_MO_sample26_75 rfl (lv_at hl 2 rfl) ?_
              refine k_iald hx hb hK hP 1 0 rfl rfl (by omega) (by omega) d_MO_sample26_76 ?_
              refine lv_goto (tgt := 86) hx hb d_MO_sample26_77 (by decide) ?_
              refine lv_i2s hx hb d_MO_sample26_86 rfl ?_
              refine k_topi (y := f k) hv ?_
              rw [hQ]
              exact k_zret () hx hb hr hlk hK hP hD hS [0, 1] (by decide) rfl trivial (nar_s hv) rfl d_MO_sample26_87
          · exact absurd ha_ h42
        · exact absurd (by decide) h36
      · exfalso; omega
    · exact absurd ha_ h7
set_option maxHeartbeats 4000000 in
set_option maxRecDepth 100000 in
theorem c_MO_sample_no1 (l : Launch) (D : va_G) (tc : Nat → ClassId) (tb : Nat → Nat) (h0 : Nat) (nby : Nat) (ndb : Nat) (ncb : Nat) (nfr : Nat) (nsy : Nat) (nai : Nat) (xth : Int32) (xra : Int32) (xas : Int32) (xan : Int32) (xst : Int32) (xhr : Int32) (xhb : Int32) (xse : Int32) (xbe : Int32) (xrg : Int32) (a1 : Nat) (a2 : Nat) (a3 : Nat) (a4 : Nat) (a5 : Nat) (a6 : Nat) (a7 : Nat) (a8 : Nat) (a9 : Nat) (b1 : Nat) (b2 : Nat) (b3 : Nat) (b4 : Nat) (b5 : Nat) (b6 : Nat) (b7 : Nat) (b8 : Nat) (c1 : Nat) (c2 : Nat) (c3 : Nat) (c4 : Nat) (c5 : Nat) (c6 : Nat) (c7 : Nat) (xa : Int32) (xk : Int32) (xb : Int32) (ha_ : ¬ xa = 0) (hbad : xk < 0 ∨ ¬ xk < nI nai) : Mi l D tc tb y_MO_sample26 prog_10_method_26_code 4 (some .short) ({ frames := 0, cells := 0, slots := 0, locals := 0 }) [.ref h0, .int (xa), .int (xk), .int (xb)] [(h0, .inr (8, [.int (xth), .int (nI nby), .ref a1, .int (xra), .int (nI ndb), .ref a2, .int (nI ncb), .ref a3, .ref a4, .int (nI nfr), .ref a5, .ref a6, .int (nI nsy), .int (nI nai), .ref a7, .ref a8, .int (xas), .int (xan), .int (xst), .int (xhr), .int (xhb), .int (xse), .int (xbe), .ref a9, .ref b1, .ref b2, .ref b3, .ref b4, .ref b5, .ref b6, .ref b7, .ref b8, .ref c1, .ref c2, .ref c3, .ref c4, .ref c5, .ref c6, .ref c7, .int (xrg)]))] (fun _ : Unit => True) (fun _ : Unit => nI 0) (fun _ : Unit => [(h0, .inr (8, [.int (nI 1), .int (nI nby), .ref a1, .int (xra), .int (nI ndb), .ref a2, .int (nI ncb), .ref a3, .ref a4, .int (nI nfr), .ref a5, .ref a6, .int (nI nsy), .int (nI nai), .ref a7, .ref a8, .int (xas), .int (xan), .int (xst), .int (xhr), .int (xhb), .int (xse), .int (xbe), .ref a9, .ref b1, .ref b2, .ref b3, .ref b4, .ref b5, .ref b6, .ref b7, .ref b8, .ref c1, .ref c2, .ref c3, .ref c4, .ref c5, .ref c6, .ref c7, .int (xrg)]))]) := by
  refine Mi.go (by decide) (Nat.le_of_ble_eq_true rfl) ?_
  intro p e s m below meth c A ls R args Q C
  obtain ⟨hx, hb, hr, hts, hown, hlk, hml, hin, hA, hST, hN, hK, hP, hD, hS, hl, hR, hQ⟩ := C
  have hw : ∀ w ∈ lw_g, w.before args s = true := fun w h => hts w (List.mem_cons_of_mem _ h)
  have hl : lv_has ls 4 [(0, .ref h0), (1, .int (xa)), (2, .int (xk)), (3, .int (xb))] := hl
  refine lv_aload_n hx hb d_MO_sample26_0 rfl (lv_at hl 0 rfl) ?_
  refine lv_iload_n hx hb d_MO_sample26_1 rfl (lv_at hl 2 rfl) ?_
  refine lv_if_lt (tgt := 24) hx hb d_MO_sample26_2 (by decide) (fun h2 => ?_) (fun h2 => ?_)
  · refine lv_iconst (v := nI 1) hx hb d_MO_sample26_24 (by decide) ?_
    refine lv_goto (tgt := 29) hx hb d_MO_sample26_25 (by decide) ?_
    refine k_put (ws' := [(h0, .inr (8, [.int (nI 1), .int (nI nby), .ref a1, .int (xra), .int (nI ndb), .ref a2, .int (nI ncb), .ref a3, .ref a4, .int (nI nfr), .ref a5, .ref a6, .int (nI nsy), .int (nI nai), .ref a7, .ref a8, .int (xas), .int (xan), .int (xst), .int (xhr), .int (xhb), .int (xse), .int (xbe), .ref a9, .ref b1, .ref b2, .ref b3, .ref b4, .ref b5, .ref b6, .ref b7, .ref b8, .ref c1, .ref c2, .ref c3, .ref c4, .ref c5, .ref c6, .ref c7, .int (xrg)]))]) hx hb hw uw_MO tok_MO nn_MO hown hK hP hD hS 0 rfl rfl 0 (by decide) (hw _ wd_714) rfl rfl rfl (Nat.le_of_ble_eq_true rfl) d_MO_sample26_29 rfl (fun H locs hP hD hS => ?_)
    refine lv_aload_n hx hb d_MO_sample26_32 rfl (lv_at hl 0 rfl) ?_
    refine k_get hx hb hw uw_MO hown hK hP 0 rfl rfl 0 (by decide) (hw _ wd_714) rfl d_MO_sample26_33 ?_
    refine lv_if_le (tgt := 41) hx hb d_MO_sample26_36 (by decide) (fun h36 => ?_) (fun h36 => ?_)
    · exact absurd h36 (by decide)
    · refine lv_iconst (v := nI 0) hx hb d_MO_sample26_39 (by decide) ?_
      rw [hQ]
      exact k_zret () hx hb hr hlk hK hP hD hS [0] (by decide) rfl trivial rfl rfl d_MO_sample26_40
  · refine lv_iload_n hx hb d_MO_sample26_5 rfl (lv_at hl 2 rfl) ?_
    refine lv_iload_n hx hb d_MO_sample26_6 rfl (lv_at hl 1 rfl) ?_
    refine lv_if_eq (tgt := 17) hx hb d_MO_sample26_7 (by decide) (fun h7 => ?_) (fun h7 => ?_)
    · exact absurd h7 ha_
    · refine lv_aload_n hx hb d_MO_sample26_10 rfl (lv_at hl 0 rfl) ?_
      refine k_get hx hb hw uw_MO hown hK hP 0 rfl rfl 13 (by decide) (hw _ wd_727) rfl d_MO_sample26_11 ?_
      refine lv_goto (tgt := 21) hx hb d_MO_sample26_14 (by decide) ?_
      refine lv_icmp_lt (tgt := 28) hx hb d_MO_sample26_21 (by decide) (fun h21 => ?_) (fun h21 => ?_)
      · exact False.elim (hbad.elim h2 (fun q9 => q9 h21))
      · refine lv_iconst (v := nI 1) hx hb d_MO_sample26_24 (by decide) ?_
        refine lv_goto (tgt := 29) hx hb d_MO_sample26_25 (by decide) ?_
        refine k_put (ws' := [(h0, .inr (8, [.int (nI 1), .int (nI nby), .ref a1, .int (xra), .int (nI ndb), .ref a2, .int (nI ncb), .ref a3, .ref a4, .int (nI nfr), .ref a5, .ref a6, .int (nI nsy), .int (nI nai), .ref a7, .ref a8, .int (xas), .int (xan), .int (xst), .int (xhr), .int (xhb), .int (xse), .int (xbe), .ref a9, .ref b1, .ref b2, .ref b3, .ref b4, .ref b5, .ref b6, .ref b7, .ref b8, .ref c1, .ref c2, .ref c3, .ref c4, .ref c5, .ref c6, .ref c7, .int (xrg)]))]) hx hb hw uw_MO tok_MO nn_MO hown hK hP hD hS 0 rfl rfl 0 (by decide) (hw _ wd_714) rfl rfl rfl (Nat.le_of_ble_eq_true rfl) d_MO_sample26_29 rfl (fun H locs hP hD hS => ?_)
        refine lv_aload_n hx hb d_MO_sample26_32 rfl (lv_at hl 0 rfl) ?_
        refine k_get hx hb hw uw_MO hown hK hP 0 rfl rfl 0 (by decide) (hw _ wd_714) rfl d_MO_sample26_33 ?_
        refine lv_if_le (tgt := 41) hx hb d_MO_sample26_36 (by decide) (fun h36 => ?_) (fun h36 => ?_)
        · exact absurd h36 (by decide)
        · refine lv_iconst (v := nI 0) hx hb d_MO_sample26_39 (by decide) ?_
          rw [hQ]
          exact k_zret () hx hb hr hlk hK hP hD hS [0] (by decide) rfl trivial rfl rfl d_MO_sample26_40
set_option maxHeartbeats 4000000 in
set_option maxRecDepth 100000 in
theorem c_MO_sample_10 (l : Launch) (D : va_G) (tc : Nat → ClassId) (tb : Nat → Nat) (h0 : Nat) (nby : Nat) (ndb : Nat) (ncb : Nat) (nfr : Nat) (nsy : Nat) (nai : Nat) (xth : Int32) (xra : Int32) (xas : Int32) (xan : Int32) (xst : Int32) (xhr : Int32) (xhb : Int32) (xse : Int32) (xbe : Int32) (xrg : Int32) (a1 : Nat) (a2 : Nat) (a3 : Nat) (a4 : Nat) (a5 : Nat) (a6 : Nat) (a7 : Nat) (a8 : Nat) (a9 : Nat) (b1 : Nat) (b2 : Nat) (b3 : Nat) (b4 : Nat) (b5 : Nat) (b6 : Nat) (b7 : Nat) (b8 : Nat) (c1 : Nat) (c2 : Nat) (c3 : Nat) (c4 : Nat) (c5 : Nat) (c6 : Nat) (c7 : Nat) (f : Nat → Int32) (xa : Int32) (k : Nat) (xb : Int32) (ha_ : ¬ xa = 0) (hb_ : xb = 0) (hk : k < nai) (hac : nai ≤ 560) (hv : (f k).toInt16.toInt32 = f k) : Mi l D tc tb y_MO_sample26 prog_10_method_26_code 4 (some .short) ({ frames := 0, cells := 0, slots := 0, locals := 0 }) [.ref h0, .int (xa), .int (nI k), .int (xb)] [(h0, .inr (8, [.int (xth), .int (nI nby), .ref a1, .int (xra), .int (nI ndb), .ref a2, .int (nI ncb), .ref a3, .ref a4, .int (nI nfr), .ref a5, .ref a6, .int (nI nsy), .int (nI nai), .ref a7, .ref a8, .int (xas), .int (xan), .int (xst), .int (xhr), .int (xhb), .int (xse), .int (xbe), .ref a9, .ref b1, .ref b2, .ref b3, .ref b4, .ref b5, .ref b6, .ref b7, .ref b8, .ref c1, .ref c2, .ref c3, .ref c4, .ref c5, .ref c6, .ref c7, .int (xrg)])), (a7, .inl (tc 0, 560, .inl f))] (fun _ : Unit => True) (fun _ : Unit => f k) (fun _ : Unit => [(h0, .inr (8, [.int (nI 0), .int (nI nby), .ref a1, .int (xra), .int (nI ndb), .ref a2, .int (nI ncb), .ref a3, .ref a4, .int (nI nfr), .ref a5, .ref a6, .int (nI nsy), .int (nI nai), .ref a7, .ref a8, .int (xas), .int (xan), .int (xst), .int (xhr), .int (xhb), .int (xse), .int (xbe), .ref a9, .ref b1, .ref b2, .ref b3, .ref b4, .ref b5, .ref b6, .ref b7, .ref b8, .ref c1, .ref c2, .ref c3, .ref c4, .ref c5, .ref c6, .ref c7, .int (xrg)])), (a7, .inl (tc 0, 560, .inl f))]) := by
  refine Mi.go (by decide) (Nat.le_of_ble_eq_true rfl) ?_
  intro p e s m below meth c A ls R args Q C
  obtain ⟨hx, hb, hr, hts, hown, hlk, hml, hin, hA, hST, hN, hK, hP, hD, hS, hl, hR, hQ⟩ := C
  have hw : ∀ w ∈ lw_g, w.before args s = true := fun w h => hts w (List.mem_cons_of_mem _ h)
  have hl : lv_has ls 4 [(0, .ref h0), (1, .int (xa)), (2, .int (nI k)), (3, .int (xb))] := hl
  refine lv_aload_n hx hb d_MO_sample26_0 rfl (lv_at hl 0 rfl) ?_
  refine lv_iload_n hx hb d_MO_sample26_1 rfl (lv_at hl 2 rfl) ?_
  refine lv_if_lt (tgt := 24) hx hb d_MO_sample26_2 (by decide) (fun h2 => ?_) (fun h2 => ?_)
  · exact absurd h2 (nI_pos (by omega))
  · refine lv_iload_n hx hb d_MO_sample26_5 rfl (lv_at hl 2 rfl) ?_
    refine lv_iload_n hx hb d_MO_sample26_6 rfl (lv_at hl 1 rfl) ?_
    refine lv_if_eq (tgt := 17) hx hb d_MO_sample26_7 (by decide) (fun h7 => ?_) (fun h7 => ?_)
    · exact absurd h7 ha_
    · refine lv_aload_n hx hb d_MO_sample26_10 rfl (lv_at hl 0 rfl) ?_
      refine k_get hx hb hw uw_MO hown hK hP 0 rfl rfl 13 (by decide) (hw _ wd_727) rfl d_MO_sample26_11 ?_
      refine lv_goto (tgt := 21) hx hb d_MO_sample26_14 (by decide) ?_
      refine k_icmp_lt (tgt := 28) hx hb d_MO_sample26_21 (by decide) (by omega) (by omega) (fun h21 => ?_) (fun h21 => ?_)
      · refine lv_iconst (v := nI 0) hx hb d_MO_sample26_28 (by decide) ?_
        refine k_put (ws' := [(h0, .inr (8, [.int (nI 0), .int (nI nby), .ref a1, .int (xra), .int (nI ndb), .ref a2, .int (nI ncb), .ref a3, .ref a4, .int (nI nfr), .ref a5, .ref a6, .int (nI nsy), .int (nI nai), .ref a7, .ref a8, .int (xas), .int (xan), .int (xst), .int (xhr), .int (xhb), .int (xse), .int (xbe), .ref a9, .ref b1, .ref b2, .ref b3, .ref b4, .ref b5, .ref b6, .ref b7, .ref b8, .ref c1, .ref c2, .ref c3, .ref c4, .ref c5, .ref c6, .ref c7, .int (xrg)])), (a7, .inl (tc 0, 560, .inl f))]) hx hb hw uw_MO tok_MO nn_MO hown hK hP hD hS 0 rfl rfl 0 (by decide) (hw _ wd_714) rfl rfl rfl (Nat.le_of_ble_eq_true rfl) d_MO_sample26_29 rfl (fun H locs hP hD hS => ?_)
        refine lv_aload_n hx hb d_MO_sample26_32 rfl (lv_at hl 0 rfl) ?_
        refine k_get hx hb hw uw_MO hown hK hP 0 rfl rfl 0 (by decide) (hw _ wd_714) rfl d_MO_sample26_33 ?_
        refine lv_if_le (tgt := 41) hx hb d_MO_sample26_36 (by decide) (fun h36 => ?_) (fun h36 => ?_)
        · refine lv_iload_n hx hb d_MO_sample26_41 rfl (lv_at hl 1 rfl) ?_
          refine lv_if_eq (tgt := 67) hx hb d_MO_sample26_42 (by decide) (fun h42 => ?_) (fun h42 => ?_)
          · exact absurd h42 ha_
          · refine lv_iload_n hx hb d_MO_sample26_45 rfl (lv_at hl 3 rfl) ?_
            refine lv_if_eq (tgt := 58) hx hb d_MO_sample26_46 (by decide) (fun h46 => ?_) (fun h46 => ?_)
            · refine lv_aload_n hx hb d_MO_sample26_58 rfl (lv_at hl 0 rfl) ?_
              refine k_get hx hb hw uw_MO hown hK hP 0 rfl rfl 14 (by decide) (hw _ wd_728) rfl d_MO_sample26_59 ?_
              refine lv_iload_n hx hb d_MO_sample26_62 rfl (lv_at hl 2 rfl) ?_
              refine k_iald hx hb hK hP 1 0 rfl rfl (by omega) (by omega) d_MO_sample26_63 ?_
              refine lv_goto (tgt := 86) hx hb d_MO_sample26_64 (by decide) ?_
              refine lv_i2s hx hb d_MO_sample26_86 rfl ?_
              refine k_topi (y := f k) hv ?_
              rw [hQ]
              exact k_zret () hx hb hr hlk hK hP hD hS [0, 1] (by decide) rfl trivial (nar_s hv) rfl d_MO_sample26_87
            · exact absurd hb_ h46
        · exact absurd (by decide) h36
      · exfalso; omega
set_option maxHeartbeats 4000000 in
set_option maxRecDepth 100000 in
theorem c_MO_sample_11 (l : Launch) (D : va_G) (tc : Nat → ClassId) (tb : Nat → Nat) (h0 : Nat) (nby : Nat) (ndb : Nat) (ncb : Nat) (nfr : Nat) (nsy : Nat) (nai : Nat) (xth : Int32) (xra : Int32) (xas : Int32) (xan : Int32) (xst : Int32) (xhr : Int32) (xhb : Int32) (xse : Int32) (xbe : Int32) (xrg : Int32) (a1 : Nat) (a2 : Nat) (a3 : Nat) (a4 : Nat) (a5 : Nat) (a6 : Nat) (a7 : Nat) (a8 : Nat) (a9 : Nat) (b1 : Nat) (b2 : Nat) (b3 : Nat) (b4 : Nat) (b5 : Nat) (b6 : Nat) (b7 : Nat) (b8 : Nat) (c1 : Nat) (c2 : Nat) (c3 : Nat) (c4 : Nat) (c5 : Nat) (c6 : Nat) (c7 : Nat) (f : Nat → Int32) (xa : Int32) (k : Nat) (xb : Int32) (ha_ : ¬ xa = 0) (hb_ : ¬ xb = 0) (hk : k < nai) (hac : nai ≤ 560) (hv : (f k).toInt16.toInt32 = f k) : Mi l D tc tb y_MO_sample26 prog_10_method_26_code 4 (some .short) ({ frames := 0, cells := 0, slots := 0, locals := 0 }) [.ref h0, .int (xa), .int (nI k), .int (xb)] [(h0, .inr (8, [.int (xth), .int (nI nby), .ref a1, .int (xra), .int (nI ndb), .ref a2, .int (nI ncb), .ref a3, .ref a4, .int (nI nfr), .ref a5, .ref a6, .int (nI nsy), .int (nI nai), .ref a7, .ref a8, .int (xas), .int (xan), .int (xst), .int (xhr), .int (xhb), .int (xse), .int (xbe), .ref a9, .ref b1, .ref b2, .ref b3, .ref b4, .ref b5, .ref b6, .ref b7, .ref b8, .ref c1, .ref c2, .ref c3, .ref c4, .ref c5, .ref c6, .ref c7, .int (xrg)])), (a8, .inl (tc 0, 560, .inl f))] (fun _ : Unit => True) (fun _ : Unit => f k) (fun _ : Unit => [(h0, .inr (8, [.int (nI 0), .int (nI nby), .ref a1, .int (xra), .int (nI ndb), .ref a2, .int (nI ncb), .ref a3, .ref a4, .int (nI nfr), .ref a5, .ref a6, .int (nI nsy), .int (nI nai), .ref a7, .ref a8, .int (xas), .int (xan), .int (xst), .int (xhr), .int (xhb), .int (xse), .int (xbe), .ref a9, .ref b1, .ref b2, .ref b3, .ref b4, .ref b5, .ref b6, .ref b7, .ref b8, .ref c1, .ref c2, .ref c3, .ref c4, .ref c5, .ref c6, .ref c7, .int (xrg)])), (a8, .inl (tc 0, 560, .inl f))]) := by
  refine Mi.go (by decide) (Nat.le_of_ble_eq_true rfl) ?_
  intro p e s m below meth c A ls R args Q C
  obtain ⟨hx, hb, hr, hts, hown, hlk, hml, hin, hA, hST, hN, hK, hP, hD, hS, hl, hR, hQ⟩ := C
  have hw : ∀ w ∈ lw_g, w.before args s = true := fun w h => hts w (List.mem_cons_of_mem _ h)
  have hl : lv_has ls 4 [(0, .ref h0), (1, .int (xa)), (2, .int (nI k)), (3, .int (xb))] := hl
  refine lv_aload_n hx hb d_MO_sample26_0 rfl (lv_at hl 0 rfl) ?_
  refine lv_iload_n hx hb d_MO_sample26_1 rfl (lv_at hl 2 rfl) ?_
  refine lv_if_lt (tgt := 24) hx hb d_MO_sample26_2 (by decide) (fun h2 => ?_) (fun h2 => ?_)
  · exact absurd h2 (nI_pos (by omega))
  · refine lv_iload_n hx hb d_MO_sample26_5 rfl (lv_at hl 2 rfl) ?_
    refine lv_iload_n hx hb d_MO_sample26_6 rfl (lv_at hl 1 rfl) ?_
    refine lv_if_eq (tgt := 17) hx hb d_MO_sample26_7 (by decide) (fun h7 => ?_) (fun h7 => ?_)
    · exact absurd h7 ha_
    · refine lv_aload_n hx hb d_MO_sample26_10 rfl (lv_at hl 0 rfl) ?_
      refine k_get hx hb hw uw_MO hown hK hP 0 rfl rfl 13 (by decide) (hw _ wd_727) rfl d_MO_sample26_11 ?_
      refine lv_goto (tgt := 21) hx hb d_MO_sample26_14 (by decide) ?_
      refine k_icmp_lt (tgt := 28) hx hb d_MO_sample26_21 (by decide) (by omega) (by omega) (fun h21 => ?_) (fun h21 => ?_)
      · refine lv_iconst (v := nI 0) hx hb d_MO_sample26_28 (by decide) ?_
        refine k_put (ws' := [(h0, .inr (8, [.int (nI 0), .int (nI nby), .ref a1, .int (xra), .int (nI ndb), .ref a2, .int (nI ncb), .ref a3, .ref a4, .int (nI nfr), .ref a5, .ref a6, .int (nI nsy), .int (nI nai), .ref a7, .ref a8, .int (xas), .int (xan), .int (xst), .int (xhr), .int (xhb), .int (xse), .int (xbe), .ref a9, .ref b1, .ref b2, .ref b3, .ref b4, .ref b5, .ref b6, .ref b7, .ref b8, .ref c1, .ref c2, .ref c3, .ref c4, .ref c5, .ref c6, .ref c7, .int (xrg)])), (a8, .inl (tc 0, 560, .inl f))]) hx hb hw uw_MO tok_MO nn_MO hown hK hP hD hS 0 rfl rfl 0 (by decide) (hw _ wd_714) rfl rfl rfl (Nat.le_of_ble_eq_true rfl) d_MO_sample26_29 rfl (fun H locs hP hD hS => ?_)
        refine lv_aload_n hx hb d_MO_sample26_32 rfl (lv_at hl 0 rfl) ?_
        refine k_get hx hb hw uw_MO hown hK hP 0 rfl rfl 0 (by decide) (hw _ wd_714) rfl d_MO_sample26_33 ?_
        refine lv_if_le (tgt := 41) hx hb d_MO_sample26_36 (by decide) (fun h36 => ?_) (fun h36 => ?_)
        · refine lv_iload_n hx hb d_MO_sample26_41 rfl (lv_at hl 1 rfl) ?_
          refine lv_if_eq (tgt := 67) hx hb d_MO_sample26_42 (by decide) (fun h42 => ?_) (fun h42 => ?_)
          · exact absurd h42 ha_
          · refine lv_iload_n hx hb d_MO_sample26_45 rfl (lv_at hl 3 rfl) ?_
            refine lv_if_eq (tgt := 58) hx hb d_MO_sample26_46 (by decide) (fun h46 => ?_) (fun h46 => ?_)
            · exact absurd h46 hb_
            · refine lv_aload_n hx hb d_MO_sample26_49 rfl (lv_at hl 0 rfl) ?_
              refine k_get hx hb hw uw_MO hown hK hP 0 rfl rfl 15 (by decide) (hw _ wd_729) rfl d_MO_sample26_50 ?_
              refine lv_iload_n hx hb d_MO_sample26_53 rfl (lv_at hl 2 rfl) ?_
              refine k_iald hx hb hK hP 1 0 rfl rfl (by omega) (by omega) d_MO_sample26_54 ?_
              refine lv_goto (tgt := 86) hx hb d_MO_sample26_55 (by decide) ?_
              refine lv_i2s hx hb d_MO_sample26_86 rfl ?_
              refine k_topi (y := f k) hv ?_
              rw [hQ]
              exact k_zret () hx hb hr hlk hK hP hD hS [0, 1] (by decide) rfl trivial (nar_s hv) rfl d_MO_sample26_87
        · exact absurd (by decide) h36
      · exfalso; omega
set_option maxHeartbeats 4000000 in
set_option maxRecDepth 100000 in
theorem c_MO_air_no1 (l : Launch) (D : va_G) (tc : Nat → ClassId) (tb : Nat → Nat) (h0 : Nat) (nby : Nat) (ndb : Nat) (ncb : Nat) (nfr : Nat) (nsy : Nat) (nai : Nat) (xth : Int32) (xra : Int32) (xas : Int32) (xan : Int32) (xst : Int32) (xhr : Int32) (xhb : Int32) (xse : Int32) (xbe : Int32) (xrg : Int32) (a1 : Nat) (a2 : Nat) (a3 : Nat) (a4 : Nat) (a5 : Nat) (a6 : Nat) (a7 : Nat) (a8 : Nat) (a9 : Nat) (b1 : Nat) (b2 : Nat) (b3 : Nat) (b4 : Nat) (b5 : Nat) (b6 : Nat) (b7 : Nat) (b8 : Nat) (c1 : Nat) (c2 : Nat) (c3 : Nat) (c4 : Nat) (c5 : Nat) (c6 : Nat) (c7 : Nat) (xl : Int32) (xe : Int32) (xt : Int32) (hbad : xl < 0 ∨ nI 40 < xl ∨ xe < 0 ∨ nI 3 < xe ∨ xt < 0 ∨ nI 3 < xt) : Mi l D tc tb y_MO_air prog_10_method_27_code 9 (some .int) ({ frames := 0, cells := 0, slots := 0, locals := 0 }) [.ref h0, .int (xl), .int (xe), .int (xt)] [(h0, .inr (8, [.int (xth), .int (nI nby), .ref a1, .int (xra), .int (nI ndb), .ref a2, .int (nI ncb), .ref a3, .ref a4, .int (nI nfr), .ref a5, .ref a6, .int (nI nsy), .int (nI nai), .ref a7, .ref a8, .int (xas), .int (xan), .int (xst), .int (xhr), .int (xhb), .int (xse), .int (xbe), .ref a9, .ref b1, .ref b2, .ref b3, .ref b4, .ref b5, .ref b6, .ref b7, .ref b8, .ref c1, .ref c2, .ref c3, .ref c4, .ref c5, .ref c6, .ref c7, .int (xrg)]))] (fun _ : Unit => True) (fun _ : Unit => nI 0) (fun _ : Unit => [(h0, .inr (8, [.int (nI 1), .int (nI nby), .ref a1, .int (xra), .int (nI ndb), .ref a2, .int (nI ncb), .ref a3, .ref a4, .int (nI nfr), .ref a5, .ref a6, .int (nI nsy), .int (nI nai), .ref a7, .ref a8, .int (xas), .int (xan), .int (xst), .int (xhr), .int (xhb), .int (xse), .int (xbe), .ref a9, .ref b1, .ref b2, .ref b3, .ref b4, .ref b5, .ref b6, .ref b7, .ref b8, .ref c1, .ref c2, .ref c3, .ref c4, .ref c5, .ref c6, .ref c7, .int (xrg)]))]) := by
  refine Mi.go (by decide) (Nat.le_of_ble_eq_true rfl) ?_
  intro p e s m below meth c A ls R args Q C
  obtain ⟨hx, hb, hr, hts, hown, hlk, hml, hin, hA, hST, hN, hK, hP, hD, hS, hl, hR, hQ⟩ := C
  have hw : ∀ w ∈ lw_g, w.before args s = true := fun w h => hts w (List.mem_cons_of_mem _ h)
  have hl : lv_has ls 9 [(0, .ref h0), (1, .int (xl)), (2, .int (xe)), (3, .int (xt))] := hl
  refine lv_aload_n hx hb d_MO_air_0 rfl (lv_at hl 0 rfl) ?_
  refine lv_iload_n hx hb d_MO_air_1 rfl (lv_at hl 1 rfl) ?_
  refine lv_if_lt (tgt := 29) hx hb d_MO_air_2 (by decide) (fun h2 => ?_) (fun h2 => ?_)
  · refine lv_iconst (v := nI 1) hx hb d_MO_air_29 (by decide) ?_
    refine lv_goto (tgt := 45) hx hb d_MO_air_30 (by decide) ?_
    refine k_put (ws' := [(h0, .inr (8, [.int (nI 1), .int (nI nby), .ref a1, .int (xra), .int (nI ndb), .ref a2, .int (nI ncb), .ref a3, .ref a4, .int (nI nfr), .ref a5, .ref a6, .int (nI nsy), .int (nI nai), .ref a7, .ref a8, .int (xas), .int (xan), .int (xst), .int (xhr), .int (xhb), .int (xse), .int (xbe), .ref a9, .ref b1, .ref b2, .ref b3, .ref b4, .ref b5, .ref b6, .ref b7, .ref b8, .ref c1, .ref c2, .ref c3, .ref c4, .ref c5, .ref c6, .ref c7, .int (xrg)]))]) hx hb hw uw_MO tok_MO nn_MO hown hK hP hD hS 0 rfl rfl 0 (by decide) (hw _ wd_714) rfl rfl rfl (Nat.le_of_ble_eq_true rfl) d_MO_air_45 rfl (fun H locs hP hD hS => ?_)
    refine lv_aload_n hx hb d_MO_air_48 rfl (lv_at hl 0 rfl) ?_
    refine k_get hx hb hw uw_MO hown hK hP 0 rfl rfl 0 (by decide) (hw _ wd_714) rfl d_MO_air_49 ?_
    refine lv_if_le (tgt := 57) hx hb d_MO_air_52 (by decide) (fun h52 => ?_) (fun h52 => ?_)
    · exact absurd h52 (by decide)
    · refine lv_iconst (v := nI 0) hx hb d_MO_air_55 (by decide) ?_
      rw [hQ]
      exact k_iret () hx hb hr hlk hK hP hD hS [0] (by decide) rfl trivial rfl d_MO_air_56
  · refine lv_iload_n hx hb d_MO_air_5 rfl (lv_at hl 1 rfl) ?_
    refine lv_bipush (v := nI 40) hx hb d_MO_air_6 (by decide) ?_
    refine lv_icmp_gt (tgt := 29) hx hb d_MO_air_8 (by decide) (fun h8 => ?_) (fun h8 => ?_)
    · refine lv_iconst (v := nI 1) hx hb d_MO_air_29 (by decide) ?_
      refine lv_goto (tgt := 45) hx hb d_MO_air_30 (by decide) ?_
      refine k_put (ws' := [(h0, .inr (8, [.int (nI 1), .int (nI nby), .ref a1, .int (xra), .int (nI ndb), .ref a2, .int (nI ncb), .ref a3, .ref a4, .int (nI nfr), .ref a5, .ref a6, .int (nI nsy), .int (nI nai), .ref a7, .ref a8, .int (xas), .int (xan), .int (xst), .int (xhr), .int (xhb), .int (xse), .int (xbe), .ref a9, .ref b1, .ref b2, .ref b3, .ref b4, .ref b5, .ref b6, .ref b7, .ref b8, .ref c1, .ref c2, .ref c3, .ref c4, .ref c5, .ref c6, .ref c7, .int (xrg)]))]) hx hb hw uw_MO tok_MO nn_MO hown hK hP hD hS 0 rfl rfl 0 (by decide) (hw _ wd_714) rfl rfl rfl (Nat.le_of_ble_eq_true rfl) d_MO_air_45 rfl (fun H locs hP hD hS => ?_)
      refine lv_aload_n hx hb d_MO_air_48 rfl (lv_at hl 0 rfl) ?_
      refine k_get hx hb hw uw_MO hown hK hP 0 rfl rfl 0 (by decide) (hw _ wd_714) rfl d_MO_air_49 ?_
      refine lv_if_le (tgt := 57) hx hb d_MO_air_52 (by decide) (fun h52 => ?_) (fun h52 => ?_)
      · exact absurd h52 (by decide)
      · refine lv_iconst (v := nI 0) hx hb d_MO_air_55 (by decide) ?_
        rw [hQ]
        exact k_iret () hx hb hr hlk hK hP hD hS [0] (by decide) rfl trivial rfl d_MO_air_56
    · refine lv_iload_n hx hb d_MO_air_11 rfl (lv_at hl 2 rfl) ?_
      refine lv_if_lt (tgt := 29) hx hb d_MO_air_12 (by decide) (fun h12 => ?_) (fun h12 => ?_)
      · refine lv_iconst (v := nI 1) hx hb d_MO_air_29 (by decide) ?_
        refine lv_goto (tgt := 45) hx hb d_MO_air_30 (by decide) ?_
        refine k_put (ws' := [(h0, .inr (8, [.int (nI 1), .int (nI nby), .ref a1, .int (xra), .int (nI ndb), .ref a2, .int (nI ncb), .ref a3, .ref a4, .int (nI nfr), .ref a5, .ref a6, .int (nI nsy), .int (nI nai), .ref a7, .ref a8, .int (xas), .int (xan), .int (xst), .int (xhr), .int (xhb), .int (xse), .int (xbe), .ref a9, .ref b1, .ref b2, .ref b3, .ref b4, .ref b5, .ref b6, .ref b7, .ref b8, .ref c1, .ref c2, .ref c3, .ref c4, .ref c5, .ref c6, .ref c7, .int (xrg)]))]) hx hb hw uw_MO tok_MO nn_MO hown hK hP hD hS 0 rfl rfl 0 (by decide) (hw _ wd_714) rfl rfl rfl (Nat.le_of_ble_eq_true rfl) d_MO_air_45 rfl (fun H locs hP hD hS => ?_)
        refine lv_aload_n hx hb d_MO_air_48 rfl (lv_at hl 0 rfl) ?_
        refine k_get hx hb hw uw_MO hown hK hP 0 rfl rfl 0 (by decide) (hw _ wd_714) rfl d_MO_air_49 ?_
        refine lv_if_le (tgt := 57) hx hb d_MO_air_52 (by decide) (fun h52 => ?_) (fun h52 => ?_)
        · exact absurd h52 (by decide)
        · refine lv_iconst (v := nI 0) hx hb d_MO_air_55 (by decide) ?_
          rw [hQ]
          exact k_iret () hx hb hr hlk hK hP hD hS [0] (by decide) rfl trivial rfl d_MO_air_56
      · refine lv_iload_n hx hb d_MO_air_15 rfl (lv_at hl 2 rfl) ?_
        refine lv_iconst (v := nI 3) hx hb d_MO_air_16 (by decide) ?_
        refine lv_icmp_gt (tgt := 29) hx hb d_MO_air_17 (by decide) (fun h17 => ?_) (fun h17 => ?_)
        · refine lv_iconst (v := nI 1) hx hb d_MO_air_29 (by decide) ?_
          refine lv_goto (tgt := 45) hx hb d_MO_air_30 (by decide) ?_
          refine k_put (ws' := [(h0, .inr (8, [.int (nI 1), .int (nI nby), .ref a1, .int (xra), .int (nI ndb), .ref a2, .int (nI ncb), .ref a3, .ref a4, .int (nI nfr), .ref a5, .ref a6, .int (nI nsy), .int (nI nai), .ref a7, .ref a8, .int (xas), .int (xan), .int (xst), .int (xhr), .int (xhb), .int (xse), .int (xbe), .ref a9, .ref b1, .ref b2, .ref b3, .ref b4, .ref b5, .ref b6, .ref b7, .ref b8, .ref c1, .ref c2, .ref c3, .ref c4, .ref c5, .ref c6, .ref c7, .int (xrg)]))]) hx hb hw uw_MO tok_MO nn_MO hown hK hP hD hS 0 rfl rfl 0 (by decide) (hw _ wd_714) rfl rfl rfl (Nat.le_of_ble_eq_true rfl) d_MO_air_45 rfl (fun H locs hP hD hS => ?_)
          refine lv_aload_n hx hb d_MO_air_48 rfl (lv_at hl 0 rfl) ?_
          refine k_get hx hb hw uw_MO hown hK hP 0 rfl rfl 0 (by decide) (hw _ wd_714) rfl d_MO_air_49 ?_
          refine lv_if_le (tgt := 57) hx hb d_MO_air_52 (by decide) (fun h52 => ?_) (fun h52 => ?_)
          · exact absurd h52 (by decide)
          · refine lv_iconst (v := nI 0) hx hb d_MO_air_55 (by decide) ?_
            rw [hQ]
            exact k_iret () hx hb hr hlk hK hP hD hS [0] (by decide) rfl trivial rfl d_MO_air_56
        · refine lv_iload_n hx hb d_MO_air_20 rfl (lv_at hl 3 rfl) ?_
          refine lv_if_lt (tgt := 29) hx hb d_MO_air_21 (by decide) (fun h21 => ?_) (fun h21 => ?_)
          · refine lv_iconst (v := nI 1) hx hb d_MO_air_29 (by decide) ?_
            refine lv_goto (tgt := 45) hx hb d_MO_air_30 (by decide) ?_
            refine k_put (ws' := [(h0, .inr (8, [.int (nI 1), .int (nI nby), .ref a1, .int (xra), .int (nI ndb), .ref a2, .int (nI ncb), .ref a3, .ref a4, .int (nI nfr), .ref a5, .ref a6, .int (nI nsy), .int (nI nai), .ref a7, .ref a8, .int (xas), .int (xan), .int (xst), .int (xhr), .int (xhb), .int (xse), .int (xbe), .ref a9, .ref b1, .ref b2, .ref b3, .ref b4, .ref b5, .ref b6, .ref b7, .ref b8, .ref c1, .ref c2, .ref c3, .ref c4, .ref c5, .ref c6, .ref c7, .int (xrg)]))]) hx hb hw uw_MO tok_MO nn_MO hown hK hP hD hS 0 rfl rfl 0 (by decide) (hw _ wd_714) rfl rfl rfl (Nat.le_of_ble_eq_true rfl) d_MO_air_45 rfl (fun H locs hP hD hS => ?_)
            refine lv_aload_n hx hb d_MO_air_48 rfl (lv_at hl 0 rfl) ?_
            refine k_get hx hb hw uw_MO hown hK hP 0 rfl rfl 0 (by decide) (hw _ wd_714) rfl d_MO_air_49 ?_
            refine lv_if_le (tgt := 57) hx hb d_MO_air_52 (by decide) (fun h52 => ?_) (fun h52 => ?_)
            · exact absurd h52 (by decide)
            · refine lv_iconst (v := nI 0) hx hb d_MO_air_55 (by decide) ?_
              rw [hQ]
              exact k_iret () hx hb hr hlk hK hP hD hS [0] (by decide) rfl trivial rfl d_MO_air_56
          · refine lv_iload_n hx hb d_MO_air_24 rfl (lv_at hl 3 rfl) ?_
            refine lv_iconst (v := nI 3) hx hb d_MO_air_25 (by decide) ?_
            refine lv_icmp_le (tgt := 33) hx hb d_MO_air_26 (by decide) (fun h26 => ?_) (fun h26 => ?_)
            · exact False.elim (by rcases hbad with q | q | q | q | q | q; exact h2 q; exact h8 q; exact h12 q; exact h17 q; exact h21 q; exact absurd h26 (Int32.not_le.mpr q))
            · refine lv_iconst (v := nI 1) hx hb d_MO_air_29 (by decide) ?_
              refine lv_goto (tgt := 45) hx hb d_MO_air_30 (by decide) ?_
              refine k_put (ws' := [(h0, .inr (8, [.int (nI 1), .int (nI nby), .ref a1, .int (xra), .int (nI ndb), .ref a2, .int (nI ncb), .ref a3, .ref a4, .int (nI nfr), .ref a5, .ref a6, .int (nI nsy), .int (nI nai), .ref a7, .ref a8, .int (xas), .int (xan), .int (xst), .int (xhr), .int (xhb), .int (xse), .int (xbe), .ref a9, .ref b1, .ref b2, .ref b3, .ref b4, .ref b5, .ref b6, .ref b7, .ref b8, .ref c1, .ref c2, .ref c3, .ref c4, .ref c5, .ref c6, .ref c7, .int (xrg)]))]) hx hb hw uw_MO tok_MO nn_MO hown hK hP hD hS 0 rfl rfl 0 (by decide) (hw _ wd_714) rfl rfl rfl (Nat.le_of_ble_eq_true rfl) d_MO_air_45 rfl (fun H locs hP hD hS => ?_)
              refine lv_aload_n hx hb d_MO_air_48 rfl (lv_at hl 0 rfl) ?_
              refine k_get hx hb hw uw_MO hown hK hP 0 rfl rfl 0 (by decide) (hw _ wd_714) rfl d_MO_air_49 ?_
              refine lv_if_le (tgt := 57) hx hb d_MO_air_52 (by decide) (fun h52 => ?_) (fun h52 => ?_)
              · exact absurd h52 (by decide)
              · refine lv_iconst (v := nI 0) hx hb d_MO_air_55 (by decide) ?_
                rw [hQ]
                exact k_iret () hx hb hr hlk hK hP hD hS [0] (by decide) rfl trivial rfl d_MO_air_56
set_option maxHeartbeats 4000000 in
set_option maxRecDepth 100000 in
theorem c_MO_air_no2 (l : Launch) (D : va_G) (tc : Nat → ClassId) (tb : Nat → Nat) (h0 : Nat) (nby : Nat) (ndb : Nat) (ncb : Nat) (nfr : Nat) (nsy : Nat) (nai : Nat) (xth : Int32) (xra : Int32) (xas : Int32) (xan : Int32) (xst : Int32) (xhr : Int32) (xhb : Int32) (xse : Int32) (xbe : Int32) (xrg : Int32) (a1 : Nat) (a2 : Nat) (a3 : Nat) (a4 : Nat) (a5 : Nat) (a6 : Nat) (a7 : Nat) (a8 : Nat) (a9 : Nat) (b1 : Nat) (b2 : Nat) (b3 : Nat) (b4 : Nat) (b5 : Nat) (b6 : Nat) (b7 : Nat) (b8 : Nat) (c1 : Nat) (c2 : Nat) (c3 : Nat) (c4 : Nat) (c5 : Nat) (c6 : Nat) (c7 : Nat) (ld : Nat) (ec : Nat) (tu : Nat) (hld : ld ≤ 40) (hec : ec ≤ 3) (htu : tu ≤ 3) (hf0 : nfr = 0) : Mi l D tc tb y_MO_air prog_10_method_27_code 9 (some .int) ({ frames := 0, cells := 0, slots := 0, locals := 0 }) [.ref h0, .int (nI ld), .int (nI ec), .int (nI tu)] [(h0, .inr (8, [.int (xth), .int (nI nby), .ref a1, .int (xra), .int (nI ndb), .ref a2, .int (nI ncb), .ref a3, .ref a4, .int (nI nfr), .ref a5, .ref a6, .int (nI nsy), .int (nI nai), .ref a7, .ref a8, .int (xas), .int (xan), .int (xst), .int (xhr), .int (xhb), .int (xse), .int (xbe), .ref a9, .ref b1, .ref b2, .ref b3, .ref b4, .ref b5, .ref b6, .ref b7, .ref b8, .ref c1, .ref c2, .ref c3, .ref c4, .ref c5, .ref c6, .ref c7, .int (xrg)]))] (fun _ : Unit => True) (fun _ : Unit => nI 0) (fun _ : Unit => [(h0, .inr (8, [.int (nI 2), .int (nI nby), .ref a1, .int (xra), .int (nI ndb), .ref a2, .int (nI ncb), .ref a3, .ref a4, .int (nI nfr), .ref a5, .ref a6, .int (nI nsy), .int (nI nai), .ref a7, .ref a8, .int (xas), .int (xan), .int (xst), .int (xhr), .int (xhb), .int (xse), .int (xbe), .ref a9, .ref b1, .ref b2, .ref b3, .ref b4, .ref b5, .ref b6, .ref b7, .ref b8, .ref c1, .ref c2, .ref c3, .ref c4, .ref c5, .ref c6, .ref c7, .int (xrg)]))]) := by
  refine Mi.go (by decide) (Nat.le_of_ble_eq_true rfl) ?_
  intro p e s m below meth c A ls R args Q C
  obtain ⟨hx, hb, hr, hts, hown, hlk, hml, hin, hA, hST, hN, hK, hP, hD, hS, hl, hR, hQ⟩ := C
  have hw : ∀ w ∈ lw_g, w.before args s = true := fun w h => hts w (List.mem_cons_of_mem _ h)
  have hl : lv_has ls 9 [(0, .ref h0), (1, .int (nI ld)), (2, .int (nI ec)), (3, .int (nI tu))] := hl
  refine lv_aload_n hx hb d_MO_air_0 rfl (lv_at hl 0 rfl) ?_
  refine lv_iload_n hx hb d_MO_air_1 rfl (lv_at hl 1 rfl) ?_
  refine lv_if_lt (tgt := 29) hx hb d_MO_air_2 (by decide) (fun h2 => ?_) (fun h2 => ?_)
  · exact absurd h2 (nI_pos (by omega))
  · refine lv_iload_n hx hb d_MO_air_5 rfl (lv_at hl 1 rfl) ?_
    refine lv_bipush (v := nI 40) hx hb d_MO_air_6 (by decide) ?_
    refine k_icmp_gt (tgt := 29) hx hb d_MO_air_8 (by decide) (by omega) (by omega) (fun h8 => ?_) (fun h8 => ?_)
    · exfalso; omega
    · refine lv_iload_n hx hb d_MO_air_11 rfl (lv_at hl 2 rfl) ?_
      refine lv_if_lt (tgt := 29) hx hb d_MO_air_12 (by decide) (fun h12 => ?_) (fun h12 => ?_)
      · exact absurd h12 (nI_pos (by omega))
      · refine lv_iload_n hx hb d_MO_air_15 rfl (lv_at hl 2 rfl) ?_
        refine lv_iconst (v := nI 3) hx hb d_MO_air_16 (by decide) ?_
        refine k_icmp_gt (tgt := 29) hx hb d_MO_air_17 (by decide) (by omega) (by omega) (fun h17 => ?_) (fun h17 => ?_)
        · exfalso; omega
        · refine lv_iload_n hx hb d_MO_air_20 rfl (lv_at hl 3 rfl) ?_
          refine lv_if_lt (tgt := 29) hx hb d_MO_air_21 (by decide) (fun h21 => ?_) (fun h21 => ?_)
          · exact absurd h21 (nI_pos (by omega))
          · refine lv_iload_n hx hb d_MO_air_24 rfl (lv_at hl 3 rfl) ?_
            refine lv_iconst (v := nI 3) hx hb d_MO_air_25 (by decide) ?_
            refine k_icmp_le (tgt := 33) hx hb d_MO_air_26 (by decide) (by omega) (by omega) (fun h26 => ?_) (fun h26 => ?_)
            · refine lv_aload_n hx hb d_MO_air_33 rfl (lv_at hl 0 rfl) ?_
              refine k_get hx hb hw uw_MO hown hK hP 0 rfl rfl 9 (by decide) (hw _ wd_723) rfl d_MO_air_34 ?_
              refine k_if_ne (tgt := 44) hx hb d_MO_air_37 (by decide) (by omega) (fun h37 => ?_) (fun h37 => ?_)
              · exfalso; omega
              · refine lv_iconst (v := nI 2) hx hb d_MO_air_40 (by decide) ?_
                refine lv_goto (tgt := 45) hx hb d_MO_air_41 (by decide) ?_
                refine k_put (ws' := [(h0, .inr (8, [.int (nI 2), .int (nI nby), .ref a1, .int (xra), .int (nI ndb), .ref a2, .int (nI ncb), .ref a3, .ref a4, .int (nI nfr), .ref a5, .ref a6, .int (nI nsy), .int (nI nai), .ref a7, .ref a8, .int (xas), .int (xan), .int (xst), .int (xhr), .int (xhb), .int (xse), .int (xbe), .ref a9, .ref b1, .ref b2, .ref b3, .ref b4, .ref b5, .ref b6, .ref b7, .ref b8, .ref c1, .ref c2, .ref c3, .ref c4, .ref c5, .ref c6, .ref c7, .int (xrg)]))]) hx hb hw uw_MO tok_MO nn_MO hown hK hP hD hS 0 rfl rfl 0 (by decide) (hw _ wd_714) rfl rfl rfl (Nat.le_of_ble_eq_true rfl) d_MO_air_45 rfl (fun H locs hP hD hS => ?_)
                refine lv_aload_n hx hb d_MO_air_48 rfl (lv_at hl 0 rfl) ?_
                refine k_get hx hb hw uw_MO hown hK hP 0 rfl rfl 0 (by decide) (hw _ wd_714) rfl d_MO_air_49 ?_
                refine lv_if_le (tgt := 57) hx hb d_MO_air_52 (by decide) (fun h52 => ?_) (fun h52 => ?_)
                · exact absurd h52 (by decide)
                · refine lv_iconst (v := nI 0) hx hb d_MO_air_55 (by decide) ?_
                  rw [hQ]
                  exact k_iret () hx hb hr hlk hK hP hD hS [0] (by decide) rfl trivial rfl d_MO_air_56
            · exfalso; omega
set_option maxHeartbeats 4000000 in
set_option maxRecDepth 100000 in
theorem c_MO_air_ok (l : Launch) (D : va_G) (tc : Nat → ClassId) (tb : Nat → Nat) (h0 : Nat) (nby : Nat) (ndb : Nat) (ncb : Nat) (nfr : Nat) (nsy : Nat) (nai : Nat) (xth : Int32) (xra : Int32) (xas : Int32) (xan : Int32) (xst : Int32) (xhr : Int32) (xhb : Int32) (xse : Int32) (xbe : Int32) (xrg : Int32) (a1 : Nat) (a2 : Nat) (a3 : Nat) (a4 : Nat) (a5 : Nat) (a6 : Nat) (a7 : Nat) (a8 : Nat) (a9 : Nat) (b1 : Nat) (b2 : Nat) (b3 : Nat) (b4 : Nat) (b5 : Nat) (b6 : Nat) (b7 : Nat) (b8 : Nat) (c1 : Nat) (c2 : Nat) (c3 : Nat) (c4 : Nat) (c5 : Nat) (c6 : Nat) (c7 : Nat) (ld : Nat) (ec : Nat) (tu : Nat) (ww : RP) (aa : RP) (hld : ld ≤ 40) (hec : ec ≤ 3) (htu : tu ≤ 3) (hf0 : 0 < nfr) (hfr : nfr ≤ 520) : Mi l D tc tb y_MO_air prog_10_method_27_code 9 (some .int) ({ frames := 1, cells := 0, slots := 0, locals := 20 }) [.ref h0, .int (nI ld), .int (nI ec), .int (nI tu)] [(h0, .inr (8, [.int (xth), .int (nI nby), .ref a1, .int (xra), .int (nI ndb), .ref a2, .int (nI ncb), .ref a3, .ref a4, .int (nI nfr), .ref a5, .ref a6, .int (nI nsy), .int (nI nai), .ref a7, .ref a8, .int (xas), .int (xan), .int (xst), .int (xhr), .int (xhb), .int (xse), .int (xbe), .ref a9, .ref b1, .ref b2, .ref b3, .ref b4, .ref b5, .ref b6, .ref b7, .ref b8, .ref c1, .ref c2, .ref c3, .ref c4, .ref c5, .ref c6, .ref c7, .int (xrg)])), (a5, .inl (tc 0, 520, .inl ww.1)), (a6, .inl (tc 0, 520, .inl ww.2)), (a7, .inl (tc 0, 560, .inl aa.1)), (a8, .inl (tc 0, 560, .inl aa.2))] (fun _ : Unit => True) (fun _ : Unit => nI (ld + nfr)) (fun _ : Unit => [(h0, .inr (8, [.int (nI 0), .int (nI nby), .ref a1, .int (xra), .int (nI ndb), .ref a2, .int (nI ncb), .ref a3, .ref a4, .int (nI nfr), .ref a5, .ref a6, .int (nI nsy), .int (nI (ld + nfr)), .ref a7, .ref a8, .int (xas), .int (xan), .int (xst), .int (xhr), .int (xhb), .int (xse), .int (xbe), .ref a9, .ref b1, .ref b2, .ref b3, .ref b4, .ref b5, .ref b6, .ref b7, .ref b8, .ref c1, .ref c2, .ref c3, .ref c4, .ref c5, .ref c6, .ref c7, .int (xrg)])), (a5, .inl (tc 0, 520, .inl ww.1)), (a6, .inl (tc 0, 520, .inl ww.2)), (a7, .inl (tc 0, 560, .inl ((arP ww ec tu ld (gF (fun _ => nI 0) aa.1 ld, gF (fun _ => nI 0) aa.2 ld) nfr).1))), (a8, .inl (tc 0, 560, .inl ((arP ww ec tu ld (gF (fun _ => nI 0) aa.1 ld, gF (fun _ => nI 0) aa.2 ld) nfr).2)))]) := by
  refine Mi.go (by decide) (Nat.le_of_ble_eq_true rfl) ?_
  intro p e s m below meth c A ls R args Q C
  obtain ⟨hx, hb, hr, hts, hown, hlk, hml, hin, hA, hST, hN, hK, hP, hD, hS, hl, hR, hQ⟩ := C
  have hw : ∀ w ∈ lw_g, w.before args s = true := fun w h => hts w (List.mem_cons_of_mem _ h)
  have hl : lv_has ls 9 [(0, .ref h0), (1, .int (nI ld)), (2, .int (nI ec)), (3, .int (nI tu))] := hl
  refine lv_aload_n hx hb d_MO_air_0 rfl (lv_at hl 0 rfl) ?_
  refine lv_iload_n hx hb d_MO_air_1 rfl (lv_at hl 1 rfl) ?_
  refine lv_if_lt (tgt := 29) hx hb d_MO_air_2 (by decide) (fun h2 => ?_) (fun h2 => ?_)
  · exact absurd h2 (nI_pos (by omega))
  · refine lv_iload_n hx hb d_MO_air_5 rfl (lv_at hl 1 rfl) ?_
    refine lv_bipush (v := nI 40) hx hb d_MO_air_6 (by decide) ?_
    refine k_icmp_gt (tgt := 29) hx hb d_MO_air_8 (by decide) (by omega) (by omega) (fun h8 => ?_) (fun h8 => ?_)
    · exfalso; omega
    · refine lv_iload_n hx hb d_MO_air_11 rfl (lv_at hl 2 rfl) ?_
      refine lv_if_lt (tgt := 29) hx hb d_MO_air_12 (by decide) (fun h12 => ?_) (fun h12 => ?_)
      · exact absurd h12 (nI_pos (by omega))
      · refine lv_iload_n hx hb d_MO_air_15 rfl (lv_at hl 2 rfl) ?_
        refine lv_iconst (v := nI 3) hx hb d_MO_air_16 (by decide) ?_
        refine k_icmp_gt (tgt := 29) hx hb d_MO_air_17 (by decide) (by omega) (by omega) (fun h17 => ?_) (fun h17 => ?_)
        · exfalso; omega
        · refine lv_iload_n hx hb d_MO_air_20 rfl (lv_at hl 3 rfl) ?_
          refine lv_if_lt (tgt := 29) hx hb d_MO_air_21 (by decide) (fun h21 => ?_) (fun h21 => ?_)
          · exact absurd h21 (nI_pos (by omega))
          · refine lv_iload_n hx hb d_MO_air_24 rfl (lv_at hl 3 rfl) ?_
            refine lv_iconst (v := nI 3) hx hb d_MO_air_25 (by decide) ?_
            refine k_icmp_le (tgt := 33) hx hb d_MO_air_26 (by decide) (by omega) (by omega) (fun h26 => ?_) (fun h26 => ?_)
            · refine lv_aload_n hx hb d_MO_air_33 rfl (lv_at hl 0 rfl) ?_
              refine k_get hx hb hw uw_MO hown hK hP 0 rfl rfl 9 (by decide) (hw _ wd_723) rfl d_MO_air_34 ?_
              refine k_if_ne (tgt := 44) hx hb d_MO_air_37 (by decide) (by omega) (fun h37 => ?_) (fun h37 => ?_)
              · refine lv_iconst (v := nI 0) hx hb d_MO_air_44 (by decide) ?_
                refine k_put (ws' := [(h0, .inr (8, [.int (nI 0), .int (nI nby), .ref a1, .int (xra), .int (nI ndb), .ref a2, .int (nI ncb), .ref a3, .ref a4, .int (nI nfr), .ref a5, .ref a6, .int (nI nsy), .int (nI nai), .ref a7, .ref a8, .int (xas), .int (xan), .int (xst), .int (xhr), .int (xhb), .int (xse), .int (xbe), .ref a9, .ref b1, .ref b2, .ref b3, .ref b4, .ref b5, .ref b6, .ref b7, .ref b8, .ref c1, .ref c2, .ref c3, .ref c4, .ref c5, .ref c6, .ref c7, .int (xrg)])), (a5, .inl (tc 0, 520, .inl ww.1)), (a6, .inl (tc 0, 520, .inl ww.2)), (a7, .inl (tc 0, 560, .inl aa.1)), (a8, .inl (tc 0, 560, .inl aa.2))]) hx hb hw uw_MO tok_MO nn_MO hown hK hP hD hS 0 rfl rfl 0 (by decide) (hw _ wd_714) rfl rfl rfl (Nat.le_of_ble_eq_true rfl) d_MO_air_45 rfl (fun H locs hP hD hS => ?_)
                refine lv_aload_n hx hb d_MO_air_48 rfl (lv_at hl 0 rfl) ?_
                refine k_get hx hb hw uw_MO hown hK hP 0 rfl rfl 0 (by decide) (hw _ wd_714) rfl d_MO_air_49 ?_
                refine lv_if_le (tgt := 57) hx hb d_MO_air_52 (by decide) (fun h52 => ?_) (fun h52 => ?_)
                · refine lv_iconst (v := nI 0) hx hb d_MO_air_57 (by decide) ?_
                  refine lv_istore (lv' := [(4, .int (nI 0)), (0, .ref h0), (1, .int (nI ld)), (2, .int (nI ec)), (3, .int (nI tu))]) hx hb d_MO_air_58 hl (by decide) rfl (fun ls hl => ?_)
                  refine k_loop (P := fun k : Nat => ∀ (H : Heap) (locs : List Loc) (ls : Array Slot), lv_has ls 9 [(4, .int (nI k)), (0, .ref h0), (1, .int (nI ld)), (2, .int (nI ec)), (3, .int (nI tu))] → va_P D classes [(h0, .inr (8, [.int (nI 0), .int (nI nby), .ref a1, .int (xra), .int (nI ndb), .ref a2, .int (nI ncb), .ref a3, .ref a4, .int (nI nfr), .ref a5, .ref a6, .int (nI nsy), .int (nI nai), .ref a7, .ref a8, .int (xas), .int (xan), .int (xst), .int (xhr), .int (xhb), .int (xse), .int (xbe), .ref a9, .ref b1, .ref b2, .ref b3, .ref b4, .ref b5, .ref b6, .ref b7, .ref b8, .ref c1, .ref c2, .ref c3, .ref c4, .ref c5, .ref c6, .ref c7, .int (xrg)])), (a5, .inl (tc 0, 520, .inl ww.1)), (a6, .inl (tc 0, 520, .inl ww.2)), (a7, .inl (tc 0, 560, .inl (gF (fun _ => nI 0) aa.1 k))), (a8, .inl (tc 0, 560, .inl (gF (fun _ => nI 0) aa.2 k)))] H → va_D A [(h0, .inr (8, [.int (nI 0), .int (nI nby), .ref a1, .int (xra), .int (nI ndb), .ref a2, .int (nI ncb), .ref a3, .ref a4, .int (nI nfr), .ref a5, .ref a6, .int (nI nsy), .int (nI nai), .ref a7, .ref a8, .int (xas), .int (xan), .int (xst), .int (xhr), .int (xhb), .int (xse), .int (xbe), .ref a9, .ref b1, .ref b2, .ref b3, .ref b4, .ref b5, .ref b6, .ref b7, .ref b8, .ref c1, .ref c2, .ref c3, .ref c4, .ref c5, .ref c6, .ref c7, .int (xrg)])), (a5, .inl (tc 0, 520, .inl ww.1)), (a6, .inl (tc 0, 520, .inl ww.2)), (a7, .inl (tc 0, 560, .inl (gF (fun _ => nI 0) aa.1 k))), (a8, .inl (tc 0, 560, .inl (gF (fun _ => nI 0) aa.2 k)))] → va_S A s.heap H locs → W p l e R s m args below meth c H locs 0 0 Q (F0 m 60 ls [])) (ld) (fun k hk_k ih_k  H locs ls hl hP hD hS => ?_) (0) (by omega)   H locs ls (lv_sub hl [0, 1, 2, 3, 4] rfl) (by rw [gF_0, gF_0]; exact hP) (k_Ds hD [0, 1, 2, 3, 4] (by decide) rfl) hS
                  refine lv_iload hx hb d_MO_air_60 (lv_at hl 0 rfl) ?_
                  refine lv_iload_n hx hb d_MO_air_62 rfl (lv_at hl 2 rfl) ?_
                  refine k_icmp_ge (tgt := 88) hx hb d_MO_air_63 (by decide) (by omega) (by omega) (fun h63 => ?_) (fun h63 => ?_)
                  · obtain rfl : ld = k := by omega
                    refine lv_iconst (v := nI 0) hx hb d_MO_air_88 (by decide) ?_
                    refine lv_istore (lv' := [(4, .int (nI 0)), (0, .ref h0), (1, .int (nI ld)), (2, .int (nI ec)), (3, .int (nI tu))]) hx hb d_MO_air_89 hl (by decide) rfl (fun ls hl => ?_)
                    refine k_loop (P := fun i : Nat => ∀ (H : Heap) (locs : List Loc) (ls : Array Slot), lv_has ls 9 [(4, .int (nI i)), (0, .ref h0), (1, .int (nI ld)), (2, .int (nI ec)), (3, .int (nI tu))] → va_P D classes [(h0, .inr (8, [.int (nI 0), .int (nI nby), .ref a1, .int (xra), .int (nI ndb), .ref a2, .int (nI ncb), .ref a3, .ref a4, .int (nI nfr), .ref a5, .ref a6, .int (nI nsy), .int (nI nai), .ref a7, .ref a8, .int (xas), .int (xan), .int (xst), .int (xhr), .int (xhb), .int (xse), .int (xbe), .ref a9, .ref b1, .ref b2, .ref b3, .ref b4, .ref b5, .ref b6, .ref b7, .ref b8, .ref c1, .ref c2, .ref c3, .ref c4, .ref c5, .ref c6, .ref c7, .int (xrg)])), (a5, .inl (tc 0, 520, .inl ww.1)), (a6, .inl (tc 0, 520, .inl ww.2)), (a7, .inl (tc 0, 560, .inl ((arP ww ec tu ld (gF (fun _ => nI 0) aa.1 ld, gF (fun _ => nI 0) aa.2 ld) i).1))), (a8, .inl (tc 0, 560, .inl ((arP ww ec tu ld (gF (fun _ => nI 0) aa.1 ld, gF (fun _ => nI 0) aa.2 ld) i).2)))] H → va_D A [(h0, .inr (8, [.int (nI 0), .int (nI nby), .ref a1, .int (xra), .int (nI ndb), .ref a2, .int (nI ncb), .ref a3, .ref a4, .int (nI nfr), .ref a5, .ref a6, .int (nI nsy), .int (nI nai), .ref a7, .ref a8, .int (xas), .int (xan), .int (xst), .int (xhr), .int (xhb), .int (xse), .int (xbe), .ref a9, .ref b1, .ref b2, .ref b3, .ref b4, .ref b5, .ref b6, .ref b7, .ref b8, .ref c1, .ref c2, .ref c3, .ref c4, .ref c5, .ref c6, .ref c7, .int (xrg)])), (a5, .inl (tc 0, 520, .inl ww.1)), (a6, .inl (tc 0, 520, .inl ww.2)), (a7, .inl (tc 0, 560, .inl ((arP ww ec tu ld (gF (fun _ => nI 0) aa.1 ld, gF (fun _ => nI 0) aa.2 ld) i).1))), (a8, .inl (tc 0, 560, .inl ((arP ww ec tu ld (gF (fun _ => nI 0) aa.1 ld, gF (fun _ => nI 0) aa.2 ld) i).2)))] → va_S A s.heap H locs → W p l e R s m args below meth c H locs 0 0 Q (F0 m 91 ls [])) (nfr) (fun i hk_i ih_i  H locs ls hl hP hD hS => ?_) (0) (by omega)   H locs ls (lv_sub hl [0, 1, 2, 3, 4] rfl) (by rw [arP_0]; exact hP) (k_Ds hD [0, 1, 2, 3, 4] (by decide) rfl) hS
                    refine lv_iload hx hb d_MO_air_91 (lv_at hl 0 rfl) ?_
                    refine lv_aload_n hx hb d_MO_air_93 rfl (lv_at hl 1 rfl) ?_
                    refine k_get hx hb hw uw_MO hown hK hP 0 rfl rfl 9 (by decide) (hw _ wd_723) rfl d_MO_air_94 ?_
                    refine k_icmp_ge (tgt := 222) hx hb d_MO_air_97 (by decide) (by omega) (by omega) (fun h97 => ?_) (fun h97 => ?_)
                    · obtain rfl : nfr = i := by omega
                      refine lv_aload_n hx hb d_MO_air_222 rfl (lv_at hl 1 rfl) ?_
                      refine lv_iload_n hx hb d_MO_air_223 rfl (lv_at hl 2 rfl) ?_
                      refine lv_aload_n hx hb d_MO_air_224 rfl (lv_at hl 1 rfl) ?_
                      refine k_get hx hb hw uw_MO hown hK hP 0 rfl rfl 9 (by decide) (hw _ wd_723) rfl d_MO_air_225 ?_
                      refine k_iadd hx hb d_MO_air_228 ?_
                      refine k_put (ws' := [(h0, .inr (8, [.int (nI 0), .int (nI nby), .ref a1, .int (xra), .int (nI ndb), .ref a2, .int (nI ncb), .ref a3, .ref a4, .int (nI nfr), .ref a5, .ref a6, .int (nI nsy), .int (nI (ld + nfr)), .ref a7, .ref a8, .int (xas), .int (xan), .int (xst), .int (xhr), .int (xhb), .int (xse), .int (xbe), .ref a9, .ref b1, .ref b2, .ref b3, .ref b4, .ref b5, .ref b6, .ref b7, .ref b8, .ref c1, .ref c2, .ref c3, .ref c4, .ref c5, .ref c6, .ref c7, .int (xrg)])), (a5, .inl (tc 0, 520, .inl ww.1)), (a6, .inl (tc 0, 520, .inl ww.2)), (a7, .inl (tc 0, 560, .inl ((arP ww ec tu ld (gF (fun _ => nI 0) aa.1 ld, gF (fun _ => nI 0) aa.2 ld) nfr).1))), (a8, .inl (tc 0, 560, .inl ((arP ww ec tu ld (gF (fun _ => nI 0) aa.1 ld, gF (fun _ => nI 0) aa.2 ld) nfr).2)))]) hx hb hw uw_MO tok_MO nn_MO hown hK hP hD hS 0 rfl rfl 13 (by decide) (hw _ wd_727) rfl rfl rfl (Nat.le_of_ble_eq_true rfl) d_MO_air_229 rfl (fun H locs hP hD hS => ?_)
                      refine lv_aload_n hx hb d_MO_air_232 rfl (lv_at hl 1 rfl) ?_
                      refine k_get hx hb hw uw_MO hown hK hP 0 rfl rfl 13 (by decide) (hw _ wd_727) rfl d_MO_air_233 ?_
                      rw [hQ]
                      exact k_iret () hx hb hr hlk hK hP hD hS [0, 1, 2, 3, 4] (by decide) rfl trivial rfl d_MO_air_236
                    · refine lv_aload_n hx hb d_MO_air_100 rfl (lv_at hl 1 rfl) ?_
                      refine k_get hx hb hw uw_MO hown hK hP 0 rfl rfl 10 (by decide) (hw _ wd_724) rfl d_MO_air_101 ?_
                      refine lv_iload hx hb d_MO_air_104 (lv_at hl 0 rfl) ?_
                      refine k_iald hx hb hK hP 1 0 rfl rfl (by omega) (by omega) d_MO_air_106 ?_
                      refine lv_istore (lv' := [(5, .int (ww.1 i)), (4, .int (nI i)), (0, .ref h0), (1, .int (nI ld)), (2, .int (nI ec)), (3, .int (nI tu))]) hx hb d_MO_air_107 hl (by decide) rfl (fun ls hl => ?_)
                      refine lv_aload_n hx hb d_MO_air_109 rfl (lv_at hl 2 rfl) ?_
                      refine k_get hx hb hw uw_MO hown hK hP 0 rfl rfl 11 (by decide) (hw _ wd_725) rfl d_MO_air_110 ?_
                      refine lv_iload hx hb d_MO_air_113 (lv_at hl 1 rfl) ?_
                      refine k_iald hx hb hK hP 2 0 rfl rfl (by omega) (by omega) d_MO_air_115 ?_
                      refine lv_istore (lv' := [(6, .int (ww.2 i)), (5, .int (ww.1 i)), (4, .int (nI i)), (0, .ref h0), (1, .int (nI ld)), (2, .int (nI ec)), (3, .int (nI tu))]) hx hb d_MO_air_116 hl (by decide) rfl (fun ls hl => ?_)
                      refine lv_iload_n hx hb d_MO_air_118 rfl (lv_at hl 5 rfl) ?_
                      refine lv_if_le (tgt := 160) hx hb d_MO_air_119 (by decide) (fun h119 => ?_) (fun h119 => ?_)
                      · have hl := lv_cg2m hl (ec_0 ww.1 i h119 (by omega)) (ec_0 ww.2 i h119 (by omega))
                        refine lv_iconst (v := nI 0) hx hb d_MO_air_160 (by decide) ?_
                        refine lv_istore (lv' := [(7, .int (nI 0)), (6, .int (ecF ww.2 ec i)), (5, .int (ecF ww.1 ec i)), (4, .int (nI i)), (0, .ref h0), (1, .int (nI ld)), (2, .int (nI ec)), (3, .int (nI tu))]) hx hb d_MO_air_161 hl (by decide) rfl (fun ls hl => ?_)
                        refine k_loop (P := fun t : Nat => ∀ (H : Heap) (locs : List Loc) (ls : Array Slot), lv_has ls 9 [(7, .int (nI t)), (6, .int ((tnF (ecF ww.1 ec i, ecF ww.2 ec i) t).2)), (5, .int ((tnF (ecF ww.1 ec i, ecF ww.2 ec i) t).1)), (4, .int (nI i)), (0, .ref h0), (1, .int (nI ld)), (2, .int (nI ec)), (3, .int (nI tu))] → va_P D classes [(h0, .inr (8, [.int (nI 0), .int (nI nby), .ref a1, .int (xra), .int (nI ndb), .ref a2, .int (nI ncb), .ref a3, .ref a4, .int (nI nfr), .ref a5, .ref a6, .int (nI nsy), .int (nI nai), .ref a7, .ref a8, .int (xas), .int (xan), .int (xst), .int (xhr), .int (xhb), .int (xse), .int (xbe), .ref a9, .ref b1, .ref b2, .ref b3, .ref b4, .ref b5, .ref b6, .ref b7, .ref b8, .ref c1, .ref c2, .ref c3, .ref c4, .ref c5, .ref c6, .ref c7, .int (xrg)])), (a5, .inl (tc 0, 520, .inl ww.1)), (a6, .inl (tc 0, 520, .inl ww.2)), (a7, .inl (tc 0, 560, .inl ((arP ww ec tu ld (gF (fun _ => nI 0) aa.1 ld, gF (fun _ => nI 0) aa.2 ld) i).1))), (a8, .inl (tc 0, 560, .inl ((arP ww ec tu ld (gF (fun _ => nI 0) aa.1 ld, gF (fun _ => nI 0) aa.2 ld) i).2)))] H → va_D A [(h0, .inr (8, [.int (nI 0), .int (nI nby), .ref a1, .int (xra), .int (nI ndb), .ref a2, .int (nI ncb), .ref a3, .ref a4, .int (nI nfr), .ref a5, .ref a6, .int (nI nsy), .int (nI nai), .ref a7, .ref a8, .int (xas), .int (xan), .int (xst), .int (xhr), .int (xhb), .int (xse), .int (xbe), .ref a9, .ref b1, .ref b2, .ref b3, .ref b4, .ref b5, .ref b6, .ref b7, .ref b8, .ref c1, .ref c2, .ref c3, .ref c4, .ref c5, .ref c6, .ref c7, .int (xrg)])), (a5, .inl (tc 0, 520, .inl ww.1)), (a6, .inl (tc 0, 520, .inl ww.2)), (a7, .inl (tc 0, 560, .inl ((arP ww ec tu ld (gF (fun _ => nI 0) aa.1 ld, gF (fun _ => nI 0) aa.2 ld) i).1))), (a8, .inl (tc 0, 560, .inl ((arP ww ec tu ld (gF (fun _ => nI 0) aa.1 ld, gF (fun _ => nI 0) aa.2 ld) i).2)))] → va_S A s.heap H locs → W p l e R s m args below meth c H locs 0 0 Q (F0 m 163 ls [])) (tu) (fun t hk_t ih_t  H locs ls hl hP hD hS => ?_) (0) (by omega)   H locs ls (lv_sub hl [0, 1, 2, 3, 4, 5, 6, 7] rfl) (by exact hP) (k_Ds hD [0, 1, 2, 3, 4] (by decide) rfl) hS
                        refine lv_iload hx hb d_MO_air_163 (lv_at hl 0 rfl) ?_
                        refine lv_iload_n hx hb d_MO_air_165 rfl (lv_at hl 7 rfl) ?_
                        refine k_icmp_ge (tgt := 188) hx hb d_MO_air_166 (by decide) (by omega) (by omega) (fun h166 => ?_) (fun h166 => ?_)
                        · obtain rfl : tu = t := by omega
                          refine lv_aload_n hx hb d_MO_air_188 rfl (lv_at hl 4 rfl) ?_
                          refine k_get hx hb hw uw_MO hown hK hP 0 rfl rfl 14 (by decide) (hw _ wd_728) rfl d_MO_air_189 ?_
                          refine lv_iload_n hx hb d_MO_air_192 rfl (lv_at hl 5 rfl) ?_
                          refine lv_iload hx hb d_MO_air_193 (lv_at hl 3 rfl) ?_
                          refine k_iadd hx hb d_MO_air_195 ?_
                          refine lv_iload hx hb d_MO_air_196 (lv_at hl 2 rfl) ?_
                          refine k_calli (wr := [(h0, .inr (8, [.int (nI 0), .int (nI nby), .ref a1, .int (xra), .int (nI ndb), .ref a2, .int (nI ncb), .ref a3, .ref a4, .int (nI nfr), .ref a5, .ref a6, .int (nI nsy), .int (nI nai), .ref a7, .ref a8, .int (xas), .int (xan), .int (xst), .int (xhr), .int (xhb), .int (xse), .int (xbe), .ref a9, .ref b1, .ref b2, .ref b3, .ref b4, .ref b5, .ref b6, .ref b7, .ref b8, .ref c1, .ref c2, .ref c3, .ref c4, .ref c5, .ref c6, .ref c7, .int (xrg)])), (a5, .inl (tc 0, 520, .inl ww.1)), (a6, .inl (tc 0, 520, .inl ww.2)), (a7, .inl (tc 0, 560, .inl ((arP ww ec tu ld (gF (fun _ => nI 0) aa.1 ld, gF (fun _ => nI 0) aa.2 ld) i).1))), (a8, .inl (tc 0, 560, .inl ((arP ww ec tu ld (gF (fun _ => nI 0) aa.1 ld, gF (fun _ => nI 0) aa.2 ld) i).2)))]) (k_runS (As := [.int ((tnF (ecF ww.1 ec i, ecF ww.2 ec i) tu).1)]) (rest := [.int (nI (ld + i)), .ref a7]) (wc := []) ⟨hx, hb, hml, hown, hts⟩ (c_MO_saturate l D tc tb ((tnF (ecF ww.1 ec i, ecF ww.2 ec i) tu).1)  H.size) (va_cwS 1 hts (k_goodS wd_856 wd_857 wd_11 wd_858) rfl rfl rfl hd_MO_saturate ⟨by rw [hR]; exact Nat.le_of_ble_eq_true rfl, by rw [hR]; exact Nat.le_of_ble_eq_true rfl⟩) hK hP hD hS hST hN hA [] (by decide) rfl rfl hl.1 rfl (Nat.le_of_ble_eq_true rfl) d_MO_air_198 ⟨by rw [hR]; exact Nat.le_of_ble_eq_true rfl, by rw [hR]; exact Nat.le_of_ble_eq_true rfl⟩) hP hD hS hA [] [0, 1, 2, 3, 4] rfl rfl (by decide) (by decide) (fun _ H locs hp198 hP hD hS => ?_)
                          have hP : va_P D classes [(h0, .inr (8, [.int (nI 0), .int (nI nby), .ref a1, .int (xra), .int (nI ndb), .ref a2, .int (nI ncb), .ref a3, .ref a4, .int (nI nfr), .ref a5, .ref a6, .int (nI nsy), .int (nI nai), .ref a7, .ref a8, .int (xas), .int (xan), .int (xst), .int (xhr), .int (xhb), .int (xse), .int (xbe), .ref a9, .ref b1, .ref b2, .ref b3, .ref b4, .ref b5, .ref b6, .ref b7, .ref b8, .ref c1, .ref c2, .ref c3, .ref c4, .ref c5, .ref c6, .ref c7, .int (xrg)])), (a5, .inl (tc 0, 520, .inl ww.1)), (a6, .inl (tc 0, 520, .inl ww.2)), (a7, .inl (tc 0, 560, .inl ((arP ww ec tu ld (gF (fun _ => nI 0) aa.1 ld, gF (fun _ => nI 0) aa.2 ld) i).1))), (a8, .inl (tc 0, 560, .inl ((arP ww ec tu ld (gF (fun _ => nI 0) aa.1 ld, gF (fun _ => nI 0) aa.2 ld) i).2)))] H := hP
                          have hD : va_D A [(h0, .inr (8, [.int (nI 0), .int (nI nby), .ref a1, .int (xra), .int (nI ndb), .ref a2, .int (nI ncb), .ref a3, .ref a4, .int (nI nfr), .ref a5, .ref a6, .int (nI nsy), .int (nI nai), .ref a7, .ref a8, .int (xas), .int (xan), .int (xst), .int (xhr), .int (xhb), .int (xse), .int (xbe), .ref a9, .ref b1, .ref b2, .ref b3, .ref b4, .ref b5, .ref b6, .ref b7, .ref b8, .ref c1, .ref c2, .ref c3, .ref c4, .ref c5, .ref c6, .ref c7, .int (xrg)])), (a5, .inl (tc 0, 520, .inl ww.1)), (a6, .inl (tc 0, 520, .inl ww.2)), (a7, .inl (tc 0, 560, .inl ((arP ww ec tu ld (gF (fun _ => nI 0) aa.1 ld, gF (fun _ => nI 0) aa.2 ld) i).1))), (a8, .inl (tc 0, 560, .inl ((arP ww ec tu ld (gF (fun _ => nI 0) aa.1 ld, gF (fun _ => nI 0) aa.2 ld) i).2)))] := hD
                          refine W.widen (k := 0) (n := 0) (Nat.le_of_ble_eq_true rfl) (Nat.le_of_ble_eq_true rfl) ?_
                          refine W.eq (g2 := F0 m 201 ls [.int (satF ((tnF (ecF ww.1 ec i, ecF ww.2 ec i) tu).1)), .int (nI (ld + i)), .ref a7]) rfl ?_
                          refine k_topi (y := satF (eaF ww ec tu i).1) rfl ?_
                          refine k_iast (ws' := [(h0, .inr (8, [.int (nI 0), .int (nI nby), .ref a1, .int (xra), .int (nI ndb), .ref a2, .int (nI ncb), .ref a3, .ref a4, .int (nI nfr), .ref a5, .ref a6, .int (nI nsy), .int (nI nai), .ref a7, .ref a8, .int (xas), .int (xan), .int (xst), .int (xhr), .int (xhb), .int (xse), .int (xbe), .ref a9, .ref b1, .ref b2, .ref b3, .ref b4, .ref b5, .ref b6, .ref b7, .ref b8, .ref c1, .ref c2, .ref c3, .ref c4, .ref c5, .ref c6, .ref c7, .int (xrg)])), (a5, .inl (tc 0, 520, .inl ww.1)), (a6, .inl (tc 0, 520, .inl ww.2)), (a7, .inl (tc 0, 560, .inl (upd ((arP ww ec tu ld (gF (fun _ => nI 0) aa.1 ld, gF (fun _ => nI 0) aa.2 ld) i).1) (ld + i) (satF (eaF ww ec tu i).1)))), (a8, .inl (tc 0, 560, .inl ((arP ww ec tu ld (gF (fun _ => nI 0) aa.1 ld, gF (fun _ => nI 0) aa.2 ld) i).2)))]) hx hb hK hP hD hS 3 0 rfl rfl (by omega) (by omega) d_MO_air_201 rfl (fun H locs hP hD hS => ?_)
                          refine lv_aload_n hx hb d_MO_air_202 rfl (lv_at hl 4 rfl) ?_
                          refine k_get hx hb hw uw_MO hown hK hP 0 rfl rfl 15 (by decide) (hw _ wd_729) rfl d_MO_air_203 ?_
                          refine lv_iload_n hx hb d_MO_air_206 rfl (lv_at hl 5 rfl) ?_
                          refine lv_iload hx hb d_MO_air_207 (lv_at hl 3 rfl) ?_
                          refine k_iadd hx hb d_MO_air_209 ?_
                          refine lv_iload hx hb d_MO_air_210 (lv_at hl 1 rfl) ?_
                          refine k_calli (wr := [(h0, .inr (8, [.int (nI 0), .int (nI nby), .ref a1, .int (xra), .int (nI ndb), .ref a2, .int (nI ncb), .ref a3, .ref a4, .int (nI nfr), .ref a5, .ref a6, .int (nI nsy), .int (nI nai), .ref a7, .ref a8, .int (xas), .int (xan), .int (xst), .int (xhr), .int (xhb), .int (xse), .int (xbe), .ref a9, .ref b1, .ref b2, .ref b3, .ref b4, .ref b5, .ref b6, .ref b7, .ref b8, .ref c1, .ref c2, .ref c3, .ref c4, .ref c5, .ref c6, .ref c7, .int (xrg)])), (a5, .inl (tc 0, 520, .inl ww.1)), (a6, .inl (tc 0, 520, .inl ww.2)), (a7, .inl (tc 0, 560, .inl (upd ((arP ww ec tu ld (gF (fun _ => nI 0) aa.1 ld, gF (fun _ => nI 0) aa.2 ld) i).1) (ld + i) (satF (eaF ww ec tu i).1)))), (a8, .inl (tc 0, 560, .inl ((arP ww ec tu ld (gF (fun _ => nI 0) aa.1 ld, gF (fun _ => nI 0) aa.2 ld) i).2)))]) (k_runS (As := [.int ((tnF (ecF ww.1 ec i, ecF ww.2 ec i) tu).2)]) (rest := [.int (nI (ld + i)), .ref a8]) (wc := []) ⟨hx, hb, hml, hown, hts⟩ (c_MO_saturate l D tc tb ((tnF (ecF ww.1 ec i, ecF ww.2 ec i) tu).2)  H.size) (va_cwS 1 hts (k_goodS wd_856 wd_857 wd_11 wd_858) rfl rfl rfl hd_MO_saturate ⟨by rw [hR]; exact Nat.le_of_ble_eq_true rfl, by rw [hR]; exact Nat.le_of_ble_eq_true rfl⟩) hK hP hD hS hST hN hA [] (by decide) rfl rfl hl.1 rfl (Nat.le_of_ble_eq_true rfl) d_MO_air_212 ⟨by rw [hR]; exact Nat.le_of_ble_eq_true rfl, by rw [hR]; exact Nat.le_of_ble_eq_true rfl⟩) hP hD hS hA [] [0, 1, 2, 3, 4] rfl rfl (by decide) (by decide) (fun _ H locs hp212 hP hD hS => ?_)
                          have hP : va_P D classes [(h0, .inr (8, [.int (nI 0), .int (nI nby), .ref a1, .int (xra), .int (nI ndb), .ref a2, .int (nI ncb), .ref a3, .ref a4, .int (nI nfr), .ref a5, .ref a6, .int (nI nsy), .int (nI nai), .ref a7, .ref a8, .int (xas), .int (xan), .int (xst), .int (xhr), .int (xhb), .int (xse), .int (xbe), .ref a9, .ref b1, .ref b2, .ref b3, .ref b4, .ref b5, .ref b6, .ref b7, .ref b8, .ref c1, .ref c2, .ref c3, .ref c4, .ref c5, .ref c6, .ref c7, .int (xrg)])), (a5, .inl (tc 0, 520, .inl ww.1)), (a6, .inl (tc 0, 520, .inl ww.2)), (a7, .inl (tc 0, 560, .inl (upd ((arP ww ec tu ld (gF (fun _ => nI 0) aa.1 ld, gF (fun _ => nI 0) aa.2 ld) i).1) (ld + i) (satF (eaF ww ec tu i).1)))), (a8, .inl (tc 0, 560, .inl ((arP ww ec tu ld (gF (fun _ => nI 0) aa.1 ld, gF (fun _ => nI 0) aa.2 ld) i).2)))] H := hP
                          have hD : va_D A [(h0, .inr (8, [.int (nI 0), .int (nI nby), .ref a1, .int (xra), .int (nI ndb), .ref a2, .int (nI ncb), .ref a3, .ref a4, .int (nI nfr), .ref a5, .ref a6, .int (nI nsy), .int (nI nai), .ref a7, .ref a8, .int (xas), .int (xan), .int (xst), .int (xhr), .int (xhb), .int (xse), .int (xbe), .ref a9, .ref b1, .ref b2, .ref b3, .ref b4, .ref b5, .ref b6, .ref b7, .ref b8, .ref c1, .ref c2, .ref c3, .ref c4, .ref c5, .ref c6, .ref c7, .int (xrg)])), (a5, .inl (tc 0, 520, .inl ww.1)), (a6, .inl (tc 0, 520, .inl ww.2)), (a7, .inl (tc 0, 560, .inl (upd ((arP ww ec tu ld (gF (fun _ => nI 0) aa.1 ld, gF (fun _ => nI 0) aa.2 ld) i).1) (ld + i) (satF (eaF ww ec tu i).1)))), (a8, .inl (tc 0, 560, .inl ((arP ww ec tu ld (gF (fun _ => nI 0) aa.1 ld, gF (fun _ => nI 0) aa.2 ld) i).2)))] := hD
                          refine W.widen (k := 0) (n := 0) (Nat.le_of_ble_eq_true rfl) (Nat.le_of_ble_eq_true rfl) ?_
                          refine W.eq (g2 := F0 m 215 ls [.int (satF ((tnF (ecF ww.1 ec i, ecF ww.2 ec i) tu).2)), .int (nI (ld + i)), .ref a8]) rfl ?_
                          refine k_topi (y := satF (eaF ww ec tu i).2) rfl ?_
                          refine k_iast (ws' := [(h0, .inr (8, [.int (nI 0), .int (nI nby), .ref a1, .int (xra), .int (nI ndb), .ref a2, .int (nI ncb), .ref a3, .ref a4, .int (nI nfr), .ref a5, .ref a6, .int (nI nsy), .int (nI nai), .ref a7, .ref a8, .int (xas), .int (xan), .int (xst), .int (xhr), .int (xhb), .int (xse), .int (xbe), .ref a9, .ref b1, .ref b2, .ref b3, .ref b4, .ref b5, .ref b6, .ref b7, .ref b8, .ref c1, .ref c2, .ref c3, .ref c4, .ref c5, .ref c6, .ref c7, .int (xrg)])), (a5, .inl (tc 0, 520, .inl ww.1)), (a6, .inl (tc 0, 520, .inl ww.2)), (a7, .inl (tc 0, 560, .inl (upd ((arP ww ec tu ld (gF (fun _ => nI 0) aa.1 ld, gF (fun _ => nI 0) aa.2 ld) i).1) (ld + i) (satF (eaF ww ec tu i).1)))), (a8, .inl (tc 0, 560, .inl (upd ((arP ww ec tu ld (gF (fun _ => nI 0) aa.1 ld, gF (fun _ => nI 0) aa.2 ld) i).2) (ld + i) (satF (eaF ww ec tu i).2))))]) hx hb hK hP hD hS 4 0 rfl rfl (by omega) (by omega) d_MO_air_215 rfl (fun H locs hP hD hS => ?_)
                          refine lv_iinc (k := 3) (v := nI (i + 1)) (lv' := [(4, .int (nI (i + 1))), (7, .int (nI tu)), (6, .int ((tnF (ecF ww.1 ec i, ecF ww.2 ec i) tu).2)), (5, .int ((tnF (ecF ww.1 ec i, ecF ww.2 ec i) tu).1)), (0, .ref h0), (1, .int (nI ld)), (2, .int (nI ec)), (3, .int (nI tu))]) hx hb d_MO_air_216 hl rfl (k_incN _ 1) (by decide) rfl (fun ls hl => ?_)
                          refine lv_goto (tgt := 91) hx hb d_MO_air_219 (by decide) ?_
                          exact ih_i (by omega)   H locs ls (lv_sub hl [0, 4, 5, 6, 7] rfl) (by rw [arP_s]; exact hP) (k_Ds hD [0, 1, 2, 3, 4] (by decide) rfl) hS
                        · refine lv_iload hx hb d_MO_air_169 (lv_at hl 2 rfl) ?_
                          refine lv_istore (lv' := [(8, .int ((tnF (ecF ww.1 ec i, ecF ww.2 ec i) t).1)), (7, .int (nI t)), (6, .int ((tnF (ecF ww.1 ec i, ecF ww.2 ec i) t).2)), (5, .int ((tnF (ecF ww.1 ec i, ecF ww.2 ec i) t).1)), (4, .int (nI i)), (0, .ref h0), (1, .int (nI ld)), (2, .int (nI ec)), (3, .int (nI tu))]) hx hb d_MO_air_171 hl (by decide) rfl (fun ls hl => ?_)
                          refine lv_iload hx hb d_MO_air_173 (lv_at hl 2 rfl) ?_
                          refine lv_ineg hx hb d_MO_air_175 ?_
                          refine lv_istore (lv' := [(5, .int (-((tnF (ecF ww.1 ec i, ecF ww.2 ec i) t).2))), (8, .int ((tnF (ecF ww.1 ec i, ecF ww.2 ec i) t).1)), (7, .int (nI t)), (6, .int ((tnF (ecF ww.1 ec i, ecF ww.2 ec i) t).2)), (4, .int (nI i)), (0, .ref h0), (1, .int (nI ld)), (2, .int (nI ec)), (3, .int (nI tu))]) hx hb d_MO_air_176 hl (by decide) rfl (fun ls hl => ?_)
                          refine lv_iload hx hb d_MO_air_178 (lv_at hl 1 rfl) ?_
                          refine lv_istore (lv' := [(6, .int ((tnF (ecF ww.1 ec i, ecF ww.2 ec i) t).1)), (5, .int (-((tnF (ecF ww.1 ec i, ecF ww.2 ec i) t).2))), (8, .int ((tnF (ecF ww.1 ec i, ecF ww.2 ec i) t).1)), (7, .int (nI t)), (4, .int (nI i)), (0, .ref h0), (1, .int (nI ld)), (2, .int (nI ec)), (3, .int (nI tu))]) hx hb d_MO_air_180 hl (by decide) rfl (fun ls hl => ?_)
                          refine lv_iinc (k := 3) (v := nI (t + 1)) (lv' := [(7, .int (nI (t + 1))), (6, .int ((tnF (ecF ww.1 ec i, ecF ww.2 ec i) t).1)), (5, .int (-((tnF (ecF ww.1 ec i, ecF ww.2 ec i) t).2))), (8, .int ((tnF (ecF ww.1 ec i, ecF ww.2 ec i) t).1)), (4, .int (nI i)), (0, .ref h0), (1, .int (nI ld)), (2, .int (nI ec)), (3, .int (nI tu))]) hx hb d_MO_air_182 hl rfl (k_incN _ 1) (by decide) rfl (fun ls hl => ?_)
                          refine lv_goto (tgt := 163) hx hb d_MO_air_185 (by decide) ?_
                          exact ih_t (by omega)   H locs ls (lv_sub hl [0, 1, 2, 4, 5, 6, 7, 8] rfl) (by exact hP) (k_Ds hD [0, 1, 2, 3, 4] (by decide) rfl) hS
                      · refine lv_iload hx hb d_MO_air_122 (lv_at hl 2 rfl) ?_
                        refine lv_iload_n hx hb d_MO_air_124 rfl (lv_at hl 5 rfl) ?_
                        refine k_icmp_lt (tgt := 160) hx hb d_MO_air_125 (by decide) (by omega) (by omega) (fun h125 => ?_) (fun h125 => ?_)
                        · have hl := lv_cg2m hl (ec_1 ww.1 h125) (ec_1 ww.2 h125)
                          refine lv_iconst (v := nI 0) hx hb d_MO_air_160 (by decide) ?_
                          refine lv_istore (lv' := [(7, .int (nI 0)), (6, .int (ecF ww.2 ec i)), (5, .int (ecF ww.1 ec i)), (4, .int (nI i)), (0, .ref h0), (1, .int (nI ld)), (2, .int (nI ec)), (3, .int (nI tu))]) hx hb d_MO_air_161 hl (by decide) rfl (fun ls hl => ?_)
                          refine k_loop (P := fun t : Nat => ∀ (H : Heap) (locs : List Loc) (ls : Array Slot), lv_has ls 9 [(7, .int (nI t)), (6, .int ((tnF (ecF ww.1 ec i, ecF ww.2 ec i) t).2)), (5, .int ((tnF (ecF ww.1 ec i, ecF ww.2 ec i) t).1)), (4, .int (nI i)), (0, .ref h0), (1, .int (nI ld)), (2, .int (nI ec)), (3, .int (nI tu))] → va_P D classes [(h0, .inr (8, [.int (nI 0), .int (nI nby), .ref a1, .int (xra), .int (nI ndb), .ref a2, .int (nI ncb), .ref a3, .ref a4, .int (nI nfr), .ref a5, .ref a6, .int (nI nsy), .int (nI nai), .ref a7, .ref a8, .int (xas), .int (xan), .int (xst), .int (xhr), .int (xhb), .int (xse), .int (xbe), .ref a9, .ref b1, .ref b2, .ref b3, .ref b4, .ref b5, .ref b6, .ref b7, .ref b8, .ref c1, .ref c2, .ref c3, .ref c4, .ref c5, .ref c6, .ref c7, .int (xrg)])), (a5, .inl (tc 0, 520, .inl ww.1)), (a6, .inl (tc 0, 520, .inl ww.2)), (a7, .inl (tc 0, 560, .inl ((arP ww ec tu ld (gF (fun _ => nI 0) aa.1 ld, gF (fun _ => nI 0) aa.2 ld) i).1))), (a8, .inl (tc 0, 560, .inl ((arP ww ec tu ld (gF (fun _ => nI 0) aa.1 ld, gF (fun _ => nI 0) aa.2 ld) i).2)))] H → va_D A [(h0, .inr (8, [.int (nI 0), .int (nI nby), .ref a1, .int (xra), .int (nI ndb), .ref a2, .int (nI ncb), .ref a3, .ref a4, .int (nI nfr), .ref a5, .ref a6, .int (nI nsy), .int (nI nai), .ref a7, .ref a8, .int (xas), .int (xan), .int (xst), .int (xhr), .int (xhb), .int (xse), .int (xbe), .ref a9, .ref b1, .ref b2, .ref b3, .ref b4, .ref b5, .ref b6, .ref b7, .ref b8, .ref c1, .ref c2, .ref c3, .ref c4, .ref c5, .ref c6, .ref c7, .int (xrg)])), (a5, .inl (tc 0, 520, .inl ww.1)), (a6, .inl (tc 0, 520, .inl ww.2)), (a7, .inl (tc 0, 560, .inl ((arP ww ec tu ld (gF (fun _ => nI 0) aa.1 ld, gF (fun _ => nI 0) aa.2 ld) i).1))), (a8, .inl (tc 0, 560, .inl ((arP ww ec tu ld (gF (fun _ => nI 0) aa.1 ld, gF (fun _ => nI 0) aa.2 ld) i).2)))] → va_S A s.heap H locs → W p l e R s m args below meth c H locs 0 0 Q (F0 m 163 ls [])) (tu) (fun t hk_t ih_t  H locs ls hl hP hD hS => ?_) (0) (by omega)   H locs ls (lv_sub hl [0, 1, 2, 3, 4, 5, 6, 7] rfl) (by exact hP) (k_Ds hD [0, 1, 2, 3, 4] (by decide) rfl) hS
                          refine lv_iload hx hb d_MO_air_163 (lv_at hl 0 rfl) ?_
                          refine lv_iload_n hx hb d_MO_air_165 rfl (lv_at hl 7 rfl) ?_
                          refine k_icmp_ge (tgt := 188) hx hb d_MO_air_166 (by decide) (by omega) (by omega) (fun h166 => ?_) (fun h166 => ?_)
                          · obtain rfl : tu = t := by omega
                            refine lv_aload_n hx hb d_MO_air_188 rfl (lv_at hl 4 rfl) ?_
                            refine k_get hx hb hw uw_MO hown hK hP 0 rfl rfl 14 (by decide) (hw _ wd_728) rfl d_MO_air_189 ?_
                            refine lv_iload_n hx hb d_MO_air_192 rfl (lv_at hl 5 rfl) ?_
                            refine lv_iload hx hb d_MO_air_193 (lv_at hl 3 rfl) ?_
                            refine k_iadd hx hb d_MO_air_195 ?_
                            refine lv_iload hx hb d_MO_air_196 (lv_at hl 2 rfl) ?_
                            refine k_calli (wr := [(h0, .inr (8, [.int (nI 0), .int (nI nby), .ref a1, .int (xra), .int (nI ndb), .ref a2, .int (nI ncb), .ref a3, .ref a4, .int (nI nfr), .ref a5, .ref a6, .int (nI nsy), .int (nI nai), .ref a7, .ref a8, .int (xas), .int (xan), .int (xst), .int (xhr), .int (xhb), .int (xse), .int (xbe), .ref a9, .ref b1, .ref b2, .ref b3, .ref b4, .ref b5, .ref b6, .ref b7, .ref b8, .ref c1, .ref c2, .ref c3, .ref c4, .ref c5, .ref c6, .ref c7, .int (xrg)])), (a5, .inl (tc 0, 520, .inl ww.1)), (a6, .inl (tc 0, 520, .inl ww.2)), (a7, .inl (tc 0, 560, .inl ((arP ww ec tu ld (gF (fun _ => nI 0) aa.1 ld, gF (fun _ => nI 0) aa.2 ld) i).1))), (a8, .inl (tc 0, 560, .inl ((arP ww ec tu ld (gF (fun _ => nI 0) aa.1 ld, gF (fun _ => nI 0) aa.2 ld) i).2)))]) (k_runS (As := [.int ((tnF (ecF ww.1 ec i, ecF ww.2 ec i) tu).1)]) (rest := [.int (nI (ld + i)), .ref a7]) (wc := []) ⟨hx, hb, hml, hown, hts⟩ (c_MO_saturate l D tc tb ((tnF (ecF ww.1 ec i, ecF ww.2 ec i) tu).1)  H.size) (va_cwS 1 hts (k_goodS wd_856 wd_857 wd_11 wd_858) rfl rfl rfl hd_MO_saturate ⟨by rw [hR]; exact Nat.le_of_ble_eq_true rfl, by rw [hR]; exact Nat.le_of_ble_eq_true rfl⟩) hK hP hD hS hST hN hA [] (by decide) rfl rfl hl.1 rfl (Nat.le_of_ble_eq_true rfl) d_MO_air_198 ⟨by rw [hR]; exact Nat.le_of_ble_eq_true rfl, by rw [hR]; exact Nat.le_of_ble_eq_true rfl⟩) hP hD hS hA [] [0, 1, 2, 3, 4] rfl rfl (by decide) (by decide) (fun _ H locs hp198 hP hD hS => ?_)
                            have hP : va_P D classes [(h0, .inr (8, [.int (nI 0), .int (nI nby), .ref a1, .int (xra), .int (nI ndb), .ref a2, .int (nI ncb), .ref a3, .ref a4, .int (nI nfr), .ref a5, .ref a6, .int (nI nsy), .int (nI nai), .ref a7, .ref a8, .int (xas), .int (xan), .int (xst), .int (xhr), .int (xhb), .int (xse), .int (xbe), .ref a9, .ref b1, .ref b2, .ref b3, .ref b4, .ref b5, .ref b6, .ref b7, .ref b8, .ref c1, .ref c2, .ref c3, .ref c4, .ref c5, .ref c6, .ref c7, .int (xrg)])), (a5, .inl (tc 0, 520, .inl ww.1)), (a6, .inl (tc 0, 520, .inl ww.2)), (a7, .inl (tc 0, 560, .inl ((arP ww ec tu ld (gF (fun _ => nI 0) aa.1 ld, gF (fun _ => nI 0) aa.2 ld) i).1))), (a8, .inl (tc 0, 560, .inl ((arP ww ec tu ld (gF (fun _ => nI 0) aa.1 ld, gF (fun _ => nI 0) aa.2 ld) i).2)))] H := hP
                            have hD : va_D A [(h0, .inr (8, [.int (nI 0), .int (nI nby), .ref a1, .int (xra), .int (nI ndb), .ref a2, .int (nI ncb), .ref a3, .ref a4, .int (nI nfr), .ref a5, .ref a6, .int (nI nsy), .int (nI nai), .ref a7, .ref a8, .int (xas), .int (xan), .int (xst), .int (xhr), .int (xhb), .int (xse), .int (xbe), .ref a9, .ref b1, .ref b2, .ref b3, .ref b4, .ref b5, .ref b6, .ref b7, .ref b8, .ref c1, .ref c2, .ref c3, .ref c4, .ref c5, .ref c6, .ref c7, .int (xrg)])), (a5, .inl (tc 0, 520, .inl ww.1)), (a6, .inl (tc 0, 520, .inl ww.2)), (a7, .inl (tc 0, 560, .inl ((arP ww ec tu ld (gF (fun _ => nI 0) aa.1 ld, gF (fun _ => nI 0) aa.2 ld) i).1))), (a8, .inl (tc 0, 560, .inl ((arP ww ec tu ld (gF (fun _ => nI 0) aa.1 ld, gF (fun _ => nI 0) aa.2 ld) i).2)))] := hD
                            refine W.widen (k := 0) (n := 0) (Nat.le_of_ble_eq_true rfl) (Nat.le_of_ble_eq_true rfl) ?_
                            refine W.eq (g2 := F0 m 201 ls [.int (satF ((tnF (ecF ww.1 ec i, ecF ww.2 ec i) tu).1)), .int (nI (ld + i)), .ref a7]) rfl ?_
                            refine k_topi (y := satF (eaF ww ec tu i).1) rfl ?_
                            refine k_iast (ws' := [(h0, .inr (8, [.int (nI 0), .int (nI nby), .ref a1, .int (xra), .int (nI ndb), .ref a2, .int (nI ncb), .ref a3, .ref a4, .int (nI nfr), .ref a5, .ref a6, .int (nI nsy), .int (nI nai), .ref a7, .ref a8, .int (xas), .int (xan), .int (xst), .int (xhr), .int (xhb), .int (xse), .int (xbe), .ref a9, .ref b1, .ref b2, .ref b3, .ref b4, .ref b5, .ref b6, .ref b7, .ref b8, .ref c1, .ref c2, .ref c3, .ref c4, .ref c5, .ref c6, .ref c7, .int (xrg)])), (a5, .inl (tc 0, 520, .inl ww.1)), (a6, .inl (tc 0, 520, .inl ww.2)), (a7, .inl (tc 0, 560, .inl (upd ((arP ww ec tu ld (gF (fun _ => nI 0) aa.1 ld, gF (fun _ => nI 0) aa.2 ld) i).1) (ld + i) (satF (eaF ww ec tu i).1)))), (a8, .inl (tc 0, 560, .inl ((arP ww ec tu ld (gF (fun _ => nI 0) aa.1 ld, gF (fun _ => nI 0) aa.2 ld) i).2)))]) hx hb hK hP hD hS 3 0 rfl rfl (by omega) (by omega) d_MO_air_201 rfl (fun H locs hP hD hS => ?_)
                            refine lv_aload_n hx hb d_MO_air_202 rfl (lv_at hl 4 rfl) ?_
                            refine k_get hx hb hw uw_MO hown hK hP 0 rfl rfl 15 (by decide) (hw _ wd_729) rfl d_MO_air_203 ?_
                            refine lv_iload_n hx hb d_MO_air_206 rfl (lv_at hl 5 rfl) ?_
                            refine lv_iload hx hb d_MO_air_207 (lv_at hl 3 rfl) ?_
                            refine k_iadd hx hb d_MO_air_209 ?_
                            refine lv_iload hx hb d_MO_air_210 (lv_at hl 1 rfl) ?_
                            refine k_calli (wr := [(h0, .inr (8, [.int (nI 0), .int (nI nby), .ref a1, .int (xra), .int (nI ndb), .ref a2, .int (nI ncb), .ref a3, .ref a4, .int (nI nfr), .ref a5, .ref a6, .int (nI nsy), .int (nI nai), .ref a7, .ref a8, .int (xas), .int (xan), .int (xst), .int (xhr), .int (xhb), .int (xse), .int (xbe), .ref a9, .ref b1, .ref b2, .ref b3, .ref b4, .ref b5, .ref b6, .ref b7, .ref b8, .ref c1, .ref c2, .ref c3, .ref c4, .ref c5, .ref c6, .ref c7, .int (xrg)])), (a5, .inl (tc 0, 520, .inl ww.1)), (a6, .inl (tc 0, 520, .inl ww.2)), (a7, .inl (tc 0, 560, .inl (upd ((arP ww ec tu ld (gF (fun _ => nI 0) aa.1 ld, gF (fun _ => nI 0) aa.2 ld) i).1) (ld + i) (satF (eaF ww ec tu i).1)))), (a8, .inl (tc 0, 560, .inl ((arP ww ec tu ld (gF (fun _ => nI 0) aa.1 ld, gF (fun _ => nI 0) aa.2 ld) i).2)))]) (k_runS (As := [.int ((tnF (ecF ww.1 ec i, ecF ww.2 ec i) tu).2)]) (rest := [.int (nI (ld + i)), .ref a8]) (wc := []) ⟨hx, hb, hml, hown, hts⟩ (c_MO_saturate l D tc tb ((tnF (ecF ww.1 ec i, ecF ww.2 ec i) tu).2)  H.size) (va_cwS 1 hts (k_goodS wd_856 wd_857 wd_11 wd_858) rfl rfl rfl hd_MO_saturate ⟨by rw [hR]; exact Nat.le_of_ble_eq_true rfl, by rw [hR]; exact Nat.le_of_ble_eq_true rfl⟩) hK hP hD hS hST hN hA [] (by decide) rfl rfl hl.1 rfl (Nat.le_of_ble_eq_true rfl) d_MO_air_212 ⟨by rw [hR]; exact Nat.le_of_ble_eq_true rfl, by rw [hR]; exact Nat.le_of_ble_eq_true rfl⟩) hP hD hS hA [] [0, 1, 2, 3, 4] rfl rfl (by decide) (by decide) (fun _ H locs hp212 hP hD hS => ?_)
                            have hP : va_P D classes [(h0, .inr (8, [.int (nI 0), .int (nI nby), .ref a1, .int (xra), .int (nI ndb), .ref a2, .int (nI ncb), .ref a3, .ref a4, .int (nI nfr), .ref a5, .ref a6, .int (nI nsy), .int (nI nai), .ref a7, .ref a8, .int (xas), .int (xan), .int (xst), .int (xhr), .int (xhb), .int (xse), .int (xbe), .ref a9, .ref b1, .ref b2, .ref b3, .ref b4, .ref b5, .ref b6, .ref b7, .ref b8, .ref c1, .ref c2, .ref c3, .ref c4, .ref c5, .ref c6, .ref c7, .int (xrg)])), (a5, .inl (tc 0, 520, .inl ww.1)), (a6, .inl (tc 0, 520, .inl ww.2)), (a7, .inl (tc 0, 560, .inl (upd ((arP ww ec tu ld (gF (fun _ => nI 0) aa.1 ld, gF (fun _ => nI 0) aa.2 ld) i).1) (ld + i) (satF (eaF ww ec tu i).1)))), (a8, .inl (tc 0, 560, .inl ((arP ww ec tu ld (gF (fun _ => nI 0) aa.1 ld, gF (fun _ => nI 0) aa.2 ld) i).2)))] H := hP
                            have hD : va_D A [(h0, .inr (8, [.int (nI 0), .int (nI nby), .ref a1, .int (xra), .int (nI ndb), .ref a2, .int (nI ncb), .ref a3, .ref a4, .int (nI nfr), .ref a5, .ref a6, .int (nI nsy), .int (nI nai), .ref a7, .ref a8, .int (xas), .int (xan), .int (xst), .int (xhr), .int (xhb), .int (xse), .int (xbe), .ref a9, .ref b1, .ref b2, .ref b3, .ref b4, .ref b5, .ref b6, .ref b7, .ref b8, .ref c1, .ref c2, .ref c3, .ref c4, .ref c5, .ref c6, .ref c7, .int (xrg)])), (a5, .inl (tc 0, 520, .inl ww.1)), (a6, .inl (tc 0, 520, .inl ww.2)), (a7, .inl (tc 0, 560, .inl (upd ((arP ww ec tu ld (gF (fun _ => nI 0) aa.1 ld, gF (fun _ => nI 0) aa.2 ld) i).1) (ld + i) (satF (eaF ww ec tu i).1)))), (a8, .inl (tc 0, 560, .inl ((arP ww ec tu ld (gF (fun _ => nI 0) aa.1 ld, gF (fun _ => nI 0) aa.2 ld) i).2)))] := hD
                            refine W.widen (k := 0) (n := 0) (Nat.le_of_ble_eq_true rfl) (Nat.le_of_ble_eq_true rfl) ?_
                            refine W.eq (g2 := F0 m 215 ls [.int (satF ((tnF (ecF ww.1 ec i, ecF ww.2 ec i) tu).2)), .int (nI (ld + i)), .ref a8]) rfl ?_
                            refine k_topi (y := satF (eaF ww ec tu i).2) rfl ?_
                            refine k_iast (ws' := [(h0, .inr (8, [.int (nI 0), .int (nI nby), .ref a1, .int (xra), .int (nI ndb), .ref a2, .int (nI ncb), .ref a3, .ref a4, .int (nI nfr), .ref a5, .ref a6, .int (nI nsy), .int (nI nai), .ref a7, .ref a8, .int (xas), .int (xan), .int (xst), .int (xhr), .int (xhb), .int (xse), .int (xbe), .ref a9, .ref b1, .ref b2, .ref b3, .ref b4, .ref b5, .ref b6, .ref b7, .ref b8, .ref c1, .ref c2, .ref c3, .ref c4, .ref c5, .ref c6, .ref c7, .int (xrg)])), (a5, .inl (tc 0, 520, .inl ww.1)), (a6, .inl (tc 0, 520, .inl ww.2)), (a7, .inl (tc 0, 560, .inl (upd ((arP ww ec tu ld (gF (fun _ => nI 0) aa.1 ld, gF (fun _ => nI 0) aa.2 ld) i).1) (ld + i) (satF (eaF ww ec tu i).1)))), (a8, .inl (tc 0, 560, .inl (upd ((arP ww ec tu ld (gF (fun _ => nI 0) aa.1 ld, gF (fun _ => nI 0) aa.2 ld) i).2) (ld + i) (satF (eaF ww ec tu i).2))))]) hx hb hK hP hD hS 4 0 rfl rfl (by omega) (by omega) d_MO_air_215 rfl (fun H locs hP hD hS => ?_)
                            refine lv_iinc (k := 3) (v := nI (i + 1)) (lv' := [(4, .int (nI (i + 1))), (7, .int (nI tu)), (6, .int ((tnF (ecF ww.1 ec i, ecF ww.2 ec i) tu).2)), (5, .int ((tnF (ecF ww.1 ec i, ecF ww.2 ec i) tu).1)), (0, .ref h0), (1, .int (nI ld)), (2, .int (nI ec)), (3, .int (nI tu))]) hx hb d_MO_air_216 hl rfl (k_incN _ 1) (by decide) rfl (fun ls hl => ?_)
                            refine lv_goto (tgt := 91) hx hb d_MO_air_219 (by decide) ?_
                            exact ih_i (by omega)   H locs ls (lv_sub hl [0, 4, 5, 6, 7] rfl) (by rw [arP_s]; exact hP) (k_Ds hD [0, 1, 2, 3, 4] (by decide) rfl) hS
                          · refine lv_iload hx hb d_MO_air_169 (lv_at hl 2 rfl) ?_
                            refine lv_istore (lv' := [(8, .int ((tnF (ecF ww.1 ec i, ecF ww.2 ec i) t).1)), (7, .int (nI t)), (6, .int ((tnF (ecF ww.1 ec i, ecF ww.2 ec i) t).2)), (5, .int ((tnF (ecF ww.1 ec i, ecF ww.2 ec i) t).1)), (4, .int (nI i)), (0, .ref h0), (1, .int (nI ld)), (2, .int (nI ec)), (3, .int (nI tu))]) hx hb d_MO_air_171 hl (by decide) rfl (fun ls hl => ?_)
                            refine lv_iload hx hb d_MO_air_173 (lv_at hl 2 rfl) ?_
                            refine lv_ineg hx hb d_MO_air_175 ?_
                            refine lv_istore (lv' := [(5, .int (-((tnF (ecF ww.1 ec i, ecF ww.2 ec i) t).2))), (8, .int ((tnF (ecF ww.1 ec i, ecF ww.2 ec i) t).1)), (7, .int (nI t)), (6, .int ((tnF (ecF ww.1 ec i, ecF ww.2 ec i) t).2)), (4, .int (nI i)), (0, .ref h0), (1, .int (nI ld)), (2, .int (nI ec)), (3, .int (nI tu))]) hx hb d_MO_air_176 hl (by decide) rfl (fun ls hl => ?_)
                            refine lv_iload hx hb d_MO_air_178 (lv_at hl 1 rfl) ?_
                            refine lv_istore (lv' := [(6, .int ((tnF (ecF ww.1 ec i, ecF ww.2 ec i) t).1)), (5, .int (-((tnF (ecF ww.1 ec i, ecF ww.2 ec i) t).2))), (8, .int ((tnF (ecF ww.1 ec i, ecF ww.2 ec i) t).1)), (7, .int (nI t)), (4, .int (nI i)), (0, .ref h0), (1, .int (nI ld)), (2, .int (nI ec)), (3, .int (nI tu))]) hx hb d_MO_air_180 hl (by decide) rfl (fun ls hl => ?_)
                            refine lv_iinc (k := 3) (v := nI (t + 1)) (lv' := [(7, .int (nI (t + 1))), (6, .int ((tnF (ecF ww.1 ec i, ecF ww.2 ec i) t).1)), (5, .int (-((tnF (ecF ww.1 ec i, ecF ww.2 ec i) t).2))), (8, .int ((tnF (ecF ww.1 ec i, ecF ww.2 ec i) t).1)), (4, .int (nI i)), (0, .ref h0), (1, .int (nI ld)), (2, .int (nI ec)), (3, .int (nI tu))]) hx hb d_MO_air_182 hl rfl (k_incN _ 1) (by decide) rfl (fun ls hl => ?_)
                            refine lv_goto (tgt := 163) hx hb d_MO_air_185 (by decide) ?_
                            exact ih_t (by omega)   H locs ls (lv_sub hl [0, 1, 2, 4, 5, 6, 7, 8] rfl) (by exact hP) (k_Ds hD [0, 1, 2, 3, 4] (by decide) rfl) hS
                        · refine lv_iload hx hb d_MO_air_128 (lv_at hl 1 rfl) ?_
                          refine lv_aload_n hx hb d_MO_air_130 rfl (lv_at hl 3 rfl) ?_
                          refine k_get hx hb hw uw_MO hown hK hP 0 rfl rfl 10 (by decide) (hw _ wd_724) rfl d_MO_air_131 ?_
                          refine lv_iload hx hb d_MO_air_134 (lv_at hl 2 rfl) ?_
                          refine lv_iload_n hx hb d_MO_air_136 rfl (lv_at hl 5 rfl) ?_
                          refine k_isub hx hb d_MO_air_137 (by omega) ?_
                          refine k_iald hx hb hK hP 1 0 rfl rfl (by omega) (by omega) d_MO_air_138 ?_
                          refine lv_iconst (v := nI 1) hx hb d_MO_air_139 (by decide) ?_
                          refine lv_ishr hx hb d_MO_air_140 ?_
                          refine lv_iadd hx hb d_MO_air_141 ?_
                          refine k_topi (y := ecF ww.1 ec i) (ec_2 ww.1 h119 h125) ?_
                          refine lv_istore (lv' := [(5, .int (ecF ww.1 ec i)), (6, .int (ww.2 i)), (4, .int (nI i)), (0, .ref h0), (1, .int (nI ld)), (2, .int (nI ec)), (3, .int (nI tu))]) hx hb d_MO_air_142 hl (by decide) rfl (fun ls hl => ?_)
                          refine lv_iload hx hb d_MO_air_144 (lv_at hl 1 rfl) ?_
                          refine lv_aload_n hx hb d_MO_air_146 rfl (lv_at hl 3 rfl) ?_
                          refine k_get hx hb hw uw_MO hown hK hP 0 rfl rfl 11 (by decide) (hw _ wd_725) rfl d_MO_air_147 ?_
                          refine lv_iload hx hb d_MO_air_150 (lv_at hl 2 rfl) ?_
                          refine lv_iload_n hx hb d_MO_air_152 rfl (lv_at hl 5 rfl) ?_
                          refine k_isub hx hb d_MO_air_153 (by omega) ?_
                          refine k_iald hx hb hK hP 2 0 rfl rfl (by omega) (by omega) d_MO_air_154 ?_
                          refine lv_iconst (v := nI 1) hx hb d_MO_air_155 (by decide) ?_
                          refine lv_ishr hx hb d_MO_air_156 ?_
                          refine lv_iadd hx hb d_MO_air_157 ?_
                          refine k_topi (y := ecF ww.2 ec i) (ec_2 ww.2 h119 h125) ?_
                          refine lv_istore (lv' := [(6, .int (ecF ww.2 ec i)), (5, .int (ecF ww.1 ec i)), (4, .int (nI i)), (0, .ref h0), (1, .int (nI ld)), (2, .int (nI ec)), (3, .int (nI tu))]) hx hb d_MO_air_158 hl (by decide) rfl (fun ls hl => ?_)
                          refine lv_iconst (v := nI 0) hx hb d_MO_air_160 (by decide) ?_
                          refine lv_istore (lv' := [(7, .int (nI 0)), (6, .int (ecF ww.2 ec i)), (5, .int (ecF ww.1 ec i)), (4, .int (nI i)), (0, .ref h0), (1, .int (nI ld)), (2, .int (nI ec)), (3, .int (nI tu))]) hx hb d_MO_air_161 hl (by decide) rfl (fun ls hl => ?_)
                          refine k_loop (P := fun t : Nat => ∀ (H : Heap) (locs : List Loc) (ls : Array Slot), lv_has ls 9 [(7, .int (nI t)), (6, .int ((tnF (ecF ww.1 ec i, ecF ww.2 ec i) t).2)), (5, .int ((tnF (ecF ww.1 ec i, ecF ww.2 ec i) t).1)), (4, .int (nI i)), (0, .ref h0), (1, .int (nI ld)), (2, .int (nI ec)), (3, .int (nI tu))] → va_P D classes [(h0, .inr (8, [.int (nI 0), .int (nI nby), .ref a1, .int (xra), .int (nI ndb), .ref a2, .int (nI ncb), .ref a3, .ref a4, .int (nI nfr), .ref a5, .ref a6, .int (nI nsy), .int (nI nai), .ref a7, .ref a8, .int (xas), .int (xan), .int (xst), .int (xhr), .int (xhb), .int (xse), .int (xbe), .ref a9, .ref b1, .ref b2, .ref b3, .ref b4, .ref b5, .ref b6, .ref b7, .ref b8, .ref c1, .ref c2, .ref c3, .ref c4, .ref c5, .ref c6, .ref c7, .int (xrg)])), (a5, .inl (tc 0, 520, .inl ww.1)), (a6, .inl (tc 0, 520, .inl ww.2)), (a7, .inl (tc 0, 560, .inl ((arP ww ec tu ld (gF (fun _ => nI 0) aa.1 ld, gF (fun _ => nI 0) aa.2 ld) i).1))), (a8, .inl (tc 0, 560, .inl ((arP ww ec tu ld (gF (fun _ => nI 0) aa.1 ld, gF (fun _ => nI 0) aa.2 ld) i).2)))] H → va_D A [(h0, .inr (8, [.int (nI 0), .int (nI nby), .ref a1, .int (xra), .int (nI ndb), .ref a2, .int (nI ncb), .ref a3, .ref a4, .int (nI nfr), .ref a5, .ref a6, .int (nI nsy), .int (nI nai), .ref a7, .ref a8, .int (xas), .int (xan), .int (xst), .int (xhr), .int (xhb), .int (xse), .int (xbe), .ref a9, .ref b1, .ref b2, .ref b3, .ref b4, .ref b5, .ref b6, .ref b7, .ref b8, .ref c1, .ref c2, .ref c3, .ref c4, .ref c5, .ref c6, .ref c7, .int (xrg)])), (a5, .inl (tc 0, 520, .inl ww.1)), (a6, .inl (tc 0, 520, .inl ww.2)), (a7, .inl (tc 0, 560, .inl ((arP ww ec tu ld (gF (fun _ => nI 0) aa.1 ld, gF (fun _ => nI 0) aa.2 ld) i).1))), (a8, .inl (tc 0, 560, .inl ((arP ww ec tu ld (gF (fun _ => nI 0) aa.1 ld, gF (fun _ => nI 0) aa.2 ld) i).2)))] → va_S A s.heap H locs → W p l e R s m args below meth c H locs 0 0 Q (F0 m 163 ls [])) (tu) (fun t hk_t ih_t  H locs ls hl hP hD hS => ?_) (0) (by omega)   H locs ls (lv_sub hl [0, 1, 2, 3, 4, 5, 6, 7] rfl) (by exact hP) (k_Ds hD [0, 1, 2, 3, 4] (by decide) rfl) hS
                          refine lv_iload hx hb d_MO_air_163 (lv_at hl 0 rfl) ?_
                          refine lv_iload_n hx hb d_MO_air_165 rfl (lv_at hl 7 rfl) ?_
                          refine k_icmp_ge (tgt := 188) hx hb d_MO_air_166 (by decide) (by omega) (by omega) (fun h166 => ?_) (fun h166 => ?_)
                          · obtain rfl : tu = t := by omega
                            refine lv_aload_n hx hb d_MO_air_188 rfl (lv_at hl 4 rfl) ?_
                            refine k_get hx hb hw uw_MO hown hK hP 0 rfl rfl 14 (by decide) (hw _ wd_728) rfl d_MO_air_189 ?_
                            refine lv_iload_n hx hb d_MO_air_192 rfl (lv_at hl 5 rfl) ?_
                            refine lv_iload hx hb d_MO_air_193 (lv_at hl 3 rfl) ?_
                            refine k_iadd hx hb d_MO_air_195 ?_
                            refine lv_iload hx hb d_MO_air_196 (lv_at hl 2 rfl) ?_
                            refine k_calli (wr := [(h0, .inr (8, [.int (nI 0), .int (nI nby), .ref a1, .int (xra), .int (nI ndb), .ref a2, .int (nI ncb), .ref a3, .ref a4, .int (nI nfr), .ref a5, .ref a6, .int (nI nsy), .int (nI nai), .ref a7, .ref a8, .int (xas), .int (xan), .int (xst), .int (xhr), .int (xhb), .int (xse), .int (xbe), .ref a9, .ref b1, .ref b2, .ref b3, .ref b4, .ref b5, .ref b6, .ref b7, .ref b8, .ref c1, .ref c2, .ref c3, .ref c4, .ref c5, .ref c6, .ref c7, .int (xrg)])), (a5, .inl (tc 0, 520, .inl ww.1)), (a6, .inl (tc 0, 520, .inl ww.2)), (a7, .inl (tc 0, 560, .inl ((arP ww ec tu ld (gF (fun _ => nI 0) aa.1 ld, gF (fun _ => nI 0) aa.2 ld) i).1))), (a8, .inl (tc 0, 560, .inl ((arP ww ec tu ld (gF (fun _ => nI 0) aa.1 ld, gF (fun _ => nI 0) aa.2 ld) i).2)))]) (k_runS (As := [.int ((tnF (ecF ww.1 ec i, ecF ww.2 ec i) tu).1)]) (rest := [.int (nI (ld + i)), .ref a7]) (wc := []) ⟨hx, hb, hml, hown, hts⟩ (c_MO_saturate l D tc tb ((tnF (ecF ww.1 ec i, ecF ww.2 ec i) tu).1)  H.size) (va_cwS 1 hts (k_goodS wd_856 wd_857 wd_11 wd_858) rfl rfl rfl hd_MO_saturate ⟨by rw [hR]; exact Nat.le_of_ble_eq_true rfl, by rw [hR]; exact Nat.le_of_ble_eq_true rfl⟩) hK hP hD hS hST hN hA [] (by decide) rfl rfl hl.1 rfl (Nat.le_of_ble_eq_true rfl) d_MO_air_198 ⟨by rw [hR]; exact Nat.le_of_ble_eq_true rfl, by rw [hR]; exact Nat.le_of_ble_eq_true rfl⟩) hP hD hS hA [] [0, 1, 2, 3, 4] rfl rfl (by decide) (by decide) (fun _ H locs hp198 hP hD hS => ?_)
                            have hP : va_P D classes [(h0, .inr (8, [.int (nI 0), .int (nI nby), .ref a1, .int (xra), .int (nI ndb), .ref a2, .int (nI ncb), .ref a3, .ref a4, .int (nI nfr), .ref a5, .ref a6, .int (nI nsy), .int (nI nai), .ref a7, .ref a8, .int (xas), .int (xan), .int (xst), .int (xhr), .int (xhb), .int (xse), .int (xbe), .ref a9, .ref b1, .ref b2, .ref b3, .ref b4, .ref b5, .ref b6, .ref b7, .ref b8, .ref c1, .ref c2, .ref c3, .ref c4, .ref c5, .ref c6, .ref c7, .int (xrg)])), (a5, .inl (tc 0, 520, .inl ww.1)), (a6, .inl (tc 0, 520, .inl ww.2)), (a7, .inl (tc 0, 560, .inl ((arP ww ec tu ld (gF (fun _ => nI 0) aa.1 ld, gF (fun _ => nI 0) aa.2 ld) i).1))), (a8, .inl (tc 0, 560, .inl ((arP ww ec tu ld (gF (fun _ => nI 0) aa.1 ld, gF (fun _ => nI 0) aa.2 ld) i).2)))] H := hP
                            have hD : va_D A [(h0, .inr (8, [.int (nI 0), .int (nI nby), .ref a1, .int (xra), .int (nI ndb), .ref a2, .int (nI ncb), .ref a3, .ref a4, .int (nI nfr), .ref a5, .ref a6, .int (nI nsy), .int (nI nai), .ref a7, .ref a8, .int (xas), .int (xan), .int (xst), .int (xhr), .int (xhb), .int (xse), .int (xbe), .ref a9, .ref b1, .ref b2, .ref b3, .ref b4, .ref b5, .ref b6, .ref b7, .ref b8, .ref c1, .ref c2, .ref c3, .ref c4, .ref c5, .ref c6, .ref c7, .int (xrg)])), (a5, .inl (tc 0, 520, .inl ww.1)), (a6, .inl (tc 0, 520, .inl ww.2)), (a7, .inl (tc 0, 560, .inl ((arP ww ec tu ld (gF (fun _ => nI 0) aa.1 ld, gF (fun _ => nI 0) aa.2 ld) i).1))), (a8, .inl (tc 0, 560, .inl ((arP ww ec tu ld (gF (fun _ => nI 0) aa.1 ld, gF (fun _ => nI 0) aa.2 ld) i).2)))] := hD
                            refine W.widen (k := 0) (n := 0) (Nat.le_of_ble_eq_true rfl) (Nat.le_of_ble_eq_true rfl) ?_
                            refine W.eq (g2 := F0 m 201 ls [.int (satF ((tnF (ecF ww.1 ec i, ecF ww.2 ec i) tu).1)), .int (nI (ld + i)), .ref a7]) rfl ?_
                            refine k_topi (y := satF (eaF ww ec tu i).1) rfl ?_
                            refine k_iast (ws' := [(h0, .inr (8, [.int (nI 0), .int (nI nby), .ref a1, .int (xra), .int (nI ndb), .ref a2, .int (nI ncb), .ref a3, .ref a4, .int (nI nfr), .ref a5, .ref a6, .int (nI nsy), .int (nI nai), .ref a7, .ref a8, .int (xas), .int (xan), .int (xst), .int (xhr), .int (xhb), .int (xse), .int (xbe), .ref a9, .ref b1, .ref b2, .ref b3, .ref b4, .ref b5, .ref b6, .ref b7, .ref b8, .ref c1, .ref c2, .ref c3, .ref c4, .ref c5, .ref c6, .ref c7, .int (xrg)])), (a5, .inl (tc 0, 520, .inl ww.1)), (a6, .inl (tc 0, 520, .inl ww.2)), (a7, .inl (tc 0, 560, .inl (upd ((arP ww ec tu ld (gF (fun _ => nI 0) aa.1 ld, gF (fun _ => nI 0) aa.2 ld) i).1) (ld + i) (satF (eaF ww ec tu i).1)))), (a8, .inl (tc 0, 560, .inl ((arP ww ec tu ld (gF (fun _ => nI 0) aa.1 ld, gF (fun _ => nI 0) aa.2 ld) i).2)))]) hx hb hK hP hD hS 3 0 rfl rfl (by omega) (by omega) d_MO_air_201 rfl (fun H locs hP hD hS => ?_)
                            refine lv_aload_n hx hb d_MO_air_202 rfl (lv_at hl 4 rfl) ?_
                            refine k_get hx hb hw uw_MO hown hK hP 0 rfl rfl 15 (by decide) (hw _ wd_729) rfl d_MO_air_203 ?_
                            refine lv_iload_n hx hb d_MO_air_206 rfl (lv_at hl 5 rfl) ?_
                            refine lv_iload hx hb d_MO_air_207 (lv_at hl 3 rfl) ?_
                            refine k_iadd hx hb d_MO_air_209 ?_
                            refine lv_iload hx hb d_MO_air_210 (lv_at hl 1 rfl) ?_
                            refine k_calli (wr := [(h0, .inr (8, [.int (nI 0), .int (nI nby), .ref a1, .int (xra), .int (nI ndb), .ref a2, .int (nI ncb), .ref a3, .ref a4, .int (nI nfr), .ref a5, .ref a6, .int (nI nsy), .int (nI nai), .ref a7, .ref a8, .int (xas), .int (xan), .int (xst), .int (xhr), .int (xhb), .int (xse), .int (xbe), .ref a9, .ref b1, .ref b2, .ref b3, .ref b4, .ref b5, .ref b6, .ref b7, .ref b8, .ref c1, .ref c2, .ref c3, .ref c4, .ref c5, .ref c6, .ref c7, .int (xrg)])), (a5, .inl (tc 0, 520, .inl ww.1)), (a6, .inl (tc 0, 520, .inl ww.2)), (a7, .inl (tc 0, 560, .inl (upd ((arP ww ec tu ld (gF (fun _ => nI 0) aa.1 ld, gF (fun _ => nI 0) aa.2 ld) i).1) (ld + i) (satF (eaF ww ec tu i).1)))), (a8, .inl (tc 0, 560, .inl ((arP ww ec tu ld (gF (fun _ => nI 0) aa.1 ld, gF (fun _ => nI 0) aa.2 ld) i).2)))]) (k_runS (As := [.int ((tnF (ecF ww.1 ec i, ecF ww.2 ec i) tu).2)]) (rest := [.int (nI (ld + i)), .ref a8]) (wc := []) ⟨hx, hb, hml, hown, hts⟩ (c_MO_saturate l D tc tb ((tnF (ecF ww.1 ec i, ecF ww.2 ec i) tu).2)  H.size) (va_cwS 1 hts (k_goodS wd_856 wd_857 wd_11 wd_858) rfl rfl rfl hd_MO_saturate ⟨by rw [hR]; exact Nat.le_of_ble_eq_true rfl, by rw [hR]; exact Nat.le_of_ble_eq_true rfl⟩) hK hP hD hS hST hN hA [] (by decide) rfl rfl hl.1 rfl (Nat.le_of_ble_eq_true rfl) d_MO_air_212 ⟨by rw [hR]; exact Nat.le_of_ble_eq_true rfl, by rw [hR]; exact Nat.le_of_ble_eq_true rfl⟩) hP hD hS hA [] [0, 1, 2, 3, 4] rfl rfl (by decide) (by decide) (fun _ H locs hp212 hP hD hS => ?_)
                            have hP : va_P D classes [(h0, .inr (8, [.int (nI 0), .int (nI nby), .ref a1, .int (xra), .int (nI ndb), .ref a2, .int (nI ncb), .ref a3, .ref a4, .int (nI nfr), .ref a5, .ref a6, .int (nI nsy), .int (nI nai), .ref a7, .ref a8, .int (xas), .int (xan), .int (xst), .int (xhr), .int (xhb), .int (xse), .int (xbe), .ref a9, .ref b1, .ref b2, .ref b3, .ref b4, .ref b5, .ref b6, .ref b7, .ref b8, .ref c1, .ref c2, .ref c3, .ref c4, .ref c5, .ref c6, .ref c7, .int (xrg)])), (a5, .inl (tc 0, 520, .inl ww.1)), (a6, .inl (tc 0, 520, .inl ww.2)), (a7, .inl (tc 0, 560, .inl (upd ((arP ww ec tu ld (gF (fun _ => nI 0) aa.1 ld, gF (fun _ => nI 0) aa.2 ld) i).1) (ld + i) (satF (eaF ww ec tu i).1)))), (a8, .inl (tc 0, 560, .inl ((arP ww ec tu ld (gF (fun _ => nI 0) aa.1 ld, gF (fun _ => nI 0) aa.2 ld) i).2)))] H := hP
                            have hD : va_D A [(h0, .inr (8, [.int (nI 0), .int (nI nby), .ref a1, .int (xra), .int (nI ndb), .ref a2, .int (nI ncb), .ref a3, .ref a4, .int (nI nfr), .ref a5, .ref a6, .int (nI nsy), .int (nI nai), .ref a7, .ref a8, .int (xas), .int (xan), .int (xst), .int (xhr), .int (xhb), .int (xse), .int (xbe), .ref a9, .ref b1, .ref b2, .ref b3, .ref b4, .ref b5, .ref b6, .ref b7, .ref b8, .ref c1, .ref c2, .ref c3, .ref c4, .ref c5, .ref c6, .ref c7, .int (xrg)])), (a5, .inl (tc 0, 520, .inl ww.1)), (a6, .inl (tc 0, 520, .inl ww.2)), (a7, .inl (tc 0, 560, .inl (upd ((arP ww ec tu ld (gF (fun _ => nI 0) aa.1 ld, gF (fun _ => nI 0) aa.2 ld) i).1) (ld + i) (satF (eaF ww ec tu i).1)))), (a8, .inl (tc 0, 560, .inl ((arP ww ec tu ld (gF (fun _ => nI 0) aa.1 ld, gF (fun _ => nI 0) aa.2 ld) i).2)))] := hD
                            refine W.widen (k := 0) (n := 0) (Nat.le_of_ble_eq_true rfl) (Nat.le_of_ble_eq_true rfl) ?_
                            refine W.eq (g2 := F0 m 215 ls [.int (satF ((tnF (ecF ww.1 ec i, ecF ww.2 ec i) tu).2)), .int (nI (ld + i)), .ref a8]) rfl ?_
                            refine k_topi (y := satF (eaF ww ec tu i).2) rfl ?_
                            refine k_iast (ws' := [(h0, .inr (8, [.int (nI 0), .int (nI nby), .ref a1, .int (xra), .int (nI ndb), .ref a2, .int (nI ncb), .ref a3, .ref a4, .int (nI nfr), .ref a5, .ref a6, .int (nI nsy), .int (nI nai), .ref a7, .ref a8, .int (xas), .int (xan), .int (xst), .int (xhr), .int (xhb), .int (xse), .int (xbe), .ref a9, .ref b1, .ref b2, .ref b3, .ref b4, .ref b5, .ref b6, .ref b7, .ref b8, .ref c1, .ref c2, .ref c3, .ref c4, .ref c5, .ref c6, .ref c7, .int (xrg)])), (a5, .inl (tc 0, 520, .inl ww.1)), (a6, .inl (tc 0, 520, .inl ww.2)), (a7, .inl (tc 0, 560, .inl (upd ((arP ww ec tu ld (gF (fun _ => nI 0) aa.1 ld, gF (fun _ => nI 0) aa.2 ld) i).1) (ld + i) (satF (eaF ww ec tu i).1)))), (a8, .inl (tc 0, 560, .inl (upd ((arP ww ec tu ld (gF (fun _ => nI 0) aa.1 ld, gF (fun _ => nI 0) aa.2 ld) i).2) (ld + i) (satF (eaF ww ec tu i).2))))]) hx hb hK hP hD hS 4 0 rfl rfl (by omega) (by omega) d_MO_air_215 rfl (fun H locs hP hD hS => ?_)
                            refine lv_iinc (k := 3) (v := nI (i + 1)) (lv' := [(4, .int (nI (i + 1))), (7, .int (nI tu)), (6, .int ((tnF (ecF ww.1 ec i, ecF ww.2 ec i) tu).2)), (5, .int ((tnF (ecF ww.1 ec i, ecF ww.2 ec i) tu).1)), (0, .ref h0), (1, .int (nI ld)), (2, .int (nI ec)), (3, .int (nI tu))]) hx hb d_MO_air_216 hl rfl (k_incN _ 1) (by decide) rfl (fun ls hl => ?_)
                            refine lv_goto (tgt := 91) hx hb d_MO_air_219 (by decide) ?_
                            exact ih_i (by omega)   H locs ls (lv_sub hl [0, 4, 5, 6, 7] rfl) (by rw [arP_s]; exact hP) (k_Ds hD [0, 1, 2, 3, 4] (by decide) rfl) hS
                          · refine lv_iload hx hb d_MO_air_169 (lv_at hl 2 rfl) ?_
                            refine lv_istore (lv' := [(8, .int ((tnF (ecF ww.1 ec i, ecF ww.2 ec i) t).1)), (7, .int (nI t)), (6, .int ((tnF (ecF ww.1 ec i, ecF ww.2 ec i) t).2)), (5, .int ((tnF (ecF ww.1 ec i, ecF ww.2 ec i) t).1)), (4, .int (nI i)), (0, .ref h0), (1, .int (nI ld)), (2, .int (nI ec)), (3, .int (nI tu))]) hx hb d_MO_air_171 hl (by decide) rfl (fun ls hl => ?_)
                            refine lv_iload hx hb d_MO_air_173 (lv_at hl 2 rfl) ?_
                            refine lv_ineg hx hb d_MO_air_175 ?_
                            refine lv_istore (lv' := [(5, .int (-((tnF (ecF ww.1 ec i, ecF ww.2 ec i) t).2))), (8, .int ((tnF (ecF ww.1 ec i, ecF ww.2 ec i) t).1)), (7, .int (nI t)), (6, .int ((tnF (ecF ww.1 ec i, ecF ww.2 ec i) t).2)), (4, .int (nI i)), (0, .ref h0), (1, .int (nI ld)), (2, .int (nI ec)), (3, .int (nI tu))]) hx hb d_MO_air_176 hl (by decide) rfl (fun ls hl => ?_)
                            refine lv_iload hx hb d_MO_air_178 (lv_at hl 1 rfl) ?_
                            refine lv_istore (lv' := [(6, .int ((tnF (ecF ww.1 ec i, ecF ww.2 ec i) t).1)), (5, .int (-((tnF (ecF ww.1 ec i, ecF ww.2 ec i) t).2))), (8, .int ((tnF (ecF ww.1 ec i, ecF ww.2 ec i) t).1)), (7, .int (nI t)), (4, .int (nI i)), (0, .ref h0), (1, .int (nI ld)), (2, .int (nI ec)), (3, .int (nI tu))]) hx hb d_MO_air_180 hl (by decide) rfl (fun ls hl => ?_)
                            refine lv_iinc (k := 3) (v := nI (t + 1)) (lv' := [(7, .int (nI (t + 1))), (6, .int ((tnF (ecF ww.1 ec i, ecF ww.2 ec i) t).1)), (5, .int (-((tnF (ecF ww.1 ec i, ecF ww.2 ec i) t).2))), (8, .int ((tnF (ecF ww.1 ec i, ecF ww.2 ec i) t).1)), (4, .int (nI i)), (0, .ref h0), (1, .int (nI ld)), (2, .int (nI ec)), (3, .int (nI tu))]) hx hb d_MO_air_182 hl rfl (k_incN _ 1) (by decide) rfl (fun ls hl => ?_)
                            refine lv_goto (tgt := 163) hx hb d_MO_air_185 (by decide) ?_
                            exact ih_t (by omega)   H locs ls (lv_sub hl [0, 1, 2, 4, 5, 6, 7, 8] rfl) (by exact hP) (k_Ds hD [0, 1, 2, 3, 4] (by decide) rfl) hS
                  · refine lv_aload_n hx hb d_MO_air_66 rfl (lv_at hl 1 rfl) ?_
                    refine k_get hx hb hw uw_MO hown hK hP 0 rfl rfl 14 (by decide) (hw _ wd_728) rfl d_MO_air_67 ?_
                    refine lv_iload hx hb d_MO_air_70 (lv_at hl 0 rfl) ?_
                    refine lv_iconst (v := nI 0) hx hb d_MO_air_72 (by decide) ?_
                    refine k_iast (ws' := [(h0, .inr (8, [.int (nI 0), .int (nI nby), .ref a1, .int (xra), .int (nI ndb), .ref a2, .int (nI ncb), .ref a3, .ref a4, .int (nI nfr), .ref a5, .ref a6, .int (nI nsy), .int (nI nai), .ref a7, .ref a8, .int (xas), .int (xan), .int (xst), .int (xhr), .int (xhb), .int (xse), .int (xbe), .ref a9, .ref b1, .ref b2, .ref b3, .ref b4, .ref b5, .ref b6, .ref b7, .ref b8, .ref c1, .ref c2, .ref c3, .ref c4, .ref c5, .ref c6, .ref c7, .int (xrg)])), (a5, .inl (tc 0, 520, .inl ww.1)), (a6, .inl (tc 0, 520, .inl ww.2)), (a7, .inl (tc 0, 560, .inl (upd (gF (fun _ => nI 0) aa.1 k) k (nI 0)))), (a8, .inl (tc 0, 560, .inl (gF (fun _ => nI 0) aa.2 k)))]) hx hb hK hP hD hS 3 0 rfl rfl (by omega) (by omega) d_MO_air_73 rfl (fun H locs hP hD hS => ?_)
                    refine lv_aload_n hx hb d_MO_air_74 rfl (lv_at hl 1 rfl) ?_
                    refine k_get hx hb hw uw_MO hown hK hP 0 rfl rfl 15 (by decide) (hw _ wd_729) rfl d_MO_air_75 ?_
                    refine lv_iload hx hb d_MO_air_78 (lv_at hl 0 rfl) ?_
                    refine lv_iconst (v := nI 0) hx hb d_MO_air_80 (by decide) ?_
                    refine k_iast (ws' := [(h0, .inr (8, [.int (nI 0), .int (nI nby), .ref a1, .int (xra), .int (nI ndb), .ref a2, .int (nI ncb), .ref a3, .ref a4, .int (nI nfr), .ref a5, .ref a6, .int (nI nsy), .int (nI nai), .ref a7, .ref a8, .int (xas), .int (xan), .int (xst), .int (xhr), .int (xhb), .int (xse), .int (xbe), .ref a9, .ref b1, .ref b2, .ref b3, .ref b4, .ref b5, .ref b6, .ref b7, .ref b8, .ref c1, .ref c2, .ref c3, .ref c4, .ref c5, .ref c6, .ref c7, .int (xrg)])), (a5, .inl (tc 0, 520, .inl ww.1)), (a6, .inl (tc 0, 520, .inl ww.2)), (a7, .inl (tc 0, 560, .inl (upd (gF (fun _ => nI 0) aa.1 k) k (nI 0)))), (a8, .inl (tc 0, 560, .inl (upd (gF (fun _ => nI 0) aa.2 k) k (nI 0))))]) hx hb hK hP hD hS 4 0 rfl rfl (by omega) (by omega) d_MO_air_81 rfl (fun H locs hP hD hS => ?_)
                    refine lv_iinc (k := 0) (v := nI (k + 1)) (lv' := [(4, .int (nI (k + 1))), (0, .ref h0), (1, .int (nI ld)), (2, .int (nI ec)), (3, .int (nI tu))]) hx hb d_MO_air_82 hl rfl (k_incN _ 1) (by decide) rfl (fun ls hl => ?_)
                    refine lv_goto (tgt := 60) hx hb d_MO_air_85 (by decide) ?_
                    exact ih_k (by omega)   H locs ls (lv_sub hl [0, 1, 2, 3, 4] rfl) (by rw [gF_s, gF_s]; exact hP) (k_Ds hD [0, 1, 2, 3, 4] (by decide) rfl) hS
                · exact absurd (by decide) h52
              · exfalso; omega
            · exfalso; omega
set_option maxHeartbeats 4000000 in
set_option maxRecDepth 100000 in
theorem c_MO_got_no (l : Launch) (D : va_G) (tc : Nat → ClassId) (tb : Nat → Nat) (h0 : Nat) (nby : Nat) (ndb : Nat) (ncb : Nat) (nfr : Nat) (nsy : Nat) (nai : Nat) (xth : Int32) (xra : Int32) (xas : Int32) (xan : Int32) (xst : Int32) (xhr : Int32) (xhb : Int32) (xse : Int32) (xbe : Int32) (xrg : Int32) (a1 : Nat) (a2 : Nat) (a3 : Nat) (a4 : Nat) (a5 : Nat) (a6 : Nat) (a7 : Nat) (a8 : Nat) (a9 : Nat) (b1 : Nat) (b2 : Nat) (b3 : Nat) (b4 : Nat) (b5 : Nat) (b6 : Nat) (b7 : Nat) (b8 : Nat) (c1 : Nat) (c2 : Nat) (c3 : Nat) (c4 : Nat) (c5 : Nat) (c6 : Nat) (c7 : Nat) (xk : Int32) (hbad : xas = 0 ∨ xan < 0 ∨ xk < 0 ∨ ¬ xk < xan) : Mi l D tc tb y_MO_got prog_10_method_45_code 2 (some .int) ({ frames := 0, cells := 0, slots := 0, locals := 0 }) [.ref h0, .int (xk)] [(h0, .inr (8, [.int (xth), .int (nI nby), .ref a1, .int (xra), .int (nI ndb), .ref a2, .int (nI ncb), .ref a3, .ref a4, .int (nI nfr), .ref a5, .ref a6, .int (nI nsy), .int (nI nai), .ref a7, .ref a8, .int (xas), .int (xan), .int (xst), .int (xhr), .int (xhb), .int (xse), .int (xbe), .ref a9, .ref b1, .ref b2, .ref b3, .ref b4, .ref b5, .ref b6, .ref b7, .ref b8, .ref c1, .ref c2, .ref c3, .ref c4, .ref c5, .ref c6, .ref c7, .int (xrg)]))] (fun _ : Unit => True) (fun _ : Unit => -1) (fun _ : Unit => [(h0, .inr (8, [.int (nI 0), .int (nI nby), .ref a1, .int (xra), .int (nI ndb), .ref a2, .int (nI ncb), .ref a3, .ref a4, .int (nI nfr), .ref a5, .ref a6, .int (nI nsy), .int (nI nai), .ref a7, .ref a8, .int (xas), .int (xan), .int (xst), .int (xhr), .int (xhb), .int (xse), .int (xbe), .ref a9, .ref b1, .ref b2, .ref b3, .ref b4, .ref b5, .ref b6, .ref b7, .ref b8, .ref c1, .ref c2, .ref c3, .ref c4, .ref c5, .ref c6, .ref c7, .int (xrg)]))]) := by
  refine Mi.go (by decide) (Nat.le_of_ble_eq_true rfl) ?_
  intro p e s m below meth c A ls R args Q C
  obtain ⟨hx, hb, hr, hts, hown, hlk, hml, hin, hA, hST, hN, hK, hP, hD, hS, hl, hR, hQ⟩ := C
  have hw : ∀ w ∈ lw_g, w.before args s = true := fun w h => hts w (List.mem_cons_of_mem _ h)
  have hl : lv_has ls 2 [(0, .ref h0), (1, .int (xk))] := hl
  refine lv_aload_n hx hb d_MO_got_0 rfl (lv_at hl 0 rfl) ?_
  refine lv_iconst (v := nI 0) hx hb d_MO_got_1 (by decide) ?_
  refine k_put (ws' := [(h0, .inr (8, [.int (nI 0), .int (nI nby), .ref a1, .int (xra), .int (nI ndb), .ref a2, .int (nI ncb), .ref a3, .ref a4, .int (nI nfr), .ref a5, .ref a6, .int (nI nsy), .int (nI nai), .ref a7, .ref a8, .int (xas), .int (xan), .int (xst), .int (xhr), .int (xhb), .int (xse), .int (xbe), .ref a9, .ref b1, .ref b2, .ref b3, .ref b4, .ref b5, .ref b6, .ref b7, .ref b8, .ref c1, .ref c2, .ref c3, .ref c4, .ref c5, .ref c6, .ref c7, .int (xrg)]))]) hx hb hw uw_MO tok_MO nn_MO hown hK hP hD hS 0 rfl rfl 0 (by decide) (hw _ wd_714) rfl rfl rfl (Nat.le_of_ble_eq_true rfl) d_MO_got_2 rfl (fun H locs hP hD hS => ?_)
  refine lv_aload_n hx hb d_MO_got_5 rfl (lv_at hl 0 rfl) ?_
  refine k_get hx hb hw uw_MO hown hK hP 0 rfl rfl 16 (by decide) (hw _ wd_730) rfl d_MO_got_6 ?_
  refine lv_if_eq (tgt := 31) hx hb d_MO_got_9 (by decide) (fun h9 => ?_) (fun h9 => ?_)
  · refine lv_iconst (v := -1) hx hb d_MO_got_31 (by decide) ?_
    refine lv_goto (tgt := 41) hx hb d_MO_got_32 (by decide) ?_
    rw [hQ]
    exact k_iret () hx hb hr hlk hK hP hD hS [0] (by decide) rfl trivial rfl d_MO_got_41
  · refine lv_aload_n hx hb d_MO_got_12 rfl (lv_at hl 0 rfl) ?_
    refine k_get hx hb hw uw_MO hown hK hP 0 rfl rfl 17 (by decide) (hw _ wd_731) rfl d_MO_got_13 ?_
    refine lv_if_lt (tgt := 31) hx hb d_MO_got_16 (by decide) (fun h16 => ?_) (fun h16 => ?_)
    · refine lv_iconst (v := -1) hx hb d_MO_got_31 (by decide) ?_
      refine lv_goto (tgt := 41) hx hb d_MO_got_32 (by decide) ?_
      rw [hQ]
      exact k_iret () hx hb hr hlk hK hP hD hS [0] (by decide) rfl trivial rfl d_MO_got_41
    · refine lv_iload_n hx hb d_MO_got_19 rfl (lv_at hl 1 rfl) ?_
      refine lv_if_lt (tgt := 31) hx hb d_MO_got_20 (by decide) (fun h20 => ?_) (fun h20 => ?_)
      · refine lv_iconst (v := -1) hx hb d_MO_got_31 (by decide) ?_
        refine lv_goto (tgt := 41) hx hb d_MO_got_32 (by decide) ?_
        rw [hQ]
        exact k_iret () hx hb hr hlk hK hP hD hS [0] (by decide) rfl trivial rfl d_MO_got_41
      · refine lv_iload_n hx hb d_MO_got_23 rfl (lv_at hl 1 rfl) ?_
        refine lv_aload_n hx hb d_MO_got_24 rfl (lv_at hl 0 rfl) ?_
        refine k_get hx hb hw uw_MO hown hK hP 0 rfl rfl 17 (by decide) (hw _ wd_731) rfl d_MO_got_25 ?_
        refine lv_icmp_lt (tgt := 35) hx hb d_MO_got_28 (by decide) (fun h28 => ?_) (fun h28 => ?_)
        · exact False.elim (by rcases hbad with q | q | q | q; exact h9 q; exact h16 q; exact h20 q; exact q h28)
        · refine lv_iconst (v := -1) hx hb d_MO_got_31 (by decide) ?_
          refine lv_goto (tgt := 41) hx hb d_MO_got_32 (by decide) ?_
          rw [hQ]
          exact k_iret () hx hb hr hlk hK hP hD hS [0] (by decide) rfl trivial rfl d_MO_got_41
set_option maxHeartbeats 4000000 in
set_option maxRecDepth 100000 in
theorem c_MO_got_ok (l : Launch) (D : va_G) (tc : Nat → ClassId) (tb : Nat → Nat) (h0 : Nat) (nby : Nat) (ndb : Nat) (ncb : Nat) (nfr : Nat) (nsy : Nat) (nai : Nat) (xth : Int32) (xra : Int32) (xas : Int32) (xst : Int32) (xhr : Int32) (xhb : Int32) (xse : Int32) (xbe : Int32) (xrg : Int32) (a1 : Nat) (a2 : Nat) (a3 : Nat) (a4 : Nat) (a5 : Nat) (a6 : Nat) (a7 : Nat) (a8 : Nat) (a9 : Nat) (b1 : Nat) (b2 : Nat) (b3 : Nat) (b4 : Nat) (b5 : Nat) (b6 : Nat) (b7 : Nat) (b8 : Nat) (c1 : Nat) (c2 : Nat) (c3 : Nat) (c4 : Nat) (c5 : Nat) (c6 : Nat) (c7 : Nat) (an : Nat) (f : Nat → Int32) (k : Nat) (has_ : ¬ xas = 0) (hk : k < an) (han : an ≤ 12) : Mi l D tc tb y_MO_got prog_10_method_45_code 2 (some .int) ({ frames := 0, cells := 0, slots := 0, locals := 0 }) [.ref h0, .int (nI k)] [(h0, .inr (8, [.int (xth), .int (nI nby), .ref a1, .int (xra), .int (nI ndb), .ref a2, .int (nI ncb), .ref a3, .ref a4, .int (nI nfr), .ref a5, .ref a6, .int (nI nsy), .int (nI nai), .ref a7, .ref a8, .int (xas), .int (nI an), .int (xst), .int (xhr), .int (xhb), .int (xse), .int (xbe), .ref a9, .ref b1, .ref b2, .ref b3, .ref b4, .ref b5, .ref b6, .ref b7, .ref b8, .ref c1, .ref c2, .ref c3, .ref c4, .ref c5, .ref c6, .ref c7, .int (xrg)])), (a9, .inl (tc 0, 12, .inl f))] (fun _ : Unit => True) (fun _ : Unit => f k) (fun _ : Unit => [(h0, .inr (8, [.int (nI 0), .int (nI nby), .ref a1, .int (xra), .int (nI ndb), .ref a2, .int (nI ncb), .ref a3, .ref a4, .int (nI nfr), .ref a5, .ref a6, .int (nI nsy), .int (nI nai), .ref a7, .ref a8, .int (xas), .int (nI an), .int (xst), .int (xhr), .int (xhb), .int (xse), .int (xbe), .ref a9, .ref b1, .ref b2, .ref b3, .ref b4, .ref b5, .ref b6, .ref b7, .ref b8, .ref c1, .ref c2, .ref c3, .ref c4, .ref c5, .ref c6, .ref c7, .int (xrg)])), (a9, .inl (tc 0, 12, .inl f))]) := by
  refine Mi.go (by decide) (Nat.le_of_ble_eq_true rfl) ?_
  intro p e s m below meth c A ls R args Q C
  obtain ⟨hx, hb, hr, hts, hown, hlk, hml, hin, hA, hST, hN, hK, hP, hD, hS, hl, hR, hQ⟩ := C
  have hw : ∀ w ∈ lw_g, w.before args s = true := fun w h => hts w (List.mem_cons_of_mem _ h)
  have hl : lv_has ls 2 [(0, .ref h0), (1, .int (nI k))] := hl
  refine lv_aload_n hx hb d_MO_got_0 rfl (lv_at hl 0 rfl) ?_
  refine lv_iconst (v := nI 0) hx hb d_MO_got_1 (by decide) ?_
  refine k_put (ws' := [(h0, .inr (8, [.int (nI 0), .int (nI nby), .ref a1, .int (xra), .int (nI ndb), .ref a2, .int (nI ncb), .ref a3, .ref a4, .int (nI nfr), .ref a5, .ref a6, .int (nI nsy), .int (nI nai), .ref a7, .ref a8, .int (xas), .int (nI an), .int (xst), .int (xhr), .int (xhb), .int (xse), .int (xbe), .ref a9, .ref b1, .ref b2, .ref b3, .ref b4, .ref b5, .ref b6, .ref b7, .ref b8, .ref c1, .ref c2, .ref c3, .ref c4, .ref c5, .ref c6, .ref c7, .int (xrg)])), (a9, .inl (tc 0, 12, .inl f))]) hx hb hw uw_MO tok_MO nn_MO hown hK hP hD hS 0 rfl rfl 0 (by decide) (hw _ wd_714) rfl rfl rfl (Nat.le_of_ble_eq_true rfl) d_MO_got_2 rfl (fun H locs hP hD hS => ?_)
  refine lv_aload_n hx hb d_MO_got_5 rfl (lv_at hl 0 rfl) ?_
  refine k_get hx hb hw uw_MO hown hK hP 0 rfl rfl 16 (by decide) (hw _ wd_730) rfl d_MO_got_6 ?_
  refine lv_if_eq (tgt := 31) hx hb d_MO_got_9 (by decide) (fun h9 => ?_) (fun h9 => ?_)
  · exact absurd h9 has_
  · refine lv_aload_n hx hb d_MO_got_12 rfl (lv_at hl 0 rfl) ?_
    refine k_get hx hb hw uw_MO hown hK hP 0 rfl rfl 17 (by decide) (hw _ wd_731) rfl d_MO_got_13 ?_
    refine lv_if_lt (tgt := 31) hx hb d_MO_got_16 (by decide) (fun h16 => ?_) (fun h16 => ?_)
    · exact absurd h16 (nI_pos (by omega))
    · refine lv_iload_n hx hb d_MO_got_19 rfl (lv_at hl 1 rfl) ?_
      refine lv_if_lt (tgt := 31) hx hb d_MO_got_20 (by decide) (fun h20 => ?_) (fun h20 => ?_)
      · exact absurd h20 (nI_pos (by omega))
      · refine lv_iload_n hx hb d_MO_got_23 rfl (lv_at hl 1 rfl) ?_
        refine lv_aload_n hx hb d_MO_got_24 rfl (lv_at hl 0 rfl) ?_
        refine k_get hx hb hw uw_MO hown hK hP 0 rfl rfl 17 (by decide) (hw _ wd_731) rfl d_MO_got_25 ?_
        refine k_icmp_lt (tgt := 35) hx hb d_MO_got_28 (by decide) (by omega) (by omega) (fun h28 => ?_) (fun h28 => ?_)
        · refine lv_aload_n hx hb d_MO_got_35 rfl (lv_at hl 0 rfl) ?_
          refine k_get hx hb hw uw_MO hown hK hP 0 rfl rfl 23 (by decide) (hw _ wd_737) rfl d_MO_got_36 ?_
          refine lv_iload_n hx hb d_MO_got_39 rfl (lv_at hl 1 rfl) ?_
          refine k_iald hx hb hK hP 1 0 rfl rfl (by omega) (by omega) d_MO_got_40 ?_
          rw [hQ]
          exact k_iret () hx hb hr hlk hK hP hD hS [0, 1] (by decide) rfl trivial rfl d_MO_got_41
        · exfalso; omega
set_option maxHeartbeats 4000000 in
set_option maxRecDepth 100000 in
theorem c_MO_heard_no (l : Launch) (D : va_G) (tc : Nat → ClassId) (tb : Nat → Nat) (h0 : Nat) (nby : Nat) (ndb : Nat) (ncb : Nat) (nfr : Nat) (nsy : Nat) (nai : Nat) (xth : Int32) (xra : Int32) (xas : Int32) (xan : Int32) (xst : Int32) (xhr : Int32) (xhb : Int32) (xse : Int32) (xbe : Int32) (xrg : Int32) (a1 : Nat) (a2 : Nat) (a3 : Nat) (a4 : Nat) (a5 : Nat) (a6 : Nat) (a7 : Nat) (a8 : Nat) (a9 : Nat) (b1 : Nat) (b2 : Nat) (b3 : Nat) (b4 : Nat) (b5 : Nat) (b6 : Nat) (b7 : Nat) (b8 : Nat) (c1 : Nat) (c2 : Nat) (c3 : Nat) (c4 : Nat) (c5 : Nat) (c6 : Nat) (c7 : Nat) (xk : Int32) (hbad : xas = 0 ∨ xk < 0 ∨ nI 5 < xk) : Mi l D tc tb y_MO_heard prog_10_method_46_code 2 (some .int) ({ frames := 0, cells := 0, slots := 0, locals := 0 }) [.ref h0, .int (xk)] [(h0, .inr (8, [.int (xth), .int (nI nby), .ref a1, .int (xra), .int (nI ndb), .ref a2, .int (nI ncb), .ref a3, .ref a4, .int (nI nfr), .ref a5, .ref a6, .int (nI nsy), .int (nI nai), .ref a7, .ref a8, .int (xas), .int (xan), .int (xst), .int (xhr), .int (xhb), .int (xse), .int (xbe), .ref a9, .ref b1, .ref b2, .ref b3, .ref b4, .ref b5, .ref b6, .ref b7, .ref b8, .ref c1, .ref c2, .ref c3, .ref c4, .ref c5, .ref c6, .ref c7, .int (xrg)]))] (fun _ : Unit => True) (fun _ : Unit => -1) (fun _ : Unit => [(h0, .inr (8, [.int (nI 0), .int (nI nby), .ref a1, .int (xra), .int (nI ndb), .ref a2, .int (nI ncb), .ref a3, .ref a4, .int (nI nfr), .ref a5, .ref a6, .int (nI nsy), .int (nI nai), .ref a7, .ref a8, .int (xas), .int (xan), .int (xst), .int (xhr), .int (xhb), .int (xse), .int (xbe), .ref a9, .ref b1, .ref b2, .ref b3, .ref b4, .ref b5, .ref b6, .ref b7, .ref b8, .ref c1, .ref c2, .ref c3, .ref c4, .ref c5, .ref c6, .ref c7, .int (xrg)]))]) := by
  refine Mi.go (by decide) (Nat.le_of_ble_eq_true rfl) ?_
  intro p e s m below meth c A ls R args Q C
  obtain ⟨hx, hb, hr, hts, hown, hlk, hml, hin, hA, hST, hN, hK, hP, hD, hS, hl, hR, hQ⟩ := C
  have hw : ∀ w ∈ lw_g, w.before args s = true := fun w h => hts w (List.mem_cons_of_mem _ h)
  have hl : lv_has ls 2 [(0, .ref h0), (1, .int (xk))] := hl
  refine lv_aload_n hx hb d_MO_heard_0 rfl (lv_at hl 0 rfl) ?_
  refine lv_iconst (v := nI 0) hx hb d_MO_heard_1 (by decide) ?_
  refine k_put (ws' := [(h0, .inr (8, [.int (nI 0), .int (nI nby), .ref a1, .int (xra), .int (nI ndb), .ref a2, .int (nI ncb), .ref a3, .ref a4, .int (nI nfr), .ref a5, .ref a6, .int (nI nsy), .int (nI nai), .ref a7, .ref a8, .int (xas), .int (xan), .int (xst), .int (xhr), .int (xhb), .int (xse), .int (xbe), .ref a9, .ref b1, .ref b2, .ref b3, .ref b4, .ref b5, .ref b6, .ref b7, .ref b8, .ref c1, .ref c2, .ref c3, .ref c4, .ref c5, .ref c6, .ref c7, .int (xrg)]))]) hx hb hw uw_MO tok_MO nn_MO hown hK hP hD hS 0 rfl rfl 0 (by decide) (hw _ wd_714) rfl rfl rfl (Nat.le_of_ble_eq_true rfl) d_MO_heard_2 rfl (fun H locs hP hD hS => ?_)
  refine lv_aload_n hx hb d_MO_heard_5 rfl (lv_at hl 0 rfl) ?_
  refine k_get hx hb hw uw_MO hown hK hP 0 rfl rfl 16 (by decide) (hw _ wd_730) rfl d_MO_heard_6 ?_
  refine lv_if_eq (tgt := 35) hx hb d_MO_heard_9 (by decide) (fun h9 => ?_) (fun h9 => ?_)
  · refine lv_iconst (v := -1) hx hb d_MO_heard_35 (by decide) ?_
    rw [hQ]
    exact k_iret () hx hb hr hlk hK hP hD hS [0] (by decide) rfl trivial rfl d_MO_heard_36
  · refine lv_iload_n hx hb d_MO_heard_12 rfl (lv_at hl 1 rfl) ?_
    refine lv_if_lt (tgt := 35) hx hb d_MO_heard_13 (by decide) (fun h13 => ?_) (fun h13 => ?_)
    · refine lv_iconst (v := -1) hx hb d_MO_heard_35 (by decide) ?_
      rw [hQ]
      exact k_iret () hx hb hr hlk hK hP hD hS [0] (by decide) rfl trivial rfl d_MO_heard_36
    · refine lv_iload_n hx hb d_MO_heard_16 rfl (lv_at hl 1 rfl) ?_
      refine lv_iconst (v := nI 5) hx hb d_MO_heard_17 (by decide) ?_
      refine lv_icmp_gt (tgt := 35) hx hb d_MO_heard_18 (by decide) (fun h18 => ?_) (fun h18 => ?_)
      · refine lv_iconst (v := -1) hx hb d_MO_heard_35 (by decide) ?_
        rw [hQ]
        exact k_iret () hx hb hr hlk hK hP hD hS [0] (by decide) rfl trivial rfl d_MO_heard_36
      · exact False.elim (by rcases hbad with q | q | q; exact h9 q; exact h13 q; exact h18 q)
set_option maxHeartbeats 4000000 in
set_option maxRecDepth 100000 in
theorem c_MO_heard_0 (l : Launch) (D : va_G) (tc : Nat → ClassId) (tb : Nat → Nat) (h0 : Nat) (nby : Nat) (ndb : Nat) (ncb : Nat) (nfr : Nat) (nsy : Nat) (nai : Nat) (xth : Int32) (xra : Int32) (xas : Int32) (xan : Int32) (xst : Int32) (xhr : Int32) (xhb : Int32) (xse : Int32) (xbe : Int32) (xrg : Int32) (a1 : Nat) (a2 : Nat) (a3 : Nat) (a4 : Nat) (a5 : Nat) (a6 : Nat) (a7 : Nat) (a8 : Nat) (a9 : Nat) (b1 : Nat) (b2 : Nat) (b3 : Nat) (b4 : Nat) (b5 : Nat) (b6 : Nat) (b7 : Nat) (b8 : Nat) (c1 : Nat) (c2 : Nat) (c3 : Nat) (c4 : Nat) (c5 : Nat) (c6 : Nat) (c7 : Nat) (has_ : ¬ xas = 0) : Mi l D tc tb y_MO_heard prog_10_method_46_code 2 (some .int) ({ frames := 0, cells := 0, slots := 0, locals := 0 }) [.ref h0, .int (nI 0)] [(h0, .inr (8, [.int (xth), .int (nI nby), .ref a1, .int (xra), .int (nI ndb), .ref a2, .int (nI ncb), .ref a3, .ref a4, .int (nI nfr), .ref a5, .ref a6, .int (nI nsy), .int (nI nai), .ref a7, .ref a8, .int (xas), .int (xan), .int (xst), .int (xhr), .int (xhb), .int (xse), .int (xbe), .ref a9, .ref b1, .ref b2, .ref b3, .ref b4, .ref b5, .ref b6, .ref b7, .ref b8, .ref c1, .ref c2, .ref c3, .ref c4, .ref c5, .ref c6, .ref c7, .int (xrg)]))] (fun _ : Unit => True) (fun _ : Unit => xan) (fun _ : Unit => [(h0, .inr (8, [.int (nI 0), .int (nI nby), .ref a1, .int (xra), .int (nI ndb), .ref a2, .int (nI ncb), .ref a3, .ref a4, .int (nI nfr), .ref a5, .ref a6, .int (nI nsy), .int (nI nai), .ref a7, .ref a8, .int (xas), .int (xan), .int (xst), .int (xhr), .int (xhb), .int (xse), .int (xbe), .ref a9, .ref b1, .ref b2, .ref b3, .ref b4, .ref b5, .ref b6, .ref b7, .ref b8, .ref c1, .ref c2, .ref c3, .ref c4, .ref c5, .ref c6, .ref c7, .int (xrg)]))]) := by
  refine Mi.go (by decide) (Nat.le_of_ble_eq_true rfl) ?_
  intro p e s m below meth c A ls R args Q C
  obtain ⟨hx, hb, hr, hts, hown, hlk, hml, hin, hA, hST, hN, hK, hP, hD, hS, hl, hR, hQ⟩ := C
  have hw : ∀ w ∈ lw_g, w.before args s = true := fun w h => hts w (List.mem_cons_of_mem _ h)
  have hl : lv_has ls 2 [(0, .ref h0), (1, .int (nI 0))] := hl
  refine lv_aload_n hx hb d_MO_heard_0 rfl (lv_at hl 0 rfl) ?_
  refine lv_iconst (v := nI 0) hx hb d_MO_heard_1 (by decide) ?_
  refine k_put (ws' := [(h0, .inr (8, [.int (nI 0), .int (nI nby), .ref a1, .int (xra), .int (nI ndb), .ref a2, .int (nI ncb), .ref a3, .ref a4, .int (nI nfr), .ref a5, .ref a6, .int (nI nsy), .int (nI nai), .ref a7, .ref a8, .int (xas), .int (xan), .int (xst), .int (xhr), .int (xhb), .int (xse), .int (xbe), .ref a9, .ref b1, .ref b2, .ref b3, .ref b4, .ref b5, .ref b6, .ref b7, .ref b8, .ref c1, .ref c2, .ref c3, .ref c4, .ref c5, .ref c6, .ref c7, .int (xrg)]))]) hx hb hw uw_MO tok_MO nn_MO hown hK hP hD hS 0 rfl rfl 0 (by decide) (hw _ wd_714) rfl rfl rfl (Nat.le_of_ble_eq_true rfl) d_MO_heard_2 rfl (fun H locs hP hD hS => ?_)
  refine lv_aload_n hx hb d_MO_heard_5 rfl (lv_at hl 0 rfl) ?_
  refine k_get hx hb hw uw_MO hown hK hP 0 rfl rfl 16 (by decide) (hw _ wd_730) rfl d_MO_heard_6 ?_
  refine lv_if_eq (tgt := 35) hx hb d_MO_heard_9 (by decide) (fun h9 => ?_) (fun h9 => ?_)
  · exact absurd h9 has_
  · refine lv_iload_n hx hb d_MO_heard_12 rfl (lv_at hl 1 rfl) ?_
    refine lv_if_lt (tgt := 35) hx hb d_MO_heard_13 (by decide) (fun h13 => ?_) (fun h13 => ?_)
    · exact absurd h13 (by decide)
    · refine lv_iload_n hx hb d_MO_heard_16 rfl (lv_at hl 1 rfl) ?_
      refine lv_iconst (v := nI 5) hx hb d_MO_heard_17 (by decide) ?_
      refine k_icmp_gt (tgt := 35) hx hb d_MO_heard_18 (by decide) (by omega) (by omega) (fun h18 => ?_) (fun h18 => ?_)
      · exfalso; omega
      · refine lv_iload_n hx hb d_MO_heard_21 rfl (lv_at hl 1 rfl) ?_
        refine lv_iconst (v := nI 1) hx hb d_MO_heard_22 (by decide) ?_
        refine k_icmp_ne (tgt := 37) hx hb d_MO_heard_23 (by decide) (by omega) (by omega) (fun h23 => ?_) (fun h23 => ?_)
        · refine lv_iload_n hx hb d_MO_heard_37 rfl (lv_at hl 1 rfl) ?_
          refine lv_iconst (v := nI 1) hx hb d_MO_heard_38 (by decide) ?_
          refine k_icmp_le (tgt := 60) hx hb d_MO_heard_39 (by decide) (by omega) (by omega) (fun h39 => ?_) (fun h39 => ?_)
          · refine lv_iload_n hx hb d_MO_heard_60 rfl (lv_at hl 1 rfl) ?_
            refine lv_iconst (v := nI 3) hx hb d_MO_heard_61 (by decide) ?_
            refine k_icmp_le (tgt := 76) hx hb d_MO_heard_62 (by decide) (by omega) (by omega) (fun h62 => ?_) (fun h62 => ?_)
            · refine lv_iload_n hx hb d_MO_heard_76 rfl (lv_at hl 1 rfl) ?_
              refine k_if_ne (tgt := 87) hx hb d_MO_heard_77 (by decide) (by omega) (fun h77 => ?_) (fun h77 => ?_)
              · exfalso; omega
              · refine lv_aload_n hx hb d_MO_heard_80 rfl (lv_at hl 0 rfl) ?_
                refine k_get hx hb hw uw_MO hown hK hP 0 rfl rfl 17 (by decide) (hw _ wd_731) rfl d_MO_heard_81 ?_
                refine lv_goto (tgt := 139) hx hb d_MO_heard_84 (by decide) ?_
                rw [hQ]
                exact k_iret () hx hb hr hlk hK hP hD hS [0] (by decide) rfl trivial rfl d_MO_heard_139
            · exfalso; omega
          · exfalso; omega
        · exfalso; omega
set_option maxHeartbeats 4000000 in
set_option maxRecDepth 100000 in
theorem c_MO_heard_1 (l : Launch) (D : va_G) (tc : Nat → ClassId) (tb : Nat → Nat) (h0 : Nat) (nby : Nat) (ndb : Nat) (ncb : Nat) (nfr : Nat) (nsy : Nat) (nai : Nat) (xth : Int32) (xra : Int32) (xas : Int32) (xan : Int32) (xst : Int32) (xhr : Int32) (xhb : Int32) (xse : Int32) (xbe : Int32) (xrg : Int32) (a1 : Nat) (a2 : Nat) (a3 : Nat) (a4 : Nat) (a5 : Nat) (a6 : Nat) (a7 : Nat) (a8 : Nat) (a9 : Nat) (b1 : Nat) (b2 : Nat) (b3 : Nat) (b4 : Nat) (b5 : Nat) (b6 : Nat) (b7 : Nat) (b8 : Nat) (c1 : Nat) (c2 : Nat) (c3 : Nat) (c4 : Nat) (c5 : Nat) (c6 : Nat) (c7 : Nat) (has_ : ¬ xas = 0) : Mi l D tc tb y_MO_heard prog_10_method_46_code 2 (some .int) ({ frames := 0, cells := 0, slots := 0, locals := 0 }) [.ref h0, .int (nI 1)] [(h0, .inr (8, [.int (xth), .int (nI nby), .ref a1, .int (xra), .int (nI ndb), .ref a2, .int (nI ncb), .ref a3, .ref a4, .int (nI nfr), .ref a5, .ref a6, .int (nI nsy), .int (nI nai), .ref a7, .ref a8, .int (xas), .int (xan), .int (xst), .int (xhr), .int (xhb), .int (xse), .int (xbe), .ref a9, .ref b1, .ref b2, .ref b3, .ref b4, .ref b5, .ref b6, .ref b7, .ref b8, .ref c1, .ref c2, .ref c3, .ref c4, .ref c5, .ref c6, .ref c7, .int (xrg)]))] (fun _ : Unit => True) (fun _ : Unit => hd1 xan xst) (fun _ : Unit => [(h0, .inr (8, [.int (nI 0), .int (nI nby), .ref a1, .int (xra), .int (nI ndb), .ref a2, .int (nI ncb), .ref a3, .ref a4, .int (nI nfr), .ref a5, .ref a6, .int (nI nsy), .int (nI nai), .ref a7, .ref a8, .int (xas), .int (xan), .int (xst), .int (xhr), .int (xhb), .int (xse), .int (xbe), .ref a9, .ref b1, .ref b2, .ref b3, .ref b4, .ref b5, .ref b6, .ref b7, .ref b8, .ref c1, .ref c2, .ref c3, .ref c4, .ref c5, .ref c6, .ref c7, .int (xrg)]))]) := by
  refine Mi.go (by decide) (Nat.le_of_ble_eq_true rfl) ?_
  intro p e s m below meth c A ls R args Q C
  obtain ⟨hx, hb, hr, hts, hown, hlk, hml, hin, hA, hST, hN, hK, hP, hD, hS, hl, hR, hQ⟩ := C
  have hw : ∀ w ∈ lw_g, w.before args s = true := fun w h => hts w (List.mem_cons_of_mem _ h)
  have hl : lv_has ls 2 [(0, .ref h0), (1, .int (nI 1))] := hl
  refine lv_aload_n hx hb d_MO_heard_0 rfl (lv_at hl 0 rfl) ?_
  refine lv_iconst (v := nI 0) hx hb d_MO_heard_1 (by decide) ?_
  refine k_put (ws' := [(h0, .inr (8, [.int (nI 0), .int (nI nby), .ref a1, .int (xra), .int (nI ndb), .ref a2, .int (nI ncb), .ref a3, .ref a4, .int (nI nfr), .ref a5, .ref a6, .int (nI nsy), .int (nI nai), .ref a7, .ref a8, .int (xas), .int (xan), .int (xst), .int (xhr), .int (xhb), .int (xse), .int (xbe), .ref a9, .ref b1, .ref b2, .ref b3, .ref b4, .ref b5, .ref b6, .ref b7, .ref b8, .ref c1, .ref c2, .ref c3, .ref c4, .ref c5, .ref c6, .ref c7, .int (xrg)]))]) hx hb hw uw_MO tok_MO nn_MO hown hK hP hD hS 0 rfl rfl 0 (by decide) (hw _ wd_714) rfl rfl rfl (Nat.le_of_ble_eq_true rfl) d_MO_heard_2 rfl (fun H locs hP hD hS => ?_)
  refine lv_aload_n hx hb d_MO_heard_5 rfl (lv_at hl 0 rfl) ?_
  refine k_get hx hb hw uw_MO hown hK hP 0 rfl rfl 16 (by decide) (hw _ wd_730) rfl d_MO_heard_6 ?_
  refine lv_if_eq (tgt := 35) hx hb d_MO_heard_9 (by decide) (fun h9 => ?_) (fun h9 => ?_)
  · exact absurd h9 has_
  · refine lv_iload_n hx hb d_MO_heard_12 rfl (lv_at hl 1 rfl) ?_
    refine lv_if_lt (tgt := 35) hx hb d_MO_heard_13 (by decide) (fun h13 => ?_) (fun h13 => ?_)
    · exact absurd h13 (by decide)
    · refine lv_iload_n hx hb d_MO_heard_16 rfl (lv_at hl 1 rfl) ?_
      refine lv_iconst (v := nI 5) hx hb d_MO_heard_17 (by decide) ?_
      refine k_icmp_gt (tgt := 35) hx hb d_MO_heard_18 (by decide) (by omega) (by omega) (fun h18 => ?_) (fun h18 => ?_)
      · exfalso; omega
      · refine lv_iload_n hx hb d_MO_heard_21 rfl (lv_at hl 1 rfl) ?_
        refine lv_iconst (v := nI 1) hx hb d_MO_heard_22 (by decide) ?_
        refine k_icmp_ne (tgt := 37) hx hb d_MO_heard_23 (by decide) (by omega) (by omega) (fun h23 => ?_) (fun h23 => ?_)
        · exfalso; omega
        · refine lv_aload_n hx hb d_MO_heard_26 rfl (lv_at hl 0 rfl) ?_
          refine k_get hx hb hw uw_MO hown hK hP 0 rfl rfl 17 (by decide) (hw _ wd_731) rfl d_MO_heard_27 ?_
          refine lv_bipush (v := -2) hx hb d_MO_heard_30 (by decide) ?_
          refine lv_icmp_ne (tgt := 37) hx hb d_MO_heard_32 (by decide) (fun h32 => ?_) (fun h32 => ?_)
          · refine lv_iload_n hx hb d_MO_heard_37 rfl (lv_at hl 1 rfl) ?_
            refine lv_iconst (v := nI 1) hx hb d_MO_heard_38 (by decide) ?_
            refine k_icmp_le (tgt := 60) hx hb d_MO_heard_39 (by decide) (by omega) (by omega) (fun h39 => ?_) (fun h39 => ?_)
            · refine lv_iload_n hx hb d_MO_heard_60 rfl (lv_at hl 1 rfl) ?_
              refine lv_iconst (v := nI 3) hx hb d_MO_heard_61 (by decide) ?_
              refine k_icmp_le (tgt := 76) hx hb d_MO_heard_62 (by decide) (by omega) (by omega) (fun h62 => ?_) (fun h62 => ?_)
              · refine lv_iload_n hx hb d_MO_heard_76 rfl (lv_at hl 1 rfl) ?_
                refine k_if_ne (tgt := 87) hx hb d_MO_heard_77 (by decide) (by omega) (fun h77 => ?_) (fun h77 => ?_)
                · refine lv_iload_n hx hb d_MO_heard_87 rfl (lv_at hl 1 rfl) ?_
                  refine lv_iconst (v := nI 1) hx hb d_MO_heard_88 (by decide) ?_
                  refine k_icmp_ne (tgt := 99) hx hb d_MO_heard_89 (by decide) (by omega) (by omega) (fun h89 => ?_) (fun h89 => ?_)
                  · exfalso; omega
                  · refine lv_aload_n hx hb d_MO_heard_92 rfl (lv_at hl 0 rfl) ?_
                    refine k_get hx hb hw uw_MO hown hK hP 0 rfl rfl 18 (by decide) (hw _ wd_732) rfl d_MO_heard_93 ?_
                    refine lv_goto (tgt := 139) hx hb d_MO_heard_96 (by decide) ?_
                    rw [hQ]
                    exact k_iret () hx hb hr hlk hK hP hD hS [0] (by decide) rfl trivial (by unfold hd1; first | rw [if_neg h32] | rw [if_pos h32]) d_MO_heard_139
                · exfalso; omega
              · exfalso; omega
            · exfalso; omega
          · refine lv_iconst (v := -1) hx hb d_MO_heard_35 (by decide) ?_
            rw [hQ]
            exact k_iret () hx hb hr hlk hK hP hD hS [0] (by decide) rfl trivial (by unfold hd1; first | rw [if_neg h32] | rw [if_pos h32]) d_MO_heard_36
set_option maxHeartbeats 4000000 in
set_option maxRecDepth 100000 in
theorem c_MO_heard_2 (l : Launch) (D : va_G) (tc : Nat → ClassId) (tb : Nat → Nat) (h0 : Nat) (nby : Nat) (ndb : Nat) (ncb : Nat) (nfr : Nat) (nsy : Nat) (nai : Nat) (xth : Int32) (xra : Int32) (xas : Int32) (xan : Int32) (xst : Int32) (xhr : Int32) (xhb : Int32) (xse : Int32) (xbe : Int32) (xrg : Int32) (a1 : Nat) (a2 : Nat) (a3 : Nat) (a4 : Nat) (a5 : Nat) (a6 : Nat) (a7 : Nat) (a8 : Nat) (a9 : Nat) (b1 : Nat) (b2 : Nat) (b3 : Nat) (b4 : Nat) (b5 : Nat) (b6 : Nat) (b7 : Nat) (b8 : Nat) (c1 : Nat) (c2 : Nat) (c3 : Nat) (c4 : Nat) (c5 : Nat) (c6 : Nat) (c7 : Nat) (has_ : ¬ xas = 0) : Mi l D tc tb y_MO_heard prog_10_method_46_code 2 (some .int) ({ frames := 0, cells := 0, slots := 0, locals := 0 }) [.ref h0, .int (nI 2)] [(h0, .inr (8, [.int (xth), .int (nI nby), .ref a1, .int (xra), .int (nI ndb), .ref a2, .int (nI ncb), .ref a3, .ref a4, .int (nI nfr), .ref a5, .ref a6, .int (nI nsy), .int (nI nai), .ref a7, .ref a8, .int (xas), .int (xan), .int (xst), .int (xhr), .int (xhb), .int (xse), .int (xbe), .ref a9, .ref b1, .ref b2, .ref b3, .ref b4, .ref b5, .ref b6, .ref b7, .ref b8, .ref c1, .ref c2, .ref c3, .ref c4, .ref c5, .ref c6, .ref c7, .int (xrg)]))] (fun _ : Unit => True) (fun _ : Unit => hd2 xan xhr) (fun _ : Unit => [(h0, .inr (8, [.int (nI 0), .int (nI nby), .ref a1, .int (xra), .int (nI ndb), .ref a2, .int (nI ncb), .ref a3, .ref a4, .int (nI nfr), .ref a5, .ref a6, .int (nI nsy), .int (nI nai), .ref a7, .ref a8, .int (xas), .int (xan), .int (xst), .int (xhr), .int (xhb), .int (xse), .int (xbe), .ref a9, .ref b1, .ref b2, .ref b3, .ref b4, .ref b5, .ref b6, .ref b7, .ref b8, .ref c1, .ref c2, .ref c3, .ref c4, .ref c5, .ref c6, .ref c7, .int (xrg)]))]) := by
  refine Mi.go (by decide) (Nat.le_of_ble_eq_true rfl) ?_
  intro p e s m below meth c A ls R args Q C
  obtain ⟨hx, hb, hr, hts, hown, hlk, hml, hin, hA, hST, hN, hK, hP, hD, hS, hl, hR, hQ⟩ := C
  have hw : ∀ w ∈ lw_g, w.before args s = true := fun w h => hts w (List.mem_cons_of_mem _ h)
  have hl : lv_has ls 2 [(0, .ref h0), (1, .int (nI 2))] := hl
  refine lv_aload_n hx hb d_MO_heard_0 rfl (lv_at hl 0 rfl) ?_
  refine lv_iconst (v := nI 0) hx hb d_MO_heard_1 (by decide) ?_
  refine k_put (ws' := [(h0, .inr (8, [.int (nI 0), .int (nI nby), .ref a1, .int (xra), .int (nI ndb), .ref a2, .int (nI ncb), .ref a3, .ref a4, .int (nI nfr), .ref a5, .ref a6, .int (nI nsy), .int (nI nai), .ref a7, .ref a8, .int (xas), .int (xan), .int (xst), .int (xhr), .int (xhb), .int (xse), .int (xbe), .ref a9, .ref b1, .ref b2, .ref b3, .ref b4, .ref b5, .ref b6, .ref b7, .ref b8, .ref c1, .ref c2, .ref c3, .ref c4, .ref c5, .ref c6, .ref c7, .int (xrg)]))]) hx hb hw uw_MO tok_MO nn_MO hown hK hP hD hS 0 rfl rfl 0 (by decide) (hw _ wd_714) rfl rfl rfl (Nat.le_of_ble_eq_true rfl) d_MO_heard_2 rfl (fun H locs hP hD hS => ?_)
  refine lv_aload_n hx hb d_MO_heard_5 rfl (lv_at hl 0 rfl) ?_
  refine k_get hx hb hw uw_MO hown hK hP 0 rfl rfl 16 (by decide) (hw _ wd_730) rfl d_MO_heard_6 ?_
  refine lv_if_eq (tgt := 35) hx hb d_MO_heard_9 (by decide) (fun h9 => ?_) (fun h9 => ?_)
  · exact absurd h9 has_
  · refine lv_iload_n hx hb d_MO_heard_12 rfl (lv_at hl 1 rfl) ?_
    refine lv_if_lt (tgt := 35) hx hb d_MO_heard_13 (by decide) (fun h13 => ?_) (fun h13 => ?_)
    · exact absurd h13 (by decide)
    · refine lv_iload_n hx hb d_MO_heard_16 rfl (lv_at hl 1 rfl) ?_
      refine lv_iconst (v := nI 5) hx hb d_MO_heard_17 (by decide) ?_
      refine k_icmp_gt (tgt := 35) hx hb d_MO_heard_18 (by decide) (by omega) (by omega) (fun h18 => ?_) (fun h18 => ?_)
      · exfalso; omega
      · refine lv_iload_n hx hb d_MO_heard_21 rfl (lv_at hl 1 rfl) ?_
        refine lv_iconst (v := nI 1) hx hb d_MO_heard_22 (by decide) ?_
        refine k_icmp_ne (tgt := 37) hx hb d_MO_heard_23 (by decide) (by omega) (by omega) (fun h23 => ?_) (fun h23 => ?_)
        · refine lv_iload_n hx hb d_MO_heard_37 rfl (lv_at hl 1 rfl) ?_
          refine lv_iconst (v := nI 1) hx hb d_MO_heard_38 (by decide) ?_
          refine k_icmp_le (tgt := 60) hx hb d_MO_heard_39 (by decide) (by omega) (by omega) (fun h39 => ?_) (fun h39 => ?_)
          · exfalso; omega
          · refine lv_aload_n hx hb d_MO_heard_42 rfl (lv_at hl 0 rfl) ?_
            refine k_get hx hb hw uw_MO hown hK hP 0 rfl rfl 17 (by decide) (hw _ wd_731) rfl d_MO_heard_43 ?_
            refine lv_bipush (v := -2) hx hb d_MO_heard_46 (by decide) ?_
            refine lv_icmp_eq (tgt := 74) hx hb d_MO_heard_48 (by decide) (fun h48 => ?_) (fun h48 => ?_)
            · refine lv_iconst (v := -1) hx hb d_MO_heard_74 (by decide) ?_
              rw [hQ]
              exact k_iret () hx hb hr hlk hK hP hD hS [0] (by decide) rfl trivial (by unfold hd2; first | rw [if_pos h48] | rw [if_neg h48, if_pos h57] | rw [if_neg h48, if_neg h57, if_pos h71] | rw [if_neg h48, if_neg h57, if_neg h71] | rw [if_neg h48, if_neg h57]) d_MO_heard_75
            · refine lv_aload_n hx hb d_MO_heard_51 rfl (lv_at hl 0 rfl) ?_
              refine k_get hx hb hw uw_MO hown hK hP 0 rfl rfl 17 (by decide) (hw _ wd_731) rfl d_MO_heard_52 ?_
              refine lv_bipush (v := -3) hx hb d_MO_heard_55 (by decide) ?_
              refine lv_icmp_eq (tgt := 74) hx hb d_MO_heard_57 (by decide) (fun h57 => ?_) (fun h57 => ?_)
              · refine lv_iconst (v := -1) hx hb d_MO_heard_74 (by decide) ?_
                rw [hQ]
                exact k_iret () hx hb hr hlk hK hP hD hS [0] (by decide) rfl trivial (by unfold hd2; first | rw [if_pos h48] | rw [if_neg h48, if_pos h57] | rw [if_neg h48, if_neg h57, if_pos h71] | rw [if_neg h48, if_neg h57, if_neg h71] | rw [if_neg h48, if_neg h57]) d_MO_heard_75
              · refine lv_iload_n hx hb d_MO_heard_60 rfl (lv_at hl 1 rfl) ?_
                refine lv_iconst (v := nI 3) hx hb d_MO_heard_61 (by decide) ?_
                refine k_icmp_le (tgt := 76) hx hb d_MO_heard_62 (by decide) (by omega) (by omega) (fun h62 => ?_) (fun h62 => ?_)
                · refine lv_iload_n hx hb d_MO_heard_76 rfl (lv_at hl 1 rfl) ?_
                  refine k_if_ne (tgt := 87) hx hb d_MO_heard_77 (by decide) (by omega) (fun h77 => ?_) (fun h77 => ?_)
                  · refine lv_iload_n hx hb d_MO_heard_87 rfl (lv_at hl 1 rfl) ?_
                    refine lv_iconst (v := nI 1) hx hb d_MO_heard_88 (by decide) ?_
                    refine k_icmp_ne (tgt := 99) hx hb d_MO_heard_89 (by decide) (by omega) (by omega) (fun h89 => ?_) (fun h89 => ?_)
                    · refine lv_iload_n hx hb d_MO_heard_99 rfl (lv_at hl 1 rfl) ?_
                      refine lv_iconst (v := nI 2) hx hb d_MO_heard_100 (by decide) ?_
                      refine k_icmp_ne (tgt := 111) hx hb d_MO_heard_101 (by decide) (by omega) (by omega) (fun h101 => ?_) (fun h101 => ?_)
                      · exfalso; omega
                      · refine lv_aload_n hx hb d_MO_heard_104 rfl (lv_at hl 0 rfl) ?_
                        refine k_get hx hb hw uw_MO hown hK hP 0 rfl rfl 19 (by decide) (hw _ wd_733) rfl d_MO_heard_105 ?_
                        refine lv_goto (tgt := 139) hx hb d_MO_heard_108 (by decide) ?_
                        rw [hQ]
                        exact k_iret () hx hb hr hlk hK hP hD hS [0] (by decide) rfl trivial (by unfold hd2; first | rw [if_pos h48] | rw [if_neg h48, if_pos h57] | rw [if_neg h48, if_neg h57, if_pos h71] | rw [if_neg h48, if_neg h57, if_neg h71] | rw [if_neg h48, if_neg h57]) d_MO_heard_139
                    · exfalso; omega
                  · exfalso; omega
                · exfalso; omega
        · exfalso; omega
set_option maxHeartbeats 4000000 in
set_option maxRecDepth 100000 in
theorem c_MO_heard_3 (l : Launch) (D : va_G) (tc : Nat → ClassId) (tb : Nat → Nat) (h0 : Nat) (nby : Nat) (ndb : Nat) (ncb : Nat) (nfr : Nat) (nsy : Nat) (nai : Nat) (xth : Int32) (xra : Int32) (xas : Int32) (xan : Int32) (xst : Int32) (xhr : Int32) (xhb : Int32) (xse : Int32) (xbe : Int32) (xrg : Int32) (a1 : Nat) (a2 : Nat) (a3 : Nat) (a4 : Nat) (a5 : Nat) (a6 : Nat) (a7 : Nat) (a8 : Nat) (a9 : Nat) (b1 : Nat) (b2 : Nat) (b3 : Nat) (b4 : Nat) (b5 : Nat) (b6 : Nat) (b7 : Nat) (b8 : Nat) (c1 : Nat) (c2 : Nat) (c3 : Nat) (c4 : Nat) (c5 : Nat) (c6 : Nat) (c7 : Nat) (has_ : ¬ xas = 0) : Mi l D tc tb y_MO_heard prog_10_method_46_code 2 (some .int) ({ frames := 0, cells := 0, slots := 0, locals := 0 }) [.ref h0, .int (nI 3)] [(h0, .inr (8, [.int (xth), .int (nI nby), .ref a1, .int (xra), .int (nI ndb), .ref a2, .int (nI ncb), .ref a3, .ref a4, .int (nI nfr), .ref a5, .ref a6, .int (nI nsy), .int (nI nai), .ref a7, .ref a8, .int (xas), .int (xan), .int (xst), .int (xhr), .int (xhb), .int (xse), .int (xbe), .ref a9, .ref b1, .ref b2, .ref b3, .ref b4, .ref b5, .ref b6, .ref b7, .ref b8, .ref c1, .ref c2, .ref c3, .ref c4, .ref c5, .ref c6, .ref c7, .int (xrg)]))] (fun _ : Unit => True) (fun _ : Unit => hd2 xan xhb) (fun _ : Unit => [(h0, .inr (8, [.int (nI 0), .int (nI nby), .ref a1, .int (xra), .int (nI ndb), .ref a2, .int (nI ncb), .ref a3, .ref a4, .int (nI nfr), .ref a5, .ref a6, .int (nI nsy), .int (nI nai), .ref a7, .ref a8, .int (xas), .int (xan), .int (xst), .int (xhr), .int (xhb), .int (xse), .int (xbe), .ref a9, .ref b1, .ref b2, .ref b3, .ref b4, .ref b5, .ref b6, .ref b7, .ref b8, .ref c1, .ref c2, .ref c3, .ref c4, .ref c5, .ref c6, .ref c7, .int (xrg)]))]) := by
  refine Mi.go (by decide) (Nat.le_of_ble_eq_true rfl) ?_
  intro p e s m below meth c A ls R args Q C
  obtain ⟨hx, hb, hr, hts, hown, hlk, hml, hin, hA, hST, hN, hK, hP, hD, hS, hl, hR, hQ⟩ := C
  have hw : ∀ w ∈ lw_g, w.before args s = true := fun w h => hts w (List.mem_cons_of_mem _ h)
  have hl : lv_has ls 2 [(0, .ref h0), (1, .int (nI 3))] := hl
  refine lv_aload_n hx hb d_MO_heard_0 rfl (lv_at hl 0 rfl) ?_
  refine lv_iconst (v := nI 0) hx hb d_MO_heard_1 (by decide) ?_
  refine k_put (ws' := [(h0, .inr (8, [.int (nI 0), .int (nI nby), .ref a1, .int (xra), .int (nI ndb), .ref a2, .int (nI ncb), .ref a3, .ref a4, .int (nI nfr), .ref a5, .ref a6, .int (nI nsy), .int (nI nai), .ref a7, .ref a8, .int (xas), .int (xan), .int (xst), .int (xhr), .int (xhb), .int (xse), .int (xbe), .ref a9, .ref b1, .ref b2, .ref b3, .ref b4, .ref b5, .ref b6, .ref b7, .ref b8, .ref c1, .ref c2, .ref c3, .ref c4, .ref c5, .ref c6, .ref c7, .int (xrg)]))]) hx hb hw uw_MO tok_MO nn_MO hown hK hP hD hS 0 rfl rfl 0 (by decide) (hw _ wd_714) rfl rfl rfl (Nat.le_of_ble_eq_true rfl) d_MO_heard_2 rfl (fun H locs hP hD hS => ?_)
  refine lv_aload_n hx hb d_MO_heard_5 rfl (lv_at hl 0 rfl) ?_
  refine k_get hx hb hw uw_MO hown hK hP 0 rfl rfl 16 (by decide) (hw _ wd_730) rfl d_MO_heard_6 ?_
  refine lv_if_eq (tgt := 35) hx hb d_MO_heard_9 (by decide) (fun h9 => ?_) (fun h9 => ?_)
  · exact absurd h9 has_
  · refine lv_iload_n hx hb d_MO_heard_12 rfl (lv_at hl 1 rfl) ?_
    refine lv_if_lt (tgt := 35) hx hb d_MO_heard_13 (by decide) (fun h13 => ?_) (fun h13 => ?_)
    · exact absurd h13 (by decide)
    · refine lv_iload_n hx hb d_MO_heard_16 rfl (lv_at hl 1 rfl) ?_
      refine lv_iconst (v := nI 5) hx hb d_MO_heard_17 (by decide) ?_
      refine k_icmp_gt (tgt := 35) hx hb d_MO_heard_18 (by decide) (by omega) (by omega) (fun h18 => ?_) (fun h18 => ?_)
      · exfalso; omega
      · refine lv_iload_n hx hb d_MO_heard_21 rfl (lv_at hl 1 rfl) ?_
        refine lv_iconst (v := nI 1) hx hb d_MO_heard_22 (by decide) ?_
        refine k_icmp_ne (tgt := 37) hx hb d_MO_heard_23 (by decide) (by omega) (by omega) (fun h23 => ?_) (fun h23 => ?_)
        · refine lv_iload_n hx hb d_MO_heard_37 rfl (lv_at hl 1 rfl) ?_
          refine lv_iconst (v := nI 1) hx hb d_MO_heard_38 (by decide) ?_
          refine k_icmp_le (tgt := 60) hx hb d_MO_heard_39 (by decide) (by omega) (by omega) (fun h39 => ?_) (fun h39 => ?_)
          · exfalso; omega
          · refine lv_aload_n hx hb d_MO_heard_42 rfl (lv_at hl 0 rfl) ?_
            refine k_get hx hb hw uw_MO hown hK hP 0 rfl rfl 17 (by decide) (hw _ wd_731) rfl d_MO_heard_43 ?_
            refine lv_bipush (v := -2) hx hb d_MO_heard_46 (by decide) ?_
            refine lv_icmp_eq (tgt := 74) hx hb d_MO_heard_48 (by decide) (fun h48 => ?_) (fun h48 => ?_)
            · refine lv_iconst (v := -1) hx hb d_MO_heard_74 (by decide) ?_
              rw [hQ]
              exact k_iret () hx hb hr hlk hK hP hD hS [0] (by decide) rfl trivial (by unfold hd2; first | rw [if_pos h48] | rw [if_neg h48, if_pos h57] | rw [if_neg h48, if_neg h57, if_pos h71] | rw [if_neg h48, if_neg h57, if_neg h71] | rw [if_neg h48, if_neg h57]) d_MO_heard_75
            · refine lv_aload_n hx hb d_MO_heard_51 rfl (lv_at hl 0 rfl) ?_
              refine k_get hx hb hw uw_MO hown hK hP 0 rfl rfl 17 (by decide) (hw _ wd_731) rfl d_MO_heard_52 ?_
              refine lv_bipush (v := -3) hx hb d_MO_heard_55 (by decide) ?_
              refine lv_icmp_eq (tgt := 74) hx hb d_MO_heard_57 (by decide) (fun h57 => ?_) (fun h57 => ?_)
              · refine lv_iconst (v := -1) hx hb d_MO_heard_74 (by decide) ?_
                rw [hQ]
                exact k_iret () hx hb hr hlk hK hP hD hS [0] (by decide) rfl trivial (by unfold hd2; first | rw [if_pos h48] | rw [if_neg h48, if_pos h57] | rw [if_neg h48, if_neg h57, if_pos h71] | rw [if_neg h48, if_neg h57, if_neg h71] | rw [if_neg h48, if_neg h57]) d_MO_heard_75
              · refine lv_iload_n hx hb d_MO_heard_60 rfl (lv_at hl 1 rfl) ?_
                refine lv_iconst (v := nI 3) hx hb d_MO_heard_61 (by decide) ?_
                refine k_icmp_le (tgt := 76) hx hb d_MO_heard_62 (by decide) (by omega) (by omega) (fun h62 => ?_) (fun h62 => ?_)
                · refine lv_iload_n hx hb d_MO_heard_76 rfl (lv_at hl 1 rfl) ?_
                  refine k_if_ne (tgt := 87) hx hb d_MO_heard_77 (by decide) (by omega) (fun h77 => ?_) (fun h77 => ?_)
                  · refine lv_iload_n hx hb d_MO_heard_87 rfl (lv_at hl 1 rfl) ?_
                    refine lv_iconst (v := nI 1) hx hb d_MO_heard_88 (by decide) ?_
                    refine k_icmp_ne (tgt := 99) hx hb d_MO_heard_89 (by decide) (by omega) (by omega) (fun h89 => ?_) (fun h89 => ?_)
                    · refine lv_iload_n hx hb d_MO_heard_99 rfl (lv_at hl 1 rfl) ?_
                      refine lv_iconst (v := nI 2) hx hb d_MO_heard_100 (by decide) ?_
                      refine k_icmp_ne (tgt := 111) hx hb d_MO_heard_101 (by decide) (by omega) (by omega) (fun h101 => ?_) (fun h101 => ?_)
                      · refine lv_iload_n hx hb d_MO_heard_111 rfl (lv_at hl 1 rfl) ?_
                        refine lv_iconst (v := nI 3) hx hb d_MO_heard_112 (by decide) ?_
                        refine k_icmp_ne (tgt := 123) hx hb d_MO_heard_113 (by decide) (by omega) (by omega) (fun h113 => ?_) (fun h113 => ?_)
                        · exfalso; omega
                        · refine lv_aload_n hx hb d_MO_heard_116 rfl (lv_at hl 0 rfl) ?_
                          refine k_get hx hb hw uw_MO hown hK hP 0 rfl rfl 20 (by decide) (hw _ wd_734) rfl d_MO_heard_117 ?_
                          refine lv_goto (tgt := 139) hx hb d_MO_heard_120 (by decide) ?_
                          rw [hQ]
                          exact k_iret () hx hb hr hlk hK hP hD hS [0] (by decide) rfl trivial (by unfold hd2; first | rw [if_pos h48] | rw [if_neg h48, if_pos h57] | rw [if_neg h48, if_neg h57, if_pos h71] | rw [if_neg h48, if_neg h57, if_neg h71] | rw [if_neg h48, if_neg h57]) d_MO_heard_139
                      · exfalso; omega
                    · exfalso; omega
                  · exfalso; omega
                · exfalso; omega
        · exfalso; omega
set_option maxHeartbeats 4000000 in
set_option maxRecDepth 100000 in
theorem c_MO_heard_4 (l : Launch) (D : va_G) (tc : Nat → ClassId) (tb : Nat → Nat) (h0 : Nat) (nby : Nat) (ndb : Nat) (ncb : Nat) (nfr : Nat) (nsy : Nat) (nai : Nat) (xth : Int32) (xra : Int32) (xas : Int32) (xan : Int32) (xst : Int32) (xhr : Int32) (xhb : Int32) (xse : Int32) (xbe : Int32) (xrg : Int32) (a1 : Nat) (a2 : Nat) (a3 : Nat) (a4 : Nat) (a5 : Nat) (a6 : Nat) (a7 : Nat) (a8 : Nat) (a9 : Nat) (b1 : Nat) (b2 : Nat) (b3 : Nat) (b4 : Nat) (b5 : Nat) (b6 : Nat) (b7 : Nat) (b8 : Nat) (c1 : Nat) (c2 : Nat) (c3 : Nat) (c4 : Nat) (c5 : Nat) (c6 : Nat) (c7 : Nat) (has_ : ¬ xas = 0) : Mi l D tc tb y_MO_heard prog_10_method_46_code 2 (some .int) ({ frames := 0, cells := 0, slots := 0, locals := 0 }) [.ref h0, .int (nI 4)] [(h0, .inr (8, [.int (xth), .int (nI nby), .ref a1, .int (xra), .int (nI ndb), .ref a2, .int (nI ncb), .ref a3, .ref a4, .int (nI nfr), .ref a5, .ref a6, .int (nI nsy), .int (nI nai), .ref a7, .ref a8, .int (xas), .int (xan), .int (xst), .int (xhr), .int (xhb), .int (xse), .int (xbe), .ref a9, .ref b1, .ref b2, .ref b3, .ref b4, .ref b5, .ref b6, .ref b7, .ref b8, .ref c1, .ref c2, .ref c3, .ref c4, .ref c5, .ref c6, .ref c7, .int (xrg)]))] (fun _ : Unit => True) (fun _ : Unit => hd4 xan xse) (fun _ : Unit => [(h0, .inr (8, [.int (nI 0), .int (nI nby), .ref a1, .int (xra), .int (nI ndb), .ref a2, .int (nI ncb), .ref a3, .ref a4, .int (nI nfr), .ref a5, .ref a6, .int (nI nsy), .int (nI nai), .ref a7, .ref a8, .int (xas), .int (xan), .int (xst), .int (xhr), .int (xhb), .int (xse), .int (xbe), .ref a9, .ref b1, .ref b2, .ref b3, .ref b4, .ref b5, .ref b6, .ref b7, .ref b8, .ref c1, .ref c2, .ref c3, .ref c4, .ref c5, .ref c6, .ref c7, .int (xrg)]))]) := by
  refine Mi.go (by decide) (Nat.le_of_ble_eq_true rfl) ?_
  intro p e s m below meth c A ls R args Q C
  obtain ⟨hx, hb, hr, hts, hown, hlk, hml, hin, hA, hST, hN, hK, hP, hD, hS, hl, hR, hQ⟩ := C
  have hw : ∀ w ∈ lw_g, w.before args s = true := fun w h => hts w (List.mem_cons_of_mem _ h)
  have hl : lv_has ls 2 [(0, .ref h0), (1, .int (nI 4))] := hl
  refine lv_aload_n hx hb d_MO_heard_0 rfl (lv_at hl 0 rfl) ?_
  refine lv_iconst (v := nI 0) hx hb d_MO_heard_1 (by decide) ?_
  refine k_put (ws' := [(h0, .inr (8, [.int (nI 0), .int (nI nby), .ref a1, .int (xra), .int (nI ndb), .ref a2, .int (nI ncb), .ref a3, .ref a4, .int (nI nfr), .ref a5, .ref a6, .int (nI nsy), .int (nI nai), .ref a7, .ref a8, .int (xas), .int (xan), .int (xst), .int (xhr), .int (xhb), .int (xse), .int (xbe), .ref a9, .ref b1, .ref b2, .ref b3, .ref b4, .ref b5, .ref b6, .ref b7, .ref b8, .ref c1, .ref c2, .ref c3, .ref c4, .ref c5, .ref c6, .ref c7, .int (xrg)]))]) hx hb hw uw_MO tok_MO nn_MO hown hK hP hD hS 0 rfl rfl 0 (by decide) (hw _ wd_714) rfl rfl rfl (Nat.le_of_ble_eq_true rfl) d_MO_heard_2 rfl (fun H locs hP hD hS => ?_)
  refine lv_aload_n hx hb d_MO_heard_5 rfl (lv_at hl 0 rfl) ?_
  refine k_get hx hb hw uw_MO hown hK hP 0 rfl rfl 16 (by decide) (hw _ wd_730) rfl d_MO_heard_6 ?_
  refine lv_if_eq (tgt := 35) hx hb d_MO_heard_9 (by decide) (fun h9 => ?_) (fun h9 => ?_)
  · exact absurd h9 has_
  · refine lv_iload_n hx hb d_MO_heard_12 rfl (lv_at hl 1 rfl) ?_
    refine lv_if_lt (tgt := 35) hx hb d_MO_heard_13 (by decide) (fun h13 => ?_) (fun h13 => ?_)
    · exact absurd h13 (by decide)
    · refine lv_iload_n hx hb d_MO_heard_16 rfl (lv_at hl 1 rfl) ?_
      refine lv_iconst (v := nI 5) hx hb d_MO_heard_17 (by decide) ?_
      refine k_icmp_gt (tgt := 35) hx hb d_MO_heard_18 (by decide) (by omega) (by omega) (fun h18 => ?_) (fun h18 => ?_)
      · exfalso; omega
      · refine lv_iload_n hx hb d_MO_heard_21 rfl (lv_at hl 1 rfl) ?_
        refine lv_iconst (v := nI 1) hx hb d_MO_heard_22 (by decide) ?_
        refine k_icmp_ne (tgt := 37) hx hb d_MO_heard_23 (by decide) (by omega) (by omega) (fun h23 => ?_) (fun h23 => ?_)
        · refine lv_iload_n hx hb d_MO_heard_37 rfl (lv_at hl 1 rfl) ?_
          refine lv_iconst (v := nI 1) hx hb d_MO_heard_38 (by decide) ?_
          refine k_icmp_le (tgt := 60) hx hb d_MO_heard_39 (by decide) (by omega) (by omega) (fun h39 => ?_) (fun h39 => ?_)
          · exfalso; omega
          · refine lv_aload_n hx hb d_MO_heard_42 rfl (lv_at hl 0 rfl) ?_
            refine k_get hx hb hw uw_MO hown hK hP 0 rfl rfl 17 (by decide) (hw _ wd_731) rfl d_MO_heard_43 ?_
            refine lv_bipush (v := -2) hx hb d_MO_heard_46 (by decide) ?_
            refine lv_icmp_eq (tgt := 74) hx hb d_MO_heard_48 (by decide) (fun h48 => ?_) (fun h48 => ?_)
            · refine lv_iconst (v := -1) hx hb d_MO_heard_74 (by decide) ?_
              rw [hQ]
              exact k_iret () hx hb hr hlk hK hP hD hS [0] (by decide) rfl trivial (by unfold hd4; first | rw [if_pos h48] | rw [if_neg h48, if_pos h57] | rw [if_neg h48, if_neg h57, if_pos h71] | rw [if_neg h48, if_neg h57, if_neg h71] | rw [if_neg h48, if_neg h57]) d_MO_heard_75
            · refine lv_aload_n hx hb d_MO_heard_51 rfl (lv_at hl 0 rfl) ?_
              refine k_get hx hb hw uw_MO hown hK hP 0 rfl rfl 17 (by decide) (hw _ wd_731) rfl d_MO_heard_52 ?_
              refine lv_bipush (v := -3) hx hb d_MO_heard_55 (by decide) ?_
              refine lv_icmp_eq (tgt := 74) hx hb d_MO_heard_57 (by decide) (fun h57 => ?_) (fun h57 => ?_)
              · refine lv_iconst (v := -1) hx hb d_MO_heard_74 (by decide) ?_
                rw [hQ]
                exact k_iret () hx hb hr hlk hK hP hD hS [0] (by decide) rfl trivial (by unfold hd4; first | rw [if_pos h48] | rw [if_neg h48, if_pos h57] | rw [if_neg h48, if_neg h57, if_pos h71] | rw [if_neg h48, if_neg h57, if_neg h71] | rw [if_neg h48, if_neg h57]) d_MO_heard_75
              · refine lv_iload_n hx hb d_MO_heard_60 rfl (lv_at hl 1 rfl) ?_
                refine lv_iconst (v := nI 3) hx hb d_MO_heard_61 (by decide) ?_
                refine k_icmp_le (tgt := 76) hx hb d_MO_heard_62 (by decide) (by omega) (by omega) (fun h62 => ?_) (fun h62 => ?_)
                · exfalso; omega
                · refine lv_aload_n hx hb d_MO_heard_65 rfl (lv_at hl 0 rfl) ?_
                  refine k_get hx hb hw uw_MO hown hK hP 0 rfl rfl 17 (by decide) (hw _ wd_731) rfl d_MO_heard_66 ?_
                  refine lv_bipush (v := -4) hx hb d_MO_heard_69 (by decide) ?_
                  refine lv_icmp_ne (tgt := 76) hx hb d_MO_heard_71 (by decide) (fun h71 => ?_) (fun h71 => ?_)
                  · refine lv_iload_n hx hb d_MO_heard_76 rfl (lv_at hl 1 rfl) ?_
                    refine k_if_ne (tgt := 87) hx hb d_MO_heard_77 (by decide) (by omega) (fun h77 => ?_) (fun h77 => ?_)
                    · refine lv_iload_n hx hb d_MO_heard_87 rfl (lv_at hl 1 rfl) ?_
                      refine lv_iconst (v := nI 1) hx hb d_MO_heard_88 (by decide) ?_
                      refine k_icmp_ne (tgt := 99) hx hb d_MO_heard_89 (by decide) (by omega) (by omega) (fun h89 => ?_) (fun h89 => ?_)
                      · refine lv_iload_n hx hb d_MO_heard_99 rfl (lv_at hl 1 rfl) ?_
                        refine lv_iconst (v := nI 2) hx hb d_MO_heard_100 (by decide) ?_
                        refine k_icmp_ne (tgt := 111) hx hb d_MO_heard_101 (by decide) (by omega) (by omega) (fun h101 => ?_) (fun h101 => ?_)
                        · refine lv_iload_n hx hb d_MO_heard_111 rfl (lv_at hl 1 rfl) ?_
                          refine lv_iconst (v := nI 3) hx hb d_MO_heard_112 (by decide) ?_
                          refine k_icmp_ne (tgt := 123) hx hb d_MO_heard_113 (by decide) (by omega) (by omega) (fun h113 => ?_) (fun h113 => ?_)
                          · refine lv_iload_n hx hb d_MO_heard_123 rfl (lv_at hl 1 rfl) ?_
                            refine lv_iconst (v := nI 4) hx hb d_MO_heard_124 (by decide) ?_
                            refine k_icmp_ne (tgt := 135) hx hb d_MO_heard_125 (by decide) (by omega) (by omega) (fun h125 => ?_) (fun h125 => ?_)
                            · exfalso; omega
                            · refine lv_aload_n hx hb d_MO_heard_128 rfl (lv_at hl 0 rfl) ?_
                              refine k_get hx hb hw uw_MO hown hK hP 0 rfl rfl 21 (by decide) (hw _ wd_735) rfl d_MO_heard_129 ?_
                              refine lv_goto (tgt := 139) hx hb d_MO_heard_132 (by decide) ?_
                              rw [hQ]
                              exact k_iret () hx hb hr hlk hK hP hD hS [0] (by decide) rfl trivial (by unfold hd4; first | rw [if_pos h48] | rw [if_neg h48, if_pos h57] | rw [if_neg h48, if_neg h57, if_pos h71] | rw [if_neg h48, if_neg h57, if_neg h71] | rw [if_neg h48, if_neg h57]) d_MO_heard_139
                          · exfalso; omega
                        · exfalso; omega
                      · exfalso; omega
                    · exfalso; omega
                  · refine lv_iconst (v := -1) hx hb d_MO_heard_74 (by decide) ?_
                    rw [hQ]
                    exact k_iret () hx hb hr hlk hK hP hD hS [0] (by decide) rfl trivial (by unfold hd4; first | rw [if_pos h48] | rw [if_neg h48, if_pos h57] | rw [if_neg h48, if_neg h57, if_pos h71] | rw [if_neg h48, if_neg h57, if_neg h71] | rw [if_neg h48, if_neg h57]) d_MO_heard_75
        · exfalso; omega
set_option maxHeartbeats 4000000 in
set_option maxRecDepth 100000 in
theorem c_MO_heard_5 (l : Launch) (D : va_G) (tc : Nat → ClassId) (tb : Nat → Nat) (h0 : Nat) (nby : Nat) (ndb : Nat) (ncb : Nat) (nfr : Nat) (nsy : Nat) (nai : Nat) (xth : Int32) (xra : Int32) (xas : Int32) (xan : Int32) (xst : Int32) (xhr : Int32) (xhb : Int32) (xse : Int32) (xbe : Int32) (xrg : Int32) (a1 : Nat) (a2 : Nat) (a3 : Nat) (a4 : Nat) (a5 : Nat) (a6 : Nat) (a7 : Nat) (a8 : Nat) (a9 : Nat) (b1 : Nat) (b2 : Nat) (b3 : Nat) (b4 : Nat) (b5 : Nat) (b6 : Nat) (b7 : Nat) (b8 : Nat) (c1 : Nat) (c2 : Nat) (c3 : Nat) (c4 : Nat) (c5 : Nat) (c6 : Nat) (c7 : Nat) (has_ : ¬ xas = 0) : Mi l D tc tb y_MO_heard prog_10_method_46_code 2 (some .int) ({ frames := 0, cells := 0, slots := 0, locals := 0 }) [.ref h0, .int (nI 5)] [(h0, .inr (8, [.int (xth), .int (nI nby), .ref a1, .int (xra), .int (nI ndb), .ref a2, .int (nI ncb), .ref a3, .ref a4, .int (nI nfr), .ref a5, .ref a6, .int (nI nsy), .int (nI nai), .ref a7, .ref a8, .int (xas), .int (xan), .int (xst), .int (xhr), .int (xhb), .int (xse), .int (xbe), .ref a9, .ref b1, .ref b2, .ref b3, .ref b4, .ref b5, .ref b6, .ref b7, .ref b8, .ref c1, .ref c2, .ref c3, .ref c4, .ref c5, .ref c6, .ref c7, .int (xrg)]))] (fun _ : Unit => True) (fun _ : Unit => hd4 xan xbe) (fun _ : Unit => [(h0, .inr (8, [.int (nI 0), .int (nI nby), .ref a1, .int (xra), .int (nI ndb), .ref a2, .int (nI ncb), .ref a3, .ref a4, .int (nI nfr), .ref a5, .ref a6, .int (nI nsy), .int (nI nai), .ref a7, .ref a8, .int (xas), .int (xan), .int (xst), .int (xhr), .int (xhb), .int (xse), .int (xbe), .ref a9, .ref b1, .ref b2, .ref b3, .ref b4, .ref b5, .ref b6, .ref b7, .ref b8, .ref c1, .ref c2, .ref c3, .ref c4, .ref c5, .ref c6, .ref c7, .int (xrg)]))]) := by
  refine Mi.go (by decide) (Nat.le_of_ble_eq_true rfl) ?_
  intro p e s m below meth c A ls R args Q C
  obtain ⟨hx, hb, hr, hts, hown, hlk, hml, hin, hA, hST, hN, hK, hP, hD, hS, hl, hR, hQ⟩ := C
  have hw : ∀ w ∈ lw_g, w.before args s = true := fun w h => hts w (List.mem_cons_of_mem _ h)
  have hl : lv_has ls 2 [(0, .ref h0), (1, .int (nI 5))] := hl
  refine lv_aload_n hx hb d_MO_heard_0 rfl (lv_at hl 0 rfl) ?_
  refine lv_iconst (v := nI 0) hx hb d_MO_heard_1 (by decide) ?_
  refine k_put (ws' := [(h0, .inr (8, [.int (nI 0), .int (nI nby), .ref a1, .int (xra), .int (nI ndb), .ref a2, .int (nI ncb), .ref a3, .ref a4, .int (nI nfr), .ref a5, .ref a6, .int (nI nsy), .int (nI nai), .ref a7, .ref a8, .int (xas), .int (xan), .int (xst), .int (xhr), .int (xhb), .int (xse), .int (xbe), .ref a9, .ref b1, .ref b2, .ref b3, .ref b4, .ref b5, .ref b6, .ref b7, .ref b8, .ref c1, .ref c2, .ref c3, .ref c4, .ref c5, .ref c6, .ref c7, .int (xrg)]))]) hx hb hw uw_MO tok_MO nn_MO hown hK hP hD hS 0 rfl rfl 0 (by decide) (hw _ wd_714) rfl rfl rfl (Nat.le_of_ble_eq_true rfl) d_MO_heard_2 rfl (fun H locs hP hD hS => ?_)
  refine lv_aload_n hx hb d_MO_heard_5 rfl (lv_at hl 0 rfl) ?_
  refine k_get hx hb hw uw_MO hown hK hP 0 rfl rfl 16 (by decide) (hw _ wd_730) rfl d_MO_heard_6 ?_
  refine lv_if_eq (tgt := 35) hx hb d_MO_heard_9 (by decide) (fun h9 => ?_) (fun h9 => ?_)
  · exact absurd h9 has_
  · refine lv_iload_n hx hb d_MO_heard_12 rfl (lv_at hl 1 rfl) ?_
    refine lv_if_lt (tgt := 35) hx hb d_MO_heard_13 (by decide) (fun h13 => ?_) (fun h13 => ?_)
    · exact absurd h13 (by decide)
    · refine lv_iload_n hx hb d_MO_heard_16 rfl (lv_at hl 1 rfl) ?_
      refine lv_iconst (v := nI 5) hx hb d_MO_heard_17 (by decide) ?_
      refine k_icmp_gt (tgt := 35) hx hb d_MO_heard_18 (by decide) (by omega) (by omega) (fun h18 => ?_) (fun h18 => ?_)
      · exfalso; omega
      · refine lv_iload_n hx hb d_MO_heard_21 rfl (lv_at hl 1 rfl) ?_
        refine lv_iconst (v := nI 1) hx hb d_MO_heard_22 (by decide) ?_
        refine k_icmp_ne (tgt := 37) hx hb d_MO_heard_23 (by decide) (by omega) (by omega) (fun h23 => ?_) (fun h23 => ?_)
        · refine lv_iload_n hx hb d_MO_heard_37 rfl (lv_at hl 1 rfl) ?_
          refine lv_iconst (v := nI 1) hx hb d_MO_heard_38 (by decide) ?_
          refine k_icmp_le (tgt := 60) hx hb d_MO_heard_39 (by decide) (by omega) (by omega) (fun h39 => ?_) (fun h39 => ?_)
          · exfalso; omega
          · refine lv_aload_n hx hb d_MO_heard_42 rfl (lv_at hl 0 rfl) ?_
            refine k_get hx hb hw uw_MO hown hK hP 0 rfl rfl 17 (by decide) (hw _ wd_731) rfl d_MO_heard_43 ?_
            refine lv_bipush (v := -2) hx hb d_MO_heard_46 (by decide) ?_
            refine lv_icmp_eq (tgt := 74) hx hb d_MO_heard_48 (by decide) (fun h48 => ?_) (fun h48 => ?_)
            · refine lv_iconst (v := -1) hx hb d_MO_heard_74 (by decide) ?_
              rw [hQ]
              exact k_iret () hx hb hr hlk hK hP hD hS [0] (by decide) rfl trivial (by unfold hd4; first | rw [if_pos h48] | rw [if_neg h48, if_pos h57] | rw [if_neg h48, if_neg h57, if_pos h71] | rw [if_neg h48, if_neg h57, if_neg h71] | rw [if_neg h48, if_neg h57]) d_MO_heard_75
            · refine lv_aload_n hx hb d_MO_heard_51 rfl (lv_at hl 0 rfl) ?_
              refine k_get hx hb hw uw_MO hown hK hP 0 rfl rfl 17 (by decide) (hw _ wd_731) rfl d_MO_heard_52 ?_
              refine lv_bipush (v := -3) hx hb d_MO_heard_55 (by decide) ?_
              refine lv_icmp_eq (tgt := 74) hx hb d_MO_heard_57 (by decide) (fun h57 => ?_) (fun h57 => ?_)
              · refine lv_iconst (v := -1) hx hb d_MO_heard_74 (by decide) ?_
                rw [hQ]
                exact k_iret () hx hb hr hlk hK hP hD hS [0] (by decide) rfl trivial (by unfold hd4; first | rw [if_pos h48] | rw [if_neg h48, if_pos h57] | rw [if_neg h48, if_neg h57, if_pos h71] | rw [if_neg h48, if_neg h57, if_neg h71] | rw [if_neg h48, if_neg h57]) d_MO_heard_75
              · refine lv_iload_n hx hb d_MO_heard_60 rfl (lv_at hl 1 rfl) ?_
                refine lv_iconst (v := nI 3) hx hb d_MO_heard_61 (by decide) ?_
                refine k_icmp_le (tgt := 76) hx hb d_MO_heard_62 (by decide) (by omega) (by omega) (fun h62 => ?_) (fun h62 => ?_)
                · exfalso; omega
                · refine lv_aload_n hx hb d_MO_heard_65 rfl (lv_at hl 0 rfl) ?_
                  refine k_get hx hb hw uw_MO hown hK hP 0 rfl rfl 17 (by decide) (hw _ wd_731) rfl d_MO_heard_66 ?_
                  refine lv_bipush (v := -4) hx hb d_MO_heard_69 (by decide) ?_
                  refine lv_icmp_ne (tgt := 76) hx hb d_MO_heard_71 (by decide) (fun h71 => ?_) (fun h71 => ?_)
                  · refine lv_iload_n hx hb d_MO_heard_76 rfl (lv_at hl 1 rfl) ?_
                    refine k_if_ne (tgt := 87) hx hb d_MO_heard_77 (by decide) (by omega) (fun h77 => ?_) (fun h77 => ?_)
                    · refine lv_iload_n hx hb d_MO_heard_87 rfl (lv_at hl 1 rfl) ?_
                      refine lv_iconst (v := nI 1) hx hb d_MO_heard_88 (by decide) ?_
                      refine k_icmp_ne (tgt := 99) hx hb d_MO_heard_89 (by decide) (by omega) (by omega) (fun h89 => ?_) (fun h89 => ?_)
                      · refine lv_iload_n hx hb d_MO_heard_99 rfl (lv_at hl 1 rfl) ?_
                        refine lv_iconst (v := nI 2) hx hb d_MO_heard_100 (by decide) ?_
                        refine k_icmp_ne (tgt := 111) hx hb d_MO_heard_101 (by decide) (by omega) (by omega) (fun h101 => ?_) (fun h101 => ?_)
                        · refine lv_iload_n hx hb d_MO_heard_111 rfl (lv_at hl 1 rfl) ?_
                          refine lv_iconst (v := nI 3) hx hb d_MO_heard_112 (by decide) ?_
                          refine k_icmp_ne (tgt := 123) hx hb d_MO_heard_113 (by decide) (by omega) (by omega) (fun h113 => ?_) (fun h113 => ?_)
                          · refine lv_iload_n hx hb d_MO_heard_123 rfl (lv_at hl 1 rfl) ?_
                            refine lv_iconst (v := nI 4) hx hb d_MO_heard_124 (by decide) ?_
                            refine k_icmp_ne (tgt := 135) hx hb d_MO_heard_125 (by decide) (by omega) (by omega) (fun h125 => ?_) (fun h125 => ?_)
                            · refine lv_aload_n hx hb d_MO_heard_135 rfl (lv_at hl 0 rfl) ?_
                              refine k_get hx hb hw uw_MO hown hK hP 0 rfl rfl 22 (by decide) (hw _ wd_736) rfl d_MO_heard_136 ?_
                              rw [hQ]
                              exact k_iret () hx hb hr hlk hK hP hD hS [0] (by decide) rfl trivial (by unfold hd4; first | rw [if_pos h48] | rw [if_neg h48, if_pos h57] | rw [if_neg h48, if_neg h57, if_pos h71] | rw [if_neg h48, if_neg h57, if_neg h71] | rw [if_neg h48, if_neg h57]) d_MO_heard_139
                            · exfalso; omega
                          · exfalso; omega
                        · exfalso; omega
                      · exfalso; omega
                    · exfalso; omega
                  · refine lv_iconst (v := -1) hx hb d_MO_heard_74 (by decide) ?_
                    rw [hQ]
                    exact k_iret () hx hb hr hlk hK hP hD hS [0] (by decide) rfl trivial (by unfold hd4; first | rw [if_pos h48] | rw [if_neg h48, if_pos h57] | rw [if_neg h48, if_neg h57, if_pos h71] | rw [if_neg h48, if_neg h57, if_neg h71] | rw [if_neg h48, if_neg h57]) d_MO_heard_75
        · exfalso; omega
set_option maxHeartbeats 4000000 in
set_option maxRecDepth 100000 in
theorem c_MO_learned_no (l : Launch) (D : va_G) (tc : Nat → ClassId) (tb : Nat → Nat) (h0 : Nat) (nby : Nat) (ndb : Nat) (ncb : Nat) (nfr : Nat) (nsy : Nat) (nai : Nat) (xth : Int32) (xra : Int32) (xas : Int32) (xan : Int32) (xst : Int32) (xhr : Int32) (xhb : Int32) (xse : Int32) (xbe : Int32) (xrg : Int32) (a1 : Nat) (a2 : Nat) (a3 : Nat) (a4 : Nat) (a5 : Nat) (a6 : Nat) (a7 : Nat) (a8 : Nat) (a9 : Nat) (b1 : Nat) (b2 : Nat) (b3 : Nat) (b4 : Nat) (b5 : Nat) (b6 : Nat) (b7 : Nat) (b8 : Nat) (c1 : Nat) (c2 : Nat) (c3 : Nat) (c4 : Nat) (c5 : Nat) (c6 : Nat) (c7 : Nat) (xk : Int32) (xb : Int32) (hbad : xas = 0 ∨ xan = -2 ∨ xk < 0 ∨ nI 15 < xk) : Mi l D tc tb y_MO_learned prog_10_method_47_code 3 (some .int) ({ frames := 0, cells := 0, slots := 0, locals := 0 }) [.ref h0, .int (xk), .int (xb)] [(h0, .inr (8, [.int (xth), .int (nI nby), .ref a1, .int (xra), .int (nI ndb), .ref a2, .int (nI ncb), .ref a3, .ref a4, .int (nI nfr), .ref a5, .ref a6, .int (nI nsy), .int (nI nai), .ref a7, .ref a8, .int (xas), .int (xan), .int (xst), .int (xhr), .int (xhb), .int (xse), .int (xbe), .ref a9, .ref b1, .ref b2, .ref b3, .ref b4, .ref b5, .ref b6, .ref b7, .ref b8, .ref c1, .ref c2, .ref c3, .ref c4, .ref c5, .ref c6, .ref c7, .int (xrg)]))] (fun _ : Unit => True) (fun _ : Unit => nI 0) (fun _ : Unit => [(h0, .inr (8, [.int (nI 0), .int (nI nby), .ref a1, .int (xra), .int (nI ndb), .ref a2, .int (nI ncb), .ref a3, .ref a4, .int (nI nfr), .ref a5, .ref a6, .int (nI nsy), .int (nI nai), .ref a7, .ref a8, .int (xas), .int (xan), .int (xst), .int (xhr), .int (xhb), .int (xse), .int (xbe), .ref a9, .ref b1, .ref b2, .ref b3, .ref b4, .ref b5, .ref b6, .ref b7, .ref b8, .ref c1, .ref c2, .ref c3, .ref c4, .ref c5, .ref c6, .ref c7, .int (xrg)]))]) := by
  refine Mi.go (by decide) (Nat.le_of_ble_eq_true rfl) ?_
  intro p e s m below meth c A ls R args Q C
  obtain ⟨hx, hb, hr, hts, hown, hlk, hml, hin, hA, hST, hN, hK, hP, hD, hS, hl, hR, hQ⟩ := C
  have hw : ∀ w ∈ lw_g, w.before args s = true := fun w h => hts w (List.mem_cons_of_mem _ h)
  have hl : lv_has ls 3 [(0, .ref h0), (1, .int (xk)), (2, .int (xb))] := hl
  refine lv_aload_n hx hb d_MO_learned_0 rfl (lv_at hl 0 rfl) ?_
  refine lv_iconst (v := nI 0) hx hb d_MO_learned_1 (by decide) ?_
  refine k_put (ws' := [(h0, .inr (8, [.int (nI 0), .int (nI nby), .ref a1, .int (xra), .int (nI ndb), .ref a2, .int (nI ncb), .ref a3, .ref a4, .int (nI nfr), .ref a5, .ref a6, .int (nI nsy), .int (nI nai), .ref a7, .ref a8, .int (xas), .int (xan), .int (xst), .int (xhr), .int (xhb), .int (xse), .int (xbe), .ref a9, .ref b1, .ref b2, .ref b3, .ref b4, .ref b5, .ref b6, .ref b7, .ref b8, .ref c1, .ref c2, .ref c3, .ref c4, .ref c5, .ref c6, .ref c7, .int (xrg)]))]) hx hb hw uw_MO tok_MO nn_MO hown hK hP hD hS 0 rfl rfl 0 (by decide) (hw _ wd_714) rfl rfl rfl (Nat.le_of_ble_eq_true rfl) d_MO_learned_2 rfl (fun H locs hP hD hS => ?_)
  refine lv_aload_n hx hb d_MO_learned_5 rfl (lv_at hl 0 rfl) ?_
  refine k_get hx hb hw uw_MO hown hK hP 0 rfl rfl 16 (by decide) (hw _ wd_730) rfl d_MO_learned_6 ?_
  refine lv_if_eq (tgt := 31) hx hb d_MO_learned_9 (by decide) (fun h9 => ?_) (fun h9 => ?_)
  · refine lv_iconst (v := nI 0) hx hb d_MO_learned_31 (by decide) ?_
    rw [hQ]
    exact k_iret () hx hb hr hlk hK hP hD hS [0] (by decide) rfl trivial rfl d_MO_learned_32
  · refine lv_aload_n hx hb d_MO_learned_12 rfl (lv_at hl 0 rfl) ?_
    refine k_get hx hb hw uw_MO hown hK hP 0 rfl rfl 17 (by decide) (hw _ wd_731) rfl d_MO_learned_13 ?_
    refine lv_bipush (v := -2) hx hb d_MO_learned_16 (by decide) ?_
    refine lv_icmp_eq (tgt := 31) hx hb d_MO_learned_18 (by decide) (fun h18 => ?_) (fun h18 => ?_)
    · refine lv_iconst (v := nI 0) hx hb d_MO_learned_31 (by decide) ?_
      rw [hQ]
      exact k_iret () hx hb hr hlk hK hP hD hS [0] (by decide) rfl trivial rfl d_MO_learned_32
    · refine lv_iload_n hx hb d_MO_learned_21 rfl (lv_at hl 1 rfl) ?_
      refine lv_if_lt (tgt := 31) hx hb d_MO_learned_22 (by decide) (fun h22 => ?_) (fun h22 => ?_)
      · refine lv_iconst (v := nI 0) hx hb d_MO_learned_31 (by decide) ?_
        rw [hQ]
        exact k_iret () hx hb hr hlk hK hP hD hS [0] (by decide) rfl trivial rfl d_MO_learned_32
      · refine lv_iload_n hx hb d_MO_learned_25 rfl (lv_at hl 1 rfl) ?_
        refine lv_bipush (v := nI 15) hx hb d_MO_learned_26 (by decide) ?_
        refine lv_icmp_le (tgt := 33) hx hb d_MO_learned_28 (by decide) (fun h28 => ?_) (fun h28 => ?_)
        · exact False.elim (by rcases hbad with q | q | q | q; exact h9 q; exact h18 q; exact h22 q; exact absurd h28 (Int32.not_le.mpr q))
        · refine lv_iconst (v := nI 0) hx hb d_MO_learned_31 (by decide) ?_
          rw [hQ]
          exact k_iret () hx hb hr hlk hK hP hD hS [0] (by decide) rfl trivial rfl d_MO_learned_32
set_option maxHeartbeats 4000000 in
set_option maxRecDepth 100000 in
theorem c_MO_learned_0 (l : Launch) (D : va_G) (tc : Nat → ClassId) (tb : Nat → Nat) (h0 : Nat) (nby : Nat) (ndb : Nat) (ncb : Nat) (nfr : Nat) (nsy : Nat) (nai : Nat) (xth : Int32) (xra : Int32) (xas : Int32) (xan : Int32) (xst : Int32) (xhr : Int32) (xhb : Int32) (xse : Int32) (xbe : Int32) (xrg : Int32) (a1 : Nat) (a2 : Nat) (a3 : Nat) (a4 : Nat) (a5 : Nat) (a6 : Nat) (a7 : Nat) (a8 : Nat) (a9 : Nat) (b1 : Nat) (b2 : Nat) (b3 : Nat) (b4 : Nat) (b5 : Nat) (b6 : Nat) (b7 : Nat) (b8 : Nat) (c1 : Nat) (c2 : Nat) (c3 : Nat) (c4 : Nat) (c5 : Nat) (c6 : Nat) (c7 : Nat) (f : Nat → Int32) (k : Nat) (xb : Int32) (has_ : ¬ xas = 0) (han_ : ¬ xan = -2) (hk : k < 16) (hb_ : xb = 0) : Mi l D tc tb y_MO_learned prog_10_method_47_code 3 (some .int) ({ frames := 0, cells := 0, slots := 0, locals := 0 }) [.ref h0, .int (nI k), .int (xb)] [(h0, .inr (8, [.int (xth), .int (nI nby), .ref a1, .int (xra), .int (nI ndb), .ref a2, .int (nI ncb), .ref a3, .ref a4, .int (nI nfr), .ref a5, .ref a6, .int (nI nsy), .int (nI nai), .ref a7, .ref a8, .int (xas), .int (xan), .int (xst), .int (xhr), .int (xhb), .int (xse), .int (xbe), .ref a9, .ref b1, .ref b2, .ref b3, .ref b4, .ref b5, .ref b6, .ref b7, .ref b8, .ref c1, .ref c2, .ref c3, .ref c4, .ref c5, .ref c6, .ref c7, .int (xrg)])), (b1, .inl (tc 0, 16, .inl f))] (fun _ : Unit => True) (fun _ : Unit => f k) (fun _ : Unit => [(h0, .inr (8, [.int (nI 0), .int (nI nby), .ref a1, .int (xra), .int (nI ndb), .ref a2, .int (nI ncb), .ref a3, .ref a4, .int (nI nfr), .ref a5, .ref a6, .int (nI nsy), .int (nI nai), .ref a7, .ref a8, .int (xas), .int (xan), .int (xst), .int (xhr), .int (xhb), .int (xse), .int (xbe), .ref a9, .ref b1, .ref b2, .ref b3, .ref b4, .ref b5, .ref b6, .ref b7, .ref b8, .ref c1, .ref c2, .ref c3, .ref c4, .ref c5, .ref c6, .ref c7, .int (xrg)])), (b1, .inl (tc 0, 16, .inl f))]) := by
  refine Mi.go (by decide) (Nat.le_of_ble_eq_true rfl) ?_
  intro p e s m below meth c A ls R args Q C
  obtain ⟨hx, hb, hr, hts, hown, hlk, hml, hin, hA, hST, hN, hK, hP, hD, hS, hl, hR, hQ⟩ := C
  have hw : ∀ w ∈ lw_g, w.before args s = true := fun w h => hts w (List.mem_cons_of_mem _ h)
  have hl : lv_has ls 3 [(0, .ref h0), (1, .int (nI k)), (2, .int (xb))] := hl
  refine lv_aload_n hx hb d_MO_learned_0 rfl (lv_at hl 0 rfl) ?_
  refine lv_iconst (v := nI 0) hx hb d_MO_learned_1 (by decide) ?_
  refine k_put (ws' := [(h0, .inr (8, [.int (nI 0), .int (nI nby), .ref a1, .int (xra), .int (nI ndb), .ref a2, .int (nI ncb), .ref a3, .ref a4, .int (nI nfr), .ref a5, .ref a6, .int (nI nsy), .int (nI nai), .ref a7, .ref a8, .int (xas), .int (xan), .int (xst), .int (xhr), .int (xhb), .int (xse), .int (xbe), .ref a9, .ref b1, .ref b2, .ref b3, .ref b4, .ref b5, .ref b6, .ref b7, .ref b8, .ref c1, .ref c2, .ref c3, .ref c4, .ref c5, .ref c6, .ref c7, .int (xrg)])), (b1, .inl (tc 0, 16, .inl f))]) hx hb hw uw_MO tok_MO nn_MO hown hK hP hD hS 0 rfl rfl 0 (by decide) (hw _ wd_714) rfl rfl rfl (Nat.le_of_ble_eq_true rfl) d_MO_learned_2 rfl (fun H locs hP hD hS => ?_)
  refine lv_aload_n hx hb d_MO_learned_5 rfl (lv_at hl 0 rfl) ?_
  refine k_get hx hb hw uw_MO hown hK hP 0 rfl rfl 16 (by decide) (hw _ wd_730) rfl d_MO_learned_6 ?_
  refine lv_if_eq (tgt := 31) hx hb d_MO_learned_9 (by decide) (fun h9 => ?_) (fun h9 => ?_)
  · exact absurd h9 has_
  · refine lv_aload_n hx hb d_MO_learned_12 rfl (lv_at hl 0 rfl) ?_
    refine k_get hx hb hw uw_MO hown hK hP 0 rfl rfl 17 (by decide) (hw _ wd_731) rfl d_MO_learned_13 ?_
    refine lv_bipush (v := -2) hx hb d_MO_learned_16 (by decide) ?_
    refine lv_icmp_eq (tgt := 31) hx hb d_MO_learned_18 (by decide) (fun h18 => ?_) (fun h18 => ?_)
    · exact absurd h18 han_
    · refine lv_iload_n hx hb d_MO_learned_21 rfl (lv_at hl 1 rfl) ?_
      refine lv_if_lt (tgt := 31) hx hb d_MO_learned_22 (by decide) (fun h22 => ?_) (fun h22 => ?_)
      · exact absurd h22 (nI_pos (by omega))
      · refine lv_iload_n hx hb d_MO_learned_25 rfl (lv_at hl 1 rfl) ?_
        refine lv_bipush (v := nI 15) hx hb d_MO_learned_26 (by decide) ?_
        refine k_icmp_le (tgt := 33) hx hb d_MO_learned_28 (by decide) (by omega) (by omega) (fun h28 => ?_) (fun h28 => ?_)
        · refine lv_iload_n hx hb d_MO_learned_33 rfl (lv_at hl 2 rfl) ?_
          refine lv_if_eq (tgt := 46) hx hb d_MO_learned_34 (by decide) (fun h34 => ?_) (fun h34 => ?_)
          · refine lv_aload_n hx hb d_MO_learned_46 rfl (lv_at hl 0 rfl) ?_
            refine k_get hx hb hw uw_MO hown hK hP 0 rfl rfl 24 (by decide) (hw _ wd_738) rfl d_MO_learned_47 ?_
            refine lv_iload_n hx hb d_MO_learned_50 rfl (lv_at hl 1 rfl) ?_
            refine k_iald hx hb hK hP 1 0 rfl rfl (by omega) (by omega) d_MO_learned_51 ?_
            rw [hQ]
            exact k_iret () hx hb hr hlk hK hP hD hS [0, 1] (by decide) rfl trivial rfl d_MO_learned_52
          · exact absurd hb_ h34
        · exfalso; omega
set_option maxHeartbeats 4000000 in
set_option maxRecDepth 100000 in
theorem c_MO_learned_1 (l : Launch) (D : va_G) (tc : Nat → ClassId) (tb : Nat → Nat) (h0 : Nat) (nby : Nat) (ndb : Nat) (ncb : Nat) (nfr : Nat) (nsy : Nat) (nai : Nat) (xth : Int32) (xra : Int32) (xas : Int32) (xan : Int32) (xst : Int32) (xhr : Int32) (xhb : Int32) (xse : Int32) (xbe : Int32) (xrg : Int32) (a1 : Nat) (a2 : Nat) (a3 : Nat) (a4 : Nat) (a5 : Nat) (a6 : Nat) (a7 : Nat) (a8 : Nat) (a9 : Nat) (b1 : Nat) (b2 : Nat) (b3 : Nat) (b4 : Nat) (b5 : Nat) (b6 : Nat) (b7 : Nat) (b8 : Nat) (c1 : Nat) (c2 : Nat) (c3 : Nat) (c4 : Nat) (c5 : Nat) (c6 : Nat) (c7 : Nat) (f : Nat → Int32) (k : Nat) (xb : Int32) (has_ : ¬ xas = 0) (han_ : ¬ xan = -2) (hk : k < 16) (hb_ : ¬ xb = 0) : Mi l D tc tb y_MO_learned prog_10_method_47_code 3 (some .int) ({ frames := 0, cells := 0, slots := 0, locals := 0 }) [.ref h0, .int (nI k), .int (xb)] [(h0, .inr (8, [.int (xth), .int (nI nby), .ref a1, .int (xra), .int (nI ndb), .ref a2, .int (nI ncb), .ref a3, .ref a4, .int (nI nfr), .ref a5, .ref a6, .int (nI nsy), .int (nI nai), .ref a7, .ref a8, .int (xas), .int (xan), .int (xst), .int (xhr), .int (xhb), .int (xse), .int (xbe), .ref a9, .ref b1, .ref b2, .ref b3, .ref b4, .ref b5, .ref b6, .ref b7, .ref b8, .ref c1, .ref c2, .ref c3, .ref c4, .ref c5, .ref c6, .ref c7, .int (xrg)])), (b2, .inl (tc 0, 16, .inl f))] (fun _ : Unit => True) (fun _ : Unit => f k) (fun _ : Unit => [(h0, .inr (8, [.int (nI 0), .int (nI nby), .ref a1, .int (xra), .int (nI ndb), .ref a2, .int (nI ncb), .ref a3, .ref a4, .int (nI nfr), .ref a5, .ref a6, .int (nI nsy), .int (nI nai), .ref a7, .ref a8, .int (xas), .int (xan), .int (xst), .int (xhr), .int (xhb), .int (xse), .int (xbe), .ref a9, .ref b1, .ref b2, .ref b3, .ref b4, .ref b5, .ref b6, .ref b7, .ref b8, .ref c1, .ref c2, .ref c3, .ref c4, .ref c5, .ref c6, .ref c7, .int (xrg)])), (b2, .inl (tc 0, 16, .inl f))]) := by
  refine Mi.go (by decide) (Nat.le_of_ble_eq_true rfl) ?_
  intro p e s m below meth c A ls R args Q C
  obtain ⟨hx, hb, hr, hts, hown, hlk, hml, hin, hA, hST, hN, hK, hP, hD, hS, hl, hR, hQ⟩ := C
  have hw : ∀ w ∈ lw_g, w.before args s = true := fun w h => hts w (List.mem_cons_of_mem _ h)
  have hl : lv_has ls 3 [(0, .ref h0), (1, .int (nI k)), (2, .int (xb))] := hl
  refine lv_aload_n hx hb d_MO_learned_0 rfl (lv_at hl 0 rfl) ?_
  refine lv_iconst (v := nI 0) hx hb d_MO_learned_1 (by decide) ?_
  refine k_put (ws' := [(h0, .inr (8, [.int (nI 0), .int (nI nby), .ref a1, .int (xra), .int (nI ndb), .ref a2, .int (nI ncb), .ref a3, .ref a4, .int (nI nfr), .ref a5, .ref a6, .int (nI nsy), .int (nI nai), .ref a7, .ref a8, .int (xas), .int (xan), .int (xst), .int (xhr), .int (xhb), .int (xse), .int (xbe), .ref a9, .ref b1, .ref b2, .ref b3, .ref b4, .ref b5, .ref b6, .ref b7, .ref b8, .ref c1, .ref c2, .ref c3, .ref c4, .ref c5, .ref c6, .ref c7, .int (xrg)])), (b2, .inl (tc 0, 16, .inl f))]) hx hb hw uw_MO tok_MO nn_MO hown hK hP hD hS 0 rfl rfl 0 (by decide) (hw _ wd_714) rfl rfl rfl (Nat.le_of_ble_eq_true rfl) d_MO_learned_2 rfl (fun H locs hP hD hS => ?_)
  refine lv_aload_n hx hb d_MO_learned_5 rfl (lv_at hl 0 rfl) ?_
  refine k_get hx hb hw uw_MO hown hK hP 0 rfl rfl 16 (by decide) (hw _ wd_730) rfl d_MO_learned_6 ?_
  refine lv_if_eq (tgt := 31) hx hb d_MO_learned_9 (by decide) (fun h9 => ?_) (fun h9 => ?_)
  · exact absurd h9 has_
  · refine lv_aload_n hx hb d_MO_learned_12 rfl (lv_at hl 0 rfl) ?_
    refine k_get hx hb hw uw_MO hown hK hP 0 rfl rfl 17 (by decide) (hw _ wd_731) rfl d_MO_learned_13 ?_
    refine lv_bipush (v := -2) hx hb d_MO_learned_16 (by decide) ?_
    refine lv_icmp_eq (tgt := 31) hx hb d_MO_learned_18 (by decide) (fun h18 => ?_) (fun h18 => ?_)
    · exact absurd h18 han_
    · refine lv_iload_n hx hb d_MO_learned_21 rfl (lv_at hl 1 rfl) ?_
      refine lv_if_lt (tgt := 31) hx hb d_MO_learned_22 (by decide) (fun h22 => ?_) (fun h22 => ?_)
      · exact absurd h22 (nI_pos (by omega))
      · refine lv_iload_n hx hb d_MO_learned_25 rfl (lv_at hl 1 rfl) ?_
        refine lv_bipush (v := nI 15) hx hb d_MO_learned_26 (by decide) ?_
        refine k_icmp_le (tgt := 33) hx hb d_MO_learned_28 (by decide) (by omega) (by omega) (fun h28 => ?_) (fun h28 => ?_)
        · refine lv_iload_n hx hb d_MO_learned_33 rfl (lv_at hl 2 rfl) ?_
          refine lv_if_eq (tgt := 46) hx hb d_MO_learned_34 (by decide) (fun h34 => ?_) (fun h34 => ?_)
          · exact absurd h34 hb_
          · refine lv_aload_n hx hb d_MO_learned_37 rfl (lv_at hl 0 rfl) ?_
            refine k_get hx hb hw uw_MO hown hK hP 0 rfl rfl 25 (by decide) (hw _ wd_739) rfl d_MO_learned_38 ?_
            refine lv_iload_n hx hb d_MO_learned_41 rfl (lv_at hl 1 rfl) ?_
            refine k_iald hx hb hK hP 1 0 rfl rfl (by omega) (by omega) d_MO_learned_42 ?_
            refine lv_goto (tgt := 52) hx hb d_MO_learned_43 (by decide) ?_
            rw [hQ]
            exact k_iret () hx hb hr hlk hK hP hD hS [0, 1] (by decide) rfl trivial rfl d_MO_learned_52
        · exfalso; omega
set_option maxHeartbeats 4000000 in
set_option maxRecDepth 100000 in
theorem c_MO_send_no1 (l : Launch) (D : va_G) (tc : Nat → ClassId) (tb : Nat → Nat) (h0 : Nat) (nby : Nat) (ndb : Nat) (ncb : Nat) (nfr : Nat) (nsy : Nat) (nai : Nat) (xth : Int32) (xra : Int32) (xas : Int32) (xan : Int32) (xst : Int32) (xhr : Int32) (xhb : Int32) (xse : Int32) (xbe : Int32) (xrg : Int32) (a1 : Nat) (a2 : Nat) (a3 : Nat) (a4 : Nat) (a5 : Nat) (a6 : Nat) (a7 : Nat) (a8 : Nat) (a9 : Nat) (b1 : Nat) (b2 : Nat) (b3 : Nat) (b4 : Nat) (b5 : Nat) (b6 : Nat) (b7 : Nat) (b8 : Nat) (c1 : Nat) (c2 : Nat) (c3 : Nat) (c4 : Nat) (c5 : Nat) (c6 : Nat) (c7 : Nat) (xr : Int32) (xs : Int32) (hbad : xr < 0 ∨ nI 3 < xr ∨ xs < nI 1 ∨ nI 127 < xs) : Mi l D tc tb y_MO_send prog_10_method_24_code 8 (some .int) ({ frames := 0, cells := 0, slots := 0, locals := 0 }) [.ref h0, .int (xr), .int (xs)] [(h0, .inr (8, [.int (xth), .int (nI nby), .ref a1, .int (xra), .int (nI ndb), .ref a2, .int (nI ncb), .ref a3, .ref a4, .int (nI nfr), .ref a5, .ref a6, .int (nI nsy), .int (nI nai), .ref a7, .ref a8, .int (xas), .int (xan), .int (xst), .int (xhr), .int (xhb), .int (xse), .int (xbe), .ref a9, .ref b1, .ref b2, .ref b3, .ref b4, .ref b5, .ref b6, .ref b7, .ref b8, .ref c1, .ref c2, .ref c3, .ref c4, .ref c5, .ref c6, .ref c7, .int (xrg)]))] (fun _ : Unit => True) (fun _ : Unit => nI 0) (fun _ : Unit => [(h0, .inr (8, [.int (nI 1), .int (nI nby), .ref a1, .int (xra), .int (nI ndb), .ref a2, .int (nI ncb), .ref a3, .ref a4, .int (nI nfr), .ref a5, .ref a6, .int (nI nsy), .int (nI nai), .ref a7, .ref a8, .int (xas), .int (xan), .int (xst), .int (xhr), .int (xhb), .int (xse), .int (xbe), .ref a9, .ref b1, .ref b2, .ref b3, .ref b4, .ref b5, .ref b6, .ref b7, .ref b8, .ref c1, .ref c2, .ref c3, .ref c4, .ref c5, .ref c6, .ref c7, .int (xrg)]))]) := by
  refine Mi.go (by decide) (Nat.le_of_ble_eq_true rfl) ?_
  intro p e s m below meth c A ls R args Q C
  obtain ⟨hx, hb, hr, hts, hown, hlk, hml, hin, hA, hST, hN, hK, hP, hD, hS, hl, hR, hQ⟩ := C
  have hw : ∀ w ∈ lw_g, w.before args s = true := fun w h => hts w (List.mem_cons_of_mem _ h)
  have hl : lv_has ls 8 [(0, .ref h0), (1, .int (xr)), (2, .int (xs))] := hl
  refine lv_aload_n hx hb d_MO_send_0 rfl (lv_at hl 0 rfl) ?_
  refine lv_iload_n hx hb d_MO_send_1 rfl (lv_at hl 1 rfl) ?_
  refine lv_if_lt (tgt := 21) hx hb d_MO_send_2 (by decide) (fun h2 => ?_) (fun h2 => ?_)
  · refine lv_iconst (v := nI 1) hx hb d_MO_send_21 (by decide) ?_
    refine lv_goto (tgt := 37) hx hb d_MO_send_22 (by decide) ?_
    refine k_put (ws' := [(h0, .inr (8, [.int (nI 1), .int (nI nby), .ref a1, .int (xra), .int (nI ndb), .ref a2, .int (nI ncb), .ref a3, .ref a4, .int (nI nfr), .ref a5, .ref a6, .int (nI nsy), .int (nI nai), .ref a7, .ref a8, .int (xas), .int (xan), .int (xst), .int (xhr), .int (xhb), .int (xse), .int (xbe), .ref a9, .ref b1, .ref b2, .ref b3, .ref b4, .ref b5, .ref b6, .ref b7, .ref b8, .ref c1, .ref c2, .ref c3, .ref c4, .ref c5, .ref c6, .ref c7, .int (xrg)]))]) hx hb hw uw_MO tok_MO nn_MO hown hK hP hD hS 0 rfl rfl 0 (by decide) (hw _ wd_714) rfl rfl rfl (Nat.le_of_ble_eq_true rfl) d_MO_send_37 rfl (fun H locs hP hD hS => ?_)
    refine lv_aload_n hx hb d_MO_send_40 rfl (lv_at hl 0 rfl) ?_
    refine k_get hx hb hw uw_MO hown hK hP 0 rfl rfl 0 (by decide) (hw _ wd_714) rfl d_MO_send_41 ?_
    refine lv_if_le (tgt := 49) hx hb d_MO_send_44 (by decide) (fun h44 => ?_) (fun h44 => ?_)
    · exact absurd h44 (by decide)
    · refine lv_iconst (v := nI 0) hx hb d_MO_send_47 (by decide) ?_
      rw [hQ]
      exact k_iret () hx hb hr hlk hK hP hD hS [0] (by decide) rfl trivial rfl d_MO_send_48
  · refine lv_iload_n hx hb d_MO_send_5 rfl (lv_at hl 1 rfl) ?_
    refine lv_iconst (v := nI 3) hx hb d_MO_send_6 (by decide) ?_
    refine lv_icmp_gt (tgt := 21) hx hb d_MO_send_7 (by decide) (fun h7 => ?_) (fun h7 => ?_)
    · refine lv_iconst (v := nI 1) hx hb d_MO_send_21 (by decide) ?_
      refine lv_goto (tgt := 37) hx hb d_MO_send_22 (by decide) ?_
      refine k_put (ws' := [(h0, .inr (8, [.int (nI 1), .int (nI nby), .ref a1, .int (xra), .int (nI ndb), .ref a2, .int (nI ncb), .ref a3, .ref a4, .int (nI nfr), .ref a5, .ref a6, .int (nI nsy), .int (nI nai), .ref a7, .ref a8, .int (xas), .int (xan), .int (xst), .int (xhr), .int (xhb), .int (xse), .int (xbe), .ref a9, .ref b1, .ref b2, .ref b3, .ref b4, .ref b5, .ref b6, .ref b7, .ref b8, .ref c1, .ref c2, .ref c3, .ref c4, .ref c5, .ref c6, .ref c7, .int (xrg)]))]) hx hb hw uw_MO tok_MO nn_MO hown hK hP hD hS 0 rfl rfl 0 (by decide) (hw _ wd_714) rfl rfl rfl (Nat.le_of_ble_eq_true rfl) d_MO_send_37 rfl (fun H locs hP hD hS => ?_)
      refine lv_aload_n hx hb d_MO_send_40 rfl (lv_at hl 0 rfl) ?_
      refine k_get hx hb hw uw_MO hown hK hP 0 rfl rfl 0 (by decide) (hw _ wd_714) rfl d_MO_send_41 ?_
      refine lv_if_le (tgt := 49) hx hb d_MO_send_44 (by decide) (fun h44 => ?_) (fun h44 => ?_)
      · exact absurd h44 (by decide)
      · refine lv_iconst (v := nI 0) hx hb d_MO_send_47 (by decide) ?_
        rw [hQ]
        exact k_iret () hx hb hr hlk hK hP hD hS [0] (by decide) rfl trivial rfl d_MO_send_48
    · refine lv_iload_n hx hb d_MO_send_10 rfl (lv_at hl 2 rfl) ?_
      refine lv_iconst (v := nI 1) hx hb d_MO_send_11 (by decide) ?_
      refine lv_icmp_lt (tgt := 21) hx hb d_MO_send_12 (by decide) (fun h12 => ?_) (fun h12 => ?_)
      · refine lv_iconst (v := nI 1) hx hb d_MO_send_21 (by decide) ?_
        refine lv_goto (tgt := 37) hx hb d_MO_send_22 (by decide) ?_
        refine k_put (ws' := [(h0, .inr (8, [.int (nI 1), .int (nI nby), .ref a1, .int (xra), .int (nI ndb), .ref a2, .int (nI ncb), .ref a3, .ref a4, .int (nI nfr), .ref a5, .ref a6, .int (nI nsy), .int (nI nai), .ref a7, .ref a8, .int (xas), .int (xan), .int (xst), .int (xhr), .int (xhb), .int (xse), .int (xbe), .ref a9, .ref b1, .ref b2, .ref b3, .ref b4, .ref b5, .ref b6, .ref b7, .ref b8, .ref c1, .ref c2, .ref c3, .ref c4, .ref c5, .ref c6, .ref c7, .int (xrg)]))]) hx hb hw uw_MO tok_MO nn_MO hown hK hP hD hS 0 rfl rfl 0 (by decide) (hw _ wd_714) rfl rfl rfl (Nat.le_of_ble_eq_true rfl) d_MO_send_37 rfl (fun H locs hP hD hS => ?_)
        refine lv_aload_n hx hb d_MO_send_40 rfl (lv_at hl 0 rfl) ?_
        refine k_get hx hb hw uw_MO hown hK hP 0 rfl rfl 0 (by decide) (hw _ wd_714) rfl d_MO_send_41 ?_
        refine lv_if_le (tgt := 49) hx hb d_MO_send_44 (by decide) (fun h44 => ?_) (fun h44 => ?_)
        · exact absurd h44 (by decide)
        · refine lv_iconst (v := nI 0) hx hb d_MO_send_47 (by decide) ?_
          rw [hQ]
          exact k_iret () hx hb hr hlk hK hP hD hS [0] (by decide) rfl trivial rfl d_MO_send_48
      · refine lv_iload_n hx hb d_MO_send_15 rfl (lv_at hl 2 rfl) ?_
        refine lv_bipush (v := nI 127) hx hb d_MO_send_16 (by decide) ?_
        refine lv_icmp_le (tgt := 25) hx hb d_MO_send_18 (by decide) (fun h18 => ?_) (fun h18 => ?_)
        · exact False.elim (by rcases hbad with q | q | q | q; exact h2 q; exact h7 q; exact h12 q; exact absurd h18 (Int32.not_le.mpr q))
        · refine lv_iconst (v := nI 1) hx hb d_MO_send_21 (by decide) ?_
          refine lv_goto (tgt := 37) hx hb d_MO_send_22 (by decide) ?_
          refine k_put (ws' := [(h0, .inr (8, [.int (nI 1), .int (nI nby), .ref a1, .int (xra), .int (nI ndb), .ref a2, .int (nI ncb), .ref a3, .ref a4, .int (nI nfr), .ref a5, .ref a6, .int (nI nsy), .int (nI nai), .ref a7, .ref a8, .int (xas), .int (xan), .int (xst), .int (xhr), .int (xhb), .int (xse), .int (xbe), .ref a9, .ref b1, .ref b2, .ref b3, .ref b4, .ref b5, .ref b6, .ref b7, .ref b8, .ref c1, .ref c2, .ref c3, .ref c4, .ref c5, .ref c6, .ref c7, .int (xrg)]))]) hx hb hw uw_MO tok_MO nn_MO hown hK hP hD hS 0 rfl rfl 0 (by decide) (hw _ wd_714) rfl rfl rfl (Nat.le_of_ble_eq_true rfl) d_MO_send_37 rfl (fun H locs hP hD hS => ?_)
          refine lv_aload_n hx hb d_MO_send_40 rfl (lv_at hl 0 rfl) ?_
          refine k_get hx hb hw uw_MO hown hK hP 0 rfl rfl 0 (by decide) (hw _ wd_714) rfl d_MO_send_41 ?_
          refine lv_if_le (tgt := 49) hx hb d_MO_send_44 (by decide) (fun h44 => ?_) (fun h44 => ?_)
          · exact absurd h44 (by decide)
          · refine lv_iconst (v := nI 0) hx hb d_MO_send_47 (by decide) ?_
            rw [hQ]
            exact k_iret () hx hb hr hlk hK hP hD hS [0] (by decide) rfl trivial rfl d_MO_send_48
set_option maxHeartbeats 4000000 in
set_option maxRecDepth 100000 in
theorem c_MO_send_no2 (l : Launch) (D : va_G) (tc : Nat → ClassId) (tb : Nat → Nat) (h0 : Nat) (ndb : Nat) (ncb : Nat) (nfr : Nat) (nsy : Nat) (nai : Nat) (xth : Int32) (xra : Int32) (xas : Int32) (xan : Int32) (xst : Int32) (xhr : Int32) (xhb : Int32) (xse : Int32) (xbe : Int32) (xrg : Int32) (a1 : Nat) (a2 : Nat) (a3 : Nat) (a4 : Nat) (a5 : Nat) (a6 : Nat) (a7 : Nat) (a8 : Nat) (a9 : Nat) (b1 : Nat) (b2 : Nat) (b3 : Nat) (b4 : Nat) (b5 : Nat) (b6 : Nat) (b7 : Nat) (b8 : Nat) (c1 : Nat) (c2 : Nat) (c3 : Nat) (c4 : Nat) (c5 : Nat) (c6 : Nat) (c7 : Nat) (r : Nat) (sd : Nat) (hr : r ≤ 3) (hs1 : 1 ≤ sd) (hs2 : sd ≤ 127) : Mi l D tc tb y_MO_send prog_10_method_24_code 8 (some .int) ({ frames := 0, cells := 0, slots := 0, locals := 0 }) [.ref h0, .int (nI r), .int (nI sd)] [(h0, .inr (8, [.int (xth), .int (nI 0), .ref a1, .int (xra), .int (nI ndb), .ref a2, .int (nI ncb), .ref a3, .ref a4, .int (nI nfr), .ref a5, .ref a6, .int (nI nsy), .int (nI nai), .ref a7, .ref a8, .int (xas), .int (xan), .int (xst), .int (xhr), .int (xhb), .int (xse), .int (xbe), .ref a9, .ref b1, .ref b2, .ref b3, .ref b4, .ref b5, .ref b6, .ref b7, .ref b8, .ref c1, .ref c2, .ref c3, .ref c4, .ref c5, .ref c6, .ref c7, .int (xrg)]))] (fun _ : Unit => True) (fun _ : Unit => nI 0) (fun _ : Unit => [(h0, .inr (8, [.int (nI 2), .int (nI 0), .ref a1, .int (xra), .int (nI ndb), .ref a2, .int (nI ncb), .ref a3, .ref a4, .int (nI nfr), .ref a5, .ref a6, .int (nI nsy), .int (nI nai), .ref a7, .ref a8, .int (xas), .int (xan), .int (xst), .int (xhr), .int (xhb), .int (xse), .int (xbe), .ref a9, .ref b1, .ref b2, .ref b3, .ref b4, .ref b5, .ref b6, .ref b7, .ref b8, .ref c1, .ref c2, .ref c3, .ref c4, .ref c5, .ref c6, .ref c7, .int (xrg)]))]) := by
  refine Mi.go (by decide) (Nat.le_of_ble_eq_true rfl) ?_
  intro p e s m below meth c A ls R args Q C
  obtain ⟨hx, hb, hr, hts, hown, hlk, hml, hin, hA, hST, hN, hK, hP, hD, hS, hl, hR, hQ⟩ := C
  have hw : ∀ w ∈ lw_g, w.before args s = true := fun w h => hts w (List.mem_cons_of_mem _ h)
  have hl : lv_has ls 8 [(0, .ref h0), (1, .int (nI r)), (2, .int (nI sd))] := hl
  refine lv_aload_n hx hb d_MO_send_0 rfl (lv_at hl 0 rfl) ?_
  refine lv_iload_n hx hb d_MO_send_1 rfl (lv_at hl 1 rfl) ?_
  refine lv_if_lt (tgt := 21) hx hb d_MO_send_2 (by decide) (fun h2 => ?_) (fun h2 => ?_)
  · exact absurd h2 (nI_pos (by omega))
  · refine lv_iload_n hx hb d_MO_send_5 rfl (lv_at hl 1 rfl) ?_
    refine lv_iconst (v := nI 3) hx hb d_MO_send_6 (by decide) ?_
    refine k_icmp_gt (tgt := 21) hx hb d_MO_send_7 (by decide) (by omega) (by omega) (fun h7 => ?_) (fun h7 => ?_)
    · exfalso; omega
    · refine lv_iload_n hx hb d_MO_send_10 rfl (lv_at hl 2 rfl) ?_
      refine lv_iconst (v := nI 1) hx hb d_MO_send_11 (by decide) ?_
      refine k_icmp_lt (tgt := 21) hx hb d_MO_send_12 (by decide) (by omega) (by omega) (fun h12 => ?_) (fun h12 => ?_)
      · exfalso; omega
      · refine lv_iload_n hx hb d_MO_send_15 rfl (lv_at hl 2 rfl) ?_
        refine lv_bipush (v := nI 127) hx hb d_MO_send_16 (by decide) ?_
        refine k_icmp_le (tgt := 25) hx hb d_MO_send_18 (by decide) (by omega) (by omega) (fun h18 => ?_) (fun h18 => ?_)
        · refine lv_aload_n hx hb d_MO_send_25 rfl (lv_at hl 0 rfl) ?_
          refine k_get hx hb hw uw_MO hown hK hP 0 rfl rfl 1 (by decide) (hw _ wd_715) rfl d_MO_send_26 ?_
          refine k_if_ne (tgt := 36) hx hb d_MO_send_29 (by decide) (by omega) (fun h29 => ?_) (fun h29 => ?_)
          · exfalso; omega
          · refine lv_iconst (v := nI 2) hx hb d_MO_send_32 (by decide) ?_
            refine lv_goto (tgt := 37) hx hb d_MO_send_33 (by decide) ?_
            refine k_put (ws' := [(h0, .inr (8, [.int (nI 2), .int (nI 0), .ref a1, .int (xra), .int (nI ndb), .ref a2, .int (nI ncb), .ref a3, .ref a4, .int (nI nfr), .ref a5, .ref a6, .int (nI nsy), .int (nI nai), .ref a7, .ref a8, .int (xas), .int (xan), .int (xst), .int (xhr), .int (xhb), .int (xse), .int (xbe), .ref a9, .ref b1, .ref b2, .ref b3, .ref b4, .ref b5, .ref b6, .ref b7, .ref b8, .ref c1, .ref c2, .ref c3, .ref c4, .ref c5, .ref c6, .ref c7, .int (xrg)]))]) hx hb hw uw_MO tok_MO nn_MO hown hK hP hD hS 0 rfl rfl 0 (by decide) (hw _ wd_714) rfl rfl rfl (Nat.le_of_ble_eq_true rfl) d_MO_send_37 rfl (fun H locs hP hD hS => ?_)
            refine lv_aload_n hx hb d_MO_send_40 rfl (lv_at hl 0 rfl) ?_
            refine k_get hx hb hw uw_MO hown hK hP 0 rfl rfl 0 (by decide) (hw _ wd_714) rfl d_MO_send_41 ?_
            refine lv_if_le (tgt := 49) hx hb d_MO_send_44 (by decide) (fun h44 => ?_) (fun h44 => ?_)
            · exact absurd h44 (by decide)
            · refine lv_iconst (v := nI 0) hx hb d_MO_send_47 (by decide) ?_
              rw [hQ]
              exact k_iret () hx hb hr hlk hK hP hD hS [0] (by decide) rfl trivial rfl d_MO_send_48
        · exfalso; omega
