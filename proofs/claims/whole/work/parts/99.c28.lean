set_option maxHeartbeats 4000000 in
set_option maxRecDepth 100000 in
theorem c_WA_hasP (l : Launch) (D : va_G) (tc : Nat → ClassId) (tb : Nat → Nat) (h0 : Nat) (qi : Nat) (qq : Nat) (cnt : Nat) (n : Nat) (wi : Nat → Int32) (wq : Nat → Int32) (x : Int32) : Mp l D tc tb y_WA_has prog_8_method_3_code 2 (some .boolean) ({ frames := 0, cells := 0, slots := 0, locals := 0 }) [.ref h0, .int (x)] [(h0, .inr (1, [.ref qi, .ref qq, .int (nI cnt)])), (qi, .inl (tc 1, n, .inl wi)), (qq, .inl (tc 1, n, .inl wq))] (hasF x cnt) := by
  refine Mp.go (by decide) (Nat.le_of_ble_eq_true rfl) ?_
  intro p e s m below meth c A ls R args Q C
  obtain ⟨hx, hb, hr, hts, hown, hlk, hml, hin, hA, hST, hN, hK, hP, hD, hS, hl, hR, hQ⟩ := C
  have hw : ∀ w ∈ lw_g, w.before args s = true := fun w h => hts w (List.mem_cons_of_mem _ h)
  have hl : lv_has ls 2 [(0, .ref h0), (1, .int (x))] := hl
  refine lv_iload_n hx hb d_WA_has_0 rfl (lv_at hl 1 rfl) ?_
  refine lv_if_lt (tgt := 16) hx hb d_WA_has_1 (by decide) (fun h1 => ?_) (fun h1 => ?_)
  · refine lv_iconst (v := nI 0) hx hb d_WA_has_16 (by decide) ?_
    rw [hQ]
    exact k_pret hx hb hr hlk rfl (by unfold hasF; first | (rw [if_pos h1]; rfl) | (rw [if_neg h1, if_pos h9]; rfl) | (rw [if_neg h1, if_neg h9]; rfl)) d_WA_has_17
  · refine lv_iload_n hx hb d_WA_has_4 rfl (lv_at hl 1 rfl) ?_
    refine lv_aload_n hx hb d_WA_has_5 rfl (lv_at hl 0 rfl) ?_
    refine k_get hx hb hw uw_WA hown hK hP 0 rfl rfl 2 (by decide) (hw _ wd_41) rfl d_WA_has_6 ?_
    refine lv_icmp_ge (tgt := 16) hx hb d_WA_has_9 (by decide) (fun h9 => ?_) (fun h9 => ?_)
    · refine lv_iconst (v := nI 0) hx hb d_WA_has_16 (by decide) ?_
      rw [hQ]
      exact k_pret hx hb hr hlk rfl (by unfold hasF; first | (rw [if_pos h1]; rfl) | (rw [if_neg h1, if_pos h9]; rfl) | (rw [if_neg h1, if_neg h9]; rfl)) d_WA_has_17
    · refine lv_iconst (v := nI 1) hx hb d_WA_has_12 (by decide) ?_
      refine lv_goto (tgt := 17) hx hb d_WA_has_13 (by decide) ?_
      rw [hQ]
      exact k_pret hx hb hr hlk rfl (by unfold hasF; first | (rw [if_pos h1]; rfl) | (rw [if_neg h1, if_pos h9]; rfl) | (rw [if_neg h1, if_neg h9]; rfl)) d_WA_has_17
set_option maxHeartbeats 4000000 in
set_option maxRecDepth 100000 in
theorem c_CL_send_no1 (l : Launch) (D : va_G) (tc : Nat → ClassId) (tb : Nat → Nat) (htr : l.stackTraces = false) (h0 : Nat) (wq0 : Nat) (fw : Nat) (oa : Nat) (sn : Nat) (rc : Nat) (mc : Nat) (xr : Int32) (xs : Int32) (hbad : xr < 0 ∨ nI 3 < xr ∨ xs < nI 1 ∨ nI 127 < xs) : Mx l D tc tb y_CL_send prog_1_method_4_code 3 (some .int) ({ frames := 6, cells := 1, slots := 6, locals := 90 }) [.ref h0, .int (xr), .int (xs)] [(h0, .inr (0, [.ref wq0, .int (nI mc), .ref fw, .ref oa, .ref sn, .ref rc]))] "java/lang/IllegalArgumentException" := by
  refine Mx.go (by decide) (Nat.le_of_ble_eq_true rfl) htr ?_
  intro p e s m below meth c A ls R args Q C
  obtain ⟨hx, hb, hts, hown, hlk, hml, hin, hA, hST, hN, hK, hP, hD, hS, hl, hR, hQ, hKW, hSW, htr9, hno⟩ := C
  have hw : ∀ w ∈ lw_g, w.before args s = true := fun w h => hts w (List.mem_cons_of_mem _ h)
  have hl : lv_has ls 3 [(0, .ref h0), (1, .int (xr)), (2, .int (xs))] := hl
  refine lv_iload_n hx hb d_CL_send_0 rfl (lv_at hl 1 rfl) ?_
  refine lv_if_lt (tgt := 20) hx hb d_CL_send_1 (by decide) (fun h1 => ?_) (fun h1 => ?_)
  · rw [hQ]
    exact k_throw (X := "java/lang/IllegalArgumentException") (own := "CarrierLink") (tx := "rate or seed") (names := ["java/lang/RuntimeException", "java/lang/Exception"]) hx hb (hml.trans hl.1.symm) hlk htr9 hno hown hS (by decide) (by decide) hKW hSW oa_IllegalArgumentException cl_IllegalArgumentException ini_IllegalArgumentException str_55 (by rw [hR]; exact Nat.le_of_ble_eq_true rfl) (by rw [hR]; exact Nat.le_of_ble_eq_true rfl) (by rw [hR]; exact Nat.lt_of_lt_of_le (by decide) (Nat.le_of_ble_eq_true rfl : 6 ≤ _)) (by rw [hR]; exact Nat.le_of_ble_eq_true rfl) d_CL_send_20 d_CL_send_23 d_CL_send_24 d_CL_send_26 d_CL_send_29
  · refine lv_iload_n hx hb d_CL_send_4 rfl (lv_at hl 1 rfl) ?_
    refine lv_iconst (v := nI 3) hx hb d_CL_send_5 (by decide) ?_
    refine lv_icmp_gt (tgt := 20) hx hb d_CL_send_6 (by decide) (fun h6 => ?_) (fun h6 => ?_)
    · rw [hQ]
      exact k_throw (X := "java/lang/IllegalArgumentException") (own := "CarrierLink") (tx := "rate or seed") (names := ["java/lang/RuntimeException", "java/lang/Exception"]) hx hb (hml.trans hl.1.symm) hlk htr9 hno hown hS (by decide) (by decide) hKW hSW oa_IllegalArgumentException cl_IllegalArgumentException ini_IllegalArgumentException str_55 (by rw [hR]; exact Nat.le_of_ble_eq_true rfl) (by rw [hR]; exact Nat.le_of_ble_eq_true rfl) (by rw [hR]; exact Nat.lt_of_lt_of_le (by decide) (Nat.le_of_ble_eq_true rfl : 6 ≤ _)) (by rw [hR]; exact Nat.le_of_ble_eq_true rfl) d_CL_send_20 d_CL_send_23 d_CL_send_24 d_CL_send_26 d_CL_send_29
    · refine lv_iload_n hx hb d_CL_send_9 rfl (lv_at hl 2 rfl) ?_
      refine lv_iconst (v := nI 1) hx hb d_CL_send_10 (by decide) ?_
      refine lv_icmp_lt (tgt := 20) hx hb d_CL_send_11 (by decide) (fun h11 => ?_) (fun h11 => ?_)
      · rw [hQ]
        exact k_throw (X := "java/lang/IllegalArgumentException") (own := "CarrierLink") (tx := "rate or seed") (names := ["java/lang/RuntimeException", "java/lang/Exception"]) hx hb (hml.trans hl.1.symm) hlk htr9 hno hown hS (by decide) (by decide) hKW hSW oa_IllegalArgumentException cl_IllegalArgumentException ini_IllegalArgumentException str_55 (by rw [hR]; exact Nat.le_of_ble_eq_true rfl) (by rw [hR]; exact Nat.le_of_ble_eq_true rfl) (by rw [hR]; exact Nat.lt_of_lt_of_le (by decide) (Nat.le_of_ble_eq_true rfl : 6 ≤ _)) (by rw [hR]; exact Nat.le_of_ble_eq_true rfl) d_CL_send_20 d_CL_send_23 d_CL_send_24 d_CL_send_26 d_CL_send_29
      · refine lv_iload_n hx hb d_CL_send_14 rfl (lv_at hl 2 rfl) ?_
        refine lv_bipush (v := nI 127) hx hb d_CL_send_15 (by decide) ?_
        refine lv_icmp_le (tgt := 30) hx hb d_CL_send_17 (by decide) (fun h17 => ?_) (fun h17 => ?_)
        · exact False.elim (by rcases hbad with q | q | q | q; exact h1 q; exact h6 q; exact h11 q; exact absurd h17 (Int32.not_le.mpr q))
        · rw [hQ]
          exact k_throw (X := "java/lang/IllegalArgumentException") (own := "CarrierLink") (tx := "rate or seed") (names := ["java/lang/RuntimeException", "java/lang/Exception"]) hx hb (hml.trans hl.1.symm) hlk htr9 hno hown hS (by decide) (by decide) hKW hSW oa_IllegalArgumentException cl_IllegalArgumentException ini_IllegalArgumentException str_55 (by rw [hR]; exact Nat.le_of_ble_eq_true rfl) (by rw [hR]; exact Nat.le_of_ble_eq_true rfl) (by rw [hR]; exact Nat.lt_of_lt_of_le (by decide) (Nat.le_of_ble_eq_true rfl : 6 ≤ _)) (by rw [hR]; exact Nat.le_of_ble_eq_true rfl) d_CL_send_20 d_CL_send_23 d_CL_send_24 d_CL_send_26 d_CL_send_29
set_option maxHeartbeats 4000000 in
set_option maxRecDepth 100000 in
theorem c_CL_send_no2 (l : Launch) (D : va_G) (tc : Nat → ClassId) (tb : Nat → Nat) (htr : l.stackTraces = false) (h0 : Nat) (wq0 : Nat) (fw : Nat) (oa : Nat) (sn : Nat) (rc : Nat) (r : Nat) (sd : Nat) (hr3 : r ≤ 3) (hs1 : 1 ≤ sd) (hs2 : sd ≤ 127) : Mx l D tc tb y_CL_send prog_1_method_4_code 3 (some .int) ({ frames := 6, cells := 1, slots := 6, locals := 90 }) [.ref h0, .int (nI r), .int (nI sd)] [(h0, .inr (0, [.ref wq0, .int (nI 0), .ref fw, .ref oa, .ref sn, .ref rc]))] "java/lang/IllegalStateException" := by
  refine Mx.go (by decide) (Nat.le_of_ble_eq_true rfl) htr ?_
  intro p e s m below meth c A ls R args Q C
  obtain ⟨hx, hb, hts, hown, hlk, hml, hin, hA, hST, hN, hK, hP, hD, hS, hl, hR, hQ, hKW, hSW, htr9, hno⟩ := C
  have hw : ∀ w ∈ lw_g, w.before args s = true := fun w h => hts w (List.mem_cons_of_mem _ h)
  have hl : lv_has ls 3 [(0, .ref h0), (1, .int (nI r)), (2, .int (nI sd))] := hl
  refine lv_iload_n hx hb d_CL_send_0 rfl (lv_at hl 1 rfl) ?_
  refine lv_if_lt (tgt := 20) hx hb d_CL_send_1 (by decide) (fun h1 => ?_) (fun h1 => ?_)
  · exact absurd h1 (nI_pos (by omega))
  · refine lv_iload_n hx hb d_CL_send_4 rfl (lv_at hl 1 rfl) ?_
    refine lv_iconst (v := nI 3) hx hb d_CL_send_5 (by decide) ?_
    refine k_icmp_gt (tgt := 20) hx hb d_CL_send_6 (by decide) (by omega) (by omega) (fun h6 => ?_) (fun h6 => ?_)
    · exfalso; omega
    · refine lv_iload_n hx hb d_CL_send_9 rfl (lv_at hl 2 rfl) ?_
      refine lv_iconst (v := nI 1) hx hb d_CL_send_10 (by decide) ?_
      refine k_icmp_lt (tgt := 20) hx hb d_CL_send_11 (by decide) (by omega) (by omega) (fun h11 => ?_) (fun h11 => ?_)
      · exfalso; omega
      · refine lv_iload_n hx hb d_CL_send_14 rfl (lv_at hl 2 rfl) ?_
        refine lv_bipush (v := nI 127) hx hb d_CL_send_15 (by decide) ?_
        refine k_icmp_le (tgt := 30) hx hb d_CL_send_17 (by decide) (by omega) (by omega) (fun h17 => ?_) (fun h17 => ?_)
        · refine lv_aload_n hx hb d_CL_send_30 rfl (lv_at hl 0 rfl) ?_
          refine k_get hx hb hw uw_CL hown hK hP 0 rfl rfl 1 (by decide) (hw _ wd_252) rfl d_CL_send_31 ?_
          refine k_if_ne (tgt := 47) hx hb d_CL_send_34 (by decide) (by omega) (fun h34 => ?_) (fun h34 => ?_)
          · exfalso; omega
          · rw [hQ]
            exact k_throw (X := "java/lang/IllegalStateException") (own := "CarrierLink") (tx := "no bytes") (names := ["java/lang/RuntimeException", "java/lang/Exception"]) hx hb (hml.trans hl.1.symm) hlk htr9 hno hown hS (by decide) (by decide) hKW hSW oa_IllegalStateException cl_IllegalStateException ini_IllegalStateException str_62 (by rw [hR]; exact Nat.le_of_ble_eq_true rfl) (by rw [hR]; exact Nat.le_of_ble_eq_true rfl) (by rw [hR]; exact Nat.lt_of_lt_of_le (by decide) (Nat.le_of_ble_eq_true rfl : 6 ≤ _)) (by rw [hR]; exact Nat.le_of_ble_eq_true rfl) d_CL_send_37 d_CL_send_40 d_CL_send_41 d_CL_send_43 d_CL_send_46
        · exfalso; omega
set_option maxHeartbeats 4000000 in
set_option maxRecDepth 100000 in
theorem c_CL_air_no1 (l : Launch) (D : va_G) (tc : Nat → ClassId) (tb : Nat → Nat) (htr : l.stackTraces = false) (h0 : Nat) (wq0 : Nat) (fw : Nat) (oa : Nat) (sn : Nat) (rc : Nat) (mc : Nat) (xl : Int32) (xe : Int32) (xt : Int32) (hbad : xl < 0 ∨ nI 40 < xl ∨ xe < 0 ∨ nI 3 < xe ∨ xt < 0 ∨ nI 3 < xt) : Mx l D tc tb y_CL_air prog_1_method_7_code 5 (some .int) ({ frames := 6, cells := 1, slots := 6, locals := 90 }) [.ref h0, .int (xl), .int (xe), .int (xt)] [(h0, .inr (0, [.ref wq0, .int (nI mc), .ref fw, .ref oa, .ref sn, .ref rc]))] "java/lang/IllegalArgumentException" := by
  refine Mx.go (by decide) (Nat.le_of_ble_eq_true rfl) htr ?_
  intro p e s m below meth c A ls R args Q C
  obtain ⟨hx, hb, hts, hown, hlk, hml, hin, hA, hST, hN, hK, hP, hD, hS, hl, hR, hQ, hKW, hSW, htr9, hno⟩ := C
  have hw : ∀ w ∈ lw_g, w.before args s = true := fun w h => hts w (List.mem_cons_of_mem _ h)
  have hl : lv_has ls 5 [(0, .ref h0), (1, .int (xl)), (2, .int (xe)), (3, .int (xt))] := hl
  refine lv_iload_n hx hb d_CL_air_0 rfl (lv_at hl 1 rfl) ?_
  refine lv_if_lt (tgt := 28) hx hb d_CL_air_1 (by decide) (fun h1 => ?_) (fun h1 => ?_)
  · rw [hQ]
    exact k_throw (X := "java/lang/IllegalArgumentException") (own := "CarrierLink") (tx := "lead, echo or turns") (names := ["java/lang/RuntimeException", "java/lang/Exception"]) hx hb (hml.trans hl.1.symm) hlk htr9 hno hown hS (by decide) (by decide) hKW hSW oa_IllegalArgumentException cl_IllegalArgumentException ini_IllegalArgumentException str_113 (by rw [hR]; exact Nat.le_of_ble_eq_true rfl) (by rw [hR]; exact Nat.le_of_ble_eq_true rfl) (by rw [hR]; exact Nat.lt_of_lt_of_le (by decide) (Nat.le_of_ble_eq_true rfl : 6 ≤ _)) (by rw [hR]; exact Nat.le_of_ble_eq_true rfl) d_CL_air_28 d_CL_air_31 d_CL_air_32 d_CL_air_34 d_CL_air_37
  · refine lv_iload_n hx hb d_CL_air_4 rfl (lv_at hl 1 rfl) ?_
    refine lv_bipush (v := nI 40) hx hb d_CL_air_5 (by decide) ?_
    refine lv_icmp_gt (tgt := 28) hx hb d_CL_air_7 (by decide) (fun h7 => ?_) (fun h7 => ?_)
    · rw [hQ]
      exact k_throw (X := "java/lang/IllegalArgumentException") (own := "CarrierLink") (tx := "lead, echo or turns") (names := ["java/lang/RuntimeException", "java/lang/Exception"]) hx hb (hml.trans hl.1.symm) hlk htr9 hno hown hS (by decide) (by decide) hKW hSW oa_IllegalArgumentException cl_IllegalArgumentException ini_IllegalArgumentException str_113 (by rw [hR]; exact Nat.le_of_ble_eq_true rfl) (by rw [hR]; exact Nat.le_of_ble_eq_true rfl) (by rw [hR]; exact Nat.lt_of_lt_of_le (by decide) (Nat.le_of_ble_eq_true rfl : 6 ≤ _)) (by rw [hR]; exact Nat.le_of_ble_eq_true rfl) d_CL_air_28 d_CL_air_31 d_CL_air_32 d_CL_air_34 d_CL_air_37
    · refine lv_iload_n hx hb d_CL_air_10 rfl (lv_at hl 2 rfl) ?_
      refine lv_if_lt (tgt := 28) hx hb d_CL_air_11 (by decide) (fun h11 => ?_) (fun h11 => ?_)
      · rw [hQ]
        exact k_throw (X := "java/lang/IllegalArgumentException") (own := "CarrierLink") (tx := "lead, echo or turns") (names := ["java/lang/RuntimeException", "java/lang/Exception"]) hx hb (hml.trans hl.1.symm) hlk htr9 hno hown hS (by decide) (by decide) hKW hSW oa_IllegalArgumentException cl_IllegalArgumentException ini_IllegalArgumentException str_113 (by rw [hR]; exact Nat.le_of_ble_eq_true rfl) (by rw [hR]; exact Nat.le_of_ble_eq_true rfl) (by rw [hR]; exact Nat.lt_of_lt_of_le (by decide) (Nat.le_of_ble_eq_true rfl : 6 ≤ _)) (by rw [hR]; exact Nat.le_of_ble_eq_true rfl) d_CL_air_28 d_CL_air_31 d_CL_air_32 d_CL_air_34 d_CL_air_37
      · refine lv_iload_n hx hb d_CL_air_14 rfl (lv_at hl 2 rfl) ?_
        refine lv_iconst (v := nI 3) hx hb d_CL_air_15 (by decide) ?_
        refine lv_icmp_gt (tgt := 28) hx hb d_CL_air_16 (by decide) (fun h16 => ?_) (fun h16 => ?_)
        · rw [hQ]
          exact k_throw (X := "java/lang/IllegalArgumentException") (own := "CarrierLink") (tx := "lead, echo or turns") (names := ["java/lang/RuntimeException", "java/lang/Exception"]) hx hb (hml.trans hl.1.symm) hlk htr9 hno hown hS (by decide) (by decide) hKW hSW oa_IllegalArgumentException cl_IllegalArgumentException ini_IllegalArgumentException str_113 (by rw [hR]; exact Nat.le_of_ble_eq_true rfl) (by rw [hR]; exact Nat.le_of_ble_eq_true rfl) (by rw [hR]; exact Nat.lt_of_lt_of_le (by decide) (Nat.le_of_ble_eq_true rfl : 6 ≤ _)) (by rw [hR]; exact Nat.le_of_ble_eq_true rfl) d_CL_air_28 d_CL_air_31 d_CL_air_32 d_CL_air_34 d_CL_air_37
        · refine lv_iload_n hx hb d_CL_air_19 rfl (lv_at hl 3 rfl) ?_
          refine lv_if_lt (tgt := 28) hx hb d_CL_air_20 (by decide) (fun h20 => ?_) (fun h20 => ?_)
          · rw [hQ]
            exact k_throw (X := "java/lang/IllegalArgumentException") (own := "CarrierLink") (tx := "lead, echo or turns") (names := ["java/lang/RuntimeException", "java/lang/Exception"]) hx hb (hml.trans hl.1.symm) hlk htr9 hno hown hS (by decide) (by decide) hKW hSW oa_IllegalArgumentException cl_IllegalArgumentException ini_IllegalArgumentException str_113 (by rw [hR]; exact Nat.le_of_ble_eq_true rfl) (by rw [hR]; exact Nat.le_of_ble_eq_true rfl) (by rw [hR]; exact Nat.lt_of_lt_of_le (by decide) (Nat.le_of_ble_eq_true rfl : 6 ≤ _)) (by rw [hR]; exact Nat.le_of_ble_eq_true rfl) d_CL_air_28 d_CL_air_31 d_CL_air_32 d_CL_air_34 d_CL_air_37
          · refine lv_iload_n hx hb d_CL_air_23 rfl (lv_at hl 3 rfl) ?_
            refine lv_iconst (v := nI 3) hx hb d_CL_air_24 (by decide) ?_
            refine lv_icmp_le (tgt := 38) hx hb d_CL_air_25 (by decide) (fun h25 => ?_) (fun h25 => ?_)
            · exact False.elim (by rcases hbad with q | q | q | q | q | q; exact h1 q; exact h7 q; exact h11 q; exact h16 q; exact h20 q; exact absurd h25 (Int32.not_le.mpr q))
            · rw [hQ]
              exact k_throw (X := "java/lang/IllegalArgumentException") (own := "CarrierLink") (tx := "lead, echo or turns") (names := ["java/lang/RuntimeException", "java/lang/Exception"]) hx hb (hml.trans hl.1.symm) hlk htr9 hno hown hS (by decide) (by decide) hKW hSW oa_IllegalArgumentException cl_IllegalArgumentException ini_IllegalArgumentException str_113 (by rw [hR]; exact Nat.le_of_ble_eq_true rfl) (by rw [hR]; exact Nat.le_of_ble_eq_true rfl) (by rw [hR]; exact Nat.lt_of_lt_of_le (by decide) (Nat.le_of_ble_eq_true rfl : 6 ≤ _)) (by rw [hR]; exact Nat.le_of_ble_eq_true rfl) d_CL_air_28 d_CL_air_31 d_CL_air_32 d_CL_air_34 d_CL_air_37
set_option maxHeartbeats 4000000 in
set_option maxRecDepth 100000 in
theorem c_CL_air_no2 (l : Launch) (D : va_G) (tc : Nat → ClassId) (tb : Nat → Nat) (htr : l.stackTraces = false) (h0 : Nat) (wq0 : Nat) (fw : Nat) (oa : Nat) (sn : Nat) (rc : Nat) (mc : Nat) (fi : Nat) (fq : Nat) (fc : Nat) (ld : Nat) (ec : Nat) (tu : Nat) (hld : ld ≤ 40) (hec : ec ≤ 3) (htu : tu ≤ 3) (hf0 : fc = 0) : Mx l D tc tb y_CL_air prog_1_method_7_code 5 (some .int) ({ frames := 6, cells := 1, slots := 6, locals := 90 }) [.ref h0, .int (nI ld), .int (nI ec), .int (nI tu)] [(h0, .inr (0, [.ref wq0, .int (nI mc), .ref fw, .ref oa, .ref sn, .ref rc])), (fw, .inr (1, [.ref fi, .ref fq, .int (nI fc)]))] "java/lang/IllegalStateException" := by
  refine Mx.go (by decide) (Nat.le_of_ble_eq_true rfl) htr ?_
  intro p e s m below meth c A ls R args Q C
  obtain ⟨hx, hb, hts, hown, hlk, hml, hin, hA, hST, hN, hK, hP, hD, hS, hl, hR, hQ, hKW, hSW, htr9, hno⟩ := C
  have hw : ∀ w ∈ lw_g, w.before args s = true := fun w h => hts w (List.mem_cons_of_mem _ h)
  have hl : lv_has ls 5 [(0, .ref h0), (1, .int (nI ld)), (2, .int (nI ec)), (3, .int (nI tu))] := hl
  refine lv_iload_n hx hb d_CL_air_0 rfl (lv_at hl 1 rfl) ?_
  refine lv_if_lt (tgt := 28) hx hb d_CL_air_1 (by decide) (fun h1 => ?_) (fun h1 => ?_)
  · exact absurd h1 (nI_pos (by omega))
  · refine lv_iload_n hx hb d_CL_air_4 rfl (lv_at hl 1 rfl) ?_
    refine lv_bipush (v := nI 40) hx hb d_CL_air_5 (by decide) ?_
    refine k_icmp_gt (tgt := 28) hx hb d_CL_air_7 (by decide) (by omega) (by omega) (fun h7 => ?_) (fun h7 => ?_)
    · exfalso; omega
    · refine lv_iload_n hx hb d_CL_air_10 rfl (lv_at hl 2 rfl) ?_
      refine lv_if_lt (tgt := 28) hx hb d_CL_air_11 (by decide) (fun h11 => ?_) (fun h11 => ?_)
      · exact absurd h11 (nI_pos (by omega))
      · refine lv_iload_n hx hb d_CL_air_14 rfl (lv_at hl 2 rfl) ?_
        refine lv_iconst (v := nI 3) hx hb d_CL_air_15 (by decide) ?_
        refine k_icmp_gt (tgt := 28) hx hb d_CL_air_16 (by decide) (by omega) (by omega) (fun h16 => ?_) (fun h16 => ?_)
        · exfalso; omega
        · refine lv_iload_n hx hb d_CL_air_19 rfl (lv_at hl 3 rfl) ?_
          refine lv_if_lt (tgt := 28) hx hb d_CL_air_20 (by decide) (fun h20 => ?_) (fun h20 => ?_)
          · exact absurd h20 (nI_pos (by omega))
          · refine lv_iload_n hx hb d_CL_air_23 rfl (lv_at hl 3 rfl) ?_
            refine lv_iconst (v := nI 3) hx hb d_CL_air_24 (by decide) ?_
            refine k_icmp_le (tgt := 38) hx hb d_CL_air_25 (by decide) (by omega) (by omega) (fun h25 => ?_) (fun h25 => ?_)
            · refine lv_aload_n hx hb d_CL_air_38 rfl (lv_at hl 0 rfl) ?_
              refine k_get hx hb hw uw_CL hown hK hP 0 rfl rfl 2 (by decide) (hw _ wd_253) rfl d_CL_air_39 ?_
              refine k_get hx hb hw uw_WA hown hK hP 1 rfl rfl 2 (by decide) (hw _ wd_43) rfl d_CL_air_42 ?_
              refine k_if_ne (tgt := 58) hx hb d_CL_air_45 (by decide) (by omega) (fun h45 => ?_) (fun h45 => ?_)
              · exfalso; omega
              · rw [hQ]
                exact k_throw (X := "java/lang/IllegalStateException") (own := "CarrierLink") (tx := "no frame") (names := ["java/lang/RuntimeException", "java/lang/Exception"]) hx hb (hml.trans hl.1.symm) hlk htr9 hno hown hS (by decide) (by decide) hKW hSW oa_IllegalStateException cl_IllegalStateException ini_IllegalStateException str_115 (by rw [hR]; exact Nat.le_of_ble_eq_true rfl) (by rw [hR]; exact Nat.le_of_ble_eq_true rfl) (by rw [hR]; exact Nat.lt_of_lt_of_le (by decide) (Nat.le_of_ble_eq_true rfl : 6 ≤ _)) (by rw [hR]; exact Nat.le_of_ble_eq_true rfl) d_CL_air_48 d_CL_air_51 d_CL_air_52 d_CL_air_54 d_CL_air_57
            · exfalso; omega
set_option maxHeartbeats 4000000 in
set_option maxRecDepth 100000 in
theorem c_CL_receive_no (l : Launch) (D : va_G) (tc : Nat → ClassId) (tb : Nat → Nat) (htr : l.stackTraces = false) (h0 : Nat) (wq0 : Nat) (fw : Nat) (oa : Nat) (sn : Nat) (rc : Nat) (mc : Nat) (oi : Nat) (oq : Nat) (ac : Nat) (hw0 : ac = 0) : Mx l D tc tb y_CL_receive prog_1_method_11_code 1 (some .int) ({ frames := 6, cells := 1, slots := 6, locals := 90 }) [.ref h0] [(h0, .inr (0, [.ref wq0, .int (nI mc), .ref fw, .ref oa, .ref sn, .ref rc])), (oa, .inr (1, [.ref oi, .ref oq, .int (nI ac)]))] "java/lang/IllegalStateException" := by
  refine Mx.go (by decide) (Nat.le_of_ble_eq_true rfl) htr ?_
  intro p e s m below meth c A ls R args Q C
  obtain ⟨hx, hb, hts, hown, hlk, hml, hin, hA, hST, hN, hK, hP, hD, hS, hl, hR, hQ, hKW, hSW, htr9, hno⟩ := C
  have hw : ∀ w ∈ lw_g, w.before args s = true := fun w h => hts w (List.mem_cons_of_mem _ h)
  have hl : lv_has ls 1 [(0, .ref h0)] := hl
  refine lv_aload_n hx hb d_CL_receive_0 rfl (lv_at hl 0 rfl) ?_
  refine k_get hx hb hw uw_CL hown hK hP 0 rfl rfl 3 (by decide) (hw _ wd_254) rfl d_CL_receive_1 ?_
  refine k_get hx hb hw uw_WA hown hK hP 1 rfl rfl 2 (by decide) (hw _ wd_43) rfl d_CL_receive_4 ?_
  refine k_if_ne (tgt := 20) hx hb d_CL_receive_7 (by decide) (by omega) (fun h7 => ?_) (fun h7 => ?_)
  · exfalso; omega
  · rw [hQ]
    exact k_throw (X := "java/lang/IllegalStateException") (own := "CarrierLink") (tx := "nothing on the air") (names := ["java/lang/RuntimeException", "java/lang/Exception"]) hx hb (hml.trans hl.1.symm) hlk htr9 hno hown hS (by decide) (by decide) hKW hSW oa_IllegalStateException cl_IllegalStateException ini_IllegalStateException str_139 (by rw [hR]; exact Nat.le_of_ble_eq_true rfl) (by rw [hR]; exact Nat.le_of_ble_eq_true rfl) (by rw [hR]; exact Nat.lt_of_lt_of_le (by decide) (Nat.le_of_ble_eq_true rfl : 6 ≤ _)) (by rw [hR]; exact Nat.le_of_ble_eq_true rfl) d_CL_receive_10 d_CL_receive_13 d_CL_receive_14 d_CL_receive_16 d_CL_receive_19
set_option maxHeartbeats 4000000 in
set_option maxRecDepth 100000 in
theorem c_CL_sample_no0 (l : Launch) (D : va_G) (tc : Nat → ClassId) (tb : Nat → Nat) (htr : l.stackTraces = false) (h0 : Nat) (wq0 : Nat) (fw : Nat) (oa : Nat) (sn : Nat) (rc : Nat) (mc : Nat) (wi9 : Nat) (wq9 : Nat) (ac : Nat) (ww : RP) (xa : Int32) (xk : Int32) (xb : Int32) (ha_ : xa = 0) (hbad : hasF xk ac = 0) : Mx l D tc tb y_CL_sample prog_1_method_6_code 5 (some .short) ({ frames := 6, cells := 1, slots := 6, locals := 90 }) [.ref h0, .int (xa), .int (xk), .int (xb)] [(h0, .inr (0, [.ref wq0, .int (nI mc), .ref fw, .ref oa, .ref sn, .ref rc])), (fw, .inr (1, [.ref wi9, .ref wq9, .int (nI ac)])), (wi9, .inl (tc 1, 480, .inl ww.1)), (wq9, .inl (tc 1, 480, .inl ww.2))] "java/lang/IndexOutOfBoundsException" := by
  refine Mx.go (by decide) (Nat.le_of_ble_eq_true rfl) htr ?_
  intro p e s m below meth c A ls R args Q C
  obtain ⟨hx, hb, hts, hown, hlk, hml, hin, hA, hST, hN, hK, hP, hD, hS, hl, hR, hQ, hKW, hSW, htr9, hno⟩ := C
  have hw : ∀ w ∈ lw_g, w.before args s = true := fun w h => hts w (List.mem_cons_of_mem _ h)
  have hl : lv_has ls 5 [(0, .ref h0), (1, .int (xa)), (2, .int (xk)), (3, .int (xb))] := hl
  refine lv_iload_n hx hb d_CL_sample_0 rfl (lv_at hl 1 rfl) ?_
  refine lv_if_eq (tgt := 11) hx hb d_CL_sample_1 (by decide) (fun h1 => ?_) (fun h1 => ?_)
  · refine lv_aload_n hx hb d_CL_sample_11 rfl (lv_at hl 0 rfl) ?_
    refine k_get hx hb hw uw_CL hown hK hP 0 rfl rfl 2 (by decide) (hw _ wd_253) rfl d_CL_sample_12 ?_
    refine lv_astore (lv' := [(4, .ref fw), (0, .ref h0), (1, .int (xa)), (2, .int (xk)), (3, .int (xb))]) hx hb d_CL_sample_15 hl (by decide) rfl (fun ls hl => ?_)
    refine lv_aload hx hb d_CL_sample_17 (lv_at hl 0 rfl) ?_
    refine lv_iload_n hx hb d_CL_sample_19 rfl (lv_at hl 3 rfl) ?_
    refine k_callp (k_runVp (As := [.int (xk)]) (rest := []) (wc := [(fw, .inr (1, [.ref wi9, .ref wq9, .int (nI ac)])), (wi9, .inl (tc 1, 480, .inl ww.1)), (wq9, .inl (tc 1, 480, .inl ww.2))]) ⟨hx, hb, hml, hown, hts⟩ (c_WA_hasP l D tc tb fw wi9 wq9 ac 480 ww.1 ww.2 xk  s.heap.size) (cwV 1 hts (k_goodV wd_289 wd_290 wd_291 wd_2 wd_292) rfl rfl rfl ⟨rfl, hd_WA_has⟩ ⟨by rw [hR]; exact Nat.le_of_ble_eq_true rfl, by rw [hR]; exact Nat.le_of_ble_eq_true rfl⟩) hK hP hD hS hST hN hA [1, 2, 3] (by decide) rfl 1 rfl rfl rfl rfl hl.1 rfl (Nat.le_of_ble_eq_true rfl) d_CL_sample_20 ⟨by rw [hR]; exact Nat.le_of_ble_eq_true rfl, by rw [hR]; exact Nat.le_of_ble_eq_true rfl⟩) ?_
    refine W.eq (g2 := F0 m 23 ls [.int (hasF xk ac)]) rfl ?_
    refine lv_if_ne (tgt := 36) hx hb d_CL_sample_23 (by decide) (fun h23 => ?_) (fun h23 => ?_)
    · exact absurd hbad h23
    · rw [hQ]
      exact k_throw (X := "java/lang/IndexOutOfBoundsException") (own := "CarrierLink") (tx := "no such sample") (names := ["java/lang/RuntimeException", "java/lang/Exception"]) hx hb (hml.trans hl.1.symm) hlk htr9 hno hown hS (by decide) (by decide) hKW hSW oa_IndexOutOfBoundsException cl_IndexOutOfBoundsException ini_IndexOutOfBoundsException str_103 (by rw [hR]; exact Nat.le_of_ble_eq_true rfl) (by rw [hR]; exact Nat.le_of_ble_eq_true rfl) (by rw [hR]; exact Nat.lt_of_lt_of_le (by decide) (Nat.le_of_ble_eq_true rfl : 6 ≤ _)) (by rw [hR]; exact Nat.le_of_ble_eq_true rfl) d_CL_sample_26 d_CL_sample_29 d_CL_sample_30 d_CL_sample_32 d_CL_sample_35
  · exact absurd ha_ h1
set_option maxHeartbeats 4000000 in
set_option maxRecDepth 100000 in
theorem c_CL_sample_no1 (l : Launch) (D : va_G) (tc : Nat → ClassId) (tb : Nat → Nat) (htr : l.stackTraces = false) (h0 : Nat) (wq0 : Nat) (fw : Nat) (oa : Nat) (sn : Nat) (rc : Nat) (mc : Nat) (wi9 : Nat) (wq9 : Nat) (ac : Nat) (ww : RP) (xa : Int32) (xk : Int32) (xb : Int32) (ha_ : ¬ xa = 0) (hbad : hasF xk ac = 0) : Mx l D tc tb y_CL_sample prog_1_method_6_code 5 (some .short) ({ frames := 6, cells := 1, slots := 6, locals := 90 }) [.ref h0, .int (xa), .int (xk), .int (xb)] [(h0, .inr (0, [.ref wq0, .int (nI mc), .ref fw, .ref oa, .ref sn, .ref rc])), (oa, .inr (1, [.ref wi9, .ref wq9, .int (nI ac)])), (wi9, .inl (tc 1, 520, .inl ww.1)), (wq9, .inl (tc 1, 520, .inl ww.2))] "java/lang/IndexOutOfBoundsException" := by
  refine Mx.go (by decide) (Nat.le_of_ble_eq_true rfl) htr ?_
  intro p e s m below meth c A ls R args Q C
  obtain ⟨hx, hb, hts, hown, hlk, hml, hin, hA, hST, hN, hK, hP, hD, hS, hl, hR, hQ, hKW, hSW, htr9, hno⟩ := C
  have hw : ∀ w ∈ lw_g, w.before args s = true := fun w h => hts w (List.mem_cons_of_mem _ h)
  have hl : lv_has ls 5 [(0, .ref h0), (1, .int (xa)), (2, .int (xk)), (3, .int (xb))] := hl
  refine lv_iload_n hx hb d_CL_sample_0 rfl (lv_at hl 1 rfl) ?_
  refine lv_if_eq (tgt := 11) hx hb d_CL_sample_1 (by decide) (fun h1 => ?_) (fun h1 => ?_)
  · exact absurd h1 ha_
  · refine lv_aload_n hx hb d_CL_sample_4 rfl (lv_at hl 0 rfl) ?_
    refine k_get hx hb hw uw_CL hown hK hP 0 rfl rfl 3 (by decide) (hw _ wd_254) rfl d_CL_sample_5 ?_
    refine lv_goto (tgt := 15) hx hb d_CL_sample_8 (by decide) ?_
    refine lv_astore (lv' := [(4, .ref oa), (0, .ref h0), (1, .int (xa)), (2, .int (xk)), (3, .int (xb))]) hx hb d_CL_sample_15 hl (by decide) rfl (fun ls hl => ?_)
    refine lv_aload hx hb d_CL_sample_17 (lv_at hl 0 rfl) ?_
    refine lv_iload_n hx hb d_CL_sample_19 rfl (lv_at hl 3 rfl) ?_
    refine k_callp (k_runVp (As := [.int (xk)]) (rest := []) (wc := [(oa, .inr (1, [.ref wi9, .ref wq9, .int (nI ac)])), (wi9, .inl (tc 1, 520, .inl ww.1)), (wq9, .inl (tc 1, 520, .inl ww.2))]) ⟨hx, hb, hml, hown, hts⟩ (c_WA_hasP l D tc tb oa wi9 wq9 ac 520 ww.1 ww.2 xk  s.heap.size) (cwV 1 hts (k_goodV wd_289 wd_290 wd_291 wd_2 wd_292) rfl rfl rfl ⟨rfl, hd_WA_has⟩ ⟨by rw [hR]; exact Nat.le_of_ble_eq_true rfl, by rw [hR]; exact Nat.le_of_ble_eq_true rfl⟩) hK hP hD hS hST hN hA [1, 2, 3] (by decide) rfl 1 rfl rfl rfl rfl hl.1 rfl (Nat.le_of_ble_eq_true rfl) d_CL_sample_20 ⟨by rw [hR]; exact Nat.le_of_ble_eq_true rfl, by rw [hR]; exact Nat.le_of_ble_eq_true rfl⟩) ?_
    refine W.eq (g2 := F0 m 23 ls [.int (hasF xk ac)]) rfl ?_
    refine lv_if_ne (tgt := 36) hx hb d_CL_sample_23 (by decide) (fun h23 => ?_) (fun h23 => ?_)
    · exact absurd hbad h23
    · rw [hQ]
      exact k_throw (X := "java/lang/IndexOutOfBoundsException") (own := "CarrierLink") (tx := "no such sample") (names := ["java/lang/RuntimeException", "java/lang/Exception"]) hx hb (hml.trans hl.1.symm) hlk htr9 hno hown hS (by decide) (by decide) hKW hSW oa_IndexOutOfBoundsException cl_IndexOutOfBoundsException ini_IndexOutOfBoundsException str_103 (by rw [hR]; exact Nat.le_of_ble_eq_true rfl) (by rw [hR]; exact Nat.le_of_ble_eq_true rfl) (by rw [hR]; exact Nat.lt_of_lt_of_le (by decide) (Nat.le_of_ble_eq_true rfl : 6 ≤ _)) (by rw [hR]; exact Nat.le_of_ble_eq_true rfl) d_CL_sample_26 d_CL_sample_29 d_CL_sample_30 d_CL_sample_32 d_CL_sample_35
