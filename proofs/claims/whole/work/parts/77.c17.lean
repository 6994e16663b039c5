set_option maxHeartbeats 4000000 in
set_option maxRecDepth 100000 in
theorem c_CL_got_no (l : Launch) (D : va_G) (tc : Nat → ClassId) (tb : Nat → Nat) (h0 : Nat) (wq0 : Nat) (fw : Nat) (oa : Nat) (sn : Nat) (rc : Nat) (mc : Nat) (to : Nat) (fo : Nat) (fn : Nat) (le : Nat) (tr : Nat) (po : Nat) (sy : Nat) (so : Nat) (pt : Nat) (sk : Nat) (xk : Int32) (hbad : xk < 0 ∨ ¬ xk < nI fn) : Mi l D tc tb y_CL_got prog_1_method_12_code 2 (some .int) ({ frames := 0, cells := 0, slots := 0, locals := 0 }) [.ref h0, .int (xk)] [(h0, .inr (0, [.ref wq0, .int (nI mc), .ref fw, .ref oa, .ref sn, .ref rc])), (rc, .inr (6, [.ref to, .ref fo, .int (nI fn), .ref le, .ref tr, .ref po, .ref sy, .ref so, .ref pt, .ref sk]))] (fun _ : Unit => True) (fun _ : Unit => -1) (fun _ : Unit => [(h0, .inr (0, [.ref wq0, .int (nI mc), .ref fw, .ref oa, .ref sn, .ref rc])), (rc, .inr (6, [.ref to, .ref fo, .int (nI fn), .ref le, .ref tr, .ref po, .ref sy, .ref so, .ref pt, .ref sk]))]) := by
  refine Mi.go (by decide) (Nat.le_of_ble_eq_true rfl) ?_
  intro p e s m below meth c A ls R args Q C
  obtain ⟨hx, hb, hr, hts, hown, hlk, hml, hin, hA, hST, hN, hK, hP, hD, hS, hl, hR, hQ⟩ := C
  have hw : ∀ w ∈ lw_g, w.before args s = true := fun w h => hts w (List.mem_cons_of_mem _ h)
  have hl : lv_has ls 2 [(0, .ref h0), (1, .int (xk))] := hl
  refine lv_iload_n hx hb d_CL_got_0 rfl (lv_at hl 1 rfl) ?_
  refine lv_if_lt (tgt := 27) hx hb d_CL_got_1 (by decide) (fun h1 => ?_) (fun h1 => ?_)
  · refine lv_iconst (v := -1) hx hb d_CL_got_27 (by decide) ?_
    rw [hQ]
    exact k_iret () hx hb hr hlk hK hP hD hS [0, 1] (by decide) rfl trivial rfl d_CL_got_28
  · refine lv_iload_n hx hb d_CL_got_4 rfl (lv_at hl 1 rfl) ?_
    refine lv_aload_n hx hb d_CL_got_5 rfl (lv_at hl 0 rfl) ?_
    refine k_get hx hb hw uw_CL hown hK hP 0 rfl rfl 5 (by decide) (hw _ wd_256) rfl d_CL_got_6 ?_
    refine k_get hx hb hw uw_RE hown hK hP 1 rfl rfl 2 (by decide) (hw _ wd_221) rfl d_CL_got_9 ?_
    refine lv_icmp_ge (tgt := 27) hx hb d_CL_got_12 (by decide) (fun h12 => ?_) (fun h12 => ?_)
    · refine lv_iconst (v := -1) hx hb d_CL_got_27 (by decide) ?_
      rw [hQ]
      exact k_iret () hx hb hr hlk hK hP hD hS [0, 1] (by decide) rfl trivial rfl d_CL_got_28
    · exact False.elim (hbad.elim h1 (fun q9 => h12 (Int32.not_lt.mp q9)))
set_option maxHeartbeats 4000000 in
set_option maxRecDepth 100000 in
theorem c_CL_got_ok (l : Launch) (D : va_G) (tc : Nat → ClassId) (tb : Nat → Nat) (h0 : Nat) (wq0 : Nat) (fw : Nat) (oa : Nat) (sn : Nat) (rc : Nat) (mc : Nat) (to : Nat) (fo : Nat) (fn : Nat) (le : Nat) (tr : Nat) (po : Nat) (sy : Nat) (so : Nat) (pt : Nat) (sk : Nat) (ff : Nat → Int32) (k : Nat) (hk : k < fn) (hfn : fn ≤ 12) : Mi l D tc tb y_CL_got prog_1_method_12_code 2 (some .int) ({ frames := 0, cells := 0, slots := 0, locals := 0 }) [.ref h0, .int (nI k)] [(h0, .inr (0, [.ref wq0, .int (nI mc), .ref fw, .ref oa, .ref sn, .ref rc])), (rc, .inr (6, [.ref to, .ref fo, .int (nI fn), .ref le, .ref tr, .ref po, .ref sy, .ref so, .ref pt, .ref sk])), (fo, .inl (tc 0, 12, .inl ff))] (fun _ : Unit => True) (fun _ : Unit => ff k) (fun _ : Unit => [(h0, .inr (0, [.ref wq0, .int (nI mc), .ref fw, .ref oa, .ref sn, .ref rc])), (rc, .inr (6, [.ref to, .ref fo, .int (nI fn), .ref le, .ref tr, .ref po, .ref sy, .ref so, .ref pt, .ref sk])), (fo, .inl (tc 0, 12, .inl ff))]) := by
  refine Mi.go (by decide) (Nat.le_of_ble_eq_true rfl) ?_
  intro p e s m below meth c A ls R args Q C
  obtain ⟨hx, hb, hr, hts, hown, hlk, hml, hin, hA, hST, hN, hK, hP, hD, hS, hl, hR, hQ⟩ := C
  have hw : ∀ w ∈ lw_g, w.before args s = true := fun w h => hts w (List.mem_cons_of_mem _ h)
  have hl : lv_has ls 2 [(0, .ref h0), (1, .int (nI k))] := hl
  refine lv_iload_n hx hb d_CL_got_0 rfl (lv_at hl 1 rfl) ?_
  refine lv_if_lt (tgt := 27) hx hb d_CL_got_1 (by decide) (fun h1 => ?_) (fun h1 => ?_)
  · exact absurd h1 (nI_pos (by omega))
  · refine lv_iload_n hx hb d_CL_got_4 rfl (lv_at hl 1 rfl) ?_
    refine lv_aload_n hx hb d_CL_got_5 rfl (lv_at hl 0 rfl) ?_
    refine k_get hx hb hw uw_CL hown hK hP 0 rfl rfl 5 (by decide) (hw _ wd_256) rfl d_CL_got_6 ?_
    refine k_get hx hb hw uw_RE hown hK hP 1 rfl rfl 2 (by decide) (hw _ wd_221) rfl d_CL_got_9 ?_
    refine k_icmp_ge (tgt := 27) hx hb d_CL_got_12 (by decide) (by omega) (by omega) (fun h12 => ?_) (fun h12 => ?_)
    · exfalso; omega
    · refine lv_aload_n hx hb d_CL_got_15 rfl (lv_at hl 0 rfl) ?_
      refine k_get hx hb hw uw_CL hown hK hP 0 rfl rfl 5 (by decide) (hw _ wd_256) rfl d_CL_got_16 ?_
      refine k_get hx hb hw uw_RE hown hK hP 1 rfl rfl 1 (by decide) (hw _ wd_219) rfl d_CL_got_19 ?_
      refine lv_iload_n hx hb d_CL_got_22 rfl (lv_at hl 1 rfl) ?_
      refine k_iald hx hb hK hP 2 0 rfl rfl (by omega) (by omega) d_CL_got_23 ?_
      refine lv_goto (tgt := 28) hx hb d_CL_got_24 (by decide) ?_
      rw [hQ]
      exact k_iret () hx hb hr hlk hK hP hD hS [0, 1, 2] (by decide) rfl trivial rfl d_CL_got_28
set_option maxHeartbeats 4000000 in
set_option maxRecDepth 100000 in
theorem c_CL_heard_no (l : Launch) (D : va_G) (tc : Nat → ClassId) (tb : Nat → Nat) (h0 : Nat) (wq0 : Nat) (fw : Nat) (oa : Nat) (sn : Nat) (rc : Nat) (mc : Nat) (to : Nat) (fo : Nat) (fn : Nat) (le : Nat) (tr : Nat) (po : Nat) (sy : Nat) (so : Nat) (pt : Nat) (sk : Nat) (xk : Int32) (hbad : xk < 0 ∨ ¬ xk < nI 6) : Mi l D tc tb y_CL_heard prog_1_method_13_code 2 (some .int) ({ frames := 0, cells := 0, slots := 0, locals := 0 }) [.ref h0, .int (xk)] [(h0, .inr (0, [.ref wq0, .int (nI mc), .ref fw, .ref oa, .ref sn, .ref rc])), (rc, .inr (6, [.ref to, .ref fo, .int (nI fn), .ref le, .ref tr, .ref po, .ref sy, .ref so, .ref pt, .ref sk]))] (fun _ : Unit => True) (fun _ : Unit => -1) (fun _ : Unit => [(h0, .inr (0, [.ref wq0, .int (nI mc), .ref fw, .ref oa, .ref sn, .ref rc])), (rc, .inr (6, [.ref to, .ref fo, .int (nI fn), .ref le, .ref tr, .ref po, .ref sy, .ref so, .ref pt, .ref sk]))]) := by
  refine Mi.go (by decide) (Nat.le_of_ble_eq_true rfl) ?_
  intro p e s m below meth c A ls R args Q C
  obtain ⟨hx, hb, hr, hts, hown, hlk, hml, hin, hA, hST, hN, hK, hP, hD, hS, hl, hR, hQ⟩ := C
  have hw : ∀ w ∈ lw_g, w.before args s = true := fun w h => hts w (List.mem_cons_of_mem _ h)
  have hl : lv_has ls 2 [(0, .ref h0), (1, .int (xk))] := hl
  refine lv_iload_n hx hb d_CL_heard_0 rfl (lv_at hl 1 rfl) ?_
  refine lv_if_lt (tgt := 22) hx hb d_CL_heard_1 (by decide) (fun h1 => ?_) (fun h1 => ?_)
  · refine lv_iconst (v := -1) hx hb d_CL_heard_22 (by decide) ?_
    rw [hQ]
    exact k_iret () hx hb hr hlk hK hP hD hS [0, 1] (by decide) rfl trivial rfl d_CL_heard_23
  · refine lv_iload_n hx hb d_CL_heard_4 rfl (lv_at hl 1 rfl) ?_
    refine lv_bipush (v := nI 6) hx hb d_CL_heard_5 (by decide) ?_
    refine lv_icmp_ge (tgt := 22) hx hb d_CL_heard_7 (by decide) (fun h7 => ?_) (fun h7 => ?_)
    · refine lv_iconst (v := -1) hx hb d_CL_heard_22 (by decide) ?_
      rw [hQ]
      exact k_iret () hx hb hr hlk hK hP hD hS [0, 1] (by decide) rfl trivial rfl d_CL_heard_23
    · exact False.elim (hbad.elim h1 (fun q9 => h7 (Int32.not_lt.mp q9)))
set_option maxHeartbeats 4000000 in
set_option maxRecDepth 100000 in
theorem c_CL_heard_ok (l : Launch) (D : va_G) (tc : Nat → ClassId) (tb : Nat → Nat) (h0 : Nat) (wq0 : Nat) (fw : Nat) (oa : Nat) (sn : Nat) (rc : Nat) (mc : Nat) (to : Nat) (fo : Nat) (fn : Nat) (le : Nat) (tr : Nat) (po : Nat) (sy : Nat) (so : Nat) (pt : Nat) (sk : Nat) (tf : Nat → Int32) (k : Nat) (hk : k < 6) : Mi l D tc tb y_CL_heard prog_1_method_13_code 2 (some .int) ({ frames := 0, cells := 0, slots := 0, locals := 0 }) [.ref h0, .int (nI k)] [(h0, .inr (0, [.ref wq0, .int (nI mc), .ref fw, .ref oa, .ref sn, .ref rc])), (rc, .inr (6, [.ref to, .ref fo, .int (nI fn), .ref le, .ref tr, .ref po, .ref sy, .ref so, .ref pt, .ref sk])), (to, .inl (tc 0, 6, .inl tf))] (fun _ : Unit => True) (fun _ : Unit => tf k) (fun _ : Unit => [(h0, .inr (0, [.ref wq0, .int (nI mc), .ref fw, .ref oa, .ref sn, .ref rc])), (rc, .inr (6, [.ref to, .ref fo, .int (nI fn), .ref le, .ref tr, .ref po, .ref sy, .ref so, .ref pt, .ref sk])), (to, .inl (tc 0, 6, .inl tf))]) := by
  refine Mi.go (by decide) (Nat.le_of_ble_eq_true rfl) ?_
  intro p e s m below meth c A ls R args Q C
  obtain ⟨hx, hb, hr, hts, hown, hlk, hml, hin, hA, hST, hN, hK, hP, hD, hS, hl, hR, hQ⟩ := C
  have hw : ∀ w ∈ lw_g, w.before args s = true := fun w h => hts w (List.mem_cons_of_mem _ h)
  have hl : lv_has ls 2 [(0, .ref h0), (1, .int (nI k))] := hl
  refine lv_iload_n hx hb d_CL_heard_0 rfl (lv_at hl 1 rfl) ?_
  refine lv_if_lt (tgt := 22) hx hb d_CL_heard_1 (by decide) (fun h1 => ?_) (fun h1 => ?_)
  · exact absurd h1 (nI_pos (by omega))
  · refine lv_iload_n hx hb d_CL_heard_4 rfl (lv_at hl 1 rfl) ?_
    refine lv_bipush (v := nI 6) hx hb d_CL_heard_5 (by decide) ?_
    refine k_icmp_ge (tgt := 22) hx hb d_CL_heard_7 (by decide) (by omega) (by omega) (fun h7 => ?_) (fun h7 => ?_)
    · exfalso; omega
    · refine lv_aload_n hx hb d_CL_heard_10 rfl (lv_at hl 0 rfl) ?_
      refine k_get hx hb hw uw_CL hown hK hP 0 rfl rfl 5 (by decide) (hw _ wd_256) rfl d_CL_heard_11 ?_
      refine k_get hx hb hw uw_RE hown hK hP 1 rfl rfl 0 (by decide) (hw _ wd_217) rfl d_CL_heard_14 ?_
      refine lv_iload_n hx hb d_CL_heard_17 rfl (lv_at hl 1 rfl) ?_
      refine k_iald hx hb hK hP 2 0 rfl rfl (by omega) (by omega) d_CL_heard_18 ?_
      refine lv_goto (tgt := 23) hx hb d_CL_heard_19 (by decide) ?_
      rw [hQ]
      exact k_iret () hx hb hr hlk hK hP hD hS [0, 1, 2] (by decide) rfl trivial rfl d_CL_heard_23
set_option maxHeartbeats 4000000 in
set_option maxRecDepth 100000 in
theorem c_CL_learned_no (l : Launch) (D : va_G) (tc : Nat → ClassId) (tb : Nat → Nat) (h0 : Nat) (wq0 : Nat) (fw : Nat) (oa : Nat) (sn : Nat) (rc : Nat) (mc : Nat) (to : Nat) (fo : Nat) (fn : Nat) (le : Nat) (tr : Nat) (po : Nat) (sy : Nat) (so : Nat) (pt : Nat) (sk : Nat) (xk : Int32) (xb : Int32) (hbad : xk < 0 ∨ ¬ xk < nI 16) : Mi l D tc tb y_CL_learned prog_1_method_14_code 3 (some .int) ({ frames := 0, cells := 0, slots := 0, locals := 0 }) [.ref h0, .int (xk), .int (xb)] [(h0, .inr (0, [.ref wq0, .int (nI mc), .ref fw, .ref oa, .ref sn, .ref rc])), (rc, .inr (6, [.ref to, .ref fo, .int (nI fn), .ref le, .ref tr, .ref po, .ref sy, .ref so, .ref pt, .ref sk]))] (fun _ : Unit => True) (fun _ : Unit => nI 0) (fun _ : Unit => [(h0, .inr (0, [.ref wq0, .int (nI mc), .ref fw, .ref oa, .ref sn, .ref rc])), (rc, .inr (6, [.ref to, .ref fo, .int (nI fn), .ref le, .ref tr, .ref po, .ref sy, .ref so, .ref pt, .ref sk]))]) := by
  refine Mi.go (by decide) (Nat.le_of_ble_eq_true rfl) ?_
  intro p e s m below meth c A ls R args Q C
  obtain ⟨hx, hb, hr, hts, hown, hlk, hml, hin, hA, hST, hN, hK, hP, hD, hS, hl, hR, hQ⟩ := C
  have hw : ∀ w ∈ lw_g, w.before args s = true := fun w h => hts w (List.mem_cons_of_mem _ h)
  have hl : lv_has ls 3 [(0, .ref h0), (1, .int (xk)), (2, .int (xb))] := hl
  refine lv_iload_n hx hb d_CL_learned_0 rfl (lv_at hl 1 rfl) ?_
  refine lv_if_lt (tgt := 10) hx hb d_CL_learned_1 (by decide) (fun h1 => ?_) (fun h1 => ?_)
  · refine lv_iconst (v := nI 0) hx hb d_CL_learned_10 (by decide) ?_
    rw [hQ]
    exact k_iret () hx hb hr hlk hK hP hD hS [0, 1] (by decide) rfl trivial rfl d_CL_learned_11
  · refine lv_iload_n hx hb d_CL_learned_4 rfl (lv_at hl 1 rfl) ?_
    refine lv_bipush (v := nI 16) hx hb d_CL_learned_5 (by decide) ?_
    refine lv_icmp_lt (tgt := 12) hx hb d_CL_learned_7 (by decide) (fun h7 => ?_) (fun h7 => ?_)
    · exact False.elim (hbad.elim h1 (fun q9 => q9 h7))
    · refine lv_iconst (v := nI 0) hx hb d_CL_learned_10 (by decide) ?_
      rw [hQ]
      exact k_iret () hx hb hr hlk hK hP hD hS [0, 1] (by decide) rfl trivial rfl d_CL_learned_11
set_option maxHeartbeats 4000000 in
set_option maxRecDepth 100000 in
theorem c_CL_learned_0 (l : Launch) (D : va_G) (tc : Nat → ClassId) (tb : Nat → Nat) (h0 : Nat) (wq0 : Nat) (fw : Nat) (oa : Nat) (sn : Nat) (rc : Nat) (mc : Nat) (to : Nat) (fo : Nat) (fn : Nat) (le : Nat) (tr : Nat) (po : Nat) (sy : Nat) (so : Nat) (pt : Nat) (sk : Nat) (la : Nat) (lb : Nat) (lx : RP) (k : Nat) (xb : Int32) (hk : k < 16) (hb_ : xb = 0) : Mi l D tc tb y_CL_learned prog_1_method_14_code 3 (some .int) ({ frames := 0, cells := 0, slots := 0, locals := 0 }) [.ref h0, .int (nI k), .int (xb)] [(h0, .inr (0, [.ref wq0, .int (nI mc), .ref fw, .ref oa, .ref sn, .ref rc])), (rc, .inr (6, [.ref to, .ref fo, .int (nI fn), .ref le, .ref tr, .ref po, .ref sy, .ref so, .ref pt, .ref sk])), (le, .inr (2, [.ref la, .ref lb])), (la, .inl (tc 0, 16, .inl lx.1)), (lb, .inl (tc 0, 16, .inl lx.2))] (fun _ : Unit => True) (fun _ : Unit => lx.1 k) (fun _ : Unit => [(h0, .inr (0, [.ref wq0, .int (nI mc), .ref fw, .ref oa, .ref sn, .ref rc])), (rc, .inr (6, [.ref to, .ref fo, .int (nI fn), .ref le, .ref tr, .ref po, .ref sy, .ref so, .ref pt, .ref sk])), (le, .inr (2, [.ref la, .ref lb])), (la, .inl (tc 0, 16, .inl lx.1)), (lb, .inl (tc 0, 16, .inl lx.2))]) := by
  refine Mi.go (by decide) (Nat.le_of_ble_eq_true rfl) ?_
  intro p e s m below meth c A ls R args Q C
  obtain ⟨hx, hb, hr, hts, hown, hlk, hml, hin, hA, hST, hN, hK, hP, hD, hS, hl, hR, hQ⟩ := C
  have hw : ∀ w ∈ lw_g, w.before args s = true := fun w h => hts w (List.mem_cons_of_mem _ h)
  have hl : lv_has ls 3 [(0, .ref h0), (1, .int (nI k)), (2, .int (xb))] := hl
  refine lv_iload_n hx hb d_CL_learned_0 rfl (lv_at hl 1 rfl) ?_
  refine lv_if_lt (tgt := 10) hx hb d_CL_learned_1 (by decide) (fun h1 => ?_) (fun h1 => ?_)
  · exact absurd h1 (nI_pos (by omega))
  · refine lv_iload_n hx hb d_CL_learned_4 rfl (lv_at hl 1 rfl) ?_
    refine lv_bipush (v := nI 16) hx hb d_CL_learned_5 (by decide) ?_
    refine k_icmp_lt (tgt := 12) hx hb d_CL_learned_7 (by decide) (by omega) (by omega) (fun h7 => ?_) (fun h7 => ?_)
    · refine lv_iload_n hx hb d_CL_learned_12 rfl (lv_at hl 2 rfl) ?_
      refine lv_if_eq (tgt := 31) hx hb d_CL_learned_13 (by decide) (fun h13 => ?_) (fun h13 => ?_)
      · refine lv_aload_n hx hb d_CL_learned_31 rfl (lv_at hl 0 rfl) ?_
        refine k_get hx hb hw uw_CL hown hK hP 0 rfl rfl 5 (by decide) (hw _ wd_256) rfl d_CL_learned_32 ?_
        refine k_get hx hb hw uw_RE hown hK hP 1 rfl rfl 3 (by decide) (hw _ wd_223) rfl d_CL_learned_35 ?_
        refine k_get hx hb hw uw_PO hown hK hP 2 rfl rfl 0 (by decide) (hw _ wd_62) rfl d_CL_learned_38 ?_
        refine lv_iload_n hx hb d_CL_learned_41 rfl (lv_at hl 1 rfl) ?_
        refine k_iald hx hb hK hP 3 0 rfl rfl (by omega) (by omega) d_CL_learned_42 ?_
        rw [hQ]
        exact k_iret () hx hb hr hlk hK hP hD hS [0, 1, 2, 3, 4] (by decide) rfl trivial rfl d_CL_learned_43
      · exact absurd hb_ h13
    · exfalso; omega
set_option maxHeartbeats 4000000 in
set_option maxRecDepth 100000 in
theorem c_CL_learned_1 (l : Launch) (D : va_G) (tc : Nat → ClassId) (tb : Nat → Nat) (h0 : Nat) (wq0 : Nat) (fw : Nat) (oa : Nat) (sn : Nat) (rc : Nat) (mc : Nat) (to : Nat) (fo : Nat) (fn : Nat) (le : Nat) (tr : Nat) (po : Nat) (sy : Nat) (so : Nat) (pt : Nat) (sk : Nat) (la : Nat) (lb : Nat) (lx : RP) (k : Nat) (xb : Int32) (hk : k < 16) (hb_ : ¬ xb = 0) : Mi l D tc tb y_CL_learned prog_1_method_14_code 3 (some .int) ({ frames := 0, cells := 0, slots := 0, locals := 0 }) [.ref h0, .int (nI k), .int (xb)] [(h0, .inr (0, [.ref wq0, .int (nI mc), .ref fw, .ref oa, .ref sn, .ref rc])), (rc, .inr (6, [.ref to, .ref fo, .int (nI fn), .ref le, .ref tr, .ref po, .ref sy, .ref so, .ref pt, .ref sk])), (le, .inr (2, [.ref la, .ref lb])), (la, .inl (tc 0, 16, .inl lx.1)), (lb, .inl (tc 0, 16, .inl lx.2))] (fun _ : Unit => True) (fun _ : Unit => lx.2 k) (fun _ : Unit => [(h0, .inr (0, [.ref wq0, .int (nI mc), .ref fw, .ref oa, .ref sn, .ref rc])), (rc, .inr (6, [.ref to, .ref fo, .int (nI fn), .ref le, .ref tr, .ref po, .ref sy, .ref so, .ref pt, .ref sk])), (le, .inr (2, [.ref la, .ref lb])), (la, .inl (tc 0, 16, .inl lx.1)), (lb, .inl (tc 0, 16, .inl lx.2))]) := by
  refine Mi.go (by decide) (Nat.le_of_ble_eq_true rfl) ?_
  intro p e s m below meth c A ls R args Q C
  obtain ⟨hx, hb, hr, hts, hown, hlk, hml, hin, hA, hST, hN, hK, hP, hD, hS, hl, hR, hQ⟩ := C
  have hw : ∀ w ∈ lw_g, w.before args s = true := fun w h => hts w (List.mem_cons_of_mem _ h)
  have hl : lv_has ls 3 [(0, .ref h0), (1, .int (nI k)), (2, .int (xb))] := hl
  refine lv_iload_n hx hb d_CL_learned_0 rfl (lv_at hl 1 rfl) ?_
  refine lv_if_lt (tgt := 10) hx hb d_CL_learned_1 (by decide) (fun h1 => ?_) (fun h1 => ?_)
  · exact absurd h1 (nI_pos (by omega))
  · refine lv_iload_n hx hb d_CL_learned_4 rfl (lv_at hl 1 rfl) ?_
    refine lv_bipush (v := nI 16) hx hb d_CL_learned_5 (by decide) ?_
    refine k_icmp_lt (tgt := 12) hx hb d_CL_learned_7 (by decide) (by omega) (by omega) (fun h7 => ?_) (fun h7 => ?_)
    · refine lv_iload_n hx hb d_CL_learned_12 rfl (lv_at hl 2 rfl) ?_
      refine lv_if_eq (tgt := 31) hx hb d_CL_learned_13 (by decide) (fun h13 => ?_) (fun h13 => ?_)
      · exact absurd h13 hb_
      · refine lv_aload_n hx hb d_CL_learned_16 rfl (lv_at hl 0 rfl) ?_
        refine k_get hx hb hw uw_CL hown hK hP 0 rfl rfl 5 (by decide) (hw _ wd_256) rfl d_CL_learned_17 ?_
        refine k_get hx hb hw uw_RE hown hK hP 1 rfl rfl 3 (by decide) (hw _ wd_223) rfl d_CL_learned_20 ?_
        refine k_get hx hb hw uw_PO hown hK hP 2 rfl rfl 1 (by decide) (hw _ wd_66) rfl d_CL_learned_23 ?_
        refine lv_iload_n hx hb d_CL_learned_26 rfl (lv_at hl 1 rfl) ?_
        refine k_iald hx hb hK hP 4 0 rfl rfl (by omega) (by omega) d_CL_learned_27 ?_
        refine lv_goto (tgt := 43) hx hb d_CL_learned_28 (by decide) ?_
        rw [hQ]
        exact k_iret () hx hb hr hlk hK hP hD hS [0, 1, 2, 3, 4] (by decide) rfl trivial rfl d_CL_learned_43
    · exfalso; omega
set_option maxHeartbeats 4000000 in
set_option maxRecDepth 100000 in
theorem c_CL_bitOrCount_m1 (l : Launch) (D : va_G) (tc : Nat → ClassId) (tb : Nat → Nat) (q : Nat) (cn : Nat) : Mi l D tc tb y_CL_bitOrCount prog_1_method_15_code 3 (some .int) ({ frames := 0, cells := 0, slots := 0, locals := 0 }) [.ref q, .int (nI cn), .int (-1)] [] (fun _ : Unit => True) (fun _ : Unit => nI cn) (fun _ : Unit => []) := by
  refine Mi.go (by decide) (Nat.le_of_ble_eq_true rfl) ?_
  intro p e s m below meth c A ls R args Q C
  obtain ⟨hx, hb, hr, hts, hown, hlk, hml, hin, hA, hST, hN, hK, hP, hD, hS, hl, hR, hQ⟩ := C
  have hw : ∀ w ∈ lw_g, w.before args s = true := fun w h => hts w (List.mem_cons_of_mem _ h)
  have hl : lv_has ls 3 [(0, .ref q), (1, .int (nI cn)), (2, .int (-1))] := hl
  refine lv_iload_n hx hb d_CL_bitOrCount_0 rfl (lv_at hl 2 rfl) ?_
  refine lv_iconst (v := -1) hx hb d_CL_bitOrCount_1 (by decide) ?_
  refine lv_icmp_ne (tgt := 7) hx hb d_CL_bitOrCount_2 (by decide) (fun h2 => ?_) (fun h2 => ?_)
  · exact absurd rfl h2
  · refine lv_iload_n hx hb d_CL_bitOrCount_5 rfl (lv_at hl 1 rfl) ?_
    rw [hQ]
    exact k_iret () hx hb hr hlk hK hP hD hS [] (by decide) rfl trivial rfl d_CL_bitOrCount_6
set_option maxHeartbeats 4000000 in
set_option maxRecDepth 100000 in
theorem c_CL_bitOrCount_no (l : Launch) (D : va_G) (tc : Nat → ClassId) (tb : Nat → Nat) (q : Nat) (cn : Nat) (xk : Int32) (hm : ¬ xk = -1) (hbad : xk < 0 ∨ ¬ xk < nI cn) : Mi l D tc tb y_CL_bitOrCount prog_1_method_15_code 3 (some .int) ({ frames := 0, cells := 0, slots := 0, locals := 0 }) [.ref q, .int (nI cn), .int (xk)] [] (fun _ : Unit => True) (fun _ : Unit => -1) (fun _ : Unit => []) := by
  refine Mi.go (by decide) (Nat.le_of_ble_eq_true rfl) ?_
  intro p e s m below meth c A ls R args Q C
  obtain ⟨hx, hb, hr, hts, hown, hlk, hml, hin, hA, hST, hN, hK, hP, hD, hS, hl, hR, hQ⟩ := C
  have hw : ∀ w ∈ lw_g, w.before args s = true := fun w h => hts w (List.mem_cons_of_mem _ h)
  have hl : lv_has ls 3 [(0, .ref q), (1, .int (nI cn)), (2, .int (xk))] := hl
  refine lv_iload_n hx hb d_CL_bitOrCount_0 rfl (lv_at hl 2 rfl) ?_
  refine lv_iconst (v := -1) hx hb d_CL_bitOrCount_1 (by decide) ?_
  refine lv_icmp_ne (tgt := 7) hx hb d_CL_bitOrCount_2 (by decide) (fun h2 => ?_) (fun h2 => ?_)
  · refine lv_iload_n hx hb d_CL_bitOrCount_7 rfl (lv_at hl 2 rfl) ?_
    refine lv_if_lt (tgt := 22) hx hb d_CL_bitOrCount_8 (by decide) (fun h8 => ?_) (fun h8 => ?_)
    · refine lv_iconst (v := -1) hx hb d_CL_bitOrCount_22 (by decide) ?_
      rw [hQ]
      exact k_iret () hx hb hr hlk hK hP hD hS [] (by decide) rfl trivial rfl d_CL_bitOrCount_23
    · refine lv_iload_n hx hb d_CL_bitOrCount_11 rfl (lv_at hl 2 rfl) ?_
      refine lv_iload_n hx hb d_CL_bitOrCount_12 rfl (lv_at hl 1 rfl) ?_
      refine lv_icmp_ge (tgt := 22) hx hb d_CL_bitOrCount_13 (by decide) (fun h13 => ?_) (fun h13 => ?_)
      · refine lv_iconst (v := -1) hx hb d_CL_bitOrCount_22 (by decide) ?_
        rw [hQ]
        exact k_iret () hx hb hr hlk hK hP hD hS [] (by decide) rfl trivial rfl d_CL_bitOrCount_23
      · exact False.elim (hbad.elim h8 (fun q9 => h13 (Int32.not_lt.mp q9)))
  · exact absurd h2 hm
set_option maxHeartbeats 4000000 in
set_option maxRecDepth 100000 in
theorem c_CL_bitOrCount_ok (l : Launch) (D : va_G) (tc : Nat → ClassId) (tb : Nat → Nat) (q : Nat) (cn : Nat) (nn : Nat) (f : Nat → Int32) (k : Nat) (hk : k < cn) (hcn : cn ≤ nn) (hnn : nn < 1000) : Mi l D tc tb y_CL_bitOrCount prog_1_method_15_code 3 (some .int) ({ frames := 0, cells := 0, slots := 0, locals := 0 }) [.ref q, .int (nI cn), .int (nI k)] [(q, .inl (tc 0, nn, .inl f))] (fun _ : Unit => True) (fun _ : Unit => f k) (fun _ : Unit => [(q, .inl (tc 0, nn, .inl f))]) := by
  refine Mi.go (by decide) (Nat.le_of_ble_eq_true rfl) ?_
  intro p e s m below meth c A ls R args Q C
  obtain ⟨hx, hb, hr, hts, hown, hlk, hml, hin, hA, hST, hN, hK, hP, hD, hS, hl, hR, hQ⟩ := C
  have hw : ∀ w ∈ lw_g, w.before args s = true := fun w h => hts w (List.mem_cons_of_mem _ h)
  have hl : lv_has ls 3 [(0, .ref q), (1, .int (nI cn)), (2, .int (nI k))] := hl
  refine lv_iload_n hx hb d_CL_bitOrCount_0 rfl (lv_at hl 2 rfl) ?_
  refine lv_iconst (v := -1) hx hb d_CL_bitOrCount_1 (by decide) ?_
  refine lv_icmp_ne (tgt := 7) hx hb d_CL_bitOrCount_2 (by decide) (fun h2 => ?_) (fun h2 => ?_)
  · refine lv_iload_n hx hb d_CL_bitOrCount_7 rfl (lv_at hl 2 rfl) ?_
    refine lv_if_lt (tgt := 22) hx hb d_CL_bitOrCount_8 (by decide) (fun h8 => ?_) (fun h8 => ?_)
    · exact absurd h8 (nI_pos (by omega))
    · refine lv_iload_n hx hb d_CL_bitOrCount_11 rfl (lv_at hl 2 rfl) ?_
      refine lv_iload_n hx hb d_CL_bitOrCount_12 rfl (lv_at hl 1 rfl) ?_
      refine k_icmp_ge (tgt := 22) hx hb d_CL_bitOrCount_13 (by decide) (by omega) (by omega) (fun h13 => ?_) (fun h13 => ?_)
      · exfalso; omega
      · refine lv_aload_n hx hb d_CL_bitOrCount_16 rfl (lv_at hl 0 rfl) ?_
        refine lv_iload_n hx hb d_CL_bitOrCount_17 rfl (lv_at hl 2 rfl) ?_
        refine k_iald hx hb hK hP 0 0 rfl rfl (by omega) (by omega) d_CL_bitOrCount_18 ?_
        refine lv_goto (tgt := 23) hx hb d_CL_bitOrCount_19 (by decide) ?_
        rw [hQ]
        exact k_iret () hx hb hr hlk hK hP hD hS [0] (by decide) rfl trivial rfl d_CL_bitOrCount_23
  · exact absurd h2 (nI_m1 (by omega))
