set_option maxHeartbeats 4000000 in
set_option maxRecDepth 100000 in
theorem c_CL_appendToAir (l : Launch) (D : va_G) (tc : Nat → ClassId) (tb : Nat → Nat) (h0 : Nat) (wq0 : Nat) (fw : Nat) (oa : Nat) (sn : Nat) (rc : Nat) (mc : Nat) (fi : Nat) (fq : Nat) (fc : Nat) (oi : Nat) (oq : Nat) (ac : Nat) (ww : RP) (aa : RP) (k : Nat) (ec : Nat) (tu : Nat) (hk : k < 480) (hec : ec ≤ 3) (htu : tu ≤ 3) (hac : ac < 520) : Mv l D tc tb y_CL_appendToAir prog_1_method_16_code 8 none ({ frames := 3, cells := 0, slots := 0, locals := 60 }) [.ref h0, .int (nI k), .int (nI ec), .int (nI tu)] [(h0, .inr (0, [.ref wq0, .int (nI mc), .ref fw, .ref oa, .ref sn, .ref rc])), (fw, .inr (1, [.ref fi, .ref fq, .int (nI fc)])), (fi, .inl (tc 1, 480, .inl ww.1)), (fq, .inl (tc 1, 480, .inl ww.2)), (oa, .inr (1, [.ref oi, .ref oq, .int (nI ac)])), (oi, .inl (tc 1, 520, .inl aa.1)), (oq, .inl (tc 1, 520, .inl aa.2))] (fun _ : Unit => True) (fun _ : Unit => [(h0, .inr (0, [.ref wq0, .int (nI mc), .ref fw, .ref oa, .ref sn, .ref rc])), (fw, .inr (1, [.ref fi, .ref fq, .int (nI fc)])), (fi, .inl (tc 1, 480, .inl ww.1)), (fq, .inl (tc 1, 480, .inl ww.2)), (oa, .inr (1, [.ref oi, .ref oq, .int (nI (ac + 1))])), (oi, .inl (tc 1, 520, .inl (upd aa.1 ac (satF (eaF ww ec tu k).1)))), (oq, .inl (tc 1, 520, .inl (upd aa.2 ac (satF (eaF ww ec tu k).2))))]) := by
  refine Mv.go (by decide) (Nat.le_of_ble_eq_true rfl) ?_
  intro p e s m below meth c A ls R args Q C
  obtain ⟨hx, hb, hr, hts, hown, hlk, hml, hin, hA, hST, hN, hK, hP, hD, hS, hl, hR, hQ⟩ := C
  have hw : ∀ w ∈ lw_g, w.before args s = true := fun w h => hts w (List.mem_cons_of_mem _ h)
  have hl : lv_has ls 8 [(0, .ref h0), (1, .int (nI k)), (2, .int (nI ec)), (3, .int (nI tu))] := hl
  refine lv_aload_n hx hb d_CL_appendToAir_0 rfl (lv_at hl 0 rfl) ?_
  refine k_get hx hb hw uw_CL hown hK hP 0 rfl rfl 2 (by decide) (hw _ wd_253) rfl d_CL_appendToAir_1 ?_
  refine k_get hx hb hw uw_WA hown hK hP 1 rfl rfl 0 (by decide) (hw _ wd_36) rfl d_CL_appendToAir_4 ?_
  refine lv_iload_n hx hb d_CL_appendToAir_7 rfl (lv_at hl 1 rfl) ?_
  refine k_sald hx hb hK hP 2 1 rfl rfl (by omega) (by omega) d_CL_appendToAir_8 ?_
  refine lv_istore (lv' := [(4, .int (ww.1 k)), (0, .ref h0), (1, .int (nI k)), (2, .int (nI ec)), (3, .int (nI tu))]) hx hb d_CL_appendToAir_9 hl (by decide) rfl (fun ls hl => ?_)
  refine lv_aload_n hx hb d_CL_appendToAir_11 rfl (lv_at hl 1 rfl) ?_
  refine k_get hx hb hw uw_CL hown hK hP 0 rfl rfl 2 (by decide) (hw _ wd_253) rfl d_CL_appendToAir_12 ?_
  refine k_get hx hb hw uw_WA hown hK hP 1 rfl rfl 1 (by decide) (hw _ wd_40) rfl d_CL_appendToAir_15 ?_
  refine lv_iload_n hx hb d_CL_appendToAir_18 rfl (lv_at hl 2 rfl) ?_
  refine k_sald hx hb hK hP 3 1 rfl rfl (by omega) (by omega) d_CL_appendToAir_19 ?_
  refine lv_istore (lv' := [(5, .int (ww.2 k)), (4, .int (ww.1 k)), (0, .ref h0), (1, .int (nI k)), (2, .int (nI ec)), (3, .int (nI tu))]) hx hb d_CL_appendToAir_20 hl (by decide) rfl (fun ls hl => ?_)
  refine lv_iload_n hx hb d_CL_appendToAir_22 rfl (lv_at hl 4 rfl) ?_
  refine lv_if_le (tgt := 67) hx hb d_CL_appendToAir_23 (by decide) (fun h23 => ?_) (fun h23 => ?_)
  · have hl := lv_cg2 hl (ec_0 ww.1 k h23 (by omega)) (ec_0 ww.2 k h23 (by omega))
    refine lv_iconst (v := nI 0) hx hb d_CL_appendToAir_67 (by decide) ?_
    refine lv_istore (lv' := [(6, .int (nI 0)), (5, .int (ecF ww.2 ec k)), (4, .int (ecF ww.1 ec k)), (0, .ref h0), (1, .int (nI k)), (2, .int (nI ec)), (3, .int (nI tu))]) hx hb d_CL_appendToAir_68 hl (by decide) rfl (fun ls hl => ?_)
    refine k_loop (P := fun t : Nat => ∀ (H : Heap) (locs : List Loc) (ls : Array Slot), lv_has ls 8 [(6, .int (nI t)), (5, .int ((tnF (ecF ww.1 ec k, ecF ww.2 ec k) t).2)), (4, .int ((tnF (ecF ww.1 ec k, ecF ww.2 ec k) t).1)), (0, .ref h0), (1, .int (nI k)), (2, .int (nI ec)), (3, .int (nI tu))] → va_P D classes [(h0, .inr (0, [.ref wq0, .int (nI mc), .ref fw, .ref oa, .ref sn, .ref rc])), (fw, .inr (1, [.ref fi, .ref fq, .int (nI fc)])), (fi, .inl (tc 1, 480, .inl ww.1)), (fq, .inl (tc 1, 480, .inl ww.2)), (oa, .inr (1, [.ref oi, .ref oq, .int (nI ac)])), (oi, .inl (tc 1, 520, .inl aa.1)), (oq, .inl (tc 1, 520, .inl aa.2))] H → va_D A [(h0, .inr (0, [.ref wq0, .int (nI mc), .ref fw, .ref oa, .ref sn, .ref rc])), (fw, .inr (1, [.ref fi, .ref fq, .int (nI fc)])), (fi, .inl (tc 1, 480, .inl ww.1)), (fq, .inl (tc 1, 480, .inl ww.2)), (oa, .inr (1, [.ref oi, .ref oq, .int (nI ac)])), (oi, .inl (tc 1, 520, .inl aa.1)), (oq, .inl (tc 1, 520, .inl aa.2))] → va_S A s.heap H locs → W p l e R s m args below meth c H locs 0 0 Q (F0 m 70 ls [])) (tu) (fun t hk_t ih_t  H locs ls hl hP hD hS => ?_) (0) (by omega)   s.heap [] ls (lv_sub hl [0, 1, 2, 3, 4, 5, 6] rfl) (by exact hP) (k_Ds hD [0, 1, 2, 3, 4, 5, 6] (by decide) rfl) hS
    refine lv_iload hx hb d_CL_appendToAir_70 (lv_at hl 0 rfl) ?_
    refine lv_iload_n hx hb d_CL_appendToAir_72 rfl (lv_at hl 6 rfl) ?_
    refine k_icmp_ge (tgt := 95) hx hb d_CL_appendToAir_73 (by decide) (by omega) (by omega) (fun h73 => ?_) (fun h73 => ?_)
    · obtain rfl : tu = t := by omega
      refine lv_aload_n hx hb d_CL_appendToAir_95 rfl (lv_at hl 3 rfl) ?_
      refine k_get hx hb hw uw_CL hown hK hP 0 rfl rfl 3 (by decide) (hw _ wd_254) rfl d_CL_appendToAir_96 ?_
      refine lv_iload hx hb d_CL_appendToAir_99 (lv_at hl 2 rfl) ?_
      refine lv_iload hx hb d_CL_appendToAir_101 (lv_at hl 1 rfl) ?_
      refine k_callv (wr := [(h0, .inr (0, [.ref wq0, .int (nI mc), .ref fw, .ref oa, .ref sn, .ref rc])), (fw, .inr (1, [.ref fi, .ref fq, .int (nI fc)])), (fi, .inl (tc 1, 480, .inl ww.1)), (fq, .inl (tc 1, 480, .inl ww.2))]) (k_runV (As := [.int ((tnF (ecF ww.1 ec k, ecF ww.2 ec k) tu).1), .int ((tnF (ecF ww.1 ec k, ecF ww.2 ec k) tu).2)]) (rest := []) (wc := [(oa, .inr (1, [.ref oi, .ref oq, .int (nI ac)])), (oi, .inl (tc 1, 520, .inl aa.1)), (oq, .inl (tc 1, 520, .inl aa.2))]) ⟨hx, hb, hml, hown, hts⟩ (c_WA_append l D tc tb oa oi oq ac 520 aa.1 aa.2 ((tnF (ecF ww.1 ec k, ecF ww.2 ec k) tu).1) ((tnF (ecF ww.1 ec k, ecF ww.2 ec k) tu).2) (by omega) (by omega) H.size) (cwV 2 hts (k_goodV wd_579 wd_447 wd_448 wd_2 wd_449) rfl rfl rfl ⟨rfl, hd_WA_append⟩ ⟨by rw [hR]; exact Nat.le_of_ble_eq_true rfl, by rw [hR]; exact Nat.le_of_ble_eq_true rfl⟩) hK hP hD hS hST hN hA [4, 5, 6] (by decide) rfl 4 rfl rfl rfl rfl hl.1 rfl (Nat.le_of_ble_eq_true rfl) d_CL_appendToAir_103 ⟨by rw [hR]; exact Nat.le_of_ble_eq_true rfl, by rw [hR]; exact Nat.le_of_ble_eq_true rfl⟩) hP hD hS hA [4, 5, 6] [0, 1, 2, 3] rfl rfl (by decide) (by decide) (fun _ H locs hp103 hP hD hS => ?_)
      have hP : va_P D classes [(h0, .inr (0, [.ref wq0, .int (nI mc), .ref fw, .ref oa, .ref sn, .ref rc])), (fw, .inr (1, [.ref fi, .ref fq, .int (nI fc)])), (fi, .inl (tc 1, 480, .inl ww.1)), (fq, .inl (tc 1, 480, .inl ww.2)), (oa, .inr (1, [.ref oi, .ref oq, .int (nI (ac + 1))])), (oi, .inl (tc 1, 520, .inl (upd aa.1 ac (satF ((tnF (ecF ww.1 ec k, ecF ww.2 ec k) tu).1))))), (oq, .inl (tc 1, 520, .inl (upd aa.2 ac (satF ((tnF (ecF ww.1 ec k, ecF ww.2 ec k) tu).2)))))] H := hP
      have hD : va_D A [(h0, .inr (0, [.ref wq0, .int (nI mc), .ref fw, .ref oa, .ref sn, .ref rc])), (fw, .inr (1, [.ref fi, .ref fq, .int (nI fc)])), (fi, .inl (tc 1, 480, .inl ww.1)), (fq, .inl (tc 1, 480, .inl ww.2)), (oa, .inr (1, [.ref oi, .ref oq, .int (nI (ac + 1))])), (oi, .inl (tc 1, 520, .inl (upd aa.1 ac (satF ((tnF (ecF ww.1 ec k, ecF ww.2 ec k) tu).1))))), (oq, .inl (tc 1, 520, .inl (upd aa.2 ac (satF ((tnF (ecF ww.1 ec k, ecF ww.2 ec k) tu).2)))))] := hD
      refine W.widen (k := 0) (n := 0) (Nat.le_of_ble_eq_true rfl) (Nat.le_of_ble_eq_true rfl) ?_
      refine W.eq (g2 := F0 m 106 ls []) rfl ?_
      rw [hQ]
      exact k_vret () hx hb hr hlk hK hP hD hS [0, 1, 2, 3, 4, 5, 6] (by decide) rfl trivial d_CL_appendToAir_106
    · refine lv_iload hx hb d_CL_appendToAir_76 (lv_at hl 2 rfl) ?_
      refine lv_istore (lv' := [(7, .int ((tnF (ecF ww.1 ec k, ecF ww.2 ec k) t).1)), (6, .int (nI t)), (5, .int ((tnF (ecF ww.1 ec k, ecF ww.2 ec k) t).2)), (4, .int ((tnF (ecF ww.1 ec k, ecF ww.2 ec k) t).1)), (0, .ref h0), (1, .int (nI k)), (2, .int (nI ec)), (3, .int (nI tu))]) hx hb d_CL_appendToAir_78 hl (by decide) rfl (fun ls hl => ?_)
      refine lv_iload hx hb d_CL_appendToAir_80 (lv_at hl 2 rfl) ?_
      refine lv_ineg hx hb d_CL_appendToAir_82 ?_
      refine lv_istore (lv' := [(4, .int (-((tnF (ecF ww.1 ec k, ecF ww.2 ec k) t).2))), (7, .int ((tnF (ecF ww.1 ec k, ecF ww.2 ec k) t).1)), (6, .int (nI t)), (5, .int ((tnF (ecF ww.1 ec k, ecF ww.2 ec k) t).2)), (0, .ref h0), (1, .int (nI k)), (2, .int (nI ec)), (3, .int (nI tu))]) hx hb d_CL_appendToAir_83 hl (by decide) rfl (fun ls hl => ?_)
      refine lv_iload hx hb d_CL_appendToAir_85 (lv_at hl 1 rfl) ?_
      refine lv_istore (lv' := [(5, .int ((tnF (ecF ww.1 ec k, ecF ww.2 ec k) t).1)), (4, .int (-((tnF (ecF ww.1 ec k, ecF ww.2 ec k) t).2))), (7, .int ((tnF (ecF ww.1 ec k, ecF ww.2 ec k) t).1)), (6, .int (nI t)), (0, .ref h0), (1, .int (nI k)), (2, .int (nI ec)), (3, .int (nI tu))]) hx hb d_CL_appendToAir_87 hl (by decide) rfl (fun ls hl => ?_)
      refine lv_iinc (k := 3) (v := nI (t + 1)) (lv' := [(6, .int (nI (t + 1))), (5, .int ((tnF (ecF ww.1 ec k, ecF ww.2 ec k) t).1)), (4, .int (-((tnF (ecF ww.1 ec k, ecF ww.2 ec k) t).2))), (7, .int ((tnF (ecF ww.1 ec k, ecF ww.2 ec k) t).1)), (0, .ref h0), (1, .int (nI k)), (2, .int (nI ec)), (3, .int (nI tu))]) hx hb d_CL_appendToAir_89 hl rfl (k_incN _ 1) (by decide) rfl (fun ls hl => ?_)
      refine lv_goto (tgt := 70) hx hb d_CL_appendToAir_92 (by decide) ?_
      exact ih_t (by omega)   H locs ls (lv_sub hl [0, 1, 2, 4, 5, 6, 7] rfl) (by exact hP) (k_Ds hD [0, 1, 2, 3, 4, 5, 6] (by decide) rfl) hS
  · refine lv_iload_n hx hb d_CL_appendToAir_26 rfl (lv_at hl 3 rfl) ?_
    refine lv_iload_n hx hb d_CL_appendToAir_27 rfl (lv_at hl 4 rfl) ?_
    refine k_icmp_lt (tgt := 67) hx hb d_CL_appendToAir_28 (by decide) (by omega) (by omega) (fun h28 => ?_) (fun h28 => ?_)
    · have hl := lv_cg2 hl (ec_1 ww.1 h28) (ec_1 ww.2 h28)
      refine lv_iconst (v := nI 0) hx hb d_CL_appendToAir_67 (by decide) ?_
      refine lv_istore (lv' := [(6, .int (nI 0)), (5, .int (ecF ww.2 ec k)), (4, .int (ecF ww.1 ec k)), (0, .ref h0), (1, .int (nI k)), (2, .int (nI ec)), (3, .int (nI tu))]) hx hb d_CL_appendToAir_68 hl (by decide) rfl (fun ls hl => ?_)
      refine k_loop (P := fun t : Nat => ∀ (H : Heap) (locs : List Loc) (ls : Array Slot), lv_has ls 8 [(6, .int (nI t)), (5, .int ((tnF (ecF ww.1 ec k, ecF ww.2 ec k) t).2)), (4, .int ((tnF (ecF ww.1 ec k, ecF ww.2 ec k) t).1)), (0, .ref h0), (1, .int (nI k)), (2, .int (nI ec)), (3, .int (nI tu))] → va_P D classes [(h0, .inr (0, [.ref wq0, .int (nI mc), .ref fw, .ref oa, .ref sn, .ref rc])), (fw, .inr (1, [.ref fi, .ref fq, .int (nI fc)])), (fi, .inl (tc 1, 480, .inl ww.1)), (fq, .inl (tc 1, 480, .inl ww.2)), (oa, .inr (1, [.ref oi, .ref oq, .int (nI ac)])), (oi, .inl (tc 1, 520, .inl aa.1)), (oq, .inl (tc 1, 520, .inl aa.2))] H → va_D A [(h0, .inr (0, [.ref wq0, .int (nI mc), .ref fw, .ref oa, .ref sn, .ref rc])), (fw, .inr (1, [.ref fi, .ref fq, .int (nI fc)])), (fi, .inl (tc 1, 480, .inl ww.1)), (fq, .inl (tc 1, 480, .inl ww.2)), (oa, .inr (1, [.ref oi, .ref oq, .int (nI ac)])), (oi, .inl (tc 1, 520, .inl aa.1)), (oq, .inl (tc 1, 520, .inl aa.2))] → va_S A s.heap H locs → W p l e R s m args below meth c H locs 0 0 Q (F0 m 70 ls [])) (tu) (fun t hk_t ih_t  H locs ls hl hP hD hS => ?_) (0) (by omega)   s.heap [] ls (lv_sub hl [0, 1, 2, 3, 4, 5, 6] rfl) (by exact hP) (k_Ds hD [0, 1, 2, 3, 4, 5, 6] (by decide) rfl) hS
      refine lv_iload hx hb d_CL_appendToAir_70 (lv_at hl 0 rfl) ?_
      refine lv_iload_n hx hb d_CL_appendToAir_72 rfl (lv_at hl 6 rfl) ?_
      refine k_icmp_ge (tgt := 95) hx hb d_CL_appendToAir_73 (by decide) (by omega) (by omega) (fun h73 => ?_) (fun h73 => ?_)
      · obtain rfl : tu = t := by omega
        refine lv_aload_n hx hb d_CL_appendToAir_95 rfl (lv_at hl 3 rfl) ?_
        refine k_get hx hb hw uw_CL hown hK hP 0 rfl rfl 3 (by decide) (hw _ wd_254) rfl d_CL_appendToAir_96 ?_
        refine lv_iload hx hb d_CL_appendToAir_99 (lv_at hl 2 rfl) ?_
        refine lv_iload hx hb d_CL_appendToAir_101 (lv_at hl 1 rfl) ?_
        refine k_callv (wr := [(h0, .inr (0, [.ref wq0, .int (nI mc), .ref fw, .ref oa, .ref sn, .ref rc])), (fw, .inr (1, [.ref fi, .ref fq, .int (nI fc)])), (fi, .inl (tc 1, 480, .inl ww.1)), (fq, .inl (tc 1, 480, .inl ww.2))]) (k_runV (As := [.int ((tnF (ecF ww.1 ec k, ecF ww.2 ec k) tu).1), .int ((tnF (ecF ww.1 ec k, ecF ww.2 ec k) tu).2)]) (rest := []) (wc := [(oa, .inr (1, [.ref oi, .ref oq, .int (nI ac)])), (oi, .inl (tc 1, 520, .inl aa.1)), (oq, .inl (tc 1, 520, .inl aa.2))]) ⟨hx, hb, hml, hown, hts⟩ (c_WA_append l D tc tb oa oi oq ac 520 aa.1 aa.2 ((tnF (ecF ww.1 ec k, ecF ww.2 ec k) tu).1) ((tnF (ecF ww.1 ec k, ecF ww.2 ec k) tu).2) (by omega) (by omega) H.size) (cwV 2 hts (k_goodV wd_579 wd_447 wd_448 wd_2 wd_449) rfl rfl rfl ⟨rfl, hd_WA_append⟩ ⟨by rw [hR]; exact Nat.le_of_ble_eq_true rfl, by rw [hR]; exact Nat.le_of_ble_eq_true rfl⟩) hK hP hD hS hST hN hA [4, 5, 6] (by decide) rfl 4 rfl rfl rfl rfl hl.1 rfl (Nat.le_of_ble_eq_true rfl) d_CL_appendToAir_103 ⟨by rw [hR]; exact Nat.le_of_ble_eq_true rfl, by rw [hR]; exact Nat.le_of_ble_eq_true rfl⟩) hP hD hS hA [4, 5, 6] [0, 1, 2, 3] rfl rfl (by decide) (by decide) (fun _ H locs hp103 hP hD hS => ?_)
        have hP : va_P D classes [(h0, .inr (0, [.ref wq0, .int (nI mc), .ref fw, .ref oa, .ref sn, .ref rc])), (fw, .inr (1, [.ref fi, .ref fq, .int (nI fc)])), (fi, .inl (tc 1, 480, .inl ww.1)), (fq, .inl (tc 1, 480, .inl ww.2)), (oa, .inr (1, [.ref oi, .ref oq, .int (nI (ac + 1))])), (oi, .inl (tc 1, 520, .inl (upd aa.1 ac (satF ((tnF (ecF ww.1 ec k, ecF ww.2 ec k) tu).1))))), (oq, .inl (tc 1, 520, .inl (upd aa.2 ac (satF ((tnF (ecF ww.1 ec k, ecF ww.2 ec k) tu).2)))))] H := hP
        have hD : va_D A [(h0, .inr (0, [.ref wq0, .int (nI mc), .ref fw, .ref oa, .ref sn, .ref rc])), (fw, .inr (1, [.ref fi, .ref fq, .int (nI fc)])), (fi, .inl (tc 1, 480, .inl ww.1)), (fq, .inl (tc 1, 480, .inl ww.2)), (oa, .inr (1, [.ref oi, .ref oq, .int (nI (ac + 1))])), (oi, .inl (tc 1, 520, .inl (upd aa.1 ac (satF ((tnF (ecF ww.1 ec k, ecF ww.2 ec k) tu).1))))), (oq, .inl (tc 1, 520, .inl (upd aa.2 ac (satF ((tnF (ecF ww.1 ec k, ecF ww.2 ec k) tu).2)))))] := hD
        refine W.widen (k := 0) (n := 0) (Nat.le_of_ble_eq_true rfl) (Nat.le_of_ble_eq_true rfl) ?_
        refine W.eq (g2 := F0 m 106 ls []) rfl ?_
        rw [hQ]
        exact k_vret () hx hb hr hlk hK hP hD hS [0, 1, 2, 3, 4, 5, 6] (by decide) rfl trivial d_CL_appendToAir_106
      · refine lv_iload hx hb d_CL_appendToAir_76 (lv_at hl 2 rfl) ?_
        refine lv_istore (lv' := [(7, .int ((tnF (ecF ww.1 ec k, ecF ww.2 ec k) t).1)), (6, .int (nI t)), (5, .int ((tnF (ecF ww.1 ec k, ecF ww.2 ec k) t).2)), (4, .int ((tnF (ecF ww.1 ec k, ecF ww.2 ec k) t).1)), (0, .ref h0), (1, .int (nI k)), (2, .int (nI ec)), (3, .int (nI tu))]) hx hb d_CL_appendToAir_78 hl (by decide) rfl (fun ls hl => ?_)
        refine lv_iload hx hb d_CL_appendToAir_80 (lv_at hl 2 rfl) ?_
        refine lv_ineg hx hb d_CL_appendToAir_82 ?_
        refine lv_istore (lv' := [(4, .int (-((tnF (ecF ww.1 ec k, ecF ww.2 ec k) t).2))), (7, .int ((tnF (ecF ww.1 ec k, ecF ww.2 ec k) t).1)), (6, .int (nI t)), (5, .int ((tnF (ecF ww.1 ec k, ecF ww.2 ec k) t).2)), (0, .ref h0), (1, .int (nI k)), (2, .int (nI ec)), (3, .int (nI tu))]) hx hb d_CL_appendToAir_83 hl (by decide) rfl (fun ls hl => ?_)
        refine lv_iload hx hb d_CL_appendToAir_85 (lv_at hl 1 rfl) ?_
        refine lv_istore (lv' := [(5, .int ((tnF (ecF ww.1 ec k, ecF ww.2 ec k) t).1)), (4, .int (-((tnF (ecF ww.1 ec k, ecF ww.2 ec k) t).2))), (7, .int ((tnF (ecF ww.1 ec k, ecF ww.2 ec k) t).1)), (6, .int (nI t)), (0, .ref h0), (1, .int (nI k)), (2, .int (nI ec)), (3, .int (nI tu))]) hx hb d_CL_appendToAir_87 hl (by decide) rfl (fun ls hl => ?_)
        refine lv_iinc (k := 3) (v := nI (t + 1)) (lv' := [(6, .int (nI (t + 1))), (5, .int ((tnF (ecF ww.1 ec k, ecF ww.2 ec k) t).1)), (4, .int (-((tnF (ecF ww.1 ec k, ecF ww.2 ec k) t).2))), (7, .int ((tnF (ecF ww.1 ec k, ecF ww.2 ec k) t).1)), (0, .ref h0), (1, .int (nI k)), (2, .int (nI ec)), (3, .int (nI tu))]) hx hb d_CL_appendToAir_89 hl rfl (k_incN _ 1) (by decide) rfl (fun ls hl => ?_)
        refine lv_goto (tgt := 70) hx hb d_CL_appendToAir_92 (by decide) ?_
        exact ih_t (by omega)   H locs ls (lv_sub hl [0, 1, 2, 4, 5, 6, 7] rfl) (by exact hP) (k_Ds hD [0, 1, 2, 3, 4, 5, 6] (by decide) rfl) hS
    · refine lv_iload hx hb d_CL_appendToAir_31 (lv_at hl 1 rfl) ?_
      refine lv_aload_n hx hb d_CL_appendToAir_33 rfl (lv_at hl 2 rfl) ?_
      refine k_get hx hb hw uw_CL hown hK hP 0 rfl rfl 2 (by decide) (hw _ wd_253) rfl d_CL_appendToAir_34 ?_
      refine k_get hx hb hw uw_WA hown hK hP 1 rfl rfl 0 (by decide) (hw _ wd_36) rfl d_CL_appendToAir_37 ?_
      refine lv_iload_n hx hb d_CL_appendToAir_40 rfl (lv_at hl 3 rfl) ?_
      refine lv_iload_n hx hb d_CL_appendToAir_41 rfl (lv_at hl 4 rfl) ?_
      refine k_isub hx hb d_CL_appendToAir_42 (by omega) ?_
      refine k_sald hx hb hK hP 2 1 rfl rfl (by omega) (by omega) d_CL_appendToAir_43 ?_
      refine lv_iconst (v := nI 1) hx hb d_CL_appendToAir_44 (by decide) ?_
      refine lv_ishr hx hb d_CL_appendToAir_45 ?_
      refine lv_iadd hx hb d_CL_appendToAir_46 ?_
      refine k_topi (y := ecF ww.1 ec k) (ec_2 ww.1 h23 h28) ?_
      refine lv_istore (lv' := [(4, .int (ecF ww.1 ec k)), (5, .int (ww.2 k)), (0, .ref h0), (1, .int (nI k)), (2, .int (nI ec)), (3, .int (nI tu))]) hx hb d_CL_appendToAir_47 hl (by decide) rfl (fun ls hl => ?_)
      refine lv_iload hx hb d_CL_appendToAir_49 (lv_at hl 1 rfl) ?_
      refine lv_aload_n hx hb d_CL_appendToAir_51 rfl (lv_at hl 2 rfl) ?_
      refine k_get hx hb hw uw_CL hown hK hP 0 rfl rfl 2 (by decide) (hw _ wd_253) rfl d_CL_appendToAir_52 ?_
      refine k_get hx hb hw uw_WA hown hK hP 1 rfl rfl 1 (by decide) (hw _ wd_40) rfl d_CL_appendToAir_55 ?_
      refine lv_iload_n hx hb d_CL_appendToAir_58 rfl (lv_at hl 3 rfl) ?_
      refine lv_iload_n hx hb d_CL_appendToAir_59 rfl (lv_at hl 4 rfl) ?_
      refine k_isub hx hb d_CL_appendToAir_60 (by omega) ?_
      refine k_sald hx hb hK hP 3 1 rfl rfl (by omega) (by omega) d_CL_appendToAir_61 ?_
      refine lv_iconst (v := nI 1) hx hb d_CL_appendToAir_62 (by decide) ?_
      refine lv_ishr hx hb d_CL_appendToAir_63 ?_
      refine lv_iadd hx hb d_CL_appendToAir_64 ?_
      refine k_topi (y := ecF ww.2 ec k) (ec_2 ww.2 h23 h28) ?_
      refine lv_istore (lv' := [(5, .int (ecF ww.2 ec k)), (4, .int (ecF ww.1 ec k)), (0, .ref h0), (1, .int (nI k)), (2, .int (nI ec)), (3, .int (nI tu))]) hx hb d_CL_appendToAir_65 hl (by decide) rfl (fun ls hl => ?_)
      refine lv_iconst (v := nI 0) hx hb d_CL_appendToAir_67 (by decide) ?_
      refine lv_istore (lv' := [(6, .int (nI 0)), (5, .int (ecF ww.2 ec k)), (4, .int (ecF ww.1 ec k)), (0, .ref h0), (1, .int (nI k)), (2, .int (nI ec)), (3, .int (nI tu))]) hx hb d_CL_appendToAir_68 hl (by decide) rfl (fun ls hl => ?_)
      refine k_loop (P := fun t : Nat => ∀ (H : Heap) (locs : List Loc) (ls : Array Slot), lv_has ls 8 [(6, .int (nI t)), (5, .int ((tnF (ecF ww.1 ec k, ecF ww.2 ec k) t).2)), (4, .int ((tnF (ecF ww.1 ec k, ecF ww.2 ec k) t).1)), (0, .ref h0), (1, .int (nI k)), (2, .int (nI ec)), (3, .int (nI tu))] → va_P D classes [(h0, .inr (0, [.ref wq0, .int (nI mc), .ref fw, .ref oa, .ref sn, .ref rc])), (fw, .inr (1, [.ref fi, .ref fq, .int (nI fc)])), (fi, .inl (tc 1, 480, .inl ww.1)), (fq, .inl (tc 1, 480, .inl ww.2)), (oa, .inr (1, [.ref oi, .ref oq, .int (nI ac)])), (oi, .inl (tc 1, 520, .inl aa.1)), (oq, .inl (tc 1, 520, .inl aa.2))] H → va_D A [(h0, .inr (0, [.ref wq0, .int (nI mc), .ref fw, .ref oa, .ref sn, .ref rc])), (fw, .inr (1, [.ref fi, .ref fq, .int (nI fc)])), (fi, .inl (tc 1, 480, .inl ww.1)), (fq, .inl (tc 1, 480, .inl ww.2)), (oa, .inr (1, [.ref oi, .ref oq, .int (nI ac)])), (oi, .inl (tc 1, 520, .inl aa.1)), (oq, .inl (tc 1, 520, .inl aa.2))] → va_S A s.heap H locs → W p l e R s m args below meth c H locs 0 0 Q (F0 m 70 ls [])) (tu) (fun t hk_t ih_t  H locs ls hl hP hD hS => ?_) (0) (by omega)   s.heap [] ls (lv_sub hl [0, 1, 2, 3, 4, 5, 6] rfl) (by exact hP) (k_Ds hD [0, 1, 2, 3, 4, 5, 6] (by decide) rfl) hS
      refine lv_iload hx hb d_CL_appendToAir_70 (lv_at hl 0 rfl) ?_
      refine lv_iload_n hx hb d_CL_appendToAir_72 rfl (lv_at hl 6 rfl) ?_
      refine k_icmp_ge (tgt := 95) hx hb d_CL_appendToAir_73 (by decide) (by omega) (by omega) (fun h73 => ?_) (fun h73 => ?_)
      · obtain rfl : tu = t := by omega
        refine lv_aload_n hx hb d_CL_appendToAir_95 rfl (lv_at hl 3 rfl) ?_
        refine k_get hx hb hw uw_CL hown hK hP 0 rfl rfl 3 (by decide) (hw _ wd_254) rfl d_CL_appendToAir_96 ?_
        refine lv_iload hx hb d_CL_appendToAir_99 (lv_at hl 2 rfl) ?_
        refine lv_iload hx hb d_CL_appendToAir_101 (lv_at hl 1 rfl) ?_
        refine k_callv (wr := [(h0, .inr (0, [.ref wq0, .int (nI mc), .ref fw, .ref oa, .ref sn, .ref rc])), (fw, .inr (1, [.ref fi, .ref fq, .int (nI fc)])), (fi, .inl (tc 1, 480, .inl ww.1)), (fq, .inl (tc 1, 480, .inl ww.2))]) (k_runV (As := [.int ((tnF (ecF ww.1 ec k, ecF ww.2 ec k) tu).1), .int ((tnF (ecF ww.1 ec k, ecF ww.2 ec k) tu).2)]) (rest := []) (wc := [(oa, .inr (1, [.ref oi, .ref oq, .int (nI ac)])), (oi, .inl (tc 1, 520, .inl aa.1)), (oq, .inl (tc 1, 520, .inl aa.2))]) ⟨hx, hb, hml, hown, hts⟩ (c_WA_append l D tc tb oa oi oq ac 520 aa.1 aa.2 ((tnF (ecF ww.1 ec k, ecF ww.2 ec k) tu).1) ((tnF (ecF ww.1 ec k, ecF ww.2 ec k) tu).2) (by omega) (by omega) H.size) (cwV 2 hts (k_goodV wd_579 wd_447 wd_448 wd_2 wd_449) rfl rfl rfl ⟨rfl, hd_WA_append⟩ ⟨by rw [hR]; exact Nat.le_of_ble_eq_true rfl, by rw [hR]; exact Nat.le_of_ble_eq_true rfl⟩) hK hP hD hS hST hN hA [4, 5, 6] (by decide) rfl 4 rfl rfl rfl rfl hl.1 rfl (Nat.le_of_ble_eq_true rfl) d_CL_appendToAir_103 ⟨by rw [hR]; exact Nat.le_of_ble_eq_true rfl, by rw [hR]; exact Nat.le_of_ble_eq_true rfl⟩) hP hD hS hA [4, 5, 6] [0, 1, 2, 3] rfl rfl (by decide) (by decide) (fun _ H locs hp103 hP hD hS => ?_)
        have hP : va_P D classes [(h0, .inr (0, [.ref wq0, .int (nI mc), .ref fw, .ref oa, .ref sn, .ref rc])), (fw, .inr (1, [.ref fi, .ref fq, .int (nI fc)])), (fi, .inl (tc 1, 480, .inl ww.1)), (fq, .inl (tc 1, 480, .inl ww.2)), (oa, .inr (1, [.ref oi, .ref oq, .int (nI (ac + 1))])), (oi, .inl (tc 1, 520, .inl (upd aa.1 ac (satF ((tnF (ecF ww.1 ec k, ecF ww.2 ec k) tu).1))))), (oq, .inl (tc 1, 520, .inl (upd aa.2 ac (satF ((tnF (ecF ww.1 ec k, ecF ww.2 ec k) tu).2)))))] H := hP
        have hD : va_D A [(h0, .inr (0, [.ref wq0, .int (nI mc), .ref fw, .ref oa, .ref sn, .ref rc])), (fw, .inr (1, [.ref fi, .ref fq, .int (nI fc)])), (fi, .inl (tc 1, 480, .inl ww.1)), (fq, .inl (tc 1, 480, .inl ww.2)), (oa, .inr (1, [.ref oi, .ref oq, .int (nI (ac + 1))])), (oi, .inl (tc 1, 520, .inl (upd aa.1 ac (satF ((tnF (ecF ww.1 ec k, ecF ww.2 ec k) tu).1))))), (oq, .inl (tc 1, 520, .inl (upd aa.2 ac (satF ((tnF (ecF ww.1 ec k, ecF ww.2 ec k) tu).2)))))] := hD
        refine W.widen (k := 0) (n := 0) (Nat.le_of_ble_eq_true rfl) (Nat.le_of_ble_eq_true rfl) ?_
        refine W.eq (g2 := F0 m 106 ls []) rfl ?_
        rw [hQ]
        exact k_vret () hx hb hr hlk hK hP hD hS [0, 1, 2, 3, 4, 5, 6] (by decide) rfl trivial d_CL_appendToAir_106
      · refine lv_iload hx hb d_CL_appendToAir_76 (lv_at hl 2 rfl) ?_
        refine lv_istore (lv' := [(7, .int ((tnF (ecF ww.1 ec k, ecF ww.2 ec k) t).1)), (6, .int (nI t)), (5, .int ((tnF (ecF ww.1 ec k, ecF ww.2 ec k) t).2)), (4, .int ((tnF (ecF ww.1 ec k, ecF ww.2 ec k) t).1)), (0, .ref h0), (1, .int (nI k)), (2, .int (nI ec)), (3, .int (nI tu))]) hx hb d_CL_appendToAir_78 hl (by decide) rfl (fun ls hl => ?_)
        refine lv_iload hx hb d_CL_appendToAir_80 (lv_at hl 2 rfl) ?_
        refine lv_ineg hx hb d_CL_appendToAir_82 ?_
        refine lv_istore (lv' := [(4, .int (-((tnF (ecF ww.1 ec k, ecF ww.2 ec k) t).2))), (7, .int ((tnF (ecF ww.1 ec k, ecF ww.2 ec k) t).1)), (6, .int (nI t)), (5, .int ((tnF (ecF ww.1 ec k, ecF ww.2 ec k) t).2)), (0, .ref h0), (1, .int (nI k)), (2, .int (nI ec)), (3, .int (nI tu))]) hx hb d_CL_appendToAir_83 hl (by decide) rfl (fun ls hl => ?_)
        refine lv_iload hx hb d_CL_appendToAir_85 (lv_at hl 1 rfl) ?_
        refine lv_istore (lv' := [(5, .int ((tnF (ecF ww.1 ec k, ecF ww.2 ec k) t).1)), (4, .int (-((tnF (ecF ww.1 ec k, ecF ww.2 ec k) t).2))), (7, .int ((tnF (ecF ww.1 ec k, ecF ww.2 ec k) t).1)), (6, .int (nI t)), (0, .ref h0), (1, .int (nI k)), (2, .int (nI ec)), (3, .int (nI tu))]) hx hb d_CL_appendToAir_87 hl (by decide) rfl (fun ls hl => ?_)
        refine lv_iinc (k := 3) (v := nI (t + 1)) (lv' := [(6, .int (nI (t + 1))), (5, .int ((tnF (ecF ww.1 ec k, ecF ww.2 ec k) t).1)), (4, .int (-((tnF (ecF ww.1 ec k, ecF ww.2 ec k) t).2))), (7, .int ((tnF (ecF ww.1 ec k, ecF ww.2 ec k) t).1)), (0, .ref h0), (1, .int (nI k)), (2, .int (nI ec)), (3, .int (nI tu))]) hx hb d_CL_appendToAir_89 hl rfl (k_incN _ 1) (by decide) rfl (fun ls hl => ?_)
        refine lv_goto (tgt := 70) hx hb d_CL_appendToAir_92 (by decide) ?_
        exact ih_t (by omega)   H locs ls (lv_sub hl [0, 1, 2, 4, 5, 6, 7] rfl) (by exact hP) (k_Ds hD [0, 1, 2, 3, 4, 5, 6] (by decide) rfl) hS
set_option maxHeartbeats 4000000 in
set_option maxRecDepth 100000 in
theorem c_CL_air_ok (l : Launch) (D : va_G) (tc : Nat → ClassId) (tb : Nat → Nat) (h0 : Nat) (wq0 : Nat) (fw : Nat) (oa : Nat) (sn : Nat) (rc : Nat) (mc : Nat) (fi : Nat) (fq : Nat) (fc : Nat) (oi : Nat) (oq : Nat) (ac : Nat) (ww : RP) (aa : RP) (ld : Nat) (ec : Nat) (tu : Nat) (hld : ld ≤ 40) (hec : ec ≤ 3) (htu : tu ≤ 3) (hf0 : 0 < fc) (hfc : fc ≤ 480) : Mi l D tc tb y_CL_air prog_1_method_7_code 5 (some .int) ({ frames := 4, cells := 0, slots := 0, locals := 87 }) [.ref h0, .int (nI ld), .int (nI ec), .int (nI tu)] [(h0, .inr (0, [.ref wq0, .int (nI mc), .ref fw, .ref oa, .ref sn, .ref rc])), (fw, .inr (1, [.ref fi, .ref fq, .int (nI fc)])), (fi, .inl (tc 1, 480, .inl ww.1)), (fq, .inl (tc 1, 480, .inl ww.2)), (oa, .inr (1, [.ref oi, .ref oq, .int (nI ac)])), (oi, .inl (tc 1, 520, .inl aa.1)), (oq, .inl (tc 1, 520, .inl aa.2))] (fun _ : Unit => True) (fun _ : Unit => nI (ld + fc)) (fun _ : Unit => [(h0, .inr (0, [.ref wq0, .int (nI mc), .ref fw, .ref oa, .ref sn, .ref rc])), (fw, .inr (1, [.ref fi, .ref fq, .int (nI fc)])), (fi, .inl (tc 1, 480, .inl ww.1)), (fq, .inl (tc 1, 480, .inl ww.2)), (oa, .inr (1, [.ref oi, .ref oq, .int (nI (ld + fc))])), (oi, .inl (tc 1, 520, .inl ((arP ww ec tu ld (gF (fun _ => satF (nI 0)) aa.1 ld, gF (fun _ => satF (nI 0)) aa.2 ld) fc).1))), (oq, .inl (tc 1, 520, .inl ((arP ww ec tu ld (gF (fun _ => satF (nI 0)) aa.1 ld, gF (fun _ => satF (nI 0)) aa.2 ld) fc).2)))]) := by
  refine Mi.go (by decide) (Nat.le_of_ble_eq_true rfl) ?_
  intro p e s m below meth c A ls R args Q C
  obtain ⟨hx, hb, hr, hts, hown, hlk, hml, hin, hA, hST, hN, hK, hP, hD, hS, hl, hR, hQ⟩ := C
  have hw : ∀ w ∈ lw_g, w.before args s = true := fun w h => hts w (List.mem_cons_of_mem _ h)
  have hl : lv_has ls 5 [(0, .ref h0), (1, .int (nI ld)), (2, .int (nI ec)), (3, .int (nI tu))] := hl
  refine lv_iload_n hx hb d_CL_air_0 rfl (lv_at hl 1 rfl) ?_
  refine lv_if_lt (tgt := 28) hx hb d_CL_air_1 (by decide) (fun h1 => ?_) (fun h1 => ?_)
  · exact absurd h1 (nI_pos (by omega))
  · refine lv_iload_n hx hb d_CL_air_4 rfl (lv_at hl 1 rfl) ?_
    refine lv_bipush (v := nI 40) hx hb d_CL_air_5 (by decide) ?_
    refine k_icmp_gt (tgt := 28) hx hb d_CL_air_7 (by decide) (by omega) (by omega) (fun h7 => ?_) (fun h7 => ?_)
    · exfalso; omega
    · refine lv_iload_n hx hb d_CL_air_10 rfl (lv_at hl 2 rfl) ?_
      refine lv_if_lt (tgt := 28) hx hb d_CL_air_11 (by decide) (fun h11 => ?_) (fun h11 => ?_)
      · exact absurd h11 (nI_pos (by omega))
      · refine lv_iload_n hx hb d_CL_air_14 rfl (lv_at hl 2 rfl) ?_
        refine lv_iconst (v := nI 3) hx hb d_CL_air_15 (by decide) ?_
        refine k_icmp_gt (tgt := 28) hx hb d_CL_air_16 (by decide) (by omega) (by omega) (fun h16 => ?_) (fun h16 => ?_)
        · exfalso; omega
        · refine lv_iload_n hx hb d_CL_air_19 rfl (lv_at hl 3 rfl) ?_
          refine lv_if_lt (tgt := 28) hx hb d_CL_air_20 (by decide) (fun h20 => ?_) (fun h20 => ?_)
          · exact absurd h20 (nI_pos (by omega))
          · refine lv_iload_n hx hb d_CL_air_23 rfl (lv_at hl 3 rfl) ?_
            refine lv_iconst (v := nI 3) hx hb d_CL_air_24 (by decide) ?_
            refine k_icmp_le (tgt := 38) hx hb d_CL_air_25 (by decide) (by omega) (by omega) (fun h25 => ?_) (fun h25 => ?_)
            · refine lv_aload_n hx hb d_CL_air_38 rfl (lv_at hl 0 rfl) ?_
              refine k_get hx hb hw uw_CL hown hK hP 0 rfl rfl 2 (by decide) (hw _ wd_253) rfl d_CL_air_39 ?_
              refine k_get hx hb hw uw_WA hown hK hP 1 rfl rfl 2 (by decide) (hw _ wd_43) rfl d_CL_air_42 ?_
              refine k_if_ne (tgt := 58) hx hb d_CL_air_45 (by decide) (by omega) (fun h45 => ?_) (fun h45 => ?_)
              · refine lv_aload_n hx hb d_CL_air_58 rfl (lv_at hl 0 rfl) ?_
                refine k_get hx hb hw uw_CL hown hK hP 0 rfl rfl 3 (by decide) (hw _ wd_254) rfl d_CL_air_59 ?_
                refine k_callv (wr := [(h0, .inr (0, [.ref wq0, .int (nI mc), .ref fw, .ref oa, .ref sn, .ref rc])), (fw, .inr (1, [.ref fi, .ref fq, .int (nI fc)])), (fi, .inl (tc 1, 480, .inl ww.1)), (fq, .inl (tc 1, 480, .inl ww.2))]) (k_runV (As := []) (rest := []) (wc := [(oa, .inr (1, [.ref oi, .ref oq, .int (nI ac)])), (oi, .inl (tc 1, 520, .inl aa.1)), (oq, .inl (tc 1, 520, .inl aa.2))]) ⟨hx, hb, hml, hown, hts⟩ (c_WA_clear l D tc tb oa oi oq ac 520 aa.1 aa.2  s.heap.size) (cwV 0 hts (k_goodV wd_578 wd_431 wd_432 wd_2 wd_433) rfl rfl rfl ⟨rfl, hd_WA_clear⟩ ⟨by rw [hR]; exact Nat.le_of_ble_eq_true rfl, by rw [hR]; exact Nat.le_of_ble_eq_true rfl⟩) hK hP hD hS hST hN hA [4, 5, 6] (by decide) rfl 4 rfl rfl rfl rfl hl.1 rfl (Nat.le_of_ble_eq_true rfl) d_CL_air_62 ⟨by rw [hR]; exact Nat.le_of_ble_eq_true rfl, by rw [hR]; exact Nat.le_of_ble_eq_true rfl⟩) hP hD hS hA [4, 5, 6] [0, 1, 2, 3] rfl rfl (by decide) (by decide) (fun _ H locs hp62 hP hD hS => ?_)
                have hP : va_P D classes [(h0, .inr (0, [.ref wq0, .int (nI mc), .ref fw, .ref oa, .ref sn, .ref rc])), (fw, .inr (1, [.ref fi, .ref fq, .int (nI fc)])), (fi, .inl (tc 1, 480, .inl ww.1)), (fq, .inl (tc 1, 480, .inl ww.2)), (oa, .inr (1, [.ref oi, .ref oq, .int (nI 0)])), (oi, .inl (tc 1, 520, .inl aa.1)), (oq, .inl (tc 1, 520, .inl aa.2))] H := hP
                have hD : va_D A [(h0, .inr (0, [.ref wq0, .int (nI mc), .ref fw, .ref oa, .ref sn, .ref rc])), (fw, .inr (1, [.ref fi, .ref fq, .int (nI fc)])), (fi, .inl (tc 1, 480, .inl ww.1)), (fq, .inl (tc 1, 480, .inl ww.2)), (oa, .inr (1, [.ref oi, .ref oq, .int (nI 0)])), (oi, .inl (tc 1, 520, .inl aa.1)), (oq, .inl (tc 1, 520, .inl aa.2))] := hD
                refine W.widen (k := 0) (n := 0) (Nat.le_of_ble_eq_true rfl) (Nat.le_of_ble_eq_true rfl) ?_
                refine W.eq (g2 := F0 m 65 ls []) rfl ?_
                refine lv_iconst (v := nI 0) hx hb d_CL_air_65 (by decide) ?_
                refine lv_istore (lv' := [(4, .int (nI 0)), (0, .ref h0), (1, .int (nI ld)), (2, .int (nI ec)), (3, .int (nI tu))]) hx hb d_CL_air_66 hl (by decide) rfl (fun ls hl => ?_)
                refine k_loop (P := fun k : Nat => ∀ (H : Heap) (locs : List Loc) (ls : Array Slot), lv_has ls 5 [(4, .int (nI k)), (0, .ref h0), (1, .int (nI ld)), (2, .int (nI ec)), (3, .int (nI tu))] → va_P D classes [(h0, .inr (0, [.ref wq0, .int (nI mc), .ref fw, .ref oa, .ref sn, .ref rc])), (fw, .inr (1, [.ref fi, .ref fq, .int (nI fc)])), (fi, .inl (tc 1, 480, .inl ww.1)), (fq, .inl (tc 1, 480, .inl ww.2)), (oa, .inr (1, [.ref oi, .ref oq, .int (nI k)])), (oi, .inl (tc 1, 520, .inl (gF (fun _ => satF (nI 0)) aa.1 k))), (oq, .inl (tc 1, 520, .inl (gF (fun _ => satF (nI 0)) aa.2 k)))] H → va_D A [(h0, .inr (0, [.ref wq0, .int (nI mc), .ref fw, .ref oa, .ref sn, .ref rc])), (fw, .inr (1, [.ref fi, .ref fq, .int (nI fc)])), (fi, .inl (tc 1, 480, .inl ww.1)), (fq, .inl (tc 1, 480, .inl ww.2)), (oa, .inr (1, [.ref oi, .ref oq, .int (nI k)])), (oi, .inl (tc 1, 520, .inl (gF (fun _ => satF (nI 0)) aa.1 k))), (oq, .inl (tc 1, 520, .inl (gF (fun _ => satF (nI 0)) aa.2 k)))] → va_S A s.heap H locs → W p l e R s m args below meth c H locs 0 0 Q (F0 m 68 ls [])) (ld) (fun k hk_k ih_k  H locs ls hl hP hD hS => ?_) (0) (by omega)   H locs ls (lv_sub hl [0, 1, 2, 3, 4] rfl) (by rw [gF_0, gF_0]; exact hP) (k_Ds hD [0, 1, 2, 3, 4, 5, 6] (by decide) rfl) hS
                refine lv_iload hx hb d_CL_air_68 (lv_at hl 0 rfl) ?_
                refine lv_iload_n hx hb d_CL_air_70 rfl (lv_at hl 2 rfl) ?_
                refine k_icmp_ge (tgt := 89) hx hb d_CL_air_71 (by decide) (by omega) (by omega) (fun h71 => ?_) (fun h71 => ?_)
                · obtain rfl : ld = k := by omega
                  refine lv_iconst (v := nI 0) hx hb d_CL_air_89 (by decide) ?_
                  refine lv_istore (lv' := [(4, .int (nI 0)), (0, .ref h0), (1, .int (nI ld)), (2, .int (nI ec)), (3, .int (nI tu))]) hx hb d_CL_air_90 hl (by decide) rfl (fun ls hl => ?_)
                  refine k_loop (P := fun i : Nat => ∀ (H : Heap) (locs : List Loc) (ls : Array Slot), lv_has ls 5 [(4, .int (nI i)), (0, .ref h0), (1, .int (nI ld)), (2, .int (nI ec)), (3, .int (nI tu))] → va_P D classes [(h0, .inr (0, [.ref wq0, .int (nI mc), .ref fw, .ref oa, .ref sn, .ref rc])), (fw, .inr (1, [.ref fi, .ref fq, .int (nI fc)])), (fi, .inl (tc 1, 480, .inl ww.1)), (fq, .inl (tc 1, 480, .inl ww.2)), (oa, .inr (1, [.ref oi, .ref oq, .int (nI (ld + i))])), (oi, .inl (tc 1, 520, .inl ((arP ww ec tu ld (gF (fun _ => satF (nI 0)) aa.1 ld, gF (fun _ => satF (nI 0)) aa.2 ld) i).1))), (oq, .inl (tc 1, 520, .inl ((arP ww ec tu ld (gF (fun _ => satF (nI 0)) aa.1 ld, gF (fun _ => satF (nI 0)) aa.2 ld) i).2)))] H → va_D A [(h0, .inr (0, [.ref wq0, .int (nI mc), .ref fw, .ref oa, .ref sn, .ref rc])), (fw, .inr (1, [.ref fi, .ref fq, .int (nI fc)])), (fi, .inl (tc 1, 480, .inl ww.1)), (fq, .inl (tc 1, 480, .inl ww.2)), (oa, .inr (1, [.ref oi, .ref oq, .int (nI (ld + i))])), (oi, .inl (tc 1, 520, .inl ((arP ww ec tu ld (gF (fun _ => satF (nI 0)) aa.1 ld, gF (fun _ => satF (nI 0)) aa.2 ld) i).1))), (oq, .inl (tc 1, 520, .inl ((arP ww ec tu ld (gF (fun _ => satF (nI 0)) aa.1 ld, gF (fun _ => satF (nI 0)) aa.2 ld) i).2)))] → va_S A s.heap H locs → W p l e R s m args below meth c H locs 0 0 Q (F0 m 92 ls [])) (fc) (fun i hk_i ih_i  H locs ls hl hP hD hS => ?_) (0) (by omega)   H locs ls (lv_sub hl [0, 1, 2, 3, 4] rfl) (by rw [arP_0]; exact hP) (k_Ds hD [0, 1, 2, 3, 4, 5, 6] (by decide) rfl) hS
                  refine lv_iload hx hb d_CL_air_92 (lv_at hl 0 rfl) ?_
                  refine lv_aload_n hx hb d_CL_air_94 rfl (lv_at hl 1 rfl) ?_
                  refine k_get hx hb hw uw_CL hown hK hP 0 rfl rfl 2 (by decide) (hw _ wd_253) rfl d_CL_air_95 ?_
                  refine k_get hx hb hw uw_WA hown hK hP 1 rfl rfl 2 (by decide) (hw _ wd_43) rfl d_CL_air_98 ?_
                  refine k_icmp_ge (tgt := 118) hx hb d_CL_air_101 (by decide) (by omega) (by omega) (fun h101 => ?_) (fun h101 => ?_)
                  · obtain rfl : fc = i := by omega
                    refine lv_aload_n hx hb d_CL_air_118 rfl (lv_at hl 1 rfl) ?_
                    refine k_get hx hb hw uw_CL hown hK hP 0 rfl rfl 3 (by decide) (hw _ wd_254) rfl d_CL_air_119 ?_
                    refine k_get hx hb hw uw_WA hown hK hP 4 rfl rfl 2 (by decide) (hw _ wd_43) rfl d_CL_air_122 ?_
                    rw [hQ]
                    exact k_iret () hx hb hr hlk hK hP hD hS [0, 1, 2, 3, 4, 5, 6] (by decide) rfl trivial rfl d_CL_air_125
                  · refine lv_aload_n hx hb d_CL_air_104 rfl (lv_at hl 1 rfl) ?_
                    refine lv_iload hx hb d_CL_air_105 (lv_at hl 0 rfl) ?_
                    refine lv_iload_n hx hb d_CL_air_107 rfl (lv_at hl 3 rfl) ?_
                    refine lv_iload_n hx hb d_CL_air_108 rfl (lv_at hl 4 rfl) ?_
                    refine k_callv (wr := []) (k_runV (As := [.int (nI i), .int (nI ec), .int (nI tu)]) (rest := []) (wc := [(h0, .inr (0, [.ref wq0, .int (nI mc), .ref fw, .ref oa, .ref sn, .ref rc])), (fw, .inr (1, [.ref fi, .ref fq, .int (nI fc)])), (fi, .inl (tc 1, 480, .inl ww.1)), (fq, .inl (tc 1, 480, .inl ww.2)), (oa, .inr (1, [.ref oi, .ref oq, .int (nI ((ld + i)))])), (oi, .inl (tc 1, 520, .inl ((arP ww ec tu ld (gF (fun _ => satF (nI 0)) aa.1 ld, gF (fun _ => satF (nI 0)) aa.2 ld) i).1))), (oq, .inl (tc 1, 520, .inl ((arP ww ec tu ld (gF (fun _ => satF (nI 0)) aa.1 ld, gF (fun _ => satF (nI 0)) aa.2 ld) i).2)))]) ⟨hx, hb, hml, hown, hts⟩ (c_CL_appendToAir l D tc tb h0 wq0 fw oa sn rc mc fi fq fc oi oq (ld + i) ww (arP ww ec tu ld (gF (fun _ => satF (nI 0)) aa.1 ld, gF (fun _ => satF (nI 0)) aa.2 ld) i) i ec tu (by omega) (by omega) (by omega) (by omega) H.size) (cwV 3 hts (k_goodV wd_580 wd_582 wd_m15 wd_1 wd_583) rfl rfl rfl ⟨rfl, hd_CL_appendToAir⟩ ⟨by rw [hR]; exact Nat.le_of_ble_eq_true rfl, by rw [hR]; exact Nat.le_of_ble_eq_true rfl⟩) hK hP hD hS hST hN hA [0, 1, 2, 3, 4, 5, 6] (by decide) rfl 0 rfl rfl rfl rfl hl.1 rfl (Nat.le_of_ble_eq_true rfl) d_CL_air_109 ⟨by rw [hR]; exact Nat.le_of_ble_eq_true rfl, by rw [hR]; exact Nat.le_of_ble_eq_true rfl⟩) hP hD hS hA [0, 1, 2, 3, 4, 5, 6] [] rfl rfl (by decide) (by decide) (fun _ H locs hp109 hP hD hS => ?_)
                    have hP : va_P D classes [(h0, .inr (0, [.ref wq0, .int (nI mc), .ref fw, .ref oa, .ref sn, .ref rc])), (fw, .inr (1, [.ref fi, .ref fq, .int (nI fc)])), (fi, .inl (tc 1, 480, .inl ww.1)), (fq, .inl (tc 1, 480, .inl ww.2)), (oa, .inr (1, [.ref oi, .ref oq, .int (nI ((ld + i) + 1))])), (oi, .inl (tc 1, 520, .inl (upd (arP ww ec tu ld (gF (fun _ => satF (nI 0)) aa.1 ld, gF (fun _ => satF (nI 0)) aa.2 ld) i).1 (ld + i) (satF (eaF ww ec tu i).1)))), (oq, .inl (tc 1, 520, .inl (upd (arP ww ec tu ld (gF (fun _ => satF (nI 0)) aa.1 ld, gF (fun _ => satF (nI 0)) aa.2 ld) i).2 (ld + i) (satF (eaF ww ec tu i).2))))] H := hP
                    have hD : va_D A [(h0, .inr (0, [.ref wq0, .int (nI mc), .ref fw, .ref oa, .ref sn, .ref rc])), (fw, .inr (1, [.ref fi, .ref fq, .int (nI fc)])), (fi, .inl (tc 1, 480, .inl ww.1)), (fq, .inl (tc 1, 480, .inl ww.2)), (oa, .inr (1, [.ref oi, .ref oq, .int (nI ((ld + i) + 1))])), (oi, .inl (tc 1, 520, .inl (upd (arP ww ec tu ld (gF (fun _ => satF (nI 0)) aa.1 ld, gF (fun _ => satF (nI 0)) aa.2 ld) i).1 (ld + i) (satF (eaF ww ec tu i).1)))), (oq, .inl (tc 1, 520, .inl (upd (arP ww ec tu ld (gF (fun _ => satF (nI 0)) aa.1 ld, gF (fun _ => satF (nI 0)) aa.2 ld) i).2 (ld + i) (satF (eaF ww ec tu i).2))))] := hD
                    refine W.widen (k := 0) (n := 0) (Nat.le_of_ble_eq_true rfl) (Nat.le_of_ble_eq_true rfl) ?_
                    refine W.eq (g2 := F0 m 112 ls []) rfl ?_
                    refine lv_iinc (k := 0) (v := nI (i + 1)) (lv' := [(4, .int (nI (i + 1))), (0, .ref h0), (1, .int (nI ld)), (2, .int (nI ec)), (3, .int (nI tu))]) hx hb d_CL_air_112 hl rfl (k_incN _ 1) (by decide) rfl (fun ls hl => ?_)
                    refine lv_goto (tgt := 92) hx hb d_CL_air_115 (by decide) ?_
                    exact ih_i (by omega)   H locs ls (lv_sub hl [0, 1, 2, 3, 4] rfl) (by rw [arP_s]; exact hP) (k_Ds hD [0, 1, 2, 3, 4, 5, 6] (by decide) rfl) hS
                · refine lv_aload_n hx hb d_CL_air_74 rfl (lv_at hl 1 rfl) ?_
                  refine k_get hx hb hw uw_CL hown hK hP 0 rfl rfl 3 (by decide) (hw _ wd_254) rfl d_CL_air_75 ?_
                  refine lv_iconst (v := nI 0) hx hb d_CL_air_78 (by decide) ?_
                  refine lv_iconst (v := nI 0) hx hb d_CL_air_79 (by decide) ?_
                  refine k_callv (wr := [(h0, .inr (0, [.ref wq0, .int (nI mc), .ref fw, .ref oa, .ref sn, .ref rc])), (fw, .inr (1, [.ref fi, .ref fq, .int (nI fc)])), (fi, .inl (tc 1, 480, .inl ww.1)), (fq, .inl (tc 1, 480, .inl ww.2))]) (k_runV (As := [.int (nI 0), .int (nI 0)]) (rest := []) (wc := [(oa, .inr (1, [.ref oi, .ref oq, .int (nI k)])), (oi, .inl (tc 1, 520, .inl (gF (fun _ => satF (nI 0)) aa.1 k))), (oq, .inl (tc 1, 520, .inl (gF (fun _ => satF (nI 0)) aa.2 k)))]) ⟨hx, hb, hml, hown, hts⟩ (c_WA_append l D tc tb oa oi oq k 520 (gF (fun _ => satF (nI 0)) aa.1 k) (gF (fun _ => satF (nI 0)) aa.2 k) (nI 0) (nI 0) (by omega) (by omega) H.size) (cwV 2 hts (k_goodV wd_579 wd_447 wd_448 wd_2 wd_449) rfl rfl rfl ⟨rfl, hd_WA_append⟩ ⟨by rw [hR]; exact Nat.le_of_ble_eq_true rfl, by rw [hR]; exact Nat.le_of_ble_eq_true rfl⟩) hK hP hD hS hST hN hA [4, 5, 6] (by decide) rfl 4 rfl rfl rfl rfl hl.1 rfl (Nat.le_of_ble_eq_true rfl) d_CL_air_80 ⟨by rw [hR]; exact Nat.le_of_ble_eq_true rfl, by rw [hR]; exact Nat.le_of_ble_eq_true rfl⟩) hP hD hS hA [4, 5, 6] [0, 1, 2, 3] rfl rfl (by decide) (by decide) (fun _ H locs hp80 hP hD hS => ?_)
                  have hP : va_P D classes [(h0, .inr (0, [.ref wq0, .int (nI mc), .ref fw, .ref oa, .ref sn, .ref rc])), (fw, .inr (1, [.ref fi, .ref fq, .int (nI fc)])), (fi, .inl (tc 1, 480, .inl ww.1)), (fq, .inl (tc 1, 480, .inl ww.2)), (oa, .inr (1, [.ref oi, .ref oq, .int (nI (k + 1))])), (oi, .inl (tc 1, 520, .inl (upd (gF (fun _ => satF (nI 0)) aa.1 k) k (satF (nI 0))))), (oq, .inl (tc 1, 520, .inl (upd (gF (fun _ => satF (nI 0)) aa.2 k) k (satF (nI 0)))))] H := hP
                  have hD : va_D A [(h0, .inr (0, [.ref wq0, .int (nI mc), .ref fw, .ref oa, .ref sn, .ref rc])), (fw, .inr (1, [.ref fi, .ref fq, .int (nI fc)])), (fi, .inl (tc 1, 480, .inl ww.1)), (fq, .inl (tc 1, 480, .inl ww.2)), (oa, .inr (1, [.ref oi, .ref oq, .int (nI (k + 1))])), (oi, .inl (tc 1, 520, .inl (upd (gF (fun _ => satF (nI 0)) aa.1 k) k (satF (nI 0))))), (oq, .inl (tc 1, 520, .inl (upd (gF (fun _ => satF (nI 0)) aa.2 k) k (satF (nI 0)))))] := hD
                  refine W.widen (k := 0) (n := 0) (Nat.le_of_ble_eq_true rfl) (Nat.le_of_ble_eq_true rfl) ?_
                  refine W.eq (g2 := F0 m 83 ls []) rfl ?_
                  refine lv_iinc (k := 0) (v := nI (k + 1)) (lv' := [(4, .int (nI (k + 1))), (0, .ref h0), (1, .int (nI ld)), (2, .int (nI ec)), (3, .int (nI tu))]) hx hb d_CL_air_83 hl rfl (k_incN _ 1) (by decide) rfl (fun ls hl => ?_)
                  refine lv_goto (tgt := 68) hx hb d_CL_air_86 (by decide) ?_
                  exact ih_k (by omega)   H locs ls (lv_sub hl [0, 1, 2, 3, 4] rfl) (by rw [gF_s, gF_s]; exact hP) (k_Ds hD [0, 1, 2, 3, 4, 5, 6] (by decide) rfl) hS
              · exfalso; omega
            · exfalso; omega
