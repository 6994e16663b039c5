set_option maxHeartbeats 4000000 in
set_option maxRecDepth 100000 in
theorem c_MO_size_0 (l : Launch) (D : va_G) (tc : Nat → ClassId) (tb : Nat → Nat) : Mi l D tc tb y_MO_size prog_10_method_2_code 3 (some .int) ({ frames := 0, cells := 0, slots := 0, locals := 0 }) [.int (nI 0)] [] (fun _ : Unit => True) (fun _ : Unit => szT 0) (fun _ : Unit => []) := by
  refine Mi.go (by decide) (Nat.le_of_ble_eq_true rfl) ?_
  intro p e s m below meth c A ls R args Q C
  obtain ⟨hx, hb, hr, hts, hown, hlk, hml, hin, hA, hST, hN, hK, hP, hD, hS, hl, hR, hQ⟩ := C
  have hw : ∀ w ∈ lw_g, w.before args s = true := fun w h => hts w (List.mem_cons_of_mem _ h)
  have hl : lv_has ls 3 [(0, .int (nI 0))] := hl
  refine lv_iload_n hx hb d_MO_size_0 rfl (lv_at hl 0 rfl) ?_
  refine lv_bipush (v := nI 8) hx hb d_MO_size_1 (by decide) ?_
  refine k_icmp_ge (tgt := 10) hx hb d_MO_size_3 (by decide) (by omega) (by omega) (fun h3 => ?_) (fun h3 => ?_)
  · exfalso; omega
  · refine lv_iload_n hx hb d_MO_size_6 rfl (lv_at hl 0 rfl) ?_
    refine lv_goto (tgt := 14) hx hb d_MO_size_7 (by decide) ?_
    refine lv_istore_n (lv' := [(1, .int (nI 0)), (0, .int (nI 0))]) hx hb d_MO_size_14 rfl hl (by decide) rfl (fun ls hl => ?_)
    refine lv_iload_n hx hb d_MO_size_15 rfl (lv_at hl 0 rfl) ?_
    refine lv_iconst (v := nI 4) hx hb d_MO_size_16 (by decide) ?_
    refine k_icmp_ge (tgt := 24) hx hb d_MO_size_17 (by decide) (by omega) (by omega) (fun h17 => ?_) (fun h17 => ?_)
    · exfalso; omega
    · refine lv_iload_n hx hb d_MO_size_20 rfl (lv_at hl 0 rfl) ?_
      refine lv_goto (tgt := 28) hx hb d_MO_size_21 (by decide) ?_
      refine lv_istore_n (lv' := [(2, .int (nI 0)), (1, .int (nI 0)), (0, .int (nI 0))]) hx hb d_MO_size_28 rfl hl (by decide) rfl (fun ls hl => ?_)
      refine lv_iload_n hx hb d_MO_size_29 rfl (lv_at hl 0 rfl) ?_
      refine k_if_ne (tgt := 39) hx hb d_MO_size_30 (by decide) (by omega) (fun h30 => ?_) (fun h30 => ?_)
      · exfalso; omega
      · refine lv_sipush (v := nI 16384) hx hb d_MO_size_33 (by decide) ?_
        refine lv_goto (tgt := 73) hx hb d_MO_size_36 (by decide) ?_
        rw [hQ]
        exact k_iret () hx hb hr hlk hK hP hD hS [] (by decide) rfl trivial rfl d_MO_size_73
set_option maxHeartbeats 4000000 in
set_option maxRecDepth 100000 in
theorem c_MO_size_1 (l : Launch) (D : va_G) (tc : Nat → ClassId) (tb : Nat → Nat) : Mi l D tc tb y_MO_size prog_10_method_2_code 3 (some .int) ({ frames := 0, cells := 0, slots := 0, locals := 0 }) [.int (nI 1)] [] (fun _ : Unit => True) (fun _ : Unit => szT 1) (fun _ : Unit => []) := by
  refine Mi.go (by decide) (Nat.le_of_ble_eq_true rfl) ?_
  intro p e s m below meth c A ls R args Q C
  obtain ⟨hx, hb, hr, hts, hown, hlk, hml, hin, hA, hST, hN, hK, hP, hD, hS, hl, hR, hQ⟩ := C
  have hw : ∀ w ∈ lw_g, w.before args s = true := fun w h => hts w (List.mem_cons_of_mem _ h)
  have hl : lv_has ls 3 [(0, .int (nI 1))] := hl
  refine lv_iload_n hx hb d_MO_size_0 rfl (lv_at hl 0 rfl) ?_
  refine lv_bipush (v := nI 8) hx hb d_MO_size_1 (by decide) ?_
  refine k_icmp_ge (tgt := 10) hx hb d_MO_size_3 (by decide) (by omega) (by omega) (fun h3 => ?_) (fun h3 => ?_)
  · exfalso; omega
  · refine lv_iload_n hx hb d_MO_size_6 rfl (lv_at hl 0 rfl) ?_
    refine lv_goto (tgt := 14) hx hb d_MO_size_7 (by decide) ?_
    refine lv_istore_n (lv' := [(1, .int (nI 1)), (0, .int (nI 1))]) hx hb d_MO_size_14 rfl hl (by decide) rfl (fun ls hl => ?_)
    refine lv_iload_n hx hb d_MO_size_15 rfl (lv_at hl 0 rfl) ?_
    refine lv_iconst (v := nI 4) hx hb d_MO_size_16 (by decide) ?_
    refine k_icmp_ge (tgt := 24) hx hb d_MO_size_17 (by decide) (by omega) (by omega) (fun h17 => ?_) (fun h17 => ?_)
    · exfalso; omega
    · refine lv_iload_n hx hb d_MO_size_20 rfl (lv_at hl 0 rfl) ?_
      refine lv_goto (tgt := 28) hx hb d_MO_size_21 (by decide) ?_
      refine lv_istore_n (lv' := [(2, .int (nI 1)), (1, .int (nI 1)), (0, .int (nI 1))]) hx hb d_MO_size_28 rfl hl (by decide) rfl (fun ls hl => ?_)
      refine lv_iload_n hx hb d_MO_size_29 rfl (lv_at hl 0 rfl) ?_
      refine k_if_ne (tgt := 39) hx hb d_MO_size_30 (by decide) (by omega) (fun h30 => ?_) (fun h30 => ?_)
      · refine lv_iload_n hx hb d_MO_size_39 rfl (lv_at hl 0 rfl) ?_
        refine lv_iconst (v := nI 1) hx hb d_MO_size_40 (by decide) ?_
        refine k_icmp_ne (tgt := 50) hx hb d_MO_size_41 (by decide) (by omega) (by omega) (fun h41 => ?_) (fun h41 => ?_)
        · exfalso; omega
        · refine lv_sipush (v := nI 15137) hx hb d_MO_size_44 (by decide) ?_
          refine lv_goto (tgt := 73) hx hb d_MO_size_47 (by decide) ?_
          rw [hQ]
          exact k_iret () hx hb hr hlk hK hP hD hS [] (by decide) rfl trivial rfl d_MO_size_73
      · exfalso; omega
set_option maxHeartbeats 4000000 in
set_option maxRecDepth 100000 in
theorem c_MO_size_2 (l : Launch) (D : va_G) (tc : Nat → ClassId) (tb : Nat → Nat) : Mi l D tc tb y_MO_size prog_10_method_2_code 3 (some .int) ({ frames := 0, cells := 0, slots := 0, locals := 0 }) [.int (nI 2)] [] (fun _ : Unit => True) (fun _ : Unit => szT 2) (fun _ : Unit => []) := by
  refine Mi.go (by decide) (Nat.le_of_ble_eq_true rfl) ?_
  intro p e s m below meth c A ls R args Q C
  obtain ⟨hx, hb, hr, hts, hown, hlk, hml, hin, hA, hST, hN, hK, hP, hD, hS, hl, hR, hQ⟩ := C
  have hw : ∀ w ∈ lw_g, w.before args s = true := fun w h => hts w (List.mem_cons_of_mem _ h)
  have hl : lv_has ls 3 [(0, .int (nI 2))] := hl
  refine lv_iload_n hx hb d_MO_size_0 rfl (lv_at hl 0 rfl) ?_
  refine lv_bipush (v := nI 8) hx hb d_MO_size_1 (by decide) ?_
  refine k_icmp_ge (tgt := 10) hx hb d_MO_size_3 (by decide) (by omega) (by omega) (fun h3 => ?_) (fun h3 => ?_)
  · exfalso; omega
  · refine lv_iload_n hx hb d_MO_size_6 rfl (lv_at hl 0 rfl) ?_
    refine lv_goto (tgt := 14) hx hb d_MO_size_7 (by decide) ?_
    refine lv_istore_n (lv' := [(1, .int (nI 2)), (0, .int (nI 2))]) hx hb d_MO_size_14 rfl hl (by decide) rfl (fun ls hl => ?_)
    refine lv_iload_n hx hb d_MO_size_15 rfl (lv_at hl 0 rfl) ?_
    refine lv_iconst (v := nI 4) hx hb d_MO_size_16 (by decide) ?_
    refine k_icmp_ge (tgt := 24) hx hb d_MO_size_17 (by decide) (by omega) (by omega) (fun h17 => ?_) (fun h17 => ?_)
    · exfalso; omega
    · refine lv_iload_n hx hb d_MO_size_20 rfl (lv_at hl 0 rfl) ?_
      refine lv_goto (tgt := 28) hx hb d_MO_size_21 (by decide) ?_
      refine lv_istore_n (lv' := [(2, .int (nI 2)), (1, .int (nI 2)), (0, .int (nI 2))]) hx hb d_MO_size_28 rfl hl (by decide) rfl (fun ls hl => ?_)
      refine lv_iload_n hx hb d_MO_size_29 rfl (lv_at hl 0 rfl) ?_
      refine k_if_ne (tgt := 39) hx hb d_MO_size_30 (by decide) (by omega) (fun h30 => ?_) (fun h30 => ?_)
      · refine lv_iload_n hx hb d_MO_size_39 rfl (lv_at hl 0 rfl) ?_
        refine lv_iconst (v := nI 1) hx hb d_MO_size_40 (by decide) ?_
        refine k_icmp_ne (tgt := 50) hx hb d_MO_size_41 (by decide) (by omega) (by omega) (fun h41 => ?_) (fun h41 => ?_)
        · refine lv_iload_n hx hb d_MO_size_50 rfl (lv_at hl 0 rfl) ?_
          refine lv_iconst (v := nI 2) hx hb d_MO_size_51 (by decide) ?_
          refine k_icmp_ne (tgt := 61) hx hb d_MO_size_52 (by decide) (by omega) (by omega) (fun h52 => ?_) (fun h52 => ?_)
          · exfalso; omega
          · refine lv_sipush (v := nI 11585) hx hb d_MO_size_55 (by decide) ?_
            refine lv_goto (tgt := 73) hx hb d_MO_size_58 (by decide) ?_
            rw [hQ]
            exact k_iret () hx hb hr hlk hK hP hD hS [] (by decide) rfl trivial rfl d_MO_size_73
        · exfalso; omega
      · exfalso; omega
set_option maxHeartbeats 4000000 in
set_option maxRecDepth 100000 in
theorem c_MO_size_3 (l : Launch) (D : va_G) (tc : Nat → ClassId) (tb : Nat → Nat) : Mi l D tc tb y_MO_size prog_10_method_2_code 3 (some .int) ({ frames := 0, cells := 0, slots := 0, locals := 0 }) [.int (nI 3)] [] (fun _ : Unit => True) (fun _ : Unit => szT 3) (fun _ : Unit => []) := by
  refine Mi.go (by decide) (Nat.le_of_ble_eq_true rfl) ?_
  intro p e s m below meth c A ls R args Q C
  obtain ⟨hx, hb, hr, hts, hown, hlk, hml, hin, hA, hST, hN, hK, hP, hD, hS, hl, hR, hQ⟩ := C
  have hw : ∀ w ∈ lw_g, w.before args s = true := fun w h => hts w (List.mem_cons_of_mem _ h)
  have hl : lv_has ls 3 [(0, .int (nI 3))] := hl
  refine lv_iload_n hx hb d_MO_size_0 rfl (lv_at hl 0 rfl) ?_
  refine lv_bipush (v := nI 8) hx hb d_MO_size_1 (by decide) ?_
  refine k_icmp_ge (tgt := 10) hx hb d_MO_size_3 (by decide) (by omega) (by omega) (fun h3 => ?_) (fun h3 => ?_)
  · exfalso; omega
  · refine lv_iload_n hx hb d_MO_size_6 rfl (lv_at hl 0 rfl) ?_
    refine lv_goto (tgt := 14) hx hb d_MO_size_7 (by decide) ?_
    refine lv_istore_n (lv' := [(1, .int (nI 3)), (0, .int (nI 3))]) hx hb d_MO_size_14 rfl hl (by decide) rfl (fun ls hl => ?_)
    refine lv_iload_n hx hb d_MO_size_15 rfl (lv_at hl 0 rfl) ?_
    refine lv_iconst (v := nI 4) hx hb d_MO_size_16 (by decide) ?_
    refine k_icmp_ge (tgt := 24) hx hb d_MO_size_17 (by decide) (by omega) (by omega) (fun h17 => ?_) (fun h17 => ?_)
    · exfalso; omega
    · refine lv_iload_n hx hb d_MO_size_20 rfl (lv_at hl 0 rfl) ?_
      refine lv_goto (tgt := 28) hx hb d_MO_size_21 (by decide) ?_
      refine lv_istore_n (lv' := [(2, .int (nI 3)), (1, .int (nI 3)), (0, .int (nI 3))]) hx hb d_MO_size_28 rfl hl (by decide) rfl (fun ls hl => ?_)
      refine lv_iload_n hx hb d_MO_size_29 rfl (lv_at hl 0 rfl) ?_
      refine k_if_ne (tgt := 39) hx hb d_MO_size_30 (by decide) (by omega) (fun h30 => ?_) (fun h30 => ?_)
      · refine lv_iload_n hx hb d_MO_size_39 rfl (lv_at hl 0 rfl) ?_
        refine lv_iconst (v := nI 1) hx hb d_MO_size_40 (by decide) ?_
        refine k_icmp_ne (tgt := 50) hx hb d_MO_size_41 (by decide) (by omega) (by omega) (fun h41 => ?_) (fun h41 => ?_)
        · refine lv_iload_n hx hb d_MO_size_50 rfl (lv_at hl 0 rfl) ?_
          refine lv_iconst (v := nI 2) hx hb d_MO_size_51 (by decide) ?_
          refine k_icmp_ne (tgt := 61) hx hb d_MO_size_52 (by decide) (by omega) (by omega) (fun h52 => ?_) (fun h52 => ?_)
          · refine lv_iload_n hx hb d_MO_size_61 rfl (lv_at hl 0 rfl) ?_
            refine lv_iconst (v := nI 3) hx hb d_MO_size_62 (by decide) ?_
            refine k_icmp_ne (tgt := 72) hx hb d_MO_size_63 (by decide) (by omega) (by omega) (fun h63 => ?_) (fun h63 => ?_)
            · exfalso; omega
            · refine lv_sipush (v := nI 6270) hx hb d_MO_size_66 (by decide) ?_
              refine lv_goto (tgt := 73) hx hb d_MO_size_69 (by decide) ?_
              rw [hQ]
              exact k_iret () hx hb hr hlk hK hP hD hS [] (by decide) rfl trivial rfl d_MO_size_73
          · exfalso; omega
        · exfalso; omega
      · exfalso; omega
set_option maxHeartbeats 4000000 in
set_option maxRecDepth 100000 in
theorem c_MO_size_4 (l : Launch) (D : va_G) (tc : Nat → ClassId) (tb : Nat → Nat) : Mi l D tc tb y_MO_size prog_10_method_2_code 3 (some .int) ({ frames := 0, cells := 0, slots := 0, locals := 0 }) [.int (nI 4)] [] (fun _ : Unit => True) (fun _ : Unit => szT 4) (fun _ : Unit => []) := by
  refine Mi.go (by decide) (Nat.le_of_ble_eq_true rfl) ?_
  intro p e s m below meth c A ls R args Q C
  obtain ⟨hx, hb, hr, hts, hown, hlk, hml, hin, hA, hST, hN, hK, hP, hD, hS, hl, hR, hQ⟩ := C
  have hw : ∀ w ∈ lw_g, w.before args s = true := fun w h => hts w (List.mem_cons_of_mem _ h)
  have hl : lv_has ls 3 [(0, .int (nI 4))] := hl
  refine lv_iload_n hx hb d_MO_size_0 rfl (lv_at hl 0 rfl) ?_
  refine lv_bipush (v := nI 8) hx hb d_MO_size_1 (by decide) ?_
  refine k_icmp_ge (tgt := 10) hx hb d_MO_size_3 (by decide) (by omega) (by omega) (fun h3 => ?_) (fun h3 => ?_)
  · exfalso; omega
  · refine lv_iload_n hx hb d_MO_size_6 rfl (lv_at hl 0 rfl) ?_
    refine lv_goto (tgt := 14) hx hb d_MO_size_7 (by decide) ?_
    refine lv_istore_n (lv' := [(1, .int (nI 4)), (0, .int (nI 4))]) hx hb d_MO_size_14 rfl hl (by decide) rfl (fun ls hl => ?_)
    refine lv_iload_n hx hb d_MO_size_15 rfl (lv_at hl 0 rfl) ?_
    refine lv_iconst (v := nI 4) hx hb d_MO_size_16 (by decide) ?_
    refine k_icmp_ge (tgt := 24) hx hb d_MO_size_17 (by decide) (by omega) (by omega) (fun h17 => ?_) (fun h17 => ?_)
    · refine lv_bipush (v := nI 8) hx hb d_MO_size_24 (by decide) ?_
      refine lv_iload_n hx hb d_MO_size_26 rfl (lv_at hl 0 rfl) ?_
      refine k_isub hx hb d_MO_size_27 (by omega) ?_
      refine lv_istore_n (lv' := [(2, .int (nI 4)), (1, .int (nI 4)), (0, .int (nI 4))]) hx hb d_MO_size_28 rfl hl (by decide) rfl (fun ls hl => ?_)
      refine lv_iload_n hx hb d_MO_size_29 rfl (lv_at hl 0 rfl) ?_
      refine k_if_ne (tgt := 39) hx hb d_MO_size_30 (by decide) (by omega) (fun h30 => ?_) (fun h30 => ?_)
      · refine lv_iload_n hx hb d_MO_size_39 rfl (lv_at hl 0 rfl) ?_
        refine lv_iconst (v := nI 1) hx hb d_MO_size_40 (by decide) ?_
        refine k_icmp_ne (tgt := 50) hx hb d_MO_size_41 (by decide) (by omega) (by omega) (fun h41 => ?_) (fun h41 => ?_)
        · refine lv_iload_n hx hb d_MO_size_50 rfl (lv_at hl 0 rfl) ?_
          refine lv_iconst (v := nI 2) hx hb d_MO_size_51 (by decide) ?_
          refine k_icmp_ne (tgt := 61) hx hb d_MO_size_52 (by decide) (by omega) (by omega) (fun h52 => ?_) (fun h52 => ?_)
          · refine lv_iload_n hx hb d_MO_size_61 rfl (lv_at hl 0 rfl) ?_
            refine lv_iconst (v := nI 3) hx hb d_MO_size_62 (by decide) ?_
            refine k_icmp_ne (tgt := 72) hx hb d_MO_size_63 (by decide) (by omega) (by omega) (fun h63 => ?_) (fun h63 => ?_)
            · refine lv_iconst (v := nI 0) hx hb d_MO_size_72 (by decide) ?_
              rw [hQ]
              exact k_iret () hx hb hr hlk hK hP hD hS [] (by decide) rfl trivial rfl d_MO_size_73
            · exfalso; omega
          · exfalso; omega
        · exfalso; omega
      · exfalso; omega
    · exfalso; omega
set_option maxHeartbeats 4000000 in
set_option maxRecDepth 100000 in
theorem c_MO_size_5 (l : Launch) (D : va_G) (tc : Nat → ClassId) (tb : Nat → Nat) : Mi l D tc tb y_MO_size prog_10_method_2_code 3 (some .int) ({ frames := 0, cells := 0, slots := 0, locals := 0 }) [.int (nI 5)] [] (fun _ : Unit => True) (fun _ : Unit => szT 5) (fun _ : Unit => []) := by
  refine Mi.go (by decide) (Nat.le_of_ble_eq_true rfl) ?_
  intro p e s m below meth c A ls R args Q C
  obtain ⟨hx, hb, hr, hts, hown, hlk, hml, hin, hA, hST, hN, hK, hP, hD, hS, hl, hR, hQ⟩ := C
  have hw : ∀ w ∈ lw_g, w.before args s = true := fun w h => hts w (List.mem_cons_of_mem _ h)
  have hl : lv_has ls 3 [(0, .int (nI 5))] := hl
  refine lv_iload_n hx hb d_MO_size_0 rfl (lv_at hl 0 rfl) ?_
  refine lv_bipush (v := nI 8) hx hb d_MO_size_1 (by decide) ?_
  refine k_icmp_ge (tgt := 10) hx hb d_MO_size_3 (by decide) (by omega) (by omega) (fun h3 => ?_) (fun h3 => ?_)
  · exfalso; omega
  · refine lv_iload_n hx hb d_MO_size_6 rfl (lv_at hl 0 rfl) ?_
    refine lv_goto (tgt := 14) hx hb d_MO_size_7 (by decide) ?_
    refine lv_istore_n (lv' := [(1, .int (nI 5)), (0, .int (nI 5))]) hx hb d_MO_size_14 rfl hl (by decide) rfl (fun ls hl => ?_)
    refine lv_iload_n hx hb d_MO_size_15 rfl (lv_at hl 0 rfl) ?_
    refine lv_iconst (v := nI 4) hx hb d_MO_size_16 (by decide) ?_
    refine k_icmp_ge (tgt := 24) hx hb d_MO_size_17 (by decide) (by omega) (by omega) (fun h17 => ?_) (fun h17 => ?_)
    · refine lv_bipush (v := nI 8) hx hb d_MO_size_24 (by decide) ?_
      refine lv_iload_n hx hb d_MO_size_26 rfl (lv_at hl 0 rfl) ?_
      refine k_isub hx hb d_MO_size_27 (by omega) ?_
      refine lv_istore_n (lv' := [(2, .int (nI 3)), (1, .int (nI 5)), (0, .int (nI 5))]) hx hb d_MO_size_28 rfl hl (by decide) rfl (fun ls hl => ?_)
      refine lv_iload_n hx hb d_MO_size_29 rfl (lv_at hl 0 rfl) ?_
      refine k_if_ne (tgt := 39) hx hb d_MO_size_30 (by decide) (by omega) (fun h30 => ?_) (fun h30 => ?_)
      · refine lv_iload_n hx hb d_MO_size_39 rfl (lv_at hl 0 rfl) ?_
        refine lv_iconst (v := nI 1) hx hb d_MO_size_40 (by decide) ?_
        refine k_icmp_ne (tgt := 50) hx hb d_MO_size_41 (by decide) (by omega) (by omega) (fun h41 => ?_) (fun h41 => ?_)
        · refine lv_iload_n hx hb d_MO_size_50 rfl (lv_at hl 0 rfl) ?_
          refine lv_iconst (v := nI 2) hx hb d_MO_size_51 (by decide) ?_
          refine k_icmp_ne (tgt := 61) hx hb d_MO_size_52 (by decide) (by omega) (by omega) (fun h52 => ?_) (fun h52 => ?_)
          · refine lv_iload_n hx hb d_MO_size_61 rfl (lv_at hl 0 rfl) ?_
            refine lv_iconst (v := nI 3) hx hb d_MO_size_62 (by decide) ?_
            refine k_icmp_ne (tgt := 72) hx hb d_MO_size_63 (by decide) (by omega) (by omega) (fun h63 => ?_) (fun h63 => ?_)
            · exfalso; omega
            · refine lv_sipush (v := nI 6270) hx hb d_MO_size_66 (by decide) ?_
              refine lv_goto (tgt := 73) hx hb d_MO_size_69 (by decide) ?_
              rw [hQ]
              exact k_iret () hx hb hr hlk hK hP hD hS [] (by decide) rfl trivial rfl d_MO_size_73
          · exfalso; omega
        · exfalso; omega
      · exfalso; omega
    · exfalso; omega
set_option maxHeartbeats 4000000 in
set_option maxRecDepth 100000 in
theorem c_MO_size_6 (l : Launch) (D : va_G) (tc : Nat → ClassId) (tb : Nat → Nat) : Mi l D tc tb y_MO_size prog_10_method_2_code 3 (some .int) ({ frames := 0, cells := 0, slots := 0, locals := 0 }) [.int (nI 6)] [] (fun _ : Unit => True) (fun _ : Unit => szT 6) (fun _ : Unit => []) := by
  refine Mi.go (by decide) (Nat.le_of_ble_eq_true rfl) ?_
  intro p e s m below meth c A ls R args Q C
  obtain ⟨hx, hb, hr, hts, hown, hlk, hml, hin, hA, hST, hN, hK, hP, hD, hS, hl, hR, hQ⟩ := C
  have hw : ∀ w ∈ lw_g, w.before args s = true := fun w h => hts w (List.mem_cons_of_mem _ h)
  have hl : lv_has ls 3 [(0, .int (nI 6))] := hl
  refine lv_iload_n hx hb d_MO_size_0 rfl (lv_at hl 0 rfl) ?_
  refine lv_bipush (v := nI 8) hx hb d_MO_size_1 (by decide) ?_
  refine k_icmp_ge (tgt := 10) hx hb d_MO_size_3 (by decide) (by omega) (by omega) (fun h3 => ?_) (fun h3 => ?_)
  · exfalso; omega
  · refine lv_iload_n hx hb d_MO_size_6 rfl (lv_at hl 0 rfl) ?_
    refine lv_goto (tgt := 14) hx hb d_MO_size_7 (by decide) ?_
    refine lv_istore_n (lv' := [(1, .int (nI 6)), (0, .int (nI 6))]) hx hb d_MO_size_14 rfl hl (by decide) rfl (fun ls hl => ?_)
    refine lv_iload_n hx hb d_MO_size_15 rfl (lv_at hl 0 rfl) ?_
    refine lv_iconst (v := nI 4) hx hb d_MO_size_16 (by decide) ?_
    refine k_icmp_ge (tgt := 24) hx hb d_MO_size_17 (by decide) (by omega) (by omega) (fun h17 => ?_) (fun h17 => ?_)
    · refine lv_bipush (v := nI 8) hx hb d_MO_size_24 (by decide) ?_
      refine lv_iload_n hx hb d_MO_size_26 rfl (lv_at hl 0 rfl) ?_
      refine k_isub hx hb d_MO_size_27 (by omega) ?_
      refine lv_istore_n (lv' := [(2, .int (nI 2)), (1, .int (nI 6)), (0, .int (nI 6))]) hx hb d_MO_size_28 rfl hl (by decide) rfl (fun ls hl => ?_)
      refine lv_iload_n hx hb d_MO_size_29 rfl (lv_at hl 0 rfl) ?_
      refine k_if_ne (tgt := 39) hx hb d_MO_size_30 (by decide) (by omega) (fun h30 => ?_) (fun h30 => ?_)
      · refine lv_iload_n hx hb d_MO_size_39 rfl (lv_at hl 0 rfl) ?_
        refine lv_iconst (v := nI 1) hx hb d_MO_size_40 (by decide) ?_
        refine k_icmp_ne (tgt := 50) hx hb d_MO_size_41 (by decide) (by omega) (by omega) (fun h41 => ?_) (fun h41 => ?_)
        · refine lv_iload_n hx hb d_MO_size_50 rfl (lv_at hl 0 rfl) ?_
          refine lv_iconst (v := nI 2) hx hb d_MO_size_51 (by decide) ?_
          refine k_icmp_ne (tgt := 61) hx hb d_MO_size_52 (by decide) (by omega) (by omega) (fun h52 => ?_) (fun h52 => ?_)
          · exfalso; omega
          · refine lv_sipush (v := nI 11585) hx hb d_MO_size_55 (by decide) ?_
            refine lv_goto (tgt := 73) hx hb d_MO_size_58 (by decide) ?_
            rw [hQ]
            exact k_iret () hx hb hr hlk hK hP hD hS [] (by decide) rfl trivial rfl d_MO_size_73
        · exfalso; omega
      · exfalso; omega
    · exfalso; omega
set_option maxHeartbeats 4000000 in
set_option maxRecDepth 100000 in
theorem c_MO_size_7 (l : Launch) (D : va_G) (tc : Nat → ClassId) (tb : Nat → Nat) : Mi l D tc tb y_MO_size prog_10_method_2_code 3 (some .int) ({ frames := 0, cells := 0, slots := 0, locals := 0 }) [.int (nI 7)] [] (fun _ : Unit => True) (fun _ : Unit => szT 7) (fun _ : Unit => []) := by
  refine Mi.go (by decide) (Nat.le_of_ble_eq_true rfl) ?_
  intro p e s m below meth c A ls R args Q C
  obtain ⟨hx, hb, hr, hts, hown, hlk, hml, hin, hA, hST, hN, hK, hP, hD, hS, hl, hR, hQ⟩ := C
  have hw : ∀ w ∈ lw_g, w.before args s = true := fun w h => hts w (List.mem_cons_of_mem _ h)
  have hl : lv_has ls 3 [(0, .int (nI 7))] := hl
  refine lv_iload_n hx hb d_MO_size_0 rfl (lv_at hl 0 rfl) ?_
  refine lv_bipush (v := nI 8) hx hb d_MO_size_1 (by decide) ?_
  refine k_icmp_ge (tgt := 10) hx hb d_MO_size_3 (by decide) (by omega) (by omega) (fun h3 => ?_) (fun h3 => ?_)
  · exfalso; omega
  · refine lv_iload_n hx hb d_MO_size_6 rfl (lv_at hl 0 rfl) ?_
    refine lv_goto (tgt := 14) hx hb d_MO_size_7 (by decide) ?_
    refine lv_istore_n (lv' := [(1, .int (nI 7)), (0, .int (nI 7))]) hx hb d_MO_size_14 rfl hl (by decide) rfl (fun ls hl => ?_)
    refine lv_iload_n hx hb d_MO_size_15 rfl (lv_at hl 0 rfl) ?_
    refine lv_iconst (v := nI 4) hx hb d_MO_size_16 (by decide) ?_
    refine k_icmp_ge (tgt := 24) hx hb d_MO_size_17 (by decide) (by omega) (by omega) (fun h17 => ?_) (fun h17 => ?_)
    · refine lv_bipush (v := nI 8) hx hb d_MO_size_24 (by decide) ?_
      refine lv_iload_n hx hb d_MO_size_26 rfl (lv_at hl 0 rfl) ?_
      refine k_isub hx hb d_MO_size_27 (by omega) ?_
      refine lv_istore_n (lv' := [(2, .int (nI 1)), (1, .int (nI 7)), (0, .int (nI 7))]) hx hb d_MO_size_28 rfl hl (by decide) rfl (fun ls hl => ?_)
      refine lv_iload_n hx hb d_MO_size_29 rfl (lv_at hl 0 rfl) ?_
      refine k_if_ne (tgt := 39) hx hb d_MO_size_30 (by decide) (by omega) (fun h30 => ?_) (fun h30 => ?_)
      · refine lv_iload_n hx hb d_MO_size_39 rfl (lv_at hl 0 rfl) ?_
        refine lv_iconst (v := nI 1) hx hb d_MO_size_40 (by decide) ?_
        refine k_icmp_ne (tgt := 50) hx hb d_MO_size_41 (by decide) (by omega) (by omega) (fun h41 => ?_) (fun h41 => ?_)
        · exfalso; omega
        · refine lv_sipush (v := nI 15137) hx hb d_MO_size_44 (by decide) ?_
          refine lv_goto (tgt := 73) hx hb d_MO_size_47 (by decide) ?_
          rw [hQ]
          exact k_iret () hx hb hr hlk hK hP hD hS [] (by decide) rfl trivial rfl d_MO_size_73
      · exfalso; omega
    · exfalso; omega
set_option maxHeartbeats 4000000 in
set_option maxRecDepth 100000 in
theorem c_MO_size_8 (l : Launch) (D : va_G) (tc : Nat → ClassId) (tb : Nat → Nat) : Mi l D tc tb y_MO_size prog_10_method_2_code 3 (some .int) ({ frames := 0, cells := 0, slots := 0, locals := 0 }) [.int (nI 8)] [] (fun _ : Unit => True) (fun _ : Unit => szT 8) (fun _ : Unit => []) := by
  refine Mi.go (by decide) (Nat.le_of_ble_eq_true rfl) ?_
  intro p e s m below meth c A ls R args Q C
  obtain ⟨hx, hb, hr, hts, hown, hlk, hml, hin, hA, hST, hN, hK, hP, hD, hS, hl, hR, hQ⟩ := C
  have hw : ∀ w ∈ lw_g, w.before args s = true := fun w h => hts w (List.mem_cons_of_mem _ h)
  have hl : lv_has ls 3 [(0, .int (nI 8))] := hl
  refine lv_iload_n hx hb d_MO_size_0 rfl (lv_at hl 0 rfl) ?_
  refine lv_bipush (v := nI 8) hx hb d_MO_size_1 (by decide) ?_
  refine k_icmp_ge (tgt := 10) hx hb d_MO_size_3 (by decide) (by omega) (by omega) (fun h3 => ?_) (fun h3 => ?_)
  · refine lv_bipush (v := nI 16) hx hb d_MO_size_10 (by decide) ?_
    refine lv_iload_n hx hb d_MO_size_12 rfl (lv_at hl 0 rfl) ?_
    refine k_isub hx hb d_MO_size_13 (by omega) ?_
    refine lv_istore_n (lv' := [(1, .int (nI 8)), (0, .int (nI 8))]) hx hb d_MO_size_14 rfl hl (by decide) rfl (fun ls hl => ?_)
    refine lv_iload_n hx hb d_MO_size_15 rfl (lv_at hl 0 rfl) ?_
    refine lv_iconst (v := nI 4) hx hb d_MO_size_16 (by decide) ?_
    refine k_icmp_ge (tgt := 24) hx hb d_MO_size_17 (by decide) (by omega) (by omega) (fun h17 => ?_) (fun h17 => ?_)
    · refine lv_bipush (v := nI 8) hx hb d_MO_size_24 (by decide) ?_
      refine lv_iload_n hx hb d_MO_size_26 rfl (lv_at hl 0 rfl) ?_
      refine k_isub hx hb d_MO_size_27 (by omega) ?_
      refine lv_istore_n (lv' := [(2, .int (nI 0)), (1, .int (nI 8)), (0, .int (nI 8))]) hx hb d_MO_size_28 rfl hl (by decide) rfl (fun ls hl => ?_)
      refine lv_iload_n hx hb d_MO_size_29 rfl (lv_at hl 0 rfl) ?_
      refine k_if_ne (tgt := 39) hx hb d_MO_size_30 (by decide) (by omega) (fun h30 => ?_) (fun h30 => ?_)
      · exfalso; omega
      · refine lv_sipush (v := nI 16384) hx hb d_MO_size_33 (by decide) ?_
        refine lv_goto (tgt := 73) hx hb d_MO_size_36 (by decide) ?_
        rw [hQ]
        exact k_iret () hx hb hr hlk hK hP hD hS [] (by decide) rfl trivial rfl d_MO_size_73
    · exfalso; omega
  · exfalso; omega
set_option maxHeartbeats 4000000 in
set_option maxRecDepth 100000 in
theorem c_MO_size_9 (l : Launch) (D : va_G) (tc : Nat → ClassId) (tb : Nat → Nat) : Mi l D tc tb y_MO_size prog_10_method_2_code 3 (some .int) ({ frames := 0, cells := 0, slots := 0, locals := 0 }) [.int (nI 9)] [] (fun _ : Unit => True) (fun _ : Unit => szT 9) (fun _ : Unit => []) := by
  refine Mi.go (by decide) (Nat.le_of_ble_eq_true rfl) ?_
  intro p e s m below meth c A ls R args Q C
  obtain ⟨hx, hb, hr, hts, hown, hlk, hml, hin, hA, hST, hN, hK, hP, hD, hS, hl, hR, hQ⟩ := C
  have hw : ∀ w ∈ lw_g, w.before args s = true := fun w h => hts w (List.mem_cons_of_mem _ h)
  have hl : lv_has ls 3 [(0, .int (nI 9))] := hl
  refine lv_iload_n hx hb d_MO_size_0 rfl (lv_at hl 0 rfl) ?_
  refine lv_bipush (v := nI 8) hx hb d_MO_size_1 (by decide) ?_
  refine k_icmp_ge (tgt := 10) hx hb d_MO_size_3 (by decide) (by omega) (by omega) (fun h3 => ?_) (fun h3 => ?_)
  · refine lv_bipush (v := nI 16) hx hb d_MO_size_10 (by decide) ?_
    refine lv_iload_n hx hb d_MO_size_12 rfl (lv_at hl 0 rfl) ?_
    refine k_isub hx hb d_MO_size_13 (by omega) ?_
    refine lv_istore_n (lv' := [(1, .int (nI 7)), (0, .int (nI 9))]) hx hb d_MO_size_14 rfl hl (by decide) rfl (fun ls hl => ?_)
    refine lv_iload_n hx hb d_MO_size_15 rfl (lv_at hl 0 rfl) ?_
    refine lv_iconst (v := nI 4) hx hb d_MO_size_16 (by decide) ?_
    refine k_icmp_ge (tgt := 24) hx hb d_MO_size_17 (by decide) (by omega) (by omega) (fun h17 => ?_) (fun h17 => ?_)
    · refine lv_bipush (v := nI 8) hx hb d_MO_size_24 (by decide) ?_
      refine lv_iload_n hx hb d_MO_size_26 rfl (lv_at hl 0 rfl) ?_
      refine k_isub hx hb d_MO_size_27 (by omega) ?_
      refine lv_istore_n (lv' := [(2, .int (nI 1)), (1, .int (nI 7)), (0, .int (nI 9))]) hx hb d_MO_size_28 rfl hl (by decide) rfl (fun ls hl => ?_)
      refine lv_iload_n hx hb d_MO_size_29 rfl (lv_at hl 0 rfl) ?_
      refine k_if_ne (tgt := 39) hx hb d_MO_size_30 (by decide) (by omega) (fun h30 => ?_) (fun h30 => ?_)
      · refine lv_iload_n hx hb d_MO_size_39 rfl (lv_at hl 0 rfl) ?_
        refine lv_iconst (v := nI 1) hx hb d_MO_size_40 (by decide) ?_
        refine k_icmp_ne (tgt := 50) hx hb d_MO_size_41 (by decide) (by omega) (by omega) (fun h41 => ?_) (fun h41 => ?_)
        · exfalso; omega
        · refine lv_sipush (v := nI 15137) hx hb d_MO_size_44 (by decide) ?_
          refine lv_goto (tgt := 73) hx hb d_MO_size_47 (by decide) ?_
          rw [hQ]
          exact k_iret () hx hb hr hlk hK hP hD hS [] (by decide) rfl trivial rfl d_MO_size_73
      · exfalso; omega
    · exfalso; omega
  · exfalso; omega
set_option maxHeartbeats 4000000 in
set_option maxRecDepth 100000 in
theorem c_MO_size_10 (l : Launch) (D : va_G) (tc : Nat → ClassId) (tb : Nat → Nat) : Mi l D tc tb y_MO_size prog_10_method_2_code 3 (some .int) ({ frames := 0, cells := 0, slots := 0, locals := 0 }) [.int (nI 10)] [] (fun _ : Unit => True) (fun _ : Unit => szT 10) (fun _ : Unit => []) := by
  refine Mi.go (by decide) (Nat.le_of_ble_eq_true rfl) ?_
  intro p e s m below meth c A ls R args Q C
  obtain ⟨hx, hb, hr, hts, hown, hlk, hml, hin, hA, hST, hN, hK, hP, hD, hS, hl, hR, hQ⟩ := C
  have hw : ∀ w ∈ lw_g, w.before args s = true := fun w h => hts w (List.mem_cons_of_mem _ h)
  have hl : lv_has ls 3 [(0, .int (nI 10))] := hl
  refine lv_iload_n hx hb d_MO_size_0 rfl (lv_at hl 0 rfl) ?_
  refine lv_bipush (v := nI 8) hx hb d_MO_size_1 (by decide) ?_
  refine k_icmp_ge (tgt := 10) hx hb d_MO_size_3 (by decide) (by omega) (by omega) (fun h3 => ?_) (fun h3 => ?_)
  · refine lv_bipush (v := nI 16) hx hb d_MO_size_10 (by decide) ?_
    refine lv_iload_n hx hb d_MO_size_12 rfl (lv_at hl 0 rfl) ?_
    refine k_isub hx hb d_MO_size_13 (by omega) ?_
    refine lv_istore_n (lv' := [(1, .int (nI 6)), (0, .int (nI 10))]) hx hb d_MO_size_14 rfl hl (by decide) rfl (fun ls hl => ?_)
    refine lv_iload_n hx hb d_MO_size_15 rfl (lv_at hl 0 rfl) ?_
    refine lv_iconst (v := nI 4) hx hb d_MO_size_16 (by decide) ?_
    refine k_icmp_ge (tgt := 24) hx hb d_MO_size_17 (by decide) (by omega) (by omega) (fun h17 => ?_) (fun h17 => ?_)
    · refine lv_bipush (v := nI 8) hx hb d_MO_size_24 (by decide) ?_
      refine lv_iload_n hx hb d_MO_size_26 rfl (lv_at hl 0 rfl) ?_
      refine k_isub hx hb d_MO_size_27 (by omega) ?_
      refine lv_istore_n (lv' := [(2, .int (nI 2)), (1, .int (nI 6)), (0, .int (nI 10))]) hx hb d_MO_size_28 rfl hl (by decide) rfl (fun ls hl => ?_)
      refine lv_iload_n hx hb d_MO_size_29 rfl (lv_at hl 0 rfl) ?_
      refine k_if_ne (tgt := 39) hx hb d_MO_size_30 (by decide) (by omega) (fun h30 => ?_) (fun h30 => ?_)
      · refine lv_iload_n hx hb d_MO_size_39 rfl (lv_at hl 0 rfl) ?_
        refine lv_iconst (v := nI 1) hx hb d_MO_size_40 (by decide) ?_
        refine k_icmp_ne (tgt := 50) hx hb d_MO_size_41 (by decide) (by omega) (by omega) (fun h41 => ?_) (fun h41 => ?_)
        · refine lv_iload_n hx hb d_MO_size_50 rfl (lv_at hl 0 rfl) ?_
          refine lv_iconst (v := nI 2) hx hb d_MO_size_51 (by decide) ?_
          refine k_icmp_ne (tgt := 61) hx hb d_MO_size_52 (by decide) (by omega) (by omega) (fun h52 => ?_) (fun h52 => ?_)
          · exfalso; omega
          · refine lv_sipush (v := nI 11585) hx hb d_MO_size_55 (by decide) ?_
            refine lv_goto (tgt := 73) hx hb d_MO_size_58 (by decide) ?_
            rw [hQ]
            exact k_iret () hx hb hr hlk hK hP hD hS [] (by decide) rfl trivial rfl d_MO_size_73
        · exfalso; omega
      · exfalso; omega
    · exfalso; omega
  · exfalso; omega
set_option maxHeartbeats 4000000 in
set_option maxRecDepth 100000 in
theorem c_MO_size_11 (l : Launch) (D : va_G) (tc : Nat → ClassId) (tb : Nat → Nat) : Mi l D tc tb y_MO_size prog_10_method_2_code 3 (some .int) ({ frames := 0, cells := 0, slots := 0, locals := 0 }) [.int (nI 11)] [] (fun _ : Unit => True) (fun _ : Unit => szT 11) (fun _ : Unit => []) := by
  refine Mi.go (by decide) (Nat.le_of_ble_eq_true rfl) ?_
  intro p e s m below meth c A ls R args Q C
  obtain ⟨hx, hb, hr, hts, hown, hlk, hml, hin, hA, hST, hN, hK, hP, hD, hS, hl, hR, hQ⟩ := C
  have hw : ∀ w ∈ lw_g, w.before args s = true := fun w h => hts w (List.mem_cons_of_mem _ h)
  have hl : lv_has ls 3 [(0, .int (nI 11))] := hl
  refine lv_iload_n hx hb d_MO_size_0 rfl (lv_at hl 0 rfl) ?_
  refine lv_bipush (v := nI 8) hx hb d_MO_size_1 (by decide) ?_
  refine k_icmp_ge (tgt := 10) hx hb d_MO_size_3 (by decide) (by omega) (by omega) (fun h3 => ?_) (fun h3 => ?_)
  · refine lv_bipush (v := nI 16) hx hb d_MO_size_10 (by decide) ?_
    refine lv_iload_n hx hb d_MO_size_12 rfl (lv_at hl 0 rfl) ?_
    refine k_isub hx hb d_MO_size_13 (by omega) ?_
    refine lv_istore_n (lv' := [(1, .int (nI 5)), (0, .int (nI 11))]) hx hb d_MO_size_14 rfl hl (by decide) rfl (fun ls hl => ?_)
    refine lv_iload_n hx hb d_MO_size_15 rfl (lv_at hl 0 rfl) ?_
    refine lv_iconst (v := nI 4) hx hb d_MO_size_16 (by decide) ?_
    refine k_icmp_ge (tgt := 24) hx hb d_MO_size_17 (by decide) (by omega) (by omega) (fun h17 => ?_) (fun h17 => ?_)
    · refine lv_bipush (v := nI 8) hx hb d_MO_size_24 (by decide) ?_
      refine lv_iload_n hx hb d_MO_size_26 rfl (lv_at hl 0 rfl) ?_
      refine k_isub hx hb d_MO_size_27 (by omega) ?_
      refine lv_istore_n (lv' := [(2, .int (nI 3)), (1, .int (nI 5)), (0, .int (nI 11))]) hx hb d_MO_size_28 rfl hl (by decide) rfl (fun ls hl => ?_)
      refine lv_iload_n hx hb d_MO_size_29 rfl (lv_at hl 0 rfl) ?_
      refine k_if_ne (tgt := 39) hx hb d_MO_size_30 (by decide) (by omega) (fun h30 => ?_) (fun h30 => ?_)
      · refine lv_iload_n hx hb d_MO_size_39 rfl (lv_at hl 0 rfl) ?_
        refine lv_iconst (v := nI 1) hx hb d_MO_size_40 (by decide) ?_
        refine k_icmp_ne (tgt := 50) hx hb d_MO_size_41 (by decide) (by omega) (by omega) (fun h41 => ?_) (fun h41 => ?_)
        · refine lv_iload_n hx hb d_MO_size_50 rfl (lv_at hl 0 rfl) ?_
          refine lv_iconst (v := nI 2) hx hb d_MO_size_51 (by decide) ?_
          refine k_icmp_ne (tgt := 61) hx hb d_MO_size_52 (by decide) (by omega) (by omega) (fun h52 => ?_) (fun h52 => ?_)
          · refine lv_iload_n hx hb d_MO_size_61 rfl (lv_at hl 0 rfl) ?_
            refine lv_iconst (v := nI 3) hx hb d_MO_size_62 (by decide) ?_
            refine k_icmp_ne (tgt := 72) hx hb d_MO_size_63 (by decide) (by omega) (by omega) (fun h63 => ?_) (fun h63 => ?_)
            · exfalso; omega
            · refine lv_sipush (v := nI 6270) hx hb d_MO_size_66 (by decide) ?_
              refine lv_goto (tgt := 73) hx hb d_MO_size_69 (by decide) ?_
              rw [hQ]
              exact k_iret () hx hb hr hlk hK hP hD hS [] (by decide) rfl trivial rfl d_MO_size_73
          · exfalso; omega
        · exfalso; omega
      · exfalso; omega
    · exfalso; omega
  · exfalso; omega
set_option maxHeartbeats 4000000 in
set_option maxRecDepth 100000 in
theorem c_MO_size_12 (l : Launch) (D : va_G) (tc : Nat → ClassId) (tb : Nat → Nat) : Mi l D tc tb y_MO_size prog_10_method_2_code 3 (some .int) ({ frames := 0, cells := 0, slots := 0, locals := 0 }) [.int (nI 12)] [] (fun _ : Unit => True) (fun _ : Unit => szT 12) (fun _ : Unit => []) := by
  refine Mi.go (by decide) (Nat.le_of_ble_eq_true rfl) ?_
  intro p e s m below meth c A ls R args Q C
  obtain ⟨hx, hb, hr, hts, hown, hlk, hml, hin, hA, hST, hN, hK, hP, hD, hS, hl, hR, hQ⟩ := C
  have hw : ∀ w ∈ lw_g, w.before args s = true := fun w h => hts w (List.mem_cons_of_mem _ h)
  have hl : lv_has ls 3 [(0, .int (nI 12))] := hl
  refine lv_iload_n hx hb d_MO_size_0 rfl (lv_at hl 0 rfl) ?_
  refine lv_bipush (v := nI 8) hx hb d_MO_size_1 (by decide) ?_
  refine k_icmp_ge (tgt := 10) hx hb d_MO_size_3 (by decide) (by omega) (by omega) (fun h3 => ?_) (fun h3 => ?_)
  · refine lv_bipush (v := nI 16) hx hb d_MO_size_10 (by decide) ?_
    refine lv_iload_n hx hb d_MO_size_12 rfl (lv_at hl 0 rfl) ?_
    refine k_isub hx hb d_MO_size_13 (by omega) ?_
    refine lv_istore_n (lv' := [(1, .int (nI 4)), (0, .int (nI 12))]) hx hb d_MO_size_14 rfl hl (by decide) rfl (fun ls hl => ?_)
    refine lv_iload_n hx hb d_MO_size_15 rfl (lv_at hl 0 rfl) ?_
    refine lv_iconst (v := nI 4) hx hb d_MO_size_16 (by decide) ?_
    refine k_icmp_ge (tgt := 24) hx hb d_MO_size_17 (by decide) (by omega) (by omega) (fun h17 => ?_) (fun h17 => ?_)
    · refine lv_bipush (v := nI 8) hx hb d_MO_size_24 (by decide) ?_
      refine lv_iload_n hx hb d_MO_size_26 rfl (lv_at hl 0 rfl) ?_
      refine k_isub hx hb d_MO_size_27 (by omega) ?_
      refine lv_istore_n (lv' := [(2, .int (nI 4)), (1, .int (nI 4)), (0, .int (nI 12))]) hx hb d_MO_size_28 rfl hl (by decide) rfl (fun ls hl => ?_)
      refine lv_iload_n hx hb d_MO_size_29 rfl (lv_at hl 0 rfl) ?_
      refine k_if_ne (tgt := 39) hx hb d_MO_size_30 (by decide) (by omega) (fun h30 => ?_) (fun h30 => ?_)
      · refine lv_iload_n hx hb d_MO_size_39 rfl (lv_at hl 0 rfl) ?_
        refine lv_iconst (v := nI 1) hx hb d_MO_size_40 (by decide) ?_
        refine k_icmp_ne (tgt := 50) hx hb d_MO_size_41 (by decide) (by omega) (by omega) (fun h41 => ?_) (fun h41 => ?_)
        · refine lv_iload_n hx hb d_MO_size_50 rfl (lv_at hl 0 rfl) ?_
          refine lv_iconst (v := nI 2) hx hb d_MO_size_51 (by decide) ?_
          refine k_icmp_ne (tgt := 61) hx hb d_MO_size_52 (by decide) (by omega) (by omega) (fun h52 => ?_) (fun h52 => ?_)
          · refine lv_iload_n hx hb d_MO_size_61 rfl (lv_at hl 0 rfl) ?_
            refine lv_iconst (v := nI 3) hx hb d_MO_size_62 (by decide) ?_
            refine k_icmp_ne (tgt := 72) hx hb d_MO_size_63 (by decide) (by omega) (by omega) (fun h63 => ?_) (fun h63 => ?_)
            · refine lv_iconst (v := nI 0) hx hb d_MO_size_72 (by decide) ?_
              rw [hQ]
              exact k_iret () hx hb hr hlk hK hP hD hS [] (by decide) rfl trivial rfl d_MO_size_73
            · exfalso; omega
          · exfalso; omega
        · exfalso; omega
      · exfalso; omega
    · exfalso; omega
  · exfalso; omega
set_option maxHeartbeats 4000000 in
set_option maxRecDepth 100000 in
theorem c_MO_size_13 (l : Launch) (D : va_G) (tc : Nat → ClassId) (tb : Nat → Nat) : Mi l D tc tb y_MO_size prog_10_method_2_code 3 (some .int) ({ frames := 0, cells := 0, slots := 0, locals := 0 }) [.int (nI 13)] [] (fun _ : Unit => True) (fun _ : Unit => szT 13) (fun _ : Unit => []) := by
  refine Mi.go (by decide) (Nat.le_of_ble_eq_true rfl) ?_
  intro p e s m below meth c A ls R args Q C
  obtain ⟨hx, hb, hr, hts, hown, hlk, hml, hin, hA, hST, hN, hK, hP, hD, hS, hl, hR, hQ⟩ := C
  have hw : ∀ w ∈ lw_g, w.before args s = true := fun w h => hts w (List.mem_cons_of_mem _ h)
  have hl : lv_has ls 3 [(0, .int (nI 13))] := hl
  refine lv_iload_n hx hb d_MO_size_0 rfl (lv_at hl 0 rfl) ?_
  refine lv_bipush (v := nI 8) hx hb d_MO_size_1 (by decide) ?_
  refine k_icmp_ge (tgt := 10) hx hb d_MO_size_3 (by decide) (by omega) (by omega) (fun h3 => ?_) (fun h3 => ?_)
  · refine lv_bipush (v := nI 16) hx hb d_MO_size_10 (by decide) ?_
    refine lv_iload_n hx hb d_MO_size_12 rfl (lv_at hl 0 rfl) ?_
    refine k_isub hx hb d_MO_size_13 (by omega) ?_
    refine lv_istore_n (lv' := [(1, .int (nI 3)), (0, .int (nI 13))]) hx hb d_MO_size_14 rfl hl (by decide) rfl (fun ls hl => ?_)
    refine lv_iload_n hx hb d_MO_size_15 rfl (lv_at hl 0 rfl) ?_
    refine lv_iconst (v := nI 4) hx hb d_MO_size_16 (by decide) ?_
    refine k_icmp_ge (tgt := 24) hx hb d_MO_size_17 (by decide) (by omega) (by omega) (fun h17 => ?_) (fun h17 => ?_)
    · exfalso; omega
    · refine lv_iload_n hx hb d_MO_size_20 rfl (lv_at hl 0 rfl) ?_
      refine lv_goto (tgt := 28) hx hb d_MO_size_21 (by decide) ?_
      refine lv_istore_n (lv' := [(2, .int (nI 3)), (1, .int (nI 3)), (0, .int (nI 13))]) hx hb d_MO_size_28 rfl hl (by decide) rfl (fun ls hl => ?_)
      refine lv_iload_n hx hb d_MO_size_29 rfl (lv_at hl 0 rfl) ?_
      refine k_if_ne (tgt := 39) hx hb d_MO_size_30 (by decide) (by omega) (fun h30 => ?_) (fun h30 => ?_)
      · refine lv_iload_n hx hb d_MO_size_39 rfl (lv_at hl 0 rfl) ?_
        refine lv_iconst (v := nI 1) hx hb d_MO_size_40 (by decide) ?_
        refine k_icmp_ne (tgt := 50) hx hb d_MO_size_41 (by decide) (by omega) (by omega) (fun h41 => ?_) (fun h41 => ?_)
        · refine lv_iload_n hx hb d_MO_size_50 rfl (lv_at hl 0 rfl) ?_
          refine lv_iconst (v := nI 2) hx hb d_MO_size_51 (by decide) ?_
          refine k_icmp_ne (tgt := 61) hx hb d_MO_size_52 (by decide) (by omega) (by omega) (fun h52 => ?_) (fun h52 => ?_)
          · refine lv_iload_n hx hb d_MO_size_61 rfl (lv_at hl 0 rfl) ?_
            refine lv_iconst (v := nI 3) hx hb d_MO_size_62 (by decide) ?_
            refine k_icmp_ne (tgt := 72) hx hb d_MO_size_63 (by decide) (by omega) (by omega) (fun h63 => ?_) (fun h63 => ?_)
            · exfalso; omega
            · refine lv_sipush (v := nI 6270) hx hb d_MO_size_66 (by decide) ?_
              refine lv_goto (tgt := 73) hx hb d_MO_size_69 (by decide) ?_
              rw [hQ]
              exact k_iret () hx hb hr hlk hK hP hD hS [] (by decide) rfl trivial rfl d_MO_size_73
          · exfalso; omega
        · exfalso; omega
      · exfalso; omega
  · exfalso; omega
set_option maxHeartbeats 4000000 in
set_option maxRecDepth 100000 in
theorem c_MO_size_14 (l : Launch) (D : va_G) (tc : Nat → ClassId) (tb : Nat → Nat) : Mi l D tc tb y_MO_size prog_10_method_2_code 3 (some .int) ({ frames := 0, cells := 0, slots := 0, locals := 0 }) [.int (nI 14)] [] (fun _ : Unit => True) (fun _ : Unit => szT 14) (fun _ : Unit => []) := by
  refine Mi.go (by decide) (Nat.le_of_ble_eq_true rfl) ?_
  intro p e s m below meth c A ls R args Q C
  obtain ⟨hx, hb, hr, hts, hown, hlk, hml, hin, hA, hST, hN, hK, hP, hD, hS, hl, hR, hQ⟩ := C
  have hw : ∀ w ∈ lw_g, w.before args s = true := fun w h => hts w (List.mem_cons_of_mem _ h)
  have hl : lv_has ls 3 [(0, .int (nI 14))] := hl
  refine lv_iload_n hx hb d_MO_size_0 rfl (lv_at hl 0 rfl) ?_
  refine lv_bipush (v := nI 8) hx hb d_MO_size_1 (by decide) ?_
  refine k_icmp_ge (tgt := 10) hx hb d_MO_size_3 (by decide) (by omega) (by omega) (fun h3 => ?_) (fun h3 => ?_)
  · refine lv_bipush (v := nI 16) hx hb d_MO_size_10 (by decide) ?_
    refine lv_iload_n hx hb d_MO_size_12 rfl (lv_at hl 0 rfl) ?_
    refine k_isub hx hb d_MO_size_13 (by omega) ?_
    refine lv_istore_n (lv' := [(1, .int (nI 2)), (0, .int (nI 14))]) hx hb d_MO_size_14 rfl hl (by decide) rfl (fun ls hl => ?_)
    refine lv_iload_n hx hb d_MO_size_15 rfl (lv_at hl 0 rfl) ?_
    refine lv_iconst (v := nI 4) hx hb d_MO_size_16 (by decide) ?_
    refine k_icmp_ge (tgt := 24) hx hb d_MO_size_17 (by decide) (by omega) (by omega) (fun h17 => ?_) (fun h17 => ?_)
    · exfalso; omega
    · refine lv_iload_n hx hb d_MO_size_20 rfl (lv_at hl 0 rfl) ?_
      refine lv_goto (tgt := 28) hx hb d_MO_size_21 (by decide) ?_
      refine lv_istore_n (lv' := [(2, .int (nI 2)), (1, .int (nI 2)), (0, .int (nI 14))]) hx hb d_MO_size_28 rfl hl (by decide) rfl (fun ls hl => ?_)
      refine lv_iload_n hx hb d_MO_size_29 rfl (lv_at hl 0 rfl) ?_
      refine k_if_ne (tgt := 39) hx hb d_MO_size_30 (by decide) (by omega) (fun h30 => ?_) (fun h30 => ?_)
      · refine lv_iload_n hx hb d_MO_size_39 rfl (lv_at hl 0 rfl) ?_
        refine lv_iconst (v := nI 1) hx hb d_MO_size_40 (by decide) ?_
        refine k_icmp_ne (tgt := 50) hx hb d_MO_size_41 (by decide) (by omega) (by omega) (fun h41 => ?_) (fun h41 => ?_)
        · refine lv_iload_n hx hb d_MO_size_50 rfl (lv_at hl 0 rfl) ?_
          refine lv_iconst (v := nI 2) hx hb d_MO_size_51 (by decide) ?_
          refine k_icmp_ne (tgt := 61) hx hb d_MO_size_52 (by decide) (by omega) (by omega) (fun h52 => ?_) (fun h52 => ?_)
          · exfalso; omega
          · refine lv_sipush (v := nI 11585) hx hb d_MO_size_55 (by decide) ?_
            refine lv_goto (tgt := 73) hx hb d_MO_size_58 (by decide) ?_
            rw [hQ]
            exact k_iret () hx hb hr hlk hK hP hD hS [] (by decide) rfl trivial rfl d_MO_size_73
        · exfalso; omega
      · exfalso; omega
  · exfalso; omega
set_option maxHeartbeats 4000000 in
set_option maxRecDepth 100000 in
theorem c_MO_size_15 (l : Launch) (D : va_G) (tc : Nat → ClassId) (tb : Nat → Nat) : Mi l D tc tb y_MO_size prog_10_method_2_code 3 (some .int) ({ frames := 0, cells := 0, slots := 0, locals := 0 }) [.int (nI 15)] [] (fun _ : Unit => True) (fun _ : Unit => szT 15) (fun _ : Unit => []) := by
  refine Mi.go (by decide) (Nat.le_of_ble_eq_true rfl) ?_
  intro p e s m below meth c A ls R args Q C
  obtain ⟨hx, hb, hr, hts, hown, hlk, hml, hin, hA, hST, hN, hK, hP, hD, hS, hl, hR, hQ⟩ := C
  have hw : ∀ w ∈ lw_g, w.before args s = true := fun w h => hts w (List.mem_cons_of_mem _ h)
  have hl : lv_has ls 3 [(0, .int (nI 15))] := hl
  refine lv_iload_n hx hb d_MO_size_0 rfl (lv_at hl 0 rfl) ?_
  refine lv_bipush (v := nI 8) hx hb d_MO_size_1 (by decide) ?_
  refine k_icmp_ge (tgt := 10) hx hb d_MO_size_3 (by decide) (by omega) (by omega) (fun h3 => ?_) (fun h3 => ?_)
  · refine lv_bipush (v := nI 16) hx hb d_MO_size_10 (by decide) ?_
    refine lv_iload_n hx hb d_MO_size_12 rfl (lv_at hl 0 rfl) ?_
    refine k_isub hx hb d_MO_size_13 (by omega) ?_
    refine lv_istore_n (lv' := [(1, .int (nI 1)), (0, .int (nI 15))]) hx hb d_MO_size_14 rfl hl (by decide) rfl (fun ls hl => ?_)
    refine lv_iload_n hx hb d_MO_size_15 rfl (lv_at hl 0 rfl) ?_
    refine lv_iconst (v := nI 4) hx hb d_MO_size_16 (by decide) ?_
    refine k_icmp_ge (tgt := 24) hx hb d_MO_size_17 (by decide) (by omega) (by omega) (fun h17 => ?_) (fun h17 => ?_)
    · exfalso; omega
    · refine lv_iload_n hx hb d_MO_size_20 rfl (lv_at hl 0 rfl) ?_
      refine lv_goto (tgt := 28) hx hb d_MO_size_21 (by decide) ?_
      refine lv_istore_n (lv' := [(2, .int (nI 1)), (1, .int (nI 1)), (0, .int (nI 15))]) hx hb d_MO_size_28 rfl hl (by decide) rfl (fun ls hl => ?_)
      refine lv_iload_n hx hb d_MO_size_29 rfl (lv_at hl 0 rfl) ?_
      refine k_if_ne (tgt := 39) hx hb d_MO_size_30 (by decide) (by omega) (fun h30 => ?_) (fun h30 => ?_)
      · refine lv_iload_n hx hb d_MO_size_39 rfl (lv_at hl 0 rfl) ?_
        refine lv_iconst (v := nI 1) hx hb d_MO_size_40 (by decide) ?_
        refine k_icmp_ne (tgt := 50) hx hb d_MO_size_41 (by decide) (by omega) (by omega) (fun h41 => ?_) (fun h41 => ?_)
        · exfalso; omega
        · refine lv_sipush (v := nI 15137) hx hb d_MO_size_44 (by decide) ?_
          refine lv_goto (tgt := 73) hx hb d_MO_size_47 (by decide) ?_
          rw [hQ]
          exact k_iret () hx hb hr hlk hK hP hD hS [] (by decide) rfl trivial rfl d_MO_size_73
      · exfalso; omega
  · exfalso; omega
theorem c_MO_size (l : Launch) (D : va_G) (tc : Nat → ClassId) (tb : Nat → Nat) (k : Nat) (hw_ : k < 16) : Mi l D tc tb y_MO_size prog_10_method_2_code 3 (some .int) ({ frames := 0, cells := 0, slots := 0, locals := 0 }) [.int (nI k)] [] (fun _ : Unit => True) (fun _ : Unit => szT k) (fun _ : Unit => []) := by
  rcases (show k = 0 ∨ k = 1 ∨ k = 2 ∨ k = 3 ∨ k = 4 ∨ k = 5 ∨ k = 6 ∨ k = 7 ∨ k = 8 ∨ k = 9 ∨ k = 10 ∨ k = 11 ∨ k = 12 ∨ k = 13 ∨ k = 14 ∨ k = 15 by omega) with rfl | rfl | rfl | rfl | rfl | rfl | rfl | rfl | rfl | rfl | rfl | rfl | rfl | rfl | rfl | rfl
  · exact c_MO_size_0 l D tc tb
  · exact c_MO_size_1 l D tc tb
  · exact c_MO_size_2 l D tc tb
  · exact c_MO_size_3 l D tc tb
  · exact c_MO_size_4 l D tc tb
  · exact c_MO_size_5 l D tc tb
  · exact c_MO_size_6 l D tc tb
  · exact c_MO_size_7 l D tc tb
  · exact c_MO_size_8 l D tc tb
  · exact c_MO_size_9 l D tc tb
  · exact c_MO_size_10 l D tc tb
  · exact c_MO_size_11 l D tc tb
  · exact c_MO_size_12 l D tc tb
  · exact c_MO_size_13 l D tc tb
  · exact c_MO_size_14 l D tc tb
  · exact c_MO_size_15 l D tc tb
set_option maxHeartbeats 4000000 in
set_option maxRecDepth 100000 in
theorem c_MO_trained_0 (l : Launch) (D : va_G) (tc : Nat → ClassId) (tb : Nat → Nat) : Mi l D tc tb y_MO_trained prog_10_method_8_code 2 (some .int) ({ frames := 0, cells := 0, slots := 0, locals := 0 }) [.int (nI 0)] [] (fun _ : Unit => True) (fun _ : Unit => tsgT 0) (fun _ : Unit => []) := by
  refine Mi.go (by decide) (Nat.le_of_ble_eq_true rfl) ?_
  intro p e s m below meth c A ls R args Q C
  obtain ⟨hx, hb, hr, hts, hown, hlk, hml, hin, hA, hST, hN, hK, hP, hD, hS, hl, hR, hQ⟩ := C
  have hw : ∀ w ∈ lw_g, w.before args s = true := fun w h => hts w (List.mem_cons_of_mem _ h)
  have hl : lv_has ls 2 [(0, .int (nI 0))] := hl
  refine lv_iload_n hx hb d_MO_trained_0 rfl (lv_at hl 0 rfl) ?_
  refine k_if_eq (tgt := 10) hx hb d_MO_trained_1 (by decide) (by omega) (fun h1 => ?_) (fun h1 => ?_)
  · refine lv_iconst (v := nI 0) hx hb d_MO_trained_10 (by decide) ?_
    rw [hQ]
    exact k_iret () hx hb hr hlk hK hP hD hS [] (by decide) rfl trivial rfl d_MO_trained_11
  · exfalso; omega
set_option maxHeartbeats 4000000 in
set_option maxRecDepth 100000 in
theorem c_MO_trained_1 (l : Launch) (D : va_G) (tc : Nat → ClassId) (tb : Nat → Nat) : Mi l D tc tb y_MO_trained prog_10_method_8_code 2 (some .int) ({ frames := 0, cells := 0, slots := 0, locals := 0 }) [.int (nI 1)] [] (fun _ : Unit => True) (fun _ : Unit => tsgT 1) (fun _ : Unit => []) := by
  refine Mi.go (by decide) (Nat.le_of_ble_eq_true rfl) ?_
  intro p e s m below meth c A ls R args Q C
  obtain ⟨hx, hb, hr, hts, hown, hlk, hml, hin, hA, hST, hN, hK, hP, hD, hS, hl, hR, hQ⟩ := C
  have hw : ∀ w ∈ lw_g, w.before args s = true := fun w h => hts w (List.mem_cons_of_mem _ h)
  have hl : lv_has ls 2 [(0, .int (nI 1))] := hl
  refine lv_iload_n hx hb d_MO_trained_0 rfl (lv_at hl 0 rfl) ?_
  refine k_if_eq (tgt := 10) hx hb d_MO_trained_1 (by decide) (by omega) (fun h1 => ?_) (fun h1 => ?_)
  · exfalso; omega
  · refine lv_iload_n hx hb d_MO_trained_4 rfl (lv_at hl 0 rfl) ?_
    refine lv_bipush (v := nI 8) hx hb d_MO_trained_5 (by decide) ?_
    refine k_icmp_ne (tgt := 12) hx hb d_MO_trained_7 (by decide) (by omega) (by omega) (fun h7 => ?_) (fun h7 => ?_)
    · refine lv_iload_n hx hb d_MO_trained_12 rfl (lv_at hl 0 rfl) ?_
      refine lv_bipush (v := nI 8) hx hb d_MO_trained_13 (by decide) ?_
      refine k_icmp_ge (tgt := 24) hx hb d_MO_trained_15 (by decide) (by omega) (by omega) (fun h15 => ?_) (fun h15 => ?_)
      · exfalso; omega
      · refine lv_iload_n hx hb d_MO_trained_18 rfl (lv_at hl 0 rfl) ?_
        refine lv_iconst (v := nI 1) hx hb d_MO_trained_19 (by decide) ?_
        refine k_isub hx hb d_MO_trained_20 (by omega) ?_
        refine lv_goto (tgt := 27) hx hb d_MO_trained_21 (by decide) ?_
        refine lv_istore_n (lv' := [(1, .int (nI 0)), (0, .int (nI 1))]) hx hb d_MO_trained_27 rfl hl (by decide) rfl (fun ls hl => ?_)
        refine lv_iload_n hx hb d_MO_trained_28 rfl (lv_at hl 0 rfl) ?_
        refine lv_iconst (v := nI 1) hx hb d_MO_trained_29 (by decide) ?_
        refine k_icmp_eq (tgt := 55) hx hb d_MO_trained_30 (by decide) (by omega) (by omega) (fun h30 => ?_) (fun h30 => ?_)
        · exfalso; omega
        · refine lv_iload_n hx hb d_MO_trained_33 rfl (lv_at hl 0 rfl) ?_
          refine lv_iconst (v := nI 4) hx hb d_MO_trained_34 (by decide) ?_
          refine k_icmp_eq (tgt := 55) hx hb d_MO_trained_35 (by decide) (by omega) (by omega) (fun h35 => ?_) (fun h35 => ?_)
          · exfalso; omega
          · refine lv_iload_n hx hb d_MO_trained_38 rfl (lv_at hl 0 rfl) ?_
            refine lv_iconst (v := nI 5) hx hb d_MO_trained_39 (by decide) ?_
            refine k_icmp_eq (tgt := 55) hx hb d_MO_trained_40 (by decide) (by omega) (by omega) (fun h40 => ?_) (fun h40 => ?_)
            · exfalso; omega
            · refine lv_iload_n hx hb d_MO_trained_43 rfl (lv_at hl 0 rfl) ?_
              refine lv_bipush (v := nI 9) hx hb d_MO_trained_44 (by decide) ?_
              refine k_icmp_eq (tgt := 55) hx hb d_MO_trained_46 (by decide) (by omega) (by omega) (fun h46 => ?_) (fun h46 => ?_)
              · exfalso; omega
              · refine lv_iload_n hx hb d_MO_trained_49 rfl (lv_at hl 0 rfl) ?_
                refine lv_bipush (v := nI 11) hx hb d_MO_trained_50 (by decide) ?_
                refine k_icmp_ne (tgt := 59) hx hb d_MO_trained_52 (by decide) (by omega) (by omega) (fun h52 => ?_) (fun h52 => ?_)
                · refine lv_iconst (v := nI 1) hx hb d_MO_trained_59 (by decide) ?_
                  rw [hQ]
                  exact k_iret () hx hb hr hlk hK hP hD hS [] (by decide) rfl trivial rfl d_MO_trained_60
                · exfalso; omega
    · exfalso; omega
set_option maxHeartbeats 4000000 in
set_option maxRecDepth 100000 in
theorem c_MO_trained_2 (l : Launch) (D : va_G) (tc : Nat → ClassId) (tb : Nat → Nat) : Mi l D tc tb y_MO_trained prog_10_method_8_code 2 (some .int) ({ frames := 0, cells := 0, slots := 0, locals := 0 }) [.int (nI 2)] [] (fun _ : Unit => True) (fun _ : Unit => tsgT 2) (fun _ : Unit => []) := by
  refine Mi.go (by decide) (Nat.le_of_ble_eq_true rfl) ?_
  intro p e s m below meth c A ls R args Q C
  obtain ⟨hx, hb, hr, hts, hown, hlk, hml, hin, hA, hST, hN, hK, hP, hD, hS, hl, hR, hQ⟩ := C
  have hw : ∀ w ∈ lw_g, w.before args s = true := fun w h => hts w (List.mem_cons_of_mem _ h)
  have hl : lv_has ls 2 [(0, .int (nI 2))] := hl
  refine lv_iload_n hx hb d_MO_trained_0 rfl (lv_at hl 0 rfl) ?_
  refine k_if_eq (tgt := 10) hx hb d_MO_trained_1 (by decide) (by omega) (fun h1 => ?_) (fun h1 => ?_)
  · exfalso; omega
  · refine lv_iload_n hx hb d_MO_trained_4 rfl (lv_at hl 0 rfl) ?_
    refine lv_bipush (v := nI 8) hx hb d_MO_trained_5 (by decide) ?_
    refine k_icmp_ne (tgt := 12) hx hb d_MO_trained_7 (by decide) (by omega) (by omega) (fun h7 => ?_) (fun h7 => ?_)
    · refine lv_iload_n hx hb d_MO_trained_12 rfl (lv_at hl 0 rfl) ?_
      refine lv_bipush (v := nI 8) hx hb d_MO_trained_13 (by decide) ?_
      refine k_icmp_ge (tgt := 24) hx hb d_MO_trained_15 (by decide) (by omega) (by omega) (fun h15 => ?_) (fun h15 => ?_)
      · exfalso; omega
      · refine lv_iload_n hx hb d_MO_trained_18 rfl (lv_at hl 0 rfl) ?_
        refine lv_iconst (v := nI 1) hx hb d_MO_trained_19 (by decide) ?_
        refine k_isub hx hb d_MO_trained_20 (by omega) ?_
        refine lv_goto (tgt := 27) hx hb d_MO_trained_21 (by decide) ?_
        refine lv_istore_n (lv' := [(1, .int (nI 1)), (0, .int (nI 2))]) hx hb d_MO_trained_27 rfl hl (by decide) rfl (fun ls hl => ?_)
        refine lv_iload_n hx hb d_MO_trained_28 rfl (lv_at hl 0 rfl) ?_
        refine lv_iconst (v := nI 1) hx hb d_MO_trained_29 (by decide) ?_
        refine k_icmp_eq (tgt := 55) hx hb d_MO_trained_30 (by decide) (by omega) (by omega) (fun h30 => ?_) (fun h30 => ?_)
        · refine lv_iconst (v := -1) hx hb d_MO_trained_55 (by decide) ?_
          refine lv_goto (tgt := 60) hx hb d_MO_trained_56 (by decide) ?_
          rw [hQ]
          exact k_iret () hx hb hr hlk hK hP hD hS [] (by decide) rfl trivial rfl d_MO_trained_60
        · exfalso; omega
    · exfalso; omega
set_option maxHeartbeats 4000000 in
set_option maxRecDepth 100000 in
theorem c_MO_trained_3 (l : Launch) (D : va_G) (tc : Nat → ClassId) (tb : Nat → Nat) : Mi l D tc tb y_MO_trained prog_10_method_8_code 2 (some .int) ({ frames := 0, cells := 0, slots := 0, locals := 0 }) [.int (nI 3)] [] (fun _ : Unit => True) (fun _ : Unit => tsgT 3) (fun _ : Unit => []) := by
  refine Mi.go (by decide) (Nat.le_of_ble_eq_true rfl) ?_
  intro p e s m below meth c A ls R args Q C
  obtain ⟨hx, hb, hr, hts, hown, hlk, hml, hin, hA, hST, hN, hK, hP, hD, hS, hl, hR, hQ⟩ := C
  have hw : ∀ w ∈ lw_g, w.before args s = true := fun w h => hts w (List.mem_cons_of_mem _ h)
  have hl : lv_has ls 2 [(0, .int (nI 3))] := hl
  refine lv_iload_n hx hb d_MO_trained_0 rfl (lv_at hl 0 rfl) ?_
  refine k_if_eq (tgt := 10) hx hb d_MO_trained_1 (by decide) (by omega) (fun h1 => ?_) (fun h1 => ?_)
  · exfalso; omega
  · refine lv_iload_n hx hb d_MO_trained_4 rfl (lv_at hl 0 rfl) ?_
    refine lv_bipush (v := nI 8) hx hb d_MO_trained_5 (by decide) ?_
    refine k_icmp_ne (tgt := 12) hx hb d_MO_trained_7 (by decide) (by omega) (by omega) (fun h7 => ?_) (fun h7 => ?_)
    · refine lv_iload_n hx hb d_MO_trained_12 rfl (lv_at hl 0 rfl) ?_
      refine lv_bipush (v := nI 8) hx hb d_MO_trained_13 (by decide) ?_
      refine k_icmp_ge (tgt := 24) hx hb d_MO_trained_15 (by decide) (by omega) (by omega) (fun h15 => ?_) (fun h15 => ?_)
      · exfalso; omega
      · refine lv_iload_n hx hb d_MO_trained_18 rfl (lv_at hl 0 rfl) ?_
        refine lv_iconst (v := nI 1) hx hb d_MO_trained_19 (by decide) ?_
        refine k_isub hx hb d_MO_trained_20 (by omega) ?_
        refine lv_goto (tgt := 27) hx hb d_MO_trained_21 (by decide) ?_
        refine lv_istore_n (lv' := [(1, .int (nI 2)), (0, .int (nI 3))]) hx hb d_MO_trained_27 rfl hl (by decide) rfl (fun ls hl => ?_)
        refine lv_iload_n hx hb d_MO_trained_28 rfl (lv_at hl 0 rfl) ?_
        refine lv_iconst (v := nI 1) hx hb d_MO_trained_29 (by decide) ?_
        refine k_icmp_eq (tgt := 55) hx hb d_MO_trained_30 (by decide) (by omega) (by omega) (fun h30 => ?_) (fun h30 => ?_)
        · exfalso; omega
        · refine lv_iload_n hx hb d_MO_trained_33 rfl (lv_at hl 0 rfl) ?_
          refine lv_iconst (v := nI 4) hx hb d_MO_trained_34 (by decide) ?_
          refine k_icmp_eq (tgt := 55) hx hb d_MO_trained_35 (by decide) (by omega) (by omega) (fun h35 => ?_) (fun h35 => ?_)
          · exfalso; omega
          · refine lv_iload_n hx hb d_MO_trained_38 rfl (lv_at hl 0 rfl) ?_
            refine lv_iconst (v := nI 5) hx hb d_MO_trained_39 (by decide) ?_
            refine k_icmp_eq (tgt := 55) hx hb d_MO_trained_40 (by decide) (by omega) (by omega) (fun h40 => ?_) (fun h40 => ?_)
            · exfalso; omega
            · refine lv_iload_n hx hb d_MO_trained_43 rfl (lv_at hl 0 rfl) ?_
              refine lv_bipush (v := nI 9) hx hb d_MO_trained_44 (by decide) ?_
              refine k_icmp_eq (tgt := 55) hx hb d_MO_trained_46 (by decide) (by omega) (by omega) (fun h46 => ?_) (fun h46 => ?_)
              · exfalso; omega
              · refine lv_iload_n hx hb d_MO_trained_49 rfl (lv_at hl 0 rfl) ?_
                refine lv_bipush (v := nI 11) hx hb d_MO_trained_50 (by decide) ?_
                refine k_icmp_ne (tgt := 59) hx hb d_MO_trained_52 (by decide) (by omega) (by omega) (fun h52 => ?_) (fun h52 => ?_)
                · refine lv_iconst (v := nI 1) hx hb d_MO_trained_59 (by decide) ?_
                  rw [hQ]
                  exact k_iret () hx hb hr hlk hK hP hD hS [] (by decide) rfl trivial rfl d_MO_trained_60
                · exfalso; omega
    · exfalso; omega
set_option maxHeartbeats 4000000 in
set_option maxRecDepth 100000 in
theorem c_MO_trained_4 (l : Launch) (D : va_G) (tc : Nat → ClassId) (tb : Nat → Nat) : Mi l D tc tb y_MO_trained prog_10_method_8_code 2 (some .int) ({ frames := 0, cells := 0, slots := 0, locals := 0 }) [.int (nI 4)] [] (fun _ : Unit => True) (fun _ : Unit => tsgT 4) (fun _ : Unit => []) := by
  refine Mi.go (by decide) (Nat.le_of_ble_eq_true rfl) ?_
  intro p e s m below meth c A ls R args Q C
  obtain ⟨hx, hb, hr, hts, hown, hlk, hml, hin, hA, hST, hN, hK, hP, hD, hS, hl, hR, hQ⟩ := C
  have hw : ∀ w ∈ lw_g, w.before args s = true := fun w h => hts w (List.mem_cons_of_mem _ h)
  have hl : lv_has ls 2 [(0, .int (nI 4))] := hl
  refine lv_iload_n hx hb d_MO_trained_0 rfl (lv_at hl 0 rfl) ?_
  refine k_if_eq (tgt := 10) hx hb d_MO_trained_1 (by decide) (by omega) (fun h1 => ?_) (fun h1 => ?_)
  · exfalso; omega
  · refine lv_iload_n hx hb d_MO_trained_4 rfl (lv_at hl 0 rfl) ?_
    refine lv_bipush (v := nI 8) hx hb d_MO_trained_5 (by decide) ?_
    refine k_icmp_ne (tgt := 12) hx hb d_MO_trained_7 (by decide) (by omega) (by omega) (fun h7 => ?_) (fun h7 => ?_)
    · refine lv_iload_n hx hb d_MO_trained_12 rfl (lv_at hl 0 rfl) ?_
      refine lv_bipush (v := nI 8) hx hb d_MO_trained_13 (by decide) ?_
      refine k_icmp_ge (tgt := 24) hx hb d_MO_trained_15 (by decide) (by omega) (by omega) (fun h15 => ?_) (fun h15 => ?_)
      · exfalso; omega
      · refine lv_iload_n hx hb d_MO_trained_18 rfl (lv_at hl 0 rfl) ?_
        refine lv_iconst (v := nI 1) hx hb d_MO_trained_19 (by decide) ?_
        refine k_isub hx hb d_MO_trained_20 (by omega) ?_
        refine lv_goto (tgt := 27) hx hb d_MO_trained_21 (by decide) ?_
        refine lv_istore_n (lv' := [(1, .int (nI 3)), (0, .int (nI 4))]) hx hb d_MO_trained_27 rfl hl (by decide) rfl (fun ls hl => ?_)
        refine lv_iload_n hx hb d_MO_trained_28 rfl (lv_at hl 0 rfl) ?_
        refine lv_iconst (v := nI 1) hx hb d_MO_trained_29 (by decide) ?_
        refine k_icmp_eq (tgt := 55) hx hb d_MO_trained_30 (by decide) (by omega) (by omega) (fun h30 => ?_) (fun h30 => ?_)
        · exfalso; omega
        · refine lv_iload_n hx hb d_MO_trained_33 rfl (lv_at hl 0 rfl) ?_
          refine lv_iconst (v := nI 4) hx hb d_MO_trained_34 (by decide) ?_
          refine k_icmp_eq (tgt := 55) hx hb d_MO_trained_35 (by decide) (by omega) (by omega) (fun h35 => ?_) (fun h35 => ?_)
          · exfalso; omega
          · refine lv_iload_n hx hb d_MO_trained_38 rfl (lv_at hl 0 rfl) ?_
            refine lv_iconst (v := nI 5) hx hb d_MO_trained_39 (by decide) ?_
            refine k_icmp_eq (tgt := 55) hx hb d_MO_trained_40 (by decide) (by omega) (by omega) (fun h40 => ?_) (fun h40 => ?_)
            · exfalso; omega
            · refine lv_iload_n hx hb d_MO_trained_43 rfl (lv_at hl 0 rfl) ?_
              refine lv_bipush (v := nI 9) hx hb d_MO_trained_44 (by decide) ?_
              refine k_icmp_eq (tgt := 55) hx hb d_MO_trained_46 (by decide) (by omega) (by omega) (fun h46 => ?_) (fun h46 => ?_)
              · exfalso; omega
              · refine lv_iload_n hx hb d_MO_trained_49 rfl (lv_at hl 0 rfl) ?_
                refine lv_bipush (v := nI 11) hx hb d_MO_trained_50 (by decide) ?_
                refine k_icmp_ne (tgt := 59) hx hb d_MO_trained_52 (by decide) (by omega) (by omega) (fun h52 => ?_) (fun h52 => ?_)
                · refine lv_iconst (v := nI 1) hx hb d_MO_trained_59 (by decide) ?_
                  rw [hQ]
                  exact k_iret () hx hb hr hlk hK hP hD hS [] (by decide) rfl trivial rfl d_MO_trained_60
                · exfalso; omega
    · exfalso; omega
set_option maxHeartbeats 4000000 in
set_option maxRecDepth 100000 in
theorem c_MO_trained_5 (l : Launch) (D : va_G) (tc : Nat → ClassId) (tb : Nat → Nat) : Mi l D tc tb y_MO_trained prog_10_method_8_code 2 (some .int) ({ frames := 0, cells := 0, slots := 0, locals := 0 }) [.int (nI 5)] [] (fun _ : Unit => True) (fun _ : Unit => tsgT 5) (fun _ : Unit => []) := by
  refine Mi.go (by decide) (Nat.le_of_ble_eq_true rfl) ?_
  intro p e s m below meth c A ls R args Q C
  obtain ⟨hx, hb, hr, hts, hown, hlk, hml, hin, hA, hST, hN, hK, hP, hD, hS, hl, hR, hQ⟩ := C
  have hw : ∀ w ∈ lw_g, w.before args s = true := fun w h => hts w (List.mem_cons_of_mem _ h)
  have hl : lv_has ls 2 [(0, .int (nI 5))] := hl
  refine lv_iload_n hx hb d_MO_trained_0 rfl (lv_at hl 0 rfl) ?_
  refine k_if_eq (tgt := 10) hx hb d_MO_trained_1 (by decide) (by omega) (fun h1 => ?_) (fun h1 => ?_)
  · exfalso; omega
  · refine lv_iload_n hx hb d_MO_trained_4 rfl (lv_at hl 0 rfl) ?_
    refine lv_bipush (v := nI 8) hx hb d_MO_trained_5 (by decide) ?_
    refine k_icmp_ne (tgt := 12) hx hb d_MO_trained_7 (by decide) (by omega) (by omega) (fun h7 => ?_) (fun h7 => ?_)
    · refine lv_iload_n hx hb d_MO_trained_12 rfl (lv_at hl 0 rfl) ?_
      refine lv_bipush (v := nI 8) hx hb d_MO_trained_13 (by decide) ?_
      refine k_icmp_ge (tgt := 24) hx hb d_MO_trained_15 (by decide) (by omega) (by omega) (fun h15 => ?_) (fun h15 => ?_)
      · exfalso; omega
      · refine lv_iload_n hx hb d_MO_trained_18 rfl (lv_at hl 0 rfl) ?_
        refine lv_iconst (v := nI 1) hx hb d_MO_trained_19 (by decide) ?_
        refine k_isub hx hb d_MO_trained_20 (by omega) ?_
        refine lv_goto (tgt := 27) hx hb d_MO_trained_21 (by decide) ?_
        refine lv_istore_n (lv' := [(1, .int (nI 4)), (0, .int (nI 5))]) hx hb d_MO_trained_27 rfl hl (by decide) rfl (fun ls hl => ?_)
        refine lv_iload_n hx hb d_MO_trained_28 rfl (lv_at hl 0 rfl) ?_
        refine lv_iconst (v := nI 1) hx hb d_MO_trained_29 (by decide) ?_
        refine k_icmp_eq (tgt := 55) hx hb d_MO_trained_30 (by decide) (by omega) (by omega) (fun h30 => ?_) (fun h30 => ?_)
        · exfalso; omega
        · refine lv_iload_n hx hb d_MO_trained_33 rfl (lv_at hl 0 rfl) ?_
          refine lv_iconst (v := nI 4) hx hb d_MO_trained_34 (by decide) ?_
          refine k_icmp_eq (tgt := 55) hx hb d_MO_trained_35 (by decide) (by omega) (by omega) (fun h35 => ?_) (fun h35 => ?_)
          · refine lv_iconst (v := -1) hx hb d_MO_trained_55 (by decide) ?_
            refine lv_goto (tgt := 60) hx hb d_MO_trained_56 (by decide) ?_
            rw [hQ]
            exact k_iret () hx hb hr hlk hK hP hD hS [] (by decide) rfl trivial rfl d_MO_trained_60
          · exfalso; omega
    · exfalso; omega
set_option maxHeartbeats 4000000 in
set_option maxRecDepth 100000 in
theorem c_MO_trained_6 (l : Launch) (D : va_G) (tc : Nat → ClassId) (tb : Nat → Nat) : Mi l D tc tb y_MO_trained prog_10_method_8_code 2 (some .int) ({ frames := 0, cells := 0, slots := 0, locals := 0 }) [.int (nI 6)] [] (fun _ : Unit => True) (fun _ : Unit => tsgT 6) (fun _ : Unit => []) := by
  refine Mi.go (by decide) (Nat.le_of_ble_eq_true rfl) ?_
  intro p e s m below meth c A ls R args Q C
  obtain ⟨hx, hb, hr, hts, hown, hlk, hml, hin, hA, hST, hN, hK, hP, hD, hS, hl, hR, hQ⟩ := C
  have hw : ∀ w ∈ lw_g, w.before args s = true := fun w h => hts w (List.mem_cons_of_mem _ h)
  have hl : lv_has ls 2 [(0, .int (nI 6))] := hl
  refine lv_iload_n hx hb d_MO_trained_0 rfl (lv_at hl 0 rfl) ?_
  refine k_if_eq (tgt := 10) hx hb d_MO_trained_1 (by decide) (by omega) (fun h1 => ?_) (fun h1 => ?_)
  · exfalso; omega
  · refine lv_iload_n hx hb d_MO_trained_4 rfl (lv_at hl 0 rfl) ?_
    refine lv_bipush (v := nI 8) hx hb d_MO_trained_5 (by decide) ?_
    refine k_icmp_ne (tgt := 12) hx hb d_MO_trained_7 (by decide) (by omega) (by omega) (fun h7 => ?_) (fun h7 => ?_)
    · refine lv_iload_n hx hb d_MO_trained_12 rfl (lv_at hl 0 rfl) ?_
      refine lv_bipush (v := nI 8) hx hb d_MO_trained_13 (by decide) ?_
      refine k_icmp_ge (tgt := 24) hx hb d_MO_trained_15 (by decide) (by omega) (by omega) (fun h15 => ?_) (fun h15 => ?_)
      · exfalso; omega
      · refine lv_iload_n hx hb d_MO_trained_18 rfl (lv_at hl 0 rfl) ?_
        refine lv_iconst (v := nI 1) hx hb d_MO_trained_19 (by decide) ?_
        refine k_isub hx hb d_MO_trained_20 (by omega) ?_
        refine lv_goto (tgt := 27) hx hb d_MO_trained_21 (by decide) ?_
        refine lv_istore_n (lv' := [(1, .int (nI 5)), (0, .int (nI 6))]) hx hb d_MO_trained_27 rfl hl (by decide) rfl (fun ls hl => ?_)
        refine lv_iload_n hx hb d_MO_trained_28 rfl (lv_at hl 0 rfl) ?_
        refine lv_iconst (v := nI 1) hx hb d_MO_trained_29 (by decide) ?_
        refine k_icmp_eq (tgt := 55) hx hb d_MO_trained_30 (by decide) (by omega) (by omega) (fun h30 => ?_) (fun h30 => ?_)
        · exfalso; omega
        · refine lv_iload_n hx hb d_MO_trained_33 rfl (lv_at hl 0 rfl) ?_
          refine lv_iconst (v := nI 4) hx hb d_MO_trained_34 (by decide) ?_
          refine k_icmp_eq (tgt := 55) hx hb d_MO_trained_35 (by decide) (by omega) (by omega) (fun h35 => ?_) (fun h35 => ?_)
          · exfalso; omega
          · refine lv_iload_n hx hb d_MO_trained_38 rfl (lv_at hl 0 rfl) ?_
            refine lv_iconst (v := nI 5) hx hb d_MO_trained_39 (by decide) ?_
            refine k_icmp_eq (tgt := 55) hx hb d_MO_trained_40 (by decide) (by omega) (by omega) (fun h40 => ?_) (fun h40 => ?_)
            · refine lv_iconst (v := -1) hx hb d_MO_trained_55 (by decide) ?_
              refine lv_goto (tgt := 60) hx hb d_MO_trained_56 (by decide) ?_
              rw [hQ]
              exact k_iret () hx hb hr hlk hK hP hD hS [] (by decide) rfl trivial rfl d_MO_trained_60
            · exfalso; omega
    · exfalso; omega
set_option maxHeartbeats 4000000 in
set_option maxRecDepth 100000 in
theorem c_MO_trained_7 (l : Launch) (D : va_G) (tc : Nat → ClassId) (tb : Nat → Nat) : Mi l D tc tb y_MO_trained prog_10_method_8_code 2 (some .int) ({ frames := 0, cells := 0, slots := 0, locals := 0 }) [.int (nI 7)] [] (fun _ : Unit => True) (fun _ : Unit => tsgT 7) (fun _ : Unit => []) := by
  refine Mi.go (by decide) (Nat.le_of_ble_eq_true rfl) ?_
  intro p e s m below meth c A ls R args Q C
  obtain ⟨hx, hb, hr, hts, hown, hlk, hml, hin, hA, hST, hN, hK, hP, hD, hS, hl, hR, hQ⟩ := C
  have hw : ∀ w ∈ lw_g, w.before args s = true := fun w h => hts w (List.mem_cons_of_mem _ h)
  have hl : lv_has ls 2 [(0, .int (nI 7))] := hl
  refine lv_iload_n hx hb d_MO_trained_0 rfl (lv_at hl 0 rfl) ?_
  refine k_if_eq (tgt := 10) hx hb d_MO_trained_1 (by decide) (by omega) (fun h1 => ?_) (fun h1 => ?_)
  · exfalso; omega
  · refine lv_iload_n hx hb d_MO_trained_4 rfl (lv_at hl 0 rfl) ?_
    refine lv_bipush (v := nI 8) hx hb d_MO_trained_5 (by decide) ?_
    refine k_icmp_ne (tgt := 12) hx hb d_MO_trained_7 (by decide) (by omega) (by omega) (fun h7 => ?_) (fun h7 => ?_)
    · refine lv_iload_n hx hb d_MO_trained_12 rfl (lv_at hl 0 rfl) ?_
      refine lv_bipush (v := nI 8) hx hb d_MO_trained_13 (by decide) ?_
      refine k_icmp_ge (tgt := 24) hx hb d_MO_trained_15 (by decide) (by omega) (by omega) (fun h15 => ?_) (fun h15 => ?_)
      · exfalso; omega
      · refine lv_iload_n hx hb d_MO_trained_18 rfl (lv_at hl 0 rfl) ?_
        refine lv_iconst (v := nI 1) hx hb d_MO_trained_19 (by decide) ?_
        refine k_isub hx hb d_MO_trained_20 (by omega) ?_
        refine lv_goto (tgt := 27) hx hb d_MO_trained_21 (by decide) ?_
        refine lv_istore_n (lv' := [(1, .int (nI 6)), (0, .int (nI 7))]) hx hb d_MO_trained_27 rfl hl (by decide) rfl (fun ls hl => ?_)
        refine lv_iload_n hx hb d_MO_trained_28 rfl (lv_at hl 0 rfl) ?_
        refine lv_iconst (v := nI 1) hx hb d_MO_trained_29 (by decide) ?_
        refine k_icmp_eq (tgt := 55) hx hb d_MO_trained_30 (by decide) (by omega) (by omega) (fun h30 => ?_) (fun h30 => ?_)
        · exfalso; omega
        · refine lv_iload_n hx hb d_MO_trained_33 rfl (lv_at hl 0 rfl) ?_
          refine lv_iconst (v := nI 4) hx hb d_MO_trained_34 (by decide) ?_
          refine k_icmp_eq (tgt := 55) hx hb d_MO_trained_35 (by decide) (by omega) (by omega) (fun h35 => ?_) (fun h35 => ?_)
          · exfalso; omega
          · refine lv_iload_n hx hb d_MO_trained_38 rfl (lv_at hl 0 rfl) ?_
            refine lv_iconst (v := nI 5) hx hb d_MO_trained_39 (by decide) ?_
            refine k_icmp_eq (tgt := 55) hx hb d_MO_trained_40 (by decide) (by omega) (by omega) (fun h40 => ?_) (fun h40 => ?_)
            · exfalso; omega
            · refine lv_iload_n hx hb d_MO_trained_43 rfl (lv_at hl 0 rfl) ?_
              refine lv_bipush (v := nI 9) hx hb d_MO_trained_44 (by decide) ?_
              refine k_icmp_eq (tgt := 55) hx hb d_MO_trained_46 (by decide) (by omega) (by omega) (fun h46 => ?_) (fun h46 => ?_)
              · exfalso; omega
              · refine lv_iload_n hx hb d_MO_trained_49 rfl (lv_at hl 0 rfl) ?_
                refine lv_bipush (v := nI 11) hx hb d_MO_trained_50 (by decide) ?_
                refine k_icmp_ne (tgt := 59) hx hb d_MO_trained_52 (by decide) (by omega) (by omega) (fun h52 => ?_) (fun h52 => ?_)
                · refine lv_iconst (v := nI 1) hx hb d_MO_trained_59 (by decide) ?_
                  rw [hQ]
                  exact k_iret () hx hb hr hlk hK hP hD hS [] (by decide) rfl trivial rfl d_MO_trained_60
                · exfalso; omega
    · exfalso; omega
set_option maxHeartbeats 4000000 in
set_option maxRecDepth 100000 in
theorem c_MO_trained_8 (l : Launch) (D : va_G) (tc : Nat → ClassId) (tb : Nat → Nat) : Mi l D tc tb y_MO_trained prog_10_method_8_code 2 (some .int) ({ frames := 0, cells := 0, slots := 0, locals := 0 }) [.int (nI 8)] [] (fun _ : Unit => True) (fun _ : Unit => tsgT 8) (fun _ : Unit => []) := by
  refine Mi.go (by decide) (Nat.le_of_ble_eq_true rfl) ?_
  intro p e s m below meth c A ls R args Q C
  obtain ⟨hx, hb, hr, hts, hown, hlk, hml, hin, hA, hST, hN, hK, hP, hD, hS, hl, hR, hQ⟩ := C
  have hw : ∀ w ∈ lw_g, w.before args s = true := fun w h => hts w (List.mem_cons_of_mem _ h)
  have hl : lv_has ls 2 [(0, .int (nI 8))] := hl
  refine lv_iload_n hx hb d_MO_trained_0 rfl (lv_at hl 0 rfl) ?_
  refine k_if_eq (tgt := 10) hx hb d_MO_trained_1 (by decide) (by omega) (fun h1 => ?_) (fun h1 => ?_)
  · exfalso; omega
  · refine lv_iload_n hx hb d_MO_trained_4 rfl (lv_at hl 0 rfl) ?_
    refine lv_bipush (v := nI 8) hx hb d_MO_trained_5 (by decide) ?_
    refine k_icmp_ne (tgt := 12) hx hb d_MO_trained_7 (by decide) (by omega) (by omega) (fun h7 => ?_) (fun h7 => ?_)
    · exfalso; omega
    · refine lv_iconst (v := nI 0) hx hb d_MO_trained_10 (by decide) ?_
      rw [hQ]
      exact k_iret () hx hb hr hlk hK hP hD hS [] (by decide) rfl trivial rfl d_MO_trained_11
set_option maxHeartbeats 4000000 in
set_option maxRecDepth 100000 in
theorem c_MO_trained_9 (l : Launch) (D : va_G) (tc : Nat → ClassId) (tb : Nat → Nat) : Mi l D tc tb y_MO_trained prog_10_method_8_code 2 (some .int) ({ frames := 0, cells := 0, slots := 0, locals := 0 }) [.int (nI 9)] [] (fun _ : Unit => True) (fun _ : Unit => tsgT 9) (fun _ : Unit => []) := by
  refine Mi.go (by decide) (Nat.le_of_ble_eq_true rfl) ?_
  intro p e s m below meth c A ls R args Q C
  obtain ⟨hx, hb, hr, hts, hown, hlk, hml, hin, hA, hST, hN, hK, hP, hD, hS, hl, hR, hQ⟩ := C
  have hw : ∀ w ∈ lw_g, w.before args s = true := fun w h => hts w (List.mem_cons_of_mem _ h)
  have hl : lv_has ls 2 [(0, .int (nI 9))] := hl
  refine lv_iload_n hx hb d_MO_trained_0 rfl (lv_at hl 0 rfl) ?_
  refine k_if_eq (tgt := 10) hx hb d_MO_trained_1 (by decide) (by omega) (fun h1 => ?_) (fun h1 => ?_)
  · exfalso; omega
  · refine lv_iload_n hx hb d_MO_trained_4 rfl (lv_at hl 0 rfl) ?_
    refine lv_bipush (v := nI 8) hx hb d_MO_trained_5 (by decide) ?_
    refine k_icmp_ne (tgt := 12) hx hb d_MO_trained_7 (by decide) (by omega) (by omega) (fun h7 => ?_) (fun h7 => ?_)
    · refine lv_iload_n hx hb d_MO_trained_12 rfl (lv_at hl 0 rfl) ?_
      refine lv_bipush (v := nI 8) hx hb d_MO_trained_13 (by decide) ?_
      refine k_icmp_ge (tgt := 24) hx hb d_MO_trained_15 (by decide) (by omega) (by omega) (fun h15 => ?_) (fun h15 => ?_)
      · refine lv_iload_n hx hb d_MO_trained_24 rfl (lv_at hl 0 rfl) ?_
        refine lv_iconst (v := nI 2) hx hb d_MO_trained_25 (by decide) ?_
        refine k_isub hx hb d_MO_trained_26 (by omega) ?_
        refine lv_istore_n (lv' := [(1, .int (nI 7)), (0, .int (nI 9))]) hx hb d_MO_trained_27 rfl hl (by decide) rfl (fun ls hl => ?_)
        refine lv_iload_n hx hb d_MO_trained_28 rfl (lv_at hl 0 rfl) ?_
        refine lv_iconst (v := nI 1) hx hb d_MO_trained_29 (by decide) ?_
        refine k_icmp_eq (tgt := 55) hx hb d_MO_trained_30 (by decide) (by omega) (by omega) (fun h30 => ?_) (fun h30 => ?_)
        · exfalso; omega
        · refine lv_iload_n hx hb d_MO_trained_33 rfl (lv_at hl 0 rfl) ?_
          refine lv_iconst (v := nI 4) hx hb d_MO_trained_34 (by decide) ?_
          refine k_icmp_eq (tgt := 55) hx hb d_MO_trained_35 (by decide) (by omega) (by omega) (fun h35 => ?_) (fun h35 => ?_)
          · exfalso; omega
          · refine lv_iload_n hx hb d_MO_trained_38 rfl (lv_at hl 0 rfl) ?_
            refine lv_iconst (v := nI 5) hx hb d_MO_trained_39 (by decide) ?_
            refine k_icmp_eq (tgt := 55) hx hb d_MO_trained_40 (by decide) (by omega) (by omega) (fun h40 => ?_) (fun h40 => ?_)
            · exfalso; omega
            · refine lv_iload_n hx hb d_MO_trained_43 rfl (lv_at hl 0 rfl) ?_
              refine lv_bipush (v := nI 9) hx hb d_MO_trained_44 (by decide) ?_
              refine k_icmp_eq (tgt := 55) hx hb d_MO_trained_46 (by decide) (by omega) (by omega) (fun h46 => ?_) (fun h46 => ?_)
              · exfalso; omega
              · refine lv_iload_n hx hb d_MO_trained_49 rfl (lv_at hl 0 rfl) ?_
                refine lv_bipush (v := nI 11) hx hb d_MO_trained_50 (by decide) ?_
                refine k_icmp_ne (tgt := 59) hx hb d_MO_trained_52 (by decide) (by omega) (by omega) (fun h52 => ?_) (fun h52 => ?_)
                · refine lv_iconst (v := nI 1) hx hb d_MO_trained_59 (by decide) ?_
                  rw [hQ]
                  exact k_iret () hx hb hr hlk hK hP hD hS [] (by decide) rfl trivial rfl d_MO_trained_60
                · exfalso; omega
      · exfalso; omega
    · exfalso; omega
set_option maxHeartbeats 4000000 in
set_option maxRecDepth 100000 in
theorem c_MO_trained_10 (l : Launch) (D : va_G) (tc : Nat → ClassId) (tb : Nat → Nat) : Mi l D tc tb y_MO_trained prog_10_method_8_code 2 (some .int) ({ frames := 0, cells := 0, slots := 0, locals := 0 }) [.int (nI 10)] [] (fun _ : Unit => True) (fun _ : Unit => tsgT 10) (fun _ : Unit => []) := by
  refine Mi.go (by decide) (Nat.le_of_ble_eq_true rfl) ?_
  intro p e s m below meth c A ls R args Q C
  obtain ⟨hx, hb, hr, hts, hown, hlk, hml, hin, hA, hST, hN, hK, hP, hD, hS, hl, hR, hQ⟩ := C
  have hw : ∀ w ∈ lw_g, w.before args s = true := fun w h => hts w (List.mem_cons_of_mem _ h)
  have hl : lv_has ls 2 [(0, .int (nI 10))] := hl
  refine lv_iload_n hx hb d_MO_trained_0 rfl (lv_at hl 0 rfl) ?_
  refine k_if_eq (tgt := 10) hx hb d_MO_trained_1 (by decide) (by omega) (fun h1 => ?_) (fun h1 => ?_)
  · exfalso; omega
  · refine lv_iload_n hx hb d_MO_trained_4 rfl (lv_at hl 0 rfl) ?_
    refine lv_bipush (v := nI 8) hx hb d_MO_trained_5 (by decide) ?_
    refine k_icmp_ne (tgt := 12) hx hb d_MO_trained_7 (by decide) (by omega) (by omega) (fun h7 => ?_) (fun h7 => ?_)
    · refine lv_iload_n hx hb d_MO_trained_12 rfl (lv_at hl 0 rfl) ?_
      refine lv_bipush (v := nI 8) hx hb d_MO_trained_13 (by decide) ?_
      refine k_icmp_ge (tgt := 24) hx hb d_MO_trained_15 (by decide) (by omega) (by omega) (fun h15 => ?_) (fun h15 => ?_)
      · refine lv_iload_n hx hb d_MO_trained_24 rfl (lv_at hl 0 rfl) ?_
        refine lv_iconst (v := nI 2) hx hb d_MO_trained_25 (by decide) ?_
        refine k_isub hx hb d_MO_trained_26 (by omega) ?_
        refine lv_istore_n (lv' := [(1, .int (nI 8)), (0, .int (nI 10))]) hx hb d_MO_trained_27 rfl hl (by decide) rfl (fun ls hl => ?_)
        refine lv_iload_n hx hb d_MO_trained_28 rfl (lv_at hl 0 rfl) ?_
        refine lv_iconst (v := nI 1) hx hb d_MO_trained_29 (by decide) ?_
        refine k_icmp_eq (tgt := 55) hx hb d_MO_trained_30 (by decide) (by omega) (by omega) (fun h30 => ?_) (fun h30 => ?_)
        · exfalso; omega
        · refine lv_iload_n hx hb d_MO_trained_33 rfl (lv_at hl 0 rfl) ?_
          refine lv_iconst (v := nI 4) hx hb d_MO_trained_34 (by decide) ?_
          refine k_icmp_eq (tgt := 55) hx hb d_MO_trained_35 (by decide) (by omega) (by omega) (fun h35 => ?_) (fun h35 => ?_)
          · exfalso; omega
          · refine lv_iload_n hx hb d_MO_trained_38 rfl (lv_at hl 0 rfl) ?_
            refine lv_iconst (v := nI 5) hx hb d_MO_trained_39 (by decide) ?_
            refine k_icmp_eq (tgt := 55) hx hb d_MO_trained_40 (by decide) (by omega) (by omega) (fun h40 => ?_) (fun h40 => ?_)
            · exfalso; omega
            · refine lv_iload_n hx hb d_MO_trained_43 rfl (lv_at hl 0 rfl) ?_
              refine lv_bipush (v := nI 9) hx hb d_MO_trained_44 (by decide) ?_
              refine k_icmp_eq (tgt := 55) hx hb d_MO_trained_46 (by decide) (by omega) (by omega) (fun h46 => ?_) (fun h46 => ?_)
              · exfalso; omega
              · refine lv_iload_n hx hb d_MO_trained_49 rfl (lv_at hl 0 rfl) ?_
                refine lv_bipush (v := nI 11) hx hb d_MO_trained_50 (by decide) ?_
                refine k_icmp_ne (tgt := 59) hx hb d_MO_trained_52 (by decide) (by omega) (by omega) (fun h52 => ?_) (fun h52 => ?_)
                · refine lv_iconst (v := nI 1) hx hb d_MO_trained_59 (by decide) ?_
                  rw [hQ]
                  exact k_iret () hx hb hr hlk hK hP hD hS [] (by decide) rfl trivial rfl d_MO_trained_60
                · exfalso; omega
      · exfalso; omega
    · exfalso; omega
set_option maxHeartbeats 4000000 in
set_option maxRecDepth 100000 in
theorem c_MO_trained_11 (l : Launch) (D : va_G) (tc : Nat → ClassId) (tb : Nat → Nat) : Mi l D tc tb y_MO_trained prog_10_method_8_code 2 (some .int) ({ frames := 0, cells := 0, slots := 0, locals := 0 }) [.int (nI 11)] [] (fun _ : Unit => True) (fun _ : Unit => tsgT 11) (fun _ : Unit => []) := by
  refine Mi.go (by decide) (Nat.le_of_ble_eq_true rfl) ?_
  intro p e s m below meth c A ls R args Q C
  obtain ⟨hx, hb, hr, hts, hown, hlk, hml, hin, hA, hST, hN, hK, hP, hD, hS, hl, hR, hQ⟩ := C
  have hw : ∀ w ∈ lw_g, w.before args s = true := fun w h => hts w (List.mem_cons_of_mem _ h)
  have hl : lv_has ls 2 [(0, .int (nI 11))] := hl
  refine lv_iload_n hx hb d_MO_trained_0 rfl (lv_at hl 0 rfl) ?_
  refine k_if_eq (tgt := 10) hx hb d_MO_trained_1 (by decide) (by omega) (fun h1 => ?_) (fun h1 => ?_)
  · exfalso; omega
  · refine lv_iload_n hx hb d_MO_trained_4 rfl (lv_at hl 0 rfl) ?_
    refine lv_bipush (v := nI 8) hx hb d_MO_trained_5 (by decide) ?_
    refine k_icmp_ne (tgt := 12) hx hb d_MO_trained_7 (by decide) (by omega) (by omega) (fun h7 => ?_) (fun h7 => ?_)
    · refine lv_iload_n hx hb d_MO_trained_12 rfl (lv_at hl 0 rfl) ?_
      refine lv_bipush (v := nI 8) hx hb d_MO_trained_13 (by decide) ?_
      refine k_icmp_ge (tgt := 24) hx hb d_MO_trained_15 (by decide) (by omega) (by omega) (fun h15 => ?_) (fun h15 => ?_)
      · refine lv_iload_n hx hb d_MO_trained_24 rfl (lv_at hl 0 rfl) ?_
        refine lv_iconst (v := nI 2) hx hb d_MO_trained_25 (by decide) ?_
        refine k_isub hx hb d_MO_trained_26 (by omega) ?_
        refine lv_istore_n (lv' := [(1, .int (nI 9)), (0, .int (nI 11))]) hx hb d_MO_trained_27 rfl hl (by decide) rfl (fun ls hl => ?_)
        refine lv_iload_n hx hb d_MO_trained_28 rfl (lv_at hl 0 rfl) ?_
        refine lv_iconst (v := nI 1) hx hb d_MO_trained_29 (by decide) ?_
        refine k_icmp_eq (tgt := 55) hx hb d_MO_trained_30 (by decide) (by omega) (by omega) (fun h30 => ?_) (fun h30 => ?_)
        · exfalso; omega
        · refine lv_iload_n hx hb d_MO_trained_33 rfl (lv_at hl 0 rfl) ?_
          refine lv_iconst (v := nI 4) hx hb d_MO_trained_34 (by decide) ?_
          refine k_icmp_eq (tgt := 55) hx hb d_MO_trained_35 (by decide) (by omega) (by omega) (fun h35 => ?_) (fun h35 => ?_)
          · exfalso; omega
          · refine lv_iload_n hx hb d_MO_trained_38 rfl (lv_at hl 0 rfl) ?_
            refine lv_iconst (v := nI 5) hx hb d_MO_trained_39 (by decide) ?_
            refine k_icmp_eq (tgt := 55) hx hb d_MO_trained_40 (by decide) (by omega) (by omega) (fun h40 => ?_) (fun h40 => ?_)
            · exfalso; omega
            · refine lv_iload_n hx hb d_MO_trained_43 rfl (lv_at hl 0 rfl) ?_
              refine lv_bipush (v := nI 9) hx hb d_MO_trained_44 (by decide) ?_
              refine k_icmp_eq (tgt := 55) hx hb d_MO_trained_46 (by decide) (by omega) (by omega) (fun h46 => ?_) (fun h46 => ?_)
              · refine lv_iconst (v := -1) hx hb d_MO_trained_55 (by decide) ?_
                refine lv_goto (tgt := 60) hx hb d_MO_trained_56 (by decide) ?_
                rw [hQ]
                exact k_iret () hx hb hr hlk hK hP hD hS [] (by decide) rfl trivial rfl d_MO_trained_60
              · exfalso; omega
      · exfalso; omega
    · exfalso; omega
set_option maxHeartbeats 4000000 in
set_option maxRecDepth 100000 in
theorem c_MO_trained_12 (l : Launch) (D : va_G) (tc : Nat → ClassId) (tb : Nat → Nat) : Mi l D tc tb y_MO_trained prog_10_method_8_code 2 (some .int) ({ frames := 0, cells := 0, slots := 0, locals := 0 }) [.int (nI 12)] [] (fun _ : Unit => True) (fun _ : Unit => tsgT 12) (fun _ : Unit => []) := by
  refine Mi.go (by decide) (Nat.le_of_ble_eq_true rfl) ?_
  intro p e s m below meth c A ls R args Q C
  obtain ⟨hx, hb, hr, hts, hown, hlk, hml, hin, hA, hST, hN, hK, hP, hD, hS, hl, hR, hQ⟩ := C
  have hw : ∀ w ∈ lw_g, w.before args s = true := fun w h => hts w (List.mem_cons_of_mem _ h)
  have hl : lv_has ls 2 [(0, .int (nI 12))] := hl
  refine lv_iload_n hx hb d_MO_trained_0 rfl (lv_at hl 0 rfl) ?_
  refine k_if_eq (tgt := 10) hx hb d_MO_trained_1 (by decide) (by omega) (fun h1 => ?_) (fun h1 => ?_)
  · exfalso; omega
  · refine lv_iload_n hx hb d_MO_trained_4 rfl (lv_at hl 0 rfl) ?_
    refine lv_bipush (v := nI 8) hx hb d_MO_trained_5 (by decide) ?_
    refine k_icmp_ne (tgt := 12) hx hb d_MO_trained_7 (by decide) (by omega) (by omega) (fun h7 => ?_) (fun h7 => ?_)
    · refine lv_iload_n hx hb d_MO_trained_12 rfl (lv_at hl 0 rfl) ?_
      refine lv_bipush (v := nI 8) hx hb d_MO_trained_13 (by decide) ?_
      refine k_icmp_ge (tgt := 24) hx hb d_MO_trained_15 (by decide) (by omega) (by omega) (fun h15 => ?_) (fun h15 => ?_)
      · refine lv_iload_n hx hb d_MO_trained_24 rfl (lv_at hl 0 rfl) ?_
        refine lv_iconst (v := nI 2) hx hb d_MO_trained_25 (by decide) ?_
        refine k_isub hx hb d_MO_trained_26 (by omega) ?_
        refine lv_istore_n (lv' := [(1, .int (nI 10)), (0, .int (nI 12))]) hx hb d_MO_trained_27 rfl hl (by decide) rfl (fun ls hl => ?_)
        refine lv_iload_n hx hb d_MO_trained_28 rfl (lv_at hl 0 rfl) ?_
        refine lv_iconst (v := nI 1) hx hb d_MO_trained_29 (by decide) ?_
        refine k_icmp_eq (tgt := 55) hx hb d_MO_trained_30 (by decide) (by omega) (by omega) (fun h30 => ?_) (fun h30 => ?_)
        · exfalso; omega
        · refine lv_iload_n hx hb d_MO_trained_33 rfl (lv_at hl 0 rfl) ?_
          refine lv_iconst (v := nI 4) hx hb d_MO_trained_34 (by decide) ?_
          refine k_icmp_eq (tgt := 55) hx hb d_MO_trained_35 (by decide) (by omega) (by omega) (fun h35 => ?_) (fun h35 => ?_)
          · exfalso; omega
          · refine lv_iload_n hx hb d_MO_trained_38 rfl (lv_at hl 0 rfl) ?_
            refine lv_iconst (v := nI 5) hx hb d_MO_trained_39 (by decide) ?_
            refine k_icmp_eq (tgt := 55) hx hb d_MO_trained_40 (by decide) (by omega) (by omega) (fun h40 => ?_) (fun h40 => ?_)
            · exfalso; omega
            · refine lv_iload_n hx hb d_MO_trained_43 rfl (lv_at hl 0 rfl) ?_
              refine lv_bipush (v := nI 9) hx hb d_MO_trained_44 (by decide) ?_
              refine k_icmp_eq (tgt := 55) hx hb d_MO_trained_46 (by decide) (by omega) (by omega) (fun h46 => ?_) (fun h46 => ?_)
              · exfalso; omega
              · refine lv_iload_n hx hb d_MO_trained_49 rfl (lv_at hl 0 rfl) ?_
                refine lv_bipush (v := nI 11) hx hb d_MO_trained_50 (by decide) ?_
                refine k_icmp_ne (tgt := 59) hx hb d_MO_trained_52 (by decide) (by omega) (by omega) (fun h52 => ?_) (fun h52 => ?_)
                · refine lv_iconst (v := nI 1) hx hb d_MO_trained_59 (by decide) ?_
                  rw [hQ]
                  exact k_iret () hx hb hr hlk hK hP hD hS [] (by decide) rfl trivial rfl d_MO_trained_60
                · exfalso; omega
      · exfalso; omega
    · exfalso; omega
set_option maxHeartbeats 4000000 in
set_option maxRecDepth 100000 in
theorem c_MO_trained_13 (l : Launch) (D : va_G) (tc : Nat → ClassId) (tb : Nat → Nat) : Mi l D tc tb y_MO_trained prog_10_method_8_code 2 (some .int) ({ frames := 0, cells := 0, slots := 0, locals := 0 }) [.int (nI 13)] [] (fun _ : Unit => True) (fun _ : Unit => tsgT 13) (fun _ : Unit => []) := by
  refine Mi.go (by decide) (Nat.le_of_ble_eq_true rfl) ?_
  intro p e s m below meth c A ls R args Q C
  obtain ⟨hx, hb, hr, hts, hown, hlk, hml, hin, hA, hST, hN, hK, hP, hD, hS, hl, hR, hQ⟩ := C
  have hw : ∀ w ∈ lw_g, w.before args s = true := fun w h => hts w (List.mem_cons_of_mem _ h)
  have hl : lv_has ls 2 [(0, .int (nI 13))] := hl
  refine lv_iload_n hx hb d_MO_trained_0 rfl (lv_at hl 0 rfl) ?_
  refine k_if_eq (tgt := 10) hx hb d_MO_trained_1 (by decide) (by omega) (fun h1 => ?_) (fun h1 => ?_)
  · exfalso; omega
  · refine lv_iload_n hx hb d_MO_trained_4 rfl (lv_at hl 0 rfl) ?_
    refine lv_bipush (v := nI 8) hx hb d_MO_trained_5 (by decide) ?_
    refine k_icmp_ne (tgt := 12) hx hb d_MO_trained_7 (by decide) (by omega) (by omega) (fun h7 => ?_) (fun h7 => ?_)
    · refine lv_iload_n hx hb d_MO_trained_12 rfl (lv_at hl 0 rfl) ?_
      refine lv_bipush (v := nI 8) hx hb d_MO_trained_13 (by decide) ?_
      refine k_icmp_ge (tgt := 24) hx hb d_MO_trained_15 (by decide) (by omega) (by omega) (fun h15 => ?_) (fun h15 => ?_)
      · refine lv_iload_n hx hb d_MO_trained_24 rfl (lv_at hl 0 rfl) ?_
        refine lv_iconst (v := nI 2) hx hb d_MO_trained_25 (by decide) ?_
        refine k_isub hx hb d_MO_trained_26 (by omega) ?_
        refine lv_istore_n (lv' := [(1, .int (nI 11)), (0, .int (nI 13))]) hx hb d_MO_trained_27 rfl hl (by decide) rfl (fun ls hl => ?_)
        refine lv_iload_n hx hb d_MO_trained_28 rfl (lv_at hl 0 rfl) ?_
        refine lv_iconst (v := nI 1) hx hb d_MO_trained_29 (by decide) ?_
        refine k_icmp_eq (tgt := 55) hx hb d_MO_trained_30 (by decide) (by omega) (by omega) (fun h30 => ?_) (fun h30 => ?_)
        · exfalso; omega
        · refine lv_iload_n hx hb d_MO_trained_33 rfl (lv_at hl 0 rfl) ?_
          refine lv_iconst (v := nI 4) hx hb d_MO_trained_34 (by decide) ?_
          refine k_icmp_eq (tgt := 55) hx hb d_MO_trained_35 (by decide) (by omega) (by omega) (fun h35 => ?_) (fun h35 => ?_)
          · exfalso; omega
          · refine lv_iload_n hx hb d_MO_trained_38 rfl (lv_at hl 0 rfl) ?_
            refine lv_iconst (v := nI 5) hx hb d_MO_trained_39 (by decide) ?_
            refine k_icmp_eq (tgt := 55) hx hb d_MO_trained_40 (by decide) (by omega) (by omega) (fun h40 => ?_) (fun h40 => ?_)
            · exfalso; omega
            · refine lv_iload_n hx hb d_MO_trained_43 rfl (lv_at hl 0 rfl) ?_
              refine lv_bipush (v := nI 9) hx hb d_MO_trained_44 (by decide) ?_
              refine k_icmp_eq (tgt := 55) hx hb d_MO_trained_46 (by decide) (by omega) (by omega) (fun h46 => ?_) (fun h46 => ?_)
              · exfalso; omega
              · refine lv_iload_n hx hb d_MO_trained_49 rfl (lv_at hl 0 rfl) ?_
                refine lv_bipush (v := nI 11) hx hb d_MO_trained_50 (by decide) ?_
                refine k_icmp_ne (tgt := 59) hx hb d_MO_trained_52 (by decide) (by omega) (by omega) (fun h52 => ?_) (fun h52 => ?_)
                · exfalso; omega
                · refine lv_iconst (v := -1) hx hb d_MO_trained_55 (by decide) ?_
                  refine lv_goto (tgt := 60) hx hb d_MO_trained_56 (by decide) ?_
                  rw [hQ]
                  exact k_iret () hx hb hr hlk hK hP hD hS [] (by decide) rfl trivial rfl d_MO_trained_60
      · exfalso; omega
    · exfalso; omega
set_option maxHeartbeats 4000000 in
set_option maxRecDepth 100000 in
theorem c_MO_trained_14 (l : Launch) (D : va_G) (tc : Nat → ClassId) (tb : Nat → Nat) : Mi l D tc tb y_MO_trained prog_10_method_8_code 2 (some .int) ({ frames := 0, cells := 0, slots := 0, locals := 0 }) [.int (nI 14)] [] (fun _ : Unit => True) (fun _ : Unit => tsgT 14) (fun _ : Unit => []) := by
  refine Mi.go (by decide) (Nat.le_of_ble_eq_true rfl) ?_
  intro p e s m below meth c A ls R args Q C
  obtain ⟨hx, hb, hr, hts, hown, hlk, hml, hin, hA, hST, hN, hK, hP, hD, hS, hl, hR, hQ⟩ := C
  have hw : ∀ w ∈ lw_g, w.before args s = true := fun w h => hts w (List.mem_cons_of_mem _ h)
  have hl : lv_has ls 2 [(0, .int (nI 14))] := hl
  refine lv_iload_n hx hb d_MO_trained_0 rfl (lv_at hl 0 rfl) ?_
  refine k_if_eq (tgt := 10) hx hb d_MO_trained_1 (by decide) (by omega) (fun h1 => ?_) (fun h1 => ?_)
  · exfalso; omega
  · refine lv_iload_n hx hb d_MO_trained_4 rfl (lv_at hl 0 rfl) ?_
    refine lv_bipush (v := nI 8) hx hb d_MO_trained_5 (by decide) ?_
    refine k_icmp_ne (tgt := 12) hx hb d_MO_trained_7 (by decide) (by omega) (by omega) (fun h7 => ?_) (fun h7 => ?_)
    · refine lv_iload_n hx hb d_MO_trained_12 rfl (lv_at hl 0 rfl) ?_
      refine lv_bipush (v := nI 8) hx hb d_MO_trained_13 (by decide) ?_
      refine k_icmp_ge (tgt := 24) hx hb d_MO_trained_15 (by decide) (by omega) (by omega) (fun h15 => ?_) (fun h15 => ?_)
      · refine lv_iload_n hx hb d_MO_trained_24 rfl (lv_at hl 0 rfl) ?_
        refine lv_iconst (v := nI 2) hx hb d_MO_trained_25 (by decide) ?_
        refine k_isub hx hb d_MO_trained_26 (by omega) ?_
        refine lv_istore_n (lv' := [(1, .int (nI 12)), (0, .int (nI 14))]) hx hb d_MO_trained_27 rfl hl (by decide) rfl (fun ls hl => ?_)
        refine lv_iload_n hx hb d_MO_trained_28 rfl (lv_at hl 0 rfl) ?_
        refine lv_iconst (v := nI 1) hx hb d_MO_trained_29 (by decide) ?_
        refine k_icmp_eq (tgt := 55) hx hb d_MO_trained_30 (by decide) (by omega) (by omega) (fun h30 => ?_) (fun h30 => ?_)
        · exfalso; omega
        · refine lv_iload_n hx hb d_MO_trained_33 rfl (lv_at hl 0 rfl) ?_
          refine lv_iconst (v := nI 4) hx hb d_MO_trained_34 (by decide) ?_
          refine k_icmp_eq (tgt := 55) hx hb d_MO_trained_35 (by decide) (by omega) (by omega) (fun h35 => ?_) (fun h35 => ?_)
          · exfalso; omega
          · refine lv_iload_n hx hb d_MO_trained_38 rfl (lv_at hl 0 rfl) ?_
            refine lv_iconst (v := nI 5) hx hb d_MO_trained_39 (by decide) ?_
            refine k_icmp_eq (tgt := 55) hx hb d_MO_trained_40 (by decide) (by omega) (by omega) (fun h40 => ?_) (fun h40 => ?_)
            · exfalso; omega
            · refine lv_iload_n hx hb d_MO_trained_43 rfl (lv_at hl 0 rfl) ?_
              refine lv_bipush (v := nI 9) hx hb d_MO_trained_44 (by decide) ?_
              refine k_icmp_eq (tgt := 55) hx hb d_MO_trained_46 (by decide) (by omega) (by omega) (fun h46 => ?_) (fun h46 => ?_)
              · exfalso; omega
              · refine lv_iload_n hx hb d_MO_trained_49 rfl (lv_at hl 0 rfl) ?_
                refine lv_bipush (v := nI 11) hx hb d_MO_trained_50 (by decide) ?_
                refine k_icmp_ne (tgt := 59) hx hb d_MO_trained_52 (by decide) (by omega) (by omega) (fun h52 => ?_) (fun h52 => ?_)
                · refine lv_iconst (v := nI 1) hx hb d_MO_trained_59 (by decide) ?_
                  rw [hQ]
                  exact k_iret () hx hb hr hlk hK hP hD hS [] (by decide) rfl trivial rfl d_MO_trained_60
                · exfalso; omega
      · exfalso; omega
    · exfalso; omega
set_option maxHeartbeats 4000000 in
set_option maxRecDepth 100000 in
theorem c_MO_trained_15 (l : Launch) (D : va_G) (tc : Nat → ClassId) (tb : Nat → Nat) : Mi l D tc tb y_MO_trained prog_10_method_8_code 2 (some .int) ({ frames := 0, cells := 0, slots := 0, locals := 0 }) [.int (nI 15)] [] (fun _ : Unit => True) (fun _ : Unit => tsgT 15) (fun _ : Unit => []) := by
  refine Mi.go (by decide) (Nat.le_of_ble_eq_true rfl) ?_
  intro p e s m below meth c A ls R args Q C
  obtain ⟨hx, hb, hr, hts, hown, hlk, hml, hin, hA, hST, hN, hK, hP, hD, hS, hl, hR, hQ⟩ := C
  have hw : ∀ w ∈ lw_g, w.before args s = true := fun w h => hts w (List.mem_cons_of_mem _ h)
  have hl : lv_has ls 2 [(0, .int (nI 15))] := hl
  refine lv_iload_n hx hb d_MO_trained_0 rfl (lv_at hl 0 rfl) ?_
  refine k_if_eq (tgt := 10) hx hb d_MO_trained_1 (by decide) (by omega) (fun h1 => ?_) (fun h1 => ?_)
  · exfalso; omega
  · refine lv_iload_n hx hb d_MO_trained_4 rfl (lv_at hl 0 rfl) ?_
    refine lv_bipush (v := nI 8) hx hb d_MO_trained_5 (by decide) ?_
    refine k_icmp_ne (tgt := 12) hx hb d_MO_trained_7 (by decide) (by omega) (by omega) (fun h7 => ?_) (fun h7 => ?_)
    · refine lv_iload_n hx hb d_MO_trained_12 rfl (lv_at hl 0 rfl) ?_
      refine lv_bipush (v := nI 8) hx hb d_MO_trained_13 (by decide) ?_
      refine k_icmp_ge (tgt := 24) hx hb d_MO_trained_15 (by decide) (by omega) (by omega) (fun h15 => ?_) (fun h15 => ?_)
      · refine lv_iload_n hx hb d_MO_trained_24 rfl (lv_at hl 0 rfl) ?_
        refine lv_iconst (v := nI 2) hx hb d_MO_trained_25 (by decide) ?_
        refine k_isub hx hb d_MO_trained_26 (by omega) ?_
        refine lv_istore_n (lv' := [(1, .int (nI 13)), (0, .int (nI 15))]) hx hb d_MO_trained_27 rfl hl (by decide) rfl (fun ls hl => ?_)
        refine lv_iload_n hx hb d_MO_trained_28 rfl (lv_at hl 0 rfl) ?_
        refine lv_iconst (v := nI 1) hx hb d_MO_trained_29 (by decide) ?_
        refine k_icmp_eq (tgt := 55) hx hb d_MO_trained_30 (by decide) (by omega) (by omega) (fun h30 => ?_) (fun h30 => ?_)
        · exfalso; omega
        · refine lv_iload_n hx hb d_MO_trained_33 rfl (lv_at hl 0 rfl) ?_
          refine lv_iconst (v := nI 4) hx hb d_MO_trained_34 (by decide) ?_
          refine k_icmp_eq (tgt := 55) hx hb d_MO_trained_35 (by decide) (by omega) (by omega) (fun h35 => ?_) (fun h35 => ?_)
          · exfalso; omega
          · refine lv_iload_n hx hb d_MO_trained_38 rfl (lv_at hl 0 rfl) ?_
            refine lv_iconst (v := nI 5) hx hb d_MO_trained_39 (by decide) ?_
            refine k_icmp_eq (tgt := 55) hx hb d_MO_trained_40 (by decide) (by omega) (by omega) (fun h40 => ?_) (fun h40 => ?_)
            · exfalso; omega
            · refine lv_iload_n hx hb d_MO_trained_43 rfl (lv_at hl 0 rfl) ?_
              refine lv_bipush (v := nI 9) hx hb d_MO_trained_44 (by decide) ?_
              refine k_icmp_eq (tgt := 55) hx hb d_MO_trained_46 (by decide) (by omega) (by omega) (fun h46 => ?_) (fun h46 => ?_)
              · exfalso; omega
              · refine lv_iload_n hx hb d_MO_trained_49 rfl (lv_at hl 0 rfl) ?_
                refine lv_bipush (v := nI 11) hx hb d_MO_trained_50 (by decide) ?_
                refine k_icmp_ne (tgt := 59) hx hb d_MO_trained_52 (by decide) (by omega) (by omega) (fun h52 => ?_) (fun h52 => ?_)
                · refine lv_iconst (v := nI 1) hx hb d_MO_trained_59 (by decide) ?_
                  rw [hQ]
                  exact k_iret () hx hb hr hlk hK hP hD hS [] (by decide) rfl trivial rfl d_MO_trained_60
                · exfalso; omega
      · exfalso; omega
    · exfalso; omega
theorem c_MO_trained (l : Launch) (D : va_G) (tc : Nat → ClassId) (tb : Nat → Nat) (k : Nat) (hw_ : k < 16) : Mi l D tc tb y_MO_trained prog_10_method_8_code 2 (some .int) ({ frames := 0, cells := 0, slots := 0, locals := 0 }) [.int (nI k)] [] (fun _ : Unit => True) (fun _ : Unit => tsgT k) (fun _ : Unit => []) := by
  rcases (show k = 0 ∨ k = 1 ∨ k = 2 ∨ k = 3 ∨ k = 4 ∨ k = 5 ∨ k = 6 ∨ k = 7 ∨ k = 8 ∨ k = 9 ∨ k = 10 ∨ k = 11 ∨ k = 12 ∨ k = 13 ∨ k = 14 ∨ k = 15 by omega) with rfl | rfl | rfl | rfl | rfl | rfl | rfl | rfl | rfl | rfl | rfl | rfl | rfl | rfl | rfl | rfl
  · exact c_MO_trained_0 l D tc tb
  · exact c_MO_trained_1 l D tc tb
  · exact c_MO_trained_2 l D tc tb
  · exact c_MO_trained_3 l D tc tb
  · exact c_MO_trained_4 l D tc tb
  · exact c_MO_trained_5 l D tc tb
  · exact c_MO_trained_6 l D tc tb
  · exact c_MO_trained_7 l D tc tb
  · exact c_MO_trained_8 l D tc tb
  · exact c_MO_trained_9 l D tc tb
  · exact c_MO_trained_10 l D tc tb
  · exact c_MO_trained_11 l D tc tb
  · exact c_MO_trained_12 l D tc tb
  · exact c_MO_trained_13 l D tc tb
  · exact c_MO_trained_14 l D tc tb
  · exact c_MO_trained_15 l D tc tb
set_option maxHeartbeats 4000000 in
set_option maxRecDepth 100000 in
theorem c_MO_carrier_0 (l : Launch) (D : va_G) (tc : Nat → ClassId) (tb : Nat → Nat) : Mi l D tc tb y_MO_carrier prog_10_method_9_code 1 (some .int) ({ frames := 0, cells := 0, slots := 0, locals := 0 }) [.int (nI 0)] [] (fun _ : Unit => True) (fun _ : Unit => nI (codN 0)) (fun _ : Unit => []) := by
  refine Mi.go (by decide) (Nat.le_of_ble_eq_true rfl) ?_
  intro p e s m below meth c A ls R args Q C
  obtain ⟨hx, hb, hr, hts, hown, hlk, hml, hin, hA, hST, hN, hK, hP, hD, hS, hl, hR, hQ⟩ := C
  have hw : ∀ w ∈ lw_g, w.before args s = true := fun w h => hts w (List.mem_cons_of_mem _ h)
  have hl : lv_has ls 1 [(0, .int (nI 0))] := hl
  refine lv_iload_n hx hb d_MO_carrier_0 rfl (lv_at hl 0 rfl) ?_
  refine lv_iconst (v := nI 3) hx hb d_MO_carrier_1 (by decide) ?_
  refine k_icmp_ge (tgt := 12) hx hb d_MO_carrier_2 (by decide) (by omega) (by omega) (fun h2 => ?_) (fun h2 => ?_)
  · exfalso; omega
  · refine lv_bipush (v := nI 9) hx hb d_MO_carrier_5 (by decide) ?_
    refine lv_iload_n hx hb d_MO_carrier_7 rfl (lv_at hl 0 rfl) ?_
    refine k_iadd hx hb d_MO_carrier_8 ?_
    refine lv_goto (tgt := 40) hx hb d_MO_carrier_9 (by decide) ?_
    rw [hQ]
    exact k_iret () hx hb hr hlk hK hP hD hS [] (by decide) rfl trivial rfl d_MO_carrier_40
set_option maxHeartbeats 4000000 in
set_option maxRecDepth 100000 in
theorem c_MO_carrier_1 (l : Launch) (D : va_G) (tc : Nat → ClassId) (tb : Nat → Nat) : Mi l D tc tb y_MO_carrier prog_10_method_9_code 1 (some .int) ({ frames := 0, cells := 0, slots := 0, locals := 0 }) [.int (nI 1)] [] (fun _ : Unit => True) (fun _ : Unit => nI (codN 1)) (fun _ : Unit => []) := by
  refine Mi.go (by decide) (Nat.le_of_ble_eq_true rfl) ?_
  intro p e s m below meth c A ls R args Q C
  obtain ⟨hx, hb, hr, hts, hown, hlk, hml, hin, hA, hST, hN, hK, hP, hD, hS, hl, hR, hQ⟩ := C
  have hw : ∀ w ∈ lw_g, w.before args s = true := fun w h => hts w (List.mem_cons_of_mem _ h)
  have hl : lv_has ls 1 [(0, .int (nI 1))] := hl
  refine lv_iload_n hx hb d_MO_carrier_0 rfl (lv_at hl 0 rfl) ?_
  refine lv_iconst (v := nI 3) hx hb d_MO_carrier_1 (by decide) ?_
  refine k_icmp_ge (tgt := 12) hx hb d_MO_carrier_2 (by decide) (by omega) (by omega) (fun h2 => ?_) (fun h2 => ?_)
  · exfalso; omega
  · refine lv_bipush (v := nI 9) hx hb d_MO_carrier_5 (by decide) ?_
    refine lv_iload_n hx hb d_MO_carrier_7 rfl (lv_at hl 0 rfl) ?_
    refine k_iadd hx hb d_MO_carrier_8 ?_
    refine lv_goto (tgt := 40) hx hb d_MO_carrier_9 (by decide) ?_
    rw [hQ]
    exact k_iret () hx hb hr hlk hK hP hD hS [] (by decide) rfl trivial rfl d_MO_carrier_40
set_option maxHeartbeats 4000000 in
set_option maxRecDepth 100000 in
theorem c_MO_carrier_2 (l : Launch) (D : va_G) (tc : Nat → ClassId) (tb : Nat → Nat) : Mi l D tc tb y_MO_carrier prog_10_method_9_code 1 (some .int) ({ frames := 0, cells := 0, slots := 0, locals := 0 }) [.int (nI 2)] [] (fun _ : Unit => True) (fun _ : Unit => nI (codN 2)) (fun _ : Unit => []) := by
  refine Mi.go (by decide) (Nat.le_of_ble_eq_true rfl) ?_
  intro p e s m below meth c A ls R args Q C
  obtain ⟨hx, hb, hr, hts, hown, hlk, hml, hin, hA, hST, hN, hK, hP, hD, hS, hl, hR, hQ⟩ := C
  have hw : ∀ w ∈ lw_g, w.before args s = true := fun w h => hts w (List.mem_cons_of_mem _ h)
  have hl : lv_has ls 1 [(0, .int (nI 2))] := hl
  refine lv_iload_n hx hb d_MO_carrier_0 rfl (lv_at hl 0 rfl) ?_
  refine lv_iconst (v := nI 3) hx hb d_MO_carrier_1 (by decide) ?_
  refine k_icmp_ge (tgt := 12) hx hb d_MO_carrier_2 (by decide) (by omega) (by omega) (fun h2 => ?_) (fun h2 => ?_)
  · exfalso; omega
  · refine lv_bipush (v := nI 9) hx hb d_MO_carrier_5 (by decide) ?_
    refine lv_iload_n hx hb d_MO_carrier_7 rfl (lv_at hl 0 rfl) ?_
    refine k_iadd hx hb d_MO_carrier_8 ?_
    refine lv_goto (tgt := 40) hx hb d_MO_carrier_9 (by decide) ?_
    rw [hQ]
    exact k_iret () hx hb hr hlk hK hP hD hS [] (by decide) rfl trivial rfl d_MO_carrier_40
set_option maxHeartbeats 4000000 in
set_option maxRecDepth 100000 in
theorem c_MO_carrier_3 (l : Launch) (D : va_G) (tc : Nat → ClassId) (tb : Nat → Nat) : Mi l D tc tb y_MO_carrier prog_10_method_9_code 1 (some .int) ({ frames := 0, cells := 0, slots := 0, locals := 0 }) [.int (nI 3)] [] (fun _ : Unit => True) (fun _ : Unit => nI (codN 3)) (fun _ : Unit => []) := by
  refine Mi.go (by decide) (Nat.le_of_ble_eq_true rfl) ?_
  intro p e s m below meth c A ls R args Q C
  obtain ⟨hx, hb, hr, hts, hown, hlk, hml, hin, hA, hST, hN, hK, hP, hD, hS, hl, hR, hQ⟩ := C
  have hw : ∀ w ∈ lw_g, w.before args s = true := fun w h => hts w (List.mem_cons_of_mem _ h)
  have hl : lv_has ls 1 [(0, .int (nI 3))] := hl
  refine lv_iload_n hx hb d_MO_carrier_0 rfl (lv_at hl 0 rfl) ?_
  refine lv_iconst (v := nI 3) hx hb d_MO_carrier_1 (by decide) ?_
  refine k_icmp_ge (tgt := 12) hx hb d_MO_carrier_2 (by decide) (by omega) (by omega) (fun h2 => ?_) (fun h2 => ?_)
  · refine lv_iload_n hx hb d_MO_carrier_12 rfl (lv_at hl 0 rfl) ?_
    refine lv_bipush (v := nI 6) hx hb d_MO_carrier_13 (by decide) ?_
    refine k_icmp_ge (tgt := 25) hx hb d_MO_carrier_15 (by decide) (by omega) (by omega) (fun h15 => ?_) (fun h15 => ?_)
    · exfalso; omega
    · refine lv_bipush (v := nI 10) hx hb d_MO_carrier_18 (by decide) ?_
      refine lv_iload_n hx hb d_MO_carrier_20 rfl (lv_at hl 0 rfl) ?_
      refine k_iadd hx hb d_MO_carrier_21 ?_
      refine lv_goto (tgt := 40) hx hb d_MO_carrier_22 (by decide) ?_
      rw [hQ]
      exact k_iret () hx hb hr hlk hK hP hD hS [] (by decide) rfl trivial rfl d_MO_carrier_40
  · exfalso; omega
set_option maxHeartbeats 4000000 in
set_option maxRecDepth 100000 in
theorem c_MO_carrier_4 (l : Launch) (D : va_G) (tc : Nat → ClassId) (tb : Nat → Nat) : Mi l D tc tb y_MO_carrier prog_10_method_9_code 1 (some .int) ({ frames := 0, cells := 0, slots := 0, locals := 0 }) [.int (nI 4)] [] (fun _ : Unit => True) (fun _ : Unit => nI (codN 4)) (fun _ : Unit => []) := by
  refine Mi.go (by decide) (Nat.le_of_ble_eq_true rfl) ?_
  intro p e s m below meth c A ls R args Q C
  obtain ⟨hx, hb, hr, hts, hown, hlk, hml, hin, hA, hST, hN, hK, hP, hD, hS, hl, hR, hQ⟩ := C
  have hw : ∀ w ∈ lw_g, w.before args s = true := fun w h => hts w (List.mem_cons_of_mem _ h)
  have hl : lv_has ls 1 [(0, .int (nI 4))] := hl
  refine lv_iload_n hx hb d_MO_carrier_0 rfl (lv_at hl 0 rfl) ?_
  refine lv_iconst (v := nI 3) hx hb d_MO_carrier_1 (by decide) ?_
  refine k_icmp_ge (tgt := 12) hx hb d_MO_carrier_2 (by decide) (by omega) (by omega) (fun h2 => ?_) (fun h2 => ?_)
  · refine lv_iload_n hx hb d_MO_carrier_12 rfl (lv_at hl 0 rfl) ?_
    refine lv_bipush (v := nI 6) hx hb d_MO_carrier_13 (by decide) ?_
    refine k_icmp_ge (tgt := 25) hx hb d_MO_carrier_15 (by decide) (by omega) (by omega) (fun h15 => ?_) (fun h15 => ?_)
    · exfalso; omega
    · refine lv_bipush (v := nI 10) hx hb d_MO_carrier_18 (by decide) ?_
      refine lv_iload_n hx hb d_MO_carrier_20 rfl (lv_at hl 0 rfl) ?_
      refine k_iadd hx hb d_MO_carrier_21 ?_
      refine lv_goto (tgt := 40) hx hb d_MO_carrier_22 (by decide) ?_
      rw [hQ]
      exact k_iret () hx hb hr hlk hK hP hD hS [] (by decide) rfl trivial rfl d_MO_carrier_40
  · exfalso; omega
set_option maxHeartbeats 4000000 in
set_option maxRecDepth 100000 in
theorem c_MO_carrier_5 (l : Launch) (D : va_G) (tc : Nat → ClassId) (tb : Nat → Nat) : Mi l D tc tb y_MO_carrier prog_10_method_9_code 1 (some .int) ({ frames := 0, cells := 0, slots := 0, locals := 0 }) [.int (nI 5)] [] (fun _ : Unit => True) (fun _ : Unit => nI (codN 5)) (fun _ : Unit => []) := by
  refine Mi.go (by decide) (Nat.le_of_ble_eq_true rfl) ?_
  intro p e s m below meth c A ls R args Q C
  obtain ⟨hx, hb, hr, hts, hown, hlk, hml, hin, hA, hST, hN, hK, hP, hD, hS, hl, hR, hQ⟩ := C
  have hw : ∀ w ∈ lw_g, w.before args s = true := fun w h => hts w (List.mem_cons_of_mem _ h)
  have hl : lv_has ls 1 [(0, .int (nI 5))] := hl
  refine lv_iload_n hx hb d_MO_carrier_0 rfl (lv_at hl 0 rfl) ?_
  refine lv_iconst (v := nI 3) hx hb d_MO_carrier_1 (by decide) ?_
  refine k_icmp_ge (tgt := 12) hx hb d_MO_carrier_2 (by decide) (by omega) (by omega) (fun h2 => ?_) (fun h2 => ?_)
  · refine lv_iload_n hx hb d_MO_carrier_12 rfl (lv_at hl 0 rfl) ?_
    refine lv_bipush (v := nI 6) hx hb d_MO_carrier_13 (by decide) ?_
    refine k_icmp_ge (tgt := 25) hx hb d_MO_carrier_15 (by decide) (by omega) (by omega) (fun h15 => ?_) (fun h15 => ?_)
    · exfalso; omega
    · refine lv_bipush (v := nI 10) hx hb d_MO_carrier_18 (by decide) ?_
      refine lv_iload_n hx hb d_MO_carrier_20 rfl (lv_at hl 0 rfl) ?_
      refine k_iadd hx hb d_MO_carrier_21 ?_
      refine lv_goto (tgt := 40) hx hb d_MO_carrier_22 (by decide) ?_
      rw [hQ]
      exact k_iret () hx hb hr hlk hK hP hD hS [] (by decide) rfl trivial rfl d_MO_carrier_40
  · exfalso; omega
set_option maxHeartbeats 4000000 in
set_option maxRecDepth 100000 in
theorem c_MO_carrier_6 (l : Launch) (D : va_G) (tc : Nat → ClassId) (tb : Nat → Nat) : Mi l D tc tb y_MO_carrier prog_10_method_9_code 1 (some .int) ({ frames := 0, cells := 0, slots := 0, locals := 0 }) [.int (nI 6)] [] (fun _ : Unit => True) (fun _ : Unit => nI (codN 6)) (fun _ : Unit => []) := by
  refine Mi.go (by decide) (Nat.le_of_ble_eq_true rfl) ?_
  intro p e s m below meth c A ls R args Q C
  obtain ⟨hx, hb, hr, hts, hown, hlk, hml, hin, hA, hST, hN, hK, hP, hD, hS, hl, hR, hQ⟩ := C
  have hw : ∀ w ∈ lw_g, w.before args s = true := fun w h => hts w (List.mem_cons_of_mem _ h)
  have hl : lv_has ls 1 [(0, .int (nI 6))] := hl
  refine lv_iload_n hx hb d_MO_carrier_0 rfl (lv_at hl 0 rfl) ?_
  refine lv_iconst (v := nI 3) hx hb d_MO_carrier_1 (by decide) ?_
  refine k_icmp_ge (tgt := 12) hx hb d_MO_carrier_2 (by decide) (by omega) (by omega) (fun h2 => ?_) (fun h2 => ?_)
  · refine lv_iload_n hx hb d_MO_carrier_12 rfl (lv_at hl 0 rfl) ?_
    refine lv_bipush (v := nI 6) hx hb d_MO_carrier_13 (by decide) ?_
    refine k_icmp_ge (tgt := 25) hx hb d_MO_carrier_15 (by decide) (by omega) (by omega) (fun h15 => ?_) (fun h15 => ?_)
    · refine lv_iload_n hx hb d_MO_carrier_25 rfl (lv_at hl 0 rfl) ?_
      refine lv_bipush (v := nI 9) hx hb d_MO_carrier_26 (by decide) ?_
      refine k_icmp_ge (tgt := 37) hx hb d_MO_carrier_28 (by decide) (by omega) (by omega) (fun h28 => ?_) (fun h28 => ?_)
      · exfalso; omega
      · refine lv_iload_n hx hb d_MO_carrier_31 rfl (lv_at hl 0 rfl) ?_
        refine lv_iconst (v := nI 5) hx hb d_MO_carrier_32 (by decide) ?_
        refine k_isub hx hb d_MO_carrier_33 (by omega) ?_
        refine lv_goto (tgt := 40) hx hb d_MO_carrier_34 (by decide) ?_
        rw [hQ]
        exact k_iret () hx hb hr hlk hK hP hD hS [] (by decide) rfl trivial rfl d_MO_carrier_40
    · exfalso; omega
  · exfalso; omega
set_option maxHeartbeats 4000000 in
set_option maxRecDepth 100000 in
theorem c_MO_carrier_7 (l : Launch) (D : va_G) (tc : Nat → ClassId) (tb : Nat → Nat) : Mi l D tc tb y_MO_carrier prog_10_method_9_code 1 (some .int) ({ frames := 0, cells := 0, slots := 0, locals := 0 }) [.int (nI 7)] [] (fun _ : Unit => True) (fun _ : Unit => nI (codN 7)) (fun _ : Unit => []) := by
  refine Mi.go (by decide) (Nat.le_of_ble_eq_true rfl) ?_
  intro p e s m below meth c A ls R args Q C
  obtain ⟨hx, hb, hr, hts, hown, hlk, hml, hin, hA, hST, hN, hK, hP, hD, hS, hl, hR, hQ⟩ := C
  have hw : ∀ w ∈ lw_g, w.before args s = true := fun w h => hts w (List.mem_cons_of_mem _ h)
  have hl : lv_has ls 1 [(0, .int (nI 7))] := hl
  refine lv_iload_n hx hb d_MO_carrier_0 rfl (lv_at hl 0 rfl) ?_
  refine lv_iconst (v := nI 3) hx hb d_MO_carrier_1 (by decide) ?_
  refine k_icmp_ge (tgt := 12) hx hb d_MO_carrier_2 (by decide) (by omega) (by omega) (fun h2 => ?_) (fun h2 => ?_)
  · refine lv_iload_n hx hb d_MO_carrier_12 rfl (lv_at hl 0 rfl) ?_
    refine lv_bipush (v := nI 6) hx hb d_MO_carrier_13 (by decide) ?_
    refine k_icmp_ge (tgt := 25) hx hb d_MO_carrier_15 (by decide) (by omega) (by omega) (fun h15 => ?_) (fun h15 => ?_)
    · refine lv_iload_n hx hb d_MO_carrier_25 rfl (lv_at hl 0 rfl) ?_
      refine lv_bipush (v := nI 9) hx hb d_MO_carrier_26 (by decide) ?_
      refine k_icmp_ge (tgt := 37) hx hb d_MO_carrier_28 (by decide) (by omega) (by omega) (fun h28 => ?_) (fun h28 => ?_)
      · exfalso; omega
      · refine lv_iload_n hx hb d_MO_carrier_31 rfl (lv_at hl 0 rfl) ?_
        refine lv_iconst (v := nI 5) hx hb d_MO_carrier_32 (by decide) ?_
        refine k_isub hx hb d_MO_carrier_33 (by omega) ?_
        refine lv_goto (tgt := 40) hx hb d_MO_carrier_34 (by decide) ?_
        rw [hQ]
        exact k_iret () hx hb hr hlk hK hP hD hS [] (by decide) rfl trivial rfl d_MO_carrier_40
    · exfalso; omega
  · exfalso; omega
set_option maxHeartbeats 4000000 in
set_option maxRecDepth 100000 in
theorem c_MO_carrier_8 (l : Launch) (D : va_G) (tc : Nat → ClassId) (tb : Nat → Nat) : Mi l D tc tb y_MO_carrier prog_10_method_9_code 1 (some .int) ({ frames := 0, cells := 0, slots := 0, locals := 0 }) [.int (nI 8)] [] (fun _ : Unit => True) (fun _ : Unit => nI (codN 8)) (fun _ : Unit => []) := by
  refine Mi.go (by decide) (Nat.le_of_ble_eq_true rfl) ?_
  intro p e s m below meth c A ls R args Q C
  obtain ⟨hx, hb, hr, hts, hown, hlk, hml, hin, hA, hST, hN, hK, hP, hD, hS, hl, hR, hQ⟩ := C
  have hw : ∀ w ∈ lw_g, w.before args s = true := fun w h => hts w (List.mem_cons_of_mem _ h)
  have hl : lv_has ls 1 [(0, .int (nI 8))] := hl
  refine lv_iload_n hx hb d_MO_carrier_0 rfl (lv_at hl 0 rfl) ?_
  refine lv_iconst (v := nI 3) hx hb d_MO_carrier_1 (by decide) ?_
  refine k_icmp_ge (tgt := 12) hx hb d_MO_carrier_2 (by decide) (by omega) (by omega) (fun h2 => ?_) (fun h2 => ?_)
  · refine lv_iload_n hx hb d_MO_carrier_12 rfl (lv_at hl 0 rfl) ?_
    refine lv_bipush (v := nI 6) hx hb d_MO_carrier_13 (by decide) ?_
    refine k_icmp_ge (tgt := 25) hx hb d_MO_carrier_15 (by decide) (by omega) (by omega) (fun h15 => ?_) (fun h15 => ?_)
    · refine lv_iload_n hx hb d_MO_carrier_25 rfl (lv_at hl 0 rfl) ?_
      refine lv_bipush (v := nI 9) hx hb d_MO_carrier_26 (by decide) ?_
      refine k_icmp_ge (tgt := 37) hx hb d_MO_carrier_28 (by decide) (by omega) (by omega) (fun h28 => ?_) (fun h28 => ?_)
      · exfalso; omega
      · refine lv_iload_n hx hb d_MO_carrier_31 rfl (lv_at hl 0 rfl) ?_
        refine lv_iconst (v := nI 5) hx hb d_MO_carrier_32 (by decide) ?_
        refine k_isub hx hb d_MO_carrier_33 (by omega) ?_
        refine lv_goto (tgt := 40) hx hb d_MO_carrier_34 (by decide) ?_
        rw [hQ]
        exact k_iret () hx hb hr hlk hK hP hD hS [] (by decide) rfl trivial rfl d_MO_carrier_40
    · exfalso; omega
  · exfalso; omega
set_option maxHeartbeats 4000000 in
set_option maxRecDepth 100000 in
theorem c_MO_carrier_9 (l : Launch) (D : va_G) (tc : Nat → ClassId) (tb : Nat → Nat) : Mi l D tc tb y_MO_carrier prog_10_method_9_code 1 (some .int) ({ frames := 0, cells := 0, slots := 0, locals := 0 }) [.int (nI 9)] [] (fun _ : Unit => True) (fun _ : Unit => nI (codN 9)) (fun _ : Unit => []) := by
  refine Mi.go (by decide) (Nat.le_of_ble_eq_true rfl) ?_
  intro p e s m below meth c A ls R args Q C
  obtain ⟨hx, hb, hr, hts, hown, hlk, hml, hin, hA, hST, hN, hK, hP, hD, hS, hl, hR, hQ⟩ := C
  have hw : ∀ w ∈ lw_g, w.before args s = true := fun w h => hts w (List.mem_cons_of_mem _ h)
  have hl : lv_has ls 1 [(0, .int (nI 9))] := hl
  refine lv_iload_n hx hb d_MO_carrier_0 rfl (lv_at hl 0 rfl) ?_
  refine lv_iconst (v := nI 3) hx hb d_MO_carrier_1 (by decide) ?_
  refine k_icmp_ge (tgt := 12) hx hb d_MO_carrier_2 (by decide) (by omega) (by omega) (fun h2 => ?_) (fun h2 => ?_)
  · refine lv_iload_n hx hb d_MO_carrier_12 rfl (lv_at hl 0 rfl) ?_
    refine lv_bipush (v := nI 6) hx hb d_MO_carrier_13 (by decide) ?_
    refine k_icmp_ge (tgt := 25) hx hb d_MO_carrier_15 (by decide) (by omega) (by omega) (fun h15 => ?_) (fun h15 => ?_)
    · refine lv_iload_n hx hb d_MO_carrier_25 rfl (lv_at hl 0 rfl) ?_
      refine lv_bipush (v := nI 9) hx hb d_MO_carrier_26 (by decide) ?_
      refine k_icmp_ge (tgt := 37) hx hb d_MO_carrier_28 (by decide) (by omega) (by omega) (fun h28 => ?_) (fun h28 => ?_)
      · refine lv_iload_n hx hb d_MO_carrier_37 rfl (lv_at hl 0 rfl) ?_
        refine lv_iconst (v := nI 4) hx hb d_MO_carrier_38 (by decide) ?_
        refine k_isub hx hb d_MO_carrier_39 (by omega) ?_
        rw [hQ]
        exact k_iret () hx hb hr hlk hK hP hD hS [] (by decide) rfl trivial rfl d_MO_carrier_40
      · exfalso; omega
    · exfalso; omega
  · exfalso; omega
set_option maxHeartbeats 4000000 in
set_option maxRecDepth 100000 in
theorem c_MO_carrier_10 (l : Launch) (D : va_G) (tc : Nat → ClassId) (tb : Nat → Nat) : Mi l D tc tb y_MO_carrier prog_10_method_9_code 1 (some .int) ({ frames := 0, cells := 0, slots := 0, locals := 0 }) [.int (nI 10)] [] (fun _ : Unit => True) (fun _ : Unit => nI (codN 10)) (fun _ : Unit => []) := by
  refine Mi.go (by decide) (Nat.le_of_ble_eq_true rfl) ?_
  intro p e s m below meth c A ls R args Q C
  obtain ⟨hx, hb, hr, hts, hown, hlk, hml, hin, hA, hST, hN, hK, hP, hD, hS, hl, hR, hQ⟩ := C
  have hw : ∀ w ∈ lw_g, w.before args s = true := fun w h => hts w (List.mem_cons_of_mem _ h)
  have hl : lv_has ls 1 [(0, .int (nI 10))] := hl
  refine lv_iload_n hx hb d_MO_carrier_0 rfl (lv_at hl 0 rfl) ?_
  refine lv_iconst (v := nI 3) hx hb d_MO_carrier_1 (by decide) ?_
  refine k_icmp_ge (tgt := 12) hx hb d_MO_carrier_2 (by decide) (by omega) (by omega) (fun h2 => ?_) (fun h2 => ?_)
  · refine lv_iload_n hx hb d_MO_carrier_12 rfl (lv_at hl 0 rfl) ?_
    refine lv_bipush (v := nI 6) hx hb d_MO_carrier_13 (by decide) ?_
    refine k_icmp_ge (tgt := 25) hx hb d_MO_carrier_15 (by decide) (by omega) (by omega) (fun h15 => ?_) (fun h15 => ?_)
    · refine lv_iload_n hx hb d_MO_carrier_25 rfl (lv_at hl 0 rfl) ?_
      refine lv_bipush (v := nI 9) hx hb d_MO_carrier_26 (by decide) ?_
      refine k_icmp_ge (tgt := 37) hx hb d_MO_carrier_28 (by decide) (by omega) (by omega) (fun h28 => ?_) (fun h28 => ?_)
      · refine lv_iload_n hx hb d_MO_carrier_37 rfl (lv_at hl 0 rfl) ?_
        refine lv_iconst (v := nI 4) hx hb d_MO_carrier_38 (by decide) ?_
        refine k_isub hx hb d_MO_carrier_39 (by omega) ?_
        rw [hQ]
        exact k_iret () hx hb hr hlk hK hP hD hS [] (by decide) rfl trivial rfl d_MO_carrier_40
      · exfalso; omega
    · exfalso; omega
  · exfalso; omega
set_option maxHeartbeats 4000000 in
set_option maxRecDepth 100000 in
theorem c_MO_carrier_11 (l : Launch) (D : va_G) (tc : Nat → ClassId) (tb : Nat → Nat) : Mi l D tc tb y_MO_carrier prog_10_method_9_code 1 (some .int) ({ frames := 0, cells := 0, slots := 0, locals := 0 }) [.int (nI 11)] [] (fun _ : Unit => True) (fun _ : Unit => nI (codN 11)) (fun _ : Unit => []) := by
  refine Mi.go (by decide) (Nat.le_of_ble_eq_true rfl) ?_
  intro p e s m below meth c A ls R args Q C
  obtain ⟨hx, hb, hr, hts, hown, hlk, hml, hin, hA, hST, hN, hK, hP, hD, hS, hl, hR, hQ⟩ := C
  have hw : ∀ w ∈ lw_g, w.before args s = true := fun w h => hts w (List.mem_cons_of_mem _ h)
  have hl : lv_has ls 1 [(0, .int (nI 11))] := hl
  refine lv_iload_n hx hb d_MO_carrier_0 rfl (lv_at hl 0 rfl) ?_
  refine lv_iconst (v := nI 3) hx hb d_MO_carrier_1 (by decide) ?_
  refine k_icmp_ge (tgt := 12) hx hb d_MO_carrier_2 (by decide) (by omega) (by omega) (fun h2 => ?_) (fun h2 => ?_)
  · refine lv_iload_n hx hb d_MO_carrier_12 rfl (lv_at hl 0 rfl) ?_
    refine lv_bipush (v := nI 6) hx hb d_MO_carrier_13 (by decide) ?_
    refine k_icmp_ge (tgt := 25) hx hb d_MO_carrier_15 (by decide) (by omega) (by omega) (fun h15 => ?_) (fun h15 => ?_)
    · refine lv_iload_n hx hb d_MO_carrier_25 rfl (lv_at hl 0 rfl) ?_
      refine lv_bipush (v := nI 9) hx hb d_MO_carrier_26 (by decide) ?_
      refine k_icmp_ge (tgt := 37) hx hb d_MO_carrier_28 (by decide) (by omega) (by omega) (fun h28 => ?_) (fun h28 => ?_)
      · refine lv_iload_n hx hb d_MO_carrier_37 rfl (lv_at hl 0 rfl) ?_
        refine lv_iconst (v := nI 4) hx hb d_MO_carrier_38 (by decide) ?_
        refine k_isub hx hb d_MO_carrier_39 (by omega) ?_
        rw [hQ]
        exact k_iret () hx hb hr hlk hK hP hD hS [] (by decide) rfl trivial rfl d_MO_carrier_40
      · exfalso; omega
    · exfalso; omega
  · exfalso; omega
theorem c_MO_carrier (l : Launch) (D : va_G) (tc : Nat → ClassId) (tb : Nat → Nat) (k : Nat) (hw_ : k < 12) : Mi l D tc tb y_MO_carrier prog_10_method_9_code 1 (some .int) ({ frames := 0, cells := 0, slots := 0, locals := 0 }) [.int (nI k)] [] (fun _ : Unit => True) (fun _ : Unit => nI (codN k)) (fun _ : Unit => []) := by
  rcases (show k = 0 ∨ k = 1 ∨ k = 2 ∨ k = 3 ∨ k = 4 ∨ k = 5 ∨ k = 6 ∨ k = 7 ∨ k = 8 ∨ k = 9 ∨ k = 10 ∨ k = 11 by omega) with rfl | rfl | rfl | rfl | rfl | rfl | rfl | rfl | rfl | rfl | rfl | rfl
  · exact c_MO_carrier_0 l D tc tb
  · exact c_MO_carrier_1 l D tc tb
  · exact c_MO_carrier_2 l D tc tb
  · exact c_MO_carrier_3 l D tc tb
  · exact c_MO_carrier_4 l D tc tb
  · exact c_MO_carrier_5 l D tc tb
  · exact c_MO_carrier_6 l D tc tb
  · exact c_MO_carrier_7 l D tc tb
  · exact c_MO_carrier_8 l D tc tb
  · exact c_MO_carrier_9 l D tc tb
  · exact c_MO_carrier_10 l D tc tb
  · exact c_MO_carrier_11 l D tc tb
set_option maxHeartbeats 4000000 in
set_option maxRecDepth 100000 in
theorem c_MO_bitsOn_0 (l : Launch) (D : va_G) (tc : Nat → ClassId) (tb : Nat → Nat) : Mi l D tc tb y_MO_bitsOn prog_10_method_5_code 1 (some .int) ({ frames := 0, cells := 0, slots := 0, locals := 0 }) [.int (nI 0)] [] (fun _ : Unit => True) (fun _ : Unit => nI 1) (fun _ : Unit => []) := by
  refine Mi.go (by decide) (Nat.le_of_ble_eq_true rfl) ?_
  intro p e s m below meth c A ls R args Q C
  obtain ⟨hx, hb, hr, hts, hown, hlk, hml, hin, hA, hST, hN, hK, hP, hD, hS, hl, hR, hQ⟩ := C
  have hw : ∀ w ∈ lw_g, w.before args s = true := fun w h => hts w (List.mem_cons_of_mem _ h)
  have hl : lv_has ls 1 [(0, .int (nI 0))] := hl
  refine lv_iload_n hx hb d_MO_bitsOn_0 rfl (lv_at hl 0 rfl) ?_
  refine k_if_ne (tgt := 8) hx hb d_MO_bitsOn_1 (by decide) (by omega) (fun h1 => ?_) (fun h1 => ?_)
  · exfalso; omega
  · refine lv_iconst (v := nI 1) hx hb d_MO_bitsOn_4 (by decide) ?_
    refine lv_goto (tgt := 18) hx hb d_MO_bitsOn_5 (by decide) ?_
    rw [hQ]
    exact k_iret () hx hb hr hlk hK hP hD hS [] (by decide) rfl trivial rfl d_MO_bitsOn_18
set_option maxHeartbeats 4000000 in
set_option maxRecDepth 100000 in
theorem c_MO_dataOf_0 (l : Launch) (D : va_G) (tc : Nat → ClassId) (tb : Nat → Nat) : Mi l D tc tb y_MO_dataOf prog_10_method_6_code 1 (some .int) ({ frames := 0, cells := 0, slots := 0, locals := 0 }) [.int (nI 0)] [] (fun _ : Unit => True) (fun _ : Unit => nI 6) (fun _ : Unit => []) := by
  refine Mi.go (by decide) (Nat.le_of_ble_eq_true rfl) ?_
  intro p e s m below meth c A ls R args Q C
  obtain ⟨hx, hb, hr, hts, hown, hlk, hml, hin, hA, hST, hN, hK, hP, hD, hS, hl, hR, hQ⟩ := C
  have hw : ∀ w ∈ lw_g, w.before args s = true := fun w h => hts w (List.mem_cons_of_mem _ h)
  have hl : lv_has ls 1 [(0, .int (nI 0))] := hl
  refine lv_iload_n hx hb d_MO_dataOf_0 rfl (lv_at hl 0 rfl) ?_
  refine k_if_ne (tgt := 9) hx hb d_MO_dataOf_1 (by decide) (by omega) (fun h1 => ?_) (fun h1 => ?_)
  · exfalso; omega
  · refine lv_bipush (v := nI 6) hx hb d_MO_dataOf_4 (by decide) ?_
    refine lv_goto (tgt := 31) hx hb d_MO_dataOf_6 (by decide) ?_
    rw [hQ]
    exact k_iret () hx hb hr hlk hK hP hD hS [] (by decide) rfl trivial rfl d_MO_dataOf_31
set_option maxHeartbeats 4000000 in
set_option maxRecDepth 100000 in
theorem c_MO_symbolsFor_0 (l : Launch) (D : va_G) (tc : Nat → ClassId) (tb : Nat → Nat) (n : Nat) (hn : n < 13) : Mi l D tc tb y_MO_symbolsFor prog_10_method_7_code 2 (some .int) ({ frames := 1, cells := 0, slots := 0, locals := 20 }) [.int (nI 0), .int (nI n)] [] (fun _ : Unit => True) (fun _ : Unit => nI (syN 0 n)) (fun _ : Unit => []) := by
  refine Mi.go (by decide) (Nat.le_of_ble_eq_true rfl) ?_
  intro p e s m below meth c A ls R args Q C
  obtain ⟨hx, hb, hr, hts, hown, hlk, hml, hin, hA, hST, hN, hK, hP, hD, hS, hl, hR, hQ⟩ := C
  have hw : ∀ w ∈ lw_g, w.before args s = true := fun w h => hts w (List.mem_cons_of_mem _ h)
  have hl : lv_has ls 2 [(0, .int (nI 0)), (1, .int (nI n))] := hl
  refine lv_bipush (v := nI 13) hx hb d_MO_symbolsFor_0 (by decide) ?_
  refine lv_bipush (v := nI 8) hx hb d_MO_symbolsFor_2 (by decide) ?_
  refine lv_iload_n hx hb d_MO_symbolsFor_4 rfl (lv_at hl 1 rfl) ?_
  refine k_imul hx hb d_MO_symbolsFor_5 ?_
  refine k_iadd hx hb d_MO_symbolsFor_6 ?_
  refine lv_iload_n hx hb d_MO_symbolsFor_7 rfl (lv_at hl 0 rfl) ?_
  refine k_calli (wr := []) (k_runS (As := [.int (nI 0)]) (rest := [.int (nI (13 + (8 * n)))]) (wc := []) ⟨hx, hb, hml, hown, hts⟩ (c_MO_dataOf_0 l D tc tb   s.heap.size) (va_cwS 1 hts (k_goodS wd_891 wd_892 wd_11 wd_893) rfl rfl rfl hd_MO_dataOf ⟨by rw [hR]; exact Nat.le_of_ble_eq_true rfl, by rw [hR]; exact Nat.le_of_ble_eq_true rfl⟩) hK hP hD hS hST hN hA [] (by decide) rfl rfl hl.1 rfl (Nat.le_of_ble_eq_true rfl) d_MO_symbolsFor_8 ⟨by rw [hR]; exact Nat.le_of_ble_eq_true rfl, by rw [hR]; exact Nat.le_of_ble_eq_true rfl⟩) hP hD hS hA [] [] rfl rfl (by decide) (by decide) (fun _ H locs hp8 hP hD hS => ?_)
  have hP : va_P D classes [] H := hP
  have hD : va_D A [] := hD
  refine W.widen (k := 0) (n := 0) (Nat.le_of_ble_eq_true rfl) (Nat.le_of_ble_eq_true rfl) ?_
  refine W.eq (g2 := F0 m 11 ls [.int (nI 6), .int (nI (13 + (8 * n)))]) rfl ?_
  refine k_iadd hx hb d_MO_symbolsFor_11 ?_
  refine lv_iconst (v := nI 1) hx hb d_MO_symbolsFor_12 (by decide) ?_
  refine k_isub hx hb d_MO_symbolsFor_13 (by omega) ?_
  refine lv_iload_n hx hb d_MO_symbolsFor_14 rfl (lv_at hl 0 rfl) ?_
  refine k_calli (wr := []) (k_runS (As := [.int (nI 0)]) (rest := [.int (nI (((13 + (8 * n)) + 6) - 1))]) (wc := []) ⟨hx, hb, hml, hown, hts⟩ (c_MO_dataOf_0 l D tc tb   H.size) (va_cwS 1 hts (k_goodS wd_891 wd_892 wd_11 wd_893) rfl rfl rfl hd_MO_dataOf ⟨by rw [hR]; exact Nat.le_of_ble_eq_true rfl, by rw [hR]; exact Nat.le_of_ble_eq_true rfl⟩) hK hP hD hS hST hN hA [] (by decide) rfl rfl hl.1 rfl (Nat.le_of_ble_eq_true rfl) d_MO_symbolsFor_15 ⟨by rw [hR]; exact Nat.le_of_ble_eq_true rfl, by rw [hR]; exact Nat.le_of_ble_eq_true rfl⟩) hP hD hS hA [] [] rfl rfl (by decide) (by decide) (fun _ H locs hp15 hP hD hS => ?_)
  have hP : va_P D classes [] H := hP
  have hD : va_D A [] := hD
  refine W.widen (k := 0) (n := 0) (Nat.le_of_ble_eq_true rfl) (Nat.le_of_ble_eq_true rfl) ?_
  refine W.eq (g2 := F0 m 18 ls [.int (nI 6), .int (nI (((13 + (8 * n)) + 6) - 1))]) rfl ?_
  refine k_idiv hx hb d_MO_symbolsFor_18 (by omega) (by omega) (by omega) ?_
  rw [hQ]
  exact k_iret () hx hb hr hlk hK hP hD hS [] (by decide) rfl trivial (congrArg nI (by show _ = (7 + 8 * n + 6 + 6 - 1) / 6; omega)) d_MO_symbolsFor_19
set_option maxHeartbeats 4000000 in
set_option maxRecDepth 100000 in
theorem c_MO_bitsOn_1 (l : Launch) (D : va_G) (tc : Nat → ClassId) (tb : Nat → Nat) : Mi l D tc tb y_MO_bitsOn prog_10_method_5_code 1 (some .int) ({ frames := 0, cells := 0, slots := 0, locals := 0 }) [.int (nI 1)] [] (fun _ : Unit => True) (fun _ : Unit => nI 2) (fun _ : Unit => []) := by
  refine Mi.go (by decide) (Nat.le_of_ble_eq_true rfl) ?_
  intro p e s m below meth c A ls R args Q C
  obtain ⟨hx, hb, hr, hts, hown, hlk, hml, hin, hA, hST, hN, hK, hP, hD, hS, hl, hR, hQ⟩ := C
  have hw : ∀ w ∈ lw_g, w.before args s = true := fun w h => hts w (List.mem_cons_of_mem _ h)
  have hl : lv_has ls 1 [(0, .int (nI 1))] := hl
  refine lv_iload_n hx hb d_MO_bitsOn_0 rfl (lv_at hl 0 rfl) ?_
  refine k_if_ne (tgt := 8) hx hb d_MO_bitsOn_1 (by decide) (by omega) (fun h1 => ?_) (fun h1 => ?_)
  · refine lv_iload_n hx hb d_MO_bitsOn_8 rfl (lv_at hl 0 rfl) ?_
    refine lv_iconst (v := nI 3) hx hb d_MO_bitsOn_9 (by decide) ?_
    refine k_icmp_ge (tgt := 17) hx hb d_MO_bitsOn_10 (by decide) (by omega) (by omega) (fun h10 => ?_) (fun h10 => ?_)
    · exfalso; omega
    · refine lv_iconst (v := nI 2) hx hb d_MO_bitsOn_13 (by decide) ?_
      refine lv_goto (tgt := 18) hx hb d_MO_bitsOn_14 (by decide) ?_
      rw [hQ]
      exact k_iret () hx hb hr hlk hK hP hD hS [] (by decide) rfl trivial rfl d_MO_bitsOn_18
  · exfalso; omega
set_option maxHeartbeats 4000000 in
set_option maxRecDepth 100000 in
theorem c_MO_dataOf_1 (l : Launch) (D : va_G) (tc : Nat → ClassId) (tb : Nat → Nat) : Mi l D tc tb y_MO_dataOf prog_10_method_6_code 1 (some .int) ({ frames := 0, cells := 0, slots := 0, locals := 0 }) [.int (nI 1)] [] (fun _ : Unit => True) (fun _ : Unit => nI 12) (fun _ : Unit => []) := by
  refine Mi.go (by decide) (Nat.le_of_ble_eq_true rfl) ?_
  intro p e s m below meth c A ls R args Q C
  obtain ⟨hx, hb, hr, hts, hown, hlk, hml, hin, hA, hST, hN, hK, hP, hD, hS, hl, hR, hQ⟩ := C
  have hw : ∀ w ∈ lw_g, w.before args s = true := fun w h => hts w (List.mem_cons_of_mem _ h)
  have hl : lv_has ls 1 [(0, .int (nI 1))] := hl
  refine lv_iload_n hx hb d_MO_dataOf_0 rfl (lv_at hl 0 rfl) ?_
  refine k_if_ne (tgt := 9) hx hb d_MO_dataOf_1 (by decide) (by omega) (fun h1 => ?_) (fun h1 => ?_)
  · refine lv_iload_n hx hb d_MO_dataOf_9 rfl (lv_at hl 0 rfl) ?_
    refine lv_iconst (v := nI 1) hx hb d_MO_dataOf_10 (by decide) ?_
    refine k_icmp_ne (tgt := 19) hx hb d_MO_dataOf_11 (by decide) (by omega) (by omega) (fun h11 => ?_) (fun h11 => ?_)
    · exfalso; omega
    · refine lv_bipush (v := nI 12) hx hb d_MO_dataOf_14 (by decide) ?_
      refine lv_goto (tgt := 31) hx hb d_MO_dataOf_16 (by decide) ?_
      rw [hQ]
      exact k_iret () hx hb hr hlk hK hP hD hS [] (by decide) rfl trivial rfl d_MO_dataOf_31
  · exfalso; omega
set_option maxHeartbeats 4000000 in
set_option maxRecDepth 100000 in
theorem c_MO_symbolsFor_1 (l : Launch) (D : va_G) (tc : Nat → ClassId) (tb : Nat → Nat) (n : Nat) (hn : n < 13) : Mi l D tc tb y_MO_symbolsFor prog_10_method_7_code 2 (some .int) ({ frames := 1, cells := 0, slots := 0, locals := 20 }) [.int (nI 1), .int (nI n)] [] (fun _ : Unit => True) (fun _ : Unit => nI (syN 1 n)) (fun _ : Unit => []) := by
  refine Mi.go (by decide) (Nat.le_of_ble_eq_true rfl) ?_
  intro p e s m below meth c A ls R args Q C
  obtain ⟨hx, hb, hr, hts, hown, hlk, hml, hin, hA, hST, hN, hK, hP, hD, hS, hl, hR, hQ⟩ := C
  have hw : ∀ w ∈ lw_g, w.before args s = true := fun w h => hts w (List.mem_cons_of_mem _ h)
  have hl : lv_has ls 2 [(0, .int (nI 1)), (1, .int (nI n))] := hl
  refine lv_bipush (v := nI 13) hx hb d_MO_symbolsFor_0 (by decide) ?_
  refine lv_bipush (v := nI 8) hx hb d_MO_symbolsFor_2 (by decide) ?_
  refine lv_iload_n hx hb d_MO_symbolsFor_4 rfl (lv_at hl 1 rfl) ?_
  refine k_imul hx hb d_MO_symbolsFor_5 ?_
  refine k_iadd hx hb d_MO_symbolsFor_6 ?_
  refine lv_iload_n hx hb d_MO_symbolsFor_7 rfl (lv_at hl 0 rfl) ?_
  refine k_calli (wr := []) (k_runS (As := [.int (nI 1)]) (rest := [.int (nI (13 + (8 * n)))]) (wc := []) ⟨hx, hb, hml, hown, hts⟩ (c_MO_dataOf_1 l D tc tb   s.heap.size) (va_cwS 1 hts (k_goodS wd_891 wd_892 wd_11 wd_893) rfl rfl rfl hd_MO_dataOf ⟨by rw [hR]; exact Nat.le_of_ble_eq_true rfl, by rw [hR]; exact Nat.le_of_ble_eq_true rfl⟩) hK hP hD hS hST hN hA [] (by decide) rfl rfl hl.1 rfl (Nat.le_of_ble_eq_true rfl) d_MO_symbolsFor_8 ⟨by rw [hR]; exact Nat.le_of_ble_eq_true rfl, by rw [hR]; exact Nat.le_of_ble_eq_true rfl⟩) hP hD hS hA [] [] rfl rfl (by decide) (by decide) (fun _ H locs hp8 hP hD hS => ?_)
  have hP : va_P D classes [] H := hP
  have hD : va_D A [] := hD
  refine W.widen (k := 0) (n := 0) (Nat.le_of_ble_eq_true rfl) (Nat.le_of_ble_eq_true rfl) ?_
  refine W.eq (g2 := F0 m 11 ls [.int (nI 12), .int (nI (13 + (8 * n)))]) rfl ?_
  refine k_iadd hx hb d_MO_symbolsFor_11 ?_
  refine lv_iconst (v := nI 1) hx hb d_MO_symbolsFor_12 (by decide) ?_
  refine k_isub hx hb d_MO_symbolsFor_13 (by omega) ?_
  refine lv_iload_n hx hb d_MO_symbolsFor_14 rfl (lv_at hl 0 rfl) ?_
  refine k_calli (wr := []) (k_runS (As := [.int (nI 1)]) (rest := [.int (nI (((13 + (8 * n)) + 12) - 1))]) (wc := []) ⟨hx, hb, hml, hown, hts⟩ (c_MO_dataOf_1 l D tc tb   H.size) (va_cwS 1 hts (k_goodS wd_891 wd_892 wd_11 wd_893) rfl rfl rfl hd_MO_dataOf ⟨by rw [hR]; exact Nat.le_of_ble_eq_true rfl, by rw [hR]; exact Nat.le_of_ble_eq_true rfl⟩) hK hP hD hS hST hN hA [] (by decide) rfl rfl hl.1 rfl (Nat.le_of_ble_eq_true rfl) d_MO_symbolsFor_15 ⟨by rw [hR]; exact Nat.le_of_ble_eq_true rfl, by rw [hR]; exact Nat.le_of_ble_eq_true rfl⟩) hP hD hS hA [] [] rfl rfl (by decide) (by decide) (fun _ H locs hp15 hP hD hS => ?_)
  have hP : va_P D classes [] H := hP
  have hD : va_D A [] := hD
  refine W.widen (k := 0) (n := 0) (Nat.le_of_ble_eq_true rfl) (Nat.le_of_ble_eq_true rfl) ?_
  refine W.eq (g2 := F0 m 18 ls [.int (nI 12), .int (nI (((13 + (8 * n)) + 12) - 1))]) rfl ?_
  refine k_idiv hx hb d_MO_symbolsFor_18 (by omega) (by omega) (by omega) ?_
  rw [hQ]
  exact k_iret () hx hb hr hlk hK hP hD hS [] (by decide) rfl trivial (congrArg nI (by show _ = (7 + 8 * n + 6 + 12 - 1) / 12; omega)) d_MO_symbolsFor_19
set_option maxHeartbeats 4000000 in
set_option maxRecDepth 100000 in
theorem c_MO_bitsOn_2 (l : Launch) (D : va_G) (tc : Nat → ClassId) (tb : Nat → Nat) : Mi l D tc tb y_MO_bitsOn prog_10_method_5_code 1 (some .int) ({ frames := 0, cells := 0, slots := 0, locals := 0 }) [.int (nI 2)] [] (fun _ : Unit => True) (fun _ : Unit => nI 2) (fun _ : Unit => []) := by
  refine Mi.go (by decide) (Nat.le_of_ble_eq_true rfl) ?_
  intro p e s m below meth c A ls R args Q C
  obtain ⟨hx, hb, hr, hts, hown, hlk, hml, hin, hA, hST, hN, hK, hP, hD, hS, hl, hR, hQ⟩ := C
  have hw : ∀ w ∈ lw_g, w.before args s = true := fun w h => hts w (List.mem_cons_of_mem _ h)
  have hl : lv_has ls 1 [(0, .int (nI 2))] := hl
  refine lv_iload_n hx hb d_MO_bitsOn_0 rfl (lv_at hl 0 rfl) ?_
  refine k_if_ne (tgt := 8) hx hb d_MO_bitsOn_1 (by decide) (by omega) (fun h1 => ?_) (fun h1 => ?_)
  · refine lv_iload_n hx hb d_MO_bitsOn_8 rfl (lv_at hl 0 rfl) ?_
    refine lv_iconst (v := nI 3) hx hb d_MO_bitsOn_9 (by decide) ?_
    refine k_icmp_ge (tgt := 17) hx hb d_MO_bitsOn_10 (by decide) (by omega) (by omega) (fun h10 => ?_) (fun h10 => ?_)
    · exfalso; omega
    · refine lv_iconst (v := nI 2) hx hb d_MO_bitsOn_13 (by decide) ?_
      refine lv_goto (tgt := 18) hx hb d_MO_bitsOn_14 (by decide) ?_
      rw [hQ]
      exact k_iret () hx hb hr hlk hK hP hD hS [] (by decide) rfl trivial rfl d_MO_bitsOn_18
  · exfalso; omega
set_option maxHeartbeats 4000000 in
set_option maxRecDepth 100000 in
theorem c_MO_dataOf_2 (l : Launch) (D : va_G) (tc : Nat → ClassId) (tb : Nat → Nat) : Mi l D tc tb y_MO_dataOf prog_10_method_6_code 1 (some .int) ({ frames := 0, cells := 0, slots := 0, locals := 0 }) [.int (nI 2)] [] (fun _ : Unit => True) (fun _ : Unit => nI 18) (fun _ : Unit => []) := by
  refine Mi.go (by decide) (Nat.le_of_ble_eq_true rfl) ?_
  intro p e s m below meth c A ls R args Q C
  obtain ⟨hx, hb, hr, hts, hown, hlk, hml, hin, hA, hST, hN, hK, hP, hD, hS, hl, hR, hQ⟩ := C
  have hw : ∀ w ∈ lw_g, w.before args s = true := fun w h => hts w (List.mem_cons_of_mem _ h)
  have hl : lv_has ls 1 [(0, .int (nI 2))] := hl
  refine lv_iload_n hx hb d_MO_dataOf_0 rfl (lv_at hl 0 rfl) ?_
  refine k_if_ne (tgt := 9) hx hb d_MO_dataOf_1 (by decide) (by omega) (fun h1 => ?_) (fun h1 => ?_)
  · refine lv_iload_n hx hb d_MO_dataOf_9 rfl (lv_at hl 0 rfl) ?_
    refine lv_iconst (v := nI 1) hx hb d_MO_dataOf_10 (by decide) ?_
    refine k_icmp_ne (tgt := 19) hx hb d_MO_dataOf_11 (by decide) (by omega) (by omega) (fun h11 => ?_) (fun h11 => ?_)
    · refine lv_iload_n hx hb d_MO_dataOf_19 rfl (lv_at hl 0 rfl) ?_
      refine lv_iconst (v := nI 2) hx hb d_MO_dataOf_20 (by decide) ?_
      refine k_icmp_ne (tgt := 29) hx hb d_MO_dataOf_21 (by decide) (by omega) (by omega) (fun h21 => ?_) (fun h21 => ?_)
      · exfalso; omega
      · refine lv_bipush (v := nI 18) hx hb d_MO_dataOf_24 (by decide) ?_
        refine lv_goto (tgt := 31) hx hb d_MO_dataOf_26 (by decide) ?_
        rw [hQ]
        exact k_iret () hx hb hr hlk hK hP hD hS [] (by decide) rfl trivial rfl d_MO_dataOf_31
    · exfalso; omega
  · exfalso; omega
set_option maxHeartbeats 4000000 in
set_option maxRecDepth 100000 in
theorem c_MO_symbolsFor_2 (l : Launch) (D : va_G) (tc : Nat → ClassId) (tb : Nat → Nat) (n : Nat) (hn : n < 13) : Mi l D tc tb y_MO_symbolsFor prog_10_method_7_code 2 (some .int) ({ frames := 1, cells := 0, slots := 0, locals := 20 }) [.int (nI 2), .int (nI n)] [] (fun _ : Unit => True) (fun _ : Unit => nI (syN 2 n)) (fun _ : Unit => []) := by
  refine Mi.go (by decide) (Nat.le_of_ble_eq_true rfl) ?_
  intro p e s m below meth c A ls R args Q C
  obtain ⟨hx, hb, hr, hts, hown, hlk, hml, hin, hA, hST, hN, hK, hP, hD, hS, hl, hR, hQ⟩ := C
  have hw : ∀ w ∈ lw_g, w.before args s = true := fun w h => hts w (List.mem_cons_of_mem _ h)
  have hl : lv_has ls 2 [(0, .int (nI 2)), (1, .int (nI n))] := hl
  refine lv_bipush (v := nI 13) hx hb d_MO_symbolsFor_0 (by decide) ?_
  refine lv_bipush (v := nI 8) hx hb d_MO_symbolsFor_2 (by decide) ?_
  refine lv_iload_n hx hb d_MO_symbolsFor_4 rfl (lv_at hl 1 rfl) ?_
  refine k_imul hx hb d_MO_symbolsFor_5 ?_
  refine k_iadd hx hb d_MO_symbolsFor_6 ?_
  refine lv_iload_n hx hb d_MO_symbolsFor_7 rfl (lv_at hl 0 rfl) ?_
  refine k_calli (wr := []) (k_runS (As := [.int (nI 2)]) (rest := [.int (nI (13 + (8 * n)))]) (wc := []) ⟨hx, hb, hml, hown, hts⟩ (c_MO_dataOf_2 l D tc tb   s.heap.size) (va_cwS 1 hts (k_goodS wd_891 wd_892 wd_11 wd_893) rfl rfl rfl hd_MO_dataOf ⟨by rw [hR]; exact Nat.le_of_ble_eq_true rfl, by rw [hR]; exact Nat.le_of_ble_eq_true rfl⟩) hK hP hD hS hST hN hA [] (by decide) rfl rfl hl.1 rfl (Nat.le_of_ble_eq_true rfl) d_MO_symbolsFor_8 ⟨by rw [hR]; exact Nat.le_of_ble_eq_true rfl, by rw [hR]; exact Nat.le_of_ble_eq_true rfl⟩) hP hD hS hA [] [] rfl rfl (by decide) (by decide) (fun _ H locs hp8 hP hD hS => ?_)
  have hP : va_P D classes [] H := hP
  have hD : va_D A [] := hD
  refine W.widen (k := 0) (n := 0) (Nat.le_of_ble_eq_true rfl) (Nat.le_of_ble_eq_true rfl) ?_
  refine W.eq (g2 := F0 m 11 ls [.int (nI 18), .int (nI (13 + (8 * n)))]) rfl ?_
  refine k_iadd hx hb d_MO_symbolsFor_11 ?_
  refine lv_iconst (v := nI 1) hx hb d_MO_symbolsFor_12 (by decide) ?_
  refine k_isub hx hb d_MO_symbolsFor_13 (by omega) ?_
  refine lv_iload_n hx hb d_MO_symbolsFor_14 rfl (lv_at hl 0 rfl) ?_
  refine k_calli (wr := []) (k_runS (As := [.int (nI 2)]) (rest := [.int (nI (((13 + (8 * n)) + 18) - 1))]) (wc := []) ⟨hx, hb, hml, hown, hts⟩ (c_MO_dataOf_2 l D tc tb   H.size) (va_cwS 1 hts (k_goodS wd_891 wd_892 wd_11 wd_893) rfl rfl rfl hd_MO_dataOf ⟨by rw [hR]; exact Nat.le_of_ble_eq_true rfl, by rw [hR]; exact Nat.le_of_ble_eq_true rfl⟩) hK hP hD hS hST hN hA [] (by decide) rfl rfl hl.1 rfl (Nat.le_of_ble_eq_true rfl) d_MO_symbolsFor_15 ⟨by rw [hR]; exact Nat.le_of_ble_eq_true rfl, by rw [hR]; exact Nat.le_of_ble_eq_true rfl⟩) hP hD hS hA [] [] rfl rfl (by decide) (by decide) (fun _ H locs hp15 hP hD hS => ?_)
  have hP : va_P D classes [] H := hP
  have hD : va_D A [] := hD
  refine W.widen (k := 0) (n := 0) (Nat.le_of_ble_eq_true rfl) (Nat.le_of_ble_eq_true rfl) ?_
  refine W.eq (g2 := F0 m 18 ls [.int (nI 18), .int (nI (((13 + (8 * n)) + 18) - 1))]) rfl ?_
  refine k_idiv hx hb d_MO_symbolsFor_18 (by omega) (by omega) (by omega) ?_
  rw [hQ]
  exact k_iret () hx hb hr hlk hK hP hD hS [] (by decide) rfl trivial (congrArg nI (by show _ = (7 + 8 * n + 6 + 18 - 1) / 18; omega)) d_MO_symbolsFor_19
set_option maxHeartbeats 4000000 in
set_option maxRecDepth 100000 in
theorem c_MO_bitsOn_3 (l : Launch) (D : va_G) (tc : Nat → ClassId) (tb : Nat → Nat) : Mi l D tc tb y_MO_bitsOn prog_10_method_5_code 1 (some .int) ({ frames := 0, cells := 0, slots := 0, locals := 0 }) [.int (nI 3)] [] (fun _ : Unit => True) (fun _ : Unit => nI 4) (fun _ : Unit => []) := by
  refine Mi.go (by decide) (Nat.le_of_ble_eq_true rfl) ?_
  intro p e s m below meth c A ls R args Q C
  obtain ⟨hx, hb, hr, hts, hown, hlk, hml, hin, hA, hST, hN, hK, hP, hD, hS, hl, hR, hQ⟩ := C
  have hw : ∀ w ∈ lw_g, w.before args s = true := fun w h => hts w (List.mem_cons_of_mem _ h)
  have hl : lv_has ls 1 [(0, .int (nI 3))] := hl
  refine lv_iload_n hx hb d_MO_bitsOn_0 rfl (lv_at hl 0 rfl) ?_
  refine k_if_ne (tgt := 8) hx hb d_MO_bitsOn_1 (by decide) (by omega) (fun h1 => ?_) (fun h1 => ?_)
  · refine lv_iload_n hx hb d_MO_bitsOn_8 rfl (lv_at hl 0 rfl) ?_
    refine lv_iconst (v := nI 3) hx hb d_MO_bitsOn_9 (by decide) ?_
    refine k_icmp_ge (tgt := 17) hx hb d_MO_bitsOn_10 (by decide) (by omega) (by omega) (fun h10 => ?_) (fun h10 => ?_)
    · refine lv_iconst (v := nI 4) hx hb d_MO_bitsOn_17 (by decide) ?_
      rw [hQ]
      exact k_iret () hx hb hr hlk hK hP hD hS [] (by decide) rfl trivial rfl d_MO_bitsOn_18
    · exfalso; omega
  · exfalso; omega
set_option maxHeartbeats 4000000 in
set_option maxRecDepth 100000 in
theorem c_MO_dataOf_3 (l : Launch) (D : va_G) (tc : Nat → ClassId) (tb : Nat → Nat) : Mi l D tc tb y_MO_dataOf prog_10_method_6_code 1 (some .int) ({ frames := 0, cells := 0, slots := 0, locals := 0 }) [.int (nI 3)] [] (fun _ : Unit => True) (fun _ : Unit => nI 36) (fun _ : Unit => []) := by
  refine Mi.go (by decide) (Nat.le_of_ble_eq_true rfl) ?_
  intro p e s m below meth c A ls R args Q C
  obtain ⟨hx, hb, hr, hts, hown, hlk, hml, hin, hA, hST, hN, hK, hP, hD, hS, hl, hR, hQ⟩ := C
  have hw : ∀ w ∈ lw_g, w.before args s = true := fun w h => hts w (List.mem_cons_of_mem _ h)
  have hl : lv_has ls 1 [(0, .int (nI 3))] := hl
  refine lv_iload_n hx hb d_MO_dataOf_0 rfl (lv_at hl 0 rfl) ?_
  refine k_if_ne (tgt := 9) hx hb d_MO_dataOf_1 (by decide) (by omega) (fun h1 => ?_) (fun h1 => ?_)
  · refine lv_iload_n hx hb d_MO_dataOf_9 rfl (lv_at hl 0 rfl) ?_
    refine lv_iconst (v := nI 1) hx hb d_MO_dataOf_10 (by decide) ?_
    refine k_icmp_ne (tgt := 19) hx hb d_MO_dataOf_11 (by decide) (by omega) (by omega) (fun h11 => ?_) (fun h11 => ?_)
    · refine lv_iload_n hx hb d_MO_dataOf_19 rfl (lv_at hl 0 rfl) ?_
      refine lv_iconst (v := nI 2) hx hb d_MO_dataOf_20 (by decide) ?_
      refine k_icmp_ne (tgt := 29) hx hb d_MO_dataOf_21 (by decide) (by omega) (by omega) (fun h21 => ?_) (fun h21 => ?_)
      · refine lv_bipush (v := nI 36) hx hb d_MO_dataOf_29 (by decide) ?_
        rw [hQ]
        exact k_iret () hx hb hr hlk hK hP hD hS [] (by decide) rfl trivial rfl d_MO_dataOf_31
      · exfalso; omega
    · exfalso; omega
  · exfalso; omega
set_option maxHeartbeats 4000000 in
set_option maxRecDepth 100000 in
theorem c_MO_symbolsFor_3 (l : Launch) (D : va_G) (tc : Nat → ClassId) (tb : Nat → Nat) (n : Nat) (hn : n < 13) : Mi l D tc tb y_MO_symbolsFor prog_10_method_7_code 2 (some .int) ({ frames := 1, cells := 0, slots := 0, locals := 20 }) [.int (nI 3), .int (nI n)] [] (fun _ : Unit => True) (fun _ : Unit => nI (syN 3 n)) (fun _ : Unit => []) := by
  refine Mi.go (by decide) (Nat.le_of_ble_eq_true rfl) ?_
  intro p e s m below meth c A ls R args Q C
  obtain ⟨hx, hb, hr, hts, hown, hlk, hml, hin, hA, hST, hN, hK, hP, hD, hS, hl, hR, hQ⟩ := C
  have hw : ∀ w ∈ lw_g, w.before args s = true := fun w h => hts w (List.mem_cons_of_mem _ h)
  have hl : lv_has ls 2 [(0, .int (nI 3)), (1, .int (nI n))] := hl
  refine lv_bipush (v := nI 13) hx hb d_MO_symbolsFor_0 (by decide) ?_
  refine lv_bipush (v := nI 8) hx hb d_MO_symbolsFor_2 (by decide) ?_
  refine lv_iload_n hx hb d_MO_symbolsFor_4 rfl (lv_at hl 1 rfl) ?_
  refine k_imul hx hb d_MO_symbolsFor_5 ?_
  refine k_iadd hx hb d_MO_symbolsFor_6 ?_
  refine lv_iload_n hx hb d_MO_symbolsFor_7 rfl (lv_at hl 0 rfl) ?_
  refine k_calli (wr := []) (k_runS (As := [.int (nI 3)]) (rest := [.int (nI (13 + (8 * n)))]) (wc := []) ⟨hx, hb, hml, hown, hts⟩ (c_MO_dataOf_3 l D tc tb   s.heap.size) (va_cwS 1 hts (k_goodS wd_891 wd_892 wd_11 wd_893) rfl rfl rfl hd_MO_dataOf ⟨by rw [hR]; exact Nat.le_of_ble_eq_true rfl, by rw [hR]; exact Nat.le_of_ble_eq_true rfl⟩) hK hP hD hS hST hN hA [] (by decide) rfl rfl hl.1 rfl (Nat.le_of_ble_eq_true rfl) d_MO_symbolsFor_8 ⟨by rw [hR]; exact Nat.le_of_ble_eq_true rfl, by rw [hR]; exact Nat.le_of_ble_eq_true rfl⟩) hP hD hS hA [] [] rfl rfl (by decide) (by decide) (fun _ H locs hp8 hP hD hS => ?_)
  have hP : va_P D classes [] H := hP
  have hD : va_D A [] := hD
  refine W.widen (k := 0) (n := 0) (Nat.le_of_ble_eq_true rfl) (Nat.le_of_ble_eq_true rfl) ?_
  refine W.eq (g2 := F0 m 11 ls [.int (nI 36), .int (nI (13 + (8 * n)))]) rfl ?_
  refine k_iadd hx hb d_MO_symbolsFor_11 ?_
  refine lv_iconst (v := nI 1) hx hb d_MO_symbolsFor_12 (by decide) ?_
  refine k_isub hx hb d_MO_symbolsFor_13 (by omega) ?_
  refine lv_iload_n hx hb d_MO_symbolsFor_14 rfl (lv_at hl 0 rfl) ?_
  refine k_calli (wr := []) (k_runS (As := [.int (nI 3)]) (rest := [.int (nI (((13 + (8 * n)) + 36) - 1))]) (wc := []) ⟨hx, hb, hml, hown, hts⟩ (c_MO_dataOf_3 l D tc tb   H.size) (va_cwS 1 hts (k_goodS wd_891 wd_892 wd_11 wd_893) rfl rfl rfl hd_MO_dataOf ⟨by rw [hR]; exact Nat.le_of_ble_eq_true rfl, by rw [hR]; exact Nat.le_of_ble_eq_true rfl⟩) hK hP hD hS hST hN hA [] (by decide) rfl rfl hl.1 rfl (Nat.le_of_ble_eq_true rfl) d_MO_symbolsFor_15 ⟨by rw [hR]; exact Nat.le_of_ble_eq_true rfl, by rw [hR]; exact Nat.le_of_ble_eq_true rfl⟩) hP hD hS hA [] [] rfl rfl (by decide) (by decide) (fun _ H locs hp15 hP hD hS => ?_)
  have hP : va_P D classes [] H := hP
  have hD : va_D A [] := hD
  refine W.widen (k := 0) (n := 0) (Nat.le_of_ble_eq_true rfl) (Nat.le_of_ble_eq_true rfl) ?_
  refine W.eq (g2 := F0 m 18 ls [.int (nI 36), .int (nI (((13 + (8 * n)) + 36) - 1))]) rfl ?_
  refine k_idiv hx hb d_MO_symbolsFor_18 (by omega) (by omega) (by omega) ?_
  rw [hQ]
  exact k_iret () hx hb hr hlk hK hP hD hS [] (by decide) rfl trivial (congrArg nI (by show _ = (7 + 8 * n + 6 + 36 - 1) / 36; omega)) d_MO_symbolsFor_19
set_option maxHeartbeats 4000000 in
set_option maxRecDepth 100000 in
theorem c_MO_place_1 (l : Launch) (D : va_G) (tc : Nat → ClassId) (tb : Nat → Nat) (k : Nat) (hk : k < 12) : Mi l D tc tb y_MO_place prog_10_method_11_code 5 (some .int) ({ frames := 0, cells := 0, slots := 0, locals := 0 }) [.int (nI k), .int (nI 12), .int (nI 1)] [] (fun _ : Unit => True) (fun _ : Unit => nI (placeN k 1)) (fun _ : Unit => []) := by
  refine Mi.go (by decide) (Nat.le_of_ble_eq_true rfl) ?_
  intro p e s m below meth c A ls R args Q C
  obtain ⟨hx, hb, hr, hts, hown, hlk, hml, hin, hA, hST, hN, hK, hP, hD, hS, hl, hR, hQ⟩ := C
  have hw : ∀ w ∈ lw_g, w.before args s = true := fun w h => hts w (List.mem_cons_of_mem _ h)
  have hl : lv_has ls 5 [(0, .int (nI k)), (1, .int (nI 12)), (2, .int (nI 1))] := hl
  refine lv_iload_n hx hb d_MO_place_0 rfl (lv_at hl 1 rfl) ?_
  refine lv_iconst (v := nI 4) hx hb d_MO_place_1 (by decide) ?_
  refine k_idiv hx hb d_MO_place_2 (by omega) (by omega) (by omega) ?_
  refine lv_iload_n hx hb d_MO_place_3 rfl (lv_at hl 0 rfl) ?_
  refine lv_iconst (v := nI 4) hx hb d_MO_place_4 (by decide) ?_
  refine k_irem hx hb d_MO_place_5 (by omega) (by omega) (by omega) ?_
  refine k_imul hx hb d_MO_place_6 ?_
  refine lv_iload_n hx hb d_MO_place_7 rfl (lv_at hl 0 rfl) ?_
  refine lv_iconst (v := nI 4) hx hb d_MO_place_8 (by decide) ?_
  refine k_idiv hx hb d_MO_place_9 (by omega) (by omega) (by omega) ?_
  refine k_iadd hx hb d_MO_place_10 ?_
  refine lv_istore_n (lv' := [(3, .int (nI ((3 * (k % 4)) + (k / 4)))), (0, .int (nI k)), (1, .int (nI 12)), (2, .int (nI 1))]) hx hb d_MO_place_11 rfl hl (by decide) rfl (fun ls hl => ?_)
  refine lv_iload_n hx hb d_MO_place_12 rfl (lv_at hl 3 rfl) ?_
  refine lv_iconst (v := nI 4) hx hb d_MO_place_13 (by decide) ?_
  refine k_icmp_ge (tgt := 21) hx hb d_MO_place_14 (by decide) (by omega) (by omega) (fun h14 => ?_) (fun h14 => ?_)
  · exfalso; omega
  · refine lv_iconst (v := nI 1) hx hb d_MO_place_17 (by decide) ?_
    refine lv_goto (tgt := 22) hx hb d_MO_place_18 (by decide) ?_
    refine lv_istore (lv' := [(4, .int (nI 1)), (3, .int (nI ((3 * (k % 4)) + (k / 4)))), (0, .int (nI k)), (1, .int (nI 12)), (2, .int (nI 1))]) hx hb d_MO_place_22 hl (by decide) rfl (fun ls hl => ?_)
    refine lv_iload hx hb d_MO_place_24 (lv_at hl 0 rfl) ?_
    refine lv_iload_n hx hb d_MO_place_26 rfl (lv_at hl 1 rfl) ?_
    refine lv_iload hx hb d_MO_place_27 (lv_at hl 0 rfl) ?_
    refine k_idiv hx hb d_MO_place_29 (by omega) (by omega) (by omega) ?_
    refine k_imul hx hb d_MO_place_30 ?_
    refine lv_iload_n hx hb d_MO_place_31 rfl (lv_at hl 1 rfl) ?_
    refine lv_iload_n hx hb d_MO_place_32 rfl (lv_at hl 3 rfl) ?_
    refine k_iadd hx hb d_MO_place_33 ?_
    refine lv_iconst (v := nI 4) hx hb d_MO_place_34 (by decide) ?_
    refine lv_iload_n hx hb d_MO_place_35 rfl (lv_at hl 1 rfl) ?_
    refine k_imul hx hb d_MO_place_36 ?_
    refine lv_iload_n hx hb d_MO_place_37 rfl (lv_at hl 3 rfl) ?_
    refine k_idiv hx hb d_MO_place_38 (by omega) (by omega) (by omega) ?_
    refine k_isub hx hb d_MO_place_39 (by omega) ?_
    refine lv_iload hx hb d_MO_place_40 (lv_at hl 0 rfl) ?_
    refine k_irem hx hb d_MO_place_42 (by omega) (by omega) (by omega) ?_
    refine k_iadd hx hb d_MO_place_43 ?_
    rw [hQ]
    exact k_iret () hx hb hr hlk hK hP hD hS [] (by decide) rfl trivial rfl d_MO_place_44
set_option maxHeartbeats 4000000 in
set_option maxRecDepth 100000 in
theorem c_MO_place_2 (l : Launch) (D : va_G) (tc : Nat → ClassId) (tb : Nat → Nat) (k : Nat) (hk : k < 24) : Mi l D tc tb y_MO_place prog_10_method_11_code 5 (some .int) ({ frames := 0, cells := 0, slots := 0, locals := 0 }) [.int (nI k), .int (nI 24), .int (nI 2)] [] (fun _ : Unit => True) (fun _ : Unit => nI (placeN k 2)) (fun _ : Unit => []) := by
  refine Mi.go (by decide) (Nat.le_of_ble_eq_true rfl) ?_
  intro p e s m below meth c A ls R args Q C
  obtain ⟨hx, hb, hr, hts, hown, hlk, hml, hin, hA, hST, hN, hK, hP, hD, hS, hl, hR, hQ⟩ := C
  have hw : ∀ w ∈ lw_g, w.before args s = true := fun w h => hts w (List.mem_cons_of_mem _ h)
  have hl : lv_has ls 5 [(0, .int (nI k)), (1, .int (nI 24)), (2, .int (nI 2))] := hl
  refine lv_iload_n hx hb d_MO_place_0 rfl (lv_at hl 1 rfl) ?_
  refine lv_iconst (v := nI 4) hx hb d_MO_place_1 (by decide) ?_
  refine k_idiv hx hb d_MO_place_2 (by omega) (by omega) (by omega) ?_
  refine lv_iload_n hx hb d_MO_place_3 rfl (lv_at hl 0 rfl) ?_
  refine lv_iconst (v := nI 4) hx hb d_MO_place_4 (by decide) ?_
  refine k_irem hx hb d_MO_place_5 (by omega) (by omega) (by omega) ?_
  refine k_imul hx hb d_MO_place_6 ?_
  refine lv_iload_n hx hb d_MO_place_7 rfl (lv_at hl 0 rfl) ?_
  refine lv_iconst (v := nI 4) hx hb d_MO_place_8 (by decide) ?_
  refine k_idiv hx hb d_MO_place_9 (by omega) (by omega) (by omega) ?_
  refine k_iadd hx hb d_MO_place_10 ?_
  refine lv_istore_n (lv' := [(3, .int (nI ((6 * (k % 4)) + (k / 4)))), (0, .int (nI k)), (1, .int (nI 24)), (2, .int (nI 2))]) hx hb d_MO_place_11 rfl hl (by decide) rfl (fun ls hl => ?_)
  refine lv_iload_n hx hb d_MO_place_12 rfl (lv_at hl 3 rfl) ?_
  refine lv_iconst (v := nI 4) hx hb d_MO_place_13 (by decide) ?_
  refine k_icmp_ge (tgt := 21) hx hb d_MO_place_14 (by decide) (by omega) (by omega) (fun h14 => ?_) (fun h14 => ?_)
  · exfalso; omega
  · refine lv_iconst (v := nI 1) hx hb d_MO_place_17 (by decide) ?_
    refine lv_goto (tgt := 22) hx hb d_MO_place_18 (by decide) ?_
    refine lv_istore (lv' := [(4, .int (nI 1)), (3, .int (nI ((6 * (k % 4)) + (k / 4)))), (0, .int (nI k)), (1, .int (nI 24)), (2, .int (nI 2))]) hx hb d_MO_place_22 hl (by decide) rfl (fun ls hl => ?_)
    refine lv_iload hx hb d_MO_place_24 (lv_at hl 0 rfl) ?_
    refine lv_iload_n hx hb d_MO_place_26 rfl (lv_at hl 1 rfl) ?_
    refine lv_iload hx hb d_MO_place_27 (lv_at hl 0 rfl) ?_
    refine k_idiv hx hb d_MO_place_29 (by omega) (by omega) (by omega) ?_
    refine k_imul hx hb d_MO_place_30 ?_
    refine lv_iload_n hx hb d_MO_place_31 rfl (lv_at hl 1 rfl) ?_
    refine lv_iload_n hx hb d_MO_place_32 rfl (lv_at hl 3 rfl) ?_
    refine k_iadd hx hb d_MO_place_33 ?_
    refine lv_iconst (v := nI 4) hx hb d_MO_place_34 (by decide) ?_
    refine lv_iload_n hx hb d_MO_place_35 rfl (lv_at hl 1 rfl) ?_
    refine k_imul hx hb d_MO_place_36 ?_
    refine lv_iload_n hx hb d_MO_place_37 rfl (lv_at hl 3 rfl) ?_
    refine k_idiv hx hb d_MO_place_38 (by omega) (by omega) (by omega) ?_
    refine k_isub hx hb d_MO_place_39 (by omega) ?_
    refine lv_iload hx hb d_MO_place_40 (lv_at hl 0 rfl) ?_
    refine k_irem hx hb d_MO_place_42 (by omega) (by omega) (by omega) ?_
    refine k_iadd hx hb d_MO_place_43 ?_
    rw [hQ]
    exact k_iret () hx hb hr hlk hK hP hD hS [] (by decide) rfl trivial rfl d_MO_place_44
set_option maxHeartbeats 4000000 in
set_option maxRecDepth 100000 in
theorem c_MO_place_4 (l : Launch) (D : va_G) (tc : Nat → ClassId) (tb : Nat → Nat) (k : Nat) (hk : k < 48) : Mi l D tc tb y_MO_place prog_10_method_11_code 5 (some .int) ({ frames := 0, cells := 0, slots := 0, locals := 0 }) [.int (nI k), .int (nI 48), .int (nI 4)] [] (fun _ : Unit => True) (fun _ : Unit => nI (placeN k 4)) (fun _ : Unit => []) := by
  refine Mi.go (by decide) (Nat.le_of_ble_eq_true rfl) ?_
  intro p e s m below meth c A ls R args Q C
  obtain ⟨hx, hb, hr, hts, hown, hlk, hml, hin, hA, hST, hN, hK, hP, hD, hS, hl, hR, hQ⟩ := C
  have hw : ∀ w ∈ lw_g, w.before args s = true := fun w h => hts w (List.mem_cons_of_mem _ h)
  have hl : lv_has ls 5 [(0, .int (nI k)), (1, .int (nI 48)), (2, .int (nI 4))] := hl
  refine lv_iload_n hx hb d_MO_place_0 rfl (lv_at hl 1 rfl) ?_
  refine lv_iconst (v := nI 4) hx hb d_MO_place_1 (by decide) ?_
  refine k_idiv hx hb d_MO_place_2 (by omega) (by omega) (by omega) ?_
  refine lv_iload_n hx hb d_MO_place_3 rfl (lv_at hl 0 rfl) ?_
  refine lv_iconst (v := nI 4) hx hb d_MO_place_4 (by decide) ?_
  refine k_irem hx hb d_MO_place_5 (by omega) (by omega) (by omega) ?_
  refine k_imul hx hb d_MO_place_6 ?_
  refine lv_iload_n hx hb d_MO_place_7 rfl (lv_at hl 0 rfl) ?_
  refine lv_iconst (v := nI 4) hx hb d_MO_place_8 (by decide) ?_
  refine k_idiv hx hb d_MO_place_9 (by omega) (by omega) (by omega) ?_
  refine k_iadd hx hb d_MO_place_10 ?_
  refine lv_istore_n (lv' := [(3, .int (nI ((12 * (k % 4)) + (k / 4)))), (0, .int (nI k)), (1, .int (nI 48)), (2, .int (nI 4))]) hx hb d_MO_place_11 rfl hl (by decide) rfl (fun ls hl => ?_)
  refine lv_iload_n hx hb d_MO_place_12 rfl (lv_at hl 3 rfl) ?_
  refine lv_iconst (v := nI 4) hx hb d_MO_place_13 (by decide) ?_
  refine k_icmp_ge (tgt := 21) hx hb d_MO_place_14 (by decide) (by omega) (by omega) (fun h14 => ?_) (fun h14 => ?_)
  · refine lv_iconst (v := nI 2) hx hb d_MO_place_21 (by decide) ?_
    refine lv_istore (lv' := [(4, .int (nI 2)), (3, .int (nI ((12 * (k % 4)) + (k / 4)))), (0, .int (nI k)), (1, .int (nI 48)), (2, .int (nI 4))]) hx hb d_MO_place_22 hl (by decide) rfl (fun ls hl => ?_)
    refine lv_iload hx hb d_MO_place_24 (lv_at hl 0 rfl) ?_
    refine lv_iload_n hx hb d_MO_place_26 rfl (lv_at hl 1 rfl) ?_
    refine lv_iload hx hb d_MO_place_27 (lv_at hl 0 rfl) ?_
    refine k_idiv hx hb d_MO_place_29 (by omega) (by omega) (by omega) ?_
    refine k_imul hx hb d_MO_place_30 ?_
    refine lv_iload_n hx hb d_MO_place_31 rfl (lv_at hl 1 rfl) ?_
    refine lv_iload_n hx hb d_MO_place_32 rfl (lv_at hl 3 rfl) ?_
    refine k_iadd hx hb d_MO_place_33 ?_
    refine lv_iconst (v := nI 4) hx hb d_MO_place_34 (by decide) ?_
    refine lv_iload_n hx hb d_MO_place_35 rfl (lv_at hl 1 rfl) ?_
    refine k_imul hx hb d_MO_place_36 ?_
    refine lv_iload_n hx hb d_MO_place_37 rfl (lv_at hl 3 rfl) ?_
    refine k_idiv hx hb d_MO_place_38 (by omega) (by omega) (by omega) ?_
    refine k_isub hx hb d_MO_place_39 (by omega) ?_
    refine lv_iload hx hb d_MO_place_40 (lv_at hl 0 rfl) ?_
    refine k_irem hx hb d_MO_place_42 (by omega) (by omega) (by omega) ?_
    refine k_iadd hx hb d_MO_place_43 ?_
    rw [hQ]
    exact k_iret () hx hb hr hlk hK hP hD hS [] (by decide) rfl trivial rfl d_MO_place_44
  · exfalso; omega
set_option maxHeartbeats 4000000 in
set_option maxRecDepth 100000 in
theorem c_MO_saturate (l : Launch) (D : va_G) (tc : Nat → ClassId) (tb : Nat → Nat) (x : Int32) : Mi l D tc tb y_MO_saturate prog_10_method_4_code 1 (some .int) ({ frames := 0, cells := 0, slots := 0, locals := 0 }) [.int (x)] [] (fun _ : Unit => True) (fun _ : Unit => satF x) (fun _ : Unit => []) := by
  refine Mi.go (by decide) (Nat.le_of_ble_eq_true rfl) ?_
  intro p e s m below meth c A ls R args Q C
  obtain ⟨hx, hb, hr, hts, hown, hlk, hml, hin, hA, hST, hN, hK, hP, hD, hS, hl, hR, hQ⟩ := C
  have hw : ∀ w ∈ lw_g, w.before args s = true := fun w h => hts w (List.mem_cons_of_mem _ h)
  have hl : lv_has ls 1 [(0, .int (x))] := hl
  refine lv_iload_n hx hb d_MO_saturate_0 rfl (lv_at hl 0 rfl) ?_
  refine lv_sipush (v := -32768) hx hb d_MO_saturate_1 (by decide) ?_
  refine lv_icmp_ge (tgt := 13) hx hb d_MO_saturate_4 (by decide) (fun h4 => ?_) (fun h4 => ?_)
  · refine lv_iload_n hx hb d_MO_saturate_13 rfl (lv_at hl 0 rfl) ?_
    refine lv_sipush (v := nI 32767) hx hb d_MO_saturate_14 (by decide) ?_
    refine lv_icmp_le (tgt := 26) hx hb d_MO_saturate_17 (by decide) (fun h17 => ?_) (fun h17 => ?_)
    · refine lv_iload_n hx hb d_MO_saturate_26 rfl (lv_at hl 0 rfl) ?_
      rw [hQ]
      exact k_iret () hx hb hr hlk hK hP hD hS [] (by decide) rfl trivial (by first | exact satm1 h4 | exact satm2 h4 h17 | exact satm3 h4 h17) d_MO_saturate_27
    · refine lv_sipush (v := nI 32767) hx hb d_MO_saturate_20 (by decide) ?_
      refine lv_goto (tgt := 27) hx hb d_MO_saturate_23 (by decide) ?_
      rw [hQ]
      exact k_iret () hx hb hr hlk hK hP hD hS [] (by decide) rfl trivial (by first | exact satm1 h4 | exact satm2 h4 h17 | exact satm3 h4 h17) d_MO_saturate_27
  · refine lv_sipush (v := -32768) hx hb d_MO_saturate_7 (by decide) ?_
    refine lv_goto (tgt := 27) hx hb d_MO_saturate_10 (by decide) ?_
    rw [hQ]
    exact k_iret () hx hb hr hlk hK hP hD hS [] (by decide) rfl trivial (by first | exact satm1 h4 | exact satm2 h4 h17 | exact satm3 h4 h17) d_MO_saturate_27
set_option maxHeartbeats 4000000 in
set_option maxRecDepth 100000 in
theorem c_MO_scramble (l : Launch) (D : va_G) (tc : Nat → ClassId) (tb : Nat → Nat) (h0 : Nat) (nby : Nat) (ndb : Nat) (ncb : Nat) (nfr : Nat) (nsy : Nat) (nai : Nat) (xth : Int32) (xra : Int32) (xas : Int32) (xan : Int32) (xst : Int32) (xhr : Int32) (xhb : Int32) (xse : Int32) (xbe : Int32) (xrg : Int32) (a1 : Nat) (a2 : Nat) (a3 : Nat) (a4 : Nat) (a5 : Nat) (a6 : Nat) (a7 : Nat) (a8 : Nat) (a9 : Nat) (b1 : Nat) (b2 : Nat) (b3 : Nat) (b4 : Nat) (b5 : Nat) (b6 : Nat) (b7 : Nat) (b8 : Nat) (c1 : Nat) (c2 : Nat) (c3 : Nat) (c4 : Nat) (c5 : Nat) (c6 : Nat) (c7 : Nat) : Mi l D tc tb y_MO_scramble prog_10_method_10_code 2 (some .int) ({ frames := 0, cells := 0, slots := 0, locals := 0 }) [.ref h0] [(h0, .inr (8, [.int (xth), .int (nI nby), .ref a1, .int (xra), .int (nI ndb), .ref a2, .int (nI ncb), .ref a3, .ref a4, .int (nI nfr), .ref a5, .ref a6, .int (nI nsy), .int (nI nai), .ref a7, .ref a8, .int (xas), .int (xan), .int (xst), .int (xhr), .int (xhb), .int (xse), .int (xbe), .ref a9, .ref b1, .ref b2, .ref b3, .ref b4, .ref b5, .ref b6, .ref b7, .ref b8, .ref c1, .ref c2, .ref c3, .ref c4, .ref c5, .ref c6, .ref c7, .int (xrg)]))] (fun _ : Unit => True) (fun _ : Unit => scF xrg) (fun _ : Unit => [(h0, .inr (8, [.int (xth), .int (nI nby), .ref a1, .int (xra), .int (nI ndb), .ref a2, .int (nI ncb), .ref a3, .ref a4, .int (nI nfr), .ref a5, .ref a6, .int (nI nsy), .int (nI nai), .ref a7, .ref a8, .int (xas), .int (xan), .int (xst), .int (xhr), .int (xhb), .int (xse), .int (xbe), .ref a9, .ref b1, .ref b2, .ref b3, .ref b4, .ref b5, .ref b6, .ref b7, .ref b8, .ref c1, .ref c2, .ref c3, .ref c4, .ref c5, .ref c6, .ref c7, .int (scN xrg)]))]) := by
  refine Mi.go (by decide) (Nat.le_of_ble_eq_true rfl) ?_
  intro p e s m below meth c A ls R args Q C
  obtain ⟨hx, hb, hr, hts, hown, hlk, hml, hin, hA, hST, hN, hK, hP, hD, hS, hl, hR, hQ⟩ := C
  have hw : ∀ w ∈ lw_g, w.before args s = true := fun w h => hts w (List.mem_cons_of_mem _ h)
  have hl : lv_has ls 2 [(0, .ref h0)] := hl
  refine lv_aload_n hx hb d_MO_scramble_0 rfl (lv_at hl 0 rfl) ?_
  refine k_get hx hb hw uw_MO hown hK hP 0 rfl rfl 39 (by decide) (hw _ wd_753) rfl d_MO_scramble_1 ?_
  refine lv_bipush (v := nI 6) hx hb d_MO_scramble_4 (by decide) ?_
  refine lv_ishr hx hb d_MO_scramble_6 ?_
  refine lv_aload_n hx hb d_MO_scramble_7 rfl (lv_at hl 0 rfl) ?_
  refine k_get hx hb hw uw_MO hown hK hP 0 rfl rfl 39 (by decide) (hw _ wd_753) rfl d_MO_scramble_8 ?_
  refine lv_iconst (v := nI 3) hx hb d_MO_scramble_11 (by decide) ?_
  refine lv_ishr hx hb d_MO_scramble_12 ?_
  refine lv_ixor hx hb d_MO_scramble_13 ?_
  refine lv_iconst (v := nI 1) hx hb d_MO_scramble_14 (by decide) ?_
  refine lv_iand hx hb d_MO_scramble_15 ?_
  refine lv_istore_n (lv' := [(1, .int (((xrg >>> ((nI 6) &&& 31)) ^^^ (xrg >>> ((nI 3) &&& 31))) &&& (nI 1))), (0, .ref h0)]) hx hb d_MO_scramble_16 rfl hl (by decide) rfl (fun ls hl => ?_)
  refine lv_aload_n hx hb d_MO_scramble_17 rfl (lv_at hl 1 rfl) ?_
  refine lv_aload_n hx hb d_MO_scramble_18 rfl (lv_at hl 1 rfl) ?_
  refine k_get hx hb hw uw_MO hown hK hP 0 rfl rfl 39 (by decide) (hw _ wd_753) rfl d_MO_scramble_19 ?_
  refine lv_iconst (v := nI 1) hx hb d_MO_scramble_22 (by decide) ?_
  refine lv_ishl hx hb d_MO_scramble_23 ?_
  refine lv_iload_n hx hb d_MO_scramble_24 rfl (lv_at hl 0 rfl) ?_
  refine lv_ior hx hb d_MO_scramble_25 ?_
  refine lv_bipush (v := nI 127) hx hb d_MO_scramble_26 (by decide) ?_
  refine lv_iand hx hb d_MO_scramble_28 ?_
  refine k_put (ws' := [(h0, .inr (8, [.int (xth), .int (nI nby), .ref a1, .int (xra), .int (nI ndb), .ref a2, .int (nI ncb), .ref a3, .ref a4, .int (nI nfr), .ref a5, .ref a6, .int (nI nsy), .int (nI nai), .ref a7, .ref a8, .int (xas), .int (xan), .int (xst), .int (xhr), .int (xhb), .int (xse), .int (xbe), .ref a9, .ref b1, .ref b2, .ref b3, .ref b4, .ref b5, .ref b6, .ref b7, .ref b8, .ref c1, .ref c2, .ref c3, .ref c4, .ref c5, .ref c6, .ref c7, .int (((xrg <<< ((nI 1) &&& 31)) ||| (((xrg >>> ((nI 6) &&& 31)) ^^^ (xrg >>> ((nI 3) &&& 31))) &&& (nI 1))) &&& (nI 127))]))]) hx hb hw uw_MO tok_MO nn_MO hown hK hP hD hS 0 rfl rfl 39 (by decide) (hw _ wd_753) rfl rfl rfl (Nat.le_of_ble_eq_true rfl) d_MO_scramble_29 rfl (fun H locs hP hD hS => ?_)
  refine lv_iload_n hx hb d_MO_scramble_32 rfl (lv_at hl 0 rfl) ?_
  rw [hQ]
  exact k_iret () hx hb hr hlk hK hP hD hS [0] (by decide) rfl trivial rfl d_MO_scramble_33
set_option maxHeartbeats 4000000 in
set_option maxRecDepth 100000 in
theorem c_MO_thrown (l : Launch) (D : va_G) (tc : Nat → ClassId) (tb : Nat → Nat) (h0 : Nat) (nby : Nat) (ndb : Nat) (ncb : Nat) (nfr : Nat) (nsy : Nat) (nai : Nat) (xth : Int32) (xra : Int32) (xas : Int32) (xan : Int32) (xst : Int32) (xhr : Int32) (xhb : Int32) (xse : Int32) (xbe : Int32) (xrg : Int32) (a1 : Nat) (a2 : Nat) (a3 : Nat) (a4 : Nat) (a5 : Nat) (a6 : Nat) (a7 : Nat) (a8 : Nat) (a9 : Nat) (b1 : Nat) (b2 : Nat) (b3 : Nat) (b4 : Nat) (b5 : Nat) (b6 : Nat) (b7 : Nat) (b8 : Nat) (c1 : Nat) (c2 : Nat) (c3 : Nat) (c4 : Nat) (c5 : Nat) (c6 : Nat) (c7 : Nat) : Mi l D tc tb y_MO_thrown prog_10_method_3_code 1 (some .int) ({ frames := 0, cells := 0, slots := 0, locals := 0 }) [.ref h0] [(h0, .inr (8, [.int (xth), .int (nI nby), .ref a1, .int (xra), .int (nI ndb), .ref a2, .int (nI ncb), .ref a3, .ref a4, .int (nI nfr), .ref a5, .ref a6, .int (nI nsy), .int (nI nai), .ref a7, .ref a8, .int (xas), .int (xan), .int (xst), .int (xhr), .int (xhb), .int (xse), .int (xbe), .ref a9, .ref b1, .ref b2, .ref b3, .ref b4, .ref b5, .ref b6, .ref b7, .ref b8, .ref c1, .ref c2, .ref c3, .ref c4, .ref c5, .ref c6, .ref c7, .int (xrg)]))] (fun _ : Unit => True) (fun _ : Unit => xth) (fun _ : Unit => [(h0, .inr (8, [.int (xth), .int (nI nby), .ref a1, .int (xra), .int (nI ndb), .ref a2, .int (nI ncb), .ref a3, .ref a4, .int (nI nfr), .ref a5, .ref a6, .int (nI nsy), .int (nI nai), .ref a7, .ref a8, .int (xas), .int (xan), .int (xst), .int (xhr), .int (xhb), .int (xse), .int (xbe), .ref a9, .ref b1, .ref b2, .ref b3, .ref b4, .ref b5, .ref b6, .ref b7, .ref b8, .ref c1, .ref c2, .ref c3, .ref c4, .ref c5, .ref c6, .ref c7, .int (xrg)]))]) := by
  refine Mi.go (by decide) (Nat.le_of_ble_eq_true rfl) ?_
  intro p e s m below meth c A ls R args Q C
  obtain ⟨hx, hb, hr, hts, hown, hlk, hml, hin, hA, hST, hN, hK, hP, hD, hS, hl, hR, hQ⟩ := C
  have hw : ∀ w ∈ lw_g, w.before args s = true := fun w h => hts w (List.mem_cons_of_mem _ h)
  have hl : lv_has ls 1 [(0, .ref h0)] := hl
  refine lv_aload_n hx hb d_MO_thrown_0 rfl (lv_at hl 0 rfl) ?_
  refine k_get hx hb hw uw_MO hown hK hP 0 rfl rfl 0 (by decide) (hw _ wd_714) rfl d_MO_thrown_1 ?_
  rw [hQ]
  exact k_iret () hx hb hr hlk hK hP hD hS [0] (by decide) rfl trivial rfl d_MO_thrown_4
set_option maxHeartbeats 4000000 in
set_option maxRecDepth 100000 in
theorem c_MO_clear (l : Launch) (D : va_G) (tc : Nat → ClassId) (tb : Nat → Nat) (h0 : Nat) (nby : Nat) (ndb : Nat) (ncb : Nat) (nfr : Nat) (nsy : Nat) (nai : Nat) (xth : Int32) (xra : Int32) (xas : Int32) (xan : Int32) (xst : Int32) (xhr : Int32) (xhb : Int32) (xse : Int32) (xbe : Int32) (xrg : Int32) (a1 : Nat) (a2 : Nat) (a3 : Nat) (a4 : Nat) (a5 : Nat) (a6 : Nat) (a7 : Nat) (a8 : Nat) (a9 : Nat) (b1 : Nat) (b2 : Nat) (b3 : Nat) (b4 : Nat) (b5 : Nat) (b6 : Nat) (b7 : Nat) (b8 : Nat) (c1 : Nat) (c2 : Nat) (c3 : Nat) (c4 : Nat) (c5 : Nat) (c6 : Nat) (c7 : Nat) (f : Nat → Int32) (g : Nat → Int32) : Mv l D tc tb y_MO_clear prog_10_method_12_code 2 none ({ frames := 0, cells := 0, slots := 0, locals := 0 }) [.ref h0] [(h0, .inr (8, [.int (xth), .int (nI nby), .ref a1, .int (xra), .int (nI ndb), .ref a2, .int (nI ncb), .ref a3, .ref a4, .int (nI nfr), .ref a5, .ref a6, .int (nI nsy), .int (nI nai), .ref a7, .ref a8, .int (xas), .int (xan), .int (xst), .int (xhr), .int (xhb), .int (xse), .int (xbe), .ref a9, .ref b1, .ref b2, .ref b3, .ref b4, .ref b5, .ref b6, .ref b7, .ref b8, .ref c1, .ref c2, .ref c3, .ref c4, .ref c5, .ref c6, .ref c7, .int (xrg)])), (b3, .inl (tc 0, 16, .inl f)), (b4, .inl (tc 0, 16, .inl g))] (fun _ : Unit => True) (fun _ : Unit => [(h0, .inr (8, [.int (xth), .int (nI nby), .ref a1, .int (xra), .int (nI ndb), .ref a2, .int (nI ncb), .ref a3, .ref a4, .int (nI nfr), .ref a5, .ref a6, .int (nI nsy), .int (nI nai), .ref a7, .ref a8, .int (xas), .int (xan), .int (xst), .int (xhr), .int (xhb), .int (xse), .int (xbe), .ref a9, .ref b1, .ref b2, .ref b3, .ref b4, .ref b5, .ref b6, .ref b7, .ref b8, .ref c1, .ref c2, .ref c3, .ref c4, .ref c5, .ref c6, .ref c7, .int (xrg)])), (b3, .inl (tc 0, 16, .inl (fun _ => nI 0))), (b4, .inl (tc 0, 16, .inl (fun _ => nI 0)))]) := by
  refine Mv.go (by decide) (Nat.le_of_ble_eq_true rfl) ?_
  intro p e s m below meth c A ls R args Q C
  obtain ⟨hx, hb, hr, hts, hown, hlk, hml, hin, hA, hST, hN, hK, hP, hD, hS, hl, hR, hQ⟩ := C
  have hw : ∀ w ∈ lw_g, w.before args s = true := fun w h => hts w (List.mem_cons_of_mem _ h)
  have hl : lv_has ls 2 [(0, .ref h0)] := hl
  refine lv_iconst (v := nI 0) hx hb d_MO_clear_0 (by decide) ?_
  refine lv_istore_n (lv' := [(1, .int (nI 0)), (0, .ref h0)]) hx hb d_MO_clear_1 rfl hl (by decide) rfl (fun ls hl => ?_)
  refine k_loop (P := fun k : Nat => ∀ (H : Heap) (locs : List Loc) (ls : Array Slot), lv_has ls 2 [(1, .int (nI k)), (0, .ref h0)] → va_P D classes [(h0, .inr (8, [.int (xth), .int (nI nby), .ref a1, .int (xra), .int (nI ndb), .ref a2, .int (nI ncb), .ref a3, .ref a4, .int (nI nfr), .ref a5, .ref a6, .int (nI nsy), .int (nI nai), .ref a7, .ref a8, .int (xas), .int (xan), .int (xst), .int (xhr), .int (xhb), .int (xse), .int (xbe), .ref a9, .ref b1, .ref b2, .ref b3, .ref b4, .ref b5, .ref b6, .ref b7, .ref b8, .ref c1, .ref c2, .ref c3, .ref c4, .ref c5, .ref c6, .ref c7, .int (xrg)])), (b3, .inl (tc 0, 16, .inl (gF (fun _ => nI 0) f k))), (b4, .inl (tc 0, 16, .inl (gF (fun _ => nI 0) g k)))] H → va_D A [(h0, .inr (8, [.int (xth), .int (nI nby), .ref a1, .int (xra), .int (nI ndb), .ref a2, .int (nI ncb), .ref a3, .ref a4, .int (nI nfr), .ref a5, .ref a6, .int (nI nsy), .int (nI nai), .ref a7, .ref a8, .int (xas), .int (xan), .int (xst), .int (xhr), .int (xhb), .int (xse), .int (xbe), .ref a9, .ref b1, .ref b2, .ref b3, .ref b4, .ref b5, .ref b6, .ref b7, .ref b8, .ref c1, .ref c2, .ref c3, .ref c4, .ref c5, .ref c6, .ref c7, .int (xrg)])), (b3, .inl (tc 0, 16, .inl (gF (fun _ => nI 0) f k))), (b4, .inl (tc 0, 16, .inl (gF (fun _ => nI 0) g k)))] → va_S A s.heap H locs → W p l e R s m args below meth c H locs 0 0 Q (F0 m 2 ls [])) (16) (fun k hk_k ih_k  H locs ls hl hP hD hS => ?_) (0) (by omega)   s.heap [] ls (lv_sub hl [0, 1] rfl) (by exact hP) (k_Ds hD [0, 1, 2] (by decide) rfl) hS
  refine lv_iload_n hx hb d_MO_clear_2 rfl (lv_at hl 0 rfl) ?_
  refine lv_bipush (v := nI 16) hx hb d_MO_clear_3 (by decide) ?_
  refine k_icmp_ge (tgt := 28) hx hb d_MO_clear_5 (by decide) (by omega) (by omega) (fun h5 => ?_) (fun h5 => ?_)
  · obtain rfl : 16 = k := by omega
    have hP : va_P D classes [(h0, .inr (8, [.int (xth), .int (nI nby), .ref a1, .int (xra), .int (nI ndb), .ref a2, .int (nI ncb), .ref a3, .ref a4, .int (nI nfr), .ref a5, .ref a6, .int (nI nsy), .int (nI nai), .ref a7, .ref a8, .int (xas), .int (xan), .int (xst), .int (xhr), .int (xhb), .int (xse), .int (xbe), .ref a9, .ref b1, .ref b2, .ref b3, .ref b4, .ref b5, .ref b6, .ref b7, .ref b8, .ref c1, .ref c2, .ref c3, .ref c4, .ref c5, .ref c6, .ref c7, .int (xrg)])), (b3, .inl (tc 0, 16, .inl (fun _ => nI 0))), (b4, .inl (tc 0, 16, .inl (gF (fun _ => nI 0) g 16)))] H := k_rep hP 1 rfl (fun j hj => gF_all _ f 16 j hj) rfl
    have hD : va_D A [(h0, .inr (8, [.int (xth), .int (nI nby), .ref a1, .int (xra), .int (nI ndb), .ref a2, .int (nI ncb), .ref a3, .ref a4, .int (nI nfr), .ref a5, .ref a6, .int (nI nsy), .int (nI nai), .ref a7, .ref a8, .int (xas), .int (xan), .int (xst), .int (xhr), .int (xhb), .int (xse), .int (xbe), .ref a9, .ref b1, .ref b2, .ref b3, .ref b4, .ref b5, .ref b6, .ref b7, .ref b8, .ref c1, .ref c2, .ref c3, .ref c4, .ref c5, .ref c6, .ref c7, .int (xrg)])), (b3, .inl (tc 0, 16, .inl (fun _ => nI 0))), (b4, .inl (tc 0, 16, .inl (gF (fun _ => nI 0) g 16)))] := k_Ds hD [0, 1, 2] (by decide) rfl
    have hP : va_P D classes [(h0, .inr (8, [.int (xth), .int (nI nby), .ref a1, .int (xra), .int (nI ndb), .ref a2, .int (nI ncb), .ref a3, .ref a4, .int (nI nfr), .ref a5, .ref a6, .int (nI nsy), .int (nI nai), .ref a7, .ref a8, .int (xas), .int (xan), .int (xst), .int (xhr), .int (xhb), .int (xse), .int (xbe), .ref a9, .ref b1, .ref b2, .ref b3, .ref b4, .ref b5, .ref b6, .ref b7, .ref b8, .ref c1, .ref c2, .ref c3, .ref c4, .ref c5, .ref c6, .ref c7, .int (xrg)])), (b3, .inl (tc 0, 16, .inl (fun _ => nI 0))), (b4, .inl (tc 0, 16, .inl (fun _ => nI 0)))] H := k_rep hP 2 rfl (fun j hj => gF_all _ g 16 j hj) rfl
    have hD : va_D A [(h0, .inr (8, [.int (xth), .int (nI nby), .ref a1, .int (xra), .int (nI ndb), .ref a2, .int (nI ncb), .ref a3, .ref a4, .int (nI nfr), .ref a5, .ref a6, .int (nI nsy), .int (nI nai), .ref a7, .ref a8, .int (xas), .int (xan), .int (xst), .int (xhr), .int (xhb), .int (xse), .int (xbe), .ref a9, .ref b1, .ref b2, .ref b3, .ref b4, .ref b5, .ref b6, .ref b7, .ref b8, .ref c1, .ref c2, .ref c3, .ref c4, .ref c5, .ref c6, .ref c7, .int (xrg)])), (b3, .inl (tc 0, 16, .inl (fun _ => nI 0))), (b4, .inl (tc 0, 16, .inl (fun _ => nI 0)))] := k_Ds hD [0, 1, 2] (by decide) rfl
    rw [hQ]
    exact k_vret () hx hb hr hlk hK hP hD hS [0, 1, 2] (by decide) rfl trivial d_MO_clear_28
  · refine lv_aload_n hx hb d_MO_clear_8 rfl (lv_at hl 1 rfl) ?_
    refine k_get hx hb hw uw_MO hown hK hP 0 rfl rfl 26 (by decide) (hw _ wd_740) rfl d_MO_clear_9 ?_
    refine lv_iload_n hx hb d_MO_clear_12 rfl (lv_at hl 0 rfl) ?_
    refine lv_iconst (v := nI 0) hx hb d_MO_clear_13 (by decide) ?_
    refine k_iast (ws' := [(h0, .inr (8, [.int (xth), .int (nI nby), .ref a1, .int (xra), .int (nI ndb), .ref a2, .int (nI ncb), .ref a3, .ref a4, .int (nI nfr), .ref a5, .ref a6, .int (nI nsy), .int (nI nai), .ref a7, .ref a8, .int (xas), .int (xan), .int (xst), .int (xhr), .int (xhb), .int (xse), .int (xbe), .ref a9, .ref b1, .ref b2, .ref b3, .ref b4, .ref b5, .ref b6, .ref b7, .ref b8, .ref c1, .ref c2, .ref c3, .ref c4, .ref c5, .ref c6, .ref c7, .int (xrg)])), (b3, .inl (tc 0, 16, .inl (upd (gF (fun _ => nI 0) f k) k (nI 0)))), (b4, .inl (tc 0, 16, .inl (gF (fun _ => nI 0) g k)))]) hx hb hK hP hD hS 1 0 rfl rfl (by omega) (by omega) d_MO_clear_14 rfl (fun H locs hP hD hS => ?_)
    refine lv_aload_n hx hb d_MO_clear_15 rfl (lv_at hl 1 rfl) ?_
    refine k_get hx hb hw uw_MO hown hK hP 0 rfl rfl 27 (by decide) (hw _ wd_741) rfl d_MO_clear_16 ?_
    refine lv_iload_n hx hb d_MO_clear_19 rfl (lv_at hl 0 rfl) ?_
    refine lv_iconst (v := nI 0) hx hb d_MO_clear_20 (by decide) ?_
    refine k_iast (ws' := [(h0, .inr (8, [.int (xth), .int (nI nby), .ref a1, .int (xra), .int (nI ndb), .ref a2, .int (nI ncb), .ref a3, .ref a4, .int (nI nfr), .ref a5, .ref a6, .int (nI nsy), .int (nI nai), .ref a7, .ref a8, .int (xas), .int (xan), .int (xst), .int (xhr), .int (xhb), .int (xse), .int (xbe), .ref a9, .ref b1, .ref b2, .ref b3, .ref b4, .ref b5, .ref b6, .ref b7, .ref b8, .ref c1, .ref c2, .ref c3, .ref c4, .ref c5, .ref c6, .ref c7, .int (xrg)])), (b3, .inl (tc 0, 16, .inl (upd (gF (fun _ => nI 0) f k) k (nI 0)))), (b4, .inl (tc 0, 16, .inl (upd (gF (fun _ => nI 0) g k) k (nI 0))))]) hx hb hK hP hD hS 2 0 rfl rfl (by omega) (by omega) d_MO_clear_21 rfl (fun H locs hP hD hS => ?_)
    refine lv_iinc (k := 0) (v := nI (k + 1)) (lv' := [(1, .int (nI (k + 1))), (0, .ref h0)]) hx hb d_MO_clear_22 hl rfl (k_incN _ 1) (by decide) rfl (fun ls hl => ?_)
    refine lv_goto (tgt := 2) hx hb d_MO_clear_25 (by decide) ?_
    exact ih_k (by omega)   H locs ls (lv_sub hl [0, 1] rfl) (by exact hP) (k_Ds hD [0, 1, 2] (by decide) rfl) hS
set_option maxHeartbeats 4000000 in
set_option maxRecDepth 100000 in
theorem c_MO_exchange (l : Launch) (D : va_G) (tc : Nat → ClassId) (tb : Nat → Nat) (h0 : Nat) (nby : Nat) (ndb : Nat) (ncb : Nat) (nfr : Nat) (nsy : Nat) (nai : Nat) (xth : Int32) (xra : Int32) (xas : Int32) (xan : Int32) (xst : Int32) (xhr : Int32) (xhb : Int32) (xse : Int32) (xbe : Int32) (xrg : Int32) (a1 : Nat) (a2 : Nat) (a3 : Nat) (a4 : Nat) (a5 : Nat) (a6 : Nat) (a7 : Nat) (a8 : Nat) (a9 : Nat) (b1 : Nat) (b2 : Nat) (b3 : Nat) (b4 : Nat) (b5 : Nat) (b6 : Nat) (b7 : Nat) (b8 : Nat) (c1 : Nat) (c2 : Nat) (c3 : Nat) (c4 : Nat) (c5 : Nat) (c6 : Nat) (c7 : Nat) (x : RP) (i : Nat) (j : Nat) (hi : i < 16) (hj : j < 16) : Mv l D tc tb y_MO_exchange prog_10_method_13_code 4 none ({ frames := 0, cells := 0, slots := 0, locals := 0 }) [.ref h0, .int (nI i), .int (nI j)] [(h0, .inr (8, [.int (xth), .int (nI nby), .ref a1, .int (xra), .int (nI ndb), .ref a2, .int (nI ncb), .ref a3, .ref a4, .int (nI nfr), .ref a5, .ref a6, .int (nI nsy), .int (nI nai), .ref a7, .ref a8, .int (xas), .int (xan), .int (xst), .int (xhr), .int (xhb), .int (xse), .int (xbe), .ref a9, .ref b1, .ref b2, .ref b3, .ref b4, .ref b5, .ref b6, .ref b7, .ref b8, .ref c1, .ref c2, .ref c3, .ref c4, .ref c5, .ref c6, .ref c7, .int (xrg)])), (b3, .inl (tc 0, 16, .inl x.1)), (b4, .inl (tc 0, 16, .inl x.2))] (fun _ : Unit => True) (fun _ : Unit => [(h0, .inr (8, [.int (xth), .int (nI nby), .ref a1, .int (xra), .int (nI ndb), .ref a2, .int (nI ncb), .ref a3, .ref a4, .int (nI nfr), .ref a5, .ref a6, .int (nI nsy), .int (nI nai), .ref a7, .ref a8, .int (xas), .int (xan), .int (xst), .int (xhr), .int (xhb), .int (xse), .int (xbe), .ref a9, .ref b1, .ref b2, .ref b3, .ref b4, .ref b5, .ref b6, .ref b7, .ref b8, .ref c1, .ref c2, .ref c3, .ref c4, .ref c5, .ref c6, .ref c7, .int (xrg)])), (b3, .inl (tc 0, 16, .inl (swF i j x.1))), (b4, .inl (tc 0, 16, .inl (swF i j x.2)))]) := by
  refine Mv.go (by decide) (Nat.le_of_ble_eq_true rfl) ?_
  intro p e s m below meth c A ls R args Q C
  obtain ⟨hx, hb, hr, hts, hown, hlk, hml, hin, hA, hST, hN, hK, hP, hD, hS, hl, hR, hQ⟩ := C
  have hw : ∀ w ∈ lw_g, w.before args s = true := fun w h => hts w (List.mem_cons_of_mem _ h)
  have hl : lv_has ls 4 [(0, .ref h0), (1, .int (nI i)), (2, .int (nI j))] := hl
  refine lv_aload_n hx hb d_MO_exchange_0 rfl (lv_at hl 0 rfl) ?_
  refine k_get hx hb hw uw_MO hown hK hP 0 rfl rfl 26 (by decide) (hw _ wd_740) rfl d_MO_exchange_1 ?_
  refine lv_iload_n hx hb d_MO_exchange_4 rfl (lv_at hl 1 rfl) ?_
  refine k_iald hx hb hK hP 1 0 rfl rfl (by omega) (by omega) d_MO_exchange_5 ?_
  refine lv_istore_n (lv' := [(3, .int (x.1 i)), (0, .ref h0), (1, .int (nI i)), (2, .int (nI j))]) hx hb d_MO_exchange_6 rfl hl (by decide) rfl (fun ls hl => ?_)
  refine lv_aload_n hx hb d_MO_exchange_7 rfl (lv_at hl 1 rfl) ?_
  refine k_get hx hb hw uw_MO hown hK hP 0 rfl rfl 26 (by decide) (hw _ wd_740) rfl d_MO_exchange_8 ?_
  refine lv_iload_n hx hb d_MO_exchange_11 rfl (lv_at hl 2 rfl) ?_
  refine lv_aload_n hx hb d_MO_exchange_12 rfl (lv_at hl 1 rfl) ?_
  refine k_get hx hb hw uw_MO hown hK hP 0 rfl rfl 26 (by decide) (hw _ wd_740) rfl d_MO_exchange_13 ?_
  refine lv_iload_n hx hb d_MO_exchange_16 rfl (lv_at hl 3 rfl) ?_
  refine k_iald hx hb hK hP 1 0 rfl rfl (by omega) (by omega) d_MO_exchange_17 ?_
  refine k_iast (ws' := [(h0, .inr (8, [.int (xth), .int (nI nby), .ref a1, .int (xra), .int (nI ndb), .ref a2, .int (nI ncb), .ref a3, .ref a4, .int (nI nfr), .ref a5, .ref a6, .int (nI nsy), .int (nI nai), .ref a7, .ref a8, .int (xas), .int (xan), .int (xst), .int (xhr), .int (xhb), .int (xse), .int (xbe), .ref a9, .ref b1, .ref b2, .ref b3, .ref b4, .ref b5, .ref b6, .ref b7, .ref b8, .ref c1, .ref c2, .ref c3, .ref c4, .ref c5, .ref c6, .ref c7, .int (xrg)])), (b3, .inl (tc 0, 16, .inl (upd x.1 i (x.1 j)))), (b4, .inl (tc 0, 16, .inl x.2))]) hx hb hK hP hD hS 1 0 rfl rfl (by omega) (by omega) d_MO_exchange_18 rfl (fun H locs hP hD hS => ?_)
  refine lv_aload_n hx hb d_MO_exchange_19 rfl (lv_at hl 1 rfl) ?_
  refine k_get hx hb hw uw_MO hown hK hP 0 rfl rfl 26 (by decide) (hw _ wd_740) rfl d_MO_exchange_20 ?_
  refine lv_iload_n hx hb d_MO_exchange_23 rfl (lv_at hl 3 rfl) ?_
  refine lv_iload_n hx hb d_MO_exchange_24 rfl (lv_at hl 0 rfl) ?_
  refine k_iast (ws' := [(h0, .inr (8, [.int (xth), .int (nI nby), .ref a1, .int (xra), .int (nI ndb), .ref a2, .int (nI ncb), .ref a3, .ref a4, .int (nI nfr), .ref a5, .ref a6, .int (nI nsy), .int (nI nai), .ref a7, .ref a8, .int (xas), .int (xan), .int (xst), .int (xhr), .int (xhb), .int (xse), .int (xbe), .ref a9, .ref b1, .ref b2, .ref b3, .ref b4, .ref b5, .ref b6, .ref b7, .ref b8, .ref c1, .ref c2, .ref c3, .ref c4, .ref c5, .ref c6, .ref c7, .int (xrg)])), (b3, .inl (tc 0, 16, .inl (upd (upd x.1 i (x.1 j)) j (x.1 i)))), (b4, .inl (tc 0, 16, .inl x.2))]) hx hb hK hP hD hS 1 0 rfl rfl (by omega) (by omega) d_MO_exchange_25 rfl (fun H locs hP hD hS => ?_)
  refine lv_aload_n hx hb d_MO_exchange_26 rfl (lv_at hl 1 rfl) ?_
  refine k_get hx hb hw uw_MO hown hK hP 0 rfl rfl 27 (by decide) (hw _ wd_741) rfl d_MO_exchange_27 ?_
  refine lv_iload_n hx hb d_MO_exchange_30 rfl (lv_at hl 2 rfl) ?_
  refine k_iald hx hb hK hP 2 0 rfl rfl (by omega) (by omega) d_MO_exchange_31 ?_
  refine lv_istore_n (lv' := [(3, .int (x.2 i)), (0, .ref h0), (1, .int (nI i)), (2, .int (nI j))]) hx hb d_MO_exchange_32 rfl hl (by decide) rfl (fun ls hl => ?_)
  refine lv_aload_n hx hb d_MO_exchange_33 rfl (lv_at hl 1 rfl) ?_
  refine k_get hx hb hw uw_MO hown hK hP 0 rfl rfl 27 (by decide) (hw _ wd_741) rfl d_MO_exchange_34 ?_
  refine lv_iload_n hx hb d_MO_exchange_37 rfl (lv_at hl 2 rfl) ?_
  refine lv_aload_n hx hb d_MO_exchange_38 rfl (lv_at hl 1 rfl) ?_
  refine k_get hx hb hw uw_MO hown hK hP 0 rfl rfl 27 (by decide) (hw _ wd_741) rfl d_MO_exchange_39 ?_
  refine lv_iload_n hx hb d_MO_exchange_42 rfl (lv_at hl 3 rfl) ?_
  refine k_iald hx hb hK hP 2 0 rfl rfl (by omega) (by omega) d_MO_exchange_43 ?_
  refine k_iast (ws' := [(h0, .inr (8, [.int (xth), .int (nI nby), .ref a1, .int (xra), .int (nI ndb), .ref a2, .int (nI ncb), .ref a3, .ref a4, .int (nI nfr), .ref a5, .ref a6, .int (nI nsy), .int (nI nai), .ref a7, .ref a8, .int (xas), .int (xan), .int (xst), .int (xhr), .int (xhb), .int (xse), .int (xbe), .ref a9, .ref b1, .ref b2, .ref b3, .ref b4, .ref b5, .ref b6, .ref b7, .ref b8, .ref c1, .ref c2, .ref c3, .ref c4, .ref c5, .ref c6, .ref c7, .int (xrg)])), (b3, .inl (tc 0, 16, .inl (upd (upd x.1 i (x.1 j)) j (x.1 i)))), (b4, .inl (tc 0, 16, .inl (upd x.2 i (x.2 j))))]) hx hb hK hP hD hS 2 0 rfl rfl (by omega) (by omega) d_MO_exchange_44 rfl (fun H locs hP hD hS => ?_)
  refine lv_aload_n hx hb d_MO_exchange_45 rfl (lv_at hl 1 rfl) ?_
  refine k_get hx hb hw uw_MO hown hK hP 0 rfl rfl 27 (by decide) (hw _ wd_741) rfl d_MO_exchange_46 ?_
  refine lv_iload_n hx hb d_MO_exchange_49 rfl (lv_at hl 3 rfl) ?_
  refine lv_iload_n hx hb d_MO_exchange_50 rfl (lv_at hl 0 rfl) ?_
  refine k_iast (ws' := [(h0, .inr (8, [.int (xth), .int (nI nby), .ref a1, .int (xra), .int (nI ndb), .ref a2, .int (nI ncb), .ref a3, .ref a4, .int (nI nfr), .ref a5, .ref a6, .int (nI nsy), .int (nI nai), .ref a7, .ref a8, .int (xas), .int (xan), .int (xst), .int (xhr), .int (xhb), .int (xse), .int (xbe), .ref a9, .ref b1, .ref b2, .ref b3, .ref b4, .ref b5, .ref b6, .ref b7, .ref b8, .ref c1, .ref c2, .ref c3, .ref c4, .ref c5, .ref c6, .ref c7, .int (xrg)])), (b3, .inl (tc 0, 16, .inl (upd (upd x.1 i (x.1 j)) j (x.1 i)))), (b4, .inl (tc 0, 16, .inl (upd (upd x.2 i (x.2 j)) j (x.2 i))))]) hx hb hK hP hD hS 2 0 rfl rfl (by omega) (by omega) d_MO_exchange_51 rfl (fun H locs hP hD hS => ?_)
  rw [hQ]
  exact k_vret () hx hb hr hlk hK hP hD hS [0, 1, 2] (by decide) rfl trivial d_MO_exchange_52
set_option maxHeartbeats 4000000 in
set_option maxRecDepth 100000 in
theorem c_MO_cross (l : Launch) (D : va_G) (tc : Nat → ClassId) (tb : Nat → Nat) (h0 : Nat) (nby : Nat) (ndb : Nat) (ncb : Nat) (nfr : Nat) (nsy : Nat) (nai : Nat) (xth : Int32) (xra : Int32) (xas : Int32) (xan : Int32) (xst : Int32) (xhr : Int32) (xhb : Int32) (xse : Int32) (xbe : Int32) (xrg : Int32) (a1 : Nat) (a2 : Nat) (a3 : Nat) (a4 : Nat) (a5 : Nat) (a6 : Nat) (a7 : Nat) (a8 : Nat) (a9 : Nat) (b1 : Nat) (b2 : Nat) (b3 : Nat) (b4 : Nat) (b5 : Nat) (b6 : Nat) (b7 : Nat) (b8 : Nat) (c1 : Nat) (c2 : Nat) (c3 : Nat) (c4 : Nat) (c5 : Nat) (c6 : Nat) (c7 : Nat) (x : RP) (lo : Nat) (hi : Nat) (vc : Int32) (vd : Int32) (sh : Int32) (hlo : lo < 16) (hhi : hi < 16) : Mv l D tc tb y_MO_cross prog_10_method_15_code 12 none ({ frames := 0, cells := 0, slots := 0, locals := 0 }) [.ref h0, .int (nI lo), .int (nI hi), .int (vc), .int (vd), .int (sh)] [(h0, .inr (8, [.int (xth), .int (nI nby), .ref a1, .int (xra), .int (nI ndb), .ref a2, .int (nI ncb), .ref a3, .ref a4, .int (nI nfr), .ref a5, .ref a6, .int (nI nsy), .int (nI nai), .ref a7, .ref a8, .int (xas), .int (xan), .int (xst), .int (xhr), .int (xhb), .int (xse), .int (xbe), .ref a9, .ref b1, .ref b2, .ref b3, .ref b4, .ref b5, .ref b6, .ref b7, .ref b8, .ref c1, .ref c2, .ref c3, .ref c4, .ref c5, .ref c6, .ref c7, .int (xrg)])), (b3, .inl (tc 0, 16, .inl x.1)), (b4, .inl (tc 0, 16, .inl x.2))] (fun _ : Unit => True) (fun _ : Unit => [(h0, .inr (8, [.int (xth), .int (nI nby), .ref a1, .int (xra), .int (nI ndb), .ref a2, .int (nI ncb), .ref a3, .ref a4, .int (nI nfr), .ref a5, .ref a6, .int (nI nsy), .int (nI nai), .ref a7, .ref a8, .int (xas), .int (xan), .int (xst), .int (xhr), .int (xhb), .int (xse), .int (xbe), .ref a9, .ref b1, .ref b2, .ref b3, .ref b4, .ref b5, .ref b6, .ref b7, .ref b8, .ref c1, .ref c2, .ref c3, .ref c4, .ref c5, .ref c6, .ref c7, .int (xrg)])), (b3, .inl (tc 0, 16, .inl ((crF lo hi vc vd sh x).1))), (b4, .inl (tc 0, 16, .inl ((crF lo hi vc vd sh x).2)))]) := by
  refine Mv.go (by decide) (Nat.le_of_ble_eq_true rfl) ?_
  intro p e s m below meth c A ls R args Q C
  obtain ⟨hx, hb, hr, hts, hown, hlk, hml, hin, hA, hST, hN, hK, hP, hD, hS, hl, hR, hQ⟩ := C
  have hw : ∀ w ∈ lw_g, w.before args s = true := fun w h => hts w (List.mem_cons_of_mem _ h)
  have hl : lv_has ls 12 [(0, .ref h0), (1, .int (nI lo)), (2, .int (nI hi)), (3, .int (vc)), (4, .int (vd)), (5, .int (sh))] := hl
  refine lv_aload_n hx hb d_MO_cross_0 rfl (lv_at hl 0 rfl) ?_
  refine k_get hx hb hw uw_MO hown hK hP 0 rfl rfl 26 (by decide) (hw _ wd_740) rfl d_MO_cross_1 ?_
  refine lv_iload_n hx hb d_MO_cross_4 rfl (lv_at hl 2 rfl) ?_
  refine k_iald hx hb hK hP 1 0 rfl rfl (by omega) (by omega) d_MO_cross_5 ?_
  refine lv_i2l hx hb d_MO_cross_6 rfl ?_
  refine lv_iload_n hx hb d_MO_cross_7 rfl (lv_at hl 3 rfl) ?_
  refine lv_i2l hx hb d_MO_cross_8 rfl ?_
  refine lv_lmul hx hb d_MO_cross_9 ?_
  refine lv_aload_n hx hb d_MO_cross_10 rfl (lv_at hl 0 rfl) ?_
  refine k_get hx hb hw uw_MO hown hK hP 0 rfl rfl 27 (by decide) (hw _ wd_741) rfl d_MO_cross_11 ?_
  refine lv_iload_n hx hb d_MO_cross_14 rfl (lv_at hl 2 rfl) ?_
  refine k_iald hx hb hK hP 2 0 rfl rfl (by omega) (by omega) d_MO_cross_15 ?_
  refine lv_i2l hx hb d_MO_cross_16 rfl ?_
  refine lv_iload hx hb d_MO_cross_17 (lv_at hl 4 rfl) ?_
  refine lv_i2l hx hb d_MO_cross_19 rfl ?_
  refine lv_lmul hx hb d_MO_cross_20 ?_
  refine lv_lsub hx hb d_MO_cross_21 ?_
  refine lv_ldc2 (v := 8192) hx hb hown (hw _ wd_713) d_MO_cross_22 ?_
  refine lv_ladd hx hb d_MO_cross_25 ?_
  refine lv_bipush (v := nI 14) hx hb d_MO_cross_26 (by decide) ?_
  refine lv_lshr hx hb d_MO_cross_28 rfl ?_
  refine lv_lstore (lv' := [(6, .long ((((((x.1 hi).toInt64) * vc.toInt64) - (((x.2 hi).toInt64) * vd.toInt64)) + 8192) >>> ((nI 14).toInt64 &&& 63))), (0, .ref h0), (1, .int (nI lo)), (2, .int (nI hi)), (3, .int (vc)), (4, .int (vd)), (5, .int (sh))]) hx hb d_MO_cross_29 hl (by decide) rfl (fun ls hl => ?_)
  refine lv_aload_n hx hb d_MO_cross_31 rfl (lv_at hl 1 rfl) ?_
  refine k_get hx hb hw uw_MO hown hK hP 0 rfl rfl 27 (by decide) (hw _ wd_741) rfl d_MO_cross_32 ?_
  refine lv_iload_n hx hb d_MO_cross_35 rfl (lv_at hl 3 rfl) ?_
  refine k_iald hx hb hK hP 2 0 rfl rfl (by omega) (by omega) d_MO_cross_36 ?_
  refine lv_i2l hx hb d_MO_cross_37 rfl ?_
  refine lv_iload_n hx hb d_MO_cross_38 rfl (lv_at hl 4 rfl) ?_
  refine lv_i2l hx hb d_MO_cross_39 rfl ?_
  refine lv_lmul hx hb d_MO_cross_40 ?_
  refine lv_aload_n hx hb d_MO_cross_41 rfl (lv_at hl 1 rfl) ?_
  refine k_get hx hb hw uw_MO hown hK hP 0 rfl rfl 26 (by decide) (hw _ wd_740) rfl d_MO_cross_42 ?_
  refine lv_iload_n hx hb d_MO_cross_45 rfl (lv_at hl 3 rfl) ?_
  refine k_iald hx hb hK hP 1 0 rfl rfl (by omega) (by omega) d_MO_cross_46 ?_
  refine lv_i2l hx hb d_MO_cross_47 rfl ?_
  refine lv_iload hx hb d_MO_cross_48 (lv_at hl 5 rfl) ?_
  refine lv_i2l hx hb d_MO_cross_50 rfl ?_
  refine lv_lmul hx hb d_MO_cross_51 ?_
  refine lv_ladd hx hb d_MO_cross_52 ?_
  refine lv_ldc2 (v := 8192) hx hb hown (hw _ wd_713) d_MO_cross_53 ?_
  refine lv_ladd hx hb d_MO_cross_56 ?_
  refine lv_bipush (v := nI 14) hx hb d_MO_cross_57 (by decide) ?_
  refine lv_lshr hx hb d_MO_cross_59 rfl ?_
  refine lv_lstore (lv' := [(8, .long ((((((x.2 hi).toInt64) * vc.toInt64) + (((x.1 hi).toInt64) * vd.toInt64)) + 8192) >>> ((nI 14).toInt64 &&& 63))), (6, .long ((((((x.1 hi).toInt64) * vc.toInt64) - (((x.2 hi).toInt64) * vd.toInt64)) + 8192) >>> ((nI 14).toInt64 &&& 63))), (0, .ref h0), (1, .int (nI lo)), (2, .int (nI hi)), (3, .int (vc)), (4, .int (vd)), (5, .int (sh))]) hx hb d_MO_cross_60 hl (by decide) rfl (fun ls hl => ?_)
  refine lv_lload hx hb d_MO_cross_62 (lv_at hl 1 rfl) ?_
  refine lv_l2i hx hb d_MO_cross_64 rfl ?_
  refine lv_istore (lv' := [(10, .int (((((((x.1 hi).toInt64) * vc.toInt64) - (((x.2 hi).toInt64) * vd.toInt64)) + 8192) >>> ((nI 14).toInt64 &&& 63)).toInt32)), (8, .long ((((((x.2 hi).toInt64) * vc.toInt64) + (((x.1 hi).toInt64) * vd.toInt64)) + 8192) >>> ((nI 14).toInt64 &&& 63))), (6, .long ((((((x.1 hi).toInt64) * vc.toInt64) - (((x.2 hi).toInt64) * vd.toInt64)) + 8192) >>> ((nI 14).toInt64 &&& 63))), (0, .ref h0), (1, .int (nI lo)), (2, .int (nI hi)), (3, .int (vc)), (4, .int (vd)), (5, .int (sh))]) hx hb d_MO_cross_65 hl (by decide) rfl (fun ls hl => ?_)
  refine lv_lload hx hb d_MO_cross_67 (lv_at hl 1 rfl) ?_
  refine lv_l2i hx hb d_MO_cross_69 rfl ?_
  refine lv_istore (lv' := [(11, .int (((((((x.2 hi).toInt64) * vc.toInt64) + (((x.1 hi).toInt64) * vd.toInt64)) + 8192) >>> ((nI 14).toInt64 &&& 63)).toInt32)), (10, .int (((((((x.1 hi).toInt64) * vc.toInt64) - (((x.2 hi).toInt64) * vd.toInt64)) + 8192) >>> ((nI 14).toInt64 &&& 63)).toInt32)), (8, .long ((((((x.2 hi).toInt64) * vc.toInt64) + (((x.1 hi).toInt64) * vd.toInt64)) + 8192) >>> ((nI 14).toInt64 &&& 63))), (6, .long ((((((x.1 hi).toInt64) * vc.toInt64) - (((x.2 hi).toInt64) * vd.toInt64)) + 8192) >>> ((nI 14).toInt64 &&& 63))), (0, .ref h0), (1, .int (nI lo)), (2, .int (nI hi)), (3, .int (vc)), (4, .int (vd)), (5, .int (sh))]) hx hb d_MO_cross_70 hl (by decide) rfl (fun ls hl => ?_)
  refine lv_aload_n hx hb d_MO_cross_72 rfl (lv_at hl 4 rfl) ?_
  refine k_get hx hb hw uw_MO hown hK hP 0 rfl rfl 26 (by decide) (hw _ wd_740) rfl d_MO_cross_73 ?_
  refine lv_iload_n hx hb d_MO_cross_76 rfl (lv_at hl 6 rfl) ?_
  refine lv_aload_n hx hb d_MO_cross_77 rfl (lv_at hl 4 rfl) ?_
  refine k_get hx hb hw uw_MO hown hK hP 0 rfl rfl 26 (by decide) (hw _ wd_740) rfl d_MO_cross_78 ?_
  refine lv_iload_n hx hb d_MO_cross_81 rfl (lv_at hl 5 rfl) ?_
  refine k_iald hx hb hK hP 1 0 rfl rfl (by omega) (by omega) d_MO_cross_82 ?_
  refine lv_iload hx hb d_MO_cross_83 (lv_at hl 1 rfl) ?_
  refine lv_isub hx hb d_MO_cross_85 ?_
  refine lv_iload hx hb d_MO_cross_86 (lv_at hl 9 rfl) ?_
  refine lv_ishr hx hb d_MO_cross_88 ?_
  refine k_iast (ws' := [(h0, .inr (8, [.int (xth), .int (nI nby), .ref a1, .int (xra), .int (nI ndb), .ref a2, .int (nI ncb), .ref a3, .ref a4, .int (nI nfr), .ref a5, .ref a6, .int (nI nsy), .int (nI nai), .ref a7, .ref a8, .int (xas), .int (xan), .int (xst), .int (xhr), .int (xhb), .int (xse), .int (xbe), .ref a9, .ref b1, .ref b2, .ref b3, .ref b4, .ref b5, .ref b6, .ref b7, .ref b8, .ref c1, .ref c2, .ref c3, .ref c4, .ref c5, .ref c6, .ref c7, .int (xrg)])), (b3, .inl (tc 0, 16, .inl (upd x.1 hi (((x.1 lo) - (((((((x.1 hi).toInt64) * vc.toInt64) - (((x.2 hi).toInt64) * vd.toInt64)) + 8192) >>> ((nI 14).toInt64 &&& 63)).toInt32)) >>> (sh &&& 31))))), (b4, .inl (tc 0, 16, .inl x.2))]) hx hb hK hP hD hS 1 0 rfl rfl (by omega) (by omega) d_MO_cross_89 rfl (fun H locs hP hD hS => ?_)
  refine lv_aload_n hx hb d_MO_cross_90 rfl (lv_at hl 4 rfl) ?_
  refine k_get hx hb hw uw_MO hown hK hP 0 rfl rfl 27 (by decide) (hw _ wd_741) rfl d_MO_cross_91 ?_
  refine lv_iload_n hx hb d_MO_cross_94 rfl (lv_at hl 6 rfl) ?_
  refine lv_aload_n hx hb d_MO_cross_95 rfl (lv_at hl 4 rfl) ?_
  refine k_get hx hb hw uw_MO hown hK hP 0 rfl rfl 27 (by decide) (hw _ wd_741) rfl d_MO_cross_96 ?_
  refine lv_iload_n hx hb d_MO_cross_99 rfl (lv_at hl 5 rfl) ?_
  refine k_iald hx hb hK hP 2 0 rfl rfl (by omega) (by omega) d_MO_cross_100 ?_
  refine lv_iload hx hb d_MO_cross_101 (lv_at hl 0 rfl) ?_
  refine lv_isub hx hb d_MO_cross_103 ?_
  refine lv_iload hx hb d_MO_cross_104 (lv_at hl 9 rfl) ?_
  refine lv_ishr hx hb d_MO_cross_106 ?_
  refine k_iast (ws' := [(h0, .inr (8, [.int (xth), .int (nI nby), .ref a1, .int (xra), .int (nI ndb), .ref a2, .int (nI ncb), .ref a3, .ref a4, .int (nI nfr), .ref a5, .ref a6, .int (nI nsy), .int (nI nai), .ref a7, .ref a8, .int (xas), .int (xan), .int (xst), .int (xhr), .int (xhb), .int (xse), .int (xbe), .ref a9, .ref b1, .ref b2, .ref b3, .ref b4, .ref b5, .ref b6, .ref b7, .ref b8, .ref c1, .ref c2, .ref c3, .ref c4, .ref c5, .ref c6, .ref c7, .int (xrg)])), (b3, .inl (tc 0, 16, .inl (upd x.1 hi (((x.1 lo) - (((((((x.1 hi).toInt64) * vc.toInt64) - (((x.2 hi).toInt64) * vd.toInt64)) + 8192) >>> ((nI 14).toInt64 &&& 63)).toInt32)) >>> (sh &&& 31))))), (b4, .inl (tc 0, 16, .inl (upd x.2 hi (((x.2 lo) - (((((((x.2 hi).toInt64) * vc.toInt64) + (((x.1 hi).toInt64) * vd.toInt64)) + 8192) >>> ((nI 14).toInt64 &&& 63)).toInt32)) >>> (sh &&& 31)))))]) hx hb hK hP hD hS 2 0 rfl rfl (by omega) (by omega) d_MO_cross_107 rfl (fun H locs hP hD hS => ?_)
  refine lv_aload_n hx hb d_MO_cross_108 rfl (lv_at hl 4 rfl) ?_
  refine k_get hx hb hw uw_MO hown hK hP 0 rfl rfl 26 (by decide) (hw _ wd_740) rfl d_MO_cross_109 ?_
  refine lv_iload_n hx hb d_MO_cross_112 rfl (lv_at hl 5 rfl) ?_
  refine lv_aload_n hx hb d_MO_cross_113 rfl (lv_at hl 4 rfl) ?_
  refine k_get hx hb hw uw_MO hown hK hP 0 rfl rfl 26 (by decide) (hw _ wd_740) rfl d_MO_cross_114 ?_
  refine lv_iload_n hx hb d_MO_cross_117 rfl (lv_at hl 5 rfl) ?_
  refine k_iald hx hb hK hP 1 0 rfl rfl (by omega) (by omega) d_MO_cross_118 ?_
  refine lv_iload hx hb d_MO_cross_119 (lv_at hl 1 rfl) ?_
  refine lv_iadd hx hb d_MO_cross_121 ?_
  refine lv_iload hx hb d_MO_cross_122 (lv_at hl 9 rfl) ?_
  refine lv_ishr hx hb d_MO_cross_124 ?_
  refine k_iast (ws' := [(h0, .inr (8, [.int (xth), .int (nI nby), .ref a1, .int (xra), .int (nI ndb), .ref a2, .int (nI ncb), .ref a3, .ref a4, .int (nI nfr), .ref a5, .ref a6, .int (nI nsy), .int (nI nai), .ref a7, .ref a8, .int (xas), .int (xan), .int (xst), .int (xhr), .int (xhb), .int (xse), .int (xbe), .ref a9, .ref b1, .ref b2, .ref b3, .ref b4, .ref b5, .ref b6, .ref b7, .ref b8, .ref c1, .ref c2, .ref c3, .ref c4, .ref c5, .ref c6, .ref c7, .int (xrg)])), (b3, .inl (tc 0, 16, .inl (upd (upd x.1 hi (((x.1 lo) - (((((((x.1 hi).toInt64) * vc.toInt64) - (((x.2 hi).toInt64) * vd.toInt64)) + 8192) >>> ((nI 14).toInt64 &&& 63)).toInt32)) >>> (sh &&& 31))) lo ((((upd x.1 hi (((x.1 lo) - (((((((x.1 hi).toInt64) * vc.toInt64) - (((x.2 hi).toInt64) * vd.toInt64)) + 8192) >>> ((nI 14).toInt64 &&& 63)).toInt32)) >>> (sh &&& 31))) lo) + (((((((x.1 hi).toInt64) * vc.toInt64) - (((x.2 hi).toInt64) * vd.toInt64)) + 8192) >>> ((nI 14).toInt64 &&& 63)).toInt32)) >>> (sh &&& 31))))), (b4, .inl (tc 0, 16, .inl (upd x.2 hi (((x.2 lo) - (((((((x.2 hi).toInt64) * vc.toInt64) + (((x.1 hi).toInt64) * vd.toInt64)) + 8192) >>> ((nI 14).toInt64 &&& 63)).toInt32)) >>> (sh &&& 31)))))]) hx hb hK hP hD hS 1 0 rfl rfl (by omega) (by omega) d_MO_cross_125 rfl (fun H locs hP hD hS => ?_)
  refine lv_aload_n hx hb d_MO_cross_126 rfl (lv_at hl 4 rfl) ?_
  refine k_get hx hb hw uw_MO hown hK hP 0 rfl rfl 27 (by decide) (hw _ wd_741) rfl d_MO_cross_127 ?_
  refine lv_iload_n hx hb d_MO_cross_130 rfl (lv_at hl 5 rfl) ?_
  refine lv_aload_n hx hb d_MO_cross_131 rfl (lv_at hl 4 rfl) ?_
  refine k_get hx hb hw uw_MO hown hK hP 0 rfl rfl 27 (by decide) (hw _ wd_741) rfl d_MO_cross_132 ?_
  refine lv_iload_n hx hb d_MO_cross_135 rfl (lv_at hl 5 rfl) ?_
  refine k_iald hx hb hK hP 2 0 rfl rfl (by omega) (by omega) d_MO_cross_136 ?_
  refine lv_iload hx hb d_MO_cross_137 (lv_at hl 0 rfl) ?_
  refine lv_iadd hx hb d_MO_cross_139 ?_
  refine lv_iload hx hb d_MO_cross_140 (lv_at hl 9 rfl) ?_
  refine lv_ishr hx hb d_MO_cross_142 ?_
  refine k_iast (ws' := [(h0, .inr (8, [.int (xth), .int (nI nby), .ref a1, .int (xra), .int (nI ndb), .ref a2, .int (nI ncb), .ref a3, .ref a4, .int (nI nfr), .ref a5, .ref a6, .int (nI nsy), .int (nI nai), .ref a7, .ref a8, .int (xas), .int (xan), .int (xst), .int (xhr), .int (xhb), .int (xse), .int (xbe), .ref a9, .ref b1, .ref b2, .ref b3, .ref b4, .ref b5, .ref b6, .ref b7, .ref b8, .ref c1, .ref c2, .ref c3, .ref c4, .ref c5, .ref c6, .ref c7, .int (xrg)])), (b3, .inl (tc 0, 16, .inl (upd (upd x.1 hi (((x.1 lo) - (((((((x.1 hi).toInt64) * vc.toInt64) - (((x.2 hi).toInt64) * vd.toInt64)) + 8192) >>> ((nI 14).toInt64 &&& 63)).toInt32)) >>> (sh &&& 31))) lo ((((upd x.1 hi (((x.1 lo) - (((((((x.1 hi).toInt64) * vc.toInt64) - (((x.2 hi).toInt64) * vd.toInt64)) + 8192) >>> ((nI 14).toInt64 &&& 63)).toInt32)) >>> (sh &&& 31))) lo) + (((((((x.1 hi).toInt64) * vc.toInt64) - (((x.2 hi).toInt64) * vd.toInt64)) + 8192) >>> ((nI 14).toInt64 &&& 63)).toInt32)) >>> (sh &&& 31))))), (b4, .inl (tc 0, 16, .inl (upd (upd x.2 hi (((x.2 lo) - (((((((x.2 hi).toInt64) * vc.toInt64) + (((x.1 hi).toInt64) * vd.toInt64)) + 8192) >>> ((nI 14).toInt64 &&& 63)).toInt32)) >>> (sh &&& 31))) lo ((((upd x.2 hi (((x.2 lo) - (((((((x.2 hi).toInt64) * vc.toInt64) + (((x.1 hi).toInt64) * vd.toInt64)) + 8192) >>> ((nI 14).toInt64 &&& 63)).toInt32)) >>> (sh &&& 31))) lo) + (((((((x.2 hi).toInt64) * vc.toInt64) + (((x.1 hi).toInt64) * vd.toInt64)) + 8192) >>> ((nI 14).toInt64 &&& 63)).toInt32)) >>> (sh &&& 31)))))]) hx hb hK hP hD hS 2 0 rfl rfl (by omega) (by omega) d_MO_cross_143 rfl (fun H locs hP hD hS => ?_)
  rw [hQ]
  exact k_vret () hx hb hr hlk hK hP hD hS [0, 1, 2] (by decide) rfl trivial d_MO_cross_144
set_option maxHeartbeats 4000000 in
set_option maxRecDepth 100000 in
theorem c_MO_transform (l : Launch) (D : va_G) (tc : Nat → ClassId) (tb : Nat → Nat) (h0 : Nat) (nby : Nat) (ndb : Nat) (ncb : Nat) (nfr : Nat) (nsy : Nat) (nai : Nat) (xth : Int32) (xra : Int32) (xas : Int32) (xan : Int32) (xst : Int32) (xhr : Int32) (xhb : Int32) (xse : Int32) (xbe : Int32) (xrg : Int32) (a1 : Nat) (a2 : Nat) (a3 : Nat) (a4 : Nat) (a5 : Nat) (a6 : Nat) (a7 : Nat) (a8 : Nat) (a9 : Nat) (b1 : Nat) (b2 : Nat) (b3 : Nat) (b4 : Nat) (b5 : Nat) (b6 : Nat) (b7 : Nat) (b8 : Nat) (c1 : Nat) (c2 : Nat) (c3 : Nat) (c4 : Nat) (c5 : Nat) (c6 : Nat) (c7 : Nat) (x : RP) (sgn : Int32) : Mv l D tc tb y_MO_transform prog_10_method_14_code 6 none ({ frames := 1, cells := 0, slots := 0, locals := 31 }) [.ref h0, .int (sgn)] [(h0, .inr (8, [.int (xth), .int (nI nby), .ref a1, .int (xra), .int (nI ndb), .ref a2, .int (nI ncb), .ref a3, .ref a4, .int (nI nfr), .ref a5, .ref a6, .int (nI nsy), .int (nI nai), .ref a7, .ref a8, .int (xas), .int (xan), .int (xst), .int (xhr), .int (xhb), .int (xse), .int (xbe), .ref a9, .ref b1, .ref b2, .ref b3, .ref b4, .ref b5, .ref b6, .ref b7, .ref b8, .ref c1, .ref c2, .ref c3, .ref c4, .ref c5, .ref c6, .ref c7, .int (xrg)])), (b3, .inl (tc 0, 16, .inl x.1)), (b4, .inl (tc 0, 16, .inl x.2)), (b5, .inl (tc 0, 16, .inl (fun w9 => nI (rndN w9)))), (b8, .inl (tc 0, 16, .inl cosT))] (fun _ : Unit => True) (fun _ : Unit => [(h0, .inr (8, [.int (xth), .int (nI nby), .ref a1, .int (xra), .int (nI ndb), .ref a2, .int (nI ncb), .ref a3, .ref a4, .int (nI nfr), .ref a5, .ref a6, .int (nI nsy), .int (nI nai), .ref a7, .ref a8, .int (xas), .int (xan), .int (xst), .int (xhr), .int (xhb), .int (xse), .int (xbe), .ref a9, .ref b1, .ref b2, .ref b3, .ref b4, .ref b5, .ref b6, .ref b7, .ref b8, .ref c1, .ref c2, .ref c3, .ref c4, .ref c5, .ref c6, .ref c7, .int (xrg)])), (b3, .inl (tc 0, 16, .inl ((trM sgn x).1))), (b4, .inl (tc 0, 16, .inl ((trM sgn x).2))), (b5, .inl (tc 0, 16, .inl (fun w9 => nI (rndN w9)))), (b8, .inl (tc 0, 16, .inl cosT))]) := by
  refine Mv.go (by decide) (Nat.le_of_ble_eq_true rfl) ?_
  intro p e s m below meth c A ls R args Q C
  obtain ⟨hx, hb, hr, hts, hown, hlk, hml, hin, hA, hST, hN, hK, hP, hD, hS, hl, hR, hQ⟩ := C
  have hw : ∀ w ∈ lw_g, w.before args s = true := fun w h => hts w (List.mem_cons_of_mem _ h)
  have hl : lv_has ls 6 [(0, .ref h0), (1, .int (sgn))] := hl
  refine lv_iconst (v := nI 0) hx hb d_MO_transform_0 (by decide) ?_
  refine lv_istore_n (lv' := [(2, .int (nI 0)), (0, .ref h0), (1, .int (sgn))]) hx hb d_MO_transform_1 rfl hl (by decide) rfl (fun ls hl => ?_)
  refine k_loop (P := fun k : Nat => ∀ (H : Heap) (locs : List Loc) (ls : Array Slot), lv_has ls 6 [(2, .int (nI k)), (0, .ref h0), (1, .int (sgn))] → va_P D classes [(h0, .inr (8, [.int (xth), .int (nI nby), .ref a1, .int (xra), .int (nI ndb), .ref a2, .int (nI ncb), .ref a3, .ref a4, .int (nI nfr), .ref a5, .ref a6, .int (nI nsy), .int (nI nai), .ref a7, .ref a8, .int (xas), .int (xan), .int (xst), .int (xhr), .int (xhb), .int (xse), .int (xbe), .ref a9, .ref b1, .ref b2, .ref b3, .ref b4, .ref b5, .ref b6, .ref b7, .ref b8, .ref c1, .ref c2, .ref c3, .ref c4, .ref c5, .ref c6, .ref c7, .int (xrg)])), (b3, .inl (tc 0, 16, .inl ((rvF k x).1))), (b4, .inl (tc 0, 16, .inl ((rvF k x).2))), (b5, .inl (tc 0, 16, .inl (fun w9 => nI (rndN w9)))), (b8, .inl (tc 0, 16, .inl cosT))] H → va_D A [(h0, .inr (8, [.int (xth), .int (nI nby), .ref a1, .int (xra), .int (nI ndb), .ref a2, .int (nI ncb), .ref a3, .ref a4, .int (nI nfr), .ref a5, .ref a6, .int (nI nsy), .int (nI nai), .ref a7, .ref a8, .int (xas), .int (xan), .int (xst), .int (xhr), .int (xhb), .int (xse), .int (xbe), .ref a9, .ref b1, .ref b2, .ref b3, .ref b4, .ref b5, .ref b6, .ref b7, .ref b8, .ref c1, .ref c2, .ref c3, .ref c4, .ref c5, .ref c6, .ref c7, .int (xrg)])), (b3, .inl (tc 0, 16, .inl ((rvF k x).1))), (b4, .inl (tc 0, 16, .inl ((rvF k x).2))), (b5, .inl (tc 0, 16, .inl (fun w9 => nI (rndN w9)))), (b8, .inl (tc 0, 16, .inl cosT))] → va_S A s.heap H locs → W p l e R s m args below meth c H locs 0 0 Q (F0 m 2 ls [])) (16) (fun k hk_k ih_k  H locs ls hl hP hD hS => ?_) (0) (by omega)   s.heap [] ls (lv_sub hl [0, 1, 2] rfl) (by rw [rvF_0]; exact hP) (k_Ds hD [0, 1, 2, 3, 4] (by decide) rfl) hS
  refine lv_iload_n hx hb d_MO_transform_2 rfl (lv_at hl 0 rfl) ?_
  refine lv_bipush (v := nI 16) hx hb d_MO_transform_3 (by decide) ?_
  refine k_icmp_ge (tgt := 35) hx hb d_MO_transform_5 (by decide) (by omega) (by omega) (fun h5 => ?_) (fun h5 => ?_)
  · obtain rfl : 16 = k := by omega
    refine lv_iconst (v := nI 2) hx hb d_MO_transform_35 (by decide) ?_
    refine lv_istore_n (lv' := [(2, .int (nI 2)), (0, .ref h0), (1, .int (sgn))]) hx hb d_MO_transform_36 rfl hl (by decide) rfl (fun ls hl => ?_)
    refine lv_iload_n hx hb d_MO_transform_37 rfl (lv_at hl 0 rfl) ?_
    refine lv_bipush (v := nI 16) hx hb d_MO_transform_38 (by decide) ?_
    refine k_icmp_gt (tgt := 145) hx hb d_MO_transform_40 (by decide) (by omega) (by omega) (fun h40 => ?_) (fun h40 => ?_)
    · exfalso; omega
    · refine lv_iconst (v := nI 0) hx hb d_MO_transform_43 (by decide) ?_
      refine lv_istore_n (lv' := [(3, .int (nI 0)), (2, .int (nI 2)), (0, .ref h0), (1, .int (sgn))]) hx hb d_MO_transform_44 rfl hl (by decide) rfl (fun ls hl => ?_)
      refine k_loop (P := fun b : Nat => ∀ (H : Heap) (locs : List Loc) (ls : Array Slot), lv_has ls 6 [(3, .int (nI (2 * b))), (2, .int (nI 2)), (0, .ref h0), (1, .int (sgn))] → va_P D classes [(h0, .inr (8, [.int (xth), .int (nI nby), .ref a1, .int (xra), .int (nI ndb), .ref a2, .int (nI ncb), .ref a3, .ref a4, .int (nI nfr), .ref a5, .ref a6, .int (nI nsy), .int (nI nai), .ref a7, .ref a8, .int (xas), .int (xan), .int (xst), .int (xhr), .int (xhb), .int (xse), .int (xbe), .ref a9, .ref b1, .ref b2, .ref b3, .ref b4, .ref b5, .ref b6, .ref b7, .ref b8, .ref c1, .ref c2, .ref c3, .ref c4, .ref c5, .ref c6, .ref c7, .int (xrg)])), (b3, .inl (tc 0, 16, .inl ((mbF 2 1 (nI 1) sgn b (rvF 16 x)).1))), (b4, .inl (tc 0, 16, .inl ((mbF 2 1 (nI 1) sgn b (rvF 16 x)).2))), (b5, .inl (tc 0, 16, .inl (fun w9 => nI (rndN w9)))), (b8, .inl (tc 0, 16, .inl cosT))] H → va_D A [(h0, .inr (8, [.int (xth), .int (nI nby), .ref a1, .int (xra), .int (nI ndb), .ref a2, .int (nI ncb), .ref a3, .ref a4, .int (nI nfr), .ref a5, .ref a6, .int (nI nsy), .int (nI nai), .ref a7, .ref a8, .int (xas), .int (xan), .int (xst), .int (xhr), .int (xhb), .int (xse), .int (xbe), .ref a9, .ref b1, .ref b2, .ref b3, .ref b4, .ref b5, .ref b6, .ref b7, .ref b8, .ref c1, .ref c2, .ref c3, .ref c4, .ref c5, .ref c6, .ref c7, .int (xrg)])), (b3, .inl (tc 0, 16, .inl ((mbF 2 1 (nI 1) sgn b (rvF 16 x)).1))), (b4, .inl (tc 0, 16, .inl ((mbF 2 1 (nI 1) sgn b (rvF 16 x)).2))), (b5, .inl (tc 0, 16, .inl (fun w9 => nI (rndN w9)))), (b8, .inl (tc 0, 16, .inl cosT))] → va_S A s.heap H locs → W p l e R s m args below meth c H locs 0 0 Q (F0 m 45 ls [])) (8) (fun b hk_b ih_b  H locs ls hl hP hD hS => ?_) (0) (by omega)   H locs ls (lv_sub hl [0, 1, 2, 3] rfl) (by rw [mbF_0]; exact hP) (k_Ds hD [0, 1, 2, 3, 4] (by decide) rfl) hS
      refine lv_iload_n hx hb d_MO_transform_45 rfl (lv_at hl 0 rfl) ?_
      refine lv_bipush (v := nI 16) hx hb d_MO_transform_46 (by decide) ?_
      refine k_icmp_ge (tgt := 138) hx hb d_MO_transform_48 (by decide) (by omega) (by omega) (fun h48 => ?_) (fun h48 => ?_)
      · obtain rfl : 8 = b := by omega
        refine lv_iload_n hx hb d_MO_transform_138 rfl (lv_at hl 1 rfl) ?_
        refine lv_iconst (v := nI 2) hx hb d_MO_transform_139 (by decide) ?_
        refine k_imul hx hb d_MO_transform_140 ?_
        refine lv_istore_n (lv' := [(2, .int (nI 4)), (3, .int (nI (2 * 8))), (0, .ref h0), (1, .int (sgn))]) hx hb d_MO_transform_141 rfl hl (by decide) rfl (fun ls hl => ?_)
        refine lv_goto (tgt := 37) hx hb d_MO_transform_142 (by decide) ?_
        refine lv_iload_n hx hb d_MO_transform_37 rfl (lv_at hl 0 rfl) ?_
        refine lv_bipush (v := nI 16) hx hb d_MO_transform_38 (by decide) ?_
        refine k_icmp_gt (tgt := 145) hx hb d_MO_transform_40 (by decide) (by omega) (by omega) (fun h40 => ?_) (fun h40 => ?_)
        · exfalso; omega
        · refine lv_iconst (v := nI 0) hx hb d_MO_transform_43 (by decide) ?_
          refine lv_istore_n (lv' := [(3, .int (nI 0)), (2, .int (nI 4)), (0, .ref h0), (1, .int (sgn))]) hx hb d_MO_transform_44 rfl hl (by decide) rfl (fun ls hl => ?_)
          refine k_loop (P := fun b : Nat => ∀ (H : Heap) (locs : List Loc) (ls : Array Slot), lv_has ls 6 [(3, .int (nI (4 * b))), (2, .int (nI 4)), (0, .ref h0), (1, .int (sgn))] → va_P D classes [(h0, .inr (8, [.int (xth), .int (nI nby), .ref a1, .int (xra), .int (nI ndb), .ref a2, .int (nI ncb), .ref a3, .ref a4, .int (nI nfr), .ref a5, .ref a6, .int (nI nsy), .int (nI nai), .ref a7, .ref a8, .int (xas), .int (xan), .int (xst), .int (xhr), .int (xhb), .int (xse), .int (xbe), .ref a9, .ref b1, .ref b2, .ref b3, .ref b4, .ref b5, .ref b6, .ref b7, .ref b8, .ref c1, .ref c2, .ref c3, .ref c4, .ref c5, .ref c6, .ref c7, .int (xrg)])), (b3, .inl (tc 0, 16, .inl ((mbF 4 2 (nI 0) sgn b (mbF 2 1 (nI 1) sgn 8 (rvF 16 x))).1))), (b4, .inl (tc 0, 16, .inl ((mbF 4 2 (nI 0) sgn b (mbF 2 1 (nI 1) sgn 8 (rvF 16 x))).2))), (b5, .inl (tc 0, 16, .inl (fun w9 => nI (rndN w9)))), (b8, .inl (tc 0, 16, .inl cosT))] H → va_D A [(h0, .inr (8, [.int (xth), .int (nI nby), .ref a1, .int (xra), .int (nI ndb), .ref a2, .int (nI ncb), .ref a3, .ref a4, .int (nI nfr), .ref a5, .ref a6, .int (nI nsy), .int (nI nai), .ref a7, .ref a8, .int (xas), .int (xan), .int (xst), .int (xhr), .int (xhb), .int (xse), .int (xbe), .ref a9, .ref b1, .ref b2, .ref b3, .ref b4, .ref b5, .ref b6, .ref b7, .ref b8, .ref c1, .ref c2, .ref c3, .ref c4, .ref c5, .ref c6, .ref c7, .int (xrg)])), (b3, .inl (tc 0, 16, .inl ((mbF 4 2 (nI 0) sgn b (mbF 2 1 (nI 1) sgn 8 (rvF 16 x))).1))), (b4, .inl (tc 0, 16, .inl ((mbF 4 2 (nI 0) sgn b (mbF 2 1 (nI 1) sgn 8 (rvF 16 x))).2))), (b5, .inl (tc 0, 16, .inl (fun w9 => nI (rndN w9)))), (b8, .inl (tc 0, 16, .inl cosT))] → va_S A s.heap H locs → W p l e R s m args below meth c H locs 0 0 Q (F0 m 45 ls [])) (4) (fun b hk_b ih_b  H locs ls hl hP hD hS => ?_) (0) (by omega)   H locs ls (lv_sub hl [0, 1, 2, 3] rfl) (by rw [mbF_0]; exact hP) (k_Ds hD [0, 1, 2, 3, 4] (by decide) rfl) hS
          refine lv_iload_n hx hb d_MO_transform_45 rfl (lv_at hl 0 rfl) ?_
          refine lv_bipush (v := nI 16) hx hb d_MO_transform_46 (by decide) ?_
          refine k_icmp_ge (tgt := 138) hx hb d_MO_transform_48 (by decide) (by omega) (by omega) (fun h48 => ?_) (fun h48 => ?_)
          · obtain rfl : 4 = b := by omega
            refine lv_iload_n hx hb d_MO_transform_138 rfl (lv_at hl 1 rfl) ?_
            refine lv_iconst (v := nI 2) hx hb d_MO_transform_139 (by decide) ?_
            refine k_imul hx hb d_MO_transform_140 ?_
            refine lv_istore_n (lv' := [(2, .int (nI 8)), (3, .int (nI (4 * 4))), (0, .ref h0), (1, .int (sgn))]) hx hb d_MO_transform_141 rfl hl (by decide) rfl (fun ls hl => ?_)
            refine lv_goto (tgt := 37) hx hb d_MO_transform_142 (by decide) ?_
            refine lv_iload_n hx hb d_MO_transform_37 rfl (lv_at hl 0 rfl) ?_
            refine lv_bipush (v := nI 16) hx hb d_MO_transform_38 (by decide) ?_
            refine k_icmp_gt (tgt := 145) hx hb d_MO_transform_40 (by decide) (by omega) (by omega) (fun h40 => ?_) (fun h40 => ?_)
            · exfalso; omega
            · refine lv_iconst (v := nI 0) hx hb d_MO_transform_43 (by decide) ?_
              refine lv_istore_n (lv' := [(3, .int (nI 0)), (2, .int (nI 8)), (0, .ref h0), (1, .int (sgn))]) hx hb d_MO_transform_44 rfl hl (by decide) rfl (fun ls hl => ?_)
              refine k_loop (P := fun b : Nat => ∀ (H : Heap) (locs : List Loc) (ls : Array Slot), lv_has ls 6 [(3, .int (nI (8 * b))), (2, .int (nI 8)), (0, .ref h0), (1, .int (sgn))] → va_P D classes [(h0, .inr (8, [.int (xth), .int (nI nby), .ref a1, .int (xra), .int (nI ndb), .ref a2, .int (nI ncb), .ref a3, .ref a4, .int (nI nfr), .ref a5, .ref a6, .int (nI nsy), .int (nI nai), .ref a7, .ref a8, .int (xas), .int (xan), .int (xst), .int (xhr), .int (xhb), .int (xse), .int (xbe), .ref a9, .ref b1, .ref b2, .ref b3, .ref b4, .ref b5, .ref b6, .ref b7, .ref b8, .ref c1, .ref c2, .ref c3, .ref c4, .ref c5, .ref c6, .ref c7, .int (xrg)])), (b3, .inl (tc 0, 16, .inl ((mbF 8 4 (nI 1) sgn b (mbF 4 2 (nI 0) sgn 4 (mbF 2 1 (nI 1) sgn 8 (rvF 16 x)))).1))), (b4, .inl (tc 0, 16, .inl ((mbF 8 4 (nI 1) sgn b (mbF 4 2 (nI 0) sgn 4 (mbF 2 1 (nI 1) sgn 8 (rvF 16 x)))).2))), (b5, .inl (tc 0, 16, .inl (fun w9 => nI (rndN w9)))), (b8, .inl (tc 0, 16, .inl cosT))] H → va_D A [(h0, .inr (8, [.int (xth), .int (nI nby), .ref a1, .int (xra), .int (nI ndb), .ref a2, .int (nI ncb), .ref a3, .ref a4, .int (nI nfr), .ref a5, .ref a6, .int (nI nsy), .int (nI nai), .ref a7, .ref a8, .int (xas), .int (xan), .int (xst), .int (xhr), .int (xhb), .int (xse), .int (xbe), .ref a9, .ref b1, .ref b2, .ref b3, .ref b4, .ref b5, .ref b6, .ref b7, .ref b8, .ref c1, .ref c2, .ref c3, .ref c4, .ref c5, .ref c6, .ref c7, .int (xrg)])), (b3, .inl (tc 0, 16, .inl ((mbF 8 4 (nI 1) sgn b (mbF 4 2 (nI 0) sgn 4 (mbF 2 1 (nI 1) sgn 8 (rvF 16 x)))).1))), (b4, .inl (tc 0, 16, .inl ((mbF 8 4 (nI 1) sgn b (mbF 4 2 (nI 0) sgn 4 (mbF 2 1 (nI 1) sgn 8 (rvF 16 x)))).2))), (b5, .inl (tc 0, 16, .inl (fun w9 => nI (rndN w9)))), (b8, .inl (tc 0, 16, .inl cosT))] → va_S A s.heap H locs → W p l e R s m args below meth c H locs 0 0 Q (F0 m 45 ls [])) (2) (fun b hk_b ih_b  H locs ls hl hP hD hS => ?_) (0) (by omega)   H locs ls (lv_sub hl [0, 1, 2, 3] rfl) (by rw [mbF_0]; exact hP) (k_Ds hD [0, 1, 2, 3, 4] (by decide) rfl) hS
              refine lv_iload_n hx hb d_MO_transform_45 rfl (lv_at hl 0 rfl) ?_
              refine lv_bipush (v := nI 16) hx hb d_MO_transform_46 (by decide) ?_
              refine k_icmp_ge (tgt := 138) hx hb d_MO_transform_48 (by decide) (by omega) (by omega) (fun h48 => ?_) (fun h48 => ?_)
              · obtain rfl : 2 = b := by omega
                refine lv_iload_n hx hb d_MO_transform_138 rfl (lv_at hl 1 rfl) ?_
                refine lv_iconst (v := nI 2) hx hb d_MO_transform_139 (by decide) ?_
                refine k_imul hx hb d_MO_transform_140 ?_
                refine lv_istore_n (lv' := [(2, .int (nI 16)), (3, .int (nI (8 * 2))), (0, .ref h0), (1, .int (sgn))]) hx hb d_MO_transform_141 rfl hl (by decide) rfl (fun ls hl => ?_)
                refine lv_goto (tgt := 37) hx hb d_MO_transform_142 (by decide) ?_
                refine lv_iload_n hx hb d_MO_transform_37 rfl (lv_at hl 0 rfl) ?_
                refine lv_bipush (v := nI 16) hx hb d_MO_transform_38 (by decide) ?_
                refine k_icmp_gt (tgt := 145) hx hb d_MO_transform_40 (by decide) (by omega) (by omega) (fun h40 => ?_) (fun h40 => ?_)
                · exfalso; omega
                · refine lv_iconst (v := nI 0) hx hb d_MO_transform_43 (by decide) ?_
                  refine lv_istore_n (lv' := [(3, .int (nI 0)), (2, .int (nI 16)), (0, .ref h0), (1, .int (sgn))]) hx hb d_MO_transform_44 rfl hl (by decide) rfl (fun ls hl => ?_)
                  refine k_loop (P := fun b : Nat => ∀ (H : Heap) (locs : List Loc) (ls : Array Slot), lv_has ls 6 [(3, .int (nI (16 * b))), (2, .int (nI 16)), (0, .ref h0), (1, .int (sgn))] → va_P D classes [(h0, .inr (8, [.int (xth), .int (nI nby), .ref a1, .int (xra), .int (nI ndb), .ref a2, .int (nI ncb), .ref a3, .ref a4, .int (nI nfr), .ref a5, .ref a6, .int (nI nsy), .int (nI nai), .ref a7, .ref a8, .int (xas), .int (xan), .int (xst), .int (xhr), .int (xhb), .int (xse), .int (xbe), .ref a9, .ref b1, .ref b2, .ref b3, .ref b4, .ref b5, .ref b6, .ref b7, .ref b8, .ref c1, .ref c2, .ref c3, .ref c4, .ref c5, .ref c6, .ref c7, .int (xrg)])), (b3, .inl (tc 0, 16, .inl ((mbF 16 8 (nI 0) sgn b (mbF 8 4 (nI 1) sgn 2 (mbF 4 2 (nI 0) sgn 4 (mbF 2 1 (nI 1) sgn 8 (rvF 16 x))))).1))), (b4, .inl (tc 0, 16, .inl ((mbF 16 8 (nI 0) sgn b (mbF 8 4 (nI 1) sgn 2 (mbF 4 2 (nI 0) sgn 4 (mbF 2 1 (nI 1) sgn 8 (rvF 16 x))))).2))), (b5, .inl (tc 0, 16, .inl (fun w9 => nI (rndN w9)))), (b8, .inl (tc 0, 16, .inl cosT))] H → va_D A [(h0, .inr (8, [.int (xth), .int (nI nby), .ref a1, .int (xra), .int (nI ndb), .ref a2, .int (nI ncb), .ref a3, .ref a4, .int (nI nfr), .ref a5, .ref a6, .int (nI nsy), .int (nI nai), .ref a7, .ref a8, .int (xas), .int (xan), .int (xst), .int (xhr), .int (xhb), .int (xse), .int (xbe), .ref a9, .ref b1, .ref b2, .ref b3, .ref b4, .ref b5, .ref b6, .ref b7, .ref b8, .ref c1, .ref c2, .ref c3, .ref c4, .ref c5, .ref c6, .ref c7, .int (xrg)])), (b3, .inl (tc 0, 16, .inl ((mbF 16 8 (nI 0) sgn b (mbF 8 4 (nI 1) sgn 2 (mbF 4 2 (nI 0) sgn 4 (mbF 2 1 (nI 1) sgn 8 (rvF 16 x))))).1))), (b4, .inl (tc 0, 16, .inl ((mbF 16 8 (nI 0) sgn b (mbF 8 4 (nI 1) sgn 2 (mbF 4 2 (nI 0) sgn 4 (mbF 2 1 (nI 1) sgn 8 (rvF 16 x))))).2))), (b5, .inl (tc 0, 16, .inl (fun w9 => nI (rndN w9)))), (b8, .inl (tc 0, 16, .inl cosT))] → va_S A s.heap H locs → W p l e R s m args below meth c H locs 0 0 Q (F0 m 45 ls [])) (1) (fun b hk_b ih_b  H locs ls hl hP hD hS => ?_) (0) (by omega)   H locs ls (lv_sub hl [0, 1, 2, 3] rfl) (by rw [mbF_0]; exact hP) (k_Ds hD [0, 1, 2, 3, 4] (by decide) rfl) hS
                  refine lv_iload_n hx hb d_MO_transform_45 rfl (lv_at hl 0 rfl) ?_
                  refine lv_bipush (v := nI 16) hx hb d_MO_transform_46 (by decide) ?_
                  refine k_icmp_ge (tgt := 138) hx hb d_MO_transform_48 (by decide) (by omega) (by omega) (fun h48 => ?_) (fun h48 => ?_)
                  · obtain rfl : 1 = b := by omega
                    refine lv_iload_n hx hb d_MO_transform_138 rfl (lv_at hl 1 rfl) ?_
                    refine lv_iconst (v := nI 2) hx hb d_MO_transform_139 (by decide) ?_
                    refine k_imul hx hb d_MO_transform_140 ?_
                    refine lv_istore_n (lv' := [(2, .int (nI 32)), (3, .int (nI (16 * 1))), (0, .ref h0), (1, .int (sgn))]) hx hb d_MO_transform_141 rfl hl (by decide) rfl (fun ls hl => ?_)
                    refine lv_goto (tgt := 37) hx hb d_MO_transform_142 (by decide) ?_
                    refine lv_iload_n hx hb d_MO_transform_37 rfl (lv_at hl 0 rfl) ?_
                    refine lv_bipush (v := nI 16) hx hb d_MO_transform_38 (by decide) ?_
                    refine k_icmp_gt (tgt := 145) hx hb d_MO_transform_40 (by decide) (by omega) (by omega) (fun h40 => ?_) (fun h40 => ?_)
                    · rw [hQ]
                      have hP : va_P D classes [(h0, .inr (8, [.int (xth), .int (nI nby), .ref a1, .int (xra), .int (nI ndb), .ref a2, .int (nI ncb), .ref a3, .ref a4, .int (nI nfr), .ref a5, .ref a6, .int (nI nsy), .int (nI nai), .ref a7, .ref a8, .int (xas), .int (xan), .int (xst), .int (xhr), .int (xhb), .int (xse), .int (xbe), .ref a9, .ref b1, .ref b2, .ref b3, .ref b4, .ref b5, .ref b6, .ref b7, .ref b8, .ref c1, .ref c2, .ref c3, .ref c4, .ref c5, .ref c6, .ref c7, .int (xrg)])), (b3, .inl (tc 0, 16, .inl ((trM sgn x).1))), (b4, .inl (tc 0, 16, .inl ((trM sgn x).2))), (b5, .inl (tc 0, 16, .inl (fun w9 => nI (rndN w9)))), (b8, .inl (tc 0, 16, .inl cosT))] H := by rw [trM_d]; have hP := k_sub hP (is := [0, 1, 2, 3, 4]) (w := [(h0, .inr (8, [.int (xth), .int (nI nby), .ref a1, .int (xra), .int (nI ndb), .ref a2, .int (nI ncb), .ref a3, .ref a4, .int (nI nfr), .ref a5, .ref a6, .int (nI nsy), .int (nI nai), .ref a7, .ref a8, .int (xas), .int (xan), .int (xst), .int (xhr), .int (xhb), .int (xse), .int (xbe), .ref a9, .ref b1, .ref b2, .ref b3, .ref b4, .ref b5, .ref b6, .ref b7, .ref b8, .ref c1, .ref c2, .ref c3, .ref c4, .ref c5, .ref c6, .ref c7, .int (xrg)])), (b3, .inl (tc 0, 16, .inl ((mbF 16 8 (nI 0) sgn 1 (mbF 8 4 (nI 1) sgn 2 (mbF 4 2 (nI 0) sgn 4 (mbF 2 1 (nI 1) sgn 8 (rvF 16 x))))).1))), (b4, .inl (tc 0, 16, .inl ((mbF 16 8 (nI 0) sgn 1 (mbF 8 4 (nI 1) sgn 2 (mbF 4 2 (nI 0) sgn 4 (mbF 2 1 (nI 1) sgn 8 (rvF 16 x))))).2))), (b5, .inl (tc 0, 16, .inl (fun w9 => nI (rndN w9)))), (b8, .inl (tc 0, 16, .inl cosT))]) rfl; exact hP
                      have hD : va_D A [(h0, .inr (8, [.int (xth), .int (nI nby), .ref a1, .int (xra), .int (nI ndb), .ref a2, .int (nI ncb), .ref a3, .ref a4, .int (nI nfr), .ref a5, .ref a6, .int (nI nsy), .int (nI nai), .ref a7, .ref a8, .int (xas), .int (xan), .int (xst), .int (xhr), .int (xhb), .int (xse), .int (xbe), .ref a9, .ref b1, .ref b2, .ref b3, .ref b4, .ref b5, .ref b6, .ref b7, .ref b8, .ref c1, .ref c2, .ref c3, .ref c4, .ref c5, .ref c6, .ref c7, .int (xrg)])), (b3, .inl (tc 0, 16, .inl ((trM sgn x).1))), (b4, .inl (tc 0, 16, .inl ((trM sgn x).2))), (b5, .inl (tc 0, 16, .inl (fun w9 => nI (rndN w9)))), (b8, .inl (tc 0, 16, .inl cosT))] := k_Ds hD [0, 1, 2, 3, 4] (by decide) rfl
                      exact k_vret () hx hb hr hlk hK hP hD hS [0, 1, 2, 3, 4] (by decide) rfl trivial d_MO_transform_145
                    · exfalso; omega
                  · refine lv_iconst (v := nI 0) hx hb d_MO_transform_51 (by decide) ?_
                    refine lv_istore (lv' := [(4, .int (nI 0)), (3, .int (nI (16 * b))), (2, .int (nI 16)), (0, .ref h0), (1, .int (sgn))]) hx hb d_MO_transform_52 hl (by decide) rfl (fun ls hl => ?_)
                    refine k_loop (P := fun j : Nat => ∀ (H : Heap) (locs : List Loc) (ls : Array Slot), lv_has ls 6 [(4, .int (nI j)), (3, .int (nI (16 * b))), (2, .int (nI 16)), (0, .ref h0), (1, .int (sgn))] → va_P D classes [(h0, .inr (8, [.int (xth), .int (nI nby), .ref a1, .int (xra), .int (nI ndb), .ref a2, .int (nI ncb), .ref a3, .ref a4, .int (nI nfr), .ref a5, .ref a6, .int (nI nsy), .int (nI nai), .ref a7, .ref a8, .int (xas), .int (xan), .int (xst), .int (xhr), .int (xhb), .int (xse), .int (xbe), .ref a9, .ref b1, .ref b2, .ref b3, .ref b4, .ref b5, .ref b6, .ref b7, .ref b8, .ref c1, .ref c2, .ref c3, .ref c4, .ref c5, .ref c6, .ref c7, .int (xrg)])), (b3, .inl (tc 0, 16, .inl ((mjF 16 8 (nI 0) sgn b j (mbF 16 8 (nI 0) sgn b (mbF 8 4 (nI 1) sgn 2 (mbF 4 2 (nI 0) sgn 4 (mbF 2 1 (nI 1) sgn 8 (rvF 16 x)))))).1))), (b4, .inl (tc 0, 16, .inl ((mjF 16 8 (nI 0) sgn b j (mbF 16 8 (nI 0) sgn b (mbF 8 4 (nI 1) sgn 2 (mbF 4 2 (nI 0) sgn 4 (mbF 2 1 (nI 1) sgn 8 (rvF 16 x)))))).2))), (b5, .inl (tc 0, 16, .inl (fun w9 => nI (rndN w9)))), (b8, .inl (tc 0, 16, .inl cosT))] H → va_D A [(h0, .inr (8, [.int (xth), .int (nI nby), .ref a1, .int (xra), .int (nI ndb), .ref a2, .int (nI ncb), .ref a3, .ref a4, .int (nI nfr), .ref a5, .ref a6, .int (nI nsy), .int (nI nai), .ref a7, .ref a8, .int (xas), .int (xan), .int (xst), .int (xhr), .int (xhb), .int (xse), .int (xbe), .ref a9, .ref b1, .ref b2, .ref b3, .ref b4, .ref b5, .ref b6, .ref b7, .ref b8, .ref c1, .ref c2, .ref c3, .ref c4, .ref c5, .ref c6, .ref c7, .int (xrg)])), (b3, .inl (tc 0, 16, .inl ((mjF 16 8 (nI 0) sgn b j (mbF 16 8 (nI 0) sgn b (mbF 8 4 (nI 1) sgn 2 (mbF 4 2 (nI 0) sgn 4 (mbF 2 1 (nI 1) sgn 8 (rvF 16 x)))))).1))), (b4, .inl (tc 0, 16, .inl ((mjF 16 8 (nI 0) sgn b j (mbF 16 8 (nI 0) sgn b (mbF 8 4 (nI 1) sgn 2 (mbF 4 2 (nI 0) sgn 4 (mbF 2 1 (nI 1) sgn 8 (rvF 16 x)))))).2))), (b5, .inl (tc 0, 16, .inl (fun w9 => nI (rndN w9)))), (b8, .inl (tc 0, 16, .inl cosT))] → va_S A s.heap H locs → W p l e R s m args below meth c H locs 0 0 Q (F0 m 54 ls [])) (8) (fun j hk_j ih_j  H locs ls hl hP hD hS => ?_) (0) (by omega)   H locs ls (lv_sub hl [0, 1, 2, 3, 4] rfl) (by rw [mjF_0]; exact hP) (k_Ds hD [0, 1, 2, 3, 4] (by decide) rfl) hS
                    refine lv_iload hx hb d_MO_transform_54 (lv_at hl 0 rfl) ?_
                    refine lv_iload_n hx hb d_MO_transform_56 rfl (lv_at hl 2 rfl) ?_
                    refine lv_iconst (v := nI 2) hx hb d_MO_transform_57 (by decide) ?_
                    refine k_idiv hx hb d_MO_transform_58 (by omega) (by omega) (by omega) ?_
                    refine k_icmp_ge (tgt := 131) hx hb d_MO_transform_59 (by decide) (by omega) (by omega) (fun h59 => ?_) (fun h59 => ?_)
                    · obtain rfl : 8 = j := by omega
                      refine lv_iload_n hx hb d_MO_transform_131 rfl (lv_at hl 1 rfl) ?_
                      refine lv_iload_n hx hb d_MO_transform_132 rfl (lv_at hl 2 rfl) ?_
                      refine k_iadd hx hb d_MO_transform_133 ?_
                      refine k_topi (y := nI (16 * (b + 1))) (congrArg nI (by omega)) ?_
                      refine lv_istore_n (lv' := [(3, .int (nI (16 * (b + 1)))), (4, .int (nI 8)), (2, .int (nI 16)), (0, .ref h0), (1, .int (sgn))]) hx hb d_MO_transform_134 rfl hl (by decide) rfl (fun ls hl => ?_)
                      refine lv_goto (tgt := 45) hx hb d_MO_transform_135 (by decide) ?_
                      exact ih_b (by omega)   H locs ls (lv_sub hl [0, 2, 3, 4] rfl) (by rw [mbF_s]; exact hP) (k_Ds hD [0, 1, 2, 3, 4] (by decide) rfl) hS
                    · refine lv_iload hx hb d_MO_transform_62 (lv_at hl 0 rfl) ?_
                      refine lv_bipush (v := nI 16) hx hb d_MO_transform_64 (by decide) ?_
                      refine k_imul hx hb d_MO_transform_66 ?_
                      refine lv_iload_n hx hb d_MO_transform_67 rfl (lv_at hl 2 rfl) ?_
                      refine k_idiv hx hb d_MO_transform_68 (by omega) (by omega) (by omega) ?_
                      refine lv_istore (lv' := [(5, .int (nI ((j * 16) / 16))), (4, .int (nI j)), (3, .int (nI (16 * b))), (2, .int (nI 16)), (0, .ref h0), (1, .int (sgn))]) hx hb d_MO_transform_69 hl (by decide) rfl (fun ls hl => ?_)
                      refine lv_aload_n hx hb d_MO_transform_71 rfl (lv_at hl 4 rfl) ?_
                      refine lv_iload_n hx hb d_MO_transform_72 rfl (lv_at hl 2 rfl) ?_
                      refine lv_iload hx hb d_MO_transform_73 (lv_at hl 1 rfl) ?_
                      refine k_iadd hx hb d_MO_transform_75 ?_
                      refine lv_iload_n hx hb d_MO_transform_76 rfl (lv_at hl 2 rfl) ?_
                      refine lv_iload hx hb d_MO_transform_77 (lv_at hl 1 rfl) ?_
                      refine k_iadd hx hb d_MO_transform_79 ?_
                      refine lv_iload_n hx hb d_MO_transform_80 rfl (lv_at hl 3 rfl) ?_
                      refine lv_iconst (v := nI 2) hx hb d_MO_transform_81 (by decide) ?_
                      refine k_idiv hx hb d_MO_transform_82 (by omega) (by omega) (by omega) ?_
                      refine k_iadd hx hb d_MO_transform_83 ?_
                      refine lv_aload_n hx hb d_MO_transform_84 rfl (lv_at hl 4 rfl) ?_
                      refine k_get hx hb hw uw_MO hown hK hP 0 rfl rfl 31 (by decide) (hw _ wd_745) rfl d_MO_transform_85 ?_
                      refine lv_iload hx hb d_MO_transform_88 (lv_at hl 0 rfl) ?_
                      refine k_iald hx hb hK hP 4 0 rfl rfl (by omega) (by omega) d_MO_transform_90 ?_
                      refine lv_iload_n hx hb d_MO_transform_91 rfl (lv_at hl 5 rfl) ?_
                      refine lv_aload_n hx hb d_MO_transform_92 rfl (lv_at hl 4 rfl) ?_
                      refine k_get hx hb hw uw_MO hown hK hP 0 rfl rfl 31 (by decide) (hw _ wd_745) rfl d_MO_transform_93 ?_
                      refine lv_iload hx hb d_MO_transform_96 (lv_at hl 0 rfl) ?_
                      refine lv_bipush (v := nI 12) hx hb d_MO_transform_98 (by decide) ?_
                      refine k_iadd hx hb d_MO_transform_100 ?_
                      refine lv_bipush (v := nI 16) hx hb d_MO_transform_101 (by decide) ?_
                      refine k_irem hx hb d_MO_transform_103 (by omega) (by omega) (by omega) ?_
                      refine k_iald hx hb hK hP 4 0 rfl rfl (by omega) (by omega) d_MO_transform_104 ?_
                      refine lv_imul hx hb d_MO_transform_105 ?_
                      refine lv_iload_n hx hb d_MO_transform_106 rfl (lv_at hl 3 rfl) ?_
                      refine lv_iconst (v := nI 2) hx hb d_MO_transform_107 (by decide) ?_
                      refine k_icmp_eq (tgt := 117) hx hb d_MO_transform_108 (by decide) (by omega) (by omega) (fun h108 => ?_) (fun h108 => ?_)
                      · exfalso; omega
                      · refine lv_iload_n hx hb d_MO_transform_111 rfl (lv_at hl 3 rfl) ?_
                        refine lv_bipush (v := nI 8) hx hb d_MO_transform_112 (by decide) ?_
                        refine k_icmp_ne (tgt := 121) hx hb d_MO_transform_114 (by decide) (by omega) (by omega) (fun h114 => ?_) (fun h114 => ?_)
                        · refine lv_iconst (v := nI 0) hx hb d_MO_transform_121 (by decide) ?_
                          refine k_callv (wr := [(b5, .inl (tc 0, 16, .inl (fun w9 => nI (rndN w9)))), (b8, .inl (tc 0, 16, .inl cosT))]) (k_runV (As := [.int (nI ((16 * b) + j)), .int (nI (((16 * b) + j) + 8)), .int (cosT ((j * 16) / 16)), .int (sgn * (cosT ((((j * 16) / 16) + 12) % 16))), .int (nI 0)]) (rest := []) (wc := [(h0, .inr (8, [.int (xth), .int (nI nby), .ref a1, .int (xra), .int (nI ndb), .ref a2, .int (nI ncb), .ref a3, .ref a4, .int (nI nfr), .ref a5, .ref a6, .int (nI nsy), .int (nI nai), .ref a7, .ref a8, .int (xas), .int (xan), .int (xst), .int (xhr), .int (xhb), .int (xse), .int (xbe), .ref a9, .ref b1, .ref b2, .ref b3, .ref b4, .ref b5, .ref b6, .ref b7, .ref b8, .ref c1, .ref c2, .ref c3, .ref c4, .ref c5, .ref c6, .ref c7, .int (xrg)])), (b3, .inl (tc 0, 16, .inl ((mjF 16 8 (nI 0) sgn b j (mbF 16 8 (nI 0) sgn b (mbF 8 4 (nI 1) sgn 2 (mbF 4 2 (nI 0) sgn 4 (mbF 2 1 (nI 1) sgn 8 (rvF 16 x)))))).1))), (b4, .inl (tc 0, 16, .inl ((mjF 16 8 (nI 0) sgn b j (mbF 16 8 (nI 0) sgn b (mbF 8 4 (nI 1) sgn 2 (mbF 4 2 (nI 0) sgn 4 (mbF 2 1 (nI 1) sgn 8 (rvF 16 x)))))).2)))]) ⟨hx, hb, hml, hown, hts⟩ (c_MO_cross l D tc tb h0 nby ndb ncb nfr nsy nai xth xra xas xan xst xhr xhb xse xbe xrg a1 a2 a3 a4 a5 a6 a7 a8 a9 b1 b2 b3 b4 b5 b6 b7 b8 c1 c2 c3 c4 c5 c6 c7 (mjF 16 8 (nI 0) sgn b j (mbF 16 8 (nI 0) sgn b (mbF 8 4 (nI 1) sgn 2 (mbF 4 2 (nI 0) sgn 4 (mbF 2 1 (nI 1) sgn 8 (rvF 16 x)))))) ((16 * b) + j) (((16 * b) + j) + 8) (cosT ((j * 16) / 16)) (sgn * (cosT ((((j * 16) / 16) + 12) % 16))) (nI 0) (by omega) (by omega) H.size) (cwV 5 hts (k_goodV wd_709 wd_711 wd_m30 wd_11 wd_712) rfl rfl rfl ⟨rfl, hd_MO_cross⟩ ⟨by rw [hR]; exact Nat.le_of_ble_eq_true rfl, by rw [hR]; exact Nat.le_of_ble_eq_true rfl⟩) hK hP hD hS hST hN hA [0, 1, 2] (by decide) rfl 0 rfl rfl rfl rfl hl.1 rfl (Nat.le_of_ble_eq_true rfl) d_MO_transform_122 ⟨by rw [hR]; exact Nat.le_of_ble_eq_true rfl, by rw [hR]; exact Nat.le_of_ble_eq_true rfl⟩) hP hD hS hA [0, 1, 2] [3, 4] rfl rfl (by decide) (by decide) (fun _ H locs hp122 hP hD hS => ?_)
                          have hP : va_P D classes [(b5, .inl (tc 0, 16, .inl (fun w9 => nI (rndN w9)))), (b8, .inl (tc 0, 16, .inl cosT)), (h0, .inr (8, [.int (xth), .int (nI nby), .ref a1, .int (xra), .int (nI ndb), .ref a2, .int (nI ncb), .ref a3, .ref a4, .int (nI nfr), .ref a5, .ref a6, .int (nI nsy), .int (nI nai), .ref a7, .ref a8, .int (xas), .int (xan), .int (xst), .int (xhr), .int (xhb), .int (xse), .int (xbe), .ref a9, .ref b1, .ref b2, .ref b3, .ref b4, .ref b5, .ref b6, .ref b7, .ref b8, .ref c1, .ref c2, .ref c3, .ref c4, .ref c5, .ref c6, .ref c7, .int (xrg)])), (b3, .inl (tc 0, 16, .inl ((crF ((16 * b) + j) (((16 * b) + j) + 8) (cosT ((j * 16) / 16)) (sgn * (cosT ((((j * 16) / 16) + 12) % 16))) (nI 0) (mjF 16 8 (nI 0) sgn b j (mbF 16 8 (nI 0) sgn b (mbF 8 4 (nI 1) sgn 2 (mbF 4 2 (nI 0) sgn 4 (mbF 2 1 (nI 1) sgn 8 (rvF 16 x))))))).1))), (b4, .inl (tc 0, 16, .inl ((crF ((16 * b) + j) (((16 * b) + j) + 8) (cosT ((j * 16) / 16)) (sgn * (cosT ((((j * 16) / 16) + 12) % 16))) (nI 0) (mjF 16 8 (nI 0) sgn b j (mbF 16 8 (nI 0) sgn b (mbF 8 4 (nI 1) sgn 2 (mbF 4 2 (nI 0) sgn 4 (mbF 2 1 (nI 1) sgn 8 (rvF 16 x))))))).2)))] H := hP
                          have hD : va_D A [(b5, .inl (tc 0, 16, .inl (fun w9 => nI (rndN w9)))), (b8, .inl (tc 0, 16, .inl cosT)), (h0, .inr (8, [.int (xth), .int (nI nby), .ref a1, .int (xra), .int (nI ndb), .ref a2, .int (nI ncb), .ref a3, .ref a4, .int (nI nfr), .ref a5, .ref a6, .int (nI nsy), .int (nI nai), .ref a7, .ref a8, .int (xas), .int (xan), .int (xst), .int (xhr), .int (xhb), .int (xse), .int (xbe), .ref a9, .ref b1, .ref b2, .ref b3, .ref b4, .ref b5, .ref b6, .ref b7, .ref b8, .ref c1, .ref c2, .ref c3, .ref c4, .ref c5, .ref c6, .ref c7, .int (xrg)])), (b3, .inl (tc 0, 16, .inl ((crF ((16 * b) + j) (((16 * b) + j) + 8) (cosT ((j * 16) / 16)) (sgn * (cosT ((((j * 16) / 16) + 12) % 16))) (nI 0) (mjF 16 8 (nI 0) sgn b j (mbF 16 8 (nI 0) sgn b (mbF 8 4 (nI 1) sgn 2 (mbF 4 2 (nI 0) sgn 4 (mbF 2 1 (nI 1) sgn 8 (rvF 16 x))))))).1))), (b4, .inl (tc 0, 16, .inl ((crF ((16 * b) + j) (((16 * b) + j) + 8) (cosT ((j * 16) / 16)) (sgn * (cosT ((((j * 16) / 16) + 12) % 16))) (nI 0) (mjF 16 8 (nI 0) sgn b j (mbF 16 8 (nI 0) sgn b (mbF 8 4 (nI 1) sgn 2 (mbF 4 2 (nI 0) sgn 4 (mbF 2 1 (nI 1) sgn 8 (rvF 16 x))))))).2)))] := hD
                          refine W.widen (k := 0) (n := 0) (Nat.le_of_ble_eq_true rfl) (Nat.le_of_ble_eq_true rfl) ?_
                          refine W.eq (g2 := F0 m 125 ls []) rfl ?_
                          refine lv_iinc (k := 1) (v := nI (j + 1)) (lv' := [(4, .int (nI (j + 1))), (5, .int (nI ((j * 16) / 16))), (3, .int (nI (16 * b))), (2, .int (nI 16)), (0, .ref h0), (1, .int (sgn))]) hx hb d_MO_transform_125 hl rfl (k_incN _ 1) (by decide) rfl (fun ls hl => ?_)
                          refine lv_goto (tgt := 54) hx hb d_MO_transform_128 (by decide) ?_
                          exact ih_j (by omega)   H locs ls (lv_sub hl [0, 2, 3, 4, 5] rfl) (by have hP := k_sub hP (is := [2, 3, 4, 0, 1]) (w := [(h0, .inr (8, [.int (xth), .int (nI nby), .ref a1, .int (xra), .int (nI ndb), .ref a2, .int (nI ncb), .ref a3, .ref a4, .int (nI nfr), .ref a5, .ref a6, .int (nI nsy), .int (nI nai), .ref a7, .ref a8, .int (xas), .int (xan), .int (xst), .int (xhr), .int (xhb), .int (xse), .int (xbe), .ref a9, .ref b1, .ref b2, .ref b3, .ref b4, .ref b5, .ref b6, .ref b7, .ref b8, .ref c1, .ref c2, .ref c3, .ref c4, .ref c5, .ref c6, .ref c7, .int (xrg)])), (b3, .inl (tc 0, 16, .inl ((crF ((16 * b) + j) (((16 * b) + j) + 8) (cosT ((j * 16) / 16)) (sgn * (cosT ((((j * 16) / 16) + 12) % 16))) (nI 0) (mjF 16 8 (nI 0) sgn b j (mbF 16 8 (nI 0) sgn b (mbF 8 4 (nI 1) sgn 2 (mbF 4 2 (nI 0) sgn 4 (mbF 2 1 (nI 1) sgn 8 (rvF 16 x))))))).1))), (b4, .inl (tc 0, 16, .inl ((crF ((16 * b) + j) (((16 * b) + j) + 8) (cosT ((j * 16) / 16)) (sgn * (cosT ((((j * 16) / 16) + 12) % 16))) (nI 0) (mjF 16 8 (nI 0) sgn b j (mbF 16 8 (nI 0) sgn b (mbF 8 4 (nI 1) sgn 2 (mbF 4 2 (nI 0) sgn 4 (mbF 2 1 (nI 1) sgn 8 (rvF 16 x))))))).2))), (b5, .inl (tc 0, 16, .inl (fun w9 => nI (rndN w9)))), (b8, .inl (tc 0, 16, .inl cosT))]) rfl; rw [mjF_s]; exact hP) (k_Ds hD [2, 3, 4, 0, 1] (by decide) rfl) hS
                        · exfalso; omega
              · refine lv_iconst (v := nI 0) hx hb d_MO_transform_51 (by decide) ?_
                refine lv_istore (lv' := [(4, .int (nI 0)), (3, .int (nI (8 * b))), (2, .int (nI 8)), (0, .ref h0), (1, .int (sgn))]) hx hb d_MO_transform_52 hl (by decide) rfl (fun ls hl => ?_)
                refine k_loop (P := fun j : Nat => ∀ (H : Heap) (locs : List Loc) (ls : Array Slot), lv_has ls 6 [(4, .int (nI j)), (3, .int (nI (8 * b))), (2, .int (nI 8)), (0, .ref h0), (1, .int (sgn))] → va_P D classes [(h0, .inr (8, [.int (xth), .int (nI nby), .ref a1, .int (xra), .int (nI ndb), .ref a2, .int (nI ncb), .ref a3, .ref a4, .int (nI nfr), .ref a5, .ref a6, .int (nI nsy), .int (nI nai), .ref a7, .ref a8, .int (xas), .int (xan), .int (xst), .int (xhr), .int (xhb), .int (xse), .int (xbe), .ref a9, .ref b1, .ref b2, .ref b3, .ref b4, .ref b5, .ref b6, .ref b7, .ref b8, .ref c1, .ref c2, .ref c3, .ref c4, .ref c5, .ref c6, .ref c7, .int (xrg)])), (b3, .inl (tc 0, 16, .inl ((mjF 8 4 (nI 1) sgn b j (mbF 8 4 (nI 1) sgn b (mbF 4 2 (nI 0) sgn 4 (mbF 2 1 (nI 1) sgn 8 (rvF 16 x))))).1))), (b4, .inl (tc 0, 16, .inl ((mjF 8 4 (nI 1) sgn b j (mbF 8 4 (nI 1) sgn b (mbF 4 2 (nI 0) sgn 4 (mbF 2 1 (nI 1) sgn 8 (rvF 16 x))))).2))), (b5, .inl (tc 0, 16, .inl (fun w9 => nI (rndN w9)))), (b8, .inl (tc 0, 16, .inl cosT))] H → va_D A [(h0, .inr (8, [.int (xth), .int (nI nby), .ref a1, .int (xra), .int (nI ndb), .ref a2, .int (nI ncb), .ref a3, .ref a4, .int (nI nfr), .ref a5, .ref a6, .int (nI nsy), .int (nI nai), .ref a7, .ref a8, .int (xas), .int (xan), .int (xst), .int (xhr), .int (xhb), .int (xse), .int (xbe), .ref a9, .ref b1, .ref b2, .ref b3, .ref b4, .ref b5, .ref b6, .ref b7, .ref b8, .ref c1, .ref c2, .ref c3, .ref c4, .ref c5, .ref c6, .ref c7, .int (xrg)])), (b3, .inl (tc 0, 16, .inl ((mjF 8 4 (nI 1) sgn b j (mbF 8 4 (nI 1) sgn b (mbF 4 2 (nI 0) sgn 4 (mbF 2 1 (nI 1) sgn 8 (rvF 16 x))))).1))), (b4, .inl (tc 0, 16, .inl ((mjF 8 4 (nI 1) sgn b j (mbF 8 4 (nI 1) sgn b (mbF 4 2 (nI 0) sgn 4 (mbF 2 1 (nI 1) sgn 8 (rvF 16 x))))).2))), (b5, .inl (tc 0, 16, .inl (fun w9 => nI (rndN w9)))), (b8, .inl (tc 0, 16, .inl cosT))] → va_S A s.heap H locs → W p l e R s m args below meth c H locs 0 0 Q (F0 m 54 ls [])) (4) (fun j hk_j ih_j  H locs ls hl hP hD hS => ?_) (0) (by omega)   H locs ls (lv_sub hl [0, 1, 2, 3, 4] rfl) (by rw [mjF_0]; exact hP) (k_Ds hD [0, 1, 2, 3, 4] (by decide) rfl) hS
                refine lv_iload hx hb d_MO_transform_54 (lv_at hl 0 rfl) ?_
                refine lv_iload_n hx hb d_MO_transform_56 rfl (lv_at hl 2 rfl) ?_
                refine lv_iconst (v := nI 2) hx hb d_MO_transform_57 (by decide) ?_
                refine k_idiv hx hb d_MO_transform_58 (by omega) (by omega) (by omega) ?_
                refine k_icmp_ge (tgt := 131) hx hb d_MO_transform_59 (by decide) (by omega) (by omega) (fun h59 => ?_) (fun h59 => ?_)
                · obtain rfl : 4 = j := by omega
                  refine lv_iload_n hx hb d_MO_transform_131 rfl (lv_at hl 1 rfl) ?_
                  refine lv_iload_n hx hb d_MO_transform_132 rfl (lv_at hl 2 rfl) ?_
                  refine k_iadd hx hb d_MO_transform_133 ?_
                  refine k_topi (y := nI (8 * (b + 1))) (congrArg nI (by omega)) ?_
                  refine lv_istore_n (lv' := [(3, .int (nI (8 * (b + 1)))), (4, .int (nI 4)), (2, .int (nI 8)), (0, .ref h0), (1, .int (sgn))]) hx hb d_MO_transform_134 rfl hl (by decide) rfl (fun ls hl => ?_)
                  refine lv_goto (tgt := 45) hx hb d_MO_transform_135 (by decide) ?_
                  exact ih_b (by omega)   H locs ls (lv_sub hl [0, 2, 3, 4] rfl) (by rw [mbF_s]; exact hP) (k_Ds hD [0, 1, 2, 3, 4] (by decide) rfl) hS
                · refine lv_iload hx hb d_MO_transform_62 (lv_at hl 0 rfl) ?_
                  refine lv_bipush (v := nI 16) hx hb d_MO_transform_64 (by decide) ?_
                  refine k_imul hx hb d_MO_transform_66 ?_
                  refine lv_iload_n hx hb d_MO_transform_67 rfl (lv_at hl 2 rfl) ?_
                  refine k_idiv hx hb d_MO_transform_68 (by omega) (by omega) (by omega) ?_
                  refine lv_istore (lv' := [(5, .int (nI ((j * 16) / 8))), (4, .int (nI j)), (3, .int (nI (8 * b))), (2, .int (nI 8)), (0, .ref h0), (1, .int (sgn))]) hx hb d_MO_transform_69 hl (by decide) rfl (fun ls hl => ?_)
                  refine lv_aload_n hx hb d_MO_transform_71 rfl (lv_at hl 4 rfl) ?_
                  refine lv_iload_n hx hb d_MO_transform_72 rfl (lv_at hl 2 rfl) ?_
                  refine lv_iload hx hb d_MO_transform_73 (lv_at hl 1 rfl) ?_
                  refine k_iadd hx hb d_MO_transform_75 ?_
                  refine lv_iload_n hx hb d_MO_transform_76 rfl (lv_at hl 2 rfl) ?_
                  refine lv_iload hx hb d_MO_transform_77 (lv_at hl 1 rfl) ?_
                  refine k_iadd hx hb d_MO_transform_79 ?_
                  refine lv_iload_n hx hb d_MO_transform_80 rfl (lv_at hl 3 rfl) ?_
                  refine lv_iconst (v := nI 2) hx hb d_MO_transform_81 (by decide) ?_
                  refine k_idiv hx hb d_MO_transform_82 (by omega) (by omega) (by omega) ?_
                  refine k_iadd hx hb d_MO_transform_83 ?_
                  refine lv_aload_n hx hb d_MO_transform_84 rfl (lv_at hl 4 rfl) ?_
                  refine k_get hx hb hw uw_MO hown hK hP 0 rfl rfl 31 (by decide) (hw _ wd_745) rfl d_MO_transform_85 ?_
                  refine lv_iload hx hb d_MO_transform_88 (lv_at hl 0 rfl) ?_
                  refine k_iald hx hb hK hP 4 0 rfl rfl (by omega) (by omega) d_MO_transform_90 ?_
                  refine lv_iload_n hx hb d_MO_transform_91 rfl (lv_at hl 5 rfl) ?_
                  refine lv_aload_n hx hb d_MO_transform_92 rfl (lv_at hl 4 rfl) ?_
                  refine k_get hx hb hw uw_MO hown hK hP 0 rfl rfl 31 (by decide) (hw _ wd_745) rfl d_MO_transform_93 ?_
                  refine lv_iload hx hb d_MO_transform_96 (lv_at hl 0 rfl) ?_
                  refine lv_bipush (v := nI 12) hx hb d_MO_transform_98 (by decide) ?_
                  refine k_iadd hx hb d_MO_transform_100 ?_
                  refine lv_bipush (v := nI 16) hx hb d_MO_transform_101 (by decide) ?_
                  refine k_irem hx hb d_MO_transform_103 (by omega) (by omega) (by omega) ?_
                  refine k_iald hx hb hK hP 4 0 rfl rfl (by omega) (by omega) d_MO_transform_104 ?_
                  refine lv_imul hx hb d_MO_transform_105 ?_
                  refine lv_iload_n hx hb d_MO_transform_106 rfl (lv_at hl 3 rfl) ?_
                  refine lv_iconst (v := nI 2) hx hb d_MO_transform_107 (by decide) ?_
                  refine k_icmp_eq (tgt := 117) hx hb d_MO_transform_108 (by decide) (by omega) (by omega) (fun h108 => ?_) (fun h108 => ?_)
                  · exfalso; omega
                  · refine lv_iload_n hx hb d_MO_transform_111 rfl (lv_at hl 3 rfl) ?_
                    refine lv_bipush (v := nI 8) hx hb d_MO_transform_112 (by decide) ?_
                    refine k_icmp_ne (tgt := 121) hx hb d_MO_transform_114 (by decide) (by omega) (by omega) (fun h114 => ?_) (fun h114 => ?_)
                    · exfalso; omega
                    · refine lv_iconst (v := nI 1) hx hb d_MO_transform_117 (by decide) ?_
                      refine lv_goto (tgt := 122) hx hb d_MO_transform_118 (by decide) ?_
                      refine k_callv (wr := [(b5, .inl (tc 0, 16, .inl (fun w9 => nI (rndN w9)))), (b8, .inl (tc 0, 16, .inl cosT))]) (k_runV (As := [.int (nI ((8 * b) + j)), .int (nI (((8 * b) + j) + 4)), .int (cosT ((j * 16) / 8)), .int (sgn * (cosT ((((j * 16) / 8) + 12) % 16))), .int (nI 1)]) (rest := []) (wc := [(h0, .inr (8, [.int (xth), .int (nI nby), .ref a1, .int (xra), .int (nI ndb), .ref a2, .int (nI ncb), .ref a3, .ref a4, .int (nI nfr), .ref a5, .ref a6, .int (nI nsy), .int (nI nai), .ref a7, .ref a8, .int (xas), .int (xan), .int (xst), .int (xhr), .int (xhb), .int (xse), .int (xbe), .ref a9, .ref b1, .ref b2, .ref b3, .ref b4, .ref b5, .ref b6, .ref b7, .ref b8, .ref c1, .ref c2, .ref c3, .ref c4, .ref c5, .ref c6, .ref c7, .int (xrg)])), (b3, .inl (tc 0, 16, .inl ((mjF 8 4 (nI 1) sgn b j (mbF 8 4 (nI 1) sgn b (mbF 4 2 (nI 0) sgn 4 (mbF 2 1 (nI 1) sgn 8 (rvF 16 x))))).1))), (b4, .inl (tc 0, 16, .inl ((mjF 8 4 (nI 1) sgn b j (mbF 8 4 (nI 1) sgn b (mbF 4 2 (nI 0) sgn 4 (mbF 2 1 (nI 1) sgn 8 (rvF 16 x))))).2)))]) ⟨hx, hb, hml, hown, hts⟩ (c_MO_cross l D tc tb h0 nby ndb ncb nfr nsy nai xth xra xas xan xst xhr xhb xse xbe xrg a1 a2 a3 a4 a5 a6 a7 a8 a9 b1 b2 b3 b4 b5 b6 b7 b8 c1 c2 c3 c4 c5 c6 c7 (mjF 8 4 (nI 1) sgn b j (mbF 8 4 (nI 1) sgn b (mbF 4 2 (nI 0) sgn 4 (mbF 2 1 (nI 1) sgn 8 (rvF 16 x))))) ((8 * b) + j) (((8 * b) + j) + 4) (cosT ((j * 16) / 8)) (sgn * (cosT ((((j * 16) / 8) + 12) % 16))) (nI 1) (by omega) (by omega) H.size) (cwV 5 hts (k_goodV wd_709 wd_711 wd_m30 wd_11 wd_712) rfl rfl rfl ⟨rfl, hd_MO_cross⟩ ⟨by rw [hR]; exact Nat.le_of_ble_eq_true rfl, by rw [hR]; exact Nat.le_of_ble_eq_true rfl⟩) hK hP hD hS hST hN hA [0, 1, 2] (by decide) rfl 0 rfl rfl rfl rfl hl.1 rfl (Nat.le_of_ble_eq_true rfl) d_MO_transform_122 ⟨by rw [hR]; exact Nat.le_of_ble_eq_true rfl, by rw [hR]; exact Nat.le_of_ble_eq_true rfl⟩) hP hD hS hA [0, 1, 2] [3, 4] rfl rfl (by decide) (by decide) (fun _ H locs hp122 hP hD hS => ?_)
                      have hP : va_P D classes [(b5, .inl (tc 0, 16, .inl (fun w9 => nI (rndN w9)))), (b8, .inl (tc 0, 16, .inl cosT)), (h0, .inr (8, [.int (xth), .int (nI nby), .ref a1, .int (xra), .int (nI ndb), .ref a2, .int (nI ncb), .ref a3, .ref a4, .int (nI nfr), .ref a5, .ref a6, .int (nI nsy), .int (nI nai), .ref a7, .ref a8, .int (xas), .int (xan), .int (xst), .int (xhr), .int (xhb), .int (xse), .int (xbe), .ref a9, .ref b1, .ref b2, .ref b3, .ref b4, .ref b5, .ref b6, .ref b7, .ref b8, .ref c1, .ref c2, .ref c3, .ref c4, .ref c5, .ref c6, .ref c7, .int (xrg)])), (b3, .inl (tc 0, 16, .inl ((crF ((8 * b) + j) (((8 * b) + j) + 4) (cosT ((j * 16) / 8)) (sgn * (cosT ((((j * 16) / 8) + 12) % 16))) (nI 1) (mjF 8 4 (nI 1) sgn b j (mbF 8 4 (nI 1) sgn b (mbF 4 2 (nI 0) sgn 4 (mbF 2 1 (nI 1) sgn 8 (rvF 16 x)))))).1))), (b4, .inl (tc 0, 16, .inl ((crF ((8 * b) + j) (((8 * b) + j) + 4) (cosT ((j * 16) / 8)) (sgn * (cosT ((((j * 16) / 8) + 12) % 16))) (nI 1) (mjF 8 4 (nI 1) sgn b j (mbF 8 4 (nI 1) sgn b (mbF 4 2 (nI 0) sgn 4 (mbF 2 1 (nI 1) sgn 8 (rvF 16 x)))))).2)))] H := hP
                      have hD : va_D A [(b5, .inl (tc 0, 16, .inl (fun w9 => nI (rndN w9)))), (b8, .inl (tc 0, 16, .inl cosT)), (h0, .inr (8, [.int (xth), .int (nI nby), .ref a1, .int (xra), .int (nI ndb), .ref a2, .int (nI ncb), .ref a3, .ref a4, .int (nI nfr), .ref a5, .ref a6, .int (nI nsy), .int (nI nai), .ref a7, .ref a8, .int (xas), .int (xan), .int (xst), .int (xhr), .int (xhb), .int (xse), .int (xbe), .ref a9, .ref b1, .ref b2, .ref b3, .ref b4, .ref b5, .ref b6, .ref b7, .ref b8, .ref c1, .ref c2, .ref c3, .ref c4, .ref c5, .ref c6, .ref c7, .int (xrg)])), (b3, .inl (tc 0, 16, .inl ((crF ((8 * b) + j) (((8 * b) + j) + 4) (cosT ((j * 16) / 8)) (sgn * (cosT ((((j * 16) / 8) + 12) % 16))) (nI 1) (mjF 8 4 (nI 1) sgn b j (mbF 8 4 (nI 1) sgn b (mbF 4 2 (nI 0) sgn 4 (mbF 2 1 (nI 1) sgn 8 (rvF 16 x)))))).1))), (b4, .inl (tc 0, 16, .inl ((crF ((8 * b) + j) (((8 * b) + j) + 4) (cosT ((j * 16) / 8)) (sgn * (cosT ((((j * 16) / 8) + 12) % 16))) (nI 1) (mjF 8 4 (nI 1) sgn b j (mbF 8 4 (nI 1) sgn b (mbF 4 2 (nI 0) sgn 4 (mbF 2 1 (nI 1) sgn 8 (rvF 16 x)))))).2)))] := hD
                      refine W.widen (k := 0) (n := 0) (Nat.le_of_ble_eq_true rfl) (Nat.le_of_ble_eq_true rfl) ?_
                      refine W.eq (g2 := F0 m 125 ls []) rfl ?_
                      refine lv_iinc (k := 1) (v := nI (j + 1)) (lv' := [(4, .int (nI (j + 1))), (5, .int (nI ((j * 16) / 8))), (3, .int (nI (8 * b))), (2, .int (nI 8)), (0, .ref h0), (1, .int (sgn))]) hx hb d_MO_transform_125 hl rfl (k_incN _ 1) (by decide) rfl (fun ls hl => ?_)
                      refine lv_goto (tgt := 54) hx hb d_MO_transform_128 (by decide) ?_
                      exact ih_j (by omega)   H locs ls (lv_sub hl [0, 2, 3, 4, 5] rfl) (by have hP := k_sub hP (is := [2, 3, 4, 0, 1]) (w := [(h0, .inr (8, [.int (xth), .int (nI nby), .ref a1, .int (xra), .int (nI ndb), .ref a2, .int (nI ncb), .ref a3, .ref a4, .int (nI nfr), .ref a5, .ref a6, .int (nI nsy), .int (nI nai), .ref a7, .ref a8, .int (xas), .int (xan), .int (xst), .int (xhr), .int (xhb), .int (xse), .int (xbe), .ref a9, .ref b1, .ref b2, .ref b3, .ref b4, .ref b5, .ref b6, .ref b7, .ref b8, .ref c1, .ref c2, .ref c3, .ref c4, .ref c5, .ref c6, .ref c7, .int (xrg)])), (b3, .inl (tc 0, 16, .inl ((crF ((8 * b) + j) (((8 * b) + j) + 4) (cosT ((j * 16) / 8)) (sgn * (cosT ((((j * 16) / 8) + 12) % 16))) (nI 1) (mjF 8 4 (nI 1) sgn b j (mbF 8 4 (nI 1) sgn b (mbF 4 2 (nI 0) sgn 4 (mbF 2 1 (nI 1) sgn 8 (rvF 16 x)))))).1))), (b4, .inl (tc 0, 16, .inl ((crF ((8 * b) + j) (((8 * b) + j) + 4) (cosT ((j * 16) / 8)) (sgn * (cosT ((((j * 16) / 8) + 12) % 16))) (nI 1) (mjF 8 4 (nI 1) sgn b j (mbF 8 4 (nI 1) sgn b (mbF 4 2 (nI 0) sgn 4 (mbF 2 1 (nI 1) sgn 8 (rvF 16 x)))))).2))), (b5, .inl (tc 0, 16, .inl (fun w9 => nI (rndN w9)))), (b8, .inl (tc 0, 16, .inl cosT))]) rfl; rw [mjF_s]; exact hP) (k_Ds hD [2, 3, 4, 0, 1] (by decide) rfl) hS
          · refine lv_iconst (v := nI 0) hx hb d_MO_transform_51 (by decide) ?_
            refine lv_istore (lv' := [(4, .int (nI 0)), (3, .int (nI (4 * b))), (2, .int (nI 4)), (0, .ref h0), (1, .int (sgn))]) hx hb d_MO_transform_52 hl (by decide) rfl (fun ls hl => ?_)
            refine k_loop (P := fun j : Nat => ∀ (H : Heap) (locs : List Loc) (ls : Array Slot), lv_has ls 6 [(4, .int (nI j)), (3, .int (nI (4 * b))), (2, .int (nI 4)), (0, .ref h0), (1, .int (sgn))] → va_P D classes [(h0, .inr (8, [.int (xth), .int (nI nby), .ref a1, .int (xra), .int (nI ndb), .ref a2, .int (nI ncb), .ref a3, .ref a4, .int (nI nfr), .ref a5, .ref a6, .int (nI nsy), .int (nI nai), .ref a7, .ref a8, .int (xas), .int (xan), .int (xst), .int (xhr), .int (xhb), .int (xse), .int (xbe), .ref a9, .ref b1, .ref b2, .ref b3, .ref b4, .ref b5, .ref b6, .ref b7, .ref b8, .ref c1, .ref c2, .ref c3, .ref c4, .ref c5, .ref c6, .ref c7, .int (xrg)])), (b3, .inl (tc 0, 16, .inl ((mjF 4 2 (nI 0) sgn b j (mbF 4 2 (nI 0) sgn b (mbF 2 1 (nI 1) sgn 8 (rvF 16 x)))).1))), (b4, .inl (tc 0, 16, .inl ((mjF 4 2 (nI 0) sgn b j (mbF 4 2 (nI 0) sgn b (mbF 2 1 (nI 1) sgn 8 (rvF 16 x)))).2))), (b5, .inl (tc 0, 16, .inl (fun w9 => nI (rndN w9)))), (b8, .inl (tc 0, 16, .inl cosT))] H → va_D A [(h0, .inr (8, [.int (xth), .int (nI nby), .ref a1, .int (xra), .int (nI ndb), .ref a2, .int (nI ncb), .ref a3, .ref a4, .int (nI nfr), .ref a5, .ref a6, .int (nI nsy), .int (nI nai), .ref a7, .ref a8, .int (xas), .int (xan), .int (xst), .int (xhr), .int (xhb), .int (xse), .int (xbe), .ref a9, .ref b1, .ref b2, .ref b3, .ref b4, .ref b5, .ref b6, .ref b7, .ref b8, .ref c1, .ref c2, .ref c3, .ref c4, .ref c5, .ref c6, .ref c7, .int (xrg)])), (b3, .inl (tc 0, 16, .inl ((mjF 4 2 (nI 0) sgn b j (mbF 4 2 (nI 0) sgn b (mbF 2 1 (nI 1) sgn 8 (rvF 16 x)))).1))), (b4, .inl (tc 0, 16, .inl ((mjF 4 2 (nI 0) sgn b j (mbF 4 2 (nI 0) sgn b (mbF 2 1 (nI 1) sgn 8 (rvF 16 x)))).2))), (b5, .inl (tc 0, 16, .inl (fun w9 => nI (rndN w9)))), (b8, .inl (tc 0, 16, .inl cosT))] → va_S A s.heap H locs → W p l e R s m args below meth c H locs 0 0 Q (F0 m 54 ls [])) (2) (fun j hk_j ih_j  H locs ls hl hP hD hS => ?_) (0) (by omega)   H locs ls (lv_sub hl [0, 1, 2, 3, 4] rfl) (by rw [mjF_0]; exact hP) (k_Ds hD [0, 1, 2, 3, 4] (by decide) rfl) hS
            refine lv_iload hx hb d_MO_transform_54 (lv_at hl 0 rfl) ?_
            refine lv_iload_n hx hb d_MO_transform_56 rfl (lv_at hl 2 rfl) ?_
            refine lv_iconst (v := nI 2) hx hb d_MO_transform_57 (by decide) ?_
            refine k_idiv hx hb d_MO_transform_58 (by omega) (by omega) (by omega) ?_
            refine k_icmp_ge (tgt := 131) hx hb d_MO_transform_59 (by decide) (by omega) (by omega) (fun h59 => ?_) (fun h59 => ?_)
            · obtain rfl : 2 = j := by omega
              refine lv_iload_n hx hb d_MO_transform_131 rfl (lv_at hl 1 rfl) ?_
              refine lv_iload_n hx hb d_MO_transform_132 rfl (lv_at hl 2 rfl) ?_
              refine k_iadd hx hb d_MO_transform_133 ?_
              refine k_topi (y := nI (4 * (b + 1))) (congrArg nI (by omega)) ?_
              refine lv_istore_n (lv' := [(3, .int (nI (4 * (b + 1)))), (4, .int (nI 2)), (2, .int (nI 4)), (0, .ref h0), (1, .int (sgn))]) hx hb d_MO_transform_134 rfl hl (by decide) rfl (fun ls hl => ?_)
              refine lv_goto (tgt := 45) hx hb d_MO_transform_135 (by decide) ?_
              exact ih_b (by omega)   H locs ls (lv_sub hl [0, 2, 3, 4] rfl) (by rw [mbF_s]; exact hP) (k_Ds hD [0, 1, 2, 3, 4] (by decide) rfl) hS
            · refine lv_iload hx hb d_MO_transform_62 (lv_at hl 0 rfl) ?_
              refine lv_bipush (v := nI 16) hx hb d_MO_transform_64 (by decide) ?_
              refine k_imul hx hb d_MO_transform_66 ?_
              refine lv_iload_n hx hb d_MO_transform_67 rfl (lv_at hl 2 rfl) ?_
              refine k_idiv hx hb d_MO_transform_68 (by omega) (by omega) (by omega) ?_
              refine lv_istore (lv' := [(5, .int (nI ((j * 16) / 4))), (4, .int (nI j)), (3, .int (nI (4 * b))), (2, .int (nI 4)), (0, .ref h0), (1, .int (sgn))]) hx hb d_MO_transform_69 hl (by decide) rfl (fun ls hl => ?_)
              refine lv_aload_n hx hb d_MO_transform_71 rfl (lv_at hl 4 rfl) ?_
              refine lv_iload_n hx hb d_MO_transform_72 rfl (lv_at hl 2 rfl) ?_
              refine lv_iload hx hb d_MO_transform_73 (lv_at hl 1 rfl) ?_
              refine k_iadd hx hb d_MO_transform_75 ?_
              refine lv_iload_n hx hb d_MO_transform_76 rfl (lv_at hl 2 rfl) ?_
              refine lv_iload hx hb d_MO_transform_77 (lv_at hl 1 rfl) ?_
              refine k_iadd hx hb d_MO_transform_79 ?_
              refine lv_iload_n hx hb d_MO_transform_80 rfl (lv_at hl 3 rfl) ?_
              refine lv_iconst (v := nI 2) hx hb d_MO_transform_81 (by decide) ?_
              refine k_idiv hx hb d_MO_transform_82 (by omega) (by omega) (by omega) ?_
              refine k_iadd hx hb d_MO_transform_83 ?_
              refine lv_aload_n hx hb d_MO_transform_84 rfl (lv_at hl 4 rfl) ?_
              refine k_get hx hb hw uw_MO hown hK hP 0 rfl rfl 31 (by decide) (hw _ wd_745) rfl d_MO_transform_85 ?_
              refine lv_iload hx hb d_MO_transform_88 (lv_at hl 0 rfl) ?_
              refine k_iald hx hb hK hP 4 0 rfl rfl (by omega) (by omega) d_MO_transform_90 ?_
              refine lv_iload_n hx hb d_MO_transform_91 rfl (lv_at hl 5 rfl) ?_
              refine lv_aload_n hx hb d_MO_transform_92 rfl (lv_at hl 4 rfl) ?_
              refine k_get hx hb hw uw_MO hown hK hP 0 rfl rfl 31 (by decide) (hw _ wd_745) rfl d_MO_transform_93 ?_
              refine lv_iload hx hb d_MO_transform_96 (lv_at hl 0 rfl) ?_
              refine lv_bipush (v := nI 12) hx hb d_MO_transform_98 (by decide) ?_
              refine k_iadd hx hb d_MO_transform_100 ?_
              refine lv_bipush (v := nI 16) hx hb d_MO_transform_101 (by decide) ?_
              refine k_irem hx hb d_MO_transform_103 (by omega) (by omega) (by omega) ?_
              refine k_iald hx hb hK hP 4 0 rfl rfl (by omega) (by omega) d_MO_transform_104 ?_
              refine lv_imul hx hb d_MO_transform_105 ?_
              refine lv_iload_n hx hb d_MO_transform_106 rfl (lv_at hl 3 rfl) ?_
              refine lv_iconst (v := nI 2) hx hb d_MO_transform_107 (by decide) ?_
              refine k_icmp_eq (tgt := 117) hx hb d_MO_transform_108 (by decide) (by omega) (by omega) (fun h108 => ?_) (fun h108 => ?_)
              · exfalso; omega
              · refine lv_iload_n hx hb d_MO_transform_111 rfl (lv_at hl 3 rfl) ?_
                refine lv_bipush (v := nI 8) hx hb d_MO_transform_112 (by decide) ?_
                refine k_icmp_ne (tgt := 121) hx hb d_MO_transform_114 (by decide) (by omega) (by omega) (fun h114 => ?_) (fun h114 => ?_)
                · refine lv_iconst (v := nI 0) hx hb d_MO_transform_121 (by decide) ?_
                  refine k_callv (wr := [(b5, .inl (tc 0, 16, .inl (fun w9 => nI (rndN w9)))), (b8, .inl (tc 0, 16, .inl cosT))]) (k_runV (As := [.int (nI ((4 * b) + j)), .int (nI (((4 * b) + j) + 2)), .int (cosT ((j * 16) / 4)), .int (sgn * (cosT ((((j * 16) / 4) + 12) % 16))), .int (nI 0)]) (rest := []) (wc := [(h0, .inr (8, [.int (xth), .int (nI nby), .ref a1, .int (xra), .int (nI ndb), .ref a2, .int (nI ncb), .ref a3, .ref a4, .int (nI nfr), .ref a5, .ref a6, .int (nI nsy), .int (nI nai), .ref a7, .ref a8, .int (xas), .int (xan), .int (xst), .int (xhr), .int (xhb), .int (xse), .int (xbe), .ref a9, .ref b1, .ref b2, .ref b3, .ref b4, .ref b5, .ref b6, .ref b7, .ref b8, .ref c1, .ref c2, .ref c3, .ref c4, .ref c5, .ref c6, .ref c7, .int (xrg)])), (b3, .inl (tc 0, 16, .inl ((mjF 4 2 (nI 0) sgn b j (mbF 4 2 (nI 0) sgn b (mbF 2 1 (nI 1) sgn 8 (rvF 16 x)))).1))), (b4, .inl (tc 0, 16, .inl ((mjF 4 2 (nI 0) sgn b j (mbF 4 2 (nI 0) sgn b (mbF 2 1 (nI 1) sgn 8 (rvF 16 x)))).2)))]) ⟨hx, hb, hml, hown, hts⟩ (c_MO_cross l D tc tb h0 nby ndb ncb nfr nsy nai xth xra xas xan xst xhr xhb xse xbe xrg a1 a2 a3 a4 a5 a6 a7 a8 a9 b1 b2 b3 b4 b5 b6 b7 b8 c1 c2 c3 c4 c5 c6 c7 (mjF 4 2 (nI 0) sgn b j (mbF 4 2 (nI 0) sgn b (mbF 2 1 (nI 1) sgn 8 (rvF 16 x)))) ((4 * b) + j) (((4 * b) + j) + 2) (cosT ((j * 16) / 4)) (sgn * (cosT ((((j * 16) / 4) + 12) % 16))) (nI 0) (by omega) (by omega) H.size) (cwV 5 hts (k_goodV wd_709 wd_711 wd_m30 wd_11 wd_712) rfl rfl rfl ⟨rfl, hd_MO_cross⟩ ⟨by rw [hR]; exact Nat.le_of_ble_eq_true rfl, by rw [hR]; exact Nat.le_of_ble_eq_true rfl⟩) hK hP hD hS hST hN hA [0, 1, 2] (by decide) rfl 0 rfl rfl rfl rfl hl.1 rfl (Nat.le_of_ble_eq_true rfl) d_MO_transform_122 ⟨by rw [hR]; exact Nat.le_of_ble_eq_true rfl, by rw [hR]; exact Nat.le_of_ble_eq_true rfl⟩) hP hD hS hA [0, 1, 2] [3, 4] rfl rfl (by decide) (by decide) (fun _ H locs hp122 hP hD hS => ?_)
                  have hP : va_P D classes [(b5, .inl (tc 0, 16, .inl (fun w9 => nI (rndN w9)))), (b8, .inl (tc 0, 16, .inl cosT)), (h0, .inr (8, [.int (xth), .int (nI nby), .ref a1, .int (xra), .int (nI ndb), .ref a2, .int (nI ncb), .ref a3, .ref a4, .int (nI nfr), .ref a5, .ref a6, .int (nI nsy), .int (nI nai), .ref a7, .ref a8, .int (xas), .int (xan), .int (xst), .int (xhr), .int (xhb), .int (xse), .int (xbe), .ref a9, .ref b1, .ref b2, .ref b3, .ref b4, .ref b5, .ref b6, .ref b7, .ref b8, .ref c1, .ref c2, .ref c3, .ref c4, .ref c5, .ref c6, .ref c7, .int (xrg)])), (b3, .inl (tc 0, 16, .inl ((crF ((4 * b) + j) (((4 * b) + j) + 2) (cosT ((j * 16) / 4)) (sgn * (cosT ((((j * 16) / 4) + 12) % 16))) (nI 0) (mjF 4 2 (nI 0) sgn b j (mbF 4 2 (nI 0) sgn b (mbF 2 1 (nI 1) sgn 8 (rvF 16 x))))).1))), (b4, .inl (tc 0, 16, .inl ((crF ((4 * b) + j) (((4 * b) + j) + 2) (cosT ((j * 16) / 4)) (sgn * (cosT ((((j * 16) / 4) + 12) % 16))) (nI 0) (mjF 4 2 (nI 0) sgn b j (mbF 4 2 (nI 0) sgn b (mbF 2 1 (nI 1) sgn 8 (rvF 16 x))))).2)))] H := hP
                  have hD : va_D A [(b5, .inl (tc 0, 16, .inl (fun w9 => nI (rndN w9)))), (b8, .inl (tc 0, 16, .inl cosT)), (h0, .inr (8, [.int (xth), .int (nI nby), .ref a1, .int (xra), .int (nI ndb), .ref a2, .int (nI ncb), .ref a3, .ref a4, .int (nI nfr), .ref a5, .ref a6, .int (nI nsy), .int (nI nai), .ref a7, .ref a8, .int (xas), .int (xan), .int (xst), .int (xhr), .int (xhb), .int (xse), .int (xbe), .ref a9, .ref b1, .ref b2, .ref b3, .ref b4, .ref b5, .ref b6, .ref b7, .ref b8, .ref c1, .ref c2, .ref c3, .ref c4, .ref c5, .ref c6, .ref c7, .int (xrg)])), (b3, .inl (tc 0, 16, .inl ((crF ((4 * b) + j) (((4 * b) + j) + 2) (cosT ((j * 16) / 4)) (sgn * (cosT ((((j * 16) / 4) + 12) % 16))) (nI 0) (mjF 4 2 (nI 0) sgn b j (mbF 4 2 (nI 0) sgn b (mbF 2 1 (nI 1) sgn 8 (rvF 16 x))))).1))), (b4, .inl (tc 0, 16, .inl ((crF ((4 * b) + j) (((4 * b) + j) + 2) (cosT ((j * 16) / 4)) (sgn * (cosT ((((j * 16) / 4) + 12) % 16))) (nI 0) (mjF 4 2 (nI 0) sgn b j (mbF 4 2 (nI 0) sgn b (mbF 2 1 (nI 1) sgn 8 (rvF 16 x))))).2)))] := hD
                  refine W.widen (k := 0) (n := 0) (Nat.le_of_ble_eq_true rfl) (Nat.le_of_ble_eq_true rfl) ?_
                  refine W.eq (g2 := F0 m 125 ls []) rfl ?_
                  refine lv_iinc (k := 1) (v := nI (j + 1)) (lv' := [(4, .int (nI (j + 1))), (5, .int (nI ((j * 16) / 4))), (3, .int (nI (4 * b))), (2, .int (nI 4)), (0, .ref h0), (1, .int (sgn))]) hx hb d_MO_transform_125 hl rfl (k_incN _ 1) (by decide) rfl (fun ls hl => ?_)
                  refine lv_goto (tgt := 54) hx hb d_MO_transform_128 (by decide) ?_
                  exact ih_j (by omega)   H locs ls (lv_sub hl [0, 2, 3, 4, 5] rfl) (by have hP := k_sub hP (is := [2, 3, 4, 0, 1]) (w := [(h0, .inr (8, [.int (xth), .int (nI nby), .ref a1, .int (xra), .int (nI ndb), .ref a2, .int (nI ncb), .ref a3, .ref a4, .int (nI nfr), .ref a5, .ref a6, .int (nI nsy), .int (nI nai), .ref a7, .ref a8, .int (xas), .int (xan), .int (xst), .int (xhr), .int (xhb), .int (xse), .int (xbe), .ref a9, .ref b1, .ref b2, .ref b3, .ref b4, .ref b5, .ref b6, .ref b7, .ref b8, .ref c1, .ref c2, .ref c3, .ref c4, .ref c5, .ref c6, .ref c7, .int (xrg)])), (b3, .inl (tc 0, 16, .inl ((crF ((4 * b) + j) (((4 * b) + j) + 2) (cosT ((j * 16) / 4)) (sgn * (cosT ((((j * 16) / 4) + 12) % 16))) (nI 0) (mjF 4 2 (nI 0) sgn b j (mbF 4 2 (nI 0) sgn b (mbF 2 1 (nI 1) sgn 8 (rvF 16 x))))).1))), (b4, .inl (tc 0, 16, .inl ((crF ((4 * b) + j) (((4 * b) + j) + 2) (cosT ((j * 16) / 4)) (sgn * (cosT ((((j * 16) / 4) + 12) % 16))) (nI 0) (mjF 4 2 (nI 0) sgn b j (mbF 4 2 (nI 0) sgn b (mbF 2 1 (nI 1) sgn 8 (rvF 16 x))))).2))), (b5, .inl (tc 0, 16, .inl (fun w9 => nI (rndN w9)))), (b8, .inl (tc 0, 16, .inl cosT))]) rfl; rw [mjF_s]; exact hP) (k_Ds hD [2, 3, 4, 0, 1] (by decide) rfl) hS
                · exfalso; omega
      · refine lv_iconst (v := nI 0) hx hb d_MO_transform_51 (by decide) ?_
        refine lv_istore (lv' := [(4, .int (nI 0)), (3, .int (nI (2 * b))), (2, .int (nI 2)), (0, .ref h0), (1, .int (sgn))]) hx hb d_MO_transform_52 hl (by decide) rfl (fun ls hl => ?_)
        refine k_loop (P := fun j : Nat => ∀ (H : Heap) (locs : List Loc) (ls : Array Slot), lv_has ls 6 [(4, .int (nI j)), (3, .int (nI (2 * b))), (2, .int (nI 2)), (0, .ref h0), (1, .int (sgn))] → va_P D classes [(h0, .inr (8, [.int (xth), .int (nI nby), .ref a1, .int (xra), .int (nI ndb), .ref a2, .int (nI ncb), .ref a3, .ref a4, .int (nI nfr), .ref a5, .ref a6, .int (nI nsy), .int (nI nai), .ref a7, .ref a8, .int (xas), .int (xan), .int (xst), .int (xhr), .int (xhb), .int (xse), .int (xbe), .ref a9, .ref b1, .ref b2, .ref b3, .ref b4, .ref b5, .ref b6, .ref b7, .ref b8, .ref c1, .ref c2, .ref c3, .ref c4, .ref c5, .ref c6, .ref c7, .int (xrg)])), (b3, .inl (tc 0, 16, .inl ((mjF 2 1 (nI 1) sgn b j (mbF 2 1 (nI 1) sgn b (rvF 16 x))).1))), (b4, .inl (tc 0, 16, .inl ((mjF 2 1 (nI 1) sgn b j (mbF 2 1 (nI 1) sgn b (rvF 16 x))).2))), (b5, .inl (tc 0, 16, .inl (fun w9 => nI (rndN w9)))), (b8, .inl (tc 0, 16, .inl cosT))] H → va_D A [(h0, .inr (8, [.int (xth), .int (nI nby), .ref a1, .int (xra), .int (nI ndb), .ref a2, .int (nI ncb), .ref a3, .ref a4, .int (nI nfr), .ref a5, .ref a6, .int (nI nsy), .int (nI nai), .ref a7, .ref a8, .int (xas), .int (xan), .int (xst), .int (xhr), .int (xhb), .int (xse), .int (xbe), .ref a9, .ref b1, .ref b2, .ref b3, .ref b4, .ref b5, .ref b6, .ref b7, .ref b8, .ref c1, .ref c2, .ref c3, .ref c4, .ref c5, .ref c6, .ref c7, .int (xrg)])), (b3, .inl (tc 0, 16, .inl ((mjF 2 1 (nI 1) sgn b j (mbF 2 1 (nI 1) sgn b (rvF 16 x))).1))), (b4, .inl (tc 0, 16, .inl ((mjF 2 1 (nI 1) sgn b j (mbF 2 1 (nI 1) sgn b (rvF 16 x))).2))), (b5, .inl (tc 0, 16, .inl (fun w9 => nI (rndN w9)))), (b8, .inl (tc 0, 16, .inl cosT))] → va_S A s.heap H locs → W p l e R s m args below meth c H locs 0 0 Q (F0 m 54 ls [])) (1) (fun j hk_j ih_j  H locs ls hl hP hD hS => ?_) (0) (by omega)   H locs ls (lv_sub hl [0, 1, 2, 3, 4] rfl) (by rw [mjF_0]; exact hP) (k_Ds hD [0, 1, 2, 3, 4] (by decide) rfl) hS
        refine lv_iload hx hb d_MO_transform_54 (lv_at hl 0 rfl) ?_
        refine lv_iload_n hx hb d_MO_transform_56 rfl (lv_at hl 2 rfl) ?_
        refine lv_iconst (v := nI 2) hx hb d_MO_transform_57 (by decide) ?_
        refine k_idiv hx hb d_MO_transform_58 (by omega) (by omega) (by omega) ?_
        refine k_icmp_ge (tgt := 131) hx hb d_MO_transform_59 (by decide) (by omega) (by omega) (fun h59 => ?_) (fun h59 => ?_)
        · obtain rfl : 1 = j := by omega
          refine lv_iload_n hx hb d_MO_transform_131 rfl (lv_at hl 1 rfl) ?_
          refine lv_iload_n hx hb d_MO_transform_132 rfl (lv_at hl 2 rfl) ?_
          refine k_iadd hx hb d_MO_transform_133 ?_
          refine k_topi (y := nI (2 * (b + 1))) (congrArg nI (by omega)) ?_
          refine lv_istore_n (lv' := [(3, .int (nI (2 * (b + 1)))), (4, .int (nI 1)), (2, .int (nI 2)), (0, .ref h0), (1, .int (sgn))]) hx hb d_MO_transform_134 rfl hl (by decide) rfl (fun ls hl => ?_)
          refine lv_goto (tgt := 45) hx hb d_MO_transform_135 (by decide) ?_
          exact ih_b (by omega)   H locs ls (lv_sub hl [0, 2, 3, 4] rfl) (by rw [mbF_s]; exact hP) (k_Ds hD [0, 1, 2, 3, 4] (by decide) rfl) hS
        · refine lv_iload hx hb d_MO_transform_62 (lv_at hl 0 rfl) ?_
          refine lv_bipush (v := nI 16) hx hb d_MO_transform_64 (by decide) ?_
          refine k_imul hx hb d_MO_transform_66 ?_
          refine lv_iload_n hx hb d_MO_transform_67 rfl (lv_at hl 2 rfl) ?_
          refine k_idiv hx hb d_MO_transform_68 (by omega) (by omega) (by omega) ?_
          refine lv_istore (lv' := [(5, .int (nI ((j * 16) / 2))), (4, .int (nI j)), (3, .int (nI (2 * b))), (2, .int (nI 2)), (0, .ref h0), (1, .int (sgn))]) hx hb d_MO_transform_69 hl (by decide) rfl (fun ls hl => ?_)
          refine lv_aload_n hx hb d_MO_transform_71 rfl (lv_at hl 4 rfl) ?_
          refine lv_iload_n hx hb d_MO_transform_72 rfl (lv_at hl 2 rfl) ?_
          refine lv_iload hx hb d_MO_transform_73 (lv_at hl 1 rfl) ?_
          refine k_iadd hx hb d_MO_transform_75 ?_
          refine lv_iload_n hx hb d_MO_transform_76 rfl (lv_at hl 2 rfl) ?_
          refine lv_iload hx hb d_MO_transform_77 (lv_at hl 1 rfl) ?_
          refine k_iadd hx hb d_MO_transform_79 ?_
          refine lv_iload_n hx hb d_MO_transform_80 rfl (lv_at hl 3 rfl) ?_
          refine lv_iconst (v := nI 2) hx hb d_MO_transform_81 (by decide) ?_
          refine k_idiv hx hb d_MO_transform_82 (by omega) (by omega) (by omega) ?_
          refine k_iadd hx hb d_MO_transform_83 ?_
          refine lv_aload_n hx hb d_MO_transform_84 rfl (lv_at hl 4 rfl) ?_
          refine k_get hx hb hw uw_MO hown hK hP 0 rfl rfl 31 (by decide) (hw _ wd_745) rfl d_MO_transform_85 ?_
          refine lv_iload hx hb d_MO_transform_88 (lv_at hl 0 rfl) ?_
          refine k_iald hx hb hK hP 4 0 rfl rfl (by omega) (by omega) d_MO_transform_90 ?_
          refine lv_iload_n hx hb d_MO_transform_91 rfl (lv_at hl 5 rfl) ?_
          refine lv_aload_n hx hb d_MO_transform_92 rfl (lv_at hl 4 rfl) ?_
          refine k_get hx hb hw uw_MO hown hK hP 0 rfl rfl 31 (by decide) (hw _ wd_745) rfl d_MO_transform_93 ?_
          refine lv_iload hx hb d_MO_transform_96 (lv_at hl 0 rfl) ?_
          refine lv_bipush (v := nI 12) hx hb d_MO_transform_98 (by decide) ?_
          refine k_iadd hx hb d_MO_transform_100 ?_
          refine lv_bipush (v := nI 16) hx hb d_MO_transform_101 (by decide) ?_
          refine k_irem hx hb d_MO_transform_103 (by omega) (by omega) (by omega) ?_
          refine k_iald hx hb hK hP 4 0 rfl rfl (by omega) (by omega) d_MO_transform_104 ?_
          refine lv_imul hx hb d_MO_transform_105 ?_
          refine lv_iload_n hx hb d_MO_transform_106 rfl (lv_at hl 3 rfl) ?_
          refine lv_iconst (v := nI 2) hx hb d_MO_transform_107 (by decide) ?_
          refine k_icmp_eq (tgt := 117) hx hb d_MO_transform_108 (by decide) (by omega) (by omega) (fun h108 => ?_) (fun h108 => ?_)
          · refine lv_iconst (v := nI 1) hx hb d_MO_transform_117 (by decide) ?_
            refine lv_goto (tgt := 122) hx hb d_MO_transform_118 (by decide) ?_
            refine k_callv (wr := [(b5, .inl (tc 0, 16, .inl (fun w9 => nI (rndN w9)))), (b8, .inl (tc 0, 16, .inl cosT))]) (k_runV (As := [.int (nI ((2 * b) + j)), .int (nI (((2 * b) + j) + 1)), .int (cosT ((j * 16) / 2)), .int (sgn * (cosT ((((j * 16) / 2) + 12) % 16))), .int (nI 1)]) (rest := []) (wc := [(h0, .inr (8, [.int (xth), .int (nI nby), .ref a1, .int (xra), .int (nI ndb), .ref a2, .int (nI ncb), .ref a3, .ref a4, .int (nI nfr), .ref a5, .ref a6, .int (nI nsy), .int (nI nai), .ref a7, .ref a8, .int (xas), .int (xan), .int (xst), .int (xhr), .int (xhb), .int (xse), .int (xbe), .ref a9, .ref b1, .ref b2, .ref b3, .ref b4, .ref b5, .ref b6, .ref b7, .ref b8, .ref c1, .ref c2, .ref c3, .ref c4, .ref c5, .ref c6, .ref c7, .int (xrg)])), (b3, .inl (tc 0, 16, .inl ((mjF 2 1 (nI 1) sgn b j (mbF 2 1 (nI 1) sgn b (rvF 16 x))).1))), (b4, .inl (tc 0, 16, .inl ((mjF 2 1 (nI 1) sgn b j (mbF 2 1 (nI 1) sgn b (rvF 16 x))).2)))]) ⟨hx, hb, hml, hown, hts⟩ (c_MO_cross l D tc tb h0 nby ndb ncb nfr nsy nai xth xra xas xan xst xhr xhb xse xbe xrg a1 a2 a3 a4 a5 a6 a7 a8 a9 b1 b2 b3 b4 b5 b6 b7 b8 c1 c2 c3 c4 c5 c6 c7 (mjF 2 1 (nI 1) sgn b j (mbF 2 1 (nI 1) sgn b (rvF 16 x))) ((2 * b) + j) (((2 * b) + j) + 1) (cosT ((j * 16) / 2)) (sgn * (cosT ((((j * 16) / 2) + 12) % 16))) (nI 1) (by omega) (by omega) H.size) (cwV 5 hts (k_goodV wd_709 wd_711 wd_m30 wd_11 wd_712) rfl rfl rfl ⟨rfl, hd_MO_cross⟩ ⟨by rw [hR]; exact Nat.le_of_ble_eq_true rfl, by rw [hR]; exact Nat.le_of_ble_eq_true rfl⟩) hK hP hD hS hST hN hA [0, 1, 2] (by decide) rfl 0 rfl rfl rfl rfl hl.1 rfl (Nat.le_of_ble_eq_true rfl) d_MO_transform_122 ⟨by rw [hR]; exact Nat.le_of_ble_eq_true rfl, by rw [hR]; exact Nat.le_of_ble_eq_true rfl⟩) hP hD hS hA [0, 1, 2] [3, 4] rfl rfl (by decide) (by decide) (fun _ H locs hp122 hP hD hS => ?_)
            have hP : va_P D classes [(b5, .inl (tc 0, 16, .inl (fun w9 => nI (rndN w9)))), (b8, .inl (tc 0, 16, .inl cosT)), (h0, .inr (8, [.int (xth), .int (nI nby), .ref a1, .int (xra), .int (nI ndb), .ref a2, .int (nI ncb), .ref a3, .ref a4, .int (nI nfr), .ref a5, .ref a6, .int (nI nsy), .int (nI nai), .ref a7, .ref a8, .int (xas), .int (xan), .int (xst), .int (xhr), .int (xhb), .int (xse), .int (xbe), .ref a9, .ref b1, .ref b2, .ref b3, .ref b4, .ref b5, .ref b6, .ref b7, .ref b8, .ref c1, .ref c2, .ref c3, .ref c4, .ref c5, .ref c6, .ref c7, .int (xrg)])), (b3, .inl (tc 0, 16, .inl ((crF ((2 * b) + j) (((2 * b) + j) + 1) (cosT ((j * 16) / 2)) (sgn * (cosT ((((j * 16) / 2) + 12) % 16))) (nI 1) (mjF 2 1 (nI 1) sgn b j (mbF 2 1 (nI 1) sgn b (rvF 16 x)))).1))), (b4, .inl (tc 0, 16, .inl ((crF ((2 * b) + j) (((2 * b) + j) + 1) (cosT ((j * 16) / 2)) (sgn * (cosT ((((j * 16) / 2) + 12) % 16))) (nI 1) (mjF 2 1 (nI 1) sgn b j (mbF 2 1 (nI 1) sgn b (rvF 16 x)))).2)))] H := hP
            have hD : va_D A [(b5, .inl (tc 0, 16, .inl (fun w9 => nI (rndN w9)))), (b8, .inl (tc 0, 16, .inl cosT)), (h0, .inr (8, [.int (xth), .int (nI nby), .ref a1, .int (xra), .int (nI ndb), .ref a2, .int (nI ncb), .ref a3, .ref a4, .int (nI nfr), .ref a5, .ref a6, .int (nI nsy), .int (nI nai), .ref a7, .ref a8, .int (xas), .int (xan), .int (xst), .int (xhr), .int (xhb), .int (xse), .int (xbe), .ref a9, .ref b1, .ref b2, .ref b3, .ref b4, .ref b5, .ref b6, .ref b7, .ref b8, .ref c1, .ref c2, .ref c3, .ref c4, .ref c5, .ref c6, .ref c7, .int (xrg)])), (b3, .inl (tc 0, 16, .inl ((crF ((2 * b) + j) (((2 * b) + j) + 1) (cosT ((j * 16) / 2)) (sgn * (cosT ((((j * 16) / 2) + 12) % 16))) (nI 1) (mjF 2 1 (nI 1) sgn b j (mbF 2 1 (nI 1) sgn b (rvF 16 x)))).1))), (b4, .inl (tc 0, 16, .inl ((crF ((2 * b) + j) (((2 * b) + j) + 1) (cosT ((j * 16) / 2)) (sgn * (cosT ((((j * 16) / 2) + 12) % 16))) (nI 1) (mjF 2 1 (nI 1) sgn b j (mbF 2 1 (nI 1) sgn b (rvF 16 x)))).2)))] := hD
            refine W.widen (k := 0) (n := 0) (Nat.le_of_ble_eq_true rfl) (Nat.le_of_ble_eq_true rfl) ?_
            refine W.eq (g2 := F0 m 125 ls []) rfl ?_
            refine lv_iinc (k := 1) (v := nI (j + 1)) (lv' := [(4, .int (nI (j + 1))), (5, .int (nI ((j * 16) / 2))), (3, .int (nI (2 * b))), (2, .int (nI 2)), (0, .ref h0), (1, .int (sgn))]) hx hb d_MO_transform_125 hl rfl (k_incN _ 1) (by decide) rfl (fun ls hl => ?_)
            refine lv_goto (tgt := 54) hx hb d_MO_transform_128 (by decide) ?_
            exact ih_j (by omega)   H locs ls (lv_sub hl [0, 2, 3, 4, 5] rfl) (by have hP := k_sub hP (is := [2, 3, 4, 0, 1]) (w := [(h0, .inr (8, [.int (xth), .int (nI nby), .ref a1, .int (xra), .int (nI ndb), .ref a2, .int (nI ncb), .ref a3, .ref a4, .int (nI nfr), .ref a5, .ref a6, .int (nI nsy), .int (nI nai), .ref a7, .ref a8, .int (xas), .int (xan), .int (xst), .int (xhr), .int (xhb), .int (xse), .int (xbe), .ref a9, .ref b1, .ref b2, .ref b3, .ref b4, .ref b5, .ref b6, .ref b7, .ref b8, .ref c1, .ref c2, .ref c3, .ref c4, .ref c5, .ref c6, .ref c7, .int (xrg)])), (b3, .inl (tc 0, 16, .inl ((crF ((2 * b) + j) (((2 * b) + j) + 1) (cosT ((j * 16) / 2)) (sgn * (cosT ((((j * 16) / 2) + 12) % 16))) (nI 1) (mjF 2 1 (nI 1) sgn b j (mbF 2 1 (nI 1) sgn b (rvF 16 x)))).1))), (b4, .inl (tc 0, 16, .inl ((crF ((2 * b) + j) (((2 * b) + j) + 1) (cosT ((j * 16) / 2)) (sgn * (cosT ((((j * 16) / 2) + 12) % 16))) (nI 1) (mjF 2 1 (nI 1) sgn b j (mbF 2 1 (nI 1) sgn b (rvF 16 x)))).2))), (b5, .inl (tc 0, 16, .inl (fun w9 => nI (rndN w9)))), (b8, .inl (tc 0, 16, .inl cosT))]) rfl; rw [mjF_s]; exact hP) (k_Ds hD [2, 3, 4, 0, 1] (by decide) rfl) hS
          · exfalso; omega
  · have hrn := rnd_lt k h5
    refine lv_aload_n hx hb d_MO_transform_8 rfl (lv_at hl 1 rfl) ?_
    refine k_get hx hb hw uw_MO hown hK hP 0 rfl rfl 28 (by decide) (hw _ wd_742) rfl d_MO_transform_9 ?_
    refine lv_iload_n hx hb d_MO_transform_12 rfl (lv_at hl 0 rfl) ?_
    refine k_iald hx hb hK hP 3 0 rfl rfl (by omega) (by omega) d_MO_transform_13 ?_
    refine k_topi (y := nI (rndN k)) rfl ?_
    refine lv_iload_n hx hb d_MO_transform_14 rfl (lv_at hl 0 rfl) ?_
    refine k_icmp_le (tgt := 29) hx hb d_MO_transform_15 (by decide) (by omega) (by omega) (fun h15 => ?_) (fun h15 => ?_)
    · refine lv_iinc (k := 0) (v := nI (k + 1)) (lv' := [(2, .int (nI (k + 1))), (0, .ref h0), (1, .int (sgn))]) hx hb d_MO_transform_29 hl rfl (k_incN _ 1) (by decide) rfl (fun ls hl => ?_)
      refine lv_goto (tgt := 2) hx hb d_MO_transform_32 (by decide) ?_
      exact ih_k (by omega)   H locs ls (lv_sub hl [0, 1, 2] rfl) (by first | (rw [rvF_t _ h15]; exact hP) | (rw [rvF_f _ h15]; exact hP)) (k_Ds hD [0, 1, 2, 3, 4] (by decide) rfl) hS
    · refine lv_aload_n hx hb d_MO_transform_18 rfl (lv_at hl 1 rfl) ?_
      refine lv_iload_n hx hb d_MO_transform_19 rfl (lv_at hl 0 rfl) ?_
      refine lv_aload_n hx hb d_MO_transform_20 rfl (lv_at hl 1 rfl) ?_
      refine k_get hx hb hw uw_MO hown hK hP 0 rfl rfl 28 (by decide) (hw _ wd_742) rfl d_MO_transform_21 ?_
      refine lv_iload_n hx hb d_MO_transform_24 rfl (lv_at hl 0 rfl) ?_
      refine k_iald hx hb hK hP 3 0 rfl rfl (by omega) (by omega) d_MO_transform_25 ?_
      refine k_topi (y := nI (rndN k)) rfl ?_
      refine k_callv (wr := [(b5, .inl (tc 0, 16, .inl (fun w9 => nI (rndN w9)))), (b8, .inl (tc 0, 16, .inl cosT))]) (k_runV (As := [.int (nI k), .int (nI (rndN k))]) (rest := []) (wc := [(h0, .inr (8, [.int (xth), .int (nI nby), .ref a1, .int (xra), .int (nI ndb), .ref a2, .int (nI ncb), .ref a3, .ref a4, .int (nI nfr), .ref a5, .ref a6, .int (nI nsy), .int (nI nai), .ref a7, .ref a8, .int (xas), .int (xan), .int (xst), .int (xhr), .int (xhb), .int (xse), .int (xbe), .ref a9, .ref b1, .ref b2, .ref b3, .ref b4, .ref b5, .ref b6, .ref b7, .ref b8, .ref c1, .ref c2, .ref c3, .ref c4, .ref c5, .ref c6, .ref c7, .int (xrg)])), (b3, .inl (tc 0, 16, .inl ((rvF k x).1))), (b4, .inl (tc 0, 16, .inl ((rvF k x).2)))]) ⟨hx, hb, hml, hown, hts⟩ (c_MO_exchange l D tc tb h0 nby ndb ncb nfr nsy nai xth xra xas xan xst xhr xhb xse xbe xrg a1 a2 a3 a4 a5 a6 a7 a8 a9 b1 b2 b3 b4 b5 b6 b7 b8 c1 c2 c3 c4 c5 c6 c7 (rvF k x) k (rndN k) (by omega) (by omega) H.size) (cwV 2 hts (k_goodV wd_705 wd_707 wd_m29 wd_11 wd_708) rfl rfl rfl ⟨rfl, hd_MO_exchange⟩ ⟨by rw [hR]; exact Nat.le_of_ble_eq_true rfl, by rw [hR]; exact Nat.le_of_ble_eq_true rfl⟩) hK hP hD hS hST hN hA [0, 1, 2] (by decide) rfl 0 rfl rfl rfl rfl hl.1 rfl (Nat.le_of_ble_eq_true rfl) d_MO_transform_26 ⟨by rw [hR]; exact Nat.le_of_ble_eq_true rfl, by rw [hR]; exact Nat.le_of_ble_eq_true rfl⟩) hP hD hS hA [0, 1, 2] [3, 4] rfl rfl (by decide) (by decide) (fun _ H locs hp26 hP hD hS => ?_)
      have hP : va_P D classes [(b5, .inl (tc 0, 16, .inl (fun w9 => nI (rndN w9)))), (b8, .inl (tc 0, 16, .inl cosT)), (h0, .inr (8, [.int (xth), .int (nI nby), .ref a1, .int (xra), .int (nI ndb), .ref a2, .int (nI ncb), .ref a3, .ref a4, .int (nI nfr), .ref a5, .ref a6, .int (nI nsy), .int (nI nai), .ref a7, .ref a8, .int (xas), .int (xan), .int (xst), .int (xhr), .int (xhb), .int (xse), .int (xbe), .ref a9, .ref b1, .ref b2, .ref b3, .ref b4, .ref b5, .ref b6, .ref b7, .ref b8, .ref c1, .ref c2, .ref c3, .ref c4, .ref c5, .ref c6, .ref c7, .int (xrg)])), (b3, .inl (tc 0, 16, .inl (swF k (rndN k) (rvF k x).1))), (b4, .inl (tc 0, 16, .inl (swF k (rndN k) (rvF k x).2)))] H := hP
      have hD : va_D A [(b5, .inl (tc 0, 16, .inl (fun w9 => nI (rndN w9)))), (b8, .inl (tc 0, 16, .inl cosT)), (h0, .inr (8, [.int (xth), .int (nI nby), .ref a1, .int (xra), .int (nI ndb), .ref a2, .int (nI ncb), .ref a3, .ref a4, .int (nI nfr), .ref a5, .ref a6, .int (nI nsy), .int (nI nai), .ref a7, .ref a8, .int (xas), .int (xan), .int (xst), .int (xhr), .int (xhb), .int (xse), .int (xbe), .ref a9, .ref b1, .ref b2, .ref b3, .ref b4, .ref b5, .ref b6, .ref b7, .ref b8, .ref c1, .ref c2, .ref c3, .ref c4, .ref c5, .ref c6, .ref c7, .int (xrg)])), (b3, .inl (tc 0, 16, .inl (swF k (rndN k) (rvF k x).1))), (b4, .inl (tc 0, 16, .inl (swF k (rndN k) (rvF k x).2)))] := hD
      refine W.widen (k := 0) (n := 0) (Nat.le_of_ble_eq_true rfl) (Nat.le_of_ble_eq_true rfl) ?_
      refine W.eq (g2 := F0 m 29 ls []) rfl ?_
      refine lv_iinc (k := 0) (v := nI (k + 1)) (lv' := [(2, .int (nI (k + 1))), (0, .ref h0), (1, .int (sgn))]) hx hb d_MO_transform_29 hl rfl (k_incN _ 1) (by decide) rfl (fun ls hl => ?_)
      refine lv_goto (tgt := 2) hx hb d_MO_transform_32 (by decide) ?_
      exact ih_k (by omega)   H locs ls (lv_sub hl [0, 1, 2] rfl) (by have hP := k_sub hP (is := [2, 3, 4, 0, 1]) (w := [(h0, .inr (8, [.int (xth), .int (nI nby), .ref a1, .int (xra), .int (nI ndb), .ref a2, .int (nI ncb), .ref a3, .ref a4, .int (nI nfr), .ref a5, .ref a6, .int (nI nsy), .int (nI nai), .ref a7, .ref a8, .int (xas), .int (xan), .int (xst), .int (xhr), .int (xhb), .int (xse), .int (xbe), .ref a9, .ref b1, .ref b2, .ref b3, .ref b4, .ref b5, .ref b6, .ref b7, .ref b8, .ref c1, .ref c2, .ref c3, .ref c4, .ref c5, .ref c6, .ref c7, .int (xrg)])), (b3, .inl (tc 0, 16, .inl (swF k (rndN k) (rvF k x).1))), (b4, .inl (tc 0, 16, .inl (swF k (rndN k) (rvF k x).2))), (b5, .inl (tc 0, 16, .inl (fun w9 => nI (rndN w9)))), (b8, .inl (tc 0, 16, .inl cosT))]) rfl; first | (rw [rvF_t _ h15]; exact hP) | (rw [rvF_f _ h15]; exact hP)) (k_Ds hD [2, 3, 4, 0, 1] (by decide) rfl) hS
set_option maxHeartbeats 4000000 in
set_option maxRecDepth 100000 in
theorem c_MO_past0 (l : Launch) (D : va_G) (tc : Nat → ClassId) (tb : Nat → Nat) (h0 : Nat) (nby : Nat) (ndb : Nat) (ncb : Nat) (nfr : Nat) (nsy : Nat) (nai : Nat) (xth : Int32) (xra : Int32) (xas : Int32) (xan : Int32) (xst : Int32) (xhr : Int32) (xhb : Int32) (xse : Int32) (xbe : Int32) (xrg : Int32) (a1 : Nat) (a2 : Nat) (a3 : Nat) (a4 : Nat) (a5 : Nat) (a6 : Nat) (a7 : Nat) (a8 : Nat) (a9 : Nat) (b1 : Nat) (b2 : Nat) (b3 : Nat) (b4 : Nat) (b5 : Nat) (b6 : Nat) (b7 : Nat) (b8 : Nat) (c1 : Nat) (c2 : Nat) (c3 : Nat) (c4 : Nat) (c5 : Nat) (c6 : Nat) (c7 : Nat) (f : Nat → Int32) (k : Nat) (hk : k < 160) : Mi l D tc tb y_MO_past prog_10_method_18_code 2 (some .int) ({ frames := 0, cells := 0, slots := 0, locals := 0 }) [.ref h0, .int (nI k)] [(h0, .inr (8, [.int (xth), .int (nI nby), .ref a1, .int (xra), .int (nI ndb), .ref a2, .int (nI ncb), .ref a3, .ref a4, .int (nI nfr), .ref a5, .ref a6, .int (nI nsy), .int (nI nai), .ref a7, .ref a8, .int (xas), .int (xan), .int (xst), .int (xhr), .int (xhb), .int (xse), .int (xbe), .ref a9, .ref b1, .ref b2, .ref b3, .ref b4, .ref b5, .ref b6, .ref b7, .ref b8, .ref c1, .ref c2, .ref c3, .ref c4, .ref c5, .ref c6, .ref c7, .int (xrg)])), (a2, .inl (tc 0, 160, .inl f))] (fun _ : Unit => True) (fun _ : Unit => f k) (fun _ : Unit => [(h0, .inr (8, [.int (xth), .int (nI nby), .ref a1, .int (xra), .int (nI ndb), .ref a2, .int (nI ncb), .ref a3, .ref a4, .int (nI nfr), .ref a5, .ref a6, .int (nI nsy), .int (nI nai), .ref a7, .ref a8, .int (xas), .int (xan), .int (xst), .int (xhr), .int (xhb), .int (xse), .int (xbe), .ref a9, .ref b1, .ref b2, .ref b3, .ref b4, .ref b5, .ref b6, .ref b7, .ref b8, .ref c1, .ref c2, .ref c3, .ref c4, .ref c5, .ref c6, .ref c7, .int (xrg)])), (a2, .inl (tc 0, 160, .inl f))]) := by
  refine Mi.go (by decide) (Nat.le_of_ble_eq_true rfl) ?_
  intro p e s m below meth c A ls R args Q C
  obtain ⟨hx, hb, hr, hts, hown, hlk, hml, hin, hA, hST, hN, hK, hP, hD, hS, hl, hR, hQ⟩ := C
  have hw : ∀ w ∈ lw_g, w.before args s = true := fun w h => hts w (List.mem_cons_of_mem _ h)
  have hl : lv_has ls 2 [(0, .ref h0), (1, .int (nI k))] := hl
  refine lv_iload_n hx hb d_MO_past_0 rfl (lv_at hl 1 rfl) ?_
  refine lv_if_ge (tgt := 8) hx hb d_MO_past_1 (by decide) (fun h1 => ?_) (fun h1 => ?_)
  · refine lv_aload_n hx hb d_MO_past_8 rfl (lv_at hl 0 rfl) ?_
    refine k_get hx hb hw uw_MO hown hK hP 0 rfl rfl 5 (by decide) (hw _ wd_719) rfl d_MO_past_9 ?_
    refine lv_iload_n hx hb d_MO_past_12 rfl (lv_at hl 1 rfl) ?_
    refine k_iald hx hb hK hP 1 0 rfl rfl (by omega) (by omega) d_MO_past_13 ?_
    rw [hQ]
    exact k_iret () hx hb hr hlk hK hP hD hS [0, 1] (by decide) rfl trivial rfl d_MO_past_14
  · exact absurd (nI_pos' (by omega)) h1
set_option maxHeartbeats 4000000 in
set_option maxRecDepth 100000 in
theorem c_MO_past (l : Launch) (D : va_G) (tc : Nat → ClassId) (tb : Nat → Nat) (h0 : Nat) (nby : Nat) (ndb : Nat) (ncb : Nat) (nfr : Nat) (nsy : Nat) (nai : Nat) (xth : Int32) (xra : Int32) (xas : Int32) (xan : Int32) (xst : Int32) (xhr : Int32) (xhb : Int32) (xse : Int32) (xbe : Int32) (xrg : Int32) (a1 : Nat) (a2 : Nat) (a3 : Nat) (a4 : Nat) (a5 : Nat) (a6 : Nat) (a7 : Nat) (a8 : Nat) (a9 : Nat) (b1 : Nat) (b2 : Nat) (b3 : Nat) (b4 : Nat) (b5 : Nat) (b6 : Nat) (b7 : Nat) (b8 : Nat) (c1 : Nat) (c2 : Nat) (c3 : Nat) (c4 : Nat) (c5 : Nat) (c6 : Nat) (c7 : Nat) (f : Nat → Int32) (k : Nat) (j : Nat) (hk : k < 160) (hj : j < 10) : Mi l D tc tb y_MO_past prog_10_method_18_code 2 (some .int) ({ frames := 0, cells := 0, slots := 0, locals := 0 }) [.ref h0, .int (nI k - nI j)] [(h0, .inr (8, [.int (xth), .int (nI nby), .ref a1, .int (xra), .int (nI ndb), .ref a2, .int (nI ncb), .ref a3, .ref a4, .int (nI nfr), .ref a5, .ref a6, .int (nI nsy), .int (nI nai), .ref a7, .ref a8, .int (xas), .int (xan), .int (xst), .int (xhr), .int (xhb), .int (xse), .int (xbe), .ref a9, .ref b1, .ref b2, .ref b3, .ref b4, .ref b5, .ref b6, .ref b7, .ref b8, .ref c1, .ref c2, .ref c3, .ref c4, .ref c5, .ref c6, .ref c7, .int (xrg)])), (a2, .inl (tc 0, 160, .inl f))] (fun _ : Unit => True) (fun _ : Unit => paF f k j) (fun _ : Unit => [(h0, .inr (8, [.int (xth), .int (nI nby), .ref a1, .int (xra), .int (nI ndb), .ref a2, .int (nI ncb), .ref a3, .ref a4, .int (nI nfr), .ref a5, .ref a6, .int (nI nsy), .int (nI nai), .ref a7, .ref a8, .int (xas), .int (xan), .int (xst), .int (xhr), .int (xhb), .int (xse), .int (xbe), .ref a9, .ref b1, .ref b2, .ref b3, .ref b4, .ref b5, .ref b6, .ref b7, .ref b8, .ref c1, .ref c2, .ref c3, .ref c4, .ref c5, .ref c6, .ref c7, .int (xrg)])), (a2, .inl (tc 0, 160, .inl f))]) := by
  refine Mi.go (by decide) (Nat.le_of_ble_eq_true rfl) ?_
  intro p e s m below meth c A ls R args Q C
  obtain ⟨hx, hb, hr, hts, hown, hlk, hml, hin, hA, hST, hN, hK, hP, hD, hS, hl, hR, hQ⟩ := C
  have hw : ∀ w ∈ lw_g, w.before args s = true := fun w h => hts w (List.mem_cons_of_mem _ h)
  have hl : lv_has ls 2 [(0, .ref h0), (1, .int (nI k - nI j))] := hl
  refine lv_iload_n hx hb d_MO_past_0 rfl (lv_at hl 1 rfl) ?_
  refine lv_if_ge (tgt := 8) hx hb d_MO_past_1 (by decide) (fun h1 => ?_) (fun h1 => ?_)
  · refine lv_aload_n hx hb d_MO_past_8 rfl (lv_at hl 0 rfl) ?_
    refine k_get hx hb hw uw_MO hown hK hP 0 rfl rfl 5 (by decide) (hw _ wd_719) rfl d_MO_past_9 ?_
    refine lv_iload_n hx hb d_MO_past_12 rfl (lv_at hl 1 rfl) ?_
    refine k_topi (y := nI (k - j)) (pk_sub (sub_nn (by omega) (by omega) h1)) ?_
    refine k_iald hx hb hK hP 1 0 rfl rfl (by omega) (by omega) d_MO_past_13 ?_
    rw [hQ]
    exact k_iret () hx hb hr hlk hK hP hD hS [0, 1] (by decide) rfl trivial (by unfold paF; first | rw [if_neg (Nat.not_lt.mpr (sub_nn (by omega) (by omega) h1))] | (rw [if_pos (sub_ng (by omega) (by omega) h1)]; rfl)) d_MO_past_14
  · refine lv_iconst (v := nI 0) hx hb d_MO_past_4 (by decide) ?_
    refine lv_goto (tgt := 14) hx hb d_MO_past_5 (by decide) ?_
    rw [hQ]
    exact k_iret () hx hb hr hlk hK hP hD hS [0, 1] (by decide) rfl trivial (by unfold paF; first | rw [if_neg (Nat.not_lt.mpr (sub_nn (by omega) (by omega) h1))] | (rw [if_pos (sub_ng (by omega) (by omega) h1)]; rfl)) d_MO_past_14
