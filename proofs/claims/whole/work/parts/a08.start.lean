/-! The law's start: classes, array classes, tables. -/
theorem st_arr {args : Array Value} {s : State} {ty : FieldType} (h : (Cond.arrayClass ty).before args s = true) : ∃ cA : ClassId, ArrOfT s cA ty ∧ s.vm.findClass ("[" ++ ty.toString) = some cA := by
  obtain ⟨cA, kA, comp, h1, h2, h3⟩ := Cond.arrayClass_spec h
  exact ⟨cA, fun N z => ⟨(fun k h => by cases h), kA, h2, comp, h3⟩, h1⟩
set_option maxHeartbeats 4000000 in
theorem st_K {args : Array Value} {s : State} (hw : ∀ w ∈ lw_g, w.before args s = true) : ∃ (D : va_G) (tc : Nat → ClassId), va_K D classes (TY tc) s := by
  obtain ⟨c0, i0, k0⟩ := u_known hw uw_CL (hw _ wd_20)
  obtain ⟨c1, i1, k1⟩ := u_known hw uw_WA (hw _ wd_28)
  obtain ⟨c2, i2, k2⟩ := u_known hw uw_PO (hw _ wd_54)
  obtain ⟨c3, i3, k3⟩ := u_known hw uw_SC (hw _ wd_135)
  obtain ⟨c4, i4, k4⟩ := u_known hw uw_BR (hw _ wd_102)
  obtain ⟨c5, i5, k5⟩ := u_known hw uw_SE (hw _ wd_96)
  obtain ⟨c6, i6, k6⟩ := u_known hw uw_RE (hw _ wd_168)
  obtain ⟨c7, i7, k7⟩ := u_known hw uw_PA (hw _ wd_179)
  obtain ⟨c8, i8, k8⟩ := u_known hw uw_MO (hw _ wd_686)
  obtain ⟨t0, a0, n0⟩ := st_arr (hw _ wd_51)
  obtain ⟨t1, a1, n1⟩ := st_arr (hw _ wd_52)
  obtain ⟨t2, a2, n2⟩ := st_arr (hw _ wd_213)
  obtain ⟨t3, a3, n3⟩ := st_arr (hw _ wd_835)
  refine ⟨(fun c => match c with | 0 => c0 | 1 => c1 | 2 => c2 | 3 => c3 | 4 => c4 | 5 => c5 | 6 => c6 | 7 => c7 | _ => c8, fun c => match c with | 0 => i0 | 1 => i1 | 2 => i2 | 3 => i3 | 4 => i4 | 5 => i5 | 6 => i6 | 7 => i7 | _ => i8), fun k => match k with | 0 => t0 | 1 => t1 | 2 => t2 | _ => t3, ?_, ?_⟩
  · intro c q hq
    match c, hq with
    | 0, hq => cases hq; exact k0
    | 1, hq => cases hq; exact k1
    | 2, hq => cases hq; exact k2
    | 3, hq => cases hq; exact k3
    | 4, hq => cases hq; exact k4
    | 5, hq => cases hq; exact k5
    | 6, hq => cases hq; exact k6
    | 7, hq => cases hq; exact k7
    | 8, hq => cases hq; exact k8
    | n + 9, hq => cases hq
  · intro k q hq
    match k, hq with
    | 0, hq => cases hq; exact ⟨a0, n0⟩
    | 1, hq => cases hq; exact ⟨a1, n1⟩
    | 2, hq => cases hq; exact ⟨a2, n2⟩
    | 3, hq => cases hq; exact ⟨a3, n3⟩
    | n + 4, hq => cases hq
set_option maxHeartbeats 4000000 in
set_option maxRecDepth 100000 in
theorem st_T0 {args : Array Value} {s : State} {A : Nat → Prop} (hg : ∀ c ∈ flatC (Jvm.Cond.and given_1 narrow_1), c.before args s = true) (hl : (Cond.laysStatic "CarrierLink" "BITS_ON_CARRIER" "[I").before args s = true) (hi : (Cond.initialized "CarrierLink").before args s = true) (hA : ∀ a : Nat, a < s.heap.size → ¬ A a) : ∃ t : Nat, va_Z "CarrierLink" "BITS_ON_CARRIER" "[I" (.ref t) A s s.heap ∧ va_T .int t 4 (fun j => .int (((fun j => nI (bocN j))) j)) A s s.heap := by
  have hel : ∀ j : Nat, j < 4 → (Term.elem (.static "CarrierLink" "BITS_ON_CARRIER" "[I") (.int (Int32.ofNat j))).eval args s none [] s = some (.int (((fun j => nI (bocN j))) j)) := by
    intro j hj
    rcases (show j = 0 ∨ j = 1 ∨ j = 2 ∨ j = 3 by omega) with rfl | rfl | rfl | rfl
    · exact va_eqt (z := (1)) (hg (Cond.eq (.elem (.static "CarrierLink" "BITS_ON_CARRIER" "[I") (.int 0)) (.int (1))) (by decide +kernel))
    · exact va_eqt (z := (2)) (hg (Cond.eq (.elem (.static "CarrierLink" "BITS_ON_CARRIER" "[I") (.int 1)) (.int (2))) (by decide +kernel))
    · exact va_eqt (z := (2)) (hg (Cond.eq (.elem (.static "CarrierLink" "BITS_ON_CARRIER" "[I") (.int 2)) (.int (2))) (by decide +kernel))
    · exact va_eqt (z := (4)) (hg (Cond.eq (.elem (.static "CarrierLink" "BITS_ON_CARRIER" "[I") (.int 3)) (.int (4))) (by decide +kernel))
  obtain ⟨t, e, T⟩ := va_Tof (tm := (.static "CarrierLink" "BITS_ON_CARRIER" "[I")) (ty := .int) (N := 4) (f := fun j => .int (((fun j => nI (bocN j))) j)) (A := A) (by decide) (hg _ (by decide +kernel)) (va_eqt (z := Int32.ofNat 4) (hg (Cond.eq (.length (.static "CarrierLink" "BITS_ON_CARRIER" "[I")) (.int 4)) (by decide +kernel))) hel hA
  exact ⟨t, va_Zof hl hi e hA, T⟩
set_option maxHeartbeats 4000000 in
set_option maxRecDepth 100000 in
theorem st_T1 {args : Array Value} {s : State} {A : Nat → Prop} (hg : ∀ c ∈ flatC (Jvm.Cond.and given_1 narrow_1), c.before args s = true) (hl : (Cond.laysStatic "CarrierLink" "DATA_BITS_IN_SYMBOL" "[I").before args s = true) (hi : (Cond.initialized "CarrierLink").before args s = true) (hA : ∀ a : Nat, a < s.heap.size → ¬ A a) : ∃ t : Nat, va_Z "CarrierLink" "DATA_BITS_IN_SYMBOL" "[I" (.ref t) A s s.heap ∧ va_T .int t 4 (fun j => .int (((fun j => nI (dbsN j))) j)) A s s.heap := by
  have hel : ∀ j : Nat, j < 4 → (Term.elem (.static "CarrierLink" "DATA_BITS_IN_SYMBOL" "[I") (.int (Int32.ofNat j))).eval args s none [] s = some (.int (((fun j => nI (dbsN j))) j)) := by
    intro j hj
    rcases (show j = 0 ∨ j = 1 ∨ j = 2 ∨ j = 3 by omega) with rfl | rfl | rfl | rfl
    · exact va_eqt (z := (6)) (hg (Cond.eq (.elem (.static "CarrierLink" "DATA_BITS_IN_SYMBOL" "[I") (.int 0)) (.int (6))) (by decide +kernel))
    · exact va_eqt (z := (12)) (hg (Cond.eq (.elem (.static "CarrierLink" "DATA_BITS_IN_SYMBOL" "[I") (.int 1)) (.int (12))) (by decide +kernel))
    · exact va_eqt (z := (18)) (hg (Cond.eq (.elem (.static "CarrierLink" "DATA_BITS_IN_SYMBOL" "[I") (.int 2)) (.int (18))) (by decide +kernel))
    · exact va_eqt (z := (36)) (hg (Cond.eq (.elem (.static "CarrierLink" "DATA_BITS_IN_SYMBOL" "[I") (.int 3)) (.int (36))) (by decide +kernel))
  obtain ⟨t, e, T⟩ := va_Tof (tm := (.static "CarrierLink" "DATA_BITS_IN_SYMBOL" "[I")) (ty := .int) (N := 4) (f := fun j => .int (((fun j => nI (dbsN j))) j)) (A := A) (by decide) (hg _ (by decide +kernel)) (va_eqt (z := Int32.ofNat 4) (hg (Cond.eq (.length (.static "CarrierLink" "DATA_BITS_IN_SYMBOL" "[I")) (.int 4)) (by decide +kernel))) hel hA
  exact ⟨t, va_Zof hl hi e hA, T⟩
set_option maxHeartbeats 4000000 in
set_option maxRecDepth 100000 in
theorem st_T2 {args : Array Value} {s : State} {A : Nat → Prop} (hg : ∀ c ∈ flatC (Jvm.Cond.and given_1 narrow_1), c.before args s = true) (hl : (Cond.laysStatic "CarrierLink" "CARRIER_OF_DATA" "[I").before args s = true) (hi : (Cond.initialized "CarrierLink").before args s = true) (hA : ∀ a : Nat, a < s.heap.size → ¬ A a) : ∃ t : Nat, va_Z "CarrierLink" "CARRIER_OF_DATA" "[I" (.ref t) A s s.heap ∧ va_T .int t 12 (fun j => .int (((fun j => nI (codN j))) j)) A s s.heap := by
  have hel : ∀ j : Nat, j < 12 → (Term.elem (.static "CarrierLink" "CARRIER_OF_DATA" "[I") (.int (Int32.ofNat j))).eval args s none [] s = some (.int (((fun j => nI (codN j))) j)) := by
    intro j hj
    rcases (show j = 0 ∨ j = 1 ∨ j = 2 ∨ j = 3 ∨ j = 4 ∨ j = 5 ∨ j = 6 ∨ j = 7 ∨ j = 8 ∨ j = 9 ∨ j = 10 ∨ j = 11 by omega) with rfl | rfl | rfl | rfl | rfl | rfl | rfl | rfl | rfl | rfl | rfl | rfl
    · exact va_eqt (z := (9)) (hg (Cond.eq (.elem (.static "CarrierLink" "CARRIER_OF_DATA" "[I") (.int 0)) (.int (9))) (by decide +kernel))
    · exact va_eqt (z := (10)) (hg (Cond.eq (.elem (.static "CarrierLink" "CARRIER_OF_DATA" "[I") (.int 1)) (.int (10))) (by decide +kernel))
    · exact va_eqt (z := (11)) (hg (Cond.eq (.elem (.static "CarrierLink" "CARRIER_OF_DATA" "[I") (.int 2)) (.int (11))) (by decide +kernel))
    · exact va_eqt (z := (13)) (hg (Cond.eq (.elem (.static "CarrierLink" "CARRIER_OF_DATA" "[I") (.int 3)) (.int (13))) (by decide +kernel))
    · exact va_eqt (z := (14)) (hg (Cond.eq (.elem (.static "CarrierLink" "CARRIER_OF_DATA" "[I") (.int 4)) (.int (14))) (by decide +kernel))
    · exact va_eqt (z := (15)) (hg (Cond.eq (.elem (.static "CarrierLink" "CARRIER_OF_DATA" "[I") (.int 5)) (.int (15))) (by decide +kernel))
    · exact va_eqt (z := (1)) (hg (Cond.eq (.elem (.static "CarrierLink" "CARRIER_OF_DATA" "[I") (.int 6)) (.int (1))) (by decide +kernel))
    · exact va_eqt (z := (2)) (hg (Cond.eq (.elem (.static "CarrierLink" "CARRIER_OF_DATA" "[I") (.int 7)) (.int (2))) (by decide +kernel))
    · exact va_eqt (z := (3)) (hg (Cond.eq (.elem (.static "CarrierLink" "CARRIER_OF_DATA" "[I") (.int 8)) (.int (3))) (by decide +kernel))
    · exact va_eqt (z := (5)) (hg (Cond.eq (.elem (.static "CarrierLink" "CARRIER_OF_DATA" "[I") (.int 9)) (.int (5))) (by decide +kernel))
    · exact va_eqt (z := (6)) (hg (Cond.eq (.elem (.static "CarrierLink" "CARRIER_OF_DATA" "[I") (.int 10)) (.int (6))) (by decide +kernel))
    · exact va_eqt (z := (7)) (hg (Cond.eq (.elem (.static "CarrierLink" "CARRIER_OF_DATA" "[I") (.int 11)) (.int (7))) (by decide +kernel))
  obtain ⟨t, e, T⟩ := va_Tof (tm := (.static "CarrierLink" "CARRIER_OF_DATA" "[I")) (ty := .int) (N := 12) (f := fun j => .int (((fun j => nI (codN j))) j)) (A := A) (by decide) (hg _ (by decide +kernel)) (va_eqt (z := Int32.ofNat 12) (hg (Cond.eq (.length (.static "CarrierLink" "CARRIER_OF_DATA" "[I")) (.int 12)) (by decide +kernel))) hel hA
  exact ⟨t, va_Zof hl hi e hA, T⟩
set_option maxHeartbeats 4000000 in
set_option maxRecDepth 100000 in
theorem st_T3 {args : Array Value} {s : State} {A : Nat → Prop} (hg : ∀ c ∈ flatC (Jvm.Cond.and given_1 narrow_1), c.before args s = true) (hl : (Cond.laysStatic "CarrierLink" "TRAINING_SIGN" "[I").before args s = true) (hi : (Cond.initialized "CarrierLink").before args s = true) (hA : ∀ a : Nat, a < s.heap.size → ¬ A a) : ∃ t : Nat, va_Z "CarrierLink" "TRAINING_SIGN" "[I" (.ref t) A s s.heap ∧ va_T .int t 16 (fun j => .int (tsgT j)) A s s.heap := by
  have hel : ∀ j : Nat, j < 16 → (Term.elem (.static "CarrierLink" "TRAINING_SIGN" "[I") (.int (Int32.ofNat j))).eval args s none [] s = some (.int (tsgT j)) := by
    intro j hj
    rcases (show j = 0 ∨ j = 1 ∨ j = 2 ∨ j = 3 ∨ j = 4 ∨ j = 5 ∨ j = 6 ∨ j = 7 ∨ j = 8 ∨ j = 9 ∨ j = 10 ∨ j = 11 ∨ j = 12 ∨ j = 13 ∨ j = 14 ∨ j = 15 by omega) with rfl | rfl | rfl | rfl | rfl | rfl | rfl | rfl | rfl | rfl | rfl | rfl | rfl | rfl | rfl | rfl
    · exact va_eqt (z := (0)) (hg (Cond.eq (.elem (.static "CarrierLink" "TRAINING_SIGN" "[I") (.int 0)) (.int (0))) (by decide +kernel))
    · exact va_eqt (z := (1)) (hg (Cond.eq (.elem (.static "CarrierLink" "TRAINING_SIGN" "[I") (.int 1)) (.int (1))) (by decide +kernel))
    · exact va_eqt (z := (-1)) (hg (Cond.eq (.elem (.static "CarrierLink" "TRAINING_SIGN" "[I") (.int 2)) (.int (-1))) (by decide +kernel))
    · exact va_eqt (z := (1)) (hg (Cond.eq (.elem (.static "CarrierLink" "TRAINING_SIGN" "[I") (.int 3)) (.int (1))) (by decide +kernel))
    · exact va_eqt (z := (1)) (hg (Cond.eq (.elem (.static "CarrierLink" "TRAINING_SIGN" "[I") (.int 4)) (.int (1))) (by decide +kernel))
    · exact va_eqt (z := (-1)) (hg (Cond.eq (.elem (.static "CarrierLink" "TRAINING_SIGN" "[I") (.int 5)) (.int (-1))) (by decide +kernel))
    · exact va_eqt (z := (-1)) (hg (Cond.eq (.elem (.static "CarrierLink" "TRAINING_SIGN" "[I") (.int 6)) (.int (-1))) (by decide +kernel))
    · exact va_eqt (z := (1)) (hg (Cond.eq (.elem (.static "CarrierLink" "TRAINING_SIGN" "[I") (.int 7)) (.int (1))) (by decide +kernel))
    · exact va_eqt (z := (0)) (hg (Cond.eq (.elem (.static "CarrierLink" "TRAINING_SIGN" "[I") (.int 8)) (.int (0))) (by decide +kernel))
    · exact va_eqt (z := (1)) (hg (Cond.eq (.elem (.static "CarrierLink" "TRAINING_SIGN" "[I") (.int 9)) (.int (1))) (by decide +kernel))
    · exact va_eqt (z := (1)) (hg (Cond.eq (.elem (.static "CarrierLink" "TRAINING_SIGN" "[I") (.int 10)) (.int (1))) (by decide +kernel))
    · exact va_eqt (z := (-1)) (hg (Cond.eq (.elem (.static "CarrierLink" "TRAINING_SIGN" "[I") (.int 11)) (.int (-1))) (by decide +kernel))
    · exact va_eqt (z := (1)) (hg (Cond.eq (.elem (.static "CarrierLink" "TRAINING_SIGN" "[I") (.int 12)) (.int (1))) (by decide +kernel))
    · exact va_eqt (z := (-1)) (hg (Cond.eq (.elem (.static "CarrierLink" "TRAINING_SIGN" "[I") (.int 13)) (.int (-1))) (by decide +kernel))
    · exact va_eqt (z := (1)) (hg (Cond.eq (.elem (.static "CarrierLink" "TRAINING_SIGN" "[I") (.int 14)) (.int (1))) (by decide +kernel))
    · exact va_eqt (z := (1)) (hg (Cond.eq (.elem (.static "CarrierLink" "TRAINING_SIGN" "[I") (.int 15)) (.int (1))) (by decide +kernel))
  obtain ⟨t, e, T⟩ := va_Tof (tm := (.static "CarrierLink" "TRAINING_SIGN" "[I")) (ty := .int) (N := 16) (f := fun j => .int (tsgT j)) (A := A) (by decide) (hg _ (by decide +kernel)) (va_eqt (z := Int32.ofNat 16) (hg (Cond.eq (.length (.static "CarrierLink" "TRAINING_SIGN" "[I")) (.int 16)) (by decide +kernel))) hel hA
  exact ⟨t, va_Zof hl hi e hA, T⟩
set_option maxHeartbeats 4000000 in
set_option maxRecDepth 100000 in
theorem st_T4 {args : Array Value} {s : State} {A : Nat → Prop} (hg : ∀ c ∈ flatC (Jvm.Cond.and given_1 narrow_1), c.before args s = true) (hl : (Cond.laysStatic "CarrierLink" "TURNED_ROUND" "[I").before args s = true) (hi : (Cond.initialized "CarrierLink").before args s = true) (hA : ∀ a : Nat, a < s.heap.size → ¬ A a) : ∃ t : Nat, va_Z "CarrierLink" "TURNED_ROUND" "[I" (.ref t) A s s.heap ∧ va_T .int t 16 (fun j => .int (((fun j => nI (rndN j))) j)) A s s.heap := by
  have hel : ∀ j : Nat, j < 16 → (Term.elem (.static "CarrierLink" "TURNED_ROUND" "[I") (.int (Int32.ofNat j))).eval args s none [] s = some (.int (((fun j => nI (rndN j))) j)) := by
    intro j hj
    rcases (show j = 0 ∨ j = 1 ∨ j = 2 ∨ j = 3 ∨ j = 4 ∨ j = 5 ∨ j = 6 ∨ j = 7 ∨ j = 8 ∨ j = 9 ∨ j = 10 ∨ j = 11 ∨ j = 12 ∨ j = 13 ∨ j = 14 ∨ j = 15 by omega) with rfl | rfl | rfl | rfl | rfl | rfl | rfl | rfl | rfl | rfl | rfl | rfl | rfl | rfl | rfl | rfl
    · exact va_eqt (z := (0)) (hg (Cond.eq (.elem (.static "CarrierLink" "TURNED_ROUND" "[I") (.int 0)) (.int (0))) (by decide +kernel))
    · exact va_eqt (z := (8)) (hg (Cond.eq (.elem (.static "CarrierLink" "TURNED_ROUND" "[I") (.int 1)) (.int (8))) (by decide +kernel))
    · exact va_eqt (z := (4)) (hg (Cond.eq (.elem (.static "CarrierLink" "TURNED_ROUND" "[I") (.int 2)) (.int (4))) (by decide +kernel))
    · exact va_eqt (z := (12)) (hg (Cond.eq (.elem (.static "CarrierLink" "TURNED_ROUND" "[I") (.int 3)) (.int (12))) (by decide +kernel))
    · exact va_eqt (z := (2)) (hg (Cond.eq (.elem (.static "CarrierLink" "TURNED_ROUND" "[I") (.int 4)) (.int (2))) (by decide +kernel))
    · exact va_eqt (z := (10)) (hg (Cond.eq (.elem (.static "CarrierLink" "TURNED_ROUND" "[I") (.int 5)) (.int (10))) (by decide +kernel))
    · exact va_eqt (z := (6)) (hg (Cond.eq (.elem (.static "CarrierLink" "TURNED_ROUND" "[I") (.int 6)) (.int (6))) (by decide +kernel))
    · exact va_eqt (z := (14)) (hg (Cond.eq (.elem (.static "CarrierLink" "TURNED_ROUND" "[I") (.int 7)) (.int (14))) (by decide +kernel))
    · exact va_eqt (z := (1)) (hg (Cond.eq (.elem (.static "CarrierLink" "TURNED_ROUND" "[I") (.int 8)) (.int (1))) (by decide +kernel))
    · exact va_eqt (z := (9)) (hg (Cond.eq (.elem (.static "CarrierLink" "TURNED_ROUND" "[I") (.int 9)) (.int (9))) (by decide +kernel))
    · exact va_eqt (z := (5)) (hg (Cond.eq (.elem (.static "CarrierLink" "TURNED_ROUND" "[I") (.int 10)) (.int (5))) (by decide +kernel))
    · exact va_eqt (z := (13)) (hg (Cond.eq (.elem (.static "CarrierLink" "TURNED_ROUND" "[I") (.int 11)) (.int (13))) (by decide +kernel))
    · exact va_eqt (z := (3)) (hg (Cond.eq (.elem (.static "CarrierLink" "TURNED_ROUND" "[I") (.int 12)) (.int (3))) (by decide +kernel))
    · exact va_eqt (z := (11)) (hg (Cond.eq (.elem (.static "CarrierLink" "TURNED_ROUND" "[I") (.int 13)) (.int (11))) (by decide +kernel))
    · exact va_eqt (z := (7)) (hg (Cond.eq (.elem (.static "CarrierLink" "TURNED_ROUND" "[I") (.int 14)) (.int (7))) (by decide +kernel))
    · exact va_eqt (z := (15)) (hg (Cond.eq (.elem (.static "CarrierLink" "TURNED_ROUND" "[I") (.int 15)) (.int (15))) (by decide +kernel))
  obtain ⟨t, e, T⟩ := va_Tof (tm := (.static "CarrierLink" "TURNED_ROUND" "[I")) (ty := .int) (N := 16) (f := fun j => .int (((fun j => nI (rndN j))) j)) (A := A) (by decide) (hg _ (by decide +kernel)) (va_eqt (z := Int32.ofNat 16) (hg (Cond.eq (.length (.static "CarrierLink" "TURNED_ROUND" "[I")) (.int 16)) (by decide +kernel))) hel hA
  exact ⟨t, va_Zof hl hi e hA, T⟩
set_option maxHeartbeats 4000000 in
set_option maxRecDepth 100000 in
theorem st_T5 {args : Array Value} {s : State} {A : Nat → Prop} (hg : ∀ c ∈ flatC (Jvm.Cond.and given_1 narrow_1), c.before args s = true) (hl : (Cond.laysStatic "CarrierLink" "COSINE" "[I").before args s = true) (hi : (Cond.initialized "CarrierLink").before args s = true) (hA : ∀ a : Nat, a < s.heap.size → ¬ A a) : ∃ t : Nat, va_Z "CarrierLink" "COSINE" "[I" (.ref t) A s s.heap ∧ va_T .int t 16 (fun j => .int (cosT j)) A s s.heap := by
  have hel : ∀ j : Nat, j < 16 → (Term.elem (.static "CarrierLink" "COSINE" "[I") (.int (Int32.ofNat j))).eval args s none [] s = some (.int (cosT j)) := by
    intro j hj
    rcases (show j = 0 ∨ j = 1 ∨ j = 2 ∨ j = 3 ∨ j = 4 ∨ j = 5 ∨ j = 6 ∨ j = 7 ∨ j = 8 ∨ j = 9 ∨ j = 10 ∨ j = 11 ∨ j = 12 ∨ j = 13 ∨ j = 14 ∨ j = 15 by omega) with rfl | rfl | rfl | rfl | rfl | rfl | rfl | rfl | rfl | rfl | rfl | rfl | rfl | rfl | rfl | rfl
    · exact va_eqt (z := (16384)) (hg (Cond.eq (.elem (.static "CarrierLink" "COSINE" "[I") (.int 0)) (.int (16384))) (by decide +kernel))
    · exact va_eqt (z := (15137)) (hg (Cond.eq (.elem (.static "CarrierLink" "COSINE" "[I") (.int 1)) (.int (15137))) (by decide +kernel))
    · exact va_eqt (z := (11585)) (hg (Cond.eq (.elem (.static "CarrierLink" "COSINE" "[I") (.int 2)) (.int (11585))) (by decide +kernel))
    · exact va_eqt (z := (6270)) (hg (Cond.eq (.elem (.static "CarrierLink" "COSINE" "[I") (.int 3)) (.int (6270))) (by decide +kernel))
    · exact va_eqt (z := (0)) (hg (Cond.eq (.elem (.static "CarrierLink" "COSINE" "[I") (.int 4)) (.int (0))) (by decide +kernel))
    · exact va_eqt (z := (-6270)) (hg (Cond.eq (.elem (.static "CarrierLink" "COSINE" "[I") (.int 5)) (.int (-6270))) (by decide +kernel))
    · exact va_eqt (z := (-11585)) (hg (Cond.eq (.elem (.static "CarrierLink" "COSINE" "[I") (.int 6)) (.int (-11585))) (by decide +kernel))
    · exact va_eqt (z := (-15137)) (hg (Cond.eq (.elem (.static "CarrierLink" "COSINE" "[I") (.int 7)) (.int (-15137))) (by decide +kernel))
    · exact va_eqt (z := (-16384)) (hg (Cond.eq (.elem (.static "CarrierLink" "COSINE" "[I") (.int 8)) (.int (-16384))) (by decide +kernel))
    · exact va_eqt (z := (-15137)) (hg (Cond.eq (.elem (.static "CarrierLink" "COSINE" "[I") (.int 9)) (.int (-15137))) (by decide +kernel))
    · exact va_eqt (z := (-11585)) (hg (Cond.eq (.elem (.static "CarrierLink" "COSINE" "[I") (.int 10)) (.int (-11585))) (by decide +kernel))
    · exact va_eqt (z := (-6270)) (hg (Cond.eq (.elem (.static "CarrierLink" "COSINE" "[I") (.int 11)) (.int (-6270))) (by decide +kernel))
    · exact va_eqt (z := (0)) (hg (Cond.eq (.elem (.static "CarrierLink" "COSINE" "[I") (.int 12)) (.int (0))) (by decide +kernel))
    · exact va_eqt (z := (6270)) (hg (Cond.eq (.elem (.static "CarrierLink" "COSINE" "[I") (.int 13)) (.int (6270))) (by decide +kernel))
    · exact va_eqt (z := (11585)) (hg (Cond.eq (.elem (.static "CarrierLink" "COSINE" "[I") (.int 14)) (.int (11585))) (by decide +kernel))
    · exact va_eqt (z := (15137)) (hg (Cond.eq (.elem (.static "CarrierLink" "COSINE" "[I") (.int 15)) (.int (15137))) (by decide +kernel))
  obtain ⟨t, e, T⟩ := va_Tof (tm := (.static "CarrierLink" "COSINE" "[I")) (ty := .int) (N := 16) (f := fun j => .int (cosT j)) (A := A) (by decide) (hg _ (by decide +kernel)) (va_eqt (z := Int32.ofNat 16) (hg (Cond.eq (.length (.static "CarrierLink" "COSINE" "[I")) (.int 16)) (by decide +kernel))) hel hA
  exact ⟨t, va_Zof hl hi e hA, T⟩
set_option maxHeartbeats 4000000 in
set_option maxRecDepth 100000 in
theorem st_T6 {args : Array Value} {s : State} {A : Nat → Prop} (hg : ∀ c ∈ flatC (Jvm.Cond.and given_1 narrow_1), c.before args s = true) (hl : (Cond.laysStatic "CarrierLink" "FOUR_LEVELS" "[I").before args s = true) (hi : (Cond.initialized "CarrierLink").before args s = true) (hA : ∀ a : Nat, a < s.heap.size → ¬ A a) : ∃ t : Nat, va_Z "CarrierLink" "FOUR_LEVELS" "[I" (.ref t) A s s.heap ∧ va_T .int t 4 (fun j => .int (levT j)) A s s.heap := by
  have hel : ∀ j : Nat, j < 4 → (Term.elem (.static "CarrierLink" "FOUR_LEVELS" "[I") (.int (Int32.ofNat j))).eval args s none [] s = some (.int (levT j)) := by
    intro j hj
    rcases (show j = 0 ∨ j = 1 ∨ j = 2 ∨ j = 3 by omega) with rfl | rfl | rfl | rfl
    · exact va_eqt (z := (-972)) (hg (Cond.eq (.elem (.static "CarrierLink" "FOUR_LEVELS" "[I") (.int 0)) (.int (-972))) (by decide +kernel))
    · exact va_eqt (z := (-324)) (hg (Cond.eq (.elem (.static "CarrierLink" "FOUR_LEVELS" "[I") (.int 1)) (.int (-324))) (by decide +kernel))
    · exact va_eqt (z := (972)) (hg (Cond.eq (.elem (.static "CarrierLink" "FOUR_LEVELS" "[I") (.int 2)) (.int (972))) (by decide +kernel))
    · exact va_eqt (z := (324)) (hg (Cond.eq (.elem (.static "CarrierLink" "FOUR_LEVELS" "[I") (.int 3)) (.int (324))) (by decide +kernel))
  obtain ⟨t, e, T⟩ := va_Tof (tm := (.static "CarrierLink" "FOUR_LEVELS" "[I")) (ty := .int) (N := 4) (f := fun j => .int (levT j)) (A := A) (by decide) (hg _ (by decide +kernel)) (va_eqt (z := Int32.ofNat 4) (hg (Cond.eq (.length (.static "CarrierLink" "FOUR_LEVELS" "[I")) (.int 4)) (by decide +kernel))) hel hA
  exact ⟨t, va_Zof hl hi e hA, T⟩
theorem st_ST {args : Array Value} {s : State} {A : Nat → Prop} (hg : ∀ c ∈ flatC (Jvm.Cond.and given_1 narrow_1), c.before args s = true) (ht : ∀ w ∈ lw_tbl, w.before args s = true) (hA : ∀ a : Nat, a < s.heap.size → ¬ A a) : ∃ tb : Nat → Nat, ST tb A s s.heap := by
  have hi : (Cond.initialized "CarrierLink").before args s = true := ht _ (List.mem_filter.mp wd_1).1
  obtain ⟨t0, z0, q0⟩ := st_T0 hg (ht (Cond.laysStatic "CarrierLink" "BITS_ON_CARRIER" "[I") (by decide +kernel)) hi hA
  obtain ⟨t1, z1, q1⟩ := st_T1 hg (ht (Cond.laysStatic "CarrierLink" "DATA_BITS_IN_SYMBOL" "[I") (by decide +kernel)) hi hA
  obtain ⟨t2, z2, q2⟩ := st_T2 hg (ht (Cond.laysStatic "CarrierLink" "CARRIER_OF_DATA" "[I") (by decide +kernel)) hi hA
  obtain ⟨t3, z3, q3⟩ := st_T3 hg (ht (Cond.laysStatic "CarrierLink" "TRAINING_SIGN" "[I") (by decide +kernel)) hi hA
  obtain ⟨t4, z4, q4⟩ := st_T4 hg (ht (Cond.laysStatic "CarrierLink" "TURNED_ROUND" "[I") (by decide +kernel)) hi hA
  obtain ⟨t5, z5, q5⟩ := st_T5 hg (ht (Cond.laysStatic "CarrierLink" "COSINE" "[I") (by decide +kernel)) hi hA
  obtain ⟨t6, z6, q6⟩ := st_T6 hg (ht (Cond.laysStatic "CarrierLink" "FOUR_LEVELS" "[I") (by decide +kernel)) hi hA
  refine ⟨fun k => match k with | 0 => t0 | 1 => t1 | 2 => t2 | 3 => t3 | 4 => t4 | 5 => t5 | _ => t6, ?_⟩
  intro k q hq
  match k, hq with
  | 0, hq => cases hq; exact ⟨z0, q0⟩
  | 1, hq => cases hq; exact ⟨z1, q1⟩
  | 2, hq => cases hq; exact ⟨z2, q2⟩
  | 3, hq => cases hq; exact ⟨z3, q3⟩
  | 4, hq => cases hq; exact ⟨z4, q4⟩
  | 5, hq => cases hq; exact ⟨z5, q5⟩
  | 6, hq => cases hq; exact ⟨z6, q6⟩
  | n + 7, hq => cases hq
theorem st_NW {args : Array Value} {s : State} (ht : ∀ w ∈ lw_tbl, w.before args s = true) : NW s := fun w hw => by
  have h1 := lw_nest w hw
  have h2 := ht w (List.mem_filter.mp hw).1
  cases w <;> first | exact va_Nw.of rfl h2 | (simp [isNest] at h1)
theorem st_KW {args : Array Value} {s : State} (ht : ∀ w ∈ lw_tbl, w.before args s = true) (hg : ∀ c ∈ flatC (Jvm.Cond.and given_1 narrow_1), c.before args s = true) : KW s := by
  refine ⟨fun w hw => kr_ride (a := args) (State.WarmedH.refl s) (fun _ _ h _ => h) w (List.mem_filter.mp hw).2 ?_, fun c1 c2 h1 h2 => ?_⟩
  · rcases List.mem_append.mp (List.mem_filter.mp hw).1 with h | h
    · exact ht w h
    · exact hg w h
  · have hno := hg (Cond.not (Cond.castable "java/lang/IllegalStateException" "java/lang/IllegalArgumentException")) (by decide +kernel)
    have hv := Cond.holds_not_iff.mp hno
    simp only [Cond.value, h1, h2] at hv
    exact Option.some.inj hv
theorem st_SW {args : Array Value} {s : State} (ht : ∀ w ∈ lw_tbl, w.before args s = true) : SW s := fun own k tx hm => by
  have h := ht _ hm
  have hcur : ∃ cur, s.vm.findClass own = some cur := by
    have h1 := h
    simp only [Cond.before, Cond.holds, Cond.value] at h1
    cases hc : s.vm.findClass own with
    | none => simp [hc] at h1
    | some cur => exact ⟨cur, rfl⟩
  obtain ⟨cur, hcur⟩ := hcur
  obtain ⟨k1, cf, i, a, -, -, -, -, -, hev⟩ := Cond.stringRef_spec hcur h
  exact ⟨a, vk_R.of h hev⟩
theorem st_htr {l : Launch} (h : l.flags = flags0) : l.stackTraces = false := by
  unfold Launch.stackTraces
  rw [h]
  decide +kernel
