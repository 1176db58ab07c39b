theorem mdi {bx : Int → Int} {i : Int} (hi : 0 ≤ i) (h : ∀ j, 0 ≤ j → j < 29 → bx j = (if (9 ≤ j ∧ j < 9 + i) ∨ (18 ≤ j ∧ j < 18 + i) then -6 else 0)) {j : Int} (h1 : 0 ≤ j) (h2 : j < 29) : zU (zU bx (9 + i) (-6)) (18 + i) (-6) j = (if (9 ≤ j ∧ j < 9 + (i + 1)) ∨ (18 ≤ j ∧ j < 18 + (i + 1)) then -6 else 0) := by
  unfold zU
  by_cases h3 : j = 18 + i
  · rw [if_pos h3]
    split
    · rfl
    · omega
  · rw [if_neg h3]
    by_cases h4 : j = 9 + i
    · rw [if_pos h4]
      split
      · rfl
      · omega
    · rw [if_neg h4, h j h1 h2]
      split <;> split <;> omega

set_option maxRecDepth 20000 in
theorem hin_X1_init_X1 : ∀ w ∈ u_ws RX1 TX1 3, w ∈ wsX1_init := by decide +kernel
set_option maxRecDepth 20000 in
theorem fl_X1_init_9 : Cond.fieldLink RX1 9 "HornCity$Chalks" "inYears" "[I" ∈ wsX1_init := by decide +kernel
set_option maxRecDepth 20000 in
theorem fl_X1_init_15 : Cond.fieldLink RX1 15 "HornCity$Chalks" "marks" "[I" ∈ wsX1_init := by decide +kernel
set_option maxHeartbeats 8000000 in
set_option maxRecDepth 100000 in
theorem c_X1_init (l : Launch) (D : va_G) (cI cJ cZ : ClassId) (h0 : Nat) : zMn l yX1_init wsX1_init (zRn 1 2 16) D cI cJ cZ h0 [(h0, .inr (1, [.null, .null, .int (zI 0)]))] (fun u => [(h0, .inr (1, [.ref (u 0), .ref (u 1), .int (zI 0)])), ((u 0), .inl (cI, 8, .inl (zA (fun _ => 0)))), ((u 1), .inl (cI, 8, .inl (zA (fun _ => 0))))]) 2 16 := by
  refine zMn_v (cc := cX1_init) (maxL := 1) (by decide +kernel) rfl (by decide) rfl rfl ?_
  intro p e s m args below meth c Q H0 ls A F hK hz hA hin hl hret
  obtain ⟨hx, hb, hml, hown0, hts⟩ := id F
  have hown : s.vm.findClass RX1 = some m.cls := hown0
  have hz : zH D A H0 [(h0, .inr (1, [.null, .null, .int (zI 0)]))] H0 [] := hz
  have hl : lv_has ls 1 [(0, .ref h0)] := hl
  refine lv_aload_n hx hb dX1_init_0 rfl (lv_at hl 0 rfl) ?_
  refine W.objInit hx hb hown (hts (.methodLink RX1 3 objectInit) (by decide +kernel)) (hts (.instanceMethod objectInit) (by decide +kernel)) (hts (.code objectInit ⟨#[0xb1]⟩ 1 none) (by decide +kernel)) rfl (by rw [hml]; exact hl.1) rfl dX1_init_1 (Nat.le_of_ble_eq_true rfl) (Nat.le_of_ble_eq_true rfl) ?_
  refine W.eq (g2 := F0 m 4 ls []) rfl ?_
  refine lv_aload_n hx hb dX1_init_4 rfl (lv_at hl 0 rfl) ?_
  refine z_bipush hx hb dX1_init_5 (by decide) ?_
  refine z_newI hx hb (hts (.arrayClass .int) (by decide +kernel)) hK hz hA 8 rfl (by decide) (Nat.le_of_ble_eq_true rfl) (Nat.le_of_ble_eq_true rfl) dX1_init_7 (fun q7 H hz => ?_)
  have hz : zH D A H0 [(h0, .inr (1, [.null, .null, .int (zI 0)])), (q7, .inl (cI, 8, .inl (zA (fun _ => 0))))] H [] := hz
  refine z_putF (C := RX1) (T := TX1) (N := 3) (ref := "HornCity$Chalks") (ty := .array .int) (v := .ref q7) hx hb hts hin_X1_init_X1 hown hK hz tyX1 tyX1_ok nmX1 0 rfl rfl 0 (by decide) (hts _ fl_X1_init_9) rfl rfl hin rfl (by decide +kernel) rfl rfl (Nat.le_of_ble_eq_true rfl) dX1_init_9 (fun H locs hz => ?_)
  have hz : zH D A H0 [(h0, .inr (1, [.ref q7, .null, .int (zI 0)])), (q7, .inl (cI, 8, .inl (zA (fun _ => 0))))] H locs := hz
  refine lv_aload_n hx hb dX1_init_12 rfl (lv_at hl 0 rfl) ?_
  refine z_bipush hx hb dX1_init_13 (by decide) ?_
  refine z_newI hx hb (hts (.arrayClass .int) (by decide +kernel)) hK hz hA 8 rfl (by decide) (Nat.le_of_ble_eq_true rfl) (Nat.le_of_ble_eq_true rfl) dX1_init_15 (fun q15 H hz => ?_)
  have hz : zH D A H0 [(h0, .inr (1, [.ref q7, .null, .int (zI 0)])), (q7, .inl (cI, 8, .inl (zA (fun _ => 0)))), (q15, .inl (cI, 8, .inl (zA (fun _ => 0))))] H locs := hz
  refine z_putF (C := RX1) (T := TX1) (N := 3) (ref := "HornCity$Chalks") (ty := .array .int) (v := .ref q15) hx hb hts hin_X1_init_X1 hown hK hz tyX1 tyX1_ok nmX1 0 rfl rfl 1 (by decide) (hts _ fl_X1_init_15) rfl rfl hin rfl (by decide +kernel) rfl rfl (Nat.le_of_ble_eq_true rfl) dX1_init_17 (fun H locs hz => ?_)
  have hz : zH D A H0 [(h0, .inr (1, [.ref q7, .ref q15, .int (zI 0)])), (q7, .inl (cI, 8, .inl (zA (fun _ => 0)))), (q15, .inl (cI, 8, .inl (zA (fun _ => 0))))] H locs := hz
  exact hret (fun i => [q7, q15].getD i 0) dX1_init_20 hz

set_option maxRecDepth 20000 in
theorem hin_X2_init_X2 : ∀ w ∈ u_ws RX2 TX2 8, w ∈ wsX2_init := by decide +kernel
set_option maxRecDepth 20000 in
theorem fl_X2_init_9 : Cond.fieldLink RX2 9 "HornCity$City" "inclines" "[I" ∈ wsX2_init := by decide +kernel
set_option maxRecDepth 20000 in
theorem fl_X2_init_15 : Cond.fieldLink RX2 15 "HornCity$City" "drifting" "[I" ∈ wsX2_init := by decide +kernel
set_option maxRecDepth 20000 in
theorem fl_X2_init_18 : Cond.fieldLink RX2 18 "HornCity$City" "mates" "[I" ∈ wsX2_init := by decide +kernel
set_option maxRecDepth 20000 in
theorem fl_X2_init_21 : Cond.fieldLink RX2 21 "HornCity$City" "ahead" "[I" ∈ wsX2_init := by decide +kernel
set_option maxRecDepth 20000 in
theorem hin_X2_init_X1 : ∀ w ∈ u_ws RX1 TX1 3, w ∈ wsX2_init := by decide +kernel
set_option maxRecDepth 20000 in
theorem fl_X2_init_27 : Cond.fieldLink RX2 27 "HornCity$City" "chalks" "LHornCity$Chalks;" ∈ wsX2_init := by decide +kernel
set_option maxHeartbeats 8000000 in
set_option maxRecDepth 100000 in
theorem c_X2_init (l : Launch) (D : va_G) (cI cJ cZ : ClassId) (h0 : Nat) : zMn l yX2_init wsX2_init (zRn 2 7 55) D cI cJ cZ h0 [(h0, .inr (2, [.null, .null, .null, .null, .null, .int (zI 0), .int (zI 0), .int (zI 0)]))] (fun u => [(h0, .inr (2, [.ref (u 0), .ref (u 1), .ref (u 2), .ref (u 3), .ref (u 4), .int (zI 0), .int (zI 0), .int (zI 0)])), ((u 0), .inl (cI, 9, .inl (zA (fun _ => 0)))), ((u 1), .inl (cI, 9, .inl (zA (fun _ => 0)))), ((u 2), .inl (cI, 9, .inl (zA (fun _ => -6)))), ((u 3), .inl (cI, 9, .inl (zA (fun _ => 0)))), ((u 4), .inr (1, [.ref (u 5), .ref (u 6), .int (zI 0)])), ((u 5), .inl (cI, 8, .inl (zA (fun _ => 0)))), ((u 6), .inl (cI, 8, .inl (zA (fun _ => 0))))]) 7 55 := by
  refine zMn_v (cc := cX2_init) (maxL := 2) (by decide +kernel) rfl (by decide) rfl rfl ?_
  intro p e s m args below meth c Q H0 ls A F hK hz hA hin hl hret
  obtain ⟨hx, hb, hml, hown0, hts⟩ := id F
  have hown : s.vm.findClass RX2 = some m.cls := hown0
  have hz : zH D A H0 [(h0, .inr (2, [.null, .null, .null, .null, .null, .int (zI 0), .int (zI 0), .int (zI 0)]))] H0 [] := hz
  have hl : lv_has ls 2 [(0, .ref h0)] := hl
  refine lv_aload_n hx hb dX2_init_0 rfl (lv_at hl 0 rfl) ?_
  refine W.objInit hx hb hown (hts (.methodLink RX2 3 objectInit) (by decide +kernel)) (hts (.instanceMethod objectInit) (by decide +kernel)) (hts (.code objectInit ⟨#[0xb1]⟩ 1 none) (by decide +kernel)) rfl (by rw [hml]; exact hl.1) rfl dX2_init_1 (Nat.le_of_ble_eq_true rfl) (Nat.le_of_ble_eq_true rfl) ?_
  refine W.eq (g2 := F0 m 4 ls []) rfl ?_
  refine lv_aload_n hx hb dX2_init_4 rfl (lv_at hl 0 rfl) ?_
  refine z_bipush hx hb dX2_init_5 (by decide) ?_
  refine z_newI hx hb (hts (.arrayClass .int) (by decide +kernel)) hK hz hA 9 rfl (by decide) (Nat.le_of_ble_eq_true rfl) (Nat.le_of_ble_eq_true rfl) dX2_init_7 (fun q7 H hz => ?_)
  have hz : zH D A H0 [(h0, .inr (2, [.null, .null, .null, .null, .null, .int (zI 0), .int (zI 0), .int (zI 0)])), (q7, .inl (cI, 9, .inl (zA (fun _ => 0))))] H [] := hz
  refine z_putF (C := RX2) (T := TX2) (N := 8) (ref := "HornCity$City") (ty := .array .int) (v := .ref q7) hx hb hts hin_X2_init_X2 hown hK hz tyX2 tyX2_ok nmX2 0 rfl rfl 0 (by decide) (hts _ fl_X2_init_9) rfl rfl hin rfl (by decide +kernel) rfl rfl (Nat.le_of_ble_eq_true rfl) dX2_init_9 (fun H locs hz => ?_)
  have hz : zH D A H0 [(h0, .inr (2, [.ref q7, .null, .null, .null, .null, .int (zI 0), .int (zI 0), .int (zI 0)])), (q7, .inl (cI, 9, .inl (zA (fun _ => 0))))] H locs := hz
  refine lv_aload_n hx hb dX2_init_12 rfl (lv_at hl 0 rfl) ?_
  refine z_bipush hx hb dX2_init_13 (by decide) ?_
  refine z_newI hx hb (hts (.arrayClass .int) (by decide +kernel)) hK hz hA 9 rfl (by decide) (Nat.le_of_ble_eq_true rfl) (Nat.le_of_ble_eq_true rfl) dX2_init_15 (fun q15 H hz => ?_)
  have hz : zH D A H0 [(h0, .inr (2, [.ref q7, .null, .null, .null, .null, .int (zI 0), .int (zI 0), .int (zI 0)])), (q7, .inl (cI, 9, .inl (zA (fun _ => 0)))), (q15, .inl (cI, 9, .inl (zA (fun _ => 0))))] H locs := hz
  refine z_putF (C := RX2) (T := TX2) (N := 8) (ref := "HornCity$City") (ty := .array .int) (v := .ref q15) hx hb hts hin_X2_init_X2 hown hK hz tyX2 tyX2_ok nmX2 0 rfl rfl 1 (by decide) (hts _ fl_X2_init_15) rfl rfl hin rfl (by decide +kernel) rfl rfl (Nat.le_of_ble_eq_true rfl) dX2_init_17 (fun H locs hz => ?_)
  have hz : zH D A H0 [(h0, .inr (2, [.ref q7, .ref q15, .null, .null, .null, .int (zI 0), .int (zI 0), .int (zI 0)])), (q7, .inl (cI, 9, .inl (zA (fun _ => 0)))), (q15, .inl (cI, 9, .inl (zA (fun _ => 0))))] H locs := hz
  refine lv_aload_n hx hb dX2_init_20 rfl (lv_at hl 0 rfl) ?_
  refine z_bipush hx hb dX2_init_21 (by decide) ?_
  refine z_newI hx hb (hts (.arrayClass .int) (by decide +kernel)) hK hz hA 9 rfl (by decide) (Nat.le_of_ble_eq_true rfl) (Nat.le_of_ble_eq_true rfl) dX2_init_23 (fun q23 H hz => ?_)
  have hz : zH D A H0 [(h0, .inr (2, [.ref q7, .ref q15, .null, .null, .null, .int (zI 0), .int (zI 0), .int (zI 0)])), (q7, .inl (cI, 9, .inl (zA (fun _ => 0)))), (q15, .inl (cI, 9, .inl (zA (fun _ => 0)))), (q23, .inl (cI, 9, .inl (zA (fun _ => 0))))] H locs := hz
  refine z_putF (C := RX2) (T := TX2) (N := 8) (ref := "HornCity$City") (ty := .array .int) (v := .ref q23) hx hb hts hin_X2_init_X2 hown hK hz tyX2 tyX2_ok nmX2 0 rfl rfl 2 (by decide) (hts _ fl_X2_init_18) rfl rfl hin rfl (by decide +kernel) rfl rfl (Nat.le_of_ble_eq_true rfl) dX2_init_25 (fun H locs hz => ?_)
  have hz : zH D A H0 [(h0, .inr (2, [.ref q7, .ref q15, .ref q23, .null, .null, .int (zI 0), .int (zI 0), .int (zI 0)])), (q7, .inl (cI, 9, .inl (zA (fun _ => 0)))), (q15, .inl (cI, 9, .inl (zA (fun _ => 0)))), (q23, .inl (cI, 9, .inl (zA (fun _ => 0))))] H locs := hz
  refine lv_aload_n hx hb dX2_init_28 rfl (lv_at hl 0 rfl) ?_
  refine z_bipush hx hb dX2_init_29 (by decide) ?_
  refine z_newI hx hb (hts (.arrayClass .int) (by decide +kernel)) hK hz hA 9 rfl (by decide) (Nat.le_of_ble_eq_true rfl) (Nat.le_of_ble_eq_true rfl) dX2_init_31 (fun q31 H hz => ?_)
  have hz : zH D A H0 [(h0, .inr (2, [.ref q7, .ref q15, .ref q23, .null, .null, .int (zI 0), .int (zI 0), .int (zI 0)])), (q7, .inl (cI, 9, .inl (zA (fun _ => 0)))), (q15, .inl (cI, 9, .inl (zA (fun _ => 0)))), (q23, .inl (cI, 9, .inl (zA (fun _ => 0)))), (q31, .inl (cI, 9, .inl (zA (fun _ => 0))))] H locs := hz
  refine z_putF (C := RX2) (T := TX2) (N := 8) (ref := "HornCity$City") (ty := .array .int) (v := .ref q31) hx hb hts hin_X2_init_X2 hown hK hz tyX2 tyX2_ok nmX2 0 rfl rfl 3 (by decide) (hts _ fl_X2_init_21) rfl rfl hin rfl (by decide +kernel) rfl rfl (Nat.le_of_ble_eq_true rfl) dX2_init_33 (fun H locs hz => ?_)
  have hz : zH D A H0 [(h0, .inr (2, [.ref q7, .ref q15, .ref q23, .ref q31, .null, .int (zI 0), .int (zI 0), .int (zI 0)])), (q7, .inl (cI, 9, .inl (zA (fun _ => 0)))), (q15, .inl (cI, 9, .inl (zA (fun _ => 0)))), (q23, .inl (cI, 9, .inl (zA (fun _ => 0)))), (q31, .inl (cI, 9, .inl (zA (fun _ => 0))))] H locs := hz
  refine lv_aload_n hx hb dX2_init_36 rfl (lv_at hl 0 rfl) ?_
  refine z_new (ci := 1) (C := RX1) (T := TX1) (N := 3) hx hb hts hin_X2_init_X1 tyX1 tyX1_ok hown (hts (.classLink RX2 24 RX1) (by decide +kernel)) (hts (.instantiable RX1 3) (by decide +kernel)) (hts (.initialized RX1) (by decide +kernel)) hK hz hA rfl [.null, .null, .int (zI 0)] (fun j hj => by rcases (show j = 0 ∨ j = 1 ∨ j = 2 by omega) with rfl | rfl | rfl <;> first | rfl | exact congrArg Value.int zI_0 | exact congrArg Value.long zL_0) (Nat.le_of_ble_eq_true rfl) (Nat.le_of_ble_eq_true rfl) dX2_init_37 (fun q37 H hz => ?_)
  have hz : zH D A H0 [(h0, .inr (2, [.ref q7, .ref q15, .ref q23, .ref q31, .null, .int (zI 0), .int (zI 0), .int (zI 0)])), (q7, .inl (cI, 9, .inl (zA (fun _ => 0)))), (q15, .inl (cI, 9, .inl (zA (fun _ => 0)))), (q23, .inl (cI, 9, .inl (zA (fun _ => 0)))), (q31, .inl (cI, 9, .inl (zA (fun _ => 0)))), (q37, .inr (1, [.null, .null, .int (zI 0)]))] H locs := hz
  refine lv_dup hx hb dX2_init_40 rfl ?_
  refine z_callI (rest := [.ref q37, .ref h0]) (wr := [(h0, .inr (2, [.ref q7, .ref q15, .ref q23, .ref q31, .null, .int (zI 0), .int (zI 0), .int (zI 0)])), (q7, .inl (cI, 9, .inl (zA (fun _ => 0)))), (q15, .inl (cI, 9, .inl (zA (fun _ => 0)))), (q23, .inl (cI, 9, .inl (zA (fun _ => 0)))), (q31, .inl (cI, 9, .inl (zA (fun _ => 0))))]) F hK hz hA hl (c_X1_init l D cI cJ cZ q37) (cwI 0 hts gX2_init_X1_init rfl rfl rfl (hts (.initialized RX1) (by decide +kernel)) (hts (.methodLink RX2 26 yX1_init) (by decide +kernel)) (hts (.instanceMethod yX1_init) (by decide +kernel)) rfl (by decide +kernel) ⟨Nat.le_of_ble_eq_true rfl, Nat.le_of_ble_eq_true rfl⟩) [5] [0, 1, 2, 3, 4] rfl rfl rfl rfl (by decide) rfl (Nat.le_of_ble_eq_true rfl) ⟨Nat.le_of_ble_eq_true rfl, Nat.le_of_ble_eq_true rfl⟩ dX2_init_41 (fun u41 H locs hz => ?_)
  have hz : zH D A H0 [(h0, .inr (2, [.ref q7, .ref q15, .ref q23, .ref q31, .null, .int (zI 0), .int (zI 0), .int (zI 0)])), (q7, .inl (cI, 9, .inl (zA (fun _ => 0)))), (q15, .inl (cI, 9, .inl (zA (fun _ => 0)))), (q23, .inl (cI, 9, .inl (zA (fun _ => 0)))), (q31, .inl (cI, 9, .inl (zA (fun _ => 0)))), (q37, .inr (1, [.ref (u41 0), .ref (u41 1), .int (zI 0)])), ((u41 0), .inl (cI, 8, .inl (zA (fun _ => 0)))), ((u41 1), .inl (cI, 8, .inl (zA (fun _ => 0))))] H locs := hz
  refine z_putF (C := RX2) (T := TX2) (N := 8) (ref := "HornCity$City") (ty := .object "HornCity$Chalks") (v := .ref q37) hx hb hts hin_X2_init_X2 hown hK hz tyX2 tyX2_ok nmX2 0 rfl rfl 4 (by decide) (hts _ fl_X2_init_27) rfl rfl hin rfl (by decide +kernel) rfl rfl (Nat.le_of_ble_eq_true rfl) dX2_init_44 (fun H locs hz => ?_)
  have hz : zH D A H0 [(h0, .inr (2, [.ref q7, .ref q15, .ref q23, .ref q31, .ref q37, .int (zI 0), .int (zI 0), .int (zI 0)])), (q7, .inl (cI, 9, .inl (zA (fun _ => 0)))), (q15, .inl (cI, 9, .inl (zA (fun _ => 0)))), (q23, .inl (cI, 9, .inl (zA (fun _ => 0)))), (q31, .inl (cI, 9, .inl (zA (fun _ => 0)))), (q37, .inr (1, [.ref (u41 0), .ref (u41 1), .int (zI 0)])), ((u41 0), .inl (cI, 8, .inl (zA (fun _ => 0)))), ((u41 1), .inl (cI, 8, .inl (zA (fun _ => 0))))] H locs := hz
  refine z_iconst hx hb dX2_init_47 ?_
  refine lv_istore_n (lv' := [(1, .int (zI 0)), (0, .ref h0)]) hx hb dX2_init_48 rfl hl (Nat.le_of_ble_eq_true rfl) rfl (fun ls hl => ?_)
  have L49 : ∀ (n : Nat) (i : Int) (mx : Int → Int) (H : Heap) (locs : List Loc) (ls : Array Slot), ((9 - i).toNat = n) → (0 ≤ i ∧ i ≤ 9) → (∀ j, 0 ≤ j → j < i → mx j = (fun _ => -6 : Int → Int) j) → zH D A H0 [(h0, .inr (2, [.ref q7, .ref q15, .ref q23, .ref q31, .ref q37, .int (zI 0), .int (zI 0), .int (zI 0)])), (q7, .inl (cI, 9, .inl (zA (fun _ => 0)))), (q15, .inl (cI, 9, .inl (zA (fun _ => 0)))), (q23, .inl (cI, 9, .inl (zA mx))), (q31, .inl (cI, 9, .inl (zA (fun _ => 0)))), (q37, .inr (1, [.ref (u41 0), .ref (u41 1), .int (zI 0)])), ((u41 0), .inl (cI, 8, .inl (zA (fun _ => 0)))), ((u41 1), .inl (cI, 8, .inl (zA (fun _ => 0))))] H locs → lv_has ls 2 [(1, .int (zI i)), (0, .ref h0)] → W p l e (zRn 2 7 55) s m args below meth c H locs 7 55 Q (F0 m 49 ls []) := by
    intro n
    refine Nat.strongRecOn n ?_
    intro n ih49 i mx H locs ls hn49 hi0 hmx hz hl
    refine lv_iload_n hx hb dX2_init_49 rfl (lv_at hl 0 rfl) ?_
    refine z_bipush hx hb dX2_init_50 (by decide) ?_
    refine z_icmp_ge (tgt := 69) hx hb dX2_init_52 (by decide) (by omega) (by decide) (fun h52 => ?_) (fun h52 => ?_)
    ·
      have hz := zH_ext hz 3 (fun _ => -6) rfl (fun j h1 h2 => hmx j h1 (by omega))
      have hz : zH D A H0 [(h0, .inr (2, [.ref q7, .ref q15, .ref q23, .ref q31, .ref q37, .int (zI 0), .int (zI 0), .int (zI 0)])), (q7, .inl (cI, 9, .inl (zA (fun _ => 0)))), (q15, .inl (cI, 9, .inl (zA (fun _ => 0)))), (q23, .inl (cI, 9, .inl (zA (fun _ => -6)))), (q31, .inl (cI, 9, .inl (zA (fun _ => 0)))), (q37, .inr (1, [.ref (u41 0), .ref (u41 1), .int (zI 0)])), ((u41 0), .inl (cI, 8, .inl (zA (fun _ => 0)))), ((u41 1), .inl (cI, 8, .inl (zA (fun _ => 0))))] H locs := hz
      exact hret (fun i => [q7, q15, q23, q31, q37, (u41 0), (u41 1)].getD i 0) dX2_init_69 hz
    ·
      refine lv_aload_n hx hb dX2_init_55 rfl (lv_at hl 1 rfl) ?_
      refine z_get (C := RX2) (T := TX2) (N := 8) (ref := "HornCity$City") hx hb hts hin_X2_init_X2 hown hK hz 0 rfl rfl 2 (by decide) (hts _ fl_X2_init_18) rfl rfl dX2_init_56 ?_
      refine lv_iload_n hx hb dX2_init_59 rfl (lv_at hl 0 rfl) ?_
      refine z_bipush hx hb dX2_init_60 (by decide) ?_
      refine z_iast hx hb hK hz 3 rfl (by omega) (by decide) dX2_init_62 (fun H locs hz => ?_)
      have hz : zH D A H0 [(h0, .inr (2, [.ref q7, .ref q15, .ref q23, .ref q31, .ref q37, .int (zI 0), .int (zI 0), .int (zI 0)])), (q7, .inl (cI, 9, .inl (zA (fun _ => 0)))), (q15, .inl (cI, 9, .inl (zA (fun _ => 0)))), (q23, .inl (cI, 9, .inl (zA (zU mx i (-6))))), (q31, .inl (cI, 9, .inl (zA (fun _ => 0)))), (q37, .inr (1, [.ref (u41 0), .ref (u41 1), .int (zI 0)])), ((u41 0), .inl (cI, 8, .inl (zA (fun _ => 0)))), ((u41 1), .inl (cI, 8, .inl (zA (fun _ => 0))))] H locs := hz
      refine z_iinc (lv' := [(1, .int (zI (i + 1))), (0, .ref h0)]) hx hb dX2_init_63 hl (k := 0) rfl (Nat.le_of_ble_eq_true rfl) rfl (fun ls hl => ?_)
      refine lv_goto (tgt := 49) hx hb dX2_init_66 (by decide) ?_
      exact ih49 _ (by omega) (i + 1) (zU mx i (-6)) H locs ls rfl (by omega) (zU_cp hmx) hz (lv_sub hl [0, 1] rfl)
  exact L49 _ 0 (fun _ => 0) H locs ls rfl (by decide) (fun j h1 h2 => absurd h1 (by omega)) hz (lv_sub hl [0, 1] rfl)

set_option maxRecDepth 20000 in
theorem hin_X4_init_X4 : ∀ w ∈ u_ws RX4 TX4 2, w ∈ wsX4_init := by decide +kernel
set_option maxRecDepth 20000 in
theorem fl_X4_init_9 : Cond.fieldLink RX4 9 "HornCity$Pad" "signs" "[I" ∈ wsX4_init := by decide +kernel
set_option maxHeartbeats 8000000 in
set_option maxRecDepth 100000 in
theorem c_X4_init (l : Launch) (D : va_G) (cI cJ cZ : ClassId) (h0 : Nat) : zMn l yX4_init wsX4_init (zRn 1 1 60) D cI cJ cZ h0 [(h0, .inr (3, [.null, .int (zI 0)]))] (fun u => [(h0, .inr (3, [.ref (u 0), .int (zI 0)])), ((u 0), .inl (cI, 60, .inl (zA (fun _ => 0))))]) 1 60 := by
  refine zMn_v (cc := cX4_init) (maxL := 1) (by decide +kernel) rfl (by decide) rfl rfl ?_
  intro p e s m args below meth c Q H0 ls A F hK hz hA hin hl hret
  obtain ⟨hx, hb, hml, hown0, hts⟩ := id F
  have hown : s.vm.findClass RX4 = some m.cls := hown0
  have hz : zH D A H0 [(h0, .inr (3, [.null, .int (zI 0)]))] H0 [] := hz
  have hl : lv_has ls 1 [(0, .ref h0)] := hl
  refine lv_aload_n hx hb dX4_init_0 rfl (lv_at hl 0 rfl) ?_
  refine W.objInit hx hb hown (hts (.methodLink RX4 3 objectInit) (by decide +kernel)) (hts (.instanceMethod objectInit) (by decide +kernel)) (hts (.code objectInit ⟨#[0xb1]⟩ 1 none) (by decide +kernel)) rfl (by rw [hml]; exact hl.1) rfl dX4_init_1 (Nat.le_of_ble_eq_true rfl) (Nat.le_of_ble_eq_true rfl) ?_
  refine W.eq (g2 := F0 m 4 ls []) rfl ?_
  refine lv_aload_n hx hb dX4_init_4 rfl (lv_at hl 0 rfl) ?_
  refine z_bipush hx hb dX4_init_5 (by decide) ?_
  refine z_newI hx hb (hts (.arrayClass .int) (by decide +kernel)) hK hz hA 60 rfl (by decide) (Nat.le_of_ble_eq_true rfl) (Nat.le_of_ble_eq_true rfl) dX4_init_7 (fun q7 H hz => ?_)
  have hz : zH D A H0 [(h0, .inr (3, [.null, .int (zI 0)])), (q7, .inl (cI, 60, .inl (zA (fun _ => 0))))] H [] := hz
  refine z_putF (C := RX4) (T := TX4) (N := 2) (ref := "HornCity$Pad") (ty := .array .int) (v := .ref q7) hx hb hts hin_X4_init_X4 hown hK hz tyX4 tyX4_ok nmX4 0 rfl rfl 0 (by decide) (hts _ fl_X4_init_9) rfl rfl hin rfl (by decide +kernel) rfl rfl (Nat.le_of_ble_eq_true rfl) dX4_init_9 (fun H locs hz => ?_)
  have hz : zH D A H0 [(h0, .inr (3, [.ref q7, .int (zI 0)])), (q7, .inl (cI, 60, .inl (zA (fun _ => 0))))] H locs := hz
  exact hret (fun i => [q7].getD i 0) dX4_init_12 hz

set_option maxRecDepth 20000 in
theorem hin_X9_init_X2 : ∀ w ∈ u_ws RX2 TX2 8, w ∈ wsX9_init := by decide +kernel
set_option maxRecDepth 20000 in
theorem hin_X9_init_X9 : ∀ w ∈ u_ws RX9 TX9 6, w ∈ wsX9_init := by decide +kernel
set_option maxRecDepth 20000 in
theorem fl_X9_init_12 : Cond.fieldLink RX9 12 "HornCity$Years" "city" "LHornCity$City;" ∈ wsX9_init := by decide +kernel
set_option maxRecDepth 20000 in
theorem fl_X9_init_18 : Cond.fieldLink RX9 18 "HornCity$Years" "chalked" "[I" ∈ wsX9_init := by decide +kernel
set_option maxHeartbeats 8000000 in
set_option maxRecDepth 100000 in
theorem c_X9_init (l : Launch) (D : va_G) (cI cJ cZ : ClassId) (h0 : Nat) : zMn l yX9_init wsX9_init (zRn 3 9 72) D cI cJ cZ h0 [(h0, .inr (7, [.null, .null, .int (zI 0), .int (zI 0), .int (zI 0), .int (zI 0)]))] (fun u => [(h0, .inr (7, [.ref (u 0), .ref (u 8), .int (zI 0), .int (zI 0), .int (zI 0), .int (zI 0)])), ((u 0), .inr (2, [.ref (u 1), .ref (u 2), .ref (u 3), .ref (u 4), .ref (u 5), .int (zI 0), .int (zI 0), .int (zI 0)])), ((u 1), .inl (cI, 9, .inl (zA (fun _ => 0)))), ((u 2), .inl (cI, 9, .inl (zA (fun _ => 0)))), ((u 3), .inl (cI, 9, .inl (zA (fun _ => -6)))), ((u 4), .inl (cI, 9, .inl (zA (fun _ => 0)))), ((u 5), .inr (1, [.ref (u 6), .ref (u 7), .int (zI 0)])), ((u 6), .inl (cI, 8, .inl (zA (fun _ => 0)))), ((u 7), .inl (cI, 8, .inl (zA (fun _ => 0)))), ((u 8), .inl (cI, 9, .inl (zA (fun _ => 0))))]) 9 72 := by
  refine zMn_v (cc := cX9_init) (maxL := 1) (by decide +kernel) rfl (by decide) rfl rfl ?_
  intro p e s m args below meth c Q H0 ls A F hK hz hA hin hl hret
  obtain ⟨hx, hb, hml, hown0, hts⟩ := id F
  have hown : s.vm.findClass RX9 = some m.cls := hown0
  have hz : zH D A H0 [(h0, .inr (7, [.null, .null, .int (zI 0), .int (zI 0), .int (zI 0), .int (zI 0)]))] H0 [] := hz
  have hl : lv_has ls 1 [(0, .ref h0)] := hl
  refine lv_aload_n hx hb dX9_init_0 rfl (lv_at hl 0 rfl) ?_
  refine W.objInit hx hb hown (hts (.methodLink RX9 3 objectInit) (by decide +kernel)) (hts (.instanceMethod objectInit) (by decide +kernel)) (hts (.code objectInit ⟨#[0xb1]⟩ 1 none) (by decide +kernel)) rfl (by rw [hml]; exact hl.1) rfl dX9_init_1 (Nat.le_of_ble_eq_true rfl) (Nat.le_of_ble_eq_true rfl) ?_
  refine W.eq (g2 := F0 m 4 ls []) rfl ?_
  refine lv_aload_n hx hb dX9_init_4 rfl (lv_at hl 0 rfl) ?_
  refine z_new (ci := 2) (C := RX2) (T := TX2) (N := 8) hx hb hts hin_X9_init_X2 tyX2 tyX2_ok hown (hts (.classLink RX9 9 RX2) (by decide +kernel)) (hts (.instantiable RX2 8) (by decide +kernel)) (hts (.initialized RX2) (by decide +kernel)) hK hz hA rfl [.null, .null, .null, .null, .null, .int (zI 0), .int (zI 0), .int (zI 0)] (fun j hj => by rcases (show j = 0 ∨ j = 1 ∨ j = 2 ∨ j = 3 ∨ j = 4 ∨ j = 5 ∨ j = 6 ∨ j = 7 by omega) with rfl | rfl | rfl | rfl | rfl | rfl | rfl | rfl <;> first | rfl | exact congrArg Value.int zI_0 | exact congrArg Value.long zL_0) (Nat.le_of_ble_eq_true rfl) (Nat.le_of_ble_eq_true rfl) dX9_init_5 (fun q5 H hz => ?_)
  have hz : zH D A H0 [(h0, .inr (7, [.null, .null, .int (zI 0), .int (zI 0), .int (zI 0), .int (zI 0)])), (q5, .inr (2, [.null, .null, .null, .null, .null, .int (zI 0), .int (zI 0), .int (zI 0)]))] H [] := hz
  refine lv_dup hx hb dX9_init_8 rfl ?_
  refine z_callI (rest := [.ref q5, .ref h0]) (wr := [(h0, .inr (7, [.null, .null, .int (zI 0), .int (zI 0), .int (zI 0), .int (zI 0)]))]) F hK hz hA hl (c_X2_init l D cI cJ cZ q5) (cwI 0 hts gX9_init_X2_init rfl rfl rfl (hts (.initialized RX2) (by decide +kernel)) (hts (.methodLink RX9 11 yX2_init) (by decide +kernel)) (hts (.instanceMethod yX2_init) (by decide +kernel)) rfl (by decide +kernel) ⟨Nat.le_of_ble_eq_true rfl, Nat.le_of_ble_eq_true rfl⟩) [1] [0] rfl rfl rfl rfl (by decide) rfl (Nat.le_of_ble_eq_true rfl) ⟨Nat.le_of_ble_eq_true rfl, Nat.le_of_ble_eq_true rfl⟩ dX9_init_9 (fun u9 H locs hz => ?_)
  have hz : zH D A H0 [(h0, .inr (7, [.null, .null, .int (zI 0), .int (zI 0), .int (zI 0), .int (zI 0)])), (q5, .inr (2, [.ref (u9 0), .ref (u9 1), .ref (u9 2), .ref (u9 3), .ref (u9 4), .int (zI 0), .int (zI 0), .int (zI 0)])), ((u9 0), .inl (cI, 9, .inl (zA (fun _ => 0)))), ((u9 1), .inl (cI, 9, .inl (zA (fun _ => 0)))), ((u9 2), .inl (cI, 9, .inl (zA (fun _ => -6)))), ((u9 3), .inl (cI, 9, .inl (zA (fun _ => 0)))), ((u9 4), .inr (1, [.ref (u9 5), .ref (u9 6), .int (zI 0)])), ((u9 5), .inl (cI, 8, .inl (zA (fun _ => 0)))), ((u9 6), .inl (cI, 8, .inl (zA (fun _ => 0))))] H locs := hz
  refine z_putF (C := RX9) (T := TX9) (N := 6) (ref := "HornCity$Years") (ty := .object "HornCity$City") (v := .ref q5) hx hb hts hin_X9_init_X9 hown hK hz tyX9 tyX9_ok nmX9 0 rfl rfl 0 (by decide) (hts _ fl_X9_init_12) rfl rfl hin rfl (by decide +kernel) rfl rfl (Nat.le_of_ble_eq_true rfl) dX9_init_12 (fun H locs hz => ?_)
  have hz : zH D A H0 [(h0, .inr (7, [.ref q5, .null, .int (zI 0), .int (zI 0), .int (zI 0), .int (zI 0)])), (q5, .inr (2, [.ref (u9 0), .ref (u9 1), .ref (u9 2), .ref (u9 3), .ref (u9 4), .int (zI 0), .int (zI 0), .int (zI 0)])), ((u9 0), .inl (cI, 9, .inl (zA (fun _ => 0)))), ((u9 1), .inl (cI, 9, .inl (zA (fun _ => 0)))), ((u9 2), .inl (cI, 9, .inl (zA (fun _ => -6)))), ((u9 3), .inl (cI, 9, .inl (zA (fun _ => 0)))), ((u9 4), .inr (1, [.ref (u9 5), .ref (u9 6), .int (zI 0)])), ((u9 5), .inl (cI, 8, .inl (zA (fun _ => 0)))), ((u9 6), .inl (cI, 8, .inl (zA (fun _ => 0))))] H locs := hz
  refine lv_aload_n hx hb dX9_init_15 rfl (lv_at hl 0 rfl) ?_
  refine z_bipush hx hb dX9_init_16 (by decide) ?_
  refine z_newI hx hb (hts (.arrayClass .int) (by decide +kernel)) hK hz hA 9 rfl (by decide) (Nat.le_of_ble_eq_true rfl) (Nat.le_of_ble_eq_true rfl) dX9_init_18 (fun q18 H hz => ?_)
  have hz : zH D A H0 [(h0, .inr (7, [.ref q5, .null, .int (zI 0), .int (zI 0), .int (zI 0), .int (zI 0)])), (q5, .inr (2, [.ref (u9 0), .ref (u9 1), .ref (u9 2), .ref (u9 3), .ref (u9 4), .int (zI 0), .int (zI 0), .int (zI 0)])), ((u9 0), .inl (cI, 9, .inl (zA (fun _ => 0)))), ((u9 1), .inl (cI, 9, .inl (zA (fun _ => 0)))), ((u9 2), .inl (cI, 9, .inl (zA (fun _ => -6)))), ((u9 3), .inl (cI, 9, .inl (zA (fun _ => 0)))), ((u9 4), .inr (1, [.ref (u9 5), .ref (u9 6), .int (zI 0)])), ((u9 5), .inl (cI, 8, .inl (zA (fun _ => 0)))), ((u9 6), .inl (cI, 8, .inl (zA (fun _ => 0)))), (q18, .inl (cI, 9, .inl (zA (fun _ => 0))))] H locs := hz
  refine z_putF (C := RX9) (T := TX9) (N := 6) (ref := "HornCity$Years") (ty := .array .int) (v := .ref q18) hx hb hts hin_X9_init_X9 hown hK hz tyX9 tyX9_ok nmX9 0 rfl rfl 1 (by decide) (hts _ fl_X9_init_18) rfl rfl hin rfl (by decide +kernel) rfl rfl (Nat.le_of_ble_eq_true rfl) dX9_init_20 (fun H locs hz => ?_)
  have hz : zH D A H0 [(h0, .inr (7, [.ref q5, .ref q18, .int (zI 0), .int (zI 0), .int (zI 0), .int (zI 0)])), (q5, .inr (2, [.ref (u9 0), .ref (u9 1), .ref (u9 2), .ref (u9 3), .ref (u9 4), .int (zI 0), .int (zI 0), .int (zI 0)])), ((u9 0), .inl (cI, 9, .inl (zA (fun _ => 0)))), ((u9 1), .inl (cI, 9, .inl (zA (fun _ => 0)))), ((u9 2), .inl (cI, 9, .inl (zA (fun _ => -6)))), ((u9 3), .inl (cI, 9, .inl (zA (fun _ => 0)))), ((u9 4), .inr (1, [.ref (u9 5), .ref (u9 6), .int (zI 0)])), ((u9 5), .inl (cI, 8, .inl (zA (fun _ => 0)))), ((u9 6), .inl (cI, 8, .inl (zA (fun _ => 0)))), (q18, .inl (cI, 9, .inl (zA (fun _ => 0))))] H locs := hz
  exact hret (fun i => [q5, (u9 0), (u9 1), (u9 2), (u9 3), (u9 4), (u9 5), (u9 6), q18].getD i 0) dX9_init_23 hz

set_option maxRecDepth 20000 in
theorem hin_X7_init_X7 : ∀ w ∈ u_ws RX7 TX7 3, w ∈ wsX7_init := by decide +kernel
set_option maxRecDepth 20000 in
theorem fl_X7_init_9 : Cond.fieldLink RX7 9 "HornCity$Turns" "far" "[I" ∈ wsX7_init := by decide +kernel
set_option maxRecDepth 20000 in
theorem fl_X7_init_15 : Cond.fieldLink RX7 15 "HornCity$Turns" "waiting" "[I" ∈ wsX7_init := by decide +kernel
set_option maxRecDepth 20000 in
theorem fl_X7_init_18 : Cond.fieldLink RX7 18 "HornCity$Turns" "degrees" "[I" ∈ wsX7_init := by decide +kernel
set_option maxHeartbeats 8000000 in
set_option maxRecDepth 100000 in
theorem c_X7_init (l : Launch) (D : va_G) (cI cJ cZ : ClassId) (h0 : Nat) : zMn l yX7_init wsX7_init (zRn 1 3 366) D cI cJ cZ h0 [(h0, .inr (5, [.null, .null, .null]))] (fun u => [(h0, .inr (5, [.ref (u 0), .ref (u 1), .ref (u 2)])), ((u 0), .inl (cI, 180, .inl (zA (fun _ => 0)))), ((u 1), .inl (cI, 180, .inl (zA (fun _ => 0)))), ((u 2), .inl (cI, 6, .inl (zA (fun _ => 0))))]) 3 366 := by
  refine zMn_v (cc := cX7_init) (maxL := 1) (by decide +kernel) rfl (by decide) rfl rfl ?_
  intro p e s m args below meth c Q H0 ls A F hK hz hA hin hl hret
  obtain ⟨hx, hb, hml, hown0, hts⟩ := id F
  have hown : s.vm.findClass RX7 = some m.cls := hown0
  have hz : zH D A H0 [(h0, .inr (5, [.null, .null, .null]))] H0 [] := hz
  have hl : lv_has ls 1 [(0, .ref h0)] := hl
  refine lv_aload_n hx hb dX7_init_0 rfl (lv_at hl 0 rfl) ?_
  refine W.objInit hx hb hown (hts (.methodLink RX7 3 objectInit) (by decide +kernel)) (hts (.instanceMethod objectInit) (by decide +kernel)) (hts (.code objectInit ⟨#[0xb1]⟩ 1 none) (by decide +kernel)) rfl (by rw [hml]; exact hl.1) rfl dX7_init_1 (Nat.le_of_ble_eq_true rfl) (Nat.le_of_ble_eq_true rfl) ?_
  refine W.eq (g2 := F0 m 4 ls []) rfl ?_
  refine lv_aload_n hx hb dX7_init_4 rfl (lv_at hl 0 rfl) ?_
  refine z_sipush hx hb dX7_init_5 (by decide) ?_
  refine z_newI hx hb (hts (.arrayClass .int) (by decide +kernel)) hK hz hA 180 rfl (by decide) (Nat.le_of_ble_eq_true rfl) (Nat.le_of_ble_eq_true rfl) dX7_init_8 (fun q8 H hz => ?_)
  have hz : zH D A H0 [(h0, .inr (5, [.null, .null, .null])), (q8, .inl (cI, 180, .inl (zA (fun _ => 0))))] H [] := hz
  refine z_putF (C := RX7) (T := TX7) (N := 3) (ref := "HornCity$Turns") (ty := .array .int) (v := .ref q8) hx hb hts hin_X7_init_X7 hown hK hz tyX7 tyX7_ok nmX7 0 rfl rfl 0 (by decide) (hts _ fl_X7_init_9) rfl rfl hin rfl (by decide +kernel) rfl rfl (Nat.le_of_ble_eq_true rfl) dX7_init_10 (fun H locs hz => ?_)
  have hz : zH D A H0 [(h0, .inr (5, [.ref q8, .null, .null])), (q8, .inl (cI, 180, .inl (zA (fun _ => 0))))] H locs := hz
  refine lv_aload_n hx hb dX7_init_13 rfl (lv_at hl 0 rfl) ?_
  refine z_sipush hx hb dX7_init_14 (by decide) ?_
  refine z_newI hx hb (hts (.arrayClass .int) (by decide +kernel)) hK hz hA 180 rfl (by decide) (Nat.le_of_ble_eq_true rfl) (Nat.le_of_ble_eq_true rfl) dX7_init_17 (fun q17 H hz => ?_)
  have hz : zH D A H0 [(h0, .inr (5, [.ref q8, .null, .null])), (q8, .inl (cI, 180, .inl (zA (fun _ => 0)))), (q17, .inl (cI, 180, .inl (zA (fun _ => 0))))] H locs := hz
  refine z_putF (C := RX7) (T := TX7) (N := 3) (ref := "HornCity$Turns") (ty := .array .int) (v := .ref q17) hx hb hts hin_X7_init_X7 hown hK hz tyX7 tyX7_ok nmX7 0 rfl rfl 1 (by decide) (hts _ fl_X7_init_15) rfl rfl hin rfl (by decide +kernel) rfl rfl (Nat.le_of_ble_eq_true rfl) dX7_init_19 (fun H locs hz => ?_)
  have hz : zH D A H0 [(h0, .inr (5, [.ref q8, .ref q17, .null])), (q8, .inl (cI, 180, .inl (zA (fun _ => 0)))), (q17, .inl (cI, 180, .inl (zA (fun _ => 0))))] H locs := hz
  refine lv_aload_n hx hb dX7_init_22 rfl (lv_at hl 0 rfl) ?_
  refine z_bipush hx hb dX7_init_23 (by decide) ?_
  refine z_newI hx hb (hts (.arrayClass .int) (by decide +kernel)) hK hz hA 6 rfl (by decide) (Nat.le_of_ble_eq_true rfl) (Nat.le_of_ble_eq_true rfl) dX7_init_25 (fun q25 H hz => ?_)
  have hz : zH D A H0 [(h0, .inr (5, [.ref q8, .ref q17, .null])), (q8, .inl (cI, 180, .inl (zA (fun _ => 0)))), (q17, .inl (cI, 180, .inl (zA (fun _ => 0)))), (q25, .inl (cI, 6, .inl (zA (fun _ => 0))))] H locs := hz
  refine z_putF (C := RX7) (T := TX7) (N := 3) (ref := "HornCity$Turns") (ty := .array .int) (v := .ref q25) hx hb hts hin_X7_init_X7 hown hK hz tyX7 tyX7_ok nmX7 0 rfl rfl 2 (by decide) (hts _ fl_X7_init_18) rfl rfl hin rfl (by decide +kernel) rfl rfl (Nat.le_of_ble_eq_true rfl) dX7_init_27 (fun H locs hz => ?_)
  have hz : zH D A H0 [(h0, .inr (5, [.ref q8, .ref q17, .ref q25])), (q8, .inl (cI, 180, .inl (zA (fun _ => 0)))), (q17, .inl (cI, 180, .inl (zA (fun _ => 0)))), (q25, .inl (cI, 6, .inl (zA (fun _ => 0))))] H locs := hz
  exact hret (fun i => [q8, q17, q25].getD i 0) dX7_init_30 hz

set_option maxRecDepth 20000 in
theorem hin_X0_init_X0 : ∀ w ∈ u_ws RX0 TX0 3, w ∈ wsX0_init := by decide +kernel
set_option maxRecDepth 20000 in
theorem fl_X0_init_9 : Cond.fieldLink RX0 9 "HornCity$Asking" "alike" "[I" ∈ wsX0_init := by decide +kernel
set_option maxHeartbeats 8000000 in
set_option maxRecDepth 100000 in
theorem c_X0_init (l : Launch) (D : va_G) (cI cJ cZ : ClassId) (h0 : Nat) : zMn l yX0_init wsX0_init (zRn 1 1 180) D cI cJ cZ h0 [(h0, .inr (0, [.null, .int (zI 0), .int (zI 0)]))] (fun u => [(h0, .inr (0, [.ref (u 0), .int (zI 0), .int (zI 0)])), ((u 0), .inl (cI, 180, .inl (zA (fun _ => 0))))]) 1 180 := by
  refine zMn_v (cc := cX0_init) (maxL := 1) (by decide +kernel) rfl (by decide) rfl rfl ?_
  intro p e s m args below meth c Q H0 ls A F hK hz hA hin hl hret
  obtain ⟨hx, hb, hml, hown0, hts⟩ := id F
  have hown : s.vm.findClass RX0 = some m.cls := hown0
  have hz : zH D A H0 [(h0, .inr (0, [.null, .int (zI 0), .int (zI 0)]))] H0 [] := hz
  have hl : lv_has ls 1 [(0, .ref h0)] := hl
  refine lv_aload_n hx hb dX0_init_0 rfl (lv_at hl 0 rfl) ?_
  refine W.objInit hx hb hown (hts (.methodLink RX0 3 objectInit) (by decide +kernel)) (hts (.instanceMethod objectInit) (by decide +kernel)) (hts (.code objectInit ⟨#[0xb1]⟩ 1 none) (by decide +kernel)) rfl (by rw [hml]; exact hl.1) rfl dX0_init_1 (Nat.le_of_ble_eq_true rfl) (Nat.le_of_ble_eq_true rfl) ?_
  refine W.eq (g2 := F0 m 4 ls []) rfl ?_
  refine lv_aload_n hx hb dX0_init_4 rfl (lv_at hl 0 rfl) ?_
  refine z_sipush hx hb dX0_init_5 (by decide) ?_
  refine z_newI hx hb (hts (.arrayClass .int) (by decide +kernel)) hK hz hA 180 rfl (by decide) (Nat.le_of_ble_eq_true rfl) (Nat.le_of_ble_eq_true rfl) dX0_init_8 (fun q8 H hz => ?_)
  have hz : zH D A H0 [(h0, .inr (0, [.null, .int (zI 0), .int (zI 0)])), (q8, .inl (cI, 180, .inl (zA (fun _ => 0))))] H [] := hz
  refine z_putF (C := RX0) (T := TX0) (N := 3) (ref := "HornCity$Asking") (ty := .array .int) (v := .ref q8) hx hb hts hin_X0_init_X0 hown hK hz tyX0 tyX0_ok nmX0 0 rfl rfl 0 (by decide) (hts _ fl_X0_init_9) rfl rfl hin rfl (by decide +kernel) rfl rfl (Nat.le_of_ble_eq_true rfl) dX0_init_10 (fun H locs hz => ?_)
  have hz : zH D A H0 [(h0, .inr (0, [.ref q8, .int (zI 0), .int (zI 0)])), (q8, .inl (cI, 180, .inl (zA (fun _ => 0))))] H locs := hz
  exact hret (fun i => [q8].getD i 0) dX0_init_13 hz

set_option maxRecDepth 20000 in
theorem hin_X6_init_X6 : ∀ w ∈ u_ws RX6 TX6 1, w ∈ wsX6_init := by decide +kernel
set_option maxRecDepth 20000 in
theorem fl_X6_init_9 : Cond.fieldLink RX6 9 "HornCity$Taking" "wins" "[Z" ∈ wsX6_init := by decide +kernel
set_option maxHeartbeats 8000000 in
set_option maxRecDepth 100000 in
theorem c_X6_init (l : Launch) (D : va_G) (cI cJ cZ : ClassId) (h0 : Nat) : zMn l yX6_init wsX6_init (zRn 1 1 180) D cI cJ cZ h0 [(h0, .inr (4, [.null]))] (fun u => [(h0, .inr (4, [.ref (u 0)])), ((u 0), .inl (cZ, 180, .inl (zA (fun _ => 0))))]) 1 180 := by
  refine zMn_v (cc := cX6_init) (maxL := 1) (by decide +kernel) rfl (by decide) rfl rfl ?_
  intro p e s m args below meth c Q H0 ls A F hK hz hA hin hl hret
  obtain ⟨hx, hb, hml, hown0, hts⟩ := id F
  have hown : s.vm.findClass RX6 = some m.cls := hown0
  have hz : zH D A H0 [(h0, .inr (4, [.null]))] H0 [] := hz
  have hl : lv_has ls 1 [(0, .ref h0)] := hl
  refine lv_aload_n hx hb dX6_init_0 rfl (lv_at hl 0 rfl) ?_
  refine W.objInit hx hb hown (hts (.methodLink RX6 3 objectInit) (by decide +kernel)) (hts (.instanceMethod objectInit) (by decide +kernel)) (hts (.code objectInit ⟨#[0xb1]⟩ 1 none) (by decide +kernel)) rfl (by rw [hml]; exact hl.1) rfl dX6_init_1 (Nat.le_of_ble_eq_true rfl) (Nat.le_of_ble_eq_true rfl) ?_
  refine W.eq (g2 := F0 m 4 ls []) rfl ?_
  refine lv_aload_n hx hb dX6_init_4 rfl (lv_at hl 0 rfl) ?_
  refine z_sipush hx hb dX6_init_5 (by decide) ?_
  refine z_newZ hx hb (hts (.arrayClass .boolean) (by decide +kernel)) hK hz hA 180 rfl (by decide) (Nat.le_of_ble_eq_true rfl) (Nat.le_of_ble_eq_true rfl) dX6_init_8 (fun q8 H hz => ?_)
  have hz : zH D A H0 [(h0, .inr (4, [.null])), (q8, .inl (cZ, 180, .inl (zA (fun _ => 0))))] H [] := hz
  refine z_putF (C := RX6) (T := TX6) (N := 1) (ref := "HornCity$Taking") (ty := .array .boolean) (v := .ref q8) hx hb hts hin_X6_init_X6 hown hK hz tyX6 tyX6_ok nmX6 0 rfl rfl 0 (by decide) (hts _ fl_X6_init_9) rfl rfl hin rfl (by decide +kernel) rfl rfl (Nat.le_of_ble_eq_true rfl) dX6_init_10 (fun H locs hz => ?_)
  have hz : zH D A H0 [(h0, .inr (4, [.ref q8])), (q8, .inl (cZ, 180, .inl (zA (fun _ => 0))))] H locs := hz
  exact hret (fun i => [q8].getD i 0) dX6_init_13 hz

set_option maxRecDepth 20000 in
theorem hin_X8_init_X8 : ∀ w ∈ u_ws RX8 TX8 4, w ∈ wsX8_init := by decide +kernel
set_option maxRecDepth 20000 in
theorem fl_X8_init_9 : Cond.fieldLink RX8 9 "HornCity$Weathercock" "ways" "[J" ∈ wsX8_init := by decide +kernel
set_option maxRecDepth 20000 in
theorem fl_X8_init_15 : Cond.fieldLink RX8 15 "HornCity$Weathercock" "next" "[J" ∈ wsX8_init := by decide +kernel
set_option maxHeartbeats 8000000 in
set_option maxRecDepth 100000 in
theorem c_X8_init (l : Launch) (D : va_G) (cI cJ cZ : ClassId) (h0 : Nat) : zMn l yX8_init wsX8_init (zRn 1 2 24) D cI cJ cZ h0 [(h0, .inr (6, [.null, .null, .int (zI 0), .long (zL 0)]))] (fun u => [(h0, .inr (6, [.ref (u 0), .ref (u 1), .int (zI 0), .long (zL 0)])), ((u 0), .inl (cJ, 12, .inr (.inl (zAL (fun _ => 0))))), ((u 1), .inl (cJ, 12, .inr (.inl (zAL (fun _ => 0)))))]) 2 24 := by
  refine zMn_v (cc := cX8_init) (maxL := 1) (by decide +kernel) rfl (by decide) rfl rfl ?_
  intro p e s m args below meth c Q H0 ls A F hK hz hA hin hl hret
  obtain ⟨hx, hb, hml, hown0, hts⟩ := id F
  have hown : s.vm.findClass RX8 = some m.cls := hown0
  have hz : zH D A H0 [(h0, .inr (6, [.null, .null, .int (zI 0), .long (zL 0)]))] H0 [] := hz
  have hl : lv_has ls 1 [(0, .ref h0)] := hl
  refine lv_aload_n hx hb dX8_init_0 rfl (lv_at hl 0 rfl) ?_
  refine W.objInit hx hb hown (hts (.methodLink RX8 3 objectInit) (by decide +kernel)) (hts (.instanceMethod objectInit) (by decide +kernel)) (hts (.code objectInit ⟨#[0xb1]⟩ 1 none) (by decide +kernel)) rfl (by rw [hml]; exact hl.1) rfl dX8_init_1 (Nat.le_of_ble_eq_true rfl) (Nat.le_of_ble_eq_true rfl) ?_
  refine W.eq (g2 := F0 m 4 ls []) rfl ?_
  refine lv_aload_n hx hb dX8_init_4 rfl (lv_at hl 0 rfl) ?_
  refine z_bipush hx hb dX8_init_5 (by decide) ?_
  refine z_newJ hx hb (hts (.arrayClass .long) (by decide +kernel)) hK hz hA 12 rfl (by decide) (Nat.le_of_ble_eq_true rfl) (Nat.le_of_ble_eq_true rfl) dX8_init_7 (fun q7 H hz => ?_)
  have hz : zH D A H0 [(h0, .inr (6, [.null, .null, .int (zI 0), .long (zL 0)])), (q7, .inl (cJ, 12, .inr (.inl (zAL (fun _ => 0)))))] H [] := hz
  refine z_putF (C := RX8) (T := TX8) (N := 4) (ref := "HornCity$Weathercock") (ty := .array .long) (v := .ref q7) hx hb hts hin_X8_init_X8 hown hK hz tyX8 tyX8_ok nmX8 0 rfl rfl 0 (by decide) (hts _ fl_X8_init_9) rfl rfl hin rfl (by decide +kernel) rfl rfl (Nat.le_of_ble_eq_true rfl) dX8_init_9 (fun H locs hz => ?_)
  have hz : zH D A H0 [(h0, .inr (6, [.ref q7, .null, .int (zI 0), .long (zL 0)])), (q7, .inl (cJ, 12, .inr (.inl (zAL (fun _ => 0)))))] H locs := hz
  refine lv_aload_n hx hb dX8_init_12 rfl (lv_at hl 0 rfl) ?_
  refine z_bipush hx hb dX8_init_13 (by decide) ?_
  refine z_newJ hx hb (hts (.arrayClass .long) (by decide +kernel)) hK hz hA 12 rfl (by decide) (Nat.le_of_ble_eq_true rfl) (Nat.le_of_ble_eq_true rfl) dX8_init_15 (fun q15 H hz => ?_)
  have hz : zH D A H0 [(h0, .inr (6, [.ref q7, .null, .int (zI 0), .long (zL 0)])), (q7, .inl (cJ, 12, .inr (.inl (zAL (fun _ => 0))))), (q15, .inl (cJ, 12, .inr (.inl (zAL (fun _ => 0)))))] H locs := hz
  refine z_putF (C := RX8) (T := TX8) (N := 4) (ref := "HornCity$Weathercock") (ty := .array .long) (v := .ref q15) hx hb hts hin_X8_init_X8 hown hK hz tyX8 tyX8_ok nmX8 0 rfl rfl 1 (by decide) (hts _ fl_X8_init_15) rfl rfl hin rfl (by decide +kernel) rfl rfl (Nat.le_of_ble_eq_true rfl) dX8_init_17 (fun H locs hz => ?_)
  have hz : zH D A H0 [(h0, .inr (6, [.ref q7, .ref q15, .int (zI 0), .long (zL 0)])), (q7, .inl (cJ, 12, .inr (.inl (zAL (fun _ => 0))))), (q15, .inl (cJ, 12, .inr (.inl (zAL (fun _ => 0)))))] H locs := hz
  exact hret (fun i => [q7, q15].getD i 0) dX8_init_20 hz
