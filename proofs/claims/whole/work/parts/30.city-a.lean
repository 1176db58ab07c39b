set_option maxHeartbeats 4000000 in
set_option maxRecDepth 100000 in
theorem c_X10_isWithin (l : Launch) (D : va_G) (cI cJ cZ : ClassId) (number least most : Int) (hr : (-2147483648 ≤ number ∧ number ≤ 2147483647) ∧ (-2147483648 ≤ least ∧ least ≤ 2147483647) ∧ (-2147483648 ≤ most ∧ most ≤ 2147483647)) : zMp l yX10_isWithin wsX10_isWithin (zRm 0) D cI cJ cZ [.int (zI number), .int (zI least), .int (zI most)] [] (some (.int (zI (if (least ≤ number ∧ number ≤ most) then 1 else 0)))) := by
  refine zMp_z (cc := cX10_isWithin) (maxL := 3) (by decide +kernel) rfl (Nat.le_of_ble_eq_true rfl) rfl ?_
  intro p e s m args below meth c Q H ls F hK hz hl hret
  obtain ⟨hx, hb, hml, hown0, hts⟩ := id F
  have hown : s.vm.findClass RX10 = some m.cls := hown0
  obtain ⟨ws0, hw0⟩ : ∃ w : va_W, w = [] := ⟨_, rfl⟩
  have hz : zH D (zF ws0) H [] H [] := by rw [hw0]; exact hz
  have hl : lv_has ls 3 [(0, .int (zI number)), (1, .int (zI least)), (2, .int (zI most))] := hl
  refine lv_iload_n hx hb dX10_isWithin_0 rfl (lv_at hl 0 rfl) ?_
  refine lv_iload_n hx hb dX10_isWithin_1 rfl (lv_at hl 1 rfl) ?_
  refine z_icmp_lt (tgt := 14) hx hb dX10_isWithin_2 (by decide) (by omega) (by omega) (fun h2 => ?_) (fun h2 => ?_)
  ·
    refine z_iconst hx hb dX10_isWithin_14 ?_
    exact hret dX10_isWithin_15 (by first | decide | omega | (split <;> decide)) (congrArg (fun z => some (Value.int (zI z))) (show (0 : Int) = (if (least ≤ number ∧ number ≤ most) then 1 else 0) by first | rw [if_pos (by omega)] | rw [if_neg (by omega)]))
  ·
    refine lv_iload_n hx hb dX10_isWithin_5 rfl (lv_at hl 0 rfl) ?_
    refine lv_iload_n hx hb dX10_isWithin_6 rfl (lv_at hl 2 rfl) ?_
    refine z_icmp_gt (tgt := 14) hx hb dX10_isWithin_7 (by decide) (by omega) (by omega) (fun h7 => ?_) (fun h7 => ?_)
    ·
      refine z_iconst hx hb dX10_isWithin_14 ?_
      exact hret dX10_isWithin_15 (by first | decide | omega | (split <;> decide)) (congrArg (fun z => some (Value.int (zI z))) (show (0 : Int) = (if (least ≤ number ∧ number ≤ most) then 1 else 0) by first | rw [if_pos (by omega)] | rw [if_neg (by omega)]))
    ·
      refine z_iconst hx hb dX10_isWithin_10 ?_
      refine lv_goto (tgt := 15) hx hb dX10_isWithin_11 (by decide) ?_
      exact hret dX10_isWithin_15 (by first | decide | omega | (split <;> decide)) (congrArg (fun z => some (Value.int (zI z))) (show (1 : Int) = (if (least ≤ number ∧ number ≤ most) then 1 else 0) by first | rw [if_pos (by omega)] | rw [if_neg (by omega)]))

set_option maxHeartbeats 4000000 in
set_option maxRecDepth 100000 in
theorem c_X5_leftOver (l : Launch) (D : va_G) (cI cJ cZ : ClassId) (degrees : Int) (hr : (-2147483648 ≤ degrees ∧ degrees ≤ 2147483647)) : zMp l yX5_leftOver wsX5_leftOver (zRm 0) D cI cJ cZ [.int (zI degrees)] [] (some (.int (zI (degrees % 180)))) := by
  refine zMp_i (cc := cX5_leftOver) (maxL := 2) (by decide +kernel) rfl (Nat.le_of_ble_eq_true rfl) rfl ?_
  intro p e s m args below meth c Q H ls F hK hz hl hret
  obtain ⟨hx, hb, hml, hown0, hts⟩ := id F
  have hown : s.vm.findClass RX5 = some m.cls := hown0
  obtain ⟨ws0, hw0⟩ : ∃ w : va_W, w = [] := ⟨_, rfl⟩
  have hz : zH D (zF ws0) H [] H [] := by rw [hw0]; exact hz
  have hl : lv_has ls 2 [(0, .int (zI degrees))] := hl
  refine lv_iload_n hx hb dX5_leftOver_0 rfl (lv_at hl 0 rfl) ?_
  refine z_sipush hx hb dX5_leftOver_1 (by decide) ?_
  refine z_iremT hx hb dX5_leftOver_4 (by omega) (by omega) ?_
  have ht := ztm degrees 180
  refine lv_istore_n (lv' := [(1, .int (zI (degrees.tmod 180))), (0, .int (zI degrees))]) hx hb dX5_leftOver_5 rfl hl (Nat.le_of_ble_eq_true rfl) rfl (fun ls hl => ?_)
  refine lv_iload_n hx hb dX5_leftOver_6 rfl (lv_at hl 0 rfl) ?_
  refine z_if_ge (tgt := 18) hx hb dX5_leftOver_7 (by decide) (by omega) (fun h7 => ?_) (fun h7 => ?_)
  ·
    refine lv_iload_n hx hb dX5_leftOver_18 rfl (lv_at hl 0 rfl) ?_
    exact hret dX5_leftOver_19 (congrArg (fun z => some (Value.int (zI z))) (show ((degrees.tmod 180) : Int) = (degrees % 180) by omega))
  ·
    refine lv_iload_n hx hb dX5_leftOver_10 rfl (lv_at hl 0 rfl) ?_
    refine z_sipush hx hb dX5_leftOver_11 (by decide) ?_
    refine z_iadd hx hb dX5_leftOver_14 ?_
    refine lv_goto (tgt := 19) hx hb dX5_leftOver_15 (by decide) ?_
    exact hret dX5_leftOver_19 (congrArg (fun z => some (Value.int (zI z))) (show (((degrees.tmod 180) + 180) : Int) = (degrees % 180) by omega))

set_option maxHeartbeats 4000000 in
set_option maxRecDepth 100000 in
theorem c_X5_between (l : Launch) (D : va_G) (cI cJ cZ : ClassId) (incline other : Int) (hr : (-100000 ≤ incline ∧ incline ≤ 100000) ∧ (-100000 ≤ other ∧ other ≤ 100000)) : zMp l yX5_between wsX5_between (zRm 1) D cI cJ cZ [.int (zI incline), .int (zI other)] [] (some (.int (zI (apS incline other)))) := by
  refine zMp_i (cc := cX5_between) (maxL := 3) (by decide +kernel) rfl (Nat.le_of_ble_eq_true rfl) rfl ?_
  intro p e s m args below meth c Q H ls F hK hz hl hret
  obtain ⟨hx, hb, hml, hown0, hts⟩ := id F
  have hown : s.vm.findClass RX5 = some m.cls := hown0
  obtain ⟨ws0, hw0⟩ : ∃ w : va_W, w = [] := ⟨_, rfl⟩
  have hz : zH D (zF ws0) H [] H [] := by rw [hw0]; exact hz
  have hl : lv_has ls 3 [(0, .int (zI incline)), (1, .int (zI other))] := hl
  refine lv_iload_n hx hb dX5_between_0 rfl (lv_at hl 0 rfl) ?_
  refine lv_iload_n hx hb dX5_between_1 rfl (lv_at hl 1 rfl) ?_
  refine z_isub hx hb dX5_between_2 ?_
  refine z_callSp (As := [.int (zI (incline - other))]) (rest := []) F hK hz hl (c_X5_leftOver l D cI cJ cZ (incline - other) (by omega)) (va_cwS 1 hts gX5_between_X5_leftOver rfl rfl rfl (by decide +kernel) ⟨Nat.le_of_ble_eq_true rfl, Nat.le_of_ble_eq_true rfl⟩) [] rfl rfl rfl rfl (Nat.le_of_ble_eq_true rfl) ⟨Nat.le_of_ble_eq_true rfl, Nat.le_of_ble_eq_true rfl⟩ dX5_between_3 ?_
  refine lv_istore_n (lv' := [(2, .int (zI ((incline - other) % 180))), (0, .int (zI incline)), (1, .int (zI other))]) hx hb dX5_between_6 rfl hl (Nat.le_of_ble_eq_true rfl) rfl (fun ls hl => ?_)
  refine lv_iload_n hx hb dX5_between_7 rfl (lv_at hl 0 rfl) ?_
  refine z_sipush hx hb dX5_between_8 (by decide) ?_
  refine lv_iload_n hx hb dX5_between_11 rfl (lv_at hl 0 rfl) ?_
  refine z_isub hx hb dX5_between_12 ?_
  refine z_mmin hx hb hl.1 hml hown (hts (.methodLink RX5 15 Lib.Math.min.name) (by decide +kernel)) (hts (.static Lib.Math.min.name) (by decide +kernel)) (hts (.initialized "java/lang/Math") (by decide +kernel)) (hts (.code Lib.Math.min.name Lib.Math.min.code 2 (some .int)) (by decide +kernel)) (Nat.le_of_ble_eq_true rfl) (Nat.le_of_ble_eq_true rfl) ⟨Nat.le_of_ble_eq_true rfl, Nat.le_of_ble_eq_true rfl⟩ (by omega) (by omega) dX5_between_13 ?_
  exact hret dX5_between_16 (congrArg (fun z => some (Value.int (zI z))) (show ((min ((incline - other) % 180) (180 - ((incline - other) % 180))) : Int) = (apS incline other) by rfl))

set_option maxRecDepth 20000 in
theorem hin_X2_isThere_X2 : ∀ w ∈ u_ws RX2 TX2 8, w ∈ wsX2_isThere := by decide +kernel
set_option maxRecDepth 20000 in
theorem fl_X2_isThere_35 : Cond.fieldLink RX2 35 "HornCity$City" "there" "I" ∈ wsX2_isThere := by decide +kernel
set_option maxHeartbeats 4000000 in
set_option maxRecDepth 100000 in
theorem c_X2_isThere (l : Launch) (D : va_G) (cI cJ cZ : ClassId) (o ai ad am ah ch : Nat) (T tm yr one : Int) (hr : (-2147483648 ≤ one ∧ one ≤ 2147483647)) (hT : 0 ≤ T ∧ T < 512) : zMp l yX2_isThere wsX2_isThere (zRm 0) D cI cJ cZ [.ref o, .int (zI one)] [(o, .inr (2, [.ref ai, .ref ad, .ref am, .ref ah, .ref ch, .int (zI T), .int (zI tm), .int (zI yr)]))] (some (.int (zI (if inS T one = true then 1 else 0)))) := by
  refine zMp_z (cc := cX2_isThere) (maxL := 2) (by decide +kernel) rfl (Nat.le_of_ble_eq_true rfl) rfl ?_
  intro p e s m args below meth c Q H ls F hK hz hl hret
  obtain ⟨hx, hb, hml, hown0, hts⟩ := id F
  have hown : s.vm.findClass RX2 = some m.cls := hown0
  obtain ⟨ws0, hw0⟩ : ∃ w : va_W, w = [(o, .inr (2, [.ref ai, .ref ad, .ref am, .ref ah, .ref ch, .int (zI T), .int (zI tm), .int (zI yr)]))] := ⟨_, rfl⟩
  have hz : zH D (zF ws0) H [(o, .inr (2, [.ref ai, .ref ad, .ref am, .ref ah, .ref ch, .int (zI T), .int (zI tm), .int (zI yr)]))] H [] := by rw [hw0]; exact hz
  have hl : lv_has ls 2 [(0, .ref o), (1, .int (zI one))] := hl
  refine lv_iload_n hx hb dX2_isThere_0 rfl (lv_at hl 1 rfl) ?_
  refine z_if_lt (tgt := 25) hx hb dX2_isThere_1 (by decide) (by omega) (fun h1 => ?_) (fun h1 => ?_)
  ·
    refine z_iconst hx hb dX2_isThere_25 ?_
    exact hret dX2_isThere_26 (by first | decide | omega | (split <;> decide)) (congrArg (fun z => some (Value.int (zI z))) (show (0 : Int) = (if inS T one = true then 1 else 0) by first | rw [if_pos (inS_iff.mpr (by omega))] | rw [if_neg (fun q => absurd (inS_iff.mp q) (by omega))]))
  ·
    refine lv_iload_n hx hb dX2_isThere_4 rfl (lv_at hl 1 rfl) ?_
    refine z_bipush hx hb dX2_isThere_5 (by decide) ?_
    refine z_icmp_ge (tgt := 25) hx hb dX2_isThere_7 (by decide) (by omega) (by decide) (fun h7 => ?_) (fun h7 => ?_)
    ·
      refine z_iconst hx hb dX2_isThere_25 ?_
      exact hret dX2_isThere_26 (by first | decide | omega | (split <;> decide)) (congrArg (fun z => some (Value.int (zI z))) (show (0 : Int) = (if inS T one = true then 1 else 0) by first | rw [if_pos (inS_iff.mpr (by omega))] | rw [if_neg (fun q => absurd (inS_iff.mp q) (by omega))]))
    ·
      refine lv_aload_n hx hb dX2_isThere_10 rfl (lv_at hl 0 rfl) ?_
      refine z_get (C := RX2) (T := TX2) (N := 8) (ref := "HornCity$City") hx hb hts hin_X2_isThere_X2 hown hK hz 0 rfl rfl 5 (by decide) (hts _ fl_X2_isThere_35) rfl rfl dX2_isThere_11 ?_
      refine lv_iload_n hx hb dX2_isThere_14 rfl (lv_at hl 1 rfl) ?_
      refine z_ishr hx hb dX2_isThere_15 (by omega) (by omega) ?_
      refine z_iconst hx hb dX2_isThere_16 ?_
      refine z_iand1 hx hb dX2_isThere_17 ?_
      refine z_if_eq (tgt := 25) hx hb dX2_isThere_18 (by decide) (by omega) (fun h18 => ?_) (fun h18 => ?_)
      ·
        refine z_iconst hx hb dX2_isThere_25 ?_
        exact hret dX2_isThere_26 (by first | decide | omega | (split <;> decide)) (congrArg (fun z => some (Value.int (zI z))) (show (0 : Int) = (if inS T one = true then 1 else 0) by first | rw [if_pos (inS_iff.mpr (by omega))] | rw [if_neg (fun q => absurd (inS_iff.mp q) (by omega))]))
      ·
        refine z_iconst hx hb dX2_isThere_21 ?_
        refine lv_goto (tgt := 26) hx hb dX2_isThere_22 (by decide) ?_
        exact hret dX2_isThere_26 (by first | decide | omega | (split <;> decide)) (congrArg (fun z => some (Value.int (zI z))) (show (1 : Int) = (if inS T one = true then 1 else 0) by first | rw [if_pos (inS_iff.mpr (by omega))] | rw [if_neg (fun q => absurd (inS_iff.mp q) (by omega))]))

set_option maxRecDepth 20000 in
theorem hin_X2_inclineOf_X2 : ∀ w ∈ u_ws RX2 TX2 8, w ∈ wsX2_inclineOf := by decide +kernel
set_option maxRecDepth 20000 in
theorem fl_X2_inclineOf_9 : Cond.fieldLink RX2 9 "HornCity$City" "inclines" "[I" ∈ wsX2_inclineOf := by decide +kernel
set_option maxHeartbeats 4000000 in
set_option maxRecDepth 100000 in
theorem c_X2_inclineOf (l : Launch) (D : va_G) (cI cJ cZ : ClassId) (o ai ad am ah ch : Nat) (inc : Int → Int) (T tm yr one : Int) (hr : (-2147483648 ≤ one ∧ one ≤ 2147483647)) (hT : 0 ≤ T ∧ T < 512) : zMp l yX2_inclineOf wsX2_inclineOf (zRm 1) D cI cJ cZ [.ref o, .int (zI one)] [(o, .inr (2, [.ref ai, .ref ad, .ref am, .ref ah, .ref ch, .int (zI T), .int (zI tm), .int (zI yr)])), (ai, .inl (cI, 9, .inl (zA inc)))] (some (.int (zI (inO T inc one)))) := by
  refine zMp_i (cc := cX2_inclineOf) (maxL := 2) (by decide +kernel) rfl (Nat.le_of_ble_eq_true rfl) rfl ?_
  intro p e s m args below meth c Q H ls F hK hz hl hret
  obtain ⟨hx, hb, hml, hown0, hts⟩ := id F
  have hown : s.vm.findClass RX2 = some m.cls := hown0
  obtain ⟨ws0, hw0⟩ : ∃ w : va_W, w = [(o, .inr (2, [.ref ai, .ref ad, .ref am, .ref ah, .ref ch, .int (zI T), .int (zI tm), .int (zI yr)])), (ai, .inl (cI, 9, .inl (zA inc)))] := ⟨_, rfl⟩
  have hz : zH D (zF ws0) H [(o, .inr (2, [.ref ai, .ref ad, .ref am, .ref ah, .ref ch, .int (zI T), .int (zI tm), .int (zI yr)])), (ai, .inl (cI, 9, .inl (zA inc)))] H [] := by rw [hw0]; exact hz
  have hl : lv_has ls 2 [(0, .ref o), (1, .int (zI one))] := hl
  refine lv_aload_n hx hb dX2_inclineOf_0 rfl (lv_at hl 0 rfl) ?_
  refine lv_iload_n hx hb dX2_inclineOf_1 rfl (lv_at hl 1 rfl) ?_
  refine z_callVp (As := [.int (zI one)]) (rest := []) (C := RX2) (T := TX2) (N := 8) F hK hz hl (c_X2_isThere l D cI cJ cZ o ai ad am ah ch T tm yr one (by omega) (by first | assumption | omega)) (cwV 1 hts gX2_inclineOf_X2_isThere rfl rfl rfl (by decide +kernel) ⟨Nat.le_of_ble_eq_true rfl, Nat.le_of_ble_eq_true rfl⟩) rfl 0 rfl [0] rfl rfl rfl rfl (Nat.le_of_ble_eq_true rfl) ⟨Nat.le_of_ble_eq_true rfl, Nat.le_of_ble_eq_true rfl⟩ dX2_inclineOf_2 ?_
  refine z_ifb_eq (tgt := 17) hx hb dX2_inclineOf_5 (by decide) (fun h5 => ?_) (fun h5 => ?_)
  ·
    refine z_iconst hx hb dX2_inclineOf_17 ?_
    exact hret dX2_inclineOf_18 (congrArg (fun z => some (Value.int (zI z))) (show (0 : Int) = (inO T inc one) by first | (unfold inO; rw [if_pos h5]) | (unfold inO; rw [if_neg h5])))
  ·
    refine lv_aload_n hx hb dX2_inclineOf_8 rfl (lv_at hl 0 rfl) ?_
    refine z_get (C := RX2) (T := TX2) (N := 8) (ref := "HornCity$City") hx hb hts hin_X2_inclineOf_X2 hown hK hz 0 rfl rfl 0 (by decide) (hts _ fl_X2_inclineOf_9) rfl rfl dX2_inclineOf_9 ?_
    refine lv_iload_n hx hb dX2_inclineOf_12 rfl (lv_at hl 1 rfl) ?_
    refine z_iald hx hb hK hz 1 rfl (inS.rng h5) (by decide) dX2_inclineOf_13 ?_
    refine lv_goto (tgt := 18) hx hb dX2_inclineOf_14 (by decide) ?_
    exact hret dX2_inclineOf_18 (congrArg (fun z => some (Value.int (zI z))) (show ((inc one) : Int) = (inO T inc one) by first | (unfold inO; rw [if_pos h5]) | (unfold inO; rw [if_neg h5])))

set_option maxRecDepth 20000 in
theorem hin_X2_driftOf_X2 : ∀ w ∈ u_ws RX2 TX2 8, w ∈ wsX2_driftOf := by decide +kernel
set_option maxRecDepth 20000 in
theorem fl_X2_driftOf_15 : Cond.fieldLink RX2 15 "HornCity$City" "drifting" "[I" ∈ wsX2_driftOf := by decide +kernel
set_option maxHeartbeats 4000000 in
set_option maxRecDepth 100000 in
theorem c_X2_driftOf (l : Launch) (D : va_G) (cI cJ cZ : ClassId) (o ai ad am ah ch : Nat) (dri : Int → Int) (T tm yr one : Int) (hr : (-2147483648 ≤ one ∧ one ≤ 2147483647)) (hT : 0 ≤ T ∧ T < 512) : zMp l yX2_driftOf wsX2_driftOf (zRm 1) D cI cJ cZ [.ref o, .int (zI one)] [(o, .inr (2, [.ref ai, .ref ad, .ref am, .ref ah, .ref ch, .int (zI T), .int (zI tm), .int (zI yr)])), (ad, .inl (cI, 9, .inl (zA dri)))] (some (.int (zI (inO T dri one)))) := by
  refine zMp_i (cc := cX2_driftOf) (maxL := 2) (by decide +kernel) rfl (Nat.le_of_ble_eq_true rfl) rfl ?_
  intro p e s m args below meth c Q H ls F hK hz hl hret
  obtain ⟨hx, hb, hml, hown0, hts⟩ := id F
  have hown : s.vm.findClass RX2 = some m.cls := hown0
  obtain ⟨ws0, hw0⟩ : ∃ w : va_W, w = [(o, .inr (2, [.ref ai, .ref ad, .ref am, .ref ah, .ref ch, .int (zI T), .int (zI tm), .int (zI yr)])), (ad, .inl (cI, 9, .inl (zA dri)))] := ⟨_, rfl⟩
  have hz : zH D (zF ws0) H [(o, .inr (2, [.ref ai, .ref ad, .ref am, .ref ah, .ref ch, .int (zI T), .int (zI tm), .int (zI yr)])), (ad, .inl (cI, 9, .inl (zA dri)))] H [] := by rw [hw0]; exact hz
  have hl : lv_has ls 2 [(0, .ref o), (1, .int (zI one))] := hl
  refine lv_aload_n hx hb dX2_driftOf_0 rfl (lv_at hl 0 rfl) ?_
  refine lv_iload_n hx hb dX2_driftOf_1 rfl (lv_at hl 1 rfl) ?_
  refine z_callVp (As := [.int (zI one)]) (rest := []) (C := RX2) (T := TX2) (N := 8) F hK hz hl (c_X2_isThere l D cI cJ cZ o ai ad am ah ch T tm yr one (by omega) (by first | assumption | omega)) (cwV 1 hts gX2_driftOf_X2_isThere rfl rfl rfl (by decide +kernel) ⟨Nat.le_of_ble_eq_true rfl, Nat.le_of_ble_eq_true rfl⟩) rfl 0 rfl [0] rfl rfl rfl rfl (Nat.le_of_ble_eq_true rfl) ⟨Nat.le_of_ble_eq_true rfl, Nat.le_of_ble_eq_true rfl⟩ dX2_driftOf_2 ?_
  refine z_ifb_eq (tgt := 17) hx hb dX2_driftOf_5 (by decide) (fun h5 => ?_) (fun h5 => ?_)
  ·
    refine z_iconst hx hb dX2_driftOf_17 ?_
    exact hret dX2_driftOf_18 (congrArg (fun z => some (Value.int (zI z))) (show (0 : Int) = (inO T dri one) by first | (unfold inO; rw [if_pos h5]) | (unfold inO; rw [if_neg h5])))
  ·
    refine lv_aload_n hx hb dX2_driftOf_8 rfl (lv_at hl 0 rfl) ?_
    refine z_get (C := RX2) (T := TX2) (N := 8) (ref := "HornCity$City") hx hb hts hin_X2_driftOf_X2 hown hK hz 0 rfl rfl 1 (by decide) (hts _ fl_X2_driftOf_15) rfl rfl dX2_driftOf_9 ?_
    refine lv_iload_n hx hb dX2_driftOf_12 rfl (lv_at hl 1 rfl) ?_
    refine z_iald hx hb hK hz 1 rfl (inS.rng h5) (by decide) dX2_driftOf_13 ?_
    refine lv_goto (tgt := 18) hx hb dX2_driftOf_14 (by decide) ?_
    exact hret dX2_driftOf_18 (congrArg (fun z => some (Value.int (zI z))) (show ((dri one) : Int) = (inO T dri one) by first | (unfold inO; rw [if_pos h5]) | (unfold inO; rw [if_neg h5])))

set_option maxRecDepth 20000 in
theorem hin_X2_mateOf_X2 : ∀ w ∈ u_ws RX2 TX2 8, w ∈ wsX2_mateOf := by decide +kernel
set_option maxRecDepth 20000 in
theorem fl_X2_mateOf_18 : Cond.fieldLink RX2 18 "HornCity$City" "mates" "[I" ∈ wsX2_mateOf := by decide +kernel
set_option maxHeartbeats 4000000 in
set_option maxRecDepth 100000 in
theorem c_X2_mateOf (l : Launch) (D : va_G) (cI cJ cZ : ClassId) (o ai ad am ah ch : Nat) (mat : Int → Int) (T tm yr one : Int) (hr : (-2147483648 ≤ one ∧ one ≤ 2147483647)) (hT : 0 ≤ T ∧ T < 512) : zMp l yX2_mateOf wsX2_mateOf (zRm 1) D cI cJ cZ [.ref o, .int (zI one)] [(o, .inr (2, [.ref ai, .ref ad, .ref am, .ref ah, .ref ch, .int (zI T), .int (zI tm), .int (zI yr)])), (am, .inl (cI, 9, .inl (zA mat)))] (some (.int (zI (maO T mat one)))) := by
  refine zMp_i (cc := cX2_mateOf) (maxL := 2) (by decide +kernel) rfl (Nat.le_of_ble_eq_true rfl) rfl ?_
  intro p e s m args below meth c Q H ls F hK hz hl hret
  obtain ⟨hx, hb, hml, hown0, hts⟩ := id F
  have hown : s.vm.findClass RX2 = some m.cls := hown0
  obtain ⟨ws0, hw0⟩ : ∃ w : va_W, w = [(o, .inr (2, [.ref ai, .ref ad, .ref am, .ref ah, .ref ch, .int (zI T), .int (zI tm), .int (zI yr)])), (am, .inl (cI, 9, .inl (zA mat)))] := ⟨_, rfl⟩
  have hz : zH D (zF ws0) H [(o, .inr (2, [.ref ai, .ref ad, .ref am, .ref ah, .ref ch, .int (zI T), .int (zI tm), .int (zI yr)])), (am, .inl (cI, 9, .inl (zA mat)))] H [] := by rw [hw0]; exact hz
  have hl : lv_has ls 2 [(0, .ref o), (1, .int (zI one))] := hl
  refine lv_aload_n hx hb dX2_mateOf_0 rfl (lv_at hl 0 rfl) ?_
  refine lv_iload_n hx hb dX2_mateOf_1 rfl (lv_at hl 1 rfl) ?_
  refine z_callVp (As := [.int (zI one)]) (rest := []) (C := RX2) (T := TX2) (N := 8) F hK hz hl (c_X2_isThere l D cI cJ cZ o ai ad am ah ch T tm yr one (by omega) (by first | assumption | omega)) (cwV 1 hts gX2_mateOf_X2_isThere rfl rfl rfl (by decide +kernel) ⟨Nat.le_of_ble_eq_true rfl, Nat.le_of_ble_eq_true rfl⟩) rfl 0 rfl [0] rfl rfl rfl rfl (Nat.le_of_ble_eq_true rfl) ⟨Nat.le_of_ble_eq_true rfl, Nat.le_of_ble_eq_true rfl⟩ dX2_mateOf_2 ?_
  refine z_ifb_eq (tgt := 17) hx hb dX2_mateOf_5 (by decide) (fun h5 => ?_) (fun h5 => ?_)
  ·
    refine z_bipush hx hb dX2_mateOf_17 (by decide) ?_
    exact hret dX2_mateOf_19 (congrArg (fun z => some (Value.int (zI z))) (show ((-6) : Int) = (maO T mat one) by first | (unfold maO; rw [if_pos h5]) | (unfold maO; rw [if_neg h5])))
  ·
    refine lv_aload_n hx hb dX2_mateOf_8 rfl (lv_at hl 0 rfl) ?_
    refine z_get (C := RX2) (T := TX2) (N := 8) (ref := "HornCity$City") hx hb hts hin_X2_mateOf_X2 hown hK hz 0 rfl rfl 2 (by decide) (hts _ fl_X2_mateOf_18) rfl rfl dX2_mateOf_9 ?_
    refine lv_iload_n hx hb dX2_mateOf_12 rfl (lv_at hl 1 rfl) ?_
    refine z_iald hx hb hK hz 1 rfl (inS.rng h5) (by decide) dX2_mateOf_13 ?_
    refine lv_goto (tgt := 19) hx hb dX2_mateOf_14 (by decide) ?_
    exact hret dX2_mateOf_19 (congrArg (fun z => some (Value.int (zI z))) (show ((mat one) : Int) = (maO T mat one) by first | (unfold maO; rw [if_pos h5]) | (unfold maO; rw [if_neg h5])))

set_option maxHeartbeats 4000000 in
set_option maxRecDepth 100000 in
theorem c_X2_between (l : Launch) (D : va_G) (cI cJ cZ : ClassId) (o ai ad am ah ch : Nat) (inc : Int → Int) (T tm yr one other : Int) (hr : (-2147483648 ≤ one ∧ one ≤ 2147483647) ∧ (-2147483648 ≤ other ∧ other ≤ 2147483647)) (hT : 0 ≤ T ∧ T < 512) (hbi : zBd inc 9 0 179) : zMp l yX2_between wsX2_between (zRm 2) D cI cJ cZ [.ref o, .int (zI one), .int (zI other)] [(o, .inr (2, [.ref ai, .ref ad, .ref am, .ref ah, .ref ch, .int (zI T), .int (zI tm), .int (zI yr)])), (ai, .inl (cI, 9, .inl (zA inc)))] (some (.int (zI (apS (inO T inc one) (inO T inc other))))) := by
  refine zMp_i (cc := cX2_between) (maxL := 3) (by decide +kernel) rfl (Nat.le_of_ble_eq_true rfl) rfl ?_
  intro p e s m args below meth c Q H ls F hK hz hl hret
  obtain ⟨hx, hb, hml, hown0, hts⟩ := id F
  have hown : s.vm.findClass RX2 = some m.cls := hown0
  obtain ⟨ws0, hw0⟩ : ∃ w : va_W, w = [(o, .inr (2, [.ref ai, .ref ad, .ref am, .ref ah, .ref ch, .int (zI T), .int (zI tm), .int (zI yr)])), (ai, .inl (cI, 9, .inl (zA inc)))] := ⟨_, rfl⟩
  have hz : zH D (zF ws0) H [(o, .inr (2, [.ref ai, .ref ad, .ref am, .ref ah, .ref ch, .int (zI T), .int (zI tm), .int (zI yr)])), (ai, .inl (cI, 9, .inl (zA inc)))] H [] := by rw [hw0]; exact hz
  have hl : lv_has ls 3 [(0, .ref o), (1, .int (zI one)), (2, .int (zI other))] := hl
  refine lv_aload_n hx hb dX2_between_0 rfl (lv_at hl 0 rfl) ?_
  refine lv_iload_n hx hb dX2_between_1 rfl (lv_at hl 1 rfl) ?_
  refine z_callVp (As := [.int (zI one)]) (rest := []) (C := RX2) (T := TX2) (N := 8) F hK hz hl (c_X2_inclineOf l D cI cJ cZ o ai ad am ah ch inc T tm yr one (by omega) (by first | assumption | omega)) (cwV 1 hts gX2_between_X2_inclineOf rfl rfl rfl (by decide +kernel) ⟨Nat.le_of_ble_eq_true rfl, Nat.le_of_ble_eq_true rfl⟩) rfl 0 rfl [0, 1] rfl rfl rfl rfl (Nat.le_of_ble_eq_true rfl) ⟨Nat.le_of_ble_eq_true rfl, Nat.le_of_ble_eq_true rfl⟩ dX2_between_2 ?_
  refine lv_aload_n hx hb dX2_between_5 rfl (lv_at hl 0 rfl) ?_
  refine lv_iload_n hx hb dX2_between_6 rfl (lv_at hl 2 rfl) ?_
  refine z_callVp (As := [.int (zI other)]) (rest := [.int (zI (inO T inc one))]) (C := RX2) (T := TX2) (N := 8) F hK hz hl (c_X2_inclineOf l D cI cJ cZ o ai ad am ah ch inc T tm yr other (by omega) (by first | assumption | omega)) (cwV 1 hts gX2_between_X2_inclineOf rfl rfl rfl (by decide +kernel) ⟨Nat.le_of_ble_eq_true rfl, Nat.le_of_ble_eq_true rfl⟩) rfl 0 rfl [0, 1] rfl rfl rfl rfl (Nat.le_of_ble_eq_true rfl) ⟨Nat.le_of_ble_eq_true rfl, Nat.le_of_ble_eq_true rfl⟩ dX2_between_7 ?_
  have hi1 := inO_bd (T := T) hbi (by decide) one
  have hi2 := inO_bd (T := T) hbi (by decide) other
  refine z_callSp (As := [.int (zI (inO T inc one)), .int (zI (inO T inc other))]) (rest := []) F hK hz hl (c_X5_between l D cI cJ cZ (inO T inc one) (inO T inc other) (by omega)) (va_cwS 2 hts gX2_between_X5_between rfl rfl rfl (by decide +kernel) ⟨Nat.le_of_ble_eq_true rfl, Nat.le_of_ble_eq_true rfl⟩) [] rfl rfl rfl rfl (Nat.le_of_ble_eq_true rfl) ⟨Nat.le_of_ble_eq_true rfl, Nat.le_of_ble_eq_true rfl⟩ dX2_between_10 ?_
  exact hret dX2_between_13 (congrArg (fun z => some (Value.int (zI z))) (show ((apS (inO T inc one) (inO T inc other)) : Int) = (apS (inO T inc one) (inO T inc other)) by rfl))

set_option maxRecDepth 20000 in
theorem hin_X2_chalkFor_X2 : ∀ w ∈ u_ws RX2 TX2 8, w ∈ wsX2_chalkFor := by decide +kernel
set_option maxRecDepth 20000 in
theorem fl_X2_chalkFor_39 : Cond.fieldLink RX2 39 "HornCity$City" "tooMuch" "I" ∈ wsX2_chalkFor := by decide +kernel
set_option maxHeartbeats 4000000 in
set_option maxRecDepth 100000 in
theorem c_X2_chalkFor (l : Launch) (D : va_G) (cI cJ cZ : ClassId) (o ai ad am ah ch : Nat) (inc : Int → Int) (T tm yr one : Int) (hr : (-2147483648 ≤ one ∧ one ≤ 2147483647)) (hT : 0 ≤ T ∧ T < 512) (hbi : zBd inc 9 0 179) (htm : 0 ≤ tm ∧ tm ≤ 1000) : zMp l yX2_chalkFor wsX2_chalkFor (zRm 2) D cI cJ cZ [.ref o, .int (zI one)] [(o, .inr (2, [.ref ai, .ref ad, .ref am, .ref ah, .ref ch, .int (zI T), .int (zI tm), .int (zI yr)])), (ai, .inl (cI, 9, .inl (zA inc)))] (some (.int (zI ((inO T inc one + tm) % 180)))) := by
  refine zMp_i (cc := cX2_chalkFor) (maxL := 2) (by decide +kernel) rfl (Nat.le_of_ble_eq_true rfl) rfl ?_
  intro p e s m args below meth c Q H ls F hK hz hl hret
  obtain ⟨hx, hb, hml, hown0, hts⟩ := id F
  have hown : s.vm.findClass RX2 = some m.cls := hown0
  obtain ⟨ws0, hw0⟩ : ∃ w : va_W, w = [(o, .inr (2, [.ref ai, .ref ad, .ref am, .ref ah, .ref ch, .int (zI T), .int (zI tm), .int (zI yr)])), (ai, .inl (cI, 9, .inl (zA inc)))] := ⟨_, rfl⟩
  have hz : zH D (zF ws0) H [(o, .inr (2, [.ref ai, .ref ad, .ref am, .ref ah, .ref ch, .int (zI T), .int (zI tm), .int (zI yr)])), (ai, .inl (cI, 9, .inl (zA inc)))] H [] := by rw [hw0]; exact hz
  have hl : lv_has ls 2 [(0, .ref o), (1, .int (zI one))] := hl
  refine lv_aload_n hx hb dX2_chalkFor_0 rfl (lv_at hl 0 rfl) ?_
  refine lv_iload_n hx hb dX2_chalkFor_1 rfl (lv_at hl 1 rfl) ?_
  refine z_callVp (As := [.int (zI one)]) (rest := []) (C := RX2) (T := TX2) (N := 8) F hK hz hl (c_X2_inclineOf l D cI cJ cZ o ai ad am ah ch inc T tm yr one (by omega) (by first | assumption | omega)) (cwV 1 hts gX2_chalkFor_X2_inclineOf rfl rfl rfl (by decide +kernel) ⟨Nat.le_of_ble_eq_true rfl, Nat.le_of_ble_eq_true rfl⟩) rfl 0 rfl [0, 1] rfl rfl rfl rfl (Nat.le_of_ble_eq_true rfl) ⟨Nat.le_of_ble_eq_true rfl, Nat.le_of_ble_eq_true rfl⟩ dX2_chalkFor_2 ?_
  refine lv_aload_n hx hb dX2_chalkFor_5 rfl (lv_at hl 0 rfl) ?_
  refine z_get (C := RX2) (T := TX2) (N := 8) (ref := "HornCity$City") hx hb hts hin_X2_chalkFor_X2 hown hK hz 0 rfl rfl 6 (by decide) (hts _ fl_X2_chalkFor_39) rfl rfl dX2_chalkFor_6 ?_
  refine z_iadd hx hb dX2_chalkFor_9 ?_
  have hi1 := inO_bd (T := T) hbi (by decide) one
  refine z_callSp (As := [.int (zI ((inO T inc one) + tm))]) (rest := []) F hK hz hl (c_X5_leftOver l D cI cJ cZ ((inO T inc one) + tm) (by omega)) (va_cwS 1 hts gX2_chalkFor_X5_leftOver rfl rfl rfl (by decide +kernel) ⟨Nat.le_of_ble_eq_true rfl, Nat.le_of_ble_eq_true rfl⟩) [] rfl rfl rfl rfl (Nat.le_of_ble_eq_true rfl) ⟨Nat.le_of_ble_eq_true rfl, Nat.le_of_ble_eq_true rfl⟩ dX2_chalkFor_10 ?_
  exact hret dX2_chalkFor_13 (congrArg (fun z => some (Value.int (zI z))) (show ((((inO T inc one) + tm) % 180) : Int) = ((inO T inc one + tm) % 180) by first | omega | (split <;> omega) | simp_all))

set_option maxHeartbeats 4000000 in
set_option maxRecDepth 100000 in
theorem c_X2_pairsSitting (l : Launch) (D : va_G) (cI cJ cZ : ClassId) (o ai ad am ah ch : Nat) (mat : Int → Int) (T tm yr : Int) (hT : 0 ≤ T ∧ T < 512) (hbm : zBd mat 9 (-6) 8) : zMp l yX2_pairsSitting wsX2_pairsSitting (zRm 2) D cI cJ cZ [.ref o] [(o, .inr (2, [.ref ai, .ref ad, .ref am, .ref ah, .ref ch, .int (zI T), .int (zI tm), .int (zI yr)])), (am, .inl (cI, 9, .inl (zA mat)))] (some (.int (zI (pairS T mat)))) := by
  refine zMp_i (cc := cX2_pairsSitting) (maxL := 3) (by decide +kernel) rfl (Nat.le_of_ble_eq_true rfl) rfl ?_
  intro p e s m args below meth c Q H ls F hK hz hl hret
  obtain ⟨hx, hb, hml, hown0, hts⟩ := id F
  have hown : s.vm.findClass RX2 = some m.cls := hown0
  obtain ⟨ws0, hw0⟩ : ∃ w : va_W, w = [(o, .inr (2, [.ref ai, .ref ad, .ref am, .ref ah, .ref ch, .int (zI T), .int (zI tm), .int (zI yr)])), (am, .inl (cI, 9, .inl (zA mat)))] := ⟨_, rfl⟩
  have hz : zH D (zF ws0) H [(o, .inr (2, [.ref ai, .ref ad, .ref am, .ref ah, .ref ch, .int (zI T), .int (zI tm), .int (zI yr)])), (am, .inl (cI, 9, .inl (zA mat)))] H [] := by rw [hw0]; exact hz
  have hl : lv_has ls 3 [(0, .ref o)] := hl
  refine z_iconst hx hb dX2_pairsSitting_0 ?_
  refine lv_istore_n (lv' := [(1, .int (zI 0)), (0, .ref o)]) hx hb dX2_pairsSitting_1 rfl hl (Nat.le_of_ble_eq_true rfl) rfl (fun ls hl => ?_)
  refine z_iconst hx hb dX2_pairsSitting_2 ?_
  refine lv_istore_n (lv' := [(2, .int (zI 0)), (1, .int (zI 0)), (0, .ref o)]) hx hb dX2_pairsSitting_3 rfl hl (Nat.le_of_ble_eq_true rfl) rfl (fun ls hl => ?_)
  have L4 : ∀ (n : Nat) (on pa : Int) (ls : Array Slot), ((9 - on).toNat = n) → (0 ≤ on ∧ on ≤ 9) → (0 ≤ pa ∧ pa ≤ on) → (pa = sumZ (fun k => if maO T mat k > k then 1 else 0) on.toNat) → lv_has ls 3 [(2, .int (zI on)), (1, .int (zI pa)), (0, .ref o)] → W p l e (zRm 2) s m args below meth c H [] 0 0 Q (F0 m 4 ls []) := by
    intro n
    refine Nat.strongRecOn n ?_
    intro n ih4 on pa ls hn4 h0 hp0 hp hl
    refine lv_iload_n hx hb dX2_pairsSitting_4 rfl (lv_at hl 0 rfl) ?_
    refine z_bipush hx hb dX2_pairsSitting_5 (by decide) ?_
    refine z_icmp_ge (tgt := 28) hx hb dX2_pairsSitting_7 (by decide) (by omega) (by decide) (fun h7 => ?_) (fun h7 => ?_)
    ·
      refine lv_iload_n hx hb dX2_pairsSitting_28 rfl (lv_at hl 1 rfl) ?_
      exact hret dX2_pairsSitting_29 (congrArg (fun z => some (Value.int (zI z))) (show (pa : Int) = (pairS T mat) by have e : on = 9 := (by omega); subst e; exact hp))
    ·
      refine lv_aload_n hx hb dX2_pairsSitting_10 rfl (lv_at hl 2 rfl) ?_
      refine lv_iload_n hx hb dX2_pairsSitting_11 rfl (lv_at hl 0 rfl) ?_
      refine z_callVp (As := [.int (zI on)]) (rest := []) (C := RX2) (T := TX2) (N := 8) F hK hz hl (c_X2_mateOf l D cI cJ cZ o ai ad am ah ch mat T tm yr on (by omega) (by first | assumption | omega)) (cwV 1 hts gX2_pairsSitting_X2_mateOf rfl rfl rfl (by decide +kernel) ⟨Nat.le_of_ble_eq_true rfl, Nat.le_of_ble_eq_true rfl⟩) rfl 0 rfl [0, 1] rfl rfl rfl rfl (Nat.le_of_ble_eq_true rfl) ⟨Nat.le_of_ble_eq_true rfl, Nat.le_of_ble_eq_true rfl⟩ dX2_pairsSitting_12 ?_
      have hm1 := maO_bd (T := T) hbm on
      refine lv_iload_n hx hb dX2_pairsSitting_15 rfl (lv_at hl 0 rfl) ?_
      refine z_icmp_le (tgt := 22) hx hb dX2_pairsSitting_16 (by decide) (by omega) (by omega) (fun h16 => ?_) (fun h16 => ?_)
      ·
        refine z_iinc (lv' := [(2, .int (zI (on + 1))), (1, .int (zI pa)), (0, .ref o)]) hx hb dX2_pairsSitting_22 hl (k := 0) rfl (Nat.le_of_ble_eq_true rfl) rfl (fun ls hl => ?_)
        refine lv_goto (tgt := 4) hx hb dX2_pairsSitting_25 (by decide) ?_
        exact ih4 _ (by omega) (on + 1) pa ls rfl (by omega) (by omega) (by rw [sumZ_s h0.1, hp]; first | rw [if_pos (by omega)] | rw [if_neg (by omega), Int.add_zero]) (lv_sub hl [0, 1, 2] rfl)
      ·
        refine z_iinc (lv' := [(1, .int (zI (pa + 1))), (2, .int (zI on)), (0, .ref o)]) hx hb dX2_pairsSitting_19 hl (k := 1) rfl (Nat.le_of_ble_eq_true rfl) rfl (fun ls hl => ?_)
        refine z_iinc (lv' := [(2, .int (zI (on + 1))), (1, .int (zI (pa + 1))), (0, .ref o)]) hx hb dX2_pairsSitting_22 hl (k := 1) rfl (Nat.le_of_ble_eq_true rfl) rfl (fun ls hl => ?_)
        refine lv_goto (tgt := 4) hx hb dX2_pairsSitting_25 (by decide) ?_
        exact ih4 _ (by omega) (on + 1) (pa + 1) ls rfl (by omega) (by omega) (by rw [sumZ_s h0.1, hp]; first | rw [if_pos (by omega)] | rw [if_neg (by omega), Int.add_zero]) (lv_sub hl [0, 1, 2] rfl)
  exact L4 _ 0 0 ls rfl (by decide) (by decide) (rfl) (lv_sub hl [0, 1, 2] rfl)

set_option maxHeartbeats 4000000 in
set_option maxRecDepth 100000 in
theorem c_X2_inclinesAdded (l : Launch) (D : va_G) (cI cJ cZ : ClassId) (o ai ad am ah ch : Nat) (inc : Int → Int) (T tm yr : Int) (hT : 0 ≤ T ∧ T < 512) (hbi : zBd inc 9 0 179) : zMp l yX2_inclinesAdded wsX2_inclinesAdded (zRm 2) D cI cJ cZ [.ref o] [(o, .inr (2, [.ref ai, .ref ad, .ref am, .ref ah, .ref ch, .int (zI T), .int (zI tm), .int (zI yr)])), (ai, .inl (cI, 9, .inl (zA inc)))] (some (.int (zI (sumZ (inO T inc) 9)))) := by
  refine zMp_i (cc := cX2_inclinesAdded) (maxL := 3) (by decide +kernel) rfl (Nat.le_of_ble_eq_true rfl) rfl ?_
  intro p e s m args below meth c Q H ls F hK hz hl hret
  obtain ⟨hx, hb, hml, hown0, hts⟩ := id F
  have hown : s.vm.findClass RX2 = some m.cls := hown0
  obtain ⟨ws0, hw0⟩ : ∃ w : va_W, w = [(o, .inr (2, [.ref ai, .ref ad, .ref am, .ref ah, .ref ch, .int (zI T), .int (zI tm), .int (zI yr)])), (ai, .inl (cI, 9, .inl (zA inc)))] := ⟨_, rfl⟩
  have hz : zH D (zF ws0) H [(o, .inr (2, [.ref ai, .ref ad, .ref am, .ref ah, .ref ch, .int (zI T), .int (zI tm), .int (zI yr)])), (ai, .inl (cI, 9, .inl (zA inc)))] H [] := by rw [hw0]; exact hz
  have hl : lv_has ls 3 [(0, .ref o)] := hl
  refine z_iconst hx hb dX2_inclinesAdded_0 ?_
  refine lv_istore_n (lv' := [(1, .int (zI 0)), (0, .ref o)]) hx hb dX2_inclinesAdded_1 rfl hl (Nat.le_of_ble_eq_true rfl) rfl (fun ls hl => ?_)
  refine z_iconst hx hb dX2_inclinesAdded_2 ?_
  refine lv_istore_n (lv' := [(2, .int (zI 0)), (1, .int (zI 0)), (0, .ref o)]) hx hb dX2_inclinesAdded_3 rfl hl (Nat.le_of_ble_eq_true rfl) rfl (fun ls hl => ?_)
  have L4 : ∀ (n : Nat) (on su : Int) (ls : Array Slot), ((9 - on).toNat = n) → (0 ≤ on ∧ on ≤ 9) → (0 ≤ su ∧ su ≤ 179 * on) → (su = sumZ (inO T inc) on.toNat) → lv_has ls 3 [(2, .int (zI on)), (1, .int (zI su)), (0, .ref o)] → W p l e (zRm 2) s m args below meth c H [] 0 0 Q (F0 m 4 ls []) := by
    intro n
    refine Nat.strongRecOn n ?_
    intro n ih4 on su ls hn4 h0 hp0 hp hl
    refine lv_iload_n hx hb dX2_inclinesAdded_4 rfl (lv_at hl 0 rfl) ?_
    refine z_bipush hx hb dX2_inclinesAdded_5 (by decide) ?_
    refine z_icmp_ge (tgt := 24) hx hb dX2_inclinesAdded_7 (by decide) (by omega) (by decide) (fun h7 => ?_) (fun h7 => ?_)
    ·
      refine lv_iload_n hx hb dX2_inclinesAdded_24 rfl (lv_at hl 1 rfl) ?_
      exact hret dX2_inclinesAdded_25 (congrArg (fun z => some (Value.int (zI z))) (show (su : Int) = (sumZ (inO T inc) 9) by have e : on = 9 := (by omega); subst e; exact hp))
    ·
      refine lv_iload_n hx hb dX2_inclinesAdded_10 rfl (lv_at hl 1 rfl) ?_
      refine lv_aload_n hx hb dX2_inclinesAdded_11 rfl (lv_at hl 2 rfl) ?_
      refine lv_iload_n hx hb dX2_inclinesAdded_12 rfl (lv_at hl 0 rfl) ?_
      refine z_callVp (As := [.int (zI on)]) (rest := [.int (zI su)]) (C := RX2) (T := TX2) (N := 8) F hK hz hl (c_X2_inclineOf l D cI cJ cZ o ai ad am ah ch inc T tm yr on (by omega) (by first | assumption | omega)) (cwV 1 hts gX2_inclinesAdded_X2_inclineOf rfl rfl rfl (by decide +kernel) ⟨Nat.le_of_ble_eq_true rfl, Nat.le_of_ble_eq_true rfl⟩) rfl 0 rfl [0, 1] rfl rfl rfl rfl (Nat.le_of_ble_eq_true rfl) ⟨Nat.le_of_ble_eq_true rfl, Nat.le_of_ble_eq_true rfl⟩ dX2_inclinesAdded_13 ?_
      have hi1 := inO_bd (T := T) hbi (by decide) on
      refine z_iadd hx hb dX2_inclinesAdded_16 ?_
      refine lv_istore_n (lv' := [(1, .int (zI (su + (inO T inc on)))), (2, .int (zI on)), (0, .ref o)]) hx hb dX2_inclinesAdded_17 rfl hl (Nat.le_of_ble_eq_true rfl) rfl (fun ls hl => ?_)
      refine z_iinc (lv' := [(2, .int (zI (on + 1))), (1, .int (zI (su + (inO T inc on)))), (0, .ref o)]) hx hb dX2_inclinesAdded_18 hl (k := 1) rfl (Nat.le_of_ble_eq_true rfl) rfl (fun ls hl => ?_)
      refine lv_goto (tgt := 4) hx hb dX2_inclinesAdded_21 (by decide) ?_
      exact ih4 _ (by omega) (on + 1) (su + (inO T inc on)) ls rfl (by omega) (by omega) (by rw [sumZ_s h0.1, hp]) (lv_sub hl [0, 1, 2] rfl)
  exact L4 _ 0 0 ls rfl (by decide) (by decide) (rfl) (lv_sub hl [0, 1, 2] rfl)

set_option maxRecDepth 20000 in
theorem hin_X2_separate_X2 : ∀ w ∈ u_ws RX2 TX2 8, w ∈ wsX2_separate := by decide +kernel
set_option maxRecDepth 20000 in
theorem fl_X2_separate_18 : Cond.fieldLink RX2 18 "HornCity$City" "mates" "[I" ∈ wsX2_separate := by decide +kernel
set_option maxHeartbeats 4000000 in
set_option maxRecDepth 100000 in
theorem c_X2_separate (l : Launch) (D : va_G) (cI cJ cZ : ClassId) (o ai ad am ah ch : Nat) (mat : Int → Int) (T tm yr one : Int) (hr : (-2147483648 ≤ one ∧ one ≤ 2147483647)) (hT : 0 ≤ T ∧ T < 512) (hbm : zBd mat 9 (-6) 8) : zMw l yX2_separate wsX2_separate (zRm 2) D cI cJ cZ [.ref o, .int (zI one)] [(o, .inr (2, [.ref ai, .ref ad, .ref am, .ref ah, .ref ch, .int (zI T), .int (zI tm), .int (zI yr)])), (am, .inl (cI, 9, .inl (zA mat)))] (S := (Int → Int)) (fun u => u = sepM T mat one) (fun _ => none) (fun u => [(o, .inr (2, [.ref ai, .ref ad, .ref am, .ref ah, .ref ch, .int (zI T), .int (zI tm), .int (zI yr)])), (am, .inl (cI, 9, .inl (zA u)))]) := by
  refine zMw_v (cc := cX2_separate) (maxL := 3) (by decide +kernel) rfl (Nat.le_of_ble_eq_true rfl) rfl (fun _ => rfl) ?_
  intro p e s m args below meth c Q H0 ls F hK hz hl hret
  obtain ⟨hx, hb, hml, hown0, hts⟩ := id F
  have hown : s.vm.findClass RX2 = some m.cls := hown0
  obtain ⟨ws0, hw0⟩ : ∃ w : va_W, w = [(o, .inr (2, [.ref ai, .ref ad, .ref am, .ref ah, .ref ch, .int (zI T), .int (zI tm), .int (zI yr)])), (am, .inl (cI, 9, .inl (zA mat)))] := ⟨_, rfl⟩
  rw [← hw0] at hret
  have hz : zH D (zF ws0) H0 [(o, .inr (2, [.ref ai, .ref ad, .ref am, .ref ah, .ref ch, .int (zI T), .int (zI tm), .int (zI yr)])), (am, .inl (cI, 9, .inl (zA mat)))] H0 [] := by rw [hw0]; exact hz
  have hl : lv_has ls 3 [(0, .ref o), (1, .int (zI one))] := hl
  refine lv_aload_n hx hb dX2_separate_0 rfl (lv_at hl 0 rfl) ?_
  refine lv_iload_n hx hb dX2_separate_1 rfl (lv_at hl 1 rfl) ?_
  refine z_callVp (As := [.int (zI one)]) (rest := []) (C := RX2) (T := TX2) (N := 8) F hK hz hl (c_X2_mateOf l D cI cJ cZ o ai ad am ah ch mat T tm yr one (by omega) (by first | assumption | omega)) (cwV 1 hts gX2_separate_X2_mateOf rfl rfl rfl (by decide +kernel) ⟨Nat.le_of_ble_eq_true rfl, Nat.le_of_ble_eq_true rfl⟩) rfl 0 rfl [0, 1] rfl rfl rfl rfl (Nat.le_of_ble_eq_true rfl) ⟨Nat.le_of_ble_eq_true rfl, Nat.le_of_ble_eq_true rfl⟩ dX2_separate_2 ?_
  have hm1 := maO_bd (T := T) hbm one
  refine lv_istore_n (lv' := [(2, .int (zI (maO T mat one))), (0, .ref o), (1, .int (zI one))]) hx hb dX2_separate_5 rfl hl (Nat.le_of_ble_eq_true rfl) rfl (fun ls hl => ?_)
  refine lv_aload_n hx hb dX2_separate_6 rfl (lv_at hl 1 rfl) ?_
  refine lv_iload_n hx hb dX2_separate_7 rfl (lv_at hl 2 rfl) ?_
  refine z_callVp (As := [.int (zI one)]) (rest := []) (C := RX2) (T := TX2) (N := 8) F hK hz hl (c_X2_isThere l D cI cJ cZ o ai ad am ah ch T tm yr one (by omega) (by first | assumption | omega)) (cwV 1 hts gX2_separate_X2_isThere rfl rfl rfl (by decide +kernel) ⟨Nat.le_of_ble_eq_true rfl, Nat.le_of_ble_eq_true rfl⟩) rfl 0 rfl [0] rfl rfl rfl rfl (Nat.le_of_ble_eq_true rfl) ⟨Nat.le_of_ble_eq_true rfl, Nat.le_of_ble_eq_true rfl⟩ dX2_separate_8 ?_
  refine z_ifb_eq (tgt := 38) hx hb dX2_separate_11 (by decide) (fun h11 => ?_) (fun h11 => ?_)
  ·
    exact hret ((mat : Int → Int)) dX2_separate_38 (show mat = sepM T mat one from (by simp [sepM, h11])) hz
  ·
    refine lv_aload_n hx hb dX2_separate_14 rfl (lv_at hl 1 rfl) ?_
    refine lv_iload_n hx hb dX2_separate_15 rfl (lv_at hl 0 rfl) ?_
    refine z_callVp (As := [.int (zI (maO T mat one))]) (rest := []) (C := RX2) (T := TX2) (N := 8) F hK hz hl (c_X2_isThere l D cI cJ cZ o ai ad am ah ch T tm yr (maO T mat one) (by omega) (by first | assumption | omega)) (cwV 1 hts gX2_separate_X2_isThere rfl rfl rfl (by decide +kernel) ⟨Nat.le_of_ble_eq_true rfl, Nat.le_of_ble_eq_true rfl⟩) rfl 0 rfl [0] rfl rfl rfl rfl (Nat.le_of_ble_eq_true rfl) ⟨Nat.le_of_ble_eq_true rfl, Nat.le_of_ble_eq_true rfl⟩ dX2_separate_16 ?_
    refine z_ifb_eq (tgt := 38) hx hb dX2_separate_19 (by decide) (fun h19 => ?_) (fun h19 => ?_)
    ·
      exact hret ((mat : Int → Int)) dX2_separate_38 (show mat = sepM T mat one from (by simp [sepM, h11, h19])) hz
    ·
      refine lv_aload_n hx hb dX2_separate_22 rfl (lv_at hl 1 rfl) ?_
      refine z_get (C := RX2) (T := TX2) (N := 8) (ref := "HornCity$City") hx hb hts hin_X2_separate_X2 hown hK hz 0 rfl rfl 2 (by decide) (hts _ fl_X2_separate_18) rfl rfl dX2_separate_23 ?_
      refine lv_iload_n hx hb dX2_separate_26 rfl (lv_at hl 2 rfl) ?_
      refine z_bipush hx hb dX2_separate_27 (by decide) ?_
      refine z_iast hx hb hK hz 1 rfl (inS.rng h11) (by decide) dX2_separate_29 (fun H locs hz => ?_)
      have hz : zH D (zF ws0) H0 [(o, .inr (2, [.ref ai, .ref ad, .ref am, .ref ah, .ref ch, .int (zI T), .int (zI tm), .int (zI yr)])), (am, .inl (cI, 9, .inl (zA (zU mat one (-6)))))] H locs := hz
      refine lv_aload_n hx hb dX2_separate_30 rfl (lv_at hl 1 rfl) ?_
      refine z_get (C := RX2) (T := TX2) (N := 8) (ref := "HornCity$City") hx hb hts hin_X2_separate_X2 hown hK hz 0 rfl rfl 2 (by decide) (hts _ fl_X2_separate_18) rfl rfl dX2_separate_31 ?_
      refine lv_iload_n hx hb dX2_separate_34 rfl (lv_at hl 0 rfl) ?_
      refine z_bipush hx hb dX2_separate_35 (by decide) ?_
      refine z_iast hx hb hK hz 1 rfl (inS.rng h19) (by decide) dX2_separate_37 (fun H locs hz => ?_)
      have hz : zH D (zF ws0) H0 [(o, .inr (2, [.ref ai, .ref ad, .ref am, .ref ah, .ref ch, .int (zI T), .int (zI tm), .int (zI yr)])), (am, .inl (cI, 9, .inl (zA (zU (zU mat one (-6)) (maO T mat one) (-6)))))] H locs := hz
      exact hret ((zU (zU mat one (-6)) (maO T mat one) (-6) : Int → Int)) dX2_separate_38 (show (zU (zU mat one (-6)) (maO T mat one) (-6)) = sepM T mat one from (by simp [sepM, h11, h19])) hz

set_option maxRecDepth 20000 in
theorem hin_X2_seat_X2 : ∀ w ∈ u_ws RX2 TX2 8, w ∈ wsX2_seat := by decide +kernel
set_option maxRecDepth 20000 in
theorem fl_X2_seat_18 : Cond.fieldLink RX2 18 "HornCity$City" "mates" "[I" ∈ wsX2_seat := by decide +kernel
set_option maxHeartbeats 4000000 in
set_option maxRecDepth 100000 in
theorem c_X2_seat (l : Launch) (D : va_G) (cI cJ cZ : ClassId) (o ai ad am ah ch : Nat) (mat : Int → Int) (T tm yr one other : Int) (hr : (-2147483648 ≤ one ∧ one ≤ 2147483647) ∧ (-2147483648 ≤ other ∧ other ≤ 2147483647)) (hT : 0 ≤ T ∧ T < 512) : zMw l yX2_seat wsX2_seat (zRm 1) D cI cJ cZ [.ref o, .int (zI one), .int (zI other)] [(o, .inr (2, [.ref ai, .ref ad, .ref am, .ref ah, .ref ch, .int (zI T), .int (zI tm), .int (zI yr)])), (am, .inl (cI, 9, .inl (zA mat)))] (S := (Int → Int)) (fun u => u = seaM T mat one other) (fun _ => none) (fun u => [(o, .inr (2, [.ref ai, .ref ad, .ref am, .ref ah, .ref ch, .int (zI T), .int (zI tm), .int (zI yr)])), (am, .inl (cI, 9, .inl (zA u)))]) := by
  refine zMw_v (cc := cX2_seat) (maxL := 3) (by decide +kernel) rfl (Nat.le_of_ble_eq_true rfl) rfl (fun _ => rfl) ?_
  intro p e s m args below meth c Q H0 ls F hK hz hl hret
  obtain ⟨hx, hb, hml, hown0, hts⟩ := id F
  have hown : s.vm.findClass RX2 = some m.cls := hown0
  obtain ⟨ws0, hw0⟩ : ∃ w : va_W, w = [(o, .inr (2, [.ref ai, .ref ad, .ref am, .ref ah, .ref ch, .int (zI T), .int (zI tm), .int (zI yr)])), (am, .inl (cI, 9, .inl (zA mat)))] := ⟨_, rfl⟩
  rw [← hw0] at hret
  have hz : zH D (zF ws0) H0 [(o, .inr (2, [.ref ai, .ref ad, .ref am, .ref ah, .ref ch, .int (zI T), .int (zI tm), .int (zI yr)])), (am, .inl (cI, 9, .inl (zA mat)))] H0 [] := by rw [hw0]; exact hz
  have hl : lv_has ls 3 [(0, .ref o), (1, .int (zI one)), (2, .int (zI other))] := hl
  refine lv_aload_n hx hb dX2_seat_0 rfl (lv_at hl 0 rfl) ?_
  refine lv_iload_n hx hb dX2_seat_1 rfl (lv_at hl 1 rfl) ?_
  refine z_callVp (As := [.int (zI one)]) (rest := []) (C := RX2) (T := TX2) (N := 8) F hK hz hl (c_X2_isThere l D cI cJ cZ o ai ad am ah ch T tm yr one (by omega) (by first | assumption | omega)) (cwV 1 hts gX2_seat_X2_isThere rfl rfl rfl (by decide +kernel) ⟨Nat.le_of_ble_eq_true rfl, Nat.le_of_ble_eq_true rfl⟩) rfl 0 rfl [0] rfl rfl rfl rfl (Nat.le_of_ble_eq_true rfl) ⟨Nat.le_of_ble_eq_true rfl, Nat.le_of_ble_eq_true rfl⟩ dX2_seat_2 ?_
  refine z_ifb_eq (tgt := 30) hx hb dX2_seat_5 (by decide) (fun h5 => ?_) (fun h5 => ?_)
  ·
    exact hret ((mat : Int → Int)) dX2_seat_30 (show mat = seaM T mat one other from (by simp [seaM, h5])) hz
  ·
    refine lv_aload_n hx hb dX2_seat_8 rfl (lv_at hl 0 rfl) ?_
    refine lv_iload_n hx hb dX2_seat_9 rfl (lv_at hl 2 rfl) ?_
    refine z_callVp (As := [.int (zI other)]) (rest := []) (C := RX2) (T := TX2) (N := 8) F hK hz hl (c_X2_isThere l D cI cJ cZ o ai ad am ah ch T tm yr other (by omega) (by first | assumption | omega)) (cwV 1 hts gX2_seat_X2_isThere rfl rfl rfl (by decide +kernel) ⟨Nat.le_of_ble_eq_true rfl, Nat.le_of_ble_eq_true rfl⟩) rfl 0 rfl [0] rfl rfl rfl rfl (Nat.le_of_ble_eq_true rfl) ⟨Nat.le_of_ble_eq_true rfl, Nat.le_of_ble_eq_true rfl⟩ dX2_seat_10 ?_
    refine z_ifb_eq (tgt := 30) hx hb dX2_seat_13 (by decide) (fun h13 => ?_) (fun h13 => ?_)
    ·
      exact hret ((mat : Int → Int)) dX2_seat_30 (show mat = seaM T mat one other from (by simp [seaM, h5, h13])) hz
    ·
      refine lv_aload_n hx hb dX2_seat_16 rfl (lv_at hl 0 rfl) ?_
      refine z_get (C := RX2) (T := TX2) (N := 8) (ref := "HornCity$City") hx hb hts hin_X2_seat_X2 hown hK hz 0 rfl rfl 2 (by decide) (hts _ fl_X2_seat_18) rfl rfl dX2_seat_17 ?_
      refine lv_iload_n hx hb dX2_seat_20 rfl (lv_at hl 1 rfl) ?_
      refine lv_iload_n hx hb dX2_seat_21 rfl (lv_at hl 2 rfl) ?_
      refine z_iast hx hb hK hz 1 rfl (inS.rng h5) (by decide) dX2_seat_22 (fun H locs hz => ?_)
      have hz : zH D (zF ws0) H0 [(o, .inr (2, [.ref ai, .ref ad, .ref am, .ref ah, .ref ch, .int (zI T), .int (zI tm), .int (zI yr)])), (am, .inl (cI, 9, .inl (zA (zU mat one other))))] H locs := hz
      refine lv_aload_n hx hb dX2_seat_23 rfl (lv_at hl 0 rfl) ?_
      refine z_get (C := RX2) (T := TX2) (N := 8) (ref := "HornCity$City") hx hb hts hin_X2_seat_X2 hown hK hz 0 rfl rfl 2 (by decide) (hts _ fl_X2_seat_18) rfl rfl dX2_seat_24 ?_
      refine lv_iload_n hx hb dX2_seat_27 rfl (lv_at hl 2 rfl) ?_
      refine lv_iload_n hx hb dX2_seat_28 rfl (lv_at hl 1 rfl) ?_
      refine z_iast hx hb hK hz 1 rfl (inS.rng h13) (by decide) dX2_seat_29 (fun H locs hz => ?_)
      have hz : zH D (zF ws0) H0 [(o, .inr (2, [.ref ai, .ref ad, .ref am, .ref ah, .ref ch, .int (zI T), .int (zI tm), .int (zI yr)])), (am, .inl (cI, 9, .inl (zA (zU (zU mat one other) other one))))] H locs := hz
      exact hret ((zU (zU mat one other) other one : Int → Int)) dX2_seat_30 (show (zU (zU mat one other) other one) = seaM T mat one other from (by simp [seaM, h5, h13])) hz
