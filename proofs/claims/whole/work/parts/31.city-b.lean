set_option maxRecDepth 20000 in
theorem hin_X2_whyNot_X2 : ∀ w ∈ u_ws RX2 TX2 8, w ∈ wsX2_whyNot := by decide +kernel
set_option maxRecDepth 20000 in
theorem fl_X2_whyNot_42 : Cond.fieldLink RX2 42 "HornCity$City" "year" "I" ∈ wsX2_whyNot := by decide +kernel
set_option maxHeartbeats 4000000 in
set_option maxRecDepth 100000 in
theorem c_X2_whyNot (l : Launch) (D : va_G) (cI cJ cZ : ClassId) (o ai ad am ah ch : Nat) (mat : Int → Int) (T tm yr kind one w : Int) (hr : (-2147483648 ≤ kind ∧ kind ≤ 2147483647) ∧ (-2147483648 ≤ one ∧ one ≤ 2147483647) ∧ (-2147483648 ≤ w ∧ w ≤ 2147483647)) (hT : 0 ≤ T ∧ T < 512) (hbm : zBd mat 9 (-6) 8) (hyr : 0 ≤ yr ∧ yr ≤ 100000) : zMp l yX2_whyNot wsX2_whyNot (zRm 2) D cI cJ cZ [.ref o, .int (zI kind), .int (zI one), .int (zI w)] [(o, .inr (2, [.ref ai, .ref ad, .ref am, .ref ah, .ref ch, .int (zI T), .int (zI tm), .int (zI yr)])), (am, .inl (cI, 9, .inl (zA mat)))] (some (.int (zI (whyS T mat yr kind one w)))) := by
  refine zMp_i (cc := cX2_whyNot) (maxL := 4) (by decide +kernel) rfl (Nat.le_of_ble_eq_true rfl) rfl ?_
  intro p e s m args below meth c Q H ls F hK hz hl hret
  obtain ⟨hx, hb, hml, hown0, hts⟩ := id F
  have hown : s.vm.findClass RX2 = some m.cls := hown0
  obtain ⟨ws0, hw0⟩ : ∃ w : va_W, w = [(o, .inr (2, [.ref ai, .ref ad, .ref am, .ref ah, .ref ch, .int (zI T), .int (zI tm), .int (zI yr)])), (am, .inl (cI, 9, .inl (zA mat)))] := ⟨_, rfl⟩
  have hz : zH D (zF ws0) H [(o, .inr (2, [.ref ai, .ref ad, .ref am, .ref ah, .ref ch, .int (zI T), .int (zI tm), .int (zI yr)])), (am, .inl (cI, 9, .inl (zA mat)))] H [] := by rw [hw0]; exact hz
  have hl : lv_has ls 4 [(0, .ref o), (1, .int (zI kind)), (2, .int (zI one)), (3, .int (zI w))] := hl
  refine lv_iload_n hx hb dX2_whyNot_0 rfl (lv_at hl 1 rfl) ?_
  refine z_bipush hx hb dX2_whyNot_1 (by decide) ?_
  refine z_icmp_ne (tgt := 22) hx hb dX2_whyNot_3 (by decide) (by omega) (by decide) (fun h3 => ?_) (fun h3 => ?_)
  ·
    refine lv_aload_n hx hb dX2_whyNot_22 rfl (lv_at hl 0 rfl) ?_
    refine lv_iload_n hx hb dX2_whyNot_23 rfl (lv_at hl 2 rfl) ?_
    refine z_callVp (As := [.int (zI one)]) (rest := []) (C := RX2) (T := TX2) (N := 8) F hK hz hl (c_X2_isThere l D cI cJ cZ o ai ad am ah ch T tm yr one (by omega) (by first | assumption | omega)) (cwV 1 hts gX2_whyNot_X2_isThere rfl rfl rfl (by decide +kernel) ⟨Nat.le_of_ble_eq_true rfl, Nat.le_of_ble_eq_true rfl⟩) rfl 0 rfl [0] rfl rfl rfl rfl (Nat.le_of_ble_eq_true rfl) ⟨Nat.le_of_ble_eq_true rfl, Nat.le_of_ble_eq_true rfl⟩ dX2_whyNot_24 ?_
    refine z_ifb_eq (tgt := 44) hx hb dX2_whyNot_27 (by decide) (fun h27 => ?_) (fun h27 => ?_)
    ·
      refine z_iconst hx hb dX2_whyNot_44 ?_
      exact hret dX2_whyNot_45 (congrArg (fun z => some (Value.int (zI z))) (show (1 : Int) = (whyS T mat yr kind one w) by simp [whyS, h3, h27]))
    ·
      refine lv_iload_n hx hb dX2_whyNot_30 rfl (lv_at hl 1 rfl) ?_
      refine z_bipush hx hb dX2_whyNot_31 (by decide) ?_
      refine z_icmp_ne (tgt := 46) hx hb dX2_whyNot_33 (by decide) (by omega) (by decide) (fun h33 => ?_) (fun h33 => ?_)
      ·
        refine lv_iload_n hx hb dX2_whyNot_46 rfl (lv_at hl 1 rfl) ?_
        refine z_bipush hx hb dX2_whyNot_47 (by decide) ?_
        refine z_icmp_ne (tgt := 85) hx hb dX2_whyNot_49 (by decide) (by omega) (by decide) (fun h49 => ?_) (fun h49 => ?_)
        ·
          refine lv_iload_n hx hb dX2_whyNot_85 rfl (lv_at hl 1 rfl) ?_
          refine z_bipush hx hb dX2_whyNot_86 (by decide) ?_
          refine z_icmp_ne (tgt := 105) hx hb dX2_whyNot_88 (by decide) (by omega) (by decide) (fun h88 => ?_) (fun h88 => ?_)
          ·
            refine z_iconst hx hb dX2_whyNot_105 ?_
            exact hret dX2_whyNot_106 (congrArg (fun z => some (Value.int (zI z))) (show (0 : Int) = (whyS T mat yr kind one w) by simp [whyS, h3, h27, h33, h49, h88]))
          ·
            refine lv_aload_n hx hb dX2_whyNot_91 rfl (lv_at hl 0 rfl) ?_
            refine lv_iload_n hx hb dX2_whyNot_92 rfl (lv_at hl 2 rfl) ?_
            refine z_callVp (As := [.int (zI one)]) (rest := []) (C := RX2) (T := TX2) (N := 8) F hK hz hl (c_X2_mateOf l D cI cJ cZ o ai ad am ah ch mat T tm yr one (by omega) (by first | assumption | omega)) (cwV 1 hts gX2_whyNot_X2_mateOf rfl rfl rfl (by decide +kernel) ⟨Nat.le_of_ble_eq_true rfl, Nat.le_of_ble_eq_true rfl⟩) rfl 0 rfl [0, 1] rfl rfl rfl rfl (Nat.le_of_ble_eq_true rfl) ⟨Nat.le_of_ble_eq_true rfl, Nat.le_of_ble_eq_true rfl⟩ dX2_whyNot_93 ?_
            have hm1 := maO_bd (T := T) hbm one
            refine z_bipush hx hb dX2_whyNot_96 (by decide) ?_
            refine z_icmp_ne (tgt := 105) hx hb dX2_whyNot_98 (by decide) (by omega) (by decide) (fun h98 => ?_) (fun h98 => ?_)
            ·
              refine z_iconst hx hb dX2_whyNot_105 ?_
              exact hret dX2_whyNot_106 (congrArg (fun z => some (Value.int (zI z))) (show (0 : Int) = (whyS T mat yr kind one w) by simp [whyS, h3, h27, h33, h49, h88, h98]))
            ·
              refine z_iconst hx hb dX2_whyNot_101 ?_
              refine lv_goto (tgt := 106) hx hb dX2_whyNot_102 (by decide) ?_
              exact hret dX2_whyNot_106 (congrArg (fun z => some (Value.int (zI z))) (show (3 : Int) = (whyS T mat yr kind one w) by simp [whyS, h3, h27, h33, h49, h88, h98]))
        ·
          exfalso
          first | omega | (revert h49; simp_all; done) | simp_all
      ·
        refine lv_aload_n hx hb dX2_whyNot_36 rfl (lv_at hl 0 rfl) ?_
        refine lv_iload_n hx hb dX2_whyNot_37 rfl (lv_at hl 3 rfl) ?_
        refine z_callVp (As := [.int (zI w)]) (rest := []) (C := RX2) (T := TX2) (N := 8) F hK hz hl (c_X2_isThere l D cI cJ cZ o ai ad am ah ch T tm yr w (by omega) (by first | assumption | omega)) (cwV 1 hts gX2_whyNot_X2_isThere rfl rfl rfl (by decide +kernel) ⟨Nat.le_of_ble_eq_true rfl, Nat.le_of_ble_eq_true rfl⟩) rfl 0 rfl [0] rfl rfl rfl rfl (Nat.le_of_ble_eq_true rfl) ⟨Nat.le_of_ble_eq_true rfl, Nat.le_of_ble_eq_true rfl⟩ dX2_whyNot_38 ?_
        refine z_ifb_ne (tgt := 46) hx hb dX2_whyNot_41 (by decide) (fun h41 => ?_) (fun h41 => ?_)
        ·
          refine lv_iload_n hx hb dX2_whyNot_46 rfl (lv_at hl 1 rfl) ?_
          refine z_bipush hx hb dX2_whyNot_47 (by decide) ?_
          refine z_icmp_ne (tgt := 85) hx hb dX2_whyNot_49 (by decide) (by omega) (by decide) (fun h49 => ?_) (fun h49 => ?_)
          ·
            exfalso
            first | omega | (revert h49; simp_all; done) | simp_all
          ·
            refine lv_iload_n hx hb dX2_whyNot_52 rfl (lv_at hl 2 rfl) ?_
            refine lv_iload_n hx hb dX2_whyNot_53 rfl (lv_at hl 3 rfl) ?_
            refine z_icmp_ne (tgt := 59) hx hb dX2_whyNot_54 (by decide) (by omega) (by omega) (fun h54 => ?_) (fun h54 => ?_)
            ·
              refine lv_aload_n hx hb dX2_whyNot_59 rfl (lv_at hl 0 rfl) ?_
              refine lv_iload_n hx hb dX2_whyNot_60 rfl (lv_at hl 2 rfl) ?_
              refine z_callVp (As := [.int (zI one)]) (rest := []) (C := RX2) (T := TX2) (N := 8) F hK hz hl (c_X2_mateOf l D cI cJ cZ o ai ad am ah ch mat T tm yr one (by omega) (by first | assumption | omega)) (cwV 1 hts gX2_whyNot_X2_mateOf rfl rfl rfl (by decide +kernel) ⟨Nat.le_of_ble_eq_true rfl, Nat.le_of_ble_eq_true rfl⟩) rfl 0 rfl [0, 1] rfl rfl rfl rfl (Nat.le_of_ble_eq_true rfl) ⟨Nat.le_of_ble_eq_true rfl, Nat.le_of_ble_eq_true rfl⟩ dX2_whyNot_61 ?_
              have hm1 := maO_bd (T := T) hbm one
              refine z_bipush hx hb dX2_whyNot_64 (by decide) ?_
              refine z_icmp_ne (tgt := 79) hx hb dX2_whyNot_66 (by decide) (by omega) (by decide) (fun h66 => ?_) (fun h66 => ?_)
              ·
                refine z_iconst hx hb dX2_whyNot_79 ?_
                refine lv_goto (tgt := 84) hx hb dX2_whyNot_80 (by decide) ?_
                exact hret dX2_whyNot_84 (congrArg (fun z => some (Value.int (zI z))) (show (3 : Int) = (whyS T mat yr kind one w) by simp [whyS, h3, h27, h33, h41, h49, h54, h66]))
              ·
                refine lv_aload_n hx hb dX2_whyNot_69 rfl (lv_at hl 0 rfl) ?_
                refine lv_iload_n hx hb dX2_whyNot_70 rfl (lv_at hl 3 rfl) ?_
                refine z_callVp (As := [.int (zI w)]) (rest := []) (C := RX2) (T := TX2) (N := 8) F hK hz hl (c_X2_mateOf l D cI cJ cZ o ai ad am ah ch mat T tm yr w (by omega) (by first | assumption | omega)) (cwV 1 hts gX2_whyNot_X2_mateOf rfl rfl rfl (by decide +kernel) ⟨Nat.le_of_ble_eq_true rfl, Nat.le_of_ble_eq_true rfl⟩) rfl 0 rfl [0, 1] rfl rfl rfl rfl (Nat.le_of_ble_eq_true rfl) ⟨Nat.le_of_ble_eq_true rfl, Nat.le_of_ble_eq_true rfl⟩ dX2_whyNot_71 ?_
                have hm2 := maO_bd (T := T) hbm w
                refine z_bipush hx hb dX2_whyNot_74 (by decide) ?_
                refine z_icmp_eq (tgt := 83) hx hb dX2_whyNot_76 (by decide) (by omega) (by decide) (fun h76 => ?_) (fun h76 => ?_)
                ·
                  refine z_iconst hx hb dX2_whyNot_83 ?_
                  exact hret dX2_whyNot_84 (congrArg (fun z => some (Value.int (zI z))) (show (0 : Int) = (whyS T mat yr kind one w) by simp [whyS, h3, h27, h33, h41, h49, h54, h66, h76]))
                ·
                  refine z_iconst hx hb dX2_whyNot_79 ?_
                  refine lv_goto (tgt := 84) hx hb dX2_whyNot_80 (by decide) ?_
                  exact hret dX2_whyNot_84 (congrArg (fun z => some (Value.int (zI z))) (show (3 : Int) = (whyS T mat yr kind one w) by simp [whyS, h3, h27, h33, h41, h49, h54, h66, h76]))
            ·
              refine z_iconst hx hb dX2_whyNot_57 ?_
              exact hret dX2_whyNot_58 (congrArg (fun z => some (Value.int (zI z))) (show (2 : Int) = (whyS T mat yr kind one w) by simp [whyS, h3, h27, h33, h41, h49, h54]))
        ·
          refine z_iconst hx hb dX2_whyNot_44 ?_
          exact hret dX2_whyNot_45 (congrArg (fun z => some (Value.int (zI z))) (show (1 : Int) = (whyS T mat yr kind one w) by simp [whyS, h3, h27, h33, h41]))
  ·
    refine lv_aload_n hx hb dX2_whyNot_6 rfl (lv_at hl 0 rfl) ?_
    refine z_get (C := RX2) (T := TX2) (N := 8) (ref := "HornCity$City") hx hb hts hin_X2_whyNot_X2 hown hK hz 0 rfl rfl 7 (by decide) (hts _ fl_X2_whyNot_42) rfl rfl dX2_whyNot_7 ?_
    refine z_sipush hx hb dX2_whyNot_10 (by decide) ?_
    refine z_icmp_lt (tgt := 20) hx hb dX2_whyNot_13 (by decide) (by omega) (by decide) (fun h13 => ?_) (fun h13 => ?_)
    ·
      refine z_iconst hx hb dX2_whyNot_20 ?_
      exact hret dX2_whyNot_21 (congrArg (fun z => some (Value.int (zI z))) (show (0 : Int) = (whyS T mat yr kind one w) by simp [whyS, h3, h13]))
    ·
      refine z_iconst hx hb dX2_whyNot_16 ?_
      refine lv_goto (tgt := 21) hx hb dX2_whyNot_17 (by decide) ?_
      exact hret dX2_whyNot_21 (congrArg (fun z => some (Value.int (zI z))) (show (4 : Int) = (whyS T mat yr kind one w) by simp [whyS, h3, h13]))

set_option maxRecDepth 20000 in
theorem hin_X2_turnBy_X2 : ∀ w ∈ u_ws RX2 TX2 8, w ∈ wsX2_turnBy := by decide +kernel
set_option maxRecDepth 20000 in
theorem fl_X2_turnBy_9 : Cond.fieldLink RX2 9 "HornCity$City" "inclines" "[I" ∈ wsX2_turnBy := by decide +kernel
set_option maxHeartbeats 4000000 in
set_option maxRecDepth 100000 in
theorem c_X2_turnBy (l : Launch) (D : va_G) (cI cJ cZ : ClassId) (o ai ad am ah ch : Nat) (inc : Int → Int) (T tm yr one degrees : Int) (hr : (-2147483648 ≤ one ∧ one ≤ 2147483647)) (hT : 0 ≤ T ∧ T < 512) (hbi : zBd inc 9 0 179) (hd : -1000000 ≤ degrees ∧ degrees ≤ 1000000) : zMw l yX2_turnBy wsX2_turnBy (zRm 1) D cI cJ cZ [.ref o, .int (zI one), .int (zI degrees)] [(o, .inr (2, [.ref ai, .ref ad, .ref am, .ref ah, .ref ch, .int (zI T), .int (zI tm), .int (zI yr)])), (ai, .inl (cI, 9, .inl (zA inc)))] (S := (Int → Int)) (fun u => u = turI T inc one degrees) (fun _ => none) (fun u => [(o, .inr (2, [.ref ai, .ref ad, .ref am, .ref ah, .ref ch, .int (zI T), .int (zI tm), .int (zI yr)])), (ai, .inl (cI, 9, .inl (zA u)))]) := by
  refine zMw_v (cc := cX2_turnBy) (maxL := 3) (by decide +kernel) rfl (Nat.le_of_ble_eq_true rfl) rfl (fun _ => rfl) ?_
  intro p e s m args below meth c Q H0 ls F hK hz hl hret
  obtain ⟨hx, hb, hml, hown0, hts⟩ := id F
  have hown : s.vm.findClass RX2 = some m.cls := hown0
  obtain ⟨ws0, hw0⟩ : ∃ w : va_W, w = [(o, .inr (2, [.ref ai, .ref ad, .ref am, .ref ah, .ref ch, .int (zI T), .int (zI tm), .int (zI yr)])), (ai, .inl (cI, 9, .inl (zA inc)))] := ⟨_, rfl⟩
  rw [← hw0] at hret
  have hz : zH D (zF ws0) H0 [(o, .inr (2, [.ref ai, .ref ad, .ref am, .ref ah, .ref ch, .int (zI T), .int (zI tm), .int (zI yr)])), (ai, .inl (cI, 9, .inl (zA inc)))] H0 [] := by rw [hw0]; exact hz
  have hl : lv_has ls 3 [(0, .ref o), (1, .int (zI one)), (2, .int (zI degrees))] := hl
  refine lv_aload_n hx hb dX2_turnBy_0 rfl (lv_at hl 0 rfl) ?_
  refine lv_iload_n hx hb dX2_turnBy_1 rfl (lv_at hl 1 rfl) ?_
  refine z_callVp (As := [.int (zI one)]) (rest := []) (C := RX2) (T := TX2) (N := 8) F hK hz hl (c_X2_isThere l D cI cJ cZ o ai ad am ah ch T tm yr one (by omega) (by first | assumption | omega)) (cwV 1 hts gX2_turnBy_X2_isThere rfl rfl rfl (by decide +kernel) ⟨Nat.le_of_ble_eq_true rfl, Nat.le_of_ble_eq_true rfl⟩) rfl 0 rfl [0] rfl rfl rfl rfl (Nat.le_of_ble_eq_true rfl) ⟨Nat.le_of_ble_eq_true rfl, Nat.le_of_ble_eq_true rfl⟩ dX2_turnBy_2 ?_
  refine z_ifb_eq (tgt := 25) hx hb dX2_turnBy_5 (by decide) (fun h5 => ?_) (fun h5 => ?_)
  ·
    exact hret ((inc : Int → Int)) dX2_turnBy_25 (by simp [turI, h5]) hz
  ·
    refine lv_aload_n hx hb dX2_turnBy_8 rfl (lv_at hl 0 rfl) ?_
    refine z_get (C := RX2) (T := TX2) (N := 8) (ref := "HornCity$City") hx hb hts hin_X2_turnBy_X2 hown hK hz 0 rfl rfl 0 (by decide) (hts _ fl_X2_turnBy_9) rfl rfl dX2_turnBy_9 ?_
    refine lv_iload_n hx hb dX2_turnBy_12 rfl (lv_at hl 1 rfl) ?_
    refine lv_aload_n hx hb dX2_turnBy_13 rfl (lv_at hl 0 rfl) ?_
    refine z_get (C := RX2) (T := TX2) (N := 8) (ref := "HornCity$City") hx hb hts hin_X2_turnBy_X2 hown hK hz 0 rfl rfl 0 (by decide) (hts _ fl_X2_turnBy_9) rfl rfl dX2_turnBy_14 ?_
    refine lv_iload_n hx hb dX2_turnBy_17 rfl (lv_at hl 1 rfl) ?_
    refine z_iald hx hb hK hz 1 rfl (inS.rng h5) (by decide) dX2_turnBy_18 ?_
    have hv18 := (hbi).ax one (inS.rng h5)
    refine lv_iload_n hx hb dX2_turnBy_19 rfl (lv_at hl 2 rfl) ?_
    refine z_iadd hx hb dX2_turnBy_20 ?_
    refine z_callSp (As := [.int (zI ((inc one) + degrees))]) (rest := [.int (zI one), .ref ai]) F hK hz hl (c_X5_leftOver l D cI cJ cZ ((inc one) + degrees) (by omega)) (va_cwS 1 hts gX2_turnBy_X5_leftOver rfl rfl rfl (by decide +kernel) ⟨Nat.le_of_ble_eq_true rfl, Nat.le_of_ble_eq_true rfl⟩) [] rfl rfl rfl rfl (Nat.le_of_ble_eq_true rfl) ⟨Nat.le_of_ble_eq_true rfl, Nat.le_of_ble_eq_true rfl⟩ dX2_turnBy_21 ?_
    refine z_iast hx hb hK hz 1 rfl (inS.rng h5) (by decide) dX2_turnBy_24 (fun H locs hz => ?_)
    have hz : zH D (zF ws0) H0 [(o, .inr (2, [.ref ai, .ref ad, .ref am, .ref ah, .ref ch, .int (zI T), .int (zI tm), .int (zI yr)])), (ai, .inl (cI, 9, .inl (zA (zU inc one (((inc one) + degrees) % 180)))))] H locs := hz
    exact hret ((zU inc one (((inc one) + degrees) % 180) : Int → Int)) dX2_turnBy_25 (by simp [turI, h5]) hz

set_option maxRecDepth 20000 in
theorem hin_X2_drawOf_X2 : ∀ w ∈ u_ws RX2 TX2 8, w ∈ wsX2_drawOf := by decide +kernel
set_option maxRecDepth 20000 in
theorem fl_X2_drawOf_18 : Cond.fieldLink RX2 18 "HornCity$City" "mates" "[I" ∈ wsX2_drawOf := by decide +kernel
set_option maxRecDepth 20000 in
theorem fl_X2_drawOf_21 : Cond.fieldLink RX2 21 "HornCity$City" "ahead" "[I" ∈ wsX2_drawOf := by decide +kernel
set_option maxHeartbeats 4000000 in
set_option maxRecDepth 100000 in
theorem c_X2_drawOf (l : Launch) (D : va_G) (cI cJ cZ : ClassId) (o ai ad am ah ch : Nat) (mat ahe : Int → Int) (T tm yr one : Int) (hr : (-2147483648 ≤ one ∧ one ≤ 2147483647)) (hT : 0 ≤ T ∧ T < 512) (hbm : zBd mat 9 (-6) 8) (hba : zBd ahe 9 0 179) : zMp l yX2_drawOf wsX2_drawOf (zRm 1) D cI cJ cZ [.ref o, .int (zI one)] [(o, .inr (2, [.ref ai, .ref ad, .ref am, .ref ah, .ref ch, .int (zI T), .int (zI tm), .int (zI yr)])), (am, .inl (cI, 9, .inl (zA mat))), (ah, .inl (cI, 9, .inl (zA ahe)))] (some (.int (zI (drS T mat ahe one)))) := by
  refine zMp_i (cc := cX2_drawOf) (maxL := 3) (by decide +kernel) rfl (Nat.le_of_ble_eq_true rfl) rfl ?_
  intro p e s m args below meth c Q H ls F hK hz hl hret
  obtain ⟨hx, hb, hml, hown0, hts⟩ := id F
  have hown : s.vm.findClass RX2 = some m.cls := hown0
  obtain ⟨ws0, hw0⟩ : ∃ w : va_W, w = [(o, .inr (2, [.ref ai, .ref ad, .ref am, .ref ah, .ref ch, .int (zI T), .int (zI tm), .int (zI yr)])), (am, .inl (cI, 9, .inl (zA mat))), (ah, .inl (cI, 9, .inl (zA ahe)))] := ⟨_, rfl⟩
  have hz : zH D (zF ws0) H [(o, .inr (2, [.ref ai, .ref ad, .ref am, .ref ah, .ref ch, .int (zI T), .int (zI tm), .int (zI yr)])), (am, .inl (cI, 9, .inl (zA mat))), (ah, .inl (cI, 9, .inl (zA ahe)))] H [] := by rw [hw0]; exact hz
  have hl : lv_has ls 3 [(0, .ref o), (1, .int (zI one))] := hl
  refine lv_aload_n hx hb dX2_drawOf_0 rfl (lv_at hl 0 rfl) ?_
  refine lv_iload_n hx hb dX2_drawOf_1 rfl (lv_at hl 1 rfl) ?_
  refine z_callVp (As := [.int (zI one)]) (rest := []) (C := RX2) (T := TX2) (N := 8) F hK hz hl (c_X2_isThere l D cI cJ cZ o ai ad am ah ch T tm yr one (by omega) (by first | assumption | omega)) (cwV 1 hts gX2_drawOf_X2_isThere rfl rfl rfl (by decide +kernel) ⟨Nat.le_of_ble_eq_true rfl, Nat.le_of_ble_eq_true rfl⟩) rfl 0 rfl [0] rfl rfl rfl rfl (Nat.le_of_ble_eq_true rfl) ⟨Nat.le_of_ble_eq_true rfl, Nat.le_of_ble_eq_true rfl⟩ dX2_drawOf_2 ?_
  refine z_ifb_eq (tgt := 21) hx hb dX2_drawOf_5 (by decide) (fun h5 => ?_) (fun h5 => ?_)
  ·
    refine z_iconst hx hb dX2_drawOf_21 ?_
    exact hret dX2_drawOf_22 (congrArg (fun z => some (Value.int (zI z))) (show (0 : Int) = (drS T mat ahe one) by simp [drS, h5]))
  ·
    refine lv_aload_n hx hb dX2_drawOf_8 rfl (lv_at hl 0 rfl) ?_
    refine lv_aload_n hx hb dX2_drawOf_9 rfl (lv_at hl 0 rfl) ?_
    refine z_get (C := RX2) (T := TX2) (N := 8) (ref := "HornCity$City") hx hb hts hin_X2_drawOf_X2 hown hK hz 0 rfl rfl 2 (by decide) (hts _ fl_X2_drawOf_18) rfl rfl dX2_drawOf_10 ?_
    refine lv_iload_n hx hb dX2_drawOf_13 rfl (lv_at hl 1 rfl) ?_
    refine z_iald hx hb hK hz 1 rfl (inS.rng h5) (by decide) dX2_drawOf_14 ?_
    have hv14 := (hbm).ax one (inS.rng h5)
    refine z_callVp (As := [.int (zI (mat one))]) (rest := []) (C := RX2) (T := TX2) (N := 8) F hK hz hl (c_X2_isThere l D cI cJ cZ o ai ad am ah ch T tm yr (mat one) (by omega) (by first | assumption | omega)) (cwV 1 hts gX2_drawOf_X2_isThere rfl rfl rfl (by decide +kernel) ⟨Nat.le_of_ble_eq_true rfl, Nat.le_of_ble_eq_true rfl⟩) rfl 0 rfl [0] rfl rfl rfl rfl (Nat.le_of_ble_eq_true rfl) ⟨Nat.le_of_ble_eq_true rfl, Nat.le_of_ble_eq_true rfl⟩ dX2_drawOf_15 ?_
    refine z_ifb_ne (tgt := 23) hx hb dX2_drawOf_18 (by decide) (fun h18 => ?_) (fun h18 => ?_)
    ·
      refine lv_aload_n hx hb dX2_drawOf_23 rfl (lv_at hl 0 rfl) ?_
      refine z_get (C := RX2) (T := TX2) (N := 8) (ref := "HornCity$City") hx hb hts hin_X2_drawOf_X2 hown hK hz 0 rfl rfl 3 (by decide) (hts _ fl_X2_drawOf_21) rfl rfl dX2_drawOf_24 ?_
      refine lv_aload_n hx hb dX2_drawOf_27 rfl (lv_at hl 0 rfl) ?_
      refine z_get (C := RX2) (T := TX2) (N := 8) (ref := "HornCity$City") hx hb hts hin_X2_drawOf_X2 hown hK hz 0 rfl rfl 2 (by decide) (hts _ fl_X2_drawOf_18) rfl rfl dX2_drawOf_28 ?_
      refine lv_iload_n hx hb dX2_drawOf_31 rfl (lv_at hl 1 rfl) ?_
      refine z_iald hx hb hK hz 1 rfl (inS.rng h5) (by decide) dX2_drawOf_32 ?_
      have hv32 := (hbm).ax one (inS.rng h5)
      refine z_iald hx hb hK hz 2 rfl (inS.rng h18) (by decide) dX2_drawOf_33 ?_
      have hv33 := (hba).ax (mat one) (inS.rng h18)
      refine lv_aload_n hx hb dX2_drawOf_34 rfl (lv_at hl 0 rfl) ?_
      refine z_get (C := RX2) (T := TX2) (N := 8) (ref := "HornCity$City") hx hb hts hin_X2_drawOf_X2 hown hK hz 0 rfl rfl 3 (by decide) (hts _ fl_X2_drawOf_21) rfl rfl dX2_drawOf_35 ?_
      refine lv_iload_n hx hb dX2_drawOf_38 rfl (lv_at hl 1 rfl) ?_
      refine z_iald hx hb hK hz 2 rfl (by omega) (by decide) dX2_drawOf_39 ?_
      have hv39 := (hba).ax one (by omega)
      refine z_isub hx hb dX2_drawOf_40 ?_
      refine z_callSp (As := [.int (zI ((ahe (mat one)) - (ahe one)))]) (rest := []) F hK hz hl (c_X5_leftOver l D cI cJ cZ ((ahe (mat one)) - (ahe one)) (by omega)) (va_cwS 1 hts gX2_drawOf_X5_leftOver rfl rfl rfl (by decide +kernel) ⟨Nat.le_of_ble_eq_true rfl, Nat.le_of_ble_eq_true rfl⟩) [] rfl rfl rfl rfl (Nat.le_of_ble_eq_true rfl) ⟨Nat.le_of_ble_eq_true rfl, Nat.le_of_ble_eq_true rfl⟩ dX2_drawOf_41 ?_
      refine lv_istore_n (lv' := [(2, .int (zI (((ahe (mat one)) - (ahe one)) % 180))), (0, .ref o), (1, .int (zI one))]) hx hb dX2_drawOf_44 rfl hl (Nat.le_of_ble_eq_true rfl) rfl (fun ls hl => ?_)
      refine lv_iload_n hx hb dX2_drawOf_45 rfl (lv_at hl 0 rfl) ?_
      refine z_if_ne (tgt := 51) hx hb dX2_drawOf_46 (by decide) (by omega) (fun h46 => ?_) (fun h46 => ?_)
      ·
        refine lv_iload_n hx hb dX2_drawOf_51 rfl (lv_at hl 0 rfl) ?_
        refine z_bipush hx hb dX2_drawOf_52 (by decide) ?_
        refine z_icmp_gt (tgt := 61) hx hb dX2_drawOf_54 (by decide) (by omega) (by decide) (fun h54 => ?_) (fun h54 => ?_)
        ·
          refine z_iconst hx hb dX2_drawOf_61 ?_
          exact hret dX2_drawOf_62 (congrArg (fun z => some (Value.int (zI z))) (show ((-1) : Int) = (drS T mat ahe one) by simp [drS, h5, h18, h46, h54]))
        ·
          refine z_iconst hx hb dX2_drawOf_57 ?_
          refine lv_goto (tgt := 62) hx hb dX2_drawOf_58 (by decide) ?_
          exact hret dX2_drawOf_62 (congrArg (fun z => some (Value.int (zI z))) (show (1 : Int) = (drS T mat ahe one) by simp [drS, h5, h18, h46, h54]))
      ·
        refine z_iconst hx hb dX2_drawOf_49 ?_
        exact hret dX2_drawOf_50 (congrArg (fun z => some (Value.int (zI z))) (show (0 : Int) = (drS T mat ahe one) by simp [drS, h5, h18, h46]))
    ·
      refine z_iconst hx hb dX2_drawOf_21 ?_
      exact hret dX2_drawOf_22 (congrArg (fun z => some (Value.int (zI z))) (show (0 : Int) = (drS T mat ahe one) by simp [drS, h5, h18]))
