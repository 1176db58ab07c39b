set_option maxRecDepth 20000 in
theorem hin_X10_yearsCanBe_X10 : ∀ w ∈ u_ws RX10 TX10 10, w ∈ wsX10_yearsCanBe := by decide +kernel
set_option maxRecDepth 20000 in
theorem fl_X10_yearsCanBe_29 : Cond.fieldLink RX10 29 "HornCity" "pad" "LHornCity$Pad;" ∈ wsX10_yearsCanBe := by decide +kernel
set_option maxRecDepth 20000 in
theorem fl_X10_yearsCanBe_36 : Cond.fieldLink RX10 36 "HornCity" "years" "LHornCity$Years;" ∈ wsX10_yearsCanBe := by decide +kernel
set_option maxRecDepth 20000 in
theorem fl_X10_yearsCanBe_10 : Cond.fieldLink RX10 10 "HornCity" "now" "LHornCity$City;" ∈ wsX10_yearsCanBe := by decide +kernel
set_option maxRecDepth 20000 in
theorem hin_X10_yearsCanBe_X9 : ∀ w ∈ u_ws RX9 TX9 6, w ∈ wsX10_yearsCanBe := by decide +kernel
set_option maxRecDepth 20000 in
theorem fl_X10_yearsCanBe_116 : Cond.fieldLink RX10 116 "HornCity$Years" "why" "I" ∈ wsX10_yearsCanBe := by decide +kernel
set_option maxHeartbeats 4000000 in
set_option maxRecDepth 100000 in
theorem c_X10_yearsCanBe (l : Launch) (D : va_G) (cI cJ cZ : ClassId) (hc on of os kp pd ys tu as tk ck o kd ai ad am ah ch iy mk sg ain adn amn ahn chn iyn mkn : Nat) (kdf inc dri mat ahe iyf mkf sgn incn drin matn iyfn mkfn : Int → Int) (acs why wac won T tm yr cn ln Tn tmn yrn cnn : Int) (hln : 0 ≤ ln ∧ ln ≤ 60) (hbs : zBd sgn 60 0 126) (hTn : 0 ≤ Tn ∧ Tn < 512) (hbin : zBd incn 9 0 179) (hbdn : zBd drin 9 (-9) 9) (hbmn : zBd matn 9 (-6) 8) (hty : (0 ≤ tmn ∧ tmn ≤ 9) ∧ 0 ≤ yrn ∧ yrn ≤ 999) : zMw l yX10_yearsCanBe wsX10_yearsCanBe (zRm 5) D cI cJ cZ [.ref hc] [(hc, .inr (8, [.ref on, .ref of, .ref os, .ref kp, .ref pd, .ref ys, .ref tu, .ref as, .ref tk, .ref ck])), (ys, .inr (7, [.ref o, .ref kd, .int (zI acs), .int (zI why), .int (zI wac), .int (zI won)])), (kd, .inl (cI, 9, .inl (zA kdf))), (o, .inr (2, [.ref ai, .ref ad, .ref am, .ref ah, .ref ch, .int (zI T), .int (zI tm), .int (zI yr)])), (ai, .inl (cI, 9, .inl (zA inc))), (ad, .inl (cI, 9, .inl (zA dri))), (am, .inl (cI, 9, .inl (zA mat))), (ah, .inl (cI, 9, .inl (zA ahe))), (ch, .inr (1, [.ref iy, .ref mk, .int (zI cn)])), (iy, .inl (cI, 8, .inl (zA iyf))), (mk, .inl (cI, 8, .inl (zA mkf))), (pd, .inr (3, [.ref sg, .int (zI ln)])), (sg, .inl (cI, 60, .inl (zA sgn))), (on, .inr (2, [.ref ain, .ref adn, .ref amn, .ref ahn, .ref chn, .int (zI Tn), .int (zI tmn), .int (zI yrn)])), (ain, .inl (cI, 9, .inl (zA incn))), (adn, .inl (cI, 9, .inl (zA drin))), (amn, .inl (cI, 9, .inl (zA matn))), (chn, .inr (1, [.ref iyn, .ref mkn, .int (zI cnn)])), (iyn, .inl (cI, 8, .inl (zA iyfn))), (mkn, .inl (cI, 8, .inl (zA mkfn)))] (S := Int × (Int → Int) × (Int → Int) × (Int → Int) × Int × Int × Int × (Int → Int) × (Int → Int) × (Int → Int) × Int × (Int → Int) × Int × Int × Int × Int) (fun u => u.1 = (if canS (fpW ln sgn) (rnW Tn drin ln sgn incn matn tmn yrn) then 1 else 0) ∧ ((fpW ln sgn) = -6 → u.2.2.1 = drin ∧ u.2.2.2.2.1 = Tn ∧ u.2.2.2.2.2.2.2.2.1 = iyfn ∧ u.2.2.2.2.2.2.2.2.2.1 = mkfn ∧ u.2.2.2.2.2.2.2.2.2.2.1 = cnn ∧ (u.2.1, u.2.2.2.1, u.2.2.2.2.2.1, u.2.2.2.2.2.2.1, u.2.2.2.2.2.2.2.2.2.2.2.1, u.2.2.2.2.2.2.2.2.2.2.2.2.2.2.1, u.2.2.2.2.2.2.2.2.2.2.2.2.2.2.2, u.2.2.2.2.2.2.2.2.2.2.2.2.1, u.2.2.2.2.2.2.2.2.2.2.2.2.2.1) = (rnW Tn drin ln sgn incn matn tmn yrn))) (fun u => some (.int (zI u.1))) (fun u => [(hc, .inr (8, [.ref on, .ref of, .ref os, .ref kp, .ref pd, .ref ys, .ref tu, .ref as, .ref tk, .ref ck])), (ys, .inr (7, [.ref o, .ref kd, .int (zI u.2.2.2.2.2.2.2.2.2.2.2.2.1), .int (zI u.2.2.2.2.2.2.2.2.2.2.2.2.2.1), .int (zI u.2.2.2.2.2.2.2.2.2.2.2.2.2.2.1), .int (zI u.2.2.2.2.2.2.2.2.2.2.2.2.2.2.2)])), (kd, .inl (cI, 9, .inl (zA u.2.2.2.2.2.2.2.2.2.2.2.1))), (o, .inr (2, [.ref ai, .ref ad, .ref am, .ref ah, .ref ch, .int (zI u.2.2.2.2.1), .int (zI u.2.2.2.2.2.1), .int (zI u.2.2.2.2.2.2.1)])), (ai, .inl (cI, 9, .inl (zA u.2.1))), (ad, .inl (cI, 9, .inl (zA u.2.2.1))), (am, .inl (cI, 9, .inl (zA u.2.2.2.1))), (ah, .inl (cI, 9, .inl (zA u.2.2.2.2.2.2.2.1))), (ch, .inr (1, [.ref iy, .ref mk, .int (zI u.2.2.2.2.2.2.2.2.2.2.1)])), (iy, .inl (cI, 8, .inl (zA u.2.2.2.2.2.2.2.2.1))), (mk, .inl (cI, 8, .inl (zA u.2.2.2.2.2.2.2.2.2.1))), (pd, .inr (3, [.ref sg, .int (zI ln)])), (sg, .inl (cI, 60, .inl (zA sgn))), (on, .inr (2, [.ref ain, .ref adn, .ref amn, .ref ahn, .ref chn, .int (zI Tn), .int (zI tmn), .int (zI yrn)])), (ain, .inl (cI, 9, .inl (zA incn))), (adn, .inl (cI, 9, .inl (zA drin))), (amn, .inl (cI, 9, .inl (zA matn))), (chn, .inr (1, [.ref iyn, .ref mkn, .int (zI cnn)])), (iyn, .inl (cI, 8, .inl (zA iyfn))), (mkn, .inl (cI, 8, .inl (zA mkfn)))]) := by
  refine zMw_z (cc := cX10_yearsCanBe) (maxL := 1) (by decide +kernel) rfl (Nat.le_of_ble_eq_true rfl) rfl (fun _ => rfl) ?_
  intro p e s m args below meth c Q H0 ls F hK hz hl hret
  obtain ⟨hx, hb, hml, hown0, hts⟩ := id F
  have hown : s.vm.findClass RX10 = some m.cls := hown0
  obtain ⟨ws0, hw0⟩ : ∃ w : va_W, w = [(hc, .inr (8, [.ref on, .ref of, .ref os, .ref kp, .ref pd, .ref ys, .ref tu, .ref as, .ref tk, .ref ck])), (ys, .inr (7, [.ref o, .ref kd, .int (zI acs), .int (zI why), .int (zI wac), .int (zI won)])), (kd, .inl (cI, 9, .inl (zA kdf))), (o, .inr (2, [.ref ai, .ref ad, .ref am, .ref ah, .ref ch, .int (zI T), .int (zI tm), .int (zI yr)])), (ai, .inl (cI, 9, .inl (zA inc))), (ad, .inl (cI, 9, .inl (zA dri))), (am, .inl (cI, 9, .inl (zA mat))), (ah, .inl (cI, 9, .inl (zA ahe))), (ch, .inr (1, [.ref iy, .ref mk, .int (zI cn)])), (iy, .inl (cI, 8, .inl (zA iyf))), (mk, .inl (cI, 8, .inl (zA mkf))), (pd, .inr (3, [.ref sg, .int (zI ln)])), (sg, .inl (cI, 60, .inl (zA sgn))), (on, .inr (2, [.ref ain, .ref adn, .ref amn, .ref ahn, .ref chn, .int (zI Tn), .int (zI tmn), .int (zI yrn)])), (ain, .inl (cI, 9, .inl (zA incn))), (adn, .inl (cI, 9, .inl (zA drin))), (amn, .inl (cI, 9, .inl (zA matn))), (chn, .inr (1, [.ref iyn, .ref mkn, .int (zI cnn)])), (iyn, .inl (cI, 8, .inl (zA iyfn))), (mkn, .inl (cI, 8, .inl (zA mkfn)))] := ⟨_, rfl⟩
  rw [← hw0] at hret
  have hz : zH D (zF ws0) H0 [(hc, .inr (8, [.ref on, .ref of, .ref os, .ref kp, .ref pd, .ref ys, .ref tu, .ref as, .ref tk, .ref ck])), (ys, .inr (7, [.ref o, .ref kd, .int (zI acs), .int (zI why), .int (zI wac), .int (zI won)])), (kd, .inl (cI, 9, .inl (zA kdf))), (o, .inr (2, [.ref ai, .ref ad, .ref am, .ref ah, .ref ch, .int (zI T), .int (zI tm), .int (zI yr)])), (ai, .inl (cI, 9, .inl (zA inc))), (ad, .inl (cI, 9, .inl (zA dri))), (am, .inl (cI, 9, .inl (zA mat))), (ah, .inl (cI, 9, .inl (zA ahe))), (ch, .inr (1, [.ref iy, .ref mk, .int (zI cn)])), (iy, .inl (cI, 8, .inl (zA iyf))), (mk, .inl (cI, 8, .inl (zA mkf))), (pd, .inr (3, [.ref sg, .int (zI ln)])), (sg, .inl (cI, 60, .inl (zA sgn))), (on, .inr (2, [.ref ain, .ref adn, .ref amn, .ref ahn, .ref chn, .int (zI Tn), .int (zI tmn), .int (zI yrn)])), (ain, .inl (cI, 9, .inl (zA incn))), (adn, .inl (cI, 9, .inl (zA drin))), (amn, .inl (cI, 9, .inl (zA matn))), (chn, .inr (1, [.ref iyn, .ref mkn, .int (zI cnn)])), (iyn, .inl (cI, 8, .inl (zA iyfn))), (mkn, .inl (cI, 8, .inl (zA mkfn)))] H0 [] := by rw [hw0]; exact hz
  have hl : lv_has ls 1 [(0, .ref hc)] := hl
  refine lv_aload_n hx hb dX10_yearsCanBe_0 rfl (lv_at hl 0 rfl) ?_
  refine z_get (C := RX10) (T := TX10) (N := 10) (ref := "HornCity") hx hb hts hin_X10_yearsCanBe_X10 hown hK hz 0 rfl rfl 4 (by decide) (hts _ fl_X10_yearsCanBe_29) rfl rfl dX10_yearsCanBe_1 ?_
  refine z_callVp (As := []) (rest := []) (C := RX4) (T := TX4) (N := 2) F hK hz hl (c_X4_faultPlace l D cI cJ cZ pd sg sgn ln (by first | assumption | omega) (hbs)) (cwV 0 hts gX10_yearsCanBe_X4_faultPlace rfl rfl rfl (by decide +kernel) ⟨Nat.le_of_ble_eq_true rfl, Nat.le_of_ble_eq_true rfl⟩) rfl 11 rfl [11, 12] rfl rfl rfl rfl (Nat.le_of_ble_eq_true rfl) ⟨Nat.le_of_ble_eq_true rfl, Nat.le_of_ble_eq_true rfl⟩ dX10_yearsCanBe_4 ?_
  have hfb := fpW_bd ln sgn hln.2
  refine z_bipush hx hb dX10_yearsCanBe_7 (by decide) ?_
  refine z_icmp_eq (tgt := 14) hx hb dX10_yearsCanBe_9 (by decide) (by omega) (by decide) (fun h9 => ?_) (fun h9 => ?_)
  ·
    refine lv_aload_n hx hb dX10_yearsCanBe_14 rfl (lv_at hl 0 rfl) ?_
    refine z_get (C := RX10) (T := TX10) (N := 10) (ref := "HornCity") hx hb hts hin_X10_yearsCanBe_X10 hown hK hz 0 rfl rfl 5 (by decide) (hts _ fl_X10_yearsCanBe_36) rfl rfl dX10_yearsCanBe_15 ?_
    refine lv_aload_n hx hb dX10_yearsCanBe_18 rfl (lv_at hl 0 rfl) ?_
    refine z_get (C := RX10) (T := TX10) (N := 10) (ref := "HornCity") hx hb hts hin_X10_yearsCanBe_X10 hown hK hz 0 rfl rfl 4 (by decide) (hts _ fl_X10_yearsCanBe_29) rfl rfl dX10_yearsCanBe_19 ?_
    refine lv_aload_n hx hb dX10_yearsCanBe_22 rfl (lv_at hl 0 rfl) ?_
    refine z_get (C := RX10) (T := TX10) (N := 10) (ref := "HornCity") hx hb hts hin_X10_yearsCanBe_X10 hown hK hz 0 rfl rfl 0 (by decide) (hts _ fl_X10_yearsCanBe_10) rfl rfl dX10_yearsCanBe_23 ?_
    refine z_callVwv (As := [.ref pd, .ref on]) (rest := []) (C := RX9) (T := TX9) (N := 6) F hK hz hl (c_X9_tell l D cI cJ cZ ys o kd ai ad am ah ch iy mk pd sg on ain adn amn ahn chn iyn mkn kdf inc dri mat ahe iyf mkf sgn incn drin matn iyfn mkfn acs why wac won T tm yr cn ln Tn tmn yrn cnn (by first | assumption | omega) (hbs) (by first | assumption | omega) (hbin) (hbdn) (hbmn) (by omega)) (cwV 2 hts gX10_yearsCanBe_X9_tell rfl rfl rfl (by decide +kernel) ⟨Nat.le_of_ble_eq_true rfl, Nat.le_of_ble_eq_true rfl⟩) rfl 1 rfl [1, 2, 3, 4, 5, 6, 7, 8, 9, 10, 11, 12, 13, 14, 15, 16, 17, 18, 19] rfl rfl (by decide +kernel) rfl rfl (Nat.le_of_ble_eq_true rfl) ⟨Nat.le_of_ble_eq_true rfl, Nat.le_of_ble_eq_true rfl⟩ dX10_yearsCanBe_26 (fun u H locs hu hz => ?_)
    obtain ⟨inc1_1, dri1_2, mat1_3, T1_4, tm1_5, yr1_6, ah1_7, y1_8, m1_9, c1_10, kd1_11, a1_12, w1_13, wa1_14, wo1_15⟩ := u
    have hu : dri1_2 = drin ∧ T1_4 = Tn ∧ y1_8 = iyfn ∧ m1_9 = mkfn ∧ c1_10 = cnn ∧ (inc1_1, mat1_3, tm1_5, yr1_6, kd1_11, wa1_14, wo1_15, a1_12, w1_13) = rnW Tn drin ln sgn incn matn tmn yrn := hu
    obtain ⟨g26_0, g26_1, g26_2, g26_3, g26_4, hc26_5⟩ := hu
    have g26_0 := g26_0.symm
    subst g26_0
    have g26_1 := g26_1.symm
    subst g26_1
    have g26_2 := g26_2.symm
    subst g26_2
    have g26_3 := g26_3.symm
    subst g26_3
    have g26_4 := g26_4.symm
    subst g26_4
    have hz : zH D (zF ws0) H0 [(hc, .inr (8, [.ref on, .ref of, .ref os, .ref kp, .ref pd, .ref ys, .ref tu, .ref as, .ref tk, .ref ck])), (ys, .inr (7, [.ref o, .ref kd, .int (zI a1_12), .int (zI w1_13), .int (zI wa1_14), .int (zI wo1_15)])), (kd, .inl (cI, 9, .inl (zA kd1_11))), (o, .inr (2, [.ref ai, .ref ad, .ref am, .ref ah, .ref ch, .int (zI Tn), .int (zI tm1_5), .int (zI yr1_6)])), (ai, .inl (cI, 9, .inl (zA inc1_1))), (ad, .inl (cI, 9, .inl (zA drin))), (am, .inl (cI, 9, .inl (zA mat1_3))), (ah, .inl (cI, 9, .inl (zA ah1_7))), (ch, .inr (1, [.ref iy, .ref mk, .int (zI cnn)])), (iy, .inl (cI, 8, .inl (zA iyfn))), (mk, .inl (cI, 8, .inl (zA mkfn))), (pd, .inr (3, [.ref sg, .int (zI ln)])), (sg, .inl (cI, 60, .inl (zA sgn))), (on, .inr (2, [.ref ain, .ref adn, .ref amn, .ref ahn, .ref chn, .int (zI Tn), .int (zI tmn), .int (zI yrn)])), (ain, .inl (cI, 9, .inl (zA incn))), (adn, .inl (cI, 9, .inl (zA drin))), (amn, .inl (cI, 9, .inl (zA matn))), (chn, .inr (1, [.ref iyn, .ref mkn, .int (zI cnn)])), (iyn, .inl (cI, 8, .inl (zA iyfn))), (mkn, .inl (cI, 8, .inl (zA mkfn)))] H locs := hz
    refine lv_aload_n hx hb dX10_yearsCanBe_29 rfl (lv_at hl 0 rfl) ?_
    refine z_get (C := RX10) (T := TX10) (N := 10) (ref := "HornCity") hx hb hts hin_X10_yearsCanBe_X10 hown hK hz 0 rfl rfl 5 (by decide) (hts _ fl_X10_yearsCanBe_36) rfl rfl dX10_yearsCanBe_30 ?_
    refine z_get (C := RX9) (T := TX9) (N := 6) (ref := "HornCity$Years") hx hb hts hin_X10_yearsCanBe_X9 hown hK hz 1 rfl rfl 3 (by decide) (hts _ fl_X10_yearsCanBe_116) rfl rfl dX10_yearsCanBe_33 ?_
    have hw9 := rnW_why Tn drin ln sgn incn matn tmn yrn
    rw [← hc26_5] at hw9
    have hw8 : 0 ≤ w1_13 ∧ w1_13 ≤ 4 := hw9
    refine z_if_ne (tgt := 43) hx hb dX10_yearsCanBe_36 (by decide) (by omega) (fun h36 => ?_) (fun h36 => ?_)
    ·
      refine z_iconst hx hb dX10_yearsCanBe_43 ?_
      exact hret ((0 : Int), (inc1_1 : Int → Int), (drin : Int → Int), (mat1_3 : Int → Int), (Tn : Int), (tm1_5 : Int), (yr1_6 : Int), (ah1_7 : Int → Int), (iyfn : Int → Int), (mkfn : Int → Int), (cnn : Int), (kd1_11 : Int → Int), (a1_12 : Int), (w1_13 : Int), (wa1_14 : Int), (wo1_15 : Int)) dX10_yearsCanBe_44 (by first | decide | omega | (split <;> decide))  (show 0 = (if canS (fpW ln sgn) (rnW Tn drin ln sgn incn matn tmn yrn) then 1 else 0) ∧ ((fpW ln sgn) = -6 → drin = drin ∧ Tn = Tn ∧ iyfn = iyfn ∧ mkfn = mkfn ∧ cnn = cnn ∧ (inc1_1, mat1_3, tm1_5, yr1_6, kd1_11, wa1_14, wo1_15, a1_12, w1_13) = (rnW Tn drin ln sgn incn matn tmn yrn)) from ⟨by rw [← hc26_5]; exact (if_neg (fun q => h36 q.2)).symm, fun _ => ⟨rfl, rfl, rfl, rfl, rfl, hc26_5⟩⟩) hz
    ·
      refine z_iconst hx hb dX10_yearsCanBe_39 ?_
      refine lv_goto (tgt := 44) hx hb dX10_yearsCanBe_40 (by decide) ?_
      exact hret ((1 : Int), (inc1_1 : Int → Int), (drin : Int → Int), (mat1_3 : Int → Int), (Tn : Int), (tm1_5 : Int), (yr1_6 : Int), (ah1_7 : Int → Int), (iyfn : Int → Int), (mkfn : Int → Int), (cnn : Int), (kd1_11 : Int → Int), (a1_12 : Int), (w1_13 : Int), (wa1_14 : Int), (wo1_15 : Int)) dX10_yearsCanBe_44 (by first | decide | omega | (split <;> decide))  (show 1 = (if canS (fpW ln sgn) (rnW Tn drin ln sgn incn matn tmn yrn) then 1 else 0) ∧ ((fpW ln sgn) = -6 → drin = drin ∧ Tn = Tn ∧ iyfn = iyfn ∧ mkfn = mkfn ∧ cnn = cnn ∧ (inc1_1, mat1_3, tm1_5, yr1_6, kd1_11, wa1_14, wo1_15, a1_12, w1_13) = (rnW Tn drin ln sgn incn matn tmn yrn)) from ⟨by rw [← hc26_5]; exact (if_pos ⟨h9, h36⟩).symm, fun _ => ⟨rfl, rfl, rfl, rfl, rfl, hc26_5⟩⟩) hz
  ·
    refine z_iconst hx hb dX10_yearsCanBe_12 ?_
    exact hret ((0 : Int), (inc : Int → Int), (dri : Int → Int), (mat : Int → Int), (T : Int), (tm : Int), (yr : Int), (ahe : Int → Int), (iyf : Int → Int), (mkf : Int → Int), (cn : Int), (kdf : Int → Int), (acs : Int), (why : Int), (wac : Int), (won : Int)) dX10_yearsCanBe_13 (by first | decide | omega | (split <;> decide))  (show 0 = (if canS (fpW ln sgn) (rnW Tn drin ln sgn incn matn tmn yrn) then 1 else 0) ∧ ((fpW ln sgn) = -6 → dri = drin ∧ T = Tn ∧ iyf = iyfn ∧ mkf = mkfn ∧ cn = cnn ∧ (inc, mat, tm, yr, kdf, wac, won, acs, why) = (rnW Tn drin ln sgn incn matn tmn yrn)) from ⟨by rw [if_neg (fun q => h9 q.1)], fun q => absurd q h9⟩) hz

set_option maxRecDepth 20000 in
theorem hin_X10_judge_X10 : ∀ w ∈ u_ws RX10 TX10 10, w ∈ wsX10_judge := by decide +kernel
set_option maxRecDepth 20000 in
theorem fl_X10_judge_29 : Cond.fieldLink RX10 29 "HornCity" "pad" "LHornCity$Pad;" ∈ wsX10_judge := by decide +kernel
set_option maxRecDepth 20000 in
theorem fl_X10_judge_36 : Cond.fieldLink RX10 36 "HornCity" "years" "LHornCity$Years;" ∈ wsX10_judge := by decide +kernel
set_option maxRecDepth 20000 in
theorem fl_X10_judge_10 : Cond.fieldLink RX10 10 "HornCity" "now" "LHornCity$City;" ∈ wsX10_judge := by decide +kernel
set_option maxRecDepth 20000 in
theorem hin_X10_judge_X9 : ∀ w ∈ u_ws RX9 TX9 6, w ∈ wsX10_judge := by decide +kernel
set_option maxRecDepth 20000 in
theorem fl_X10_judge_116 : Cond.fieldLink RX10 116 "HornCity$Years" "why" "I" ∈ wsX10_judge := by decide +kernel
set_option maxRecDepth 20000 in
theorem fl_X10_judge_119 : Cond.fieldLink RX10 119 "HornCity$Years" "acts" "I" ∈ wsX10_judge := by decide +kernel
set_option maxHeartbeats 4000000 in
set_option maxRecDepth 100000 in
theorem c_X10_judge (l : Launch) (D : va_G) (cI cJ cZ : ClassId) (hc on of os kp pd ys tu as tk ck o kd ai ad am ah ch iy mk sg ain adn amn ahn chn iyn mkn : Nat) (kdf inc dri mat ahe iyf mkf sgn incn drin matn iyfn mkfn : Int → Int) (acs why wac won T tm yr cn ln Tn tmn yrn cnn what : Int) (hr : (-2147483648 ≤ what ∧ what ≤ 2147483647)) (hln : 0 ≤ ln ∧ ln ≤ 60) (hbs : zBd sgn 60 0 126) (hTn : 0 ≤ Tn ∧ Tn < 512) (hbin : zBd incn 9 0 179) (hbdn : zBd drin 9 (-9) 9) (hbmn : zBd matn 9 (-6) 8) (hty : (0 ≤ tmn ∧ tmn ≤ 9) ∧ 0 ≤ yrn ∧ yrn ≤ 999) : zMw l yX10_judge wsX10_judge (zRm 5) D cI cJ cZ [.ref hc, .int (zI what)] [(hc, .inr (8, [.ref on, .ref of, .ref os, .ref kp, .ref pd, .ref ys, .ref tu, .ref as, .ref tk, .ref ck])), (ys, .inr (7, [.ref o, .ref kd, .int (zI acs), .int (zI why), .int (zI wac), .int (zI won)])), (kd, .inl (cI, 9, .inl (zA kdf))), (o, .inr (2, [.ref ai, .ref ad, .ref am, .ref ah, .ref ch, .int (zI T), .int (zI tm), .int (zI yr)])), (ai, .inl (cI, 9, .inl (zA inc))), (ad, .inl (cI, 9, .inl (zA dri))), (am, .inl (cI, 9, .inl (zA mat))), (ah, .inl (cI, 9, .inl (zA ahe))), (ch, .inr (1, [.ref iy, .ref mk, .int (zI cn)])), (iy, .inl (cI, 8, .inl (zA iyf))), (mk, .inl (cI, 8, .inl (zA mkf))), (pd, .inr (3, [.ref sg, .int (zI ln)])), (sg, .inl (cI, 60, .inl (zA sgn))), (on, .inr (2, [.ref ain, .ref adn, .ref amn, .ref ahn, .ref chn, .int (zI Tn), .int (zI tmn), .int (zI yrn)])), (ain, .inl (cI, 9, .inl (zA incn))), (adn, .inl (cI, 9, .inl (zA drin))), (amn, .inl (cI, 9, .inl (zA matn))), (chn, .inr (1, [.ref iyn, .ref mkn, .int (zI cnn)])), (iyn, .inl (cI, 8, .inl (zA iyfn))), (mkn, .inl (cI, 8, .inl (zA mkfn)))] (S := Int × (Int → Int) × (Int → Int) × (Int → Int) × Int × Int × Int × (Int → Int) × (Int → Int) × (Int → Int) × Int × (Int → Int) × Int × Int × Int × Int) (fun u => u.1 = juR what (fpW ln sgn) (rnW Tn drin ln sgn incn matn tmn yrn)) (fun u => some (.int (zI u.1))) (fun u => [(hc, .inr (8, [.ref on, .ref of, .ref os, .ref kp, .ref pd, .ref ys, .ref tu, .ref as, .ref tk, .ref ck])), (ys, .inr (7, [.ref o, .ref kd, .int (zI u.2.2.2.2.2.2.2.2.2.2.2.2.1), .int (zI u.2.2.2.2.2.2.2.2.2.2.2.2.2.1), .int (zI u.2.2.2.2.2.2.2.2.2.2.2.2.2.2.1), .int (zI u.2.2.2.2.2.2.2.2.2.2.2.2.2.2.2)])), (kd, .inl (cI, 9, .inl (zA u.2.2.2.2.2.2.2.2.2.2.2.1))), (o, .inr (2, [.ref ai, .ref ad, .ref am, .ref ah, .ref ch, .int (zI u.2.2.2.2.1), .int (zI u.2.2.2.2.2.1), .int (zI u.2.2.2.2.2.2.1)])), (ai, .inl (cI, 9, .inl (zA u.2.1))), (ad, .inl (cI, 9, .inl (zA u.2.2.1))), (am, .inl (cI, 9, .inl (zA u.2.2.2.1))), (ah, .inl (cI, 9, .inl (zA u.2.2.2.2.2.2.2.1))), (ch, .inr (1, [.ref iy, .ref mk, .int (zI u.2.2.2.2.2.2.2.2.2.2.1)])), (iy, .inl (cI, 8, .inl (zA u.2.2.2.2.2.2.2.2.1))), (mk, .inl (cI, 8, .inl (zA u.2.2.2.2.2.2.2.2.2.1))), (pd, .inr (3, [.ref sg, .int (zI ln)])), (sg, .inl (cI, 60, .inl (zA sgn))), (on, .inr (2, [.ref ain, .ref adn, .ref amn, .ref ahn, .ref chn, .int (zI Tn), .int (zI tmn), .int (zI yrn)])), (ain, .inl (cI, 9, .inl (zA incn))), (adn, .inl (cI, 9, .inl (zA drin))), (amn, .inl (cI, 9, .inl (zA matn))), (chn, .inr (1, [.ref iyn, .ref mkn, .int (zI cnn)])), (iyn, .inl (cI, 8, .inl (zA iyfn))), (mkn, .inl (cI, 8, .inl (zA mkfn)))]) := by
  refine zMw_i (cc := cX10_judge) (maxL := 2) (by decide +kernel) rfl (Nat.le_of_ble_eq_true rfl) rfl (fun _ => rfl) ?_
  intro p e s m args below meth c Q H0 ls F hK hz hl hret
  obtain ⟨hx, hb, hml, hown0, hts⟩ := id F
  have hown : s.vm.findClass RX10 = some m.cls := hown0
  obtain ⟨ws0, hw0⟩ : ∃ w : va_W, w = [(hc, .inr (8, [.ref on, .ref of, .ref os, .ref kp, .ref pd, .ref ys, .ref tu, .ref as, .ref tk, .ref ck])), (ys, .inr (7, [.ref o, .ref kd, .int (zI acs), .int (zI why), .int (zI wac), .int (zI won)])), (kd, .inl (cI, 9, .inl (zA kdf))), (o, .inr (2, [.ref ai, .ref ad, .ref am, .ref ah, .ref ch, .int (zI T), .int (zI tm), .int (zI yr)])), (ai, .inl (cI, 9, .inl (zA inc))), (ad, .inl (cI, 9, .inl (zA dri))), (am, .inl (cI, 9, .inl (zA mat))), (ah, .inl (cI, 9, .inl (zA ahe))), (ch, .inr (1, [.ref iy, .ref mk, .int (zI cn)])), (iy, .inl (cI, 8, .inl (zA iyf))), (mk, .inl (cI, 8, .inl (zA mkf))), (pd, .inr (3, [.ref sg, .int (zI ln)])), (sg, .inl (cI, 60, .inl (zA sgn))), (on, .inr (2, [.ref ain, .ref adn, .ref amn, .ref ahn, .ref chn, .int (zI Tn), .int (zI tmn), .int (zI yrn)])), (ain, .inl (cI, 9, .inl (zA incn))), (adn, .inl (cI, 9, .inl (zA drin))), (amn, .inl (cI, 9, .inl (zA matn))), (chn, .inr (1, [.ref iyn, .ref mkn, .int (zI cnn)])), (iyn, .inl (cI, 8, .inl (zA iyfn))), (mkn, .inl (cI, 8, .inl (zA mkfn)))] := ⟨_, rfl⟩
  rw [← hw0] at hret
  have hz : zH D (zF ws0) H0 [(hc, .inr (8, [.ref on, .ref of, .ref os, .ref kp, .ref pd, .ref ys, .ref tu, .ref as, .ref tk, .ref ck])), (ys, .inr (7, [.ref o, .ref kd, .int (zI acs), .int (zI why), .int (zI wac), .int (zI won)])), (kd, .inl (cI, 9, .inl (zA kdf))), (o, .inr (2, [.ref ai, .ref ad, .ref am, .ref ah, .ref ch, .int (zI T), .int (zI tm), .int (zI yr)])), (ai, .inl (cI, 9, .inl (zA inc))), (ad, .inl (cI, 9, .inl (zA dri))), (am, .inl (cI, 9, .inl (zA mat))), (ah, .inl (cI, 9, .inl (zA ahe))), (ch, .inr (1, [.ref iy, .ref mk, .int (zI cn)])), (iy, .inl (cI, 8, .inl (zA iyf))), (mk, .inl (cI, 8, .inl (zA mkf))), (pd, .inr (3, [.ref sg, .int (zI ln)])), (sg, .inl (cI, 60, .inl (zA sgn))), (on, .inr (2, [.ref ain, .ref adn, .ref amn, .ref ahn, .ref chn, .int (zI Tn), .int (zI tmn), .int (zI yrn)])), (ain, .inl (cI, 9, .inl (zA incn))), (adn, .inl (cI, 9, .inl (zA drin))), (amn, .inl (cI, 9, .inl (zA matn))), (chn, .inr (1, [.ref iyn, .ref mkn, .int (zI cnn)])), (iyn, .inl (cI, 8, .inl (zA iyfn))), (mkn, .inl (cI, 8, .inl (zA mkfn)))] H0 [] := by rw [hw0]; exact hz
  have hl : lv_has ls 2 [(0, .ref hc), (1, .int (zI what))] := hl
  refine lv_iload_n hx hb dX10_judge_0 rfl (lv_at hl 1 rfl) ?_
  refine z_iconst hx hb dX10_judge_1 ?_
  refine z_iconst hx hb dX10_judge_2 ?_
  refine z_callSp (As := [.int (zI what), .int (zI 0), .int (zI 1)]) (rest := []) F hK hz hl (c_X10_isWithin l D cI cJ cZ what 0 1 (by omega)) (va_cwS 3 hts gX10_judge_X10_isWithin rfl rfl rfl (by decide +kernel) ⟨Nat.le_of_ble_eq_true rfl, Nat.le_of_ble_eq_true rfl⟩) [] rfl rfl rfl rfl (Nat.le_of_ble_eq_true rfl) ⟨Nat.le_of_ble_eq_true rfl, Nat.le_of_ble_eq_true rfl⟩ dX10_judge_3 ?_
  refine z_ifb_ne (tgt := 12) hx hb dX10_judge_6 (by decide) (fun h6 => ?_) (fun h6 => ?_)
  ·
    refine lv_aload_n hx hb dX10_judge_12 rfl (lv_at hl 0 rfl) ?_
    refine z_get (C := RX10) (T := TX10) (N := 10) (ref := "HornCity") hx hb hts hin_X10_judge_X10 hown hK hz 0 rfl rfl 4 (by decide) (hts _ fl_X10_judge_29) rfl rfl dX10_judge_13 ?_
    refine z_callVp (As := []) (rest := []) (C := RX4) (T := TX4) (N := 2) F hK hz hl (c_X4_faultPlace l D cI cJ cZ pd sg sgn ln (by first | assumption | omega) (hbs)) (cwV 0 hts gX10_judge_X4_faultPlace rfl rfl rfl (by decide +kernel) ⟨Nat.le_of_ble_eq_true rfl, Nat.le_of_ble_eq_true rfl⟩) rfl 11 rfl [11, 12] rfl rfl rfl rfl (Nat.le_of_ble_eq_true rfl) ⟨Nat.le_of_ble_eq_true rfl, Nat.le_of_ble_eq_true rfl⟩ dX10_judge_16 ?_
    have hfb := fpW_bd ln sgn hln.2
    refine z_bipush hx hb dX10_judge_19 (by decide) ?_
    refine z_icmp_eq (tgt := 27) hx hb dX10_judge_21 (by decide) (by omega) (by decide) (fun h21 => ?_) (fun h21 => ?_)
    ·
      refine lv_aload_n hx hb dX10_judge_27 rfl (lv_at hl 0 rfl) ?_
      refine z_get (C := RX10) (T := TX10) (N := 10) (ref := "HornCity") hx hb hts hin_X10_judge_X10 hown hK hz 0 rfl rfl 5 (by decide) (hts _ fl_X10_judge_36) rfl rfl dX10_judge_28 ?_
      refine lv_aload_n hx hb dX10_judge_31 rfl (lv_at hl 0 rfl) ?_
      refine z_get (C := RX10) (T := TX10) (N := 10) (ref := "HornCity") hx hb hts hin_X10_judge_X10 hown hK hz 0 rfl rfl 4 (by decide) (hts _ fl_X10_judge_29) rfl rfl dX10_judge_32 ?_
      refine lv_aload_n hx hb dX10_judge_35 rfl (lv_at hl 0 rfl) ?_
      refine z_get (C := RX10) (T := TX10) (N := 10) (ref := "HornCity") hx hb hts hin_X10_judge_X10 hown hK hz 0 rfl rfl 0 (by decide) (hts _ fl_X10_judge_10) rfl rfl dX10_judge_36 ?_
      refine z_callVwv (As := [.ref pd, .ref on]) (rest := []) (C := RX9) (T := TX9) (N := 6) F hK hz hl (c_X9_tell l D cI cJ cZ ys o kd ai ad am ah ch iy mk pd sg on ain adn amn ahn chn iyn mkn kdf inc dri mat ahe iyf mkf sgn incn drin matn iyfn mkfn acs why wac won T tm yr cn ln Tn tmn yrn cnn (by first | assumption | omega) (hbs) (by first | assumption | omega) (hbin) (hbdn) (hbmn) (by omega)) (cwV 2 hts gX10_judge_X9_tell rfl rfl rfl (by decide +kernel) ⟨Nat.le_of_ble_eq_true rfl, Nat.le_of_ble_eq_true rfl⟩) rfl 1 rfl [1, 2, 3, 4, 5, 6, 7, 8, 9, 10, 11, 12, 13, 14, 15, 16, 17, 18, 19] rfl rfl (by decide +kernel) rfl rfl (Nat.le_of_ble_eq_true rfl) ⟨Nat.le_of_ble_eq_true rfl, Nat.le_of_ble_eq_true rfl⟩ dX10_judge_39 (fun u H locs hu hz => ?_)
      obtain ⟨inc1_1, dri1_2, mat1_3, T1_4, tm1_5, yr1_6, ah1_7, y1_8, m1_9, c1_10, kd1_11, a1_12, w1_13, wa1_14, wo1_15⟩ := u
      have hu : dri1_2 = drin ∧ T1_4 = Tn ∧ y1_8 = iyfn ∧ m1_9 = mkfn ∧ c1_10 = cnn ∧ (inc1_1, mat1_3, tm1_5, yr1_6, kd1_11, wa1_14, wo1_15, a1_12, w1_13) = rnW Tn drin ln sgn incn matn tmn yrn := hu
      obtain ⟨g39_0, g39_1, g39_2, g39_3, g39_4, hc39_5⟩ := hu
      have g39_0 := g39_0.symm
      subst g39_0
      have g39_1 := g39_1.symm
      subst g39_1
      have g39_2 := g39_2.symm
      subst g39_2
      have g39_3 := g39_3.symm
      subst g39_3
      have g39_4 := g39_4.symm
      subst g39_4
      have hz : zH D (zF ws0) H0 [(hc, .inr (8, [.ref on, .ref of, .ref os, .ref kp, .ref pd, .ref ys, .ref tu, .ref as, .ref tk, .ref ck])), (ys, .inr (7, [.ref o, .ref kd, .int (zI a1_12), .int (zI w1_13), .int (zI wa1_14), .int (zI wo1_15)])), (kd, .inl (cI, 9, .inl (zA kd1_11))), (o, .inr (2, [.ref ai, .ref ad, .ref am, .ref ah, .ref ch, .int (zI Tn), .int (zI tm1_5), .int (zI yr1_6)])), (ai, .inl (cI, 9, .inl (zA inc1_1))), (ad, .inl (cI, 9, .inl (zA drin))), (am, .inl (cI, 9, .inl (zA mat1_3))), (ah, .inl (cI, 9, .inl (zA ah1_7))), (ch, .inr (1, [.ref iy, .ref mk, .int (zI cnn)])), (iy, .inl (cI, 8, .inl (zA iyfn))), (mk, .inl (cI, 8, .inl (zA mkfn))), (pd, .inr (3, [.ref sg, .int (zI ln)])), (sg, .inl (cI, 60, .inl (zA sgn))), (on, .inr (2, [.ref ain, .ref adn, .ref amn, .ref ahn, .ref chn, .int (zI Tn), .int (zI tmn), .int (zI yrn)])), (ain, .inl (cI, 9, .inl (zA incn))), (adn, .inl (cI, 9, .inl (zA drin))), (amn, .inl (cI, 9, .inl (zA matn))), (chn, .inr (1, [.ref iyn, .ref mkn, .int (zI cnn)])), (iyn, .inl (cI, 8, .inl (zA iyfn))), (mkn, .inl (cI, 8, .inl (zA mkfn)))] H locs := hz
      refine lv_aload_n hx hb dX10_judge_42 rfl (lv_at hl 0 rfl) ?_
      refine z_get (C := RX10) (T := TX10) (N := 10) (ref := "HornCity") hx hb hts hin_X10_judge_X10 hown hK hz 0 rfl rfl 5 (by decide) (hts _ fl_X10_judge_36) rfl rfl dX10_judge_43 ?_
      refine z_get (C := RX9) (T := TX9) (N := 6) (ref := "HornCity$Years") hx hb hts hin_X10_judge_X9 hown hK hz 1 rfl rfl 3 (by decide) (hts _ fl_X10_judge_116) rfl rfl dX10_judge_46 ?_
      have hw9 := rnW_why Tn drin ln sgn incn matn tmn yrn
      rw [← hc39_5] at hw9
      have hw8 : 0 ≤ w1_13 ∧ w1_13 ≤ 4 := hw9
      refine z_if_ne (tgt := 55) hx hb dX10_judge_49 (by decide) (by omega) (fun h49 => ?_) (fun h49 => ?_)
      ·
        refine lv_iload_n hx hb dX10_judge_55 rfl (lv_at hl 1 rfl) ?_
        refine z_if_ne (tgt := 69) hx hb dX10_judge_56 (by decide) (by omega) (fun h56 => ?_) (fun h56 => ?_)
        ·
          refine lv_aload_n hx hb dX10_judge_69 rfl (lv_at hl 0 rfl) ?_
          refine z_get (C := RX10) (T := TX10) (N := 10) (ref := "HornCity") hx hb hts hin_X10_judge_X10 hown hK hz 0 rfl rfl 5 (by decide) (hts _ fl_X10_judge_36) rfl rfl dX10_judge_70 ?_
          refine z_get (C := RX9) (T := TX9) (N := 6) (ref := "HornCity$Years") hx hb hts hin_X10_judge_X9 hown hK hz 1 rfl rfl 3 (by decide) (hts _ fl_X10_judge_116) rfl rfl dX10_judge_73 ?_
          exact hret ((w1_13 : Int), (inc1_1 : Int → Int), (drin : Int → Int), (mat1_3 : Int → Int), (Tn : Int), (tm1_5 : Int), (yr1_6 : Int), (ah1_7 : Int → Int), (iyfn : Int → Int), (mkfn : Int → Int), (cnn : Int), (kd1_11 : Int → Int), (a1_12 : Int), (w1_13 : Int), (wa1_14 : Int), (wo1_15 : Int)) dX10_judge_76 (show w1_13 = juR what (fpW ln sgn) (rnW Tn drin ln sgn incn matn tmn yrn) from (by unfold juR; rw [if_pos h6, if_pos h21, ← hc39_5]; exact ((if_neg h49).trans (if_neg h56)).symm)) hz
        ·
          refine lv_aload_n hx hb dX10_judge_59 rfl (lv_at hl 0 rfl) ?_
          refine z_get (C := RX10) (T := TX10) (N := 10) (ref := "HornCity") hx hb hts hin_X10_judge_X10 hown hK hz 0 rfl rfl 5 (by decide) (hts _ fl_X10_judge_36) rfl rfl dX10_judge_60 ?_
          refine z_get (C := RX9) (T := TX9) (N := 6) (ref := "HornCity$Years") hx hb hts hin_X10_judge_X9 hown hK hz 1 rfl rfl 2 (by decide) (hts _ fl_X10_judge_119) rfl rfl dX10_judge_63 ?_
          refine lv_goto (tgt := 76) hx hb dX10_judge_66 (by decide) ?_
          exact hret ((a1_12 : Int), (inc1_1 : Int → Int), (drin : Int → Int), (mat1_3 : Int → Int), (Tn : Int), (tm1_5 : Int), (yr1_6 : Int), (ah1_7 : Int → Int), (iyfn : Int → Int), (mkfn : Int → Int), (cnn : Int), (kd1_11 : Int → Int), (a1_12 : Int), (w1_13 : Int), (wa1_14 : Int), (wo1_15 : Int)) dX10_judge_76 (show a1_12 = juR what (fpW ln sgn) (rnW Tn drin ln sgn incn matn tmn yrn) from (by unfold juR; rw [if_pos h6, if_pos h21, ← hc39_5]; exact ((if_neg h49).trans (if_pos h56)).symm)) hz
      ·
        refine z_bipush hx hb dX10_judge_52 (by decide) ?_
        exact hret (((-6) : Int), (inc1_1 : Int → Int), (drin : Int → Int), (mat1_3 : Int → Int), (Tn : Int), (tm1_5 : Int), (yr1_6 : Int), (ah1_7 : Int → Int), (iyfn : Int → Int), (mkfn : Int → Int), (cnn : Int), (kd1_11 : Int → Int), (a1_12 : Int), (w1_13 : Int), (wa1_14 : Int), (wo1_15 : Int)) dX10_judge_54 (show (-6) = juR what (fpW ln sgn) (rnW Tn drin ln sgn incn matn tmn yrn) from (by unfold juR; rw [if_pos h6, if_pos h21, ← hc39_5]; exact (if_pos h49).symm)) hz
    ·
      refine z_bipush hx hb dX10_judge_24 (by decide) ?_
      exact hret (((-5) : Int), (inc : Int → Int), (dri : Int → Int), (mat : Int → Int), (T : Int), (tm : Int), (yr : Int), (ahe : Int → Int), (iyf : Int → Int), (mkf : Int → Int), (cn : Int), (kdf : Int → Int), (acs : Int), (why : Int), (wac : Int), (won : Int)) dX10_judge_26 (show (-5) = juR what (fpW ln sgn) (rnW Tn drin ln sgn incn matn tmn yrn) from (by unfold juR; rw [if_pos h6, if_neg h21])) hz
  ·
    refine z_bipush hx hb dX10_judge_9 (by decide) ?_
    exact hret (((-2) : Int), (inc : Int → Int), (dri : Int → Int), (mat : Int → Int), (T : Int), (tm : Int), (yr : Int), (ahe : Int → Int), (iyf : Int → Int), (mkf : Int → Int), (cn : Int), (kdf : Int → Int), (acs : Int), (why : Int), (wac : Int), (won : Int)) dX10_judge_11 (show (-2) = juR what (fpW ln sgn) (rnW Tn drin ln sgn incn matn tmn yrn) from (by unfold juR; rw [if_neg h6])) hz
