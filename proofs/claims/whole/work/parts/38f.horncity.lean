set_option maxRecDepth 20000 in
theorem hin_X10_book_X10 : ∀ w ∈ u_ws RX10 TX10 10, w ∈ wsX10_book := by decide +kernel
set_option maxRecDepth 20000 in
theorem fl_X10_book_36 : Cond.fieldLink RX10 36 "HornCity" "years" "LHornCity$Years;" ∈ wsX10_book := by decide +kernel
set_option maxRecDepth 20000 in
theorem fl_X10_book_10 : Cond.fieldLink RX10 10 "HornCity" "now" "LHornCity$City;" ∈ wsX10_book := by decide +kernel
set_option maxRecDepth 20000 in
theorem hin_X10_book_X9 : ∀ w ∈ u_ws RX9 TX9 6, w ∈ wsX10_book := by decide +kernel
set_option maxRecDepth 20000 in
theorem fl_X10_book_126 : Cond.fieldLink RX10 126 "HornCity$Years" "city" "LHornCity$City;" ∈ wsX10_book := by decide +kernel
set_option maxHeartbeats 4000000 in
set_option maxRecDepth 100000 in
theorem c_X10_book (l : Launch) (D : va_G) (cI cJ cZ : ClassId) (hc on of os kp pd ys tu as tk ck o kd ai ad am ah ch iy mk ain adn amn ahn chn iyn mkn : Nat) (kdf inc dri mat ahe iyf mkf incn drin matn iyfn mkfn : Int → Int) (acs why wac won T tm yr cn Tn tmn yrn cnn seed m0 what : Int) (hr : (-2147483648 ≤ seed ∧ seed ≤ 2147483647) ∧ (-2147483648 ≤ m0 ∧ m0 ≤ 2147483647) ∧ (-2147483648 ≤ what ∧ what ≤ 2147483647)) (hTn : 0 ≤ Tn ∧ Tn < 512) (hbin : zBd incn 9 0 179) (hbdn : zBd drin 9 (-9) 9) (hbmn : zBd matn 9 (-6) 8) (hty : (0 ≤ tmn ∧ tmn ≤ 9) ∧ 0 ≤ yrn ∧ yrn ≤ 999) : zMw l yX10_book wsX10_book (zRm 5) D cI cJ cZ [.ref hc, .int (zI seed), .int (zI m0), .int (zI what)] [(hc, .inr (8, [.ref on, .ref of, .ref os, .ref kp, .ref pd, .ref ys, .ref tu, .ref as, .ref tk, .ref ck])), (ys, .inr (7, [.ref o, .ref kd, .int (zI acs), .int (zI why), .int (zI wac), .int (zI won)])), (kd, .inl (cI, 9, .inl (zA kdf))), (o, .inr (2, [.ref ai, .ref ad, .ref am, .ref ah, .ref ch, .int (zI T), .int (zI tm), .int (zI yr)])), (ai, .inl (cI, 9, .inl (zA inc))), (ad, .inl (cI, 9, .inl (zA dri))), (am, .inl (cI, 9, .inl (zA mat))), (ah, .inl (cI, 9, .inl (zA ahe))), (ch, .inr (1, [.ref iy, .ref mk, .int (zI cn)])), (iy, .inl (cI, 8, .inl (zA iyf))), (mk, .inl (cI, 8, .inl (zA mkf))), (on, .inr (2, [.ref ain, .ref adn, .ref amn, .ref ahn, .ref chn, .int (zI Tn), .int (zI tmn), .int (zI yrn)])), (ain, .inl (cI, 9, .inl (zA incn))), (adn, .inl (cI, 9, .inl (zA drin))), (amn, .inl (cI, 9, .inl (zA matn))), (chn, .inr (1, [.ref iyn, .ref mkn, .int (zI cnn)])), (iyn, .inl (cI, 8, .inl (zA iyfn))), (mkn, .inl (cI, 8, .inl (zA mkfn)))] (S := Int × (Int → Int) × (Int → Int) × (Int → Int) × Int × Int × Int × (Int → Int) × (Int → Int) × (Int → Int) × Int × (Int → Int) × Int × Int × Int × Int) (fun u => u.1 = boR Tn drin incn matn tmn yrn seed m0 what) (fun u => some (.int (zI u.1))) (fun u => [(hc, .inr (8, [.ref on, .ref of, .ref os, .ref kp, .ref pd, .ref ys, .ref tu, .ref as, .ref tk, .ref ck])), (ys, .inr (7, [.ref o, .ref kd, .int (zI u.2.2.2.2.2.2.2.2.2.2.2.2.1), .int (zI u.2.2.2.2.2.2.2.2.2.2.2.2.2.1), .int (zI u.2.2.2.2.2.2.2.2.2.2.2.2.2.2.1), .int (zI u.2.2.2.2.2.2.2.2.2.2.2.2.2.2.2)])), (kd, .inl (cI, 9, .inl (zA u.2.2.2.2.2.2.2.2.2.2.2.1))), (o, .inr (2, [.ref ai, .ref ad, .ref am, .ref ah, .ref ch, .int (zI u.2.2.2.2.1), .int (zI u.2.2.2.2.2.1), .int (zI u.2.2.2.2.2.2.1)])), (ai, .inl (cI, 9, .inl (zA u.2.1))), (ad, .inl (cI, 9, .inl (zA u.2.2.1))), (am, .inl (cI, 9, .inl (zA u.2.2.2.1))), (ah, .inl (cI, 9, .inl (zA u.2.2.2.2.2.2.2.1))), (ch, .inr (1, [.ref iy, .ref mk, .int (zI u.2.2.2.2.2.2.2.2.2.2.1)])), (iy, .inl (cI, 8, .inl (zA u.2.2.2.2.2.2.2.2.1))), (mk, .inl (cI, 8, .inl (zA u.2.2.2.2.2.2.2.2.2.1))), (on, .inr (2, [.ref ain, .ref adn, .ref amn, .ref ahn, .ref chn, .int (zI Tn), .int (zI tmn), .int (zI yrn)])), (ain, .inl (cI, 9, .inl (zA incn))), (adn, .inl (cI, 9, .inl (zA drin))), (amn, .inl (cI, 9, .inl (zA matn))), (chn, .inr (1, [.ref iyn, .ref mkn, .int (zI cnn)])), (iyn, .inl (cI, 8, .inl (zA iyfn))), (mkn, .inl (cI, 8, .inl (zA mkfn)))]) := by
  refine zMw_i (cc := cX10_book) (maxL := 4) (by decide +kernel) rfl (Nat.le_of_ble_eq_true rfl) rfl (fun _ => rfl) ?_
  intro p e s m args below meth c Q H0 ls F hK hz hl hret
  obtain ⟨hx, hb, hml, hown0, hts⟩ := id F
  have hown : s.vm.findClass RX10 = some m.cls := hown0
  obtain ⟨ws0, hw0⟩ : ∃ w : va_W, w = [(hc, .inr (8, [.ref on, .ref of, .ref os, .ref kp, .ref pd, .ref ys, .ref tu, .ref as, .ref tk, .ref ck])), (ys, .inr (7, [.ref o, .ref kd, .int (zI acs), .int (zI why), .int (zI wac), .int (zI won)])), (kd, .inl (cI, 9, .inl (zA kdf))), (o, .inr (2, [.ref ai, .ref ad, .ref am, .ref ah, .ref ch, .int (zI T), .int (zI tm), .int (zI yr)])), (ai, .inl (cI, 9, .inl (zA inc))), (ad, .inl (cI, 9, .inl (zA dri))), (am, .inl (cI, 9, .inl (zA mat))), (ah, .inl (cI, 9, .inl (zA ahe))), (ch, .inr (1, [.ref iy, .ref mk, .int (zI cn)])), (iy, .inl (cI, 8, .inl (zA iyf))), (mk, .inl (cI, 8, .inl (zA mkf))), (on, .inr (2, [.ref ain, .ref adn, .ref amn, .ref ahn, .ref chn, .int (zI Tn), .int (zI tmn), .int (zI yrn)])), (ain, .inl (cI, 9, .inl (zA incn))), (adn, .inl (cI, 9, .inl (zA drin))), (amn, .inl (cI, 9, .inl (zA matn))), (chn, .inr (1, [.ref iyn, .ref mkn, .int (zI cnn)])), (iyn, .inl (cI, 8, .inl (zA iyfn))), (mkn, .inl (cI, 8, .inl (zA mkfn)))] := ⟨_, rfl⟩
  rw [← hw0] at hret
  have hz : zH D (zF ws0) H0 [(hc, .inr (8, [.ref on, .ref of, .ref os, .ref kp, .ref pd, .ref ys, .ref tu, .ref as, .ref tk, .ref ck])), (ys, .inr (7, [.ref o, .ref kd, .int (zI acs), .int (zI why), .int (zI wac), .int (zI won)])), (kd, .inl (cI, 9, .inl (zA kdf))), (o, .inr (2, [.ref ai, .ref ad, .ref am, .ref ah, .ref ch, .int (zI T), .int (zI tm), .int (zI yr)])), (ai, .inl (cI, 9, .inl (zA inc))), (ad, .inl (cI, 9, .inl (zA dri))), (am, .inl (cI, 9, .inl (zA mat))), (ah, .inl (cI, 9, .inl (zA ahe))), (ch, .inr (1, [.ref iy, .ref mk, .int (zI cn)])), (iy, .inl (cI, 8, .inl (zA iyf))), (mk, .inl (cI, 8, .inl (zA mkf))), (on, .inr (2, [.ref ain, .ref adn, .ref amn, .ref ahn, .ref chn, .int (zI Tn), .int (zI tmn), .int (zI yrn)])), (ain, .inl (cI, 9, .inl (zA incn))), (adn, .inl (cI, 9, .inl (zA drin))), (amn, .inl (cI, 9, .inl (zA matn))), (chn, .inr (1, [.ref iyn, .ref mkn, .int (zI cnn)])), (iyn, .inl (cI, 8, .inl (zA iyfn))), (mkn, .inl (cI, 8, .inl (zA mkfn)))] H0 [] := by rw [hw0]; exact hz
  have hl : lv_has ls 4 [(0, .ref hc), (1, .int (zI seed)), (2, .int (zI m0)), (3, .int (zI what))] := hl
  refine lv_iload_n hx hb dX10_book_0 rfl (lv_at hl 1 rfl) ?_
  refine z_iconst hx hb dX10_book_1 ?_
  refine z_sipush hx hb dX10_book_2 (by decide) ?_
  refine z_callSp (As := [.int (zI seed), .int (zI 0), .int (zI 9999)]) (rest := []) F hK hz hl (c_X10_isWithin l D cI cJ cZ seed 0 9999 (by omega)) (va_cwS 3 hts gX10_book_X10_isWithin rfl rfl rfl (by decide +kernel) ⟨Nat.le_of_ble_eq_true rfl, Nat.le_of_ble_eq_true rfl⟩) [] rfl rfl rfl rfl (Nat.le_of_ble_eq_true rfl) ⟨Nat.le_of_ble_eq_true rfl, Nat.le_of_ble_eq_true rfl⟩ dX10_book_5 ?_
  refine z_ifb_eq (tgt := 30) hx hb dX10_book_8 (by decide) (fun h8 => ?_) (fun h8 => ?_)
  ·
    refine z_bipush hx hb dX10_book_30 (by decide) ?_
    exact hret (((-2) : Int), (inc : Int → Int), (dri : Int → Int), (mat : Int → Int), (T : Int), (tm : Int), (yr : Int), (ahe : Int → Int), (iyf : Int → Int), (mkf : Int → Int), (cn : Int), (kdf : Int → Int), (acs : Int), (why : Int), (wac : Int), (won : Int)) dX10_book_32 (show (-2) = boR Tn drin incn matn tmn yrn seed m0 what from (by unfold boR; rw [if_neg (by omega)])) hz
  ·
    refine lv_iload_n hx hb dX10_book_11 rfl (lv_at hl 2 rfl) ?_
    refine z_iconst hx hb dX10_book_12 ?_
    refine z_bipush hx hb dX10_book_13 (by decide) ?_
    refine z_callSp (As := [.int (zI m0), .int (zI 1), .int (zI 99)]) (rest := []) F hK hz hl (c_X10_isWithin l D cI cJ cZ m0 1 99 (by omega)) (va_cwS 3 hts gX10_book_X10_isWithin rfl rfl rfl (by decide +kernel) ⟨Nat.le_of_ble_eq_true rfl, Nat.le_of_ble_eq_true rfl⟩) [] rfl rfl rfl rfl (Nat.le_of_ble_eq_true rfl) ⟨Nat.le_of_ble_eq_true rfl, Nat.le_of_ble_eq_true rfl⟩ dX10_book_15 ?_
    refine z_ifb_eq (tgt := 30) hx hb dX10_book_18 (by decide) (fun h18 => ?_) (fun h18 => ?_)
    ·
      refine z_bipush hx hb dX10_book_30 (by decide) ?_
      exact hret (((-2) : Int), (inc : Int → Int), (dri : Int → Int), (mat : Int → Int), (T : Int), (tm : Int), (yr : Int), (ahe : Int → Int), (iyf : Int → Int), (mkf : Int → Int), (cn : Int), (kdf : Int → Int), (acs : Int), (why : Int), (wac : Int), (won : Int)) dX10_book_32 (show (-2) = boR Tn drin incn matn tmn yrn seed m0 what from (by unfold boR; rw [if_neg (by omega)])) hz
    ·
      refine lv_iload_n hx hb dX10_book_21 rfl (lv_at hl 3 rfl) ?_
      refine z_iconst hx hb dX10_book_22 ?_
      refine z_iconst hx hb dX10_book_23 ?_
      refine z_callSp (As := [.int (zI what), .int (zI 0), .int (zI 2)]) (rest := []) F hK hz hl (c_X10_isWithin l D cI cJ cZ what 0 2 (by omega)) (va_cwS 3 hts gX10_book_X10_isWithin rfl rfl rfl (by decide +kernel) ⟨Nat.le_of_ble_eq_true rfl, Nat.le_of_ble_eq_true rfl⟩) [] rfl rfl rfl rfl (Nat.le_of_ble_eq_true rfl) ⟨Nat.le_of_ble_eq_true rfl, Nat.le_of_ble_eq_true rfl⟩ dX10_book_24 ?_
      refine z_ifb_ne (tgt := 33) hx hb dX10_book_27 (by decide) (fun h27 => ?_) (fun h27 => ?_)
      ·
        refine lv_aload_n hx hb dX10_book_33 rfl (lv_at hl 0 rfl) ?_
        refine z_get (C := RX10) (T := TX10) (N := 10) (ref := "HornCity") hx hb hts hin_X10_book_X10 hown hK hz 0 rfl rfl 5 (by decide) (hts _ fl_X10_book_36) rfl rfl dX10_book_34 ?_
        refine lv_aload_n hx hb dX10_book_37 rfl (lv_at hl 0 rfl) ?_
        refine z_get (C := RX10) (T := TX10) (N := 10) (ref := "HornCity") hx hb hts hin_X10_book_X10 hown hK hz 0 rfl rfl 0 (by decide) (hts _ fl_X10_book_10) rfl rfl dX10_book_38 ?_
        refine lv_iload_n hx hb dX10_book_41 rfl (lv_at hl 1 rfl) ?_
        refine lv_iload_n hx hb dX10_book_42 rfl (lv_at hl 2 rfl) ?_
        refine z_callVwv (As := [.ref on, .int (zI seed), .int (zI m0)]) (rest := []) (C := RX9) (T := TX9) (N := 6) F hK hz hl (c_X9_draw l D cI cJ cZ ys o kd ai ad am ah ch iy mk on ain adn amn ahn chn iyn mkn kdf inc dri mat ahe iyf mkf incn drin matn iyfn mkfn acs why wac won T tm yr cn Tn tmn yrn cnn seed m0 (by first | assumption | omega) (hbin) (hbdn) (hbmn) (by omega) (by omega)) (cwV 3 hts gX10_book_X9_draw rfl rfl rfl (by decide +kernel) ⟨Nat.le_of_ble_eq_true rfl, Nat.le_of_ble_eq_true rfl⟩) rfl 1 rfl [1, 2, 3, 4, 5, 6, 7, 8, 9, 10, 11, 12, 13, 14, 15, 16, 17] rfl rfl (by decide +kernel) rfl rfl (Nat.le_of_ble_eq_true rfl) ⟨Nat.le_of_ble_eq_true rfl, Nat.le_of_ble_eq_true rfl⟩ dX10_book_43 (fun u H locs hu hz => ?_)
        obtain ⟨inc1_1, dri1_2, mat1_3, T1_4, tm1_5, yr1_6, ah1_7, y1_8, m1_9, c1_10, kd1_11, a1_12, w1_13, wa1_14, wo1_15⟩ := u
        have hu : dri1_2 = drin ∧ T1_4 = Tn ∧ y1_8 = iyfn ∧ m1_9 = mkfn ∧ c1_10 = cnn ∧ (inc1_1, mat1_3, tm1_5, yr1_6) = drwS Tn drin m0.toNat seed (incn, matn, tmn, yrn) ∧ (zBd inc1_1 9 0 179 ∧ zBd mat1_3 9 (-6) 8) := hu
        obtain ⟨g43_0, g43_1, g43_2, g43_3, g43_4, hc43_5, hc43_6⟩ := hu
        have g43_0 := g43_0.symm
        subst g43_0
        have g43_1 := g43_1.symm
        subst g43_1
        have g43_2 := g43_2.symm
        subst g43_2
        have g43_3 := g43_3.symm
        subst g43_3
        have g43_4 := g43_4.symm
        subst g43_4
        have hz : zH D (zF ws0) H0 [(hc, .inr (8, [.ref on, .ref of, .ref os, .ref kp, .ref pd, .ref ys, .ref tu, .ref as, .ref tk, .ref ck])), (ys, .inr (7, [.ref o, .ref kd, .int (zI a1_12), .int (zI w1_13), .int (zI wa1_14), .int (zI wo1_15)])), (kd, .inl (cI, 9, .inl (zA kd1_11))), (o, .inr (2, [.ref ai, .ref ad, .ref am, .ref ah, .ref ch, .int (zI Tn), .int (zI tm1_5), .int (zI yr1_6)])), (ai, .inl (cI, 9, .inl (zA inc1_1))), (ad, .inl (cI, 9, .inl (zA drin))), (am, .inl (cI, 9, .inl (zA mat1_3))), (ah, .inl (cI, 9, .inl (zA ah1_7))), (ch, .inr (1, [.ref iy, .ref mk, .int (zI cnn)])), (iy, .inl (cI, 8, .inl (zA iyfn))), (mk, .inl (cI, 8, .inl (zA mkfn))), (on, .inr (2, [.ref ain, .ref adn, .ref amn, .ref ahn, .ref chn, .int (zI Tn), .int (zI tmn), .int (zI yrn)])), (ain, .inl (cI, 9, .inl (zA incn))), (adn, .inl (cI, 9, .inl (zA drin))), (amn, .inl (cI, 9, .inl (zA matn))), (chn, .inr (1, [.ref iyn, .ref mkn, .int (zI cnn)])), (iyn, .inl (cI, 8, .inl (zA iyfn))), (mkn, .inl (cI, 8, .inl (zA mkfn)))] H locs := hz
        have hTa : 0 ≤ Tn ∧ Tn < 512 := hTn
        refine lv_iload_n hx hb dX10_book_46 rfl (lv_at hl 3 rfl) ?_
        by_cases h47 : what = 0
        ·
          refine z_lkuIn (k := 0) (off := 25) (tgt := 72) hx hb dX10_book_47 (by omega) (by decide) (by decide +kernel) (by decide +kernel) (by decide) ?_
          refine lv_aload_n hx hb dX10_book_72 rfl (lv_at hl 0 rfl) ?_
          refine z_get (C := RX10) (T := TX10) (N := 10) (ref := "HornCity") hx hb hts hin_X10_book_X10 hown hK hz 0 rfl rfl 5 (by decide) (hts _ fl_X10_book_36) rfl rfl dX10_book_73 ?_
          refine z_get (C := RX9) (T := TX9) (N := 6) (ref := "HornCity$Years") hx hb hts hin_X10_book_X9 hown hK hz 1 rfl rfl 0 (by decide) (hts _ fl_X10_book_126) rfl rfl dX10_book_76 ?_
          refine z_callVp (As := []) (rest := []) (C := RX2) (T := TX2) (N := 8) F hK hz hl (c_X2_inclinesAdded l D cI cJ cZ o ai ad am ah ch inc1_1 Tn tm1_5 yr1_6 (by first | assumption | omega) (hc43_6.1)) (cwV 0 hts gX10_book_X2_inclinesAdded rfl rfl rfl (by decide +kernel) ⟨Nat.le_of_ble_eq_true rfl, Nat.le_of_ble_eq_true rfl⟩) rfl 3 rfl [3, 4] rfl rfl rfl rfl (Nat.le_of_ble_eq_true rfl) ⟨Nat.le_of_ble_eq_true rfl, Nat.le_of_ble_eq_true rfl⟩ dX10_book_79 ?_
          exact hret (((sumZ (inO Tn inc1_1) 9) : Int), (inc1_1 : Int → Int), (drin : Int → Int), (mat1_3 : Int → Int), (Tn : Int), (tm1_5 : Int), (yr1_6 : Int), (ah1_7 : Int → Int), (iyfn : Int → Int), (mkfn : Int → Int), (cnn : Int), (kd1_11 : Int → Int), (a1_12 : Int), (w1_13 : Int), (wa1_14 : Int), (wo1_15 : Int)) dX10_book_82 (show (sumZ (inO Tn inc1_1) 9) = boR Tn drin incn matn tmn yrn seed m0 what from (by unfold boR; rw [if_pos (by omega), ← hc43_5]; exact (if_pos h47).symm)) hz
        ·
          by_cases h47q : what = 1
          ·
            refine z_lkuIn (k := 1) (off := 36) (tgt := 83) hx hb dX10_book_47 (by omega) (by decide) (by decide +kernel) (by decide +kernel) (by decide) ?_
            refine lv_aload_n hx hb dX10_book_83 rfl (lv_at hl 0 rfl) ?_
            refine z_get (C := RX10) (T := TX10) (N := 10) (ref := "HornCity") hx hb hts hin_X10_book_X10 hown hK hz 0 rfl rfl 5 (by decide) (hts _ fl_X10_book_36) rfl rfl dX10_book_84 ?_
            refine z_get (C := RX9) (T := TX9) (N := 6) (ref := "HornCity$Years") hx hb hts hin_X10_book_X9 hown hK hz 1 rfl rfl 0 (by decide) (hts _ fl_X10_book_126) rfl rfl dX10_book_87 ?_
            refine z_callVp (As := []) (rest := []) (C := RX2) (T := TX2) (N := 8) F hK hz hl (c_X2_pairsSitting l D cI cJ cZ o ai ad am ah ch mat1_3 Tn tm1_5 yr1_6 (by first | assumption | omega) (hc43_6.2)) (cwV 0 hts gX10_book_X2_pairsSitting rfl rfl rfl (by decide +kernel) ⟨Nat.le_of_ble_eq_true rfl, Nat.le_of_ble_eq_true rfl⟩) rfl 3 rfl [3, 6] rfl rfl rfl rfl (Nat.le_of_ble_eq_true rfl) ⟨Nat.le_of_ble_eq_true rfl, Nat.le_of_ble_eq_true rfl⟩ dX10_book_90 ?_
            exact hret (((pairS Tn mat1_3) : Int), (inc1_1 : Int → Int), (drin : Int → Int), (mat1_3 : Int → Int), (Tn : Int), (tm1_5 : Int), (yr1_6 : Int), (ah1_7 : Int → Int), (iyfn : Int → Int), (mkfn : Int → Int), (cnn : Int), (kd1_11 : Int → Int), (a1_12 : Int), (w1_13 : Int), (wa1_14 : Int), (wo1_15 : Int)) dX10_book_93 (show (pairS Tn mat1_3) = boR Tn drin incn matn tmn yrn seed m0 what from (by unfold boR; rw [if_pos (by omega), ← hc43_5]; exact ((if_neg h47).trans (if_pos h47q)).symm)) hz
          ·
            refine z_lkuOut (tgt := 94) hx hb dX10_book_47 (by omega) (by decide +kernel) (by simp [Op.lookupswitch.offset, Ne.symm h47, Ne.symm h47q]) (by decide) ?_
            refine lv_aload_n hx hb dX10_book_94 rfl (lv_at hl 0 rfl) ?_
            refine z_get (C := RX10) (T := TX10) (N := 10) (ref := "HornCity") hx hb hts hin_X10_book_X10 hown hK hz 0 rfl rfl 5 (by decide) (hts _ fl_X10_book_36) rfl rfl dX10_book_95 ?_
            refine z_get (C := RX9) (T := TX9) (N := 6) (ref := "HornCity$Years") hx hb hts hin_X10_book_X9 hown hK hz 1 rfl rfl 0 (by decide) (hts _ fl_X10_book_126) rfl rfl dX10_book_98 ?_
            refine z_callSp (As := [.ref o]) (rest := []) F hK hz hl (c_X3_triangleCount l D cI cJ cZ o ai ad am ah ch inc1_1 Tn tm1_5 yr1_6 (by first | assumption | omega) (hc43_6.1)) (va_cwS 1 hts gX10_book_X3_triangleCount rfl rfl rfl (by decide +kernel) ⟨Nat.le_of_ble_eq_true rfl, Nat.le_of_ble_eq_true rfl⟩) [3, 4] rfl rfl rfl rfl (Nat.le_of_ble_eq_true rfl) ⟨Nat.le_of_ble_eq_true rfl, Nat.le_of_ble_eq_true rfl⟩ dX10_book_101 ?_
            exact hret (((sumZ (fun s => if triS Tn inc1_1 s = true then 1 else 0) 512) : Int), (inc1_1 : Int → Int), (drin : Int → Int), (mat1_3 : Int → Int), (Tn : Int), (tm1_5 : Int), (yr1_6 : Int), (ah1_7 : Int → Int), (iyfn : Int → Int), (mkfn : Int → Int), (cnn : Int), (kd1_11 : Int → Int), (a1_12 : Int), (w1_13 : Int), (wa1_14 : Int), (wo1_15 : Int)) dX10_book_104 (show (sumZ (fun s => if triS Tn inc1_1 s = true then 1 else 0) 512) = boR Tn drin incn matn tmn yrn seed m0 what from (by unfold boR; rw [if_pos (by omega), ← hc43_5]; exact ((if_neg h47).trans (if_neg h47q)).symm)) hz
      ·
        refine z_bipush hx hb dX10_book_30 (by decide) ?_
        exact hret (((-2) : Int), (inc : Int → Int), (dri : Int → Int), (mat : Int → Int), (T : Int), (tm : Int), (yr : Int), (ahe : Int → Int), (iyf : Int → Int), (mkf : Int → Int), (cn : Int), (kdf : Int → Int), (acs : Int), (why : Int), (wac : Int), (won : Int)) dX10_book_32 (show (-2) = boR Tn drin incn matn tmn yrn seed m0 what from (by unfold boR; rw [if_neg (by omega)])) hz
