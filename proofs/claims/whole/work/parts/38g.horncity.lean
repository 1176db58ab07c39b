set_option maxRecDepth 20000 in
theorem hin_X10_imageOf_X10 : ∀ w ∈ u_ws RX10 TX10 10, w ∈ wsX10_imageOf := by decide +kernel
set_option maxRecDepth 20000 in
theorem fl_X10_imageOf_16 : Cond.fieldLink RX10 16 "HornCity" "firstImage" "LHornCity$City;" ∈ wsX10_imageOf := by decide +kernel
set_option maxHeartbeats 4000000 in
set_option maxRecDepth 100000 in
theorem c_X10_imageOf_0 (l : Launch) (D : va_G) (cI cJ cZ : ClassId) (hc on of os kp pd ys tu as tk ck : Nat) (n0 : Int) (hn0 : n0 = 0) : zMp l yX10_imageOf wsX10_imageOf (zRm 0) D cI cJ cZ [.ref hc, .int (zI n0)] [(hc, .inr (8, [.ref on, .ref of, .ref os, .ref kp, .ref pd, .ref ys, .ref tu, .ref as, .ref tk, .ref ck]))] (some (.ref of)) := by
  refine zMp_r (cc := cX10_imageOf) (maxL := 2) (by decide +kernel) rfl (Nat.le_of_ble_eq_true rfl) rfl ?_
  intro p e s m args below meth c Q H ls F hK hz hl hret
  obtain ⟨hx, hb, hml, hown0, hts⟩ := id F
  have hown : s.vm.findClass RX10 = some m.cls := hown0
  obtain ⟨ws0, hw0⟩ : ∃ w : va_W, w = [(hc, .inr (8, [.ref on, .ref of, .ref os, .ref kp, .ref pd, .ref ys, .ref tu, .ref as, .ref tk, .ref ck]))] := ⟨_, rfl⟩
  have hz : zH D (zF ws0) H [(hc, .inr (8, [.ref on, .ref of, .ref os, .ref kp, .ref pd, .ref ys, .ref tu, .ref as, .ref tk, .ref ck]))] H [] := by rw [hw0]; exact hz
  have hl : lv_has ls 2 [(0, .ref hc), (1, .int (zI n0))] := hl
  refine lv_iload_n hx hb dX10_imageOf_0 rfl (lv_at hl 1 rfl) ?_
  refine z_if_ne (tgt := 11) hx hb dX10_imageOf_1 (by decide) (by omega) (fun h1 => ?_) (fun h1 => ?_)
  ·
    exact absurd hn0 h1
  ·
    refine lv_aload_n hx hb dX10_imageOf_4 rfl (lv_at hl 0 rfl) ?_
    refine z_get (C := RX10) (T := TX10) (N := 10) (ref := "HornCity") hx hb hts hin_X10_imageOf_X10 hown hK hz 0 rfl rfl 1 (by decide) (hts _ fl_X10_imageOf_16) rfl rfl dX10_imageOf_5 ?_
    refine lv_goto (tgt := 15) hx hb dX10_imageOf_8 (by decide) ?_
    exact hret dX10_imageOf_15 rfl

set_option maxRecDepth 20000 in
theorem fl_X10_imageOf_19 : Cond.fieldLink RX10 19 "HornCity" "secondImage" "LHornCity$City;" ∈ wsX10_imageOf := by decide +kernel
set_option maxHeartbeats 4000000 in
set_option maxRecDepth 100000 in
theorem c_X10_imageOf_1 (l : Launch) (D : va_G) (cI cJ cZ : ClassId) (hc on of os kp pd ys tu as tk ck : Nat) (n0 : Int) (hn0 : n0 = 1) : zMp l yX10_imageOf wsX10_imageOf (zRm 0) D cI cJ cZ [.ref hc, .int (zI n0)] [(hc, .inr (8, [.ref on, .ref of, .ref os, .ref kp, .ref pd, .ref ys, .ref tu, .ref as, .ref tk, .ref ck]))] (some (.ref os)) := by
  refine zMp_r (cc := cX10_imageOf) (maxL := 2) (by decide +kernel) rfl (Nat.le_of_ble_eq_true rfl) rfl ?_
  intro p e s m args below meth c Q H ls F hK hz hl hret
  obtain ⟨hx, hb, hml, hown0, hts⟩ := id F
  have hown : s.vm.findClass RX10 = some m.cls := hown0
  obtain ⟨ws0, hw0⟩ : ∃ w : va_W, w = [(hc, .inr (8, [.ref on, .ref of, .ref os, .ref kp, .ref pd, .ref ys, .ref tu, .ref as, .ref tk, .ref ck]))] := ⟨_, rfl⟩
  have hz : zH D (zF ws0) H [(hc, .inr (8, [.ref on, .ref of, .ref os, .ref kp, .ref pd, .ref ys, .ref tu, .ref as, .ref tk, .ref ck]))] H [] := by rw [hw0]; exact hz
  have hl : lv_has ls 2 [(0, .ref hc), (1, .int (zI n0))] := hl
  refine lv_iload_n hx hb dX10_imageOf_0 rfl (lv_at hl 1 rfl) ?_
  refine z_if_ne (tgt := 11) hx hb dX10_imageOf_1 (by decide) (by omega) (fun h1 => ?_) (fun h1 => ?_)
  ·
    refine lv_aload_n hx hb dX10_imageOf_11 rfl (lv_at hl 0 rfl) ?_
    refine z_get (C := RX10) (T := TX10) (N := 10) (ref := "HornCity") hx hb hts hin_X10_imageOf_X10 hown hK hz 0 rfl rfl 2 (by decide) (hts _ fl_X10_imageOf_19) rfl rfl dX10_imageOf_12 ?_
    exact hret dX10_imageOf_15 rfl
  ·
    omega

set_option maxRecDepth 20000 in
theorem hin_X10_image_X10 : ∀ w ∈ u_ws RX10 TX10 10, w ∈ wsX10_image := by decide +kernel
set_option maxRecDepth 20000 in
theorem fl_X10_image_10 : Cond.fieldLink RX10 10 "HornCity" "now" "LHornCity$City;" ∈ wsX10_image := by decide +kernel
set_option maxRecDepth 20000 in
theorem fl_X10_image_22 : Cond.fieldLink RX10 22 "HornCity" "kept" "[Z" ∈ wsX10_image := by decide +kernel
set_option maxHeartbeats 4000000 in
set_option maxRecDepth 100000 in
theorem c_X10_image_0 (l : Launch) (D : va_G) (cI cJ cZ : ClassId) (hc on of os kp pd ys tu as tk ck aif adf amf ahf chf iyf mkf ain adn amn ahn chn iyn mkn : Nat) (kpf incf drif matf iyff mkff incn drin matn iyfn mkfn : Int → Int) (Tf tmf yrf cnf Tn tmn yrn cnn n0 : Int) (hn0 : n0 = 0) : zMw l yX10_image wsX10_image (zRm 2) D cI cJ cZ [.ref hc, .int (zI n0)] [(hc, .inr (8, [.ref on, .ref of, .ref os, .ref kp, .ref pd, .ref ys, .ref tu, .ref as, .ref tk, .ref ck])), (kp, .inl (cZ, 2, .inl (zA kpf))), (of, .inr (2, [.ref aif, .ref adf, .ref amf, .ref ahf, .ref chf, .int (zI Tf), .int (zI tmf), .int (zI yrf)])), (aif, .inl (cI, 9, .inl (zA incf))), (adf, .inl (cI, 9, .inl (zA drif))), (amf, .inl (cI, 9, .inl (zA matf))), (chf, .inr (1, [.ref iyf, .ref mkf, .int (zI cnf)])), (iyf, .inl (cI, 8, .inl (zA iyff))), (mkf, .inl (cI, 8, .inl (zA mkff))), (on, .inr (2, [.ref ain, .ref adn, .ref amn, .ref ahn, .ref chn, .int (zI Tn), .int (zI tmn), .int (zI yrn)])), (ain, .inl (cI, 9, .inl (zA incn))), (adn, .inl (cI, 9, .inl (zA drin))), (amn, .inl (cI, 9, .inl (zA matn))), (chn, .inr (1, [.ref iyn, .ref mkn, .int (zI cnn)])), (iyn, .inl (cI, 8, .inl (zA iyfn))), (mkn, .inl (cI, 8, .inl (zA mkfn)))] (S := Int × (Int → Int) × (Int → Int) × (Int → Int) × Int × Int × Int × (Int → Int) × (Int → Int) × Int × (Int → Int)) (fun u => u.1 = 1 ∧ u.2.1 = incn ∧ u.2.2.1 = drin ∧ u.2.2.2.1 = matn ∧ u.2.2.2.2.1 = Tn ∧ u.2.2.2.2.2.1 = tmn ∧ u.2.2.2.2.2.2.1 = yrn ∧ u.2.2.2.2.2.2.2.1 = iyfn ∧ u.2.2.2.2.2.2.2.2.1 = mkfn ∧ u.2.2.2.2.2.2.2.2.2.1 = cnn ∧ u.2.2.2.2.2.2.2.2.2.2 = zU kpf 0 1) (fun u => some (.int (zI u.1))) (fun u => [(hc, .inr (8, [.ref on, .ref of, .ref os, .ref kp, .ref pd, .ref ys, .ref tu, .ref as, .ref tk, .ref ck])), (kp, .inl (cZ, 2, .inl (zA u.2.2.2.2.2.2.2.2.2.2))), (of, .inr (2, [.ref aif, .ref adf, .ref amf, .ref ahf, .ref chf, .int (zI u.2.2.2.2.1), .int (zI u.2.2.2.2.2.1), .int (zI u.2.2.2.2.2.2.1)])), (aif, .inl (cI, 9, .inl (zA u.2.1))), (adf, .inl (cI, 9, .inl (zA u.2.2.1))), (amf, .inl (cI, 9, .inl (zA u.2.2.2.1))), (chf, .inr (1, [.ref iyf, .ref mkf, .int (zI u.2.2.2.2.2.2.2.2.2.1)])), (iyf, .inl (cI, 8, .inl (zA u.2.2.2.2.2.2.2.1))), (mkf, .inl (cI, 8, .inl (zA u.2.2.2.2.2.2.2.2.1))), (on, .inr (2, [.ref ain, .ref adn, .ref amn, .ref ahn, .ref chn, .int (zI Tn), .int (zI tmn), .int (zI yrn)])), (ain, .inl (cI, 9, .inl (zA incn))), (adn, .inl (cI, 9, .inl (zA drin))), (amn, .inl (cI, 9, .inl (zA matn))), (chn, .inr (1, [.ref iyn, .ref mkn, .int (zI cnn)])), (iyn, .inl (cI, 8, .inl (zA iyfn))), (mkn, .inl (cI, 8, .inl (zA mkfn)))]) := by
  refine zMw_i (cc := cX10_image) (maxL := 2) (by decide +kernel) rfl (Nat.le_of_ble_eq_true rfl) rfl (fun _ => rfl) ?_
  intro p e s m args below meth c Q H0 ls F hK hz hl hret
  obtain ⟨hx, hb, hml, hown0, hts⟩ := id F
  have hown : s.vm.findClass RX10 = some m.cls := hown0
  obtain ⟨ws0, hw0⟩ : ∃ w : va_W, w = [(hc, .inr (8, [.ref on, .ref of, .ref os, .ref kp, .ref pd, .ref ys, .ref tu, .ref as, .ref tk, .ref ck])), (kp, .inl (cZ, 2, .inl (zA kpf))), (of, .inr (2, [.ref aif, .ref adf, .ref amf, .ref ahf, .ref chf, .int (zI Tf), .int (zI tmf), .int (zI yrf)])), (aif, .inl (cI, 9, .inl (zA incf))), (adf, .inl (cI, 9, .inl (zA drif))), (amf, .inl (cI, 9, .inl (zA matf))), (chf, .inr (1, [.ref iyf, .ref mkf, .int (zI cnf)])), (iyf, .inl (cI, 8, .inl (zA iyff))), (mkf, .inl (cI, 8, .inl (zA mkff))), (on, .inr (2, [.ref ain, .ref adn, .ref amn, .ref ahn, .ref chn, .int (zI Tn), .int (zI tmn), .int (zI yrn)])), (ain, .inl (cI, 9, .inl (zA incn))), (adn, .inl (cI, 9, .inl (zA drin))), (amn, .inl (cI, 9, .inl (zA matn))), (chn, .inr (1, [.ref iyn, .ref mkn, .int (zI cnn)])), (iyn, .inl (cI, 8, .inl (zA iyfn))), (mkn, .inl (cI, 8, .inl (zA mkfn)))] := ⟨_, rfl⟩
  rw [← hw0] at hret
  have hz : zH D (zF ws0) H0 [(hc, .inr (8, [.ref on, .ref of, .ref os, .ref kp, .ref pd, .ref ys, .ref tu, .ref as, .ref tk, .ref ck])), (kp, .inl (cZ, 2, .inl (zA kpf))), (of, .inr (2, [.ref aif, .ref adf, .ref amf, .ref ahf, .ref chf, .int (zI Tf), .int (zI tmf), .int (zI yrf)])), (aif, .inl (cI, 9, .inl (zA incf))), (adf, .inl (cI, 9, .inl (zA drif))), (amf, .inl (cI, 9, .inl (zA matf))), (chf, .inr (1, [.ref iyf, .ref mkf, .int (zI cnf)])), (iyf, .inl (cI, 8, .inl (zA iyff))), (mkf, .inl (cI, 8, .inl (zA mkff))), (on, .inr (2, [.ref ain, .ref adn, .ref amn, .ref ahn, .ref chn, .int (zI Tn), .int (zI tmn), .int (zI yrn)])), (ain, .inl (cI, 9, .inl (zA incn))), (adn, .inl (cI, 9, .inl (zA drin))), (amn, .inl (cI, 9, .inl (zA matn))), (chn, .inr (1, [.ref iyn, .ref mkn, .int (zI cnn)])), (iyn, .inl (cI, 8, .inl (zA iyfn))), (mkn, .inl (cI, 8, .inl (zA mkfn)))] H0 [] := by rw [hw0]; exact hz
  have hl : lv_has ls 2 [(0, .ref hc), (1, .int (zI n0))] := hl
  refine lv_iload_n hx hb dX10_image_0 rfl (lv_at hl 1 rfl) ?_
  refine z_iconst hx hb dX10_image_1 ?_
  refine z_iconst hx hb dX10_image_2 ?_
  refine z_callSp (As := [.int (zI n0), .int (zI 0), .int (zI 1)]) (rest := []) F hK hz hl (c_X10_isWithin l D cI cJ cZ n0 0 1 (by omega)) (va_cwS 3 hts gX10_image_X10_isWithin rfl rfl rfl (by decide +kernel) ⟨Nat.le_of_ble_eq_true rfl, Nat.le_of_ble_eq_true rfl⟩) [] rfl rfl rfl rfl (Nat.le_of_ble_eq_true rfl) ⟨Nat.le_of_ble_eq_true rfl, Nat.le_of_ble_eq_true rfl⟩ dX10_image_3 ?_
  refine z_ifb_ne (tgt := 12) hx hb dX10_image_6 (by decide) (fun h6 => ?_) (fun h6 => ?_)
  ·
    refine lv_aload_n hx hb dX10_image_12 rfl (lv_at hl 0 rfl) ?_
    refine lv_iload_n hx hb dX10_image_13 rfl (lv_at hl 1 rfl) ?_
    refine z_callVpr (As := [.int (zI n0)]) (rest := []) (C := RX10) (T := TX10) (N := 10) F hK hz hl (c_X10_imageOf_0 l D cI cJ cZ hc on of os kp pd ys tu as tk ck n0 (by assumption)) (cwV 1 hts gX10_image_X10_imageOf rfl rfl rfl (by decide +kernel) ⟨Nat.le_of_ble_eq_true rfl, Nat.le_of_ble_eq_true rfl⟩) rfl 0 rfl [0] rfl rfl rfl rfl (Nat.le_of_ble_eq_true rfl) ⟨Nat.le_of_ble_eq_true rfl, Nat.le_of_ble_eq_true rfl⟩ dX10_image_14 ?_
    refine lv_aload_n hx hb dX10_image_17 rfl (lv_at hl 0 rfl) ?_
    refine z_get (C := RX10) (T := TX10) (N := 10) (ref := "HornCity") hx hb hts hin_X10_image_X10 hown hK hz 0 rfl rfl 0 (by decide) (hts _ fl_X10_image_10) rfl rfl dX10_image_18 ?_
    refine z_callVwv (As := [.ref on]) (rest := []) (C := RX2) (T := TX2) (N := 8) F hK hz hl (c_X2_become l D cI cJ cZ of aif adf amf ahf chf iyf mkf on ain adn amn ahn chn iyn mkn incf drif matf iyff mkff incn drin matn iyfn mkfn Tf tmf yrf cnf Tn tmn yrn cnn ) (cwV 1 hts gX10_image_X2_become rfl rfl rfl (by decide +kernel) ⟨Nat.le_of_ble_eq_true rfl, Nat.le_of_ble_eq_true rfl⟩) rfl 2 rfl [2, 3, 4, 5, 6, 7, 8, 9, 10, 11, 12, 13, 14, 15] rfl rfl (by decide +kernel) rfl rfl (Nat.le_of_ble_eq_true rfl) ⟨Nat.le_of_ble_eq_true rfl, Nat.le_of_ble_eq_true rfl⟩ dX10_image_21 (fun u H locs hu hz => ?_)
    obtain ⟨inc1_1, dri1_2, mat1_3, T1_4, tm1_5, yr1_6, y1_7, m1_8, c1_9⟩ := u
    have hu : inc1_1 = incn ∧ dri1_2 = drin ∧ mat1_3 = matn ∧ T1_4 = Tn ∧ tm1_5 = tmn ∧ yr1_6 = yrn ∧ y1_7 = iyfn ∧ m1_8 = mkfn ∧ c1_9 = cnn := hu
    obtain ⟨g21_0, g21_1, g21_2, g21_3, g21_4, g21_5, g21_6, g21_7, g21_8⟩ := hu
    have g21_0 := g21_0.symm
    subst g21_0
    have g21_1 := g21_1.symm
    subst g21_1
    have g21_2 := g21_2.symm
    subst g21_2
    have g21_3 := g21_3.symm
    subst g21_3
    have g21_4 := g21_4.symm
    subst g21_4
    have g21_5 := g21_5.symm
    subst g21_5
    have g21_6 := g21_6.symm
    subst g21_6
    have g21_7 := g21_7.symm
    subst g21_7
    have g21_8 := g21_8.symm
    subst g21_8
    have hz : zH D (zF ws0) H0 [(hc, .inr (8, [.ref on, .ref of, .ref os, .ref kp, .ref pd, .ref ys, .ref tu, .ref as, .ref tk, .ref ck])), (kp, .inl (cZ, 2, .inl (zA kpf))), (of, .inr (2, [.ref aif, .ref adf, .ref amf, .ref ahf, .ref chf, .int (zI Tn), .int (zI tmn), .int (zI yrn)])), (aif, .inl (cI, 9, .inl (zA incn))), (adf, .inl (cI, 9, .inl (zA drin))), (amf, .inl (cI, 9, .inl (zA matn))), (chf, .inr (1, [.ref iyf, .ref mkf, .int (zI cnn)])), (iyf, .inl (cI, 8, .inl (zA iyfn))), (mkf, .inl (cI, 8, .inl (zA mkfn))), (on, .inr (2, [.ref ain, .ref adn, .ref amn, .ref ahn, .ref chn, .int (zI Tn), .int (zI tmn), .int (zI yrn)])), (ain, .inl (cI, 9, .inl (zA incn))), (adn, .inl (cI, 9, .inl (zA drin))), (amn, .inl (cI, 9, .inl (zA matn))), (chn, .inr (1, [.ref iyn, .ref mkn, .int (zI cnn)])), (iyn, .inl (cI, 8, .inl (zA iyfn))), (mkn, .inl (cI, 8, .inl (zA mkfn)))] H locs := hz
    refine lv_aload_n hx hb dX10_image_24 rfl (lv_at hl 0 rfl) ?_
    refine z_get (C := RX10) (T := TX10) (N := 10) (ref := "HornCity") hx hb hts hin_X10_image_X10 hown hK hz 0 rfl rfl 3 (by decide) (hts _ fl_X10_image_22) rfl rfl dX10_image_25 ?_
    refine lv_iload_n hx hb dX10_image_28 rfl (lv_at hl 1 rfl) ?_
    refine z_iconst hx hb dX10_image_29 ?_
    refine z_zast hx hb hK hz 1 rfl (by omega) (by decide) (by first | decide | omega | (split <;> decide)) dX10_image_30 (fun H locs hz => ?_)
    have hz : zH D (zF ws0) H0 [(hc, .inr (8, [.ref on, .ref of, .ref os, .ref kp, .ref pd, .ref ys, .ref tu, .ref as, .ref tk, .ref ck])), (kp, .inl (cZ, 2, .inl (zA (zU kpf n0 1)))), (of, .inr (2, [.ref aif, .ref adf, .ref amf, .ref ahf, .ref chf, .int (zI Tn), .int (zI tmn), .int (zI yrn)])), (aif, .inl (cI, 9, .inl (zA incn))), (adf, .inl (cI, 9, .inl (zA drin))), (amf, .inl (cI, 9, .inl (zA matn))), (chf, .inr (1, [.ref iyf, .ref mkf, .int (zI cnn)])), (iyf, .inl (cI, 8, .inl (zA iyfn))), (mkf, .inl (cI, 8, .inl (zA mkfn))), (on, .inr (2, [.ref ain, .ref adn, .ref amn, .ref ahn, .ref chn, .int (zI Tn), .int (zI tmn), .int (zI yrn)])), (ain, .inl (cI, 9, .inl (zA incn))), (adn, .inl (cI, 9, .inl (zA drin))), (amn, .inl (cI, 9, .inl (zA matn))), (chn, .inr (1, [.ref iyn, .ref mkn, .int (zI cnn)])), (iyn, .inl (cI, 8, .inl (zA iyfn))), (mkn, .inl (cI, 8, .inl (zA mkfn)))] H locs := hz
    refine z_iconst hx hb dX10_image_31 ?_
    exact hret ((1 : Int), (incn : Int → Int), (drin : Int → Int), (matn : Int → Int), (Tn : Int), (tmn : Int), (yrn : Int), (iyfn : Int → Int), (mkfn : Int → Int), (cnn : Int), (zU kpf n0 1 : Int → Int)) dX10_image_32 (show 1 = 1 ∧ incn = incn ∧ drin = drin ∧ matn = matn ∧ Tn = Tn ∧ tmn = tmn ∧ yrn = yrn ∧ iyfn = iyfn ∧ mkfn = mkfn ∧ cnn = cnn ∧ (zU kpf n0 1) = zU kpf 0 1 from ⟨rfl, rfl, rfl, rfl, rfl, rfl, rfl, rfl, rfl, rfl, by rw [hn0]⟩) hz
  ·
    exfalso; omega

set_option maxHeartbeats 4000000 in
set_option maxRecDepth 100000 in
theorem c_X10_image_1 (l : Launch) (D : va_G) (cI cJ cZ : ClassId) (hc on of os kp pd ys tu as tk ck ais ads ams ahs chs iys mks ain adn amn ahn chn iyn mkn : Nat) (kpf incs dris mats iyfs mkfs incn drin matn iyfn mkfn : Int → Int) (Ts tms yrs cns Tn tmn yrn cnn n0 : Int) (hn0 : n0 = 1) : zMw l yX10_image wsX10_image (zRm 2) D cI cJ cZ [.ref hc, .int (zI n0)] [(hc, .inr (8, [.ref on, .ref of, .ref os, .ref kp, .ref pd, .ref ys, .ref tu, .ref as, .ref tk, .ref ck])), (kp, .inl (cZ, 2, .inl (zA kpf))), (os, .inr (2, [.ref ais, .ref ads, .ref ams, .ref ahs, .ref chs, .int (zI Ts), .int (zI tms), .int (zI yrs)])), (ais, .inl (cI, 9, .inl (zA incs))), (ads, .inl (cI, 9, .inl (zA dris))), (ams, .inl (cI, 9, .inl (zA mats))), (chs, .inr (1, [.ref iys, .ref mks, .int (zI cns)])), (iys, .inl (cI, 8, .inl (zA iyfs))), (mks, .inl (cI, 8, .inl (zA mkfs))), (on, .inr (2, [.ref ain, .ref adn, .ref amn, .ref ahn, .ref chn, .int (zI Tn), .int (zI tmn), .int (zI yrn)])), (ain, .inl (cI, 9, .inl (zA incn))), (adn, .inl (cI, 9, .inl (zA drin))), (amn, .inl (cI, 9, .inl (zA matn))), (chn, .inr (1, [.ref iyn, .ref mkn, .int (zI cnn)])), (iyn, .inl (cI, 8, .inl (zA iyfn))), (mkn, .inl (cI, 8, .inl (zA mkfn)))] (S := Int × (Int → Int) × (Int → Int) × (Int → Int) × Int × Int × Int × (Int → Int) × (Int → Int) × Int × (Int → Int)) (fun u => u.1 = 1 ∧ u.2.1 = incn ∧ u.2.2.1 = drin ∧ u.2.2.2.1 = matn ∧ u.2.2.2.2.1 = Tn ∧ u.2.2.2.2.2.1 = tmn ∧ u.2.2.2.2.2.2.1 = yrn ∧ u.2.2.2.2.2.2.2.1 = iyfn ∧ u.2.2.2.2.2.2.2.2.1 = mkfn ∧ u.2.2.2.2.2.2.2.2.2.1 = cnn ∧ u.2.2.2.2.2.2.2.2.2.2 = zU kpf 1 1) (fun u => some (.int (zI u.1))) (fun u => [(hc, .inr (8, [.ref on, .ref of, .ref os, .ref kp, .ref pd, .ref ys, .ref tu, .ref as, .ref tk, .ref ck])), (kp, .inl (cZ, 2, .inl (zA u.2.2.2.2.2.2.2.2.2.2))), (os, .inr (2, [.ref ais, .ref ads, .ref ams, .ref ahs, .ref chs, .int (zI u.2.2.2.2.1), .int (zI u.2.2.2.2.2.1), .int (zI u.2.2.2.2.2.2.1)])), (ais, .inl (cI, 9, .inl (zA u.2.1))), (ads, .inl (cI, 9, .inl (zA u.2.2.1))), (ams, .inl (cI, 9, .inl (zA u.2.2.2.1))), (chs, .inr (1, [.ref iys, .ref mks, .int (zI u.2.2.2.2.2.2.2.2.2.1)])), (iys, .inl (cI, 8, .inl (zA u.2.2.2.2.2.2.2.1))), (mks, .inl (cI, 8, .inl (zA u.2.2.2.2.2.2.2.2.1))), (on, .inr (2, [.ref ain, .ref adn, .ref amn, .ref ahn, .ref chn, .int (zI Tn), .int (zI tmn), .int (zI yrn)])), (ain, .inl (cI, 9, .inl (zA incn))), (adn, .inl (cI, 9, .inl (zA drin))), (amn, .inl (cI, 9, .inl (zA matn))), (chn, .inr (1, [.ref iyn, .ref mkn, .int (zI cnn)])), (iyn, .inl (cI, 8, .inl (zA iyfn))), (mkn, .inl (cI, 8, .inl (zA mkfn)))]) := by
  refine zMw_i (cc := cX10_image) (maxL := 2) (by decide +kernel) rfl (Nat.le_of_ble_eq_true rfl) rfl (fun _ => rfl) ?_
  intro p e s m args below meth c Q H0 ls F hK hz hl hret
  obtain ⟨hx, hb, hml, hown0, hts⟩ := id F
  have hown : s.vm.findClass RX10 = some m.cls := hown0
  obtain ⟨ws0, hw0⟩ : ∃ w : va_W, w = [(hc, .inr (8, [.ref on, .ref of, .ref os, .ref kp, .ref pd, .ref ys, .ref tu, .ref as, .ref tk, .ref ck])), (kp, .inl (cZ, 2, .inl (zA kpf))), (os, .inr (2, [.ref ais, .ref ads, .ref ams, .ref ahs, .ref chs, .int (zI Ts), .int (zI tms), .int (zI yrs)])), (ais, .inl (cI, 9, .inl (zA incs))), (ads, .inl (cI, 9, .inl (zA dris))), (ams, .inl (cI, 9, .inl (zA mats))), (chs, .inr (1, [.ref iys, .ref mks, .int (zI cns)])), (iys, .inl (cI, 8, .inl (zA iyfs))), (mks, .inl (cI, 8, .inl (zA mkfs))), (on, .inr (2, [.ref ain, .ref adn, .ref amn, .ref ahn, .ref chn, .int (zI Tn), .int (zI tmn), .int (zI yrn)])), (ain, .inl (cI, 9, .inl (zA incn))), (adn, .inl (cI, 9, .inl (zA drin))), (amn, .inl (cI, 9, .inl (zA matn))), (chn, .inr (1, [.ref iyn, .ref mkn, .int (zI cnn)])), (iyn, .inl (cI, 8, .inl (zA iyfn))), (mkn, .inl (cI, 8, .inl (zA mkfn)))] := ⟨_, rfl⟩
  rw [← hw0] at hret
  have hz : zH D (zF ws0) H0 [(hc, .inr (8, [.ref on, .ref of, .ref os, .ref kp, .ref pd, .ref ys, .ref tu, .ref as, .ref tk, .ref ck])), (kp, .inl (cZ, 2, .inl (zA kpf))), (os, .inr (2, [.ref ais, .ref ads, .ref ams, .ref ahs, .ref chs, .int (zI Ts), .int (zI tms), .int (zI yrs)])), (ais, .inl (cI, 9, .inl (zA incs))), (ads, .inl (cI, 9, .inl (zA dris))), (ams, .inl (cI, 9, .inl (zA mats))), (chs, .inr (1, [.ref iys, .ref mks, .int (zI cns)])), (iys, .inl (cI, 8, .inl (zA iyfs))), (mks, .inl (cI, 8, .inl (zA mkfs))), (on, .inr (2, [.ref ain, .ref adn, .ref amn, .ref ahn, .ref chn, .int (zI Tn), .int (zI tmn), .int (zI yrn)])), (ain, .inl (cI, 9, .inl (zA incn))), (adn, .inl (cI, 9, .inl (zA drin))), (amn, .inl (cI, 9, .inl (zA matn))), (chn, .inr (1, [.ref iyn, .ref mkn, .int (zI cnn)])), (iyn, .inl (cI, 8, .inl (zA iyfn))), (mkn, .inl (cI, 8, .inl (zA mkfn)))] H0 [] := by rw [hw0]; exact hz
  have hl : lv_has ls 2 [(0, .ref hc), (1, .int (zI n0))] := hl
  refine lv_iload_n hx hb dX10_image_0 rfl (lv_at hl 1 rfl) ?_
  refine z_iconst hx hb dX10_image_1 ?_
  refine z_iconst hx hb dX10_image_2 ?_
  refine z_callSp (As := [.int (zI n0), .int (zI 0), .int (zI 1)]) (rest := []) F hK hz hl (c_X10_isWithin l D cI cJ cZ n0 0 1 (by omega)) (va_cwS 3 hts gX10_image_X10_isWithin rfl rfl rfl (by decide +kernel) ⟨Nat.le_of_ble_eq_true rfl, Nat.le_of_ble_eq_true rfl⟩) [] rfl rfl rfl rfl (Nat.le_of_ble_eq_true rfl) ⟨Nat.le_of_ble_eq_true rfl, Nat.le_of_ble_eq_true rfl⟩ dX10_image_3 ?_
  refine z_ifb_ne (tgt := 12) hx hb dX10_image_6 (by decide) (fun h6 => ?_) (fun h6 => ?_)
  ·
    refine lv_aload_n hx hb dX10_image_12 rfl (lv_at hl 0 rfl) ?_
    refine lv_iload_n hx hb dX10_image_13 rfl (lv_at hl 1 rfl) ?_
    refine z_callVpr (As := [.int (zI n0)]) (rest := []) (C := RX10) (T := TX10) (N := 10) F hK hz hl (c_X10_imageOf_1 l D cI cJ cZ hc on of os kp pd ys tu as tk ck n0 (by assumption)) (cwV 1 hts gX10_image_X10_imageOf rfl rfl rfl (by decide +kernel) ⟨Nat.le_of_ble_eq_true rfl, Nat.le_of_ble_eq_true rfl⟩) rfl 0 rfl [0] rfl rfl rfl rfl (Nat.le_of_ble_eq_true rfl) ⟨Nat.le_of_ble_eq_true rfl, Nat.le_of_ble_eq_true rfl⟩ dX10_image_14 ?_
    refine lv_aload_n hx hb dX10_image_17 rfl (lv_at hl 0 rfl) ?_
    refine z_get (C := RX10) (T := TX10) (N := 10) (ref := "HornCity") hx hb hts hin_X10_image_X10 hown hK hz 0 rfl rfl 0 (by decide) (hts _ fl_X10_image_10) rfl rfl dX10_image_18 ?_
    refine z_callVwv (As := [.ref on]) (rest := []) (C := RX2) (T := TX2) (N := 8) F hK hz hl (c_X2_become l D cI cJ cZ os ais ads ams ahs chs iys mks on ain adn amn ahn chn iyn mkn incs dris mats iyfs mkfs incn drin matn iyfn mkfn Ts tms yrs cns Tn tmn yrn cnn ) (cwV 1 hts gX10_image_X2_become rfl rfl rfl (by decide +kernel) ⟨Nat.le_of_ble_eq_true rfl, Nat.le_of_ble_eq_true rfl⟩) rfl 2 rfl [2, 3, 4, 5, 6, 7, 8, 9, 10, 11, 12, 13, 14, 15] rfl rfl (by decide +kernel) rfl rfl (Nat.le_of_ble_eq_true rfl) ⟨Nat.le_of_ble_eq_true rfl, Nat.le_of_ble_eq_true rfl⟩ dX10_image_21 (fun u H locs hu hz => ?_)
    obtain ⟨inc1_1, dri1_2, mat1_3, T1_4, tm1_5, yr1_6, y1_7, m1_8, c1_9⟩ := u
    have hu : inc1_1 = incn ∧ dri1_2 = drin ∧ mat1_3 = matn ∧ T1_4 = Tn ∧ tm1_5 = tmn ∧ yr1_6 = yrn ∧ y1_7 = iyfn ∧ m1_8 = mkfn ∧ c1_9 = cnn := hu
    obtain ⟨g21_0, g21_1, g21_2, g21_3, g21_4, g21_5, g21_6, g21_7, g21_8⟩ := hu
    have g21_0 := g21_0.symm
    subst g21_0
    have g21_1 := g21_1.symm
    subst g21_1
    have g21_2 := g21_2.symm
    subst g21_2
    have g21_3 := g21_3.symm
    subst g21_3
    have g21_4 := g21_4.symm
    subst g21_4
    have g21_5 := g21_5.symm
    subst g21_5
    have g21_6 := g21_6.symm
    subst g21_6
    have g21_7 := g21_7.symm
    subst g21_7
    have g21_8 := g21_8.symm
    subst g21_8
    have hz : zH D (zF ws0) H0 [(hc, .inr (8, [.ref on, .ref of, .ref os, .ref kp, .ref pd, .ref ys, .ref tu, .ref as, .ref tk, .ref ck])), (kp, .inl (cZ, 2, .inl (zA kpf))), (os, .inr (2, [.ref ais, .ref ads, .ref ams, .ref ahs, .ref chs, .int (zI Tn), .int (zI tmn), .int (zI yrn)])), (ais, .inl (cI, 9, .inl (zA incn))), (ads, .inl (cI, 9, .inl (zA drin))), (ams, .inl (cI, 9, .inl (zA matn))), (chs, .inr (1, [.ref iys, .ref mks, .int (zI cnn)])), (iys, .inl (cI, 8, .inl (zA iyfn))), (mks, .inl (cI, 8, .inl (zA mkfn))), (on, .inr (2, [.ref ain, .ref adn, .ref amn, .ref ahn, .ref chn, .int (zI Tn), .int (zI tmn), .int (zI yrn)])), (ain, .inl (cI, 9, .inl (zA incn))), (adn, .inl (cI, 9, .inl (zA drin))), (amn, .inl (cI, 9, .inl (zA matn))), (chn, .inr (1, [.ref iyn, .ref mkn, .int (zI cnn)])), (iyn, .inl (cI, 8, .inl (zA iyfn))), (mkn, .inl (cI, 8, .inl (zA mkfn)))] H locs := hz
    refine lv_aload_n hx hb dX10_image_24 rfl (lv_at hl 0 rfl) ?_
    refine z_get (C := RX10) (T := TX10) (N := 10) (ref := "HornCity") hx hb hts hin_X10_image_X10 hown hK hz 0 rfl rfl 3 (by decide) (hts _ fl_X10_image_22) rfl rfl dX10_image_25 ?_
    refine lv_iload_n hx hb dX10_image_28 rfl (lv_at hl 1 rfl) ?_
    refine z_iconst hx hb dX10_image_29 ?_
    refine z_zast hx hb hK hz 1 rfl (by omega) (by decide) (by first | decide | omega | (split <;> decide)) dX10_image_30 (fun H locs hz => ?_)
    have hz : zH D (zF ws0) H0 [(hc, .inr (8, [.ref on, .ref of, .ref os, .ref kp, .ref pd, .ref ys, .ref tu, .ref as, .ref tk, .ref ck])), (kp, .inl (cZ, 2, .inl (zA (zU kpf n0 1)))), (os, .inr (2, [.ref ais, .ref ads, .ref ams, .ref ahs, .ref chs, .int (zI Tn), .int (zI tmn), .int (zI yrn)])), (ais, .inl (cI, 9, .inl (zA incn))), (ads, .inl (cI, 9, .inl (zA drin))), (ams, .inl (cI, 9, .inl (zA matn))), (chs, .inr (1, [.ref iys, .ref mks, .int (zI cnn)])), (iys, .inl (cI, 8, .inl (zA iyfn))), (mks, .inl (cI, 8, .inl (zA mkfn))), (on, .inr (2, [.ref ain, .ref adn, .ref amn, .ref ahn, .ref chn, .int (zI Tn), .int (zI tmn), .int (zI yrn)])), (ain, .inl (cI, 9, .inl (zA incn))), (adn, .inl (cI, 9, .inl (zA drin))), (amn, .inl (cI, 9, .inl (zA matn))), (chn, .inr (1, [.ref iyn, .ref mkn, .int (zI cnn)])), (iyn, .inl (cI, 8, .inl (zA iyfn))), (mkn, .inl (cI, 8, .inl (zA mkfn)))] H locs := hz
    refine z_iconst hx hb dX10_image_31 ?_
    exact hret ((1 : Int), (incn : Int → Int), (drin : Int → Int), (matn : Int → Int), (Tn : Int), (tmn : Int), (yrn : Int), (iyfn : Int → Int), (mkfn : Int → Int), (cnn : Int), (zU kpf n0 1 : Int → Int)) dX10_image_32 (show 1 = 1 ∧ incn = incn ∧ drin = drin ∧ matn = matn ∧ Tn = Tn ∧ tmn = tmn ∧ yrn = yrn ∧ iyfn = iyfn ∧ mkfn = mkfn ∧ cnn = cnn ∧ (zU kpf n0 1) = zU kpf 1 1 from ⟨rfl, rfl, rfl, rfl, rfl, rfl, rfl, rfl, rfl, rfl, by rw [hn0]⟩) hz
  ·
    exfalso; omega

set_option maxHeartbeats 4000000 in
set_option maxRecDepth 100000 in
theorem c_X10_image_2 (l : Launch) (D : va_G) (cI cJ cZ : ClassId) (hc on of os kp pd ys tu as tk ck : Nat) (n0 : Int) (hr : (-2147483648 ≤ n0 ∧ n0 ≤ 2147483647)) (hn0 : ¬ n0 = 0 ∧ ¬ n0 = 1) : zMp l yX10_image wsX10_image (zRm 1) D cI cJ cZ [.ref hc, .int (zI n0)] [(hc, .inr (8, [.ref on, .ref of, .ref os, .ref kp, .ref pd, .ref ys, .ref tu, .ref as, .ref tk, .ref ck]))] (some (.int (zI (-2)))) := by
  refine zMp_i (cc := cX10_image) (maxL := 2) (by decide +kernel) rfl (Nat.le_of_ble_eq_true rfl) rfl ?_
  intro p e s m args below meth c Q H ls F hK hz hl hret
  obtain ⟨hx, hb, hml, hown0, hts⟩ := id F
  have hown : s.vm.findClass RX10 = some m.cls := hown0
  obtain ⟨ws0, hw0⟩ : ∃ w : va_W, w = [(hc, .inr (8, [.ref on, .ref of, .ref os, .ref kp, .ref pd, .ref ys, .ref tu, .ref as, .ref tk, .ref ck]))] := ⟨_, rfl⟩
  have hz : zH D (zF ws0) H [(hc, .inr (8, [.ref on, .ref of, .ref os, .ref kp, .ref pd, .ref ys, .ref tu, .ref as, .ref tk, .ref ck]))] H [] := by rw [hw0]; exact hz
  have hl : lv_has ls 2 [(0, .ref hc), (1, .int (zI n0))] := hl
  refine lv_iload_n hx hb dX10_image_0 rfl (lv_at hl 1 rfl) ?_
  refine z_iconst hx hb dX10_image_1 ?_
  refine z_iconst hx hb dX10_image_2 ?_
  refine z_callSp (As := [.int (zI n0), .int (zI 0), .int (zI 1)]) (rest := []) F hK hz hl (c_X10_isWithin l D cI cJ cZ n0 0 1 (by omega)) (va_cwS 3 hts gX10_image_X10_isWithin rfl rfl rfl (by decide +kernel) ⟨Nat.le_of_ble_eq_true rfl, Nat.le_of_ble_eq_true rfl⟩) [] rfl rfl rfl rfl (Nat.le_of_ble_eq_true rfl) ⟨Nat.le_of_ble_eq_true rfl, Nat.le_of_ble_eq_true rfl⟩ dX10_image_3 ?_
  refine z_ifb_ne (tgt := 12) hx hb dX10_image_6 (by decide) (fun h6 => ?_) (fun h6 => ?_)
  ·
    exfalso; omega
  ·
    refine z_bipush hx hb dX10_image_9 (by decide) ?_
    exact hret dX10_image_11 (congrArg (fun z => some (Value.int (zI z))) (show ((-2) : Int) = (-2) by rfl))

set_option maxRecDepth 20000 in
theorem hin_X10_restore_X10 : ∀ w ∈ u_ws RX10 TX10 10, w ∈ wsX10_restore := by decide +kernel
set_option maxRecDepth 20000 in
theorem fl_X10_restore_22 : Cond.fieldLink RX10 22 "HornCity" "kept" "[Z" ∈ wsX10_restore := by decide +kernel
set_option maxRecDepth 20000 in
theorem fl_X10_restore_10 : Cond.fieldLink RX10 10 "HornCity" "now" "LHornCity$City;" ∈ wsX10_restore := by decide +kernel
set_option maxHeartbeats 4000000 in
set_option maxRecDepth 100000 in
theorem c_X10_restore_0 (l : Launch) (D : va_G) (cI cJ cZ : ClassId) (hc on of os kp pd ys tu as tk ck aif adf amf ahf chf iyf mkf ain adn amn ahn chn iyn mkn : Nat) (kpf incf drif matf iyff mkff incn drin matn iyfn mkfn : Int → Int) (Tf tmf yrf cnf Tn tmn yrn cnn n0 : Int) (hn0 : n0 = 0) (hkp : zBd kpf 2 0 1) : zMw l yX10_restore wsX10_restore (zRm 2) D cI cJ cZ [.ref hc, .int (zI n0)] [(hc, .inr (8, [.ref on, .ref of, .ref os, .ref kp, .ref pd, .ref ys, .ref tu, .ref as, .ref tk, .ref ck])), (kp, .inl (cZ, 2, .inl (zA kpf))), (of, .inr (2, [.ref aif, .ref adf, .ref amf, .ref ahf, .ref chf, .int (zI Tf), .int (zI tmf), .int (zI yrf)])), (aif, .inl (cI, 9, .inl (zA incf))), (adf, .inl (cI, 9, .inl (zA drif))), (amf, .inl (cI, 9, .inl (zA matf))), (chf, .inr (1, [.ref iyf, .ref mkf, .int (zI cnf)])), (iyf, .inl (cI, 8, .inl (zA iyff))), (mkf, .inl (cI, 8, .inl (zA mkff))), (on, .inr (2, [.ref ain, .ref adn, .ref amn, .ref ahn, .ref chn, .int (zI Tn), .int (zI tmn), .int (zI yrn)])), (ain, .inl (cI, 9, .inl (zA incn))), (adn, .inl (cI, 9, .inl (zA drin))), (amn, .inl (cI, 9, .inl (zA matn))), (chn, .inr (1, [.ref iyn, .ref mkn, .int (zI cnn)])), (iyn, .inl (cI, 8, .inl (zA iyfn))), (mkn, .inl (cI, 8, .inl (zA mkfn)))] (S := Int × (Int → Int) × (Int → Int) × (Int → Int) × Int × Int × Int × (Int → Int) × (Int → Int) × Int) (fun u => u.1 = (if kpf 0 = 0 then -3 else 1) ∧ u.2.1 = (if kpf 0 = 0 then incn else incf) ∧ u.2.2.1 = (if kpf 0 = 0 then drin else drif) ∧ u.2.2.2.1 = (if kpf 0 = 0 then matn else matf) ∧ u.2.2.2.2.1 = (if kpf 0 = 0 then Tn else Tf) ∧ u.2.2.2.2.2.1 = (if kpf 0 = 0 then tmn else tmf) ∧ u.2.2.2.2.2.2.1 = (if kpf 0 = 0 then yrn else yrf) ∧ u.2.2.2.2.2.2.2.1 = (if kpf 0 = 0 then iyfn else iyff) ∧ u.2.2.2.2.2.2.2.2.1 = (if kpf 0 = 0 then mkfn else mkff) ∧ u.2.2.2.2.2.2.2.2.2 = (if kpf 0 = 0 then cnn else cnf)) (fun u => some (.int (zI u.1))) (fun u => [(hc, .inr (8, [.ref on, .ref of, .ref os, .ref kp, .ref pd, .ref ys, .ref tu, .ref as, .ref tk, .ref ck])), (kp, .inl (cZ, 2, .inl (zA kpf))), (of, .inr (2, [.ref aif, .ref adf, .ref amf, .ref ahf, .ref chf, .int (zI Tf), .int (zI tmf), .int (zI yrf)])), (aif, .inl (cI, 9, .inl (zA incf))), (adf, .inl (cI, 9, .inl (zA drif))), (amf, .inl (cI, 9, .inl (zA matf))), (chf, .inr (1, [.ref iyf, .ref mkf, .int (zI cnf)])), (iyf, .inl (cI, 8, .inl (zA iyff))), (mkf, .inl (cI, 8, .inl (zA mkff))), (on, .inr (2, [.ref ain, .ref adn, .ref amn, .ref ahn, .ref chn, .int (zI u.2.2.2.2.1), .int (zI u.2.2.2.2.2.1), .int (zI u.2.2.2.2.2.2.1)])), (ain, .inl (cI, 9, .inl (zA u.2.1))), (adn, .inl (cI, 9, .inl (zA u.2.2.1))), (amn, .inl (cI, 9, .inl (zA u.2.2.2.1))), (chn, .inr (1, [.ref iyn, .ref mkn, .int (zI u.2.2.2.2.2.2.2.2.2)])), (iyn, .inl (cI, 8, .inl (zA u.2.2.2.2.2.2.2.1))), (mkn, .inl (cI, 8, .inl (zA u.2.2.2.2.2.2.2.2.1)))]) := by
  refine zMw_i (cc := cX10_restore) (maxL := 2) (by decide +kernel) rfl (Nat.le_of_ble_eq_true rfl) rfl (fun _ => rfl) ?_
  intro p e s m args below meth c Q H0 ls F hK hz hl hret
  obtain ⟨hx, hb, hml, hown0, hts⟩ := id F
  have hown : s.vm.findClass RX10 = some m.cls := hown0
  obtain ⟨ws0, hw0⟩ : ∃ w : va_W, w = [(hc, .inr (8, [.ref on, .ref of, .ref os, .ref kp, .ref pd, .ref ys, .ref tu, .ref as, .ref tk, .ref ck])), (kp, .inl (cZ, 2, .inl (zA kpf))), (of, .inr (2, [.ref aif, .ref adf, .ref amf, .ref ahf, .ref chf, .int (zI Tf), .int (zI tmf), .int (zI yrf)])), (aif, .inl (cI, 9, .inl (zA incf))), (adf, .inl (cI, 9, .inl (zA drif))), (amf, .inl (cI, 9, .inl (zA matf))), (chf, .inr (1, [.ref iyf, .ref mkf, .int (zI cnf)])), (iyf, .inl (cI, 8, .inl (zA iyff))), (mkf, .inl (cI, 8, .inl (zA mkff))), (on, .inr (2, [.ref ain, .ref adn, .ref amn, .ref ahn, .ref chn, .int (zI Tn), .int (zI tmn), .int (zI yrn)])), (ain, .inl (cI, 9, .inl (zA incn))), (adn, .inl (cI, 9, .inl (zA drin))), (amn, .inl (cI, 9, .inl (zA matn))), (chn, .inr (1, [.ref iyn, .ref mkn, .int (zI cnn)])), (iyn, .inl (cI, 8, .inl (zA iyfn))), (mkn, .inl (cI, 8, .inl (zA mkfn)))] := ⟨_, rfl⟩
  rw [← hw0] at hret
  have hz : zH D (zF ws0) H0 [(hc, .inr (8, [.ref on, .ref of, .ref os, .ref kp, .ref pd, .ref ys, .ref tu, .ref as, .ref tk, .ref ck])), (kp, .inl (cZ, 2, .inl (zA kpf))), (of, .inr (2, [.ref aif, .ref adf, .ref amf, .ref ahf, .ref chf, .int (zI Tf), .int (zI tmf), .int (zI yrf)])), (aif, .inl (cI, 9, .inl (zA incf))), (adf, .inl (cI, 9, .inl (zA drif))), (amf, .inl (cI, 9, .inl (zA matf))), (chf, .inr (1, [.ref iyf, .ref mkf, .int (zI cnf)])), (iyf, .inl (cI, 8, .inl (zA iyff))), (mkf, .inl (cI, 8, .inl (zA mkff))), (on, .inr (2, [.ref ain, .ref adn, .ref amn, .ref ahn, .ref chn, .int (zI Tn), .int (zI tmn), .int (zI yrn)])), (ain, .inl (cI, 9, .inl (zA incn))), (adn, .inl (cI, 9, .inl (zA drin))), (amn, .inl (cI, 9, .inl (zA matn))), (chn, .inr (1, [.ref iyn, .ref mkn, .int (zI cnn)])), (iyn, .inl (cI, 8, .inl (zA iyfn))), (mkn, .inl (cI, 8, .inl (zA mkfn)))] H0 [] := by rw [hw0]; exact hz
  have hl : lv_has ls 2 [(0, .ref hc), (1, .int (zI n0))] := hl
  refine lv_iload_n hx hb dX10_restore_0 rfl (lv_at hl 1 rfl) ?_
  refine z_iconst hx hb dX10_restore_1 ?_
  refine z_iconst hx hb dX10_restore_2 ?_
  refine z_callSp (As := [.int (zI n0), .int (zI 0), .int (zI 1)]) (rest := []) F hK hz hl (c_X10_isWithin l D cI cJ cZ n0 0 1 (by omega)) (va_cwS 3 hts gX10_restore_X10_isWithin rfl rfl rfl (by decide +kernel) ⟨Nat.le_of_ble_eq_true rfl, Nat.le_of_ble_eq_true rfl⟩) [] rfl rfl rfl rfl (Nat.le_of_ble_eq_true rfl) ⟨Nat.le_of_ble_eq_true rfl, Nat.le_of_ble_eq_true rfl⟩ dX10_restore_3 ?_
  refine z_ifb_ne (tgt := 12) hx hb dX10_restore_6 (by decide) (fun h6 => ?_) (fun h6 => ?_)
  ·
    refine lv_aload_n hx hb dX10_restore_12 rfl (lv_at hl 0 rfl) ?_
    refine z_get (C := RX10) (T := TX10) (N := 10) (ref := "HornCity") hx hb hts hin_X10_restore_X10 hown hK hz 0 rfl rfl 3 (by decide) (hts _ fl_X10_restore_22) rfl rfl dX10_restore_13 ?_
    refine lv_iload_n hx hb dX10_restore_16 rfl (lv_at hl 1 rfl) ?_
    refine z_zald hx hb hK hz 1 rfl (by omega) (by decide) dX10_restore_17 ?_
    have hv17 := (hkp).ax n0 (by omega)
    have hkn : kpf n0 = kpf 0 := by rw [hn0]
    refine z_if_ne (tgt := 24) hx hb dX10_restore_18 (by decide) (by omega) (fun h18 => ?_) (fun h18 => ?_)
    ·
      refine lv_aload_n hx hb dX10_restore_24 rfl (lv_at hl 0 rfl) ?_
      refine z_get (C := RX10) (T := TX10) (N := 10) (ref := "HornCity") hx hb hts hin_X10_restore_X10 hown hK hz 0 rfl rfl 0 (by decide) (hts _ fl_X10_restore_10) rfl rfl dX10_restore_25 ?_
      refine lv_aload_n hx hb dX10_restore_28 rfl (lv_at hl 0 rfl) ?_
      refine lv_iload_n hx hb dX10_restore_29 rfl (lv_at hl 1 rfl) ?_
      refine z_callVpr (As := [.int (zI n0)]) (rest := [.ref on]) (C := RX10) (T := TX10) (N := 10) F hK hz hl (c_X10_imageOf_0 l D cI cJ cZ hc on of os kp pd ys tu as tk ck n0 (by assumption)) (cwV 1 hts gX10_restore_X10_imageOf rfl rfl rfl (by decide +kernel) ⟨Nat.le_of_ble_eq_true rfl, Nat.le_of_ble_eq_true rfl⟩) rfl 0 rfl [0] rfl rfl rfl rfl (Nat.le_of_ble_eq_true rfl) ⟨Nat.le_of_ble_eq_true rfl, Nat.le_of_ble_eq_true rfl⟩ dX10_restore_30 ?_
      refine z_callVwv (As := [.ref of]) (rest := []) (C := RX2) (T := TX2) (N := 8) F hK hz hl (c_X2_become l D cI cJ cZ on ain adn amn ahn chn iyn mkn of aif adf amf ahf chf iyf mkf incn drin matn iyfn mkfn incf drif matf iyff mkff Tn tmn yrn cnn Tf tmf yrf cnf ) (cwV 1 hts gX10_restore_X2_become rfl rfl rfl (by decide +kernel) ⟨Nat.le_of_ble_eq_true rfl, Nat.le_of_ble_eq_true rfl⟩) rfl 9 rfl [9, 10, 11, 12, 13, 14, 15, 2, 3, 4, 5, 6, 7, 8] rfl rfl (by decide +kernel) rfl rfl (Nat.le_of_ble_eq_true rfl) ⟨Nat.le_of_ble_eq_true rfl, Nat.le_of_ble_eq_true rfl⟩ dX10_restore_33 (fun u H locs hu hz => ?_)
      obtain ⟨inc1_1, dri1_2, mat1_3, T1_4, tm1_5, yr1_6, y1_7, m1_8, c1_9⟩ := u
      have hu : inc1_1 = incf ∧ dri1_2 = drif ∧ mat1_3 = matf ∧ T1_4 = Tf ∧ tm1_5 = tmf ∧ yr1_6 = yrf ∧ y1_7 = iyff ∧ m1_8 = mkff ∧ c1_9 = cnf := hu
      obtain ⟨g33_0, g33_1, g33_2, g33_3, g33_4, g33_5, g33_6, g33_7, g33_8⟩ := hu
      have g33_0 := g33_0.symm
      subst g33_0
      have g33_1 := g33_1.symm
      subst g33_1
      have g33_2 := g33_2.symm
      subst g33_2
      have g33_3 := g33_3.symm
      subst g33_3
      have g33_4 := g33_4.symm
      subst g33_4
      have g33_5 := g33_5.symm
      subst g33_5
      have g33_6 := g33_6.symm
      subst g33_6
      have g33_7 := g33_7.symm
      subst g33_7
      have g33_8 := g33_8.symm
      subst g33_8
      have hz : zH D (zF ws0) H0 [(hc, .inr (8, [.ref on, .ref of, .ref os, .ref kp, .ref pd, .ref ys, .ref tu, .ref as, .ref tk, .ref ck])), (kp, .inl (cZ, 2, .inl (zA kpf))), (of, .inr (2, [.ref aif, .ref adf, .ref amf, .ref ahf, .ref chf, .int (zI Tf), .int (zI tmf), .int (zI yrf)])), (aif, .inl (cI, 9, .inl (zA incf))), (adf, .inl (cI, 9, .inl (zA drif))), (amf, .inl (cI, 9, .inl (zA matf))), (chf, .inr (1, [.ref iyf, .ref mkf, .int (zI cnf)])), (iyf, .inl (cI, 8, .inl (zA iyff))), (mkf, .inl (cI, 8, .inl (zA mkff))), (on, .inr (2, [.ref ain, .ref adn, .ref amn, .ref ahn, .ref chn, .int (zI Tf), .int (zI tmf), .int (zI yrf)])), (ain, .inl (cI, 9, .inl (zA incf))), (adn, .inl (cI, 9, .inl (zA drif))), (amn, .inl (cI, 9, .inl (zA matf))), (chn, .inr (1, [.ref iyn, .ref mkn, .int (zI cnf)])), (iyn, .inl (cI, 8, .inl (zA iyff))), (mkn, .inl (cI, 8, .inl (zA mkff)))] H locs := hz
      refine z_iconst hx hb dX10_restore_36 ?_
      exact hret ((1 : Int), (incf : Int → Int), (drif : Int → Int), (matf : Int → Int), (Tf : Int), (tmf : Int), (yrf : Int), (iyff : Int → Int), (mkff : Int → Int), (cnf : Int)) dX10_restore_37 (show 1 = (if kpf 0 = 0 then -3 else 1) ∧ incf = (if kpf 0 = 0 then incn else incf) ∧ drif = (if kpf 0 = 0 then drin else drif) ∧ matf = (if kpf 0 = 0 then matn else matf) ∧ Tf = (if kpf 0 = 0 then Tn else Tf) ∧ tmf = (if kpf 0 = 0 then tmn else tmf) ∧ yrf = (if kpf 0 = 0 then yrn else yrf) ∧ iyff = (if kpf 0 = 0 then iyfn else iyff) ∧ mkff = (if kpf 0 = 0 then mkfn else mkff) ∧ cnf = (if kpf 0 = 0 then cnn else cnf) from (by rw [hkn] at h18; simp [h18])) hz
    ·
      refine z_bipush hx hb dX10_restore_21 (by decide) ?_
      exact hret (((-3) : Int), (incn : Int → Int), (drin : Int → Int), (matn : Int → Int), (Tn : Int), (tmn : Int), (yrn : Int), (iyfn : Int → Int), (mkfn : Int → Int), (cnn : Int)) dX10_restore_23 (show (-3) = (if kpf 0 = 0 then -3 else 1) ∧ incn = (if kpf 0 = 0 then incn else incf) ∧ drin = (if kpf 0 = 0 then drin else drif) ∧ matn = (if kpf 0 = 0 then matn else matf) ∧ Tn = (if kpf 0 = 0 then Tn else Tf) ∧ tmn = (if kpf 0 = 0 then tmn else tmf) ∧ yrn = (if kpf 0 = 0 then yrn else yrf) ∧ iyfn = (if kpf 0 = 0 then iyfn else iyff) ∧ mkfn = (if kpf 0 = 0 then mkfn else mkff) ∧ cnn = (if kpf 0 = 0 then cnn else cnf) from (by rw [hkn] at h18; simp [h18])) hz
  ·
    exfalso; omega

set_option maxHeartbeats 4000000 in
set_option maxRecDepth 100000 in
theorem c_X10_restore_1 (l : Launch) (D : va_G) (cI cJ cZ : ClassId) (hc on of os kp pd ys tu as tk ck ais ads ams ahs chs iys mks ain adn amn ahn chn iyn mkn : Nat) (kpf incs dris mats iyfs mkfs incn drin matn iyfn mkfn : Int → Int) (Ts tms yrs cns Tn tmn yrn cnn n0 : Int) (hn0 : n0 = 1) (hkp : zBd kpf 2 0 1) : zMw l yX10_restore wsX10_restore (zRm 2) D cI cJ cZ [.ref hc, .int (zI n0)] [(hc, .inr (8, [.ref on, .ref of, .ref os, .ref kp, .ref pd, .ref ys, .ref tu, .ref as, .ref tk, .ref ck])), (kp, .inl (cZ, 2, .inl (zA kpf))), (os, .inr (2, [.ref ais, .ref ads, .ref ams, .ref ahs, .ref chs, .int (zI Ts), .int (zI tms), .int (zI yrs)])), (ais, .inl (cI, 9, .inl (zA incs))), (ads, .inl (cI, 9, .inl (zA dris))), (ams, .inl (cI, 9, .inl (zA mats))), (chs, .inr (1, [.ref iys, .ref mks, .int (zI cns)])), (iys, .inl (cI, 8, .inl (zA iyfs))), (mks, .inl (cI, 8, .inl (zA mkfs))), (on, .inr (2, [.ref ain, .ref adn, .ref amn, .ref ahn, .ref chn, .int (zI Tn), .int (zI tmn), .int (zI yrn)])), (ain, .inl (cI, 9, .inl (zA incn))), (adn, .inl (cI, 9, .inl (zA drin))), (amn, .inl (cI, 9, .inl (zA matn))), (chn, .inr (1, [.ref iyn, .ref mkn, .int (zI cnn)])), (iyn, .inl (cI, 8, .inl (zA iyfn))), (mkn, .inl (cI, 8, .inl (zA mkfn)))] (S := Int × (Int → Int) × (Int → Int) × (Int → Int) × Int × Int × Int × (Int → Int) × (Int → Int) × Int) (fun u => u.1 = (if kpf 1 = 0 then -3 else 1) ∧ u.2.1 = (if kpf 1 = 0 then incn else incs) ∧ u.2.2.1 = (if kpf 1 = 0 then drin else dris) ∧ u.2.2.2.1 = (if kpf 1 = 0 then matn else mats) ∧ u.2.2.2.2.1 = (if kpf 1 = 0 then Tn else Ts) ∧ u.2.2.2.2.2.1 = (if kpf 1 = 0 then tmn else tms) ∧ u.2.2.2.2.2.2.1 = (if kpf 1 = 0 then yrn else yrs) ∧ u.2.2.2.2.2.2.2.1 = (if kpf 1 = 0 then iyfn else iyfs) ∧ u.2.2.2.2.2.2.2.2.1 = (if kpf 1 = 0 then mkfn else mkfs) ∧ u.2.2.2.2.2.2.2.2.2 = (if kpf 1 = 0 then cnn else cns)) (fun u => some (.int (zI u.1))) (fun u => [(hc, .inr (8, [.ref on, .ref of, .ref os, .ref kp, .ref pd, .ref ys, .ref tu, .ref as, .ref tk, .ref ck])), (kp, .inl (cZ, 2, .inl (zA kpf))), (os, .inr (2, [.ref ais, .ref ads, .ref ams, .ref ahs, .ref chs, .int (zI Ts), .int (zI tms), .int (zI yrs)])), (ais, .inl (cI, 9, .inl (zA incs))), (ads, .inl (cI, 9, .inl (zA dris))), (ams, .inl (cI, 9, .inl (zA mats))), (chs, .inr (1, [.ref iys, .ref mks, .int (zI cns)])), (iys, .inl (cI, 8, .inl (zA iyfs))), (mks, .inl (cI, 8, .inl (zA mkfs))), (on, .inr (2, [.ref ain, .ref adn, .ref amn, .ref ahn, .ref chn, .int (zI u.2.2.2.2.1), .int (zI u.2.2.2.2.2.1), .int (zI u.2.2.2.2.2.2.1)])), (ain, .inl (cI, 9, .inl (zA u.2.1))), (adn, .inl (cI, 9, .inl (zA u.2.2.1))), (amn, .inl (cI, 9, .inl (zA u.2.2.2.1))), (chn, .inr (1, [.ref iyn, .ref mkn, .int (zI u.2.2.2.2.2.2.2.2.2)])), (iyn, .inl (cI, 8, .inl (zA u.2.2.2.2.2.2.2.1))), (mkn, .inl (cI, 8, .inl (zA u.2.2.2.2.2.2.2.2.1)))]) := by
  refine zMw_i (cc := cX10_restore) (maxL := 2) (by decide +kernel) rfl (Nat.le_of_ble_eq_true rfl) rfl (fun _ => rfl) ?_
  intro p e s m args below meth c Q H0 ls F hK hz hl hret
  obtain ⟨hx, hb, hml, hown0, hts⟩ := id F
  have hown : s.vm.findClass RX10 = some m.cls := hown0
  obtain ⟨ws0, hw0⟩ : ∃ w : va_W, w = [(hc, .inr (8, [.ref on, .ref of, .ref os, .ref kp, .ref pd, .ref ys, .ref tu, .ref as, .ref tk, .ref ck])), (kp, .inl (cZ, 2, .inl (zA kpf))), (os, .inr (2, [.ref ais, .ref ads, .ref ams, .ref ahs, .ref chs, .int (zI Ts), .int (zI tms), .int (zI yrs)])), (ais, .inl (cI, 9, .inl (zA incs))), (ads, .inl (cI, 9, .inl (zA dris))), (ams, .inl (cI, 9, .inl (zA mats))), (chs, .inr (1, [.ref iys, .ref mks, .int (zI cns)])), (iys, .inl (cI, 8, .inl (zA iyfs))), (mks, .inl (cI, 8, .inl (zA mkfs))), (on, .inr (2, [.ref ain, .ref adn, .ref amn, .ref ahn, .ref chn, .int (zI Tn), .int (zI tmn), .int (zI yrn)])), (ain, .inl (cI, 9, .inl (zA incn))), (adn, .inl (cI, 9, .inl (zA drin))), (amn, .inl (cI, 9, .inl (zA matn))), (chn, .inr (1, [.ref iyn, .ref mkn, .int (zI cnn)])), (iyn, .inl (cI, 8, .inl (zA iyfn))), (mkn, .inl (cI, 8, .inl (zA mkfn)))] := ⟨_, rfl⟩
  rw [← hw0] at hret
  have hz : zH D (zF ws0) H0 [(hc, .inr (8, [.ref on, .ref of, .ref os, .ref kp, .ref pd, .ref ys, .ref tu, .ref as, .ref tk, .ref ck])), (kp, .inl (cZ, 2, .inl (zA kpf))), (os, .inr (2, [.ref ais, .ref ads, .ref ams, .ref ahs, .ref chs, .int (zI Ts), .int (zI tms), .int (zI yrs)])), (ais, .inl (cI, 9, .inl (zA incs))), (ads, .inl (cI, 9, .inl (zA dris))), (ams, .inl (cI, 9, .inl (zA mats))), (chs, .inr (1, [.ref iys, .ref mks, .int (zI cns)])), (iys, .inl (cI, 8, .inl (zA iyfs))), (mks, .inl (cI, 8, .inl (zA mkfs))), (on, .inr (2, [.ref ain, .ref adn, .ref amn, .ref ahn, .ref chn, .int (zI Tn), .int (zI tmn), .int (zI yrn)])), (ain, .inl (cI, 9, .inl (zA incn))), (adn, .inl (cI, 9, .inl (zA drin))), (amn, .inl (cI, 9, .inl (zA matn))), (chn, .inr (1, [.ref iyn, .ref mkn, .int (zI cnn)])), (iyn, .inl (cI, 8, .inl (zA iyfn))), (mkn, .inl (cI, 8, .inl (zA mkfn)))] H0 [] := by rw [hw0]; exact hz
  have hl : lv_has ls 2 [(0, .ref hc), (1, .int (zI n0))] := hl
  refine lv_iload_n hx hb dX10_restore_0 rfl (lv_at hl 1 rfl) ?_
  refine z_iconst hx hb dX10_restore_1 ?_
  refine z_iconst hx hb dX10_restore_2 ?_
  refine z_callSp (As := [.int (zI n0), .int (zI 0), .int (zI 1)]) (rest := []) F hK hz hl (c_X10_isWithin l D cI cJ cZ n0 0 1 (by omega)) (va_cwS 3 hts gX10_restore_X10_isWithin rfl rfl rfl (by decide +kernel) ⟨Nat.le_of_ble_eq_true rfl, Nat.le_of_ble_eq_true rfl⟩) [] rfl rfl rfl rfl (Nat.le_of_ble_eq_true rfl) ⟨Nat.le_of_ble_eq_true rfl, Nat.le_of_ble_eq_true rfl⟩ dX10_restore_3 ?_
  refine z_ifb_ne (tgt := 12) hx hb dX10_restore_6 (by decide) (fun h6 => ?_) (fun h6 => ?_)
  ·
    refine lv_aload_n hx hb dX10_restore_12 rfl (lv_at hl 0 rfl) ?_
    refine z_get (C := RX10) (T := TX10) (N := 10) (ref := "HornCity") hx hb hts hin_X10_restore_X10 hown hK hz 0 rfl rfl 3 (by decide) (hts _ fl_X10_restore_22) rfl rfl dX10_restore_13 ?_
    refine lv_iload_n hx hb dX10_restore_16 rfl (lv_at hl 1 rfl) ?_
    refine z_zald hx hb hK hz 1 rfl (by omega) (by decide) dX10_restore_17 ?_
    have hv17 := (hkp).ax n0 (by omega)
    have hkn : kpf n0 = kpf 1 := by rw [hn0]
    refine z_if_ne (tgt := 24) hx hb dX10_restore_18 (by decide) (by omega) (fun h18 => ?_) (fun h18 => ?_)
    ·
      refine lv_aload_n hx hb dX10_restore_24 rfl (lv_at hl 0 rfl) ?_
      refine z_get (C := RX10) (T := TX10) (N := 10) (ref := "HornCity") hx hb hts hin_X10_restore_X10 hown hK hz 0 rfl rfl 0 (by decide) (hts _ fl_X10_restore_10) rfl rfl dX10_restore_25 ?_
      refine lv_aload_n hx hb dX10_restore_28 rfl (lv_at hl 0 rfl) ?_
      refine lv_iload_n hx hb dX10_restore_29 rfl (lv_at hl 1 rfl) ?_
      refine z_callVpr (As := [.int (zI n0)]) (rest := [.ref on]) (C := RX10) (T := TX10) (N := 10) F hK hz hl (c_X10_imageOf_1 l D cI cJ cZ hc on of os kp pd ys tu as tk ck n0 (by assumption)) (cwV 1 hts gX10_restore_X10_imageOf rfl rfl rfl (by decide +kernel) ⟨Nat.le_of_ble_eq_true rfl, Nat.le_of_ble_eq_true rfl⟩) rfl 0 rfl [0] rfl rfl rfl rfl (Nat.le_of_ble_eq_true rfl) ⟨Nat.le_of_ble_eq_true rfl, Nat.le_of_ble_eq_true rfl⟩ dX10_restore_30 ?_
      refine z_callVwv (As := [.ref os]) (rest := []) (C := RX2) (T := TX2) (N := 8) F hK hz hl (c_X2_become l D cI cJ cZ on ain adn amn ahn chn iyn mkn os ais ads ams ahs chs iys mks incn drin matn iyfn mkfn incs dris mats iyfs mkfs Tn tmn yrn cnn Ts tms yrs cns ) (cwV 1 hts gX10_restore_X2_become rfl rfl rfl (by decide +kernel) ⟨Nat.le_of_ble_eq_true rfl, Nat.le_of_ble_eq_true rfl⟩) rfl 9 rfl [9, 10, 11, 12, 13, 14, 15, 2, 3, 4, 5, 6, 7, 8] rfl rfl (by decide +kernel) rfl rfl (Nat.le_of_ble_eq_true rfl) ⟨Nat.le_of_ble_eq_true rfl, Nat.le_of_ble_eq_true rfl⟩ dX10_restore_33 (fun u H locs hu hz => ?_)
      obtain ⟨inc1_1, dri1_2, mat1_3, T1_4, tm1_5, yr1_6, y1_7, m1_8, c1_9⟩ := u
      have hu : inc1_1 = incs ∧ dri1_2 = dris ∧ mat1_3 = mats ∧ T1_4 = Ts ∧ tm1_5 = tms ∧ yr1_6 = yrs ∧ y1_7 = iyfs ∧ m1_8 = mkfs ∧ c1_9 = cns := hu
      obtain ⟨g33_0, g33_1, g33_2, g33_3, g33_4, g33_5, g33_6, g33_7, g33_8⟩ := hu
      have g33_0 := g33_0.symm
      subst g33_0
      have g33_1 := g33_1.symm
      subst g33_1
      have g33_2 := g33_2.symm
      subst g33_2
      have g33_3 := g33_3.symm
      subst g33_3
      have g33_4 := g33_4.symm
      subst g33_4
      have g33_5 := g33_5.symm
      subst g33_5
      have g33_6 := g33_6.symm
      subst g33_6
      have g33_7 := g33_7.symm
      subst g33_7
      have g33_8 := g33_8.symm
      subst g33_8
      have hz : zH D (zF ws0) H0 [(hc, .inr (8, [.ref on, .ref of, .ref os, .ref kp, .ref pd, .ref ys, .ref tu, .ref as, .ref tk, .ref ck])), (kp, .inl (cZ, 2, .inl (zA kpf))), (os, .inr (2, [.ref ais, .ref ads, .ref ams, .ref ahs, .ref chs, .int (zI Ts), .int (zI tms), .int (zI yrs)])), (ais, .inl (cI, 9, .inl (zA incs))), (ads, .inl (cI, 9, .inl (zA dris))), (ams, .inl (cI, 9, .inl (zA mats))), (chs, .inr (1, [.ref iys, .ref mks, .int (zI cns)])), (iys, .inl (cI, 8, .inl (zA iyfs))), (mks, .inl (cI, 8, .inl (zA mkfs))), (on, .inr (2, [.ref ain, .ref adn, .ref amn, .ref ahn, .ref chn, .int (zI Ts), .int (zI tms), .int (zI yrs)])), (ain, .inl (cI, 9, .inl (zA incs))), (adn, .inl (cI, 9, .inl (zA dris))), (amn, .inl (cI, 9, .inl (zA mats))), (chn, .inr (1, [.ref iyn, .ref mkn, .int (zI cns)])), (iyn, .inl (cI, 8, .inl (zA iyfs))), (mkn, .inl (cI, 8, .inl (zA mkfs)))] H locs := hz
      refine z_iconst hx hb dX10_restore_36 ?_
      exact hret ((1 : Int), (incs : Int → Int), (dris : Int → Int), (mats : Int → Int), (Ts : Int), (tms : Int), (yrs : Int), (iyfs : Int → Int), (mkfs : Int → Int), (cns : Int)) dX10_restore_37 (show 1 = (if kpf 1 = 0 then -3 else 1) ∧ incs = (if kpf 1 = 0 then incn else incs) ∧ dris = (if kpf 1 = 0 then drin else dris) ∧ mats = (if kpf 1 = 0 then matn else mats) ∧ Ts = (if kpf 1 = 0 then Tn else Ts) ∧ tms = (if kpf 1 = 0 then tmn else tms) ∧ yrs = (if kpf 1 = 0 then yrn else yrs) ∧ iyfs = (if kpf 1 = 0 then iyfn else iyfs) ∧ mkfs = (if kpf 1 = 0 then mkfn else mkfs) ∧ cns = (if kpf 1 = 0 then cnn else cns) from (by rw [hkn] at h18; simp [h18])) hz
    ·
      refine z_bipush hx hb dX10_restore_21 (by decide) ?_
      exact hret (((-3) : Int), (incn : Int → Int), (drin : Int → Int), (matn : Int → Int), (Tn : Int), (tmn : Int), (yrn : Int), (iyfn : Int → Int), (mkfn : Int → Int), (cnn : Int)) dX10_restore_23 (show (-3) = (if kpf 1 = 0 then -3 else 1) ∧ incn = (if kpf 1 = 0 then incn else incs) ∧ drin = (if kpf 1 = 0 then drin else dris) ∧ matn = (if kpf 1 = 0 then matn else mats) ∧ Tn = (if kpf 1 = 0 then Tn else Ts) ∧ tmn = (if kpf 1 = 0 then tmn else tms) ∧ yrn = (if kpf 1 = 0 then yrn else yrs) ∧ iyfn = (if kpf 1 = 0 then iyfn else iyfs) ∧ mkfn = (if kpf 1 = 0 then mkfn else mkfs) ∧ cnn = (if kpf 1 = 0 then cnn else cns) from (by rw [hkn] at h18; simp [h18])) hz
  ·
    exfalso; omega

set_option maxHeartbeats 4000000 in
set_option maxRecDepth 100000 in
theorem c_X10_restore_2 (l : Launch) (D : va_G) (cI cJ cZ : ClassId) (hc on of os kp pd ys tu as tk ck : Nat) (n0 : Int) (hr : (-2147483648 ≤ n0 ∧ n0 ≤ 2147483647)) (hn0 : ¬ n0 = 0 ∧ ¬ n0 = 1) : zMp l yX10_restore wsX10_restore (zRm 1) D cI cJ cZ [.ref hc, .int (zI n0)] [(hc, .inr (8, [.ref on, .ref of, .ref os, .ref kp, .ref pd, .ref ys, .ref tu, .ref as, .ref tk, .ref ck]))] (some (.int (zI (-2)))) := by
  refine zMp_i (cc := cX10_restore) (maxL := 2) (by decide +kernel) rfl (Nat.le_of_ble_eq_true rfl) rfl ?_
  intro p e s m args below meth c Q H ls F hK hz hl hret
  obtain ⟨hx, hb, hml, hown0, hts⟩ := id F
  have hown : s.vm.findClass RX10 = some m.cls := hown0
  obtain ⟨ws0, hw0⟩ : ∃ w : va_W, w = [(hc, .inr (8, [.ref on, .ref of, .ref os, .ref kp, .ref pd, .ref ys, .ref tu, .ref as, .ref tk, .ref ck]))] := ⟨_, rfl⟩
  have hz : zH D (zF ws0) H [(hc, .inr (8, [.ref on, .ref of, .ref os, .ref kp, .ref pd, .ref ys, .ref tu, .ref as, .ref tk, .ref ck]))] H [] := by rw [hw0]; exact hz
  have hl : lv_has ls 2 [(0, .ref hc), (1, .int (zI n0))] := hl
  refine lv_iload_n hx hb dX10_restore_0 rfl (lv_at hl 1 rfl) ?_
  refine z_iconst hx hb dX10_restore_1 ?_
  refine z_iconst hx hb dX10_restore_2 ?_
  refine z_callSp (As := [.int (zI n0), .int (zI 0), .int (zI 1)]) (rest := []) F hK hz hl (c_X10_isWithin l D cI cJ cZ n0 0 1 (by omega)) (va_cwS 3 hts gX10_restore_X10_isWithin rfl rfl rfl (by decide +kernel) ⟨Nat.le_of_ble_eq_true rfl, Nat.le_of_ble_eq_true rfl⟩) [] rfl rfl rfl rfl (Nat.le_of_ble_eq_true rfl) ⟨Nat.le_of_ble_eq_true rfl, Nat.le_of_ble_eq_true rfl⟩ dX10_restore_3 ?_
  refine z_ifb_ne (tgt := 12) hx hb dX10_restore_6 (by decide) (fun h6 => ?_) (fun h6 => ?_)
  ·
    exfalso; omega
  ·
    refine z_bipush hx hb dX10_restore_9 (by decide) ?_
    exact hret dX10_restore_11 (congrArg (fun z => some (Value.int (zI z))) (show ((-2) : Int) = (-2) by rfl))

set_option maxRecDepth 20000 in
theorem hin_X10_toldOfOne_X10 : ∀ w ∈ u_ws RX10 TX10 10, w ∈ wsX10_toldOfOne := by decide +kernel
set_option maxRecDepth 20000 in
theorem fl_X10_toldOfOne_10 : Cond.fieldLink RX10 10 "HornCity" "now" "LHornCity$City;" ∈ wsX10_toldOfOne := by decide +kernel
set_option maxHeartbeats 4000000 in
set_option maxRecDepth 100000 in
theorem c_X10_toldOfOne (l : Launch) (D : va_G) (cI cJ cZ : ClassId) (hc on of os kp pd ys tu as tk ck ain adn amn ahn chn : Nat) (incn drin matn : Int → Int) (Tn tmn yrn k part : Int) (hr : (-2147483648 ≤ k ∧ k ≤ 2147483647) ∧ (-2147483648 ≤ part ∧ part ≤ 2147483647)) (hTn : 0 ≤ Tn ∧ Tn < 512) : zMp l yX10_toldOfOne wsX10_toldOfOne (zRm 2) D cI cJ cZ [.ref hc, .int (zI k), .int (zI part)] [(hc, .inr (8, [.ref on, .ref of, .ref os, .ref kp, .ref pd, .ref ys, .ref tu, .ref as, .ref tk, .ref ck])), (on, .inr (2, [.ref ain, .ref adn, .ref amn, .ref ahn, .ref chn, .int (zI Tn), .int (zI tmn), .int (zI yrn)])), (ain, .inl (cI, 9, .inl (zA incn))), (adn, .inl (cI, 9, .inl (zA drin))), (amn, .inl (cI, 9, .inl (zA matn)))] (some (.int (zI (t1R Tn incn drin matn k part)))) := by
  refine zMp_i (cc := cX10_toldOfOne) (maxL := 3) (by decide +kernel) rfl (Nat.le_of_ble_eq_true rfl) rfl ?_
  intro p e s m args below meth c Q H ls F hK hz hl hret
  obtain ⟨hx, hb, hml, hown0, hts⟩ := id F
  have hown : s.vm.findClass RX10 = some m.cls := hown0
  obtain ⟨ws0, hw0⟩ : ∃ w : va_W, w = [(hc, .inr (8, [.ref on, .ref of, .ref os, .ref kp, .ref pd, .ref ys, .ref tu, .ref as, .ref tk, .ref ck])), (on, .inr (2, [.ref ain, .ref adn, .ref amn, .ref ahn, .ref chn, .int (zI Tn), .int (zI tmn), .int (zI yrn)])), (ain, .inl (cI, 9, .inl (zA incn))), (adn, .inl (cI, 9, .inl (zA drin))), (amn, .inl (cI, 9, .inl (zA matn)))] := ⟨_, rfl⟩
  have hz : zH D (zF ws0) H [(hc, .inr (8, [.ref on, .ref of, .ref os, .ref kp, .ref pd, .ref ys, .ref tu, .ref as, .ref tk, .ref ck])), (on, .inr (2, [.ref ain, .ref adn, .ref amn, .ref ahn, .ref chn, .int (zI Tn), .int (zI tmn), .int (zI yrn)])), (ain, .inl (cI, 9, .inl (zA incn))), (adn, .inl (cI, 9, .inl (zA drin))), (amn, .inl (cI, 9, .inl (zA matn)))] H [] := by rw [hw0]; exact hz
  have hl : lv_has ls 3 [(0, .ref hc), (1, .int (zI k)), (2, .int (zI part))] := hl
  refine lv_aload_n hx hb dX10_toldOfOne_0 rfl (lv_at hl 0 rfl) ?_
  refine z_get (C := RX10) (T := TX10) (N := 10) (ref := "HornCity") hx hb hts hin_X10_toldOfOne_X10 hown hK hz 0 rfl rfl 0 (by decide) (hts _ fl_X10_toldOfOne_10) rfl rfl dX10_toldOfOne_1 ?_
  refine lv_iload_n hx hb dX10_toldOfOne_4 rfl (lv_at hl 1 rfl) ?_
  refine z_callVp (As := [.int (zI k)]) (rest := []) (C := RX2) (T := TX2) (N := 8) F hK hz hl (c_X2_isThere l D cI cJ cZ on ain adn amn ahn chn Tn tmn yrn k (by omega) (by first | assumption | omega)) (cwV 1 hts gX10_toldOfOne_X2_isThere rfl rfl rfl (by decide +kernel) ⟨Nat.le_of_ble_eq_true rfl, Nat.le_of_ble_eq_true rfl⟩) rfl 1 rfl [1] rfl rfl rfl rfl (Nat.le_of_ble_eq_true rfl) ⟨Nat.le_of_ble_eq_true rfl, Nat.le_of_ble_eq_true rfl⟩ dX10_toldOfOne_5 ?_
  refine z_ifb_ne (tgt := 14) hx hb dX10_toldOfOne_8 (by decide) (fun h8 => ?_) (fun h8 => ?_)
  ·
    refine lv_iload_n hx hb dX10_toldOfOne_14 rfl (lv_at hl 2 rfl) ?_
    by_cases h15 : part = 0
    ·
      refine z_tabIn (k := 0) (off := 25) (tgt := 40) hx hb dX10_toldOfOne_15 (by omega) (by decide) (by decide) (by decide +kernel) (by decide) ?_
      refine lv_aload_n hx hb dX10_toldOfOne_40 rfl (lv_at hl 0 rfl) ?_
      refine z_get (C := RX10) (T := TX10) (N := 10) (ref := "HornCity") hx hb hts hin_X10_toldOfOne_X10 hown hK hz 0 rfl rfl 0 (by decide) (hts _ fl_X10_toldOfOne_10) rfl rfl dX10_toldOfOne_41 ?_
      refine lv_iload_n hx hb dX10_toldOfOne_44 rfl (lv_at hl 1 rfl) ?_
      refine z_callVp (As := [.int (zI k)]) (rest := []) (C := RX2) (T := TX2) (N := 8) F hK hz hl (c_X2_inclineOf l D cI cJ cZ on ain adn amn ahn chn incn Tn tmn yrn k (by omega) (by first | assumption | omega)) (cwV 1 hts gX10_toldOfOne_X2_inclineOf rfl rfl rfl (by decide +kernel) ⟨Nat.le_of_ble_eq_true rfl, Nat.le_of_ble_eq_true rfl⟩) rfl 1 rfl [1, 2] rfl rfl rfl rfl (Nat.le_of_ble_eq_true rfl) ⟨Nat.le_of_ble_eq_true rfl, Nat.le_of_ble_eq_true rfl⟩ dX10_toldOfOne_45 ?_
      exact hret dX10_toldOfOne_48 (congrArg (fun z => some (Value.int (zI z))) (show ((inO Tn incn k) : Int) = (t1R Tn incn drin matn k part) by unfold t1R; rw [if_pos h8]; exact (if_pos h15).symm))
    ·
      by_cases h15q : part = 1
      ·
        refine z_tabIn (k := 1) (off := 34) (tgt := 49) hx hb dX10_toldOfOne_15 (by omega) (by decide) (by decide) (by decide +kernel) (by decide) ?_
        refine lv_aload_n hx hb dX10_toldOfOne_49 rfl (lv_at hl 0 rfl) ?_
        refine z_get (C := RX10) (T := TX10) (N := 10) (ref := "HornCity") hx hb hts hin_X10_toldOfOne_X10 hown hK hz 0 rfl rfl 0 (by decide) (hts _ fl_X10_toldOfOne_10) rfl rfl dX10_toldOfOne_50 ?_
        refine lv_iload_n hx hb dX10_toldOfOne_53 rfl (lv_at hl 1 rfl) ?_
        refine z_callVp (As := [.int (zI k)]) (rest := []) (C := RX2) (T := TX2) (N := 8) F hK hz hl (c_X2_driftOf l D cI cJ cZ on ain adn amn ahn chn drin Tn tmn yrn k (by omega) (by first | assumption | omega)) (cwV 1 hts gX10_toldOfOne_X2_driftOf rfl rfl rfl (by decide +kernel) ⟨Nat.le_of_ble_eq_true rfl, Nat.le_of_ble_eq_true rfl⟩) rfl 1 rfl [1, 3] rfl rfl rfl rfl (Nat.le_of_ble_eq_true rfl) ⟨Nat.le_of_ble_eq_true rfl, Nat.le_of_ble_eq_true rfl⟩ dX10_toldOfOne_54 ?_
        refine z_bipush hx hb dX10_toldOfOne_57 (by decide) ?_
        refine z_iadd hx hb dX10_toldOfOne_59 ?_
        exact hret dX10_toldOfOne_60 (congrArg (fun z => some (Value.int (zI z))) (show (((inO Tn drin k) + 9) : Int) = (t1R Tn incn drin matn k part) by unfold t1R; rw [if_pos h8]; exact ((if_neg h15).trans (if_pos h15q)).symm))
      ·
        by_cases h15qq : part = 2
        ·
          refine z_tabIn (k := 2) (off := 46) (tgt := 61) hx hb dX10_toldOfOne_15 (by omega) (by decide) (by decide) (by decide +kernel) (by decide) ?_
          refine lv_aload_n hx hb dX10_toldOfOne_61 rfl (lv_at hl 0 rfl) ?_
          refine z_get (C := RX10) (T := TX10) (N := 10) (ref := "HornCity") hx hb hts hin_X10_toldOfOne_X10 hown hK hz 0 rfl rfl 0 (by decide) (hts _ fl_X10_toldOfOne_10) rfl rfl dX10_toldOfOne_62 ?_
          refine lv_iload_n hx hb dX10_toldOfOne_65 rfl (lv_at hl 1 rfl) ?_
          refine z_callVp (As := [.int (zI k)]) (rest := []) (C := RX2) (T := TX2) (N := 8) F hK hz hl (c_X2_mateOf l D cI cJ cZ on ain adn amn ahn chn matn Tn tmn yrn k (by omega) (by first | assumption | omega)) (cwV 1 hts gX10_toldOfOne_X2_mateOf rfl rfl rfl (by decide +kernel) ⟨Nat.le_of_ble_eq_true rfl, Nat.le_of_ble_eq_true rfl⟩) rfl 1 rfl [1, 4] rfl rfl rfl rfl (Nat.le_of_ble_eq_true rfl) ⟨Nat.le_of_ble_eq_true rfl, Nat.le_of_ble_eq_true rfl⟩ dX10_toldOfOne_66 ?_
          exact hret dX10_toldOfOne_69 (congrArg (fun z => some (Value.int (zI z))) (show ((maO Tn matn k) : Int) = (t1R Tn incn drin matn k part) by unfold t1R; rw [if_pos h8]; exact ((if_neg h15).trans ((if_neg h15q).trans (if_pos h15qq))).symm))
        ·
          refine z_tabOut (tgt := 70) hx hb dX10_toldOfOne_15 (by omega) (by omega) (by decide) ?_
          refine z_bipush hx hb dX10_toldOfOne_70 (by decide) ?_
          exact hret dX10_toldOfOne_72 (congrArg (fun z => some (Value.int (zI z))) (show ((-2) : Int) = (t1R Tn incn drin matn k part) by unfold t1R; rw [if_pos h8]; exact ((if_neg h15).trans ((if_neg h15q).trans (if_neg h15qq))).symm))
  ·
    refine z_bipush hx hb dX10_toldOfOne_11 (by decide) ?_
    exact hret dX10_toldOfOne_13 (congrArg (fun z => some (Value.int (zI z))) (show ((-2) : Int) = (t1R Tn incn drin matn k part) by unfold t1R; rw [if_neg h8]))

set_option maxRecDepth 20000 in
theorem hin_X10_told_X10 : ∀ w ∈ u_ws RX10 TX10 10, w ∈ wsX10_told := by decide +kernel
set_option maxRecDepth 20000 in
theorem fl_X10_told_29 : Cond.fieldLink RX10 29 "HornCity" "pad" "LHornCity$Pad;" ∈ wsX10_told := by decide +kernel
set_option maxRecDepth 20000 in
theorem hin_X10_told_X4 : ∀ w ∈ u_ws RX4 TX4 2, w ∈ wsX10_told := by decide +kernel
set_option maxRecDepth 20000 in
theorem fl_X10_told_106 : Cond.fieldLink RX10 106 "HornCity$Pad" "length" "I" ∈ wsX10_told := by decide +kernel
set_option maxRecDepth 20000 in
theorem fl_X10_told_10 : Cond.fieldLink RX10 10 "HornCity" "now" "LHornCity$City;" ∈ wsX10_told := by decide +kernel
set_option maxRecDepth 20000 in
theorem hin_X10_told_X2 : ∀ w ∈ u_ws RX2 TX2 8, w ∈ wsX10_told := by decide +kernel
set_option maxRecDepth 20000 in
theorem fl_X10_told_246 : Cond.fieldLink RX10 246 "HornCity$City" "there" "I" ∈ wsX10_told := by decide +kernel
set_option maxRecDepth 20000 in
theorem fl_X10_told_99 : Cond.fieldLink RX10 99 "HornCity$City" "tooMuch" "I" ∈ wsX10_told := by decide +kernel
set_option maxRecDepth 20000 in
theorem fl_X10_told_139 : Cond.fieldLink RX10 139 "HornCity$City" "year" "I" ∈ wsX10_told := by decide +kernel
set_option maxRecDepth 20000 in
theorem fl_X10_told_188 : Cond.fieldLink RX10 188 "HornCity$City" "chalks" "LHornCity$Chalks;" ∈ wsX10_told := by decide +kernel
set_option maxRecDepth 20000 in
theorem hin_X10_told_X1 : ∀ w ∈ u_ws RX1 TX1 3, w ∈ wsX10_told := by decide +kernel
set_option maxRecDepth 20000 in
theorem fl_X10_told_198 : Cond.fieldLink RX10 198 "HornCity$Chalks" "count" "I" ∈ wsX10_told := by decide +kernel
set_option maxHeartbeats 4000000 in
set_option maxRecDepth 100000 in
theorem c_X10_told (l : Launch) (D : va_G) (cI cJ cZ : ClassId) (hc on of os kp pd ys tu as tk ck sg ain adn amn ahn chn iyn mkn : Nat) (incn drin matn iyfn mkfn : Int → Int) (ln Tn tmn yrn cnn what : Int) (hr : (-2147483648 ≤ what ∧ what ≤ 2147483647)) (hTn : 0 ≤ Tn ∧ Tn < 512) (hbmn : zBd matn 9 (-6) 8) : zMp l yX10_told wsX10_told (zRm 3) D cI cJ cZ [.ref hc, .int (zI what)] [(hc, .inr (8, [.ref on, .ref of, .ref os, .ref kp, .ref pd, .ref ys, .ref tu, .ref as, .ref tk, .ref ck])), (pd, .inr (3, [.ref sg, .int (zI ln)])), (on, .inr (2, [.ref ain, .ref adn, .ref amn, .ref ahn, .ref chn, .int (zI Tn), .int (zI tmn), .int (zI yrn)])), (ain, .inl (cI, 9, .inl (zA incn))), (adn, .inl (cI, 9, .inl (zA drin))), (amn, .inl (cI, 9, .inl (zA matn))), (chn, .inr (1, [.ref iyn, .ref mkn, .int (zI cnn)])), (iyn, .inl (cI, 8, .inl (zA iyfn))), (mkn, .inl (cI, 8, .inl (zA mkfn)))] (some (.int (zI (toR ln Tn tmn yrn cnn incn drin matn what)))) := by
  refine zMp_i (cc := cX10_told) (maxL := 2) (by decide +kernel) rfl (Nat.le_of_ble_eq_true rfl) rfl ?_
  intro p e s m args below meth c Q H ls F hK hz hl hret
  obtain ⟨hx, hb, hml, hown0, hts⟩ := id F
  have hown : s.vm.findClass RX10 = some m.cls := hown0
  obtain ⟨ws0, hw0⟩ : ∃ w : va_W, w = [(hc, .inr (8, [.ref on, .ref of, .ref os, .ref kp, .ref pd, .ref ys, .ref tu, .ref as, .ref tk, .ref ck])), (pd, .inr (3, [.ref sg, .int (zI ln)])), (on, .inr (2, [.ref ain, .ref adn, .ref amn, .ref ahn, .ref chn, .int (zI Tn), .int (zI tmn), .int (zI yrn)])), (ain, .inl (cI, 9, .inl (zA incn))), (adn, .inl (cI, 9, .inl (zA drin))), (amn, .inl (cI, 9, .inl (zA matn))), (chn, .inr (1, [.ref iyn, .ref mkn, .int (zI cnn)])), (iyn, .inl (cI, 8, .inl (zA iyfn))), (mkn, .inl (cI, 8, .inl (zA mkfn)))] := ⟨_, rfl⟩
  have hz : zH D (zF ws0) H [(hc, .inr (8, [.ref on, .ref of, .ref os, .ref kp, .ref pd, .ref ys, .ref tu, .ref as, .ref tk, .ref ck])), (pd, .inr (3, [.ref sg, .int (zI ln)])), (on, .inr (2, [.ref ain, .ref adn, .ref amn, .ref ahn, .ref chn, .int (zI Tn), .int (zI tmn), .int (zI yrn)])), (ain, .inl (cI, 9, .inl (zA incn))), (adn, .inl (cI, 9, .inl (zA drin))), (amn, .inl (cI, 9, .inl (zA matn))), (chn, .inr (1, [.ref iyn, .ref mkn, .int (zI cnn)])), (iyn, .inl (cI, 8, .inl (zA iyfn))), (mkn, .inl (cI, 8, .inl (zA mkfn)))] H [] := by rw [hw0]; exact hz
  have hl : lv_has ls 2 [(0, .ref hc), (1, .int (zI what))] := hl
  refine lv_iload_n hx hb dX10_told_0 rfl (lv_at hl 1 rfl) ?_
  by_cases h1 : what = 0
  ·
    refine z_tabIn (k := 0) (off := 39) (tgt := 40) hx hb dX10_told_1 (by omega) (by decide) (by decide) (by decide +kernel) (by decide) ?_
    refine lv_aload_n hx hb dX10_told_40 rfl (lv_at hl 0 rfl) ?_
    refine z_get (C := RX10) (T := TX10) (N := 10) (ref := "HornCity") hx hb hts hin_X10_told_X10 hown hK hz 0 rfl rfl 4 (by decide) (hts _ fl_X10_told_29) rfl rfl dX10_told_41 ?_
    refine z_get (C := RX4) (T := TX4) (N := 2) (ref := "HornCity$Pad") hx hb hts hin_X10_told_X4 hown hK hz 1 rfl rfl 1 (by decide) (hts _ fl_X10_told_106) rfl rfl dX10_told_44 ?_
    exact hret dX10_told_47 (congrArg (fun z => some (Value.int (zI z))) (show (ln : Int) = (toR ln Tn tmn yrn cnn incn drin matn what) by unfold toR; exact (if_pos h1).symm))
  ·
    by_cases h1q : what = 1
    ·
      refine z_tabIn (k := 1) (off := 47) (tgt := 48) hx hb dX10_told_1 (by omega) (by decide) (by decide) (by decide +kernel) (by decide) ?_
      refine lv_aload_n hx hb dX10_told_48 rfl (lv_at hl 0 rfl) ?_
      refine z_get (C := RX10) (T := TX10) (N := 10) (ref := "HornCity") hx hb hts hin_X10_told_X10 hown hK hz 0 rfl rfl 0 (by decide) (hts _ fl_X10_told_10) rfl rfl dX10_told_49 ?_
      refine z_get (C := RX2) (T := TX2) (N := 8) (ref := "HornCity$City") hx hb hts hin_X10_told_X2 hown hK hz 2 rfl rfl 5 (by decide) (hts _ fl_X10_told_246) rfl rfl dX10_told_52 ?_
      exact hret dX10_told_55 (congrArg (fun z => some (Value.int (zI z))) (show (Tn : Int) = (toR ln Tn tmn yrn cnn incn drin matn what) by unfold toR; exact ((if_neg h1).trans (if_pos h1q)).symm))
    ·
      by_cases h1qq : what = 2
      ·
        refine z_tabIn (k := 2) (off := 55) (tgt := 56) hx hb dX10_told_1 (by omega) (by decide) (by decide) (by decide +kernel) (by decide) ?_
        refine lv_aload_n hx hb dX10_told_56 rfl (lv_at hl 0 rfl) ?_
        refine z_get (C := RX10) (T := TX10) (N := 10) (ref := "HornCity") hx hb hts hin_X10_told_X10 hown hK hz 0 rfl rfl 0 (by decide) (hts _ fl_X10_told_10) rfl rfl dX10_told_57 ?_
        refine z_get (C := RX2) (T := TX2) (N := 8) (ref := "HornCity$City") hx hb hts hin_X10_told_X2 hown hK hz 2 rfl rfl 6 (by decide) (hts _ fl_X10_told_99) rfl rfl dX10_told_60 ?_
        exact hret dX10_told_63 (congrArg (fun z => some (Value.int (zI z))) (show (tmn : Int) = (toR ln Tn tmn yrn cnn incn drin matn what) by unfold toR; exact ((if_neg h1).trans ((if_neg h1q).trans (if_pos h1qq))).symm))
      ·
        by_cases h1qqq : what = 3
        ·
          refine z_tabIn (k := 3) (off := 63) (tgt := 64) hx hb dX10_told_1 (by omega) (by decide) (by decide) (by decide +kernel) (by decide) ?_
          refine lv_aload_n hx hb dX10_told_64 rfl (lv_at hl 0 rfl) ?_
          refine z_get (C := RX10) (T := TX10) (N := 10) (ref := "HornCity") hx hb hts hin_X10_told_X10 hown hK hz 0 rfl rfl 0 (by decide) (hts _ fl_X10_told_10) rfl rfl dX10_told_65 ?_
          refine z_get (C := RX2) (T := TX2) (N := 8) (ref := "HornCity$City") hx hb hts hin_X10_told_X2 hown hK hz 2 rfl rfl 7 (by decide) (hts _ fl_X10_told_139) rfl rfl dX10_told_68 ?_
          exact hret dX10_told_71 (congrArg (fun z => some (Value.int (zI z))) (show (yrn : Int) = (toR ln Tn tmn yrn cnn incn drin matn what) by unfold toR; exact ((if_neg h1).trans ((if_neg h1q).trans ((if_neg h1qq).trans (if_pos h1qqq)))).symm))
        ·
          by_cases h1qqqq : what = 4
          ·
            refine z_tabIn (k := 4) (off := 71) (tgt := 72) hx hb dX10_told_1 (by omega) (by decide) (by decide) (by decide +kernel) (by decide) ?_
            refine lv_aload_n hx hb dX10_told_72 rfl (lv_at hl 0 rfl) ?_
            refine z_get (C := RX10) (T := TX10) (N := 10) (ref := "HornCity") hx hb hts hin_X10_told_X10 hown hK hz 0 rfl rfl 0 (by decide) (hts _ fl_X10_told_10) rfl rfl dX10_told_73 ?_
            refine z_get (C := RX2) (T := TX2) (N := 8) (ref := "HornCity$City") hx hb hts hin_X10_told_X2 hown hK hz 2 rfl rfl 4 (by decide) (hts _ fl_X10_told_188) rfl rfl dX10_told_76 ?_
            refine z_get (C := RX1) (T := TX1) (N := 3) (ref := "HornCity$Chalks") hx hb hts hin_X10_told_X1 hown hK hz 6 rfl rfl 2 (by decide) (hts _ fl_X10_told_198) rfl rfl dX10_told_79 ?_
            exact hret dX10_told_82 (congrArg (fun z => some (Value.int (zI z))) (show (cnn : Int) = (toR ln Tn tmn yrn cnn incn drin matn what) by unfold toR; exact ((if_neg h1).trans ((if_neg h1q).trans ((if_neg h1qq).trans ((if_neg h1qqq).trans (if_pos h1qqqq))))).symm))
          ·
            by_cases h1qqqqq : what = 5
            ·
              refine z_tabIn (k := 5) (off := 82) (tgt := 83) hx hb dX10_told_1 (by omega) (by decide) (by decide) (by decide +kernel) (by decide) ?_
              refine lv_aload_n hx hb dX10_told_83 rfl (lv_at hl 0 rfl) ?_
              refine z_get (C := RX10) (T := TX10) (N := 10) (ref := "HornCity") hx hb hts hin_X10_told_X10 hown hK hz 0 rfl rfl 0 (by decide) (hts _ fl_X10_told_10) rfl rfl dX10_told_84 ?_
              refine z_callVp (As := []) (rest := []) (C := RX2) (T := TX2) (N := 8) F hK hz hl (c_X2_pairsSitting l D cI cJ cZ on ain adn amn ahn chn matn Tn tmn yrn (by first | assumption | omega) (hbmn)) (cwV 0 hts gX10_told_X2_pairsSitting rfl rfl rfl (by decide +kernel) ⟨Nat.le_of_ble_eq_true rfl, Nat.le_of_ble_eq_true rfl⟩) rfl 2 rfl [2, 5] rfl rfl rfl rfl (Nat.le_of_ble_eq_true rfl) ⟨Nat.le_of_ble_eq_true rfl, Nat.le_of_ble_eq_true rfl⟩ dX10_told_87 ?_
              exact hret dX10_told_90 (congrArg (fun z => some (Value.int (zI z))) (show ((pairS Tn matn) : Int) = (toR ln Tn tmn yrn cnn incn drin matn what) by unfold toR; exact ((if_neg h1).trans ((if_neg h1q).trans ((if_neg h1qq).trans ((if_neg h1qqq).trans ((if_neg h1qqqq).trans (if_pos h1qqqqq)))))).symm))
            ·
              refine z_tabOut (tgt := 91) hx hb dX10_told_1 (by omega) (by omega) (by decide) ?_
              refine lv_aload_n hx hb dX10_told_91 rfl (lv_at hl 0 rfl) ?_
              refine lv_iload_n hx hb dX10_told_92 rfl (lv_at hl 1 rfl) ?_
              refine z_bipush hx hb dX10_told_93 (by decide) ?_
              have ht1 := ztd what 10
              have ht2 := ztm what 10
              refine z_idivT hx hb dX10_told_95 (by omega) (by omega) ?_
              refine z_iconst hx hb dX10_told_96 ?_
              refine z_isub hx hb dX10_told_97 ?_
              refine lv_iload_n hx hb dX10_told_98 rfl (lv_at hl 1 rfl) ?_
              refine z_bipush hx hb dX10_told_99 (by decide) ?_
              refine z_iremT hx hb dX10_told_101 (by omega) (by omega) ?_
              refine z_callVp (As := [.int (zI ((what.tdiv 10) - 1)), .int (zI (what.tmod 10))]) (rest := []) (C := RX10) (T := TX10) (N := 10) F hK hz hl (c_X10_toldOfOne l D cI cJ cZ hc on of os kp pd ys tu as tk ck ain adn amn ahn chn incn drin matn Tn tmn yrn ((what.tdiv 10) - 1) (what.tmod 10) (by omega) (by first | assumption | omega)) (cwV 2 hts gX10_told_X10_toldOfOne rfl rfl rfl (by decide +kernel) ⟨Nat.le_of_ble_eq_true rfl, Nat.le_of_ble_eq_true rfl⟩) rfl 0 rfl [0, 2, 3, 4, 5] rfl rfl rfl rfl (Nat.le_of_ble_eq_true rfl) ⟨Nat.le_of_ble_eq_true rfl, Nat.le_of_ble_eq_true rfl⟩ dX10_told_102 ?_
              exact hret dX10_told_105 (congrArg (fun z => some (Value.int (zI z))) (show ((t1R Tn incn drin matn ((what.tdiv 10) - 1) (what.tmod 10)) : Int) = (toR ln Tn tmn yrn cnn incn drin matn what) by unfold toR; exact ((if_neg h1).trans ((if_neg h1q).trans ((if_neg h1qq).trans ((if_neg h1qqq).trans ((if_neg h1qqqq).trans (if_neg h1qqqqq)))))).symm))
