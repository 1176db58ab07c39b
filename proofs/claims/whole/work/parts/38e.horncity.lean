set_option maxRecDepth 20000 in
theorem hin_X10_chalk_X10 : ∀ w ∈ u_ws RX10 TX10 10, w ∈ wsX10_chalk := by decide +kernel
set_option maxRecDepth 20000 in
theorem fl_X10_chalk_10 : Cond.fieldLink RX10 10 "HornCity" "now" "LHornCity$City;" ∈ wsX10_chalk := by decide +kernel
set_option maxRecDepth 20000 in
theorem hin_X10_chalk_X2 : ∀ w ∈ u_ws RX2 TX2 8, w ∈ wsX10_chalk := by decide +kernel
set_option maxRecDepth 20000 in
theorem fl_X10_chalk_188 : Cond.fieldLink RX10 188 "HornCity$City" "chalks" "LHornCity$Chalks;" ∈ wsX10_chalk := by decide +kernel
set_option maxRecDepth 20000 in
theorem hin_X10_chalk_X1 : ∀ w ∈ u_ws RX1 TX1 3, w ∈ wsX10_chalk := by decide +kernel
set_option maxRecDepth 20000 in
theorem fl_X10_chalk_198 : Cond.fieldLink RX10 198 "HornCity$Chalks" "count" "I" ∈ wsX10_chalk := by decide +kernel
set_option maxHeartbeats 4000000 in
set_option maxRecDepth 100000 in
theorem c_X10_chalk (l : Launch) (D : va_G) (cI cJ cZ : ClassId) (hc on of os kp pd ys tu as tk ck ain adn amn ahn chn iyn mkn : Nat) (iyfn mkfn : Int → Int) (Tn tmn yrn cnn y c0 : Int) (hr : (-2147483648 ≤ y ∧ y ≤ 2147483647) ∧ (-2147483648 ≤ c0 ∧ c0 ≤ 2147483647)) (hcnn : 0 ≤ cnn ∧ cnn ≤ 8) : zMw l yX10_chalk wsX10_chalk (zRm 1) D cI cJ cZ [.ref hc, .int (zI y), .int (zI c0)] [(hc, .inr (8, [.ref on, .ref of, .ref os, .ref kp, .ref pd, .ref ys, .ref tu, .ref as, .ref tk, .ref ck])), (on, .inr (2, [.ref ain, .ref adn, .ref amn, .ref ahn, .ref chn, .int (zI Tn), .int (zI tmn), .int (zI yrn)])), (chn, .inr (1, [.ref iyn, .ref mkn, .int (zI cnn)])), (iyn, .inl (cI, 8, .inl (zA iyfn))), (mkn, .inl (cI, 8, .inl (zA mkfn)))] (S := Int × (Int → Int) × (Int → Int) × Int) (fun u => u.1 = chR cnn y c0 ∧ u.2.1 = chY iyfn cnn y c0 ∧ u.2.2.1 = chM mkfn cnn y c0 ∧ u.2.2.2 = chN cnn y c0) (fun u => some (.int (zI u.1))) (fun u => [(hc, .inr (8, [.ref on, .ref of, .ref os, .ref kp, .ref pd, .ref ys, .ref tu, .ref as, .ref tk, .ref ck])), (on, .inr (2, [.ref ain, .ref adn, .ref amn, .ref ahn, .ref chn, .int (zI Tn), .int (zI tmn), .int (zI yrn)])), (chn, .inr (1, [.ref iyn, .ref mkn, .int (zI u.2.2.2)])), (iyn, .inl (cI, 8, .inl (zA u.2.1))), (mkn, .inl (cI, 8, .inl (zA u.2.2.1)))]) := by
  refine zMw_i (cc := cX10_chalk) (maxL := 3) (by decide +kernel) rfl (Nat.le_of_ble_eq_true rfl) rfl (fun _ => rfl) ?_
  intro p e s m args below meth c Q H0 ls F hK hz hl hret
  obtain ⟨hx, hb, hml, hown0, hts⟩ := id F
  have hown : s.vm.findClass RX10 = some m.cls := hown0
  obtain ⟨ws0, hw0⟩ : ∃ w : va_W, w = [(hc, .inr (8, [.ref on, .ref of, .ref os, .ref kp, .ref pd, .ref ys, .ref tu, .ref as, .ref tk, .ref ck])), (on, .inr (2, [.ref ain, .ref adn, .ref amn, .ref ahn, .ref chn, .int (zI Tn), .int (zI tmn), .int (zI yrn)])), (chn, .inr (1, [.ref iyn, .ref mkn, .int (zI cnn)])), (iyn, .inl (cI, 8, .inl (zA iyfn))), (mkn, .inl (cI, 8, .inl (zA mkfn)))] := ⟨_, rfl⟩
  rw [← hw0] at hret
  have hz : zH D (zF ws0) H0 [(hc, .inr (8, [.ref on, .ref of, .ref os, .ref kp, .ref pd, .ref ys, .ref tu, .ref as, .ref tk, .ref ck])), (on, .inr (2, [.ref ain, .ref adn, .ref amn, .ref ahn, .ref chn, .int (zI Tn), .int (zI tmn), .int (zI yrn)])), (chn, .inr (1, [.ref iyn, .ref mkn, .int (zI cnn)])), (iyn, .inl (cI, 8, .inl (zA iyfn))), (mkn, .inl (cI, 8, .inl (zA mkfn)))] H0 [] := by rw [hw0]; exact hz
  have hl : lv_has ls 3 [(0, .ref hc), (1, .int (zI y)), (2, .int (zI c0))] := hl
  refine lv_iload_n hx hb dX10_chalk_0 rfl (lv_at hl 1 rfl) ?_
  refine z_iconst hx hb dX10_chalk_1 ?_
  refine z_bipush hx hb dX10_chalk_2 (by decide) ?_
  refine z_callSp (As := [.int (zI y), .int (zI 0), .int (zI 60)]) (rest := []) F hK hz hl (c_X10_isWithin l D cI cJ cZ y 0 60 (by omega)) (va_cwS 3 hts gX10_chalk_X10_isWithin rfl rfl rfl (by decide +kernel) ⟨Nat.le_of_ble_eq_true rfl, Nat.le_of_ble_eq_true rfl⟩) [] rfl rfl rfl rfl (Nat.le_of_ble_eq_true rfl) ⟨Nat.le_of_ble_eq_true rfl, Nat.le_of_ble_eq_true rfl⟩ dX10_chalk_4 ?_
  refine z_ifb_eq (tgt := 21) hx hb dX10_chalk_7 (by decide) (fun h7 => ?_) (fun h7 => ?_)
  ·
    refine z_bipush hx hb dX10_chalk_21 (by decide) ?_
    exact hret (((-2) : Int), (iyfn : Int → Int), (mkfn : Int → Int), (cnn : Int)) dX10_chalk_23 (show (-2) = chR cnn y c0 ∧ iyfn = chY iyfn cnn y c0 ∧ mkfn = chM mkfn cnn y c0 ∧ cnn = chN cnn y c0 from ⟨by unfold chR; rw [if_neg (by omega)], by unfold chY; rw [if_neg (by omega)], by unfold chM; rw [if_neg (by omega)], by unfold chN; rw [if_neg (by omega)]⟩) hz
  ·
    refine lv_iload_n hx hb dX10_chalk_10 rfl (lv_at hl 2 rfl) ?_
    refine z_iconst hx hb dX10_chalk_11 ?_
    refine z_sipush hx hb dX10_chalk_12 (by decide) ?_
    refine z_callSp (As := [.int (zI c0), .int (zI 0), .int (zI 179)]) (rest := []) F hK hz hl (c_X10_isWithin l D cI cJ cZ c0 0 179 (by omega)) (va_cwS 3 hts gX10_chalk_X10_isWithin rfl rfl rfl (by decide +kernel) ⟨Nat.le_of_ble_eq_true rfl, Nat.le_of_ble_eq_true rfl⟩) [] rfl rfl rfl rfl (Nat.le_of_ble_eq_true rfl) ⟨Nat.le_of_ble_eq_true rfl, Nat.le_of_ble_eq_true rfl⟩ dX10_chalk_15 ?_
    refine z_ifb_ne (tgt := 24) hx hb dX10_chalk_18 (by decide) (fun h18 => ?_) (fun h18 => ?_)
    ·
      refine lv_aload_n hx hb dX10_chalk_24 rfl (lv_at hl 0 rfl) ?_
      refine z_get (C := RX10) (T := TX10) (N := 10) (ref := "HornCity") hx hb hts hin_X10_chalk_X10 hown hK hz 0 rfl rfl 0 (by decide) (hts _ fl_X10_chalk_10) rfl rfl dX10_chalk_25 ?_
      refine z_get (C := RX2) (T := TX2) (N := 8) (ref := "HornCity$City") hx hb hts hin_X10_chalk_X2 hown hK hz 1 rfl rfl 4 (by decide) (hts _ fl_X10_chalk_188) rfl rfl dX10_chalk_28 ?_
      refine lv_iload_n hx hb dX10_chalk_31 rfl (lv_at hl 1 rfl) ?_
      refine lv_iload_n hx hb dX10_chalk_32 rfl (lv_at hl 2 rfl) ?_
      refine z_callVw (As := [.int (zI y), .int (zI c0)]) (rest := []) (C := RX1) (T := TX1) (N := 3) F hK hz hl (c_X1_put l D cI cJ cZ chn iyn mkn iyfn mkfn cnn y c0 (by omega)) (cwV 2 hts gX10_chalk_X1_put rfl rfl rfl (by decide +kernel) ⟨Nat.le_of_ble_eq_true rfl, Nat.le_of_ble_eq_true rfl⟩) rfl 2 rfl [2, 3, 4] rfl rfl (by decide +kernel) rfl rfl (Nat.le_of_ble_eq_true rfl) ⟨Nat.le_of_ble_eq_true rfl, Nat.le_of_ble_eq_true rfl⟩ dX10_chalk_33 (fun u H locs hu hz => ?_)
      obtain ⟨r_1, y1_2, m1_3, c1_4⟩ := u
      have hu : r_1 = (if cnn < 8 then 1 else 0) ∧ y1_2 = (if cnn < 8 then zU iyfn cnn y else iyfn) ∧ m1_3 = (if cnn < 8 then zU mkfn cnn c0 else mkfn) ∧ c1_4 = (if cnn < 8 then cnn + 1 else cnn) := hu
      obtain ⟨g33_0, g33_1, g33_2, g33_3⟩ := hu
      have g33_0 := g33_0.symm
      subst g33_0
      have g33_1 := g33_1.symm
      subst g33_1
      have g33_2 := g33_2.symm
      subst g33_2
      have g33_3 := g33_3.symm
      subst g33_3
      have hz : zH D (zF ws0) H0 [(hc, .inr (8, [.ref on, .ref of, .ref os, .ref kp, .ref pd, .ref ys, .ref tu, .ref as, .ref tk, .ref ck])), (on, .inr (2, [.ref ain, .ref adn, .ref amn, .ref ahn, .ref chn, .int (zI Tn), .int (zI tmn), .int (zI yrn)])), (chn, .inr (1, [.ref iyn, .ref mkn, .int (zI (if cnn < 8 then cnn + 1 else cnn))])), (iyn, .inl (cI, 8, .inl (zA (if cnn < 8 then zU iyfn cnn y else iyfn)))), (mkn, .inl (cI, 8, .inl (zA (if cnn < 8 then zU mkfn cnn c0 else mkfn))))] H locs := hz
      refine z_ifb_eq (tgt := 52) hx hb dX10_chalk_36 (by decide) (fun h36 => ?_) (fun h36 => ?_)
      ·
        refine z_bipush hx hb dX10_chalk_52 (by decide) ?_
        exact hret (((-4) : Int), (if cnn < 8 then zU iyfn cnn y else iyfn : Int → Int), (if cnn < 8 then zU mkfn cnn c0 else mkfn : Int → Int), ((if cnn < 8 then cnn + 1 else cnn) : Int)) dX10_chalk_54 (show (-4) = chR cnn y c0 ∧ (if cnn < 8 then zU iyfn cnn y else iyfn) = chY iyfn cnn y c0 ∧ (if cnn < 8 then zU mkfn cnn c0 else mkfn) = chM mkfn cnn y c0 ∧ (if cnn < 8 then cnn + 1 else cnn) = chN cnn y c0 from ⟨by unfold chR; rw [if_pos (by omega), if_neg h36], by unfold chY; rw [if_neg h36, if_neg (by omega)], by unfold chM; rw [if_neg h36, if_neg (by omega)], by unfold chN; rw [if_neg h36, if_neg (by omega)]⟩) hz
      ·
        refine lv_aload_n hx hb dX10_chalk_39 rfl (lv_at hl 0 rfl) ?_
        refine z_get (C := RX10) (T := TX10) (N := 10) (ref := "HornCity") hx hb hts hin_X10_chalk_X10 hown hK hz 0 rfl rfl 0 (by decide) (hts _ fl_X10_chalk_10) rfl rfl dX10_chalk_40 ?_
        refine z_get (C := RX2) (T := TX2) (N := 8) (ref := "HornCity$City") hx hb hts hin_X10_chalk_X2 hown hK hz 1 rfl rfl 4 (by decide) (hts _ fl_X10_chalk_188) rfl rfl dX10_chalk_43 ?_
        refine z_get (C := RX1) (T := TX1) (N := 3) (ref := "HornCity$Chalks") hx hb hts hin_X10_chalk_X1 hown hK hz 2 rfl rfl 2 (by decide) (hts _ fl_X10_chalk_198) rfl rfl dX10_chalk_46 ?_
        refine lv_goto (tgt := 54) hx hb dX10_chalk_49 (by decide) ?_
        exact hret (((if cnn < 8 then cnn + 1 else cnn) : Int), (if cnn < 8 then zU iyfn cnn y else iyfn : Int → Int), (if cnn < 8 then zU mkfn cnn c0 else mkfn : Int → Int), ((if cnn < 8 then cnn + 1 else cnn) : Int)) dX10_chalk_54 (show (if cnn < 8 then cnn + 1 else cnn) = chR cnn y c0 ∧ (if cnn < 8 then zU iyfn cnn y else iyfn) = chY iyfn cnn y c0 ∧ (if cnn < 8 then zU mkfn cnn c0 else mkfn) = chM mkfn cnn y c0 ∧ (if cnn < 8 then cnn + 1 else cnn) = chN cnn y c0 from ⟨by rw [if_pos h36]; unfold chR; rw [if_pos (by omega), if_pos h36], by unfold chY; rw [if_pos h36, if_pos (by omega)], by unfold chM; rw [if_pos h36, if_pos (by omega)], by unfold chN; rw [if_pos h36, if_pos (by omega)]⟩) hz
    ·
      refine z_bipush hx hb dX10_chalk_21 (by decide) ?_
      exact hret (((-2) : Int), (iyfn : Int → Int), (mkfn : Int → Int), (cnn : Int)) dX10_chalk_23 (show (-2) = chR cnn y c0 ∧ iyfn = chY iyfn cnn y c0 ∧ mkfn = chM mkfn cnn y c0 ∧ cnn = chN cnn y c0 from ⟨by unfold chR; rw [if_neg (by omega)], by unfold chY; rw [if_neg (by omega)], by unfold chM; rw [if_neg (by omega)], by unfold chN; rw [if_neg (by omega)]⟩) hz

set_option maxRecDepth 20000 in
theorem hin_X10_forget_X10 : ∀ w ∈ u_ws RX10 TX10 10, w ∈ wsX10_forget := by decide +kernel
set_option maxRecDepth 20000 in
theorem fl_X10_forget_10 : Cond.fieldLink RX10 10 "HornCity" "now" "LHornCity$City;" ∈ wsX10_forget := by decide +kernel
set_option maxRecDepth 20000 in
theorem hin_X10_forget_X2 : ∀ w ∈ u_ws RX2 TX2 8, w ∈ wsX10_forget := by decide +kernel
set_option maxRecDepth 20000 in
theorem fl_X10_forget_188 : Cond.fieldLink RX10 188 "HornCity$City" "chalks" "LHornCity$Chalks;" ∈ wsX10_forget := by decide +kernel
set_option maxRecDepth 20000 in
theorem hin_X10_forget_X1 : ∀ w ∈ u_ws RX1 TX1 3, w ∈ wsX10_forget := by decide +kernel
set_option maxRecDepth 20000 in
theorem fl_X10_forget_198 : Cond.fieldLink RX10 198 "HornCity$Chalks" "count" "I" ∈ wsX10_forget := by decide +kernel
set_option maxHeartbeats 4000000 in
set_option maxRecDepth 100000 in
theorem c_X10_forget (l : Launch) (D : va_G) (cI cJ cZ : ClassId) (hc on of os kp pd ys tu as tk ck ain adn amn ahn chn iyn mkn : Nat) (Tn tmn yrn cnn : Int) : zMw l yX10_forget wsX10_forget (zRm 1) D cI cJ cZ [.ref hc] [(hc, .inr (8, [.ref on, .ref of, .ref os, .ref kp, .ref pd, .ref ys, .ref tu, .ref as, .ref tk, .ref ck])), (on, .inr (2, [.ref ain, .ref adn, .ref amn, .ref ahn, .ref chn, .int (zI Tn), .int (zI tmn), .int (zI yrn)])), (chn, .inr (1, [.ref iyn, .ref mkn, .int (zI cnn)]))] (S := Int × Int) (fun u => u.1 = cnn ∧ u.2 = 0) (fun u => some (.int (zI u.1))) (fun u => [(hc, .inr (8, [.ref on, .ref of, .ref os, .ref kp, .ref pd, .ref ys, .ref tu, .ref as, .ref tk, .ref ck])), (on, .inr (2, [.ref ain, .ref adn, .ref amn, .ref ahn, .ref chn, .int (zI Tn), .int (zI tmn), .int (zI yrn)])), (chn, .inr (1, [.ref iyn, .ref mkn, .int (zI u.2)]))]) := by
  refine zMw_i (cc := cX10_forget) (maxL := 2) (by decide +kernel) rfl (Nat.le_of_ble_eq_true rfl) rfl (fun _ => rfl) ?_
  intro p e s m args below meth c Q H0 ls F hK hz hl hret
  obtain ⟨hx, hb, hml, hown0, hts⟩ := id F
  have hown : s.vm.findClass RX10 = some m.cls := hown0
  obtain ⟨ws0, hw0⟩ : ∃ w : va_W, w = [(hc, .inr (8, [.ref on, .ref of, .ref os, .ref kp, .ref pd, .ref ys, .ref tu, .ref as, .ref tk, .ref ck])), (on, .inr (2, [.ref ain, .ref adn, .ref amn, .ref ahn, .ref chn, .int (zI Tn), .int (zI tmn), .int (zI yrn)])), (chn, .inr (1, [.ref iyn, .ref mkn, .int (zI cnn)]))] := ⟨_, rfl⟩
  rw [← hw0] at hret
  have hz : zH D (zF ws0) H0 [(hc, .inr (8, [.ref on, .ref of, .ref os, .ref kp, .ref pd, .ref ys, .ref tu, .ref as, .ref tk, .ref ck])), (on, .inr (2, [.ref ain, .ref adn, .ref amn, .ref ahn, .ref chn, .int (zI Tn), .int (zI tmn), .int (zI yrn)])), (chn, .inr (1, [.ref iyn, .ref mkn, .int (zI cnn)]))] H0 [] := by rw [hw0]; exact hz
  have hl : lv_has ls 2 [(0, .ref hc)] := hl
  refine lv_aload_n hx hb dX10_forget_0 rfl (lv_at hl 0 rfl) ?_
  refine z_get (C := RX10) (T := TX10) (N := 10) (ref := "HornCity") hx hb hts hin_X10_forget_X10 hown hK hz 0 rfl rfl 0 (by decide) (hts _ fl_X10_forget_10) rfl rfl dX10_forget_1 ?_
  refine z_get (C := RX2) (T := TX2) (N := 8) (ref := "HornCity$City") hx hb hts hin_X10_forget_X2 hown hK hz 1 rfl rfl 4 (by decide) (hts _ fl_X10_forget_188) rfl rfl dX10_forget_4 ?_
  refine z_get (C := RX1) (T := TX1) (N := 3) (ref := "HornCity$Chalks") hx hb hts hin_X10_forget_X1 hown hK hz 2 rfl rfl 2 (by decide) (hts _ fl_X10_forget_198) rfl rfl dX10_forget_7 ?_
  refine lv_istore_n (lv' := [(1, .int (zI cnn)), (0, .ref hc)]) hx hb dX10_forget_10 rfl hl (Nat.le_of_ble_eq_true rfl) rfl (fun ls hl => ?_)
  refine lv_aload_n hx hb dX10_forget_11 rfl (lv_at hl 1 rfl) ?_
  refine z_get (C := RX10) (T := TX10) (N := 10) (ref := "HornCity") hx hb hts hin_X10_forget_X10 hown hK hz 0 rfl rfl 0 (by decide) (hts _ fl_X10_forget_10) rfl rfl dX10_forget_12 ?_
  refine z_get (C := RX2) (T := TX2) (N := 8) (ref := "HornCity$City") hx hb hts hin_X10_forget_X2 hown hK hz 1 rfl rfl 4 (by decide) (hts _ fl_X10_forget_188) rfl rfl dX10_forget_15 ?_
  refine z_iconst hx hb dX10_forget_18 ?_
  refine z_put (C := RX1) (T := TX1) (N := 3) (ref := "HornCity$Chalks") (ty := .int) hx hb hts hin_X10_forget_X1 hown hK hz tyX1 tyX1_ok nmX1 2 rfl rfl 2 (by decide) (hts _ fl_X10_forget_198) rfl rfl (by decide +kernel) rfl rfl (Nat.le_of_ble_eq_true rfl) dX10_forget_19 (fun H locs hz => ?_)
  have hz : zH D (zF ws0) H0 [(hc, .inr (8, [.ref on, .ref of, .ref os, .ref kp, .ref pd, .ref ys, .ref tu, .ref as, .ref tk, .ref ck])), (on, .inr (2, [.ref ain, .ref adn, .ref amn, .ref ahn, .ref chn, .int (zI Tn), .int (zI tmn), .int (zI yrn)])), (chn, .inr (1, [.ref iyn, .ref mkn, .int (zI 0)]))] H locs := hz
  refine lv_iload_n hx hb dX10_forget_22 rfl (lv_at hl 0 rfl) ?_
  exact hret ((cnn : Int), (0 : Int)) dX10_forget_23 (show cnn = cnn ∧ 0 = 0 from ⟨rfl, rfl⟩) hz

set_option maxRecDepth 20000 in
theorem hin_X10_was_X10 : ∀ w ∈ u_ws RX10 TX10 10, w ∈ wsX10_was := by decide +kernel
set_option maxRecDepth 20000 in
theorem fl_X10_was_10 : Cond.fieldLink RX10 10 "HornCity" "now" "LHornCity$City;" ∈ wsX10_was := by decide +kernel
set_option maxRecDepth 20000 in
theorem hin_X10_was_X2 : ∀ w ∈ u_ws RX2 TX2 8, w ∈ wsX10_was := by decide +kernel
set_option maxRecDepth 20000 in
theorem fl_X10_was_188 : Cond.fieldLink RX10 188 "HornCity$City" "chalks" "LHornCity$Chalks;" ∈ wsX10_was := by decide +kernel
set_option maxHeartbeats 4000000 in
set_option maxRecDepth 100000 in
theorem c_X10_was (l : Launch) (D : va_G) (cI cJ cZ : ClassId) (hc on of os kp pd ys tu as tk ck ain adn amn ahn chn iyn mkn : Nat) (iyfn mkfn : Int → Int) (Tn tmn yrn cnn w i0 : Int) (hr : (-2147483648 ≤ w ∧ w ≤ 2147483647) ∧ (-2147483648 ≤ i0 ∧ i0 ≤ 2147483647)) (hcnn : 0 ≤ cnn ∧ cnn ≤ 8) (hbyn : zBd iyfn 8 0 60) (hbkn : zBd mkfn 8 0 179) : zMp l yX10_was wsX10_was (zRm 3) D cI cJ cZ [.ref hc, .int (zI w), .int (zI i0)] [(hc, .inr (8, [.ref on, .ref of, .ref os, .ref kp, .ref pd, .ref ys, .ref tu, .ref as, .ref tk, .ref ck])), (on, .inr (2, [.ref ain, .ref adn, .ref amn, .ref ahn, .ref chn, .int (zI Tn), .int (zI tmn), .int (zI yrn)])), (chn, .inr (1, [.ref iyn, .ref mkn, .int (zI cnn)])), (iyn, .inl (cI, 8, .inl (zA iyfn))), (mkn, .inl (cI, 8, .inl (zA mkfn)))] (some (.int (zI (waR iyfn mkfn cnn w i0)))) := by
  refine zMp_i (cc := cX10_was) (maxL := 3) (by decide +kernel) rfl (Nat.le_of_ble_eq_true rfl) rfl ?_
  intro p e s m args below meth c Q H ls F hK hz hl hret
  obtain ⟨hx, hb, hml, hown0, hts⟩ := id F
  have hown : s.vm.findClass RX10 = some m.cls := hown0
  obtain ⟨ws0, hw0⟩ : ∃ w : va_W, w = [(hc, .inr (8, [.ref on, .ref of, .ref os, .ref kp, .ref pd, .ref ys, .ref tu, .ref as, .ref tk, .ref ck])), (on, .inr (2, [.ref ain, .ref adn, .ref amn, .ref ahn, .ref chn, .int (zI Tn), .int (zI tmn), .int (zI yrn)])), (chn, .inr (1, [.ref iyn, .ref mkn, .int (zI cnn)])), (iyn, .inl (cI, 8, .inl (zA iyfn))), (mkn, .inl (cI, 8, .inl (zA mkfn)))] := ⟨_, rfl⟩
  have hz : zH D (zF ws0) H [(hc, .inr (8, [.ref on, .ref of, .ref os, .ref kp, .ref pd, .ref ys, .ref tu, .ref as, .ref tk, .ref ck])), (on, .inr (2, [.ref ain, .ref adn, .ref amn, .ref ahn, .ref chn, .int (zI Tn), .int (zI tmn), .int (zI yrn)])), (chn, .inr (1, [.ref iyn, .ref mkn, .int (zI cnn)])), (iyn, .inl (cI, 8, .inl (zA iyfn))), (mkn, .inl (cI, 8, .inl (zA mkfn)))] H [] := by rw [hw0]; exact hz
  have hl : lv_has ls 3 [(0, .ref hc), (1, .int (zI w)), (2, .int (zI i0))] := hl
  refine lv_iload_n hx hb dX10_was_0 rfl (lv_at hl 1 rfl) ?_
  refine z_iconst hx hb dX10_was_1 ?_
  refine z_iconst hx hb dX10_was_2 ?_
  refine z_callSp (As := [.int (zI w), .int (zI 0), .int (zI 2)]) (rest := []) F hK hz hl (c_X10_isWithin l D cI cJ cZ w 0 2 (by omega)) (va_cwS 3 hts gX10_was_X10_isWithin rfl rfl rfl (by decide +kernel) ⟨Nat.le_of_ble_eq_true rfl, Nat.le_of_ble_eq_true rfl⟩) [] rfl rfl rfl rfl (Nat.le_of_ble_eq_true rfl) ⟨Nat.le_of_ble_eq_true rfl, Nat.le_of_ble_eq_true rfl⟩ dX10_was_3 ?_
  refine z_ifb_ne (tgt := 12) hx hb dX10_was_6 (by decide) (fun h6 => ?_) (fun h6 => ?_)
  ·
    refine lv_iload_n hx hb dX10_was_12 rfl (lv_at hl 2 rfl) ?_
    refine z_iconst hx hb dX10_was_13 ?_
    refine z_icmp_ne (tgt := 31) hx hb dX10_was_14 (by decide) (by omega) (by decide) (fun h14 => ?_) (fun h14 => ?_)
    ·
      refine lv_aload_n hx hb dX10_was_31 rfl (lv_at hl 0 rfl) ?_
      refine z_get (C := RX10) (T := TX10) (N := 10) (ref := "HornCity") hx hb hts hin_X10_was_X10 hown hK hz 0 rfl rfl 0 (by decide) (hts _ fl_X10_was_10) rfl rfl dX10_was_32 ?_
      refine z_get (C := RX2) (T := TX2) (N := 8) (ref := "HornCity$City") hx hb hts hin_X10_was_X2 hown hK hz 1 rfl rfl 4 (by decide) (hts _ fl_X10_was_188) rfl rfl dX10_was_35 ?_
      refine lv_iload_n hx hb dX10_was_38 rfl (lv_at hl 1 rfl) ?_
      refine lv_iload_n hx hb dX10_was_39 rfl (lv_at hl 2 rfl) ?_
      refine z_callVp (As := [.int (zI w), .int (zI i0)]) (rest := []) (C := RX1) (T := TX1) (N := 3) F hK hz hl (c_X1_fitAt l D cI cJ cZ chn iyn mkn iyfn mkfn cnn w i0 (by omega) (by omega) (hbyn) (hbkn) (by omega)) (cwV 2 hts gX10_was_X1_fitAt rfl rfl rfl (by decide +kernel) ⟨Nat.le_of_ble_eq_true rfl, Nat.le_of_ble_eq_true rfl⟩) rfl 2 rfl [2, 3, 4] rfl rfl rfl rfl (Nat.le_of_ble_eq_true rfl) ⟨Nat.le_of_ble_eq_true rfl, Nat.le_of_ble_eq_true rfl⟩ dX10_was_40 ?_
      exact hret dX10_was_43 (congrArg (fun z => some (Value.int (zI z))) (show ((fndS iyfn mkfn cnn w i0 3600 0 0) : Int) = (waR iyfn mkfn cnn w i0) by unfold waR; rw [if_pos h6]; exact (if_neg h14).symm))
    ·
      refine lv_aload_n hx hb dX10_was_17 rfl (lv_at hl 0 rfl) ?_
      refine z_get (C := RX10) (T := TX10) (N := 10) (ref := "HornCity") hx hb hts hin_X10_was_X10 hown hK hz 0 rfl rfl 0 (by decide) (hts _ fl_X10_was_10) rfl rfl dX10_was_18 ?_
      refine z_get (C := RX2) (T := TX2) (N := 8) (ref := "HornCity$City") hx hb hts hin_X10_was_X2 hown hK hz 1 rfl rfl 4 (by decide) (hts _ fl_X10_was_188) rfl rfl dX10_was_21 ?_
      refine lv_iload_n hx hb dX10_was_24 rfl (lv_at hl 1 rfl) ?_
      refine z_callVp (As := [.int (zI w)]) (rest := []) (C := RX1) (T := TX1) (N := 3) F hK hz hl (c_X1_countFits l D cI cJ cZ chn iyn mkn iyfn mkfn cnn w (by omega) (by omega) (hbyn) (hbkn)) (cwV 1 hts gX10_was_X1_countFits rfl rfl rfl (by decide +kernel) ⟨Nat.le_of_ble_eq_true rfl, Nat.le_of_ble_eq_true rfl⟩) rfl 2 rfl [2, 3, 4] rfl rfl rfl rfl (Nat.le_of_ble_eq_true rfl) ⟨Nat.le_of_ble_eq_true rfl, Nat.le_of_ble_eq_true rfl⟩ dX10_was_25 ?_
      refine lv_goto (tgt := 43) hx hb dX10_was_28 (by decide) ?_
      exact hret dX10_was_43 (congrArg (fun z => some (Value.int (zI z))) (show ((cntS iyfn mkfn cnn w 3600) : Int) = (waR iyfn mkfn cnn w i0) by unfold waR; rw [if_pos h6]; exact (if_pos h14).symm))
  ·
    refine z_bipush hx hb dX10_was_9 (by decide) ?_
    exact hret dX10_was_11 (congrArg (fun z => some (Value.int (zI z))) (show ((-2) : Int) = (waR iyfn mkfn cnn w i0) by unfold waR; rw [if_neg h6]))

set_option maxRecDepth 20000 in
theorem hin_X10_ask_X10 : ∀ w ∈ u_ws RX10 TX10 10, w ∈ wsX10_ask := by decide +kernel
set_option maxRecDepth 20000 in
theorem fl_X10_ask_50 : Cond.fieldLink RX10 50 "HornCity" "asking" "LHornCity$Asking;" ∈ wsX10_ask := by decide +kernel
set_option maxRecDepth 20000 in
theorem fl_X10_ask_10 : Cond.fieldLink RX10 10 "HornCity" "now" "LHornCity$City;" ∈ wsX10_ask := by decide +kernel
set_option maxRecDepth 20000 in
theorem hin_X10_ask_X2 : ∀ w ∈ u_ws RX2 TX2 8, w ∈ wsX10_ask := by decide +kernel
set_option maxRecDepth 20000 in
theorem fl_X10_ask_188 : Cond.fieldLink RX10 188 "HornCity$City" "chalks" "LHornCity$Chalks;" ∈ wsX10_ask := by decide +kernel
set_option maxRecDepth 20000 in
theorem hin_X10_ask_X0 : ∀ w ∈ u_ws RX0 TX0 3, w ∈ wsX10_ask := by decide +kernel
set_option maxRecDepth 20000 in
theorem fl_X10_ask_214 : Cond.fieldLink RX10 214 "HornCity$Asking" "bestMost" "I" ∈ wsX10_ask := by decide +kernel
set_option maxRecDepth 20000 in
theorem fl_X10_ask_211 : Cond.fieldLink RX10 211 "HornCity$Asking" "bestYear" "I" ∈ wsX10_ask := by decide +kernel
set_option maxHeartbeats 4000000 in
set_option maxRecDepth 100000 in
theorem c_X10_ask (l : Launch) (D : va_G) (cI cJ cZ : ClassId) (hc on of os kp pd ys tu as tk ck ain adn amn ahn chn iyn mkn al : Nat) (iyfn mkfn alf : Int → Int) (Tn tmn yrn cnn by0 bm0 what : Int) (hr : (-2147483648 ≤ what ∧ what ≤ 2147483647)) (hcnn : 0 ≤ cnn ∧ cnn ≤ 8) (hbyn : zBd iyfn 8 0 60) (hbkn : zBd mkfn 8 0 179) : zMw l yX10_ask wsX10_ask (zRm 4) D cI cJ cZ [.ref hc, .int (zI what)] [(hc, .inr (8, [.ref on, .ref of, .ref os, .ref kp, .ref pd, .ref ys, .ref tu, .ref as, .ref tk, .ref ck])), (on, .inr (2, [.ref ain, .ref adn, .ref amn, .ref ahn, .ref chn, .int (zI Tn), .int (zI tmn), .int (zI yrn)])), (chn, .inr (1, [.ref iyn, .ref mkn, .int (zI cnn)])), (iyn, .inl (cI, 8, .inl (zA iyfn))), (mkn, .inl (cI, 8, .inl (zA mkfn))), (as, .inr (0, [.ref al, .int (zI by0), .int (zI bm0)])), (al, .inl (cI, 180, .inl (zA alf)))] (S := Int × (Int → Int) × Int × Int) (fun u => u.1 = asR iyfn mkfn cnn what) (fun u => some (.int (zI u.1))) (fun u => [(hc, .inr (8, [.ref on, .ref of, .ref os, .ref kp, .ref pd, .ref ys, .ref tu, .ref as, .ref tk, .ref ck])), (on, .inr (2, [.ref ain, .ref adn, .ref amn, .ref ahn, .ref chn, .int (zI Tn), .int (zI tmn), .int (zI yrn)])), (chn, .inr (1, [.ref iyn, .ref mkn, .int (zI cnn)])), (iyn, .inl (cI, 8, .inl (zA iyfn))), (mkn, .inl (cI, 8, .inl (zA mkfn))), (as, .inr (0, [.ref al, .int (zI u.2.2.1), .int (zI u.2.2.2)])), (al, .inl (cI, 180, .inl (zA u.2.1)))]) := by
  refine zMw_i (cc := cX10_ask) (maxL := 2) (by decide +kernel) rfl (Nat.le_of_ble_eq_true rfl) rfl (fun _ => rfl) ?_
  intro p e s m args below meth c Q H0 ls F hK hz hl hret
  obtain ⟨hx, hb, hml, hown0, hts⟩ := id F
  have hown : s.vm.findClass RX10 = some m.cls := hown0
  obtain ⟨ws0, hw0⟩ : ∃ w : va_W, w = [(hc, .inr (8, [.ref on, .ref of, .ref os, .ref kp, .ref pd, .ref ys, .ref tu, .ref as, .ref tk, .ref ck])), (on, .inr (2, [.ref ain, .ref adn, .ref amn, .ref ahn, .ref chn, .int (zI Tn), .int (zI tmn), .int (zI yrn)])), (chn, .inr (1, [.ref iyn, .ref mkn, .int (zI cnn)])), (iyn, .inl (cI, 8, .inl (zA iyfn))), (mkn, .inl (cI, 8, .inl (zA mkfn))), (as, .inr (0, [.ref al, .int (zI by0), .int (zI bm0)])), (al, .inl (cI, 180, .inl (zA alf)))] := ⟨_, rfl⟩
  rw [← hw0] at hret
  have hz : zH D (zF ws0) H0 [(hc, .inr (8, [.ref on, .ref of, .ref os, .ref kp, .ref pd, .ref ys, .ref tu, .ref as, .ref tk, .ref ck])), (on, .inr (2, [.ref ain, .ref adn, .ref amn, .ref ahn, .ref chn, .int (zI Tn), .int (zI tmn), .int (zI yrn)])), (chn, .inr (1, [.ref iyn, .ref mkn, .int (zI cnn)])), (iyn, .inl (cI, 8, .inl (zA iyfn))), (mkn, .inl (cI, 8, .inl (zA mkfn))), (as, .inr (0, [.ref al, .int (zI by0), .int (zI bm0)])), (al, .inl (cI, 180, .inl (zA alf)))] H0 [] := by rw [hw0]; exact hz
  have hl : lv_has ls 2 [(0, .ref hc), (1, .int (zI what))] := hl
  refine lv_iload_n hx hb dX10_ask_0 rfl (lv_at hl 1 rfl) ?_
  refine z_iconst hx hb dX10_ask_1 ?_
  refine z_iconst hx hb dX10_ask_2 ?_
  refine z_callSp (As := [.int (zI what), .int (zI 0), .int (zI 1)]) (rest := []) F hK hz hl (c_X10_isWithin l D cI cJ cZ what 0 1 (by omega)) (va_cwS 3 hts gX10_ask_X10_isWithin rfl rfl rfl (by decide +kernel) ⟨Nat.le_of_ble_eq_true rfl, Nat.le_of_ble_eq_true rfl⟩) [] rfl rfl rfl rfl (Nat.le_of_ble_eq_true rfl) ⟨Nat.le_of_ble_eq_true rfl, Nat.le_of_ble_eq_true rfl⟩ dX10_ask_3 ?_
  refine z_ifb_ne (tgt := 12) hx hb dX10_ask_6 (by decide) (fun h6 => ?_) (fun h6 => ?_)
  ·
    refine lv_aload_n hx hb dX10_ask_12 rfl (lv_at hl 0 rfl) ?_
    refine z_get (C := RX10) (T := TX10) (N := 10) (ref := "HornCity") hx hb hts hin_X10_ask_X10 hown hK hz 0 rfl rfl 7 (by decide) (hts _ fl_X10_ask_50) rfl rfl dX10_ask_13 ?_
    refine lv_aload_n hx hb dX10_ask_16 rfl (lv_at hl 0 rfl) ?_
    refine z_get (C := RX10) (T := TX10) (N := 10) (ref := "HornCity") hx hb hts hin_X10_ask_X10 hown hK hz 0 rfl rfl 0 (by decide) (hts _ fl_X10_ask_10) rfl rfl dX10_ask_17 ?_
    refine z_get (C := RX2) (T := TX2) (N := 8) (ref := "HornCity$City") hx hb hts hin_X10_ask_X2 hown hK hz 1 rfl rfl 4 (by decide) (hts _ fl_X10_ask_188) rfl rfl dX10_ask_20 ?_
    refine z_callVwv (As := [.ref chn]) (rest := []) (C := RX0) (T := TX0) (N := 3) F hK hz hl (c_X0_weigh l D cI cJ cZ as al chn iyn mkn alf iyfn mkfn by0 bm0 cnn (by omega) (hbyn) (hbkn)) (cwV 1 hts gX10_ask_X0_weigh rfl rfl rfl (by decide +kernel) ⟨Nat.le_of_ble_eq_true rfl, Nat.le_of_ble_eq_true rfl⟩) rfl 5 rfl [5, 6, 2, 3, 4] rfl rfl (by decide +kernel) rfl rfl (Nat.le_of_ble_eq_true rfl) ⟨Nat.le_of_ble_eq_true rfl, Nat.le_of_ble_eq_true rfl⟩ dX10_ask_23 (fun u H locs hu hz => ?_)
    obtain ⟨al1_1, by1_2, bm1_3⟩ := u
    have hu : (by1_2, bm1_3) = (if cntS iyfn mkfn cnn 0 3600 = 0 then (-6, -6) else askS iyfn mkfn cnn 61) := hu
    have hc23_0 := hu
    have hz : zH D (zF ws0) H0 [(hc, .inr (8, [.ref on, .ref of, .ref os, .ref kp, .ref pd, .ref ys, .ref tu, .ref as, .ref tk, .ref ck])), (on, .inr (2, [.ref ain, .ref adn, .ref amn, .ref ahn, .ref chn, .int (zI Tn), .int (zI tmn), .int (zI yrn)])), (chn, .inr (1, [.ref iyn, .ref mkn, .int (zI cnn)])), (iyn, .inl (cI, 8, .inl (zA iyfn))), (mkn, .inl (cI, 8, .inl (zA mkfn))), (as, .inr (0, [.ref al, .int (zI by1_2), .int (zI bm1_3)])), (al, .inl (cI, 180, .inl (zA al1_1)))] H locs := hz
    refine lv_iload_n hx hb dX10_ask_26 rfl (lv_at hl 1 rfl) ?_
    refine z_if_ne (tgt := 40) hx hb dX10_ask_27 (by decide) (by omega) (fun h27 => ?_) (fun h27 => ?_)
    ·
      refine lv_aload_n hx hb dX10_ask_40 rfl (lv_at hl 0 rfl) ?_
      refine z_get (C := RX10) (T := TX10) (N := 10) (ref := "HornCity") hx hb hts hin_X10_ask_X10 hown hK hz 0 rfl rfl 7 (by decide) (hts _ fl_X10_ask_50) rfl rfl dX10_ask_41 ?_
      refine z_get (C := RX0) (T := TX0) (N := 3) (ref := "HornCity$Asking") hx hb hts hin_X10_ask_X0 hown hK hz 5 rfl rfl 2 (by decide) (hts _ fl_X10_ask_214) rfl rfl dX10_ask_44 ?_
      exact hret ((bm1_3 : Int), (al1_1 : Int → Int), (by1_2 : Int), (bm1_3 : Int)) dX10_ask_47 (show bm1_3 = asR iyfn mkfn cnn what from (by unfold asR; rw [if_pos h6]; unfold asQ; rw [← hc23_0]; exact (if_neg h27).symm)) hz
    ·
      refine lv_aload_n hx hb dX10_ask_30 rfl (lv_at hl 0 rfl) ?_
      refine z_get (C := RX10) (T := TX10) (N := 10) (ref := "HornCity") hx hb hts hin_X10_ask_X10 hown hK hz 0 rfl rfl 7 (by decide) (hts _ fl_X10_ask_50) rfl rfl dX10_ask_31 ?_
      refine z_get (C := RX0) (T := TX0) (N := 3) (ref := "HornCity$Asking") hx hb hts hin_X10_ask_X0 hown hK hz 5 rfl rfl 1 (by decide) (hts _ fl_X10_ask_211) rfl rfl dX10_ask_34 ?_
      refine lv_goto (tgt := 47) hx hb dX10_ask_37 (by decide) ?_
      exact hret ((by1_2 : Int), (al1_1 : Int → Int), (by1_2 : Int), (bm1_3 : Int)) dX10_ask_47 (show by1_2 = asR iyfn mkfn cnn what from (by unfold asR; rw [if_pos h6]; unfold asQ; rw [← hc23_0]; exact (if_pos h27).symm)) hz
  ·
    refine z_bipush hx hb dX10_ask_9 (by decide) ?_
    exact hret (((-2) : Int), (alf : Int → Int), (by0 : Int), (bm0 : Int)) dX10_ask_11 (show (-2) = asR iyfn mkfn cnn what from (by unfold asR; rw [if_neg h6])) hz

set_option maxRecDepth 20000 in
theorem hin_X10_take_X10 : ∀ w ∈ u_ws RX10 TX10 10, w ∈ wsX10_take := by decide +kernel
set_option maxRecDepth 20000 in
theorem fl_X10_take_57 : Cond.fieldLink RX10 57 "HornCity" "taking" "LHornCity$Taking;" ∈ wsX10_take := by decide +kernel
set_option maxHeartbeats 4000000 in
set_option maxRecDepth 100000 in
theorem c_X10_take (l : Launch) (D : va_G) (cI cJ cZ : ClassId) (hc on of os kp pd ys tu as tk ck wn : Nat) (wnf : Int → Int) (n0 what : Int) (hr : (-2147483648 ≤ n0 ∧ n0 ≤ 2147483647) ∧ (-2147483648 ≤ what ∧ what ≤ 2147483647)) (hbw : zBd wnf 180 0 1) (hwz : wnf 0 = 0) : zMw l yX10_take wsX10_take (zRm 3) D cI cJ cZ [.ref hc, .int (zI n0), .int (zI what)] [(hc, .inr (8, [.ref on, .ref of, .ref os, .ref kp, .ref pd, .ref ys, .ref tu, .ref as, .ref tk, .ref ck])), (tk, .inr (4, [.ref wn])), (wn, .inl (cZ, 180, .inl (zA wnf)))] (S := Int × (Int → Int)) (fun u => u.1 = taR n0 what ∧ (zBd u.2 180 0 1 ∧ u.2 0 = 0)) (fun u => some (.int (zI u.1))) (fun u => [(hc, .inr (8, [.ref on, .ref of, .ref os, .ref kp, .ref pd, .ref ys, .ref tu, .ref as, .ref tk, .ref ck])), (tk, .inr (4, [.ref wn])), (wn, .inl (cZ, 180, .inl (zA u.2)))]) := by
  refine zMw_i (cc := cX10_take) (maxL := 4) (by decide +kernel) rfl (Nat.le_of_ble_eq_true rfl) rfl (fun _ => rfl) ?_
  intro p e s m args below meth c Q H0 ls F hK hz hl hret
  obtain ⟨hx, hb, hml, hown0, hts⟩ := id F
  have hown : s.vm.findClass RX10 = some m.cls := hown0
  obtain ⟨ws0, hw0⟩ : ∃ w : va_W, w = [(hc, .inr (8, [.ref on, .ref of, .ref os, .ref kp, .ref pd, .ref ys, .ref tu, .ref as, .ref tk, .ref ck])), (tk, .inr (4, [.ref wn])), (wn, .inl (cZ, 180, .inl (zA wnf)))] := ⟨_, rfl⟩
  rw [← hw0] at hret
  have hz : zH D (zF ws0) H0 [(hc, .inr (8, [.ref on, .ref of, .ref os, .ref kp, .ref pd, .ref ys, .ref tu, .ref as, .ref tk, .ref ck])), (tk, .inr (4, [.ref wn])), (wn, .inl (cZ, 180, .inl (zA wnf)))] H0 [] := by rw [hw0]; exact hz
  have hl : lv_has ls 4 [(0, .ref hc), (1, .int (zI n0)), (2, .int (zI what))] := hl
  refine lv_iload_n hx hb dX10_take_0 rfl (lv_at hl 1 rfl) ?_
  refine z_iconst hx hb dX10_take_1 ?_
  refine z_sipush hx hb dX10_take_2 (by decide) ?_
  refine z_callSp (As := [.int (zI n0), .int (zI 0), .int (zI 179)]) (rest := []) F hK hz hl (c_X10_isWithin l D cI cJ cZ n0 0 179 (by omega)) (va_cwS 3 hts gX10_take_X10_isWithin rfl rfl rfl (by decide +kernel) ⟨Nat.le_of_ble_eq_true rfl, Nat.le_of_ble_eq_true rfl⟩) [] rfl rfl rfl rfl (Nat.le_of_ble_eq_true rfl) ⟨Nat.le_of_ble_eq_true rfl, Nat.le_of_ble_eq_true rfl⟩ dX10_take_5 ?_
  refine z_ifb_eq (tgt := 20) hx hb dX10_take_8 (by decide) (fun h8 => ?_) (fun h8 => ?_)
  ·
    refine z_bipush hx hb dX10_take_20 (by decide) ?_
    exact hret (((-2) : Int), (wnf : Int → Int)) dX10_take_22 (show (-2) = taR n0 what ∧ (zBd wnf 180 0 1 ∧ wnf 0 = 0) from ⟨by unfold taR; rw [if_neg (by omega)], hbw, hwz⟩) hz
  ·
    refine lv_iload_n hx hb dX10_take_11 rfl (lv_at hl 2 rfl) ?_
    refine z_iconst hx hb dX10_take_12 ?_
    refine z_iconst hx hb dX10_take_13 ?_
    refine z_callSp (As := [.int (zI what), .int (zI 0), .int (zI 1)]) (rest := []) F hK hz hl (c_X10_isWithin l D cI cJ cZ what 0 1 (by omega)) (va_cwS 3 hts gX10_take_X10_isWithin rfl rfl rfl (by decide +kernel) ⟨Nat.le_of_ble_eq_true rfl, Nat.le_of_ble_eq_true rfl⟩) [] rfl rfl rfl rfl (Nat.le_of_ble_eq_true rfl) ⟨Nat.le_of_ble_eq_true rfl, Nat.le_of_ble_eq_true rfl⟩ dX10_take_14 ?_
    refine z_ifb_ne (tgt := 23) hx hb dX10_take_17 (by decide) (fun h17 => ?_) (fun h17 => ?_)
    ·
      refine lv_aload_n hx hb dX10_take_23 rfl (lv_at hl 0 rfl) ?_
      refine z_get (C := RX10) (T := TX10) (N := 10) (ref := "HornCity") hx hb hts hin_X10_take_X10 hown hK hz 0 rfl rfl 8 (by decide) (hts _ fl_X10_take_57) rfl rfl dX10_take_24 ?_
      refine lv_iload_n hx hb dX10_take_27 rfl (lv_at hl 1 rfl) ?_
      refine z_callVw (As := [.int (zI n0)]) (rest := []) (C := RX6) (T := TX6) (N := 1) F hK hz hl (c_X6_firstOf l D cI cJ cZ tk wn wnf n0 (hbw) (by assumption) (by omega)) (cwV 1 hts gX10_take_X6_firstOf rfl rfl rfl (by decide +kernel) ⟨Nat.le_of_ble_eq_true rfl, Nat.le_of_ble_eq_true rfl⟩) rfl 1 rfl [1, 2] rfl rfl (by decide +kernel) rfl rfl (Nat.le_of_ble_eq_true rfl) ⟨Nat.le_of_ble_eq_true rfl, Nat.le_of_ble_eq_true rfl⟩ dX10_take_28 (fun u H locs hu hz => ?_)
      obtain ⟨r_1, wn1_2⟩ := u
      have hu : r_1 = winS n0 ∧ (zBd wn1_2 180 0 1 ∧ wn1_2 0 = 0) := hu
      obtain ⟨g28_0, hc28_1⟩ := hu
      have g28_0 := g28_0.symm
      subst g28_0
      have hz : zH D (zF ws0) H0 [(hc, .inr (8, [.ref on, .ref of, .ref os, .ref kp, .ref pd, .ref ys, .ref tu, .ref as, .ref tk, .ref ck])), (tk, .inr (4, [.ref wn])), (wn, .inl (cZ, 180, .inl (zA wn1_2)))] H locs := hz
      have hwb := fstT_bd (tabT 180) n0 (by omega)
      have hwb2 : -6 ≤ winS n0 ∧ winS n0 ≤ 200 := hwb
      refine lv_istore_n (lv' := [(3, .int (zI (winS n0))), (0, .ref hc), (1, .int (zI n0)), (2, .int (zI what))]) hx hb dX10_take_31 rfl hl (Nat.le_of_ble_eq_true rfl) rfl (fun ls hl => ?_)
      refine lv_iload_n hx hb dX10_take_32 rfl (lv_at hl 3 rfl) ?_
      refine z_if_ne (tgt := 48) hx hb dX10_take_33 (by decide) (by omega) (fun h33 => ?_) (fun h33 => ?_)
      ·
        refine lv_iload_n hx hb dX10_take_48 rfl (lv_at hl 0 rfl) ?_
        exact hret (((winS n0) : Int), (wn1_2 : Int → Int)) dX10_take_49 (show (winS n0) = taR n0 what ∧ (zBd wn1_2 180 0 1 ∧ wn1_2 0 = 0) from ⟨by unfold taR; rw [if_pos (by omega)]; exact (if_neg h33).symm, hc28_1⟩) hz
      ·
        refine lv_iload_n hx hb dX10_take_36 rfl (lv_at hl 0 rfl) ?_
        refine z_bipush hx hb dX10_take_37 (by decide) ?_
        refine z_icmp_ne (tgt := 46) hx hb dX10_take_39 (by decide) (by omega) (by decide) (fun h39 => ?_) (fun h39 => ?_)
        ·
          refine z_iconst hx hb dX10_take_46 ?_
          exact hret ((1 : Int), (wn1_2 : Int → Int)) dX10_take_47 (show 1 = taR n0 what ∧ (zBd wn1_2 180 0 1 ∧ wn1_2 0 = 0) from ⟨by unfold taR; rw [if_pos (by omega)]; rw [if_pos h33]; exact (if_neg h39).symm, hc28_1⟩) hz
        ·
          refine z_iconst hx hb dX10_take_42 ?_
          refine lv_goto (tgt := 47) hx hb dX10_take_43 (by decide) ?_
          exact hret ((0 : Int), (wn1_2 : Int → Int)) dX10_take_47 (show 0 = taR n0 what ∧ (zBd wn1_2 180 0 1 ∧ wn1_2 0 = 0) from ⟨by unfold taR; rw [if_pos (by omega)]; rw [if_pos h33]; exact (if_pos h39).symm, hc28_1⟩) hz
    ·
      refine z_bipush hx hb dX10_take_20 (by decide) ?_
      exact hret (((-2) : Int), (wnf : Int → Int)) dX10_take_22 (show (-2) = taR n0 what ∧ (zBd wnf 180 0 1 ∧ wnf 0 = 0) from ⟨by unfold taR; rw [if_neg (by omega)], hbw, hwz⟩) hz

set_option maxRecDepth 20000 in
theorem hin_X10_cock_X10 : ∀ w ∈ u_ws RX10 TX10 10, w ∈ wsX10_cock := by decide +kernel
set_option maxRecDepth 20000 in
theorem fl_X10_cock_64 : Cond.fieldLink RX10 64 "HornCity" "weathercock" "LHornCity$Weathercock;" ∈ wsX10_cock := by decide +kernel
set_option maxHeartbeats 4000000 in
set_option maxRecDepth 100000 in
theorem c_X10_cock (l : Launch) (D : va_G) (cI cJ cZ : ClassId) (hc on of os kp pd ys tu as tk ck wy nx : Nat) (wyf nxf : Int → Int) (pts al m0 p0 a b n0 q0 part : Int) (hr : (-2147483648 ≤ m0 ∧ m0 ≤ 2147483647) ∧ (-2147483648 ≤ p0 ∧ p0 ≤ 2147483647) ∧ (-2147483648 ≤ a ∧ a ≤ 2147483647) ∧ (-2147483648 ≤ b ∧ b ≤ 2147483647) ∧ (-2147483648 ≤ n0 ∧ n0 ≤ 2147483647) ∧ (-2147483648 ≤ q0 ∧ q0 ≤ 2147483647) ∧ (-2147483648 ≤ part ∧ part ≤ 2147483647)) : zMw l yX10_cock wsX10_cock (zRm 3) D cI cJ cZ [.ref hc, .int (zI m0), .int (zI p0), .int (zI a), .int (zI b), .int (zI n0), .int (zI q0), .int (zI part)] [(hc, .inr (8, [.ref on, .ref of, .ref os, .ref kp, .ref pd, .ref ys, .ref tu, .ref as, .ref tk, .ref ck])), (ck, .inr (6, [.ref wy, .ref nx, .int (zI pts), .long (zL al)])), (wy, .inl (cJ, 12, .inr (.inl (zAL wyf)))), (nx, .inl (cJ, 12, .inr (.inl (zAL nxf))))] (S := Int × (Int → Int) × (Int → Int) × Int × Int) (fun u => u.1 = coR m0 p0 a b n0 q0 part) (fun u => some (.long (zL u.1))) (fun u => [(hc, .inr (8, [.ref on, .ref of, .ref os, .ref kp, .ref pd, .ref ys, .ref tu, .ref as, .ref tk, .ref ck])), (ck, .inr (6, [.ref wy, .ref nx, .int (zI u.2.2.2.1), .long (zL u.2.2.2.2)])), (wy, .inl (cJ, 12, .inr (.inl (zAL u.2.1)))), (nx, .inl (cJ, 12, .inr (.inl (zAL u.2.2.1))))]) := by
  refine zMw_l (cc := cX10_cock) (maxL := 9) (by decide +kernel) rfl (Nat.le_of_ble_eq_true rfl) rfl (fun _ => rfl) ?_
  intro p e s m args below meth c Q H0 ls F hK hz hl hret
  obtain ⟨hx, hb, hml, hown0, hts⟩ := id F
  have hown : s.vm.findClass RX10 = some m.cls := hown0
  obtain ⟨ws0, hw0⟩ : ∃ w : va_W, w = [(hc, .inr (8, [.ref on, .ref of, .ref os, .ref kp, .ref pd, .ref ys, .ref tu, .ref as, .ref tk, .ref ck])), (ck, .inr (6, [.ref wy, .ref nx, .int (zI pts), .long (zL al)])), (wy, .inl (cJ, 12, .inr (.inl (zAL wyf)))), (nx, .inl (cJ, 12, .inr (.inl (zAL nxf))))] := ⟨_, rfl⟩
  rw [← hw0] at hret
  have hz : zH D (zF ws0) H0 [(hc, .inr (8, [.ref on, .ref of, .ref os, .ref kp, .ref pd, .ref ys, .ref tu, .ref as, .ref tk, .ref ck])), (ck, .inr (6, [.ref wy, .ref nx, .int (zI pts), .long (zL al)])), (wy, .inl (cJ, 12, .inr (.inl (zAL wyf)))), (nx, .inl (cJ, 12, .inr (.inl (zAL nxf))))] H0 [] := by rw [hw0]; exact hz
  have hl : lv_has ls 9 [(0, .ref hc), (1, .int (zI m0)), (2, .int (zI p0)), (3, .int (zI a)), (4, .int (zI b)), (5, .int (zI n0)), (6, .int (zI q0)), (7, .int (zI part))] := hl
  refine lv_iload_n hx hb dX10_cock_0 rfl (lv_at hl 1 rfl) ?_
  refine z_iconst hx hb dX10_cock_1 ?_
  refine z_bipush hx hb dX10_cock_2 (by decide) ?_
  refine z_callSp (As := [.int (zI m0), .int (zI 2), .int (zI 12)]) (rest := []) F hK hz hl (c_X10_isWithin l D cI cJ cZ m0 2 12 (by omega)) (va_cwS 3 hts gX10_cock_X10_isWithin rfl rfl rfl (by decide +kernel) ⟨Nat.le_of_ble_eq_true rfl, Nat.le_of_ble_eq_true rfl⟩) [] rfl rfl rfl rfl (Nat.le_of_ble_eq_true rfl) ⟨Nat.le_of_ble_eq_true rfl, Nat.le_of_ble_eq_true rfl⟩ dX10_cock_4 ?_
  refine z_ifb_eq (tgt := 77) hx hb dX10_cock_7 (by decide) (fun h7 => ?_) (fun h7 => ?_)
  ·
    refine z_ldc2 (n := (-1000000000000000002)) hx hb hown (hts (.constantLong RX10 220 (-1000000000000000002)) (by decide +kernel)) (by decide +kernel) dX10_cock_77 ?_
    exact hret (((-1000000000000000002) : Int), (wyf : Int → Int), (nxf : Int → Int), (pts : Int), (al : Int)) dX10_cock_80 (show (-1000000000000000002) = coR m0 p0 a b n0 q0 part from (by unfold coR; rw [if_neg (by omega)])) hz
  ·
    refine lv_iload_n hx hb dX10_cock_10 rfl (lv_at hl 2 rfl) ?_
    refine z_iconst hx hb dX10_cock_11 ?_
    refine lv_iload_n hx hb dX10_cock_12 rfl (lv_at hl 1 rfl) ?_
    refine z_iconst hx hb dX10_cock_13 ?_
    refine z_isub hx hb dX10_cock_14 ?_
    refine z_callSp (As := [.int (zI p0), .int (zI 0), .int (zI (m0 - 1))]) (rest := []) F hK hz hl (c_X10_isWithin l D cI cJ cZ p0 0 (m0 - 1) (by omega)) (va_cwS 3 hts gX10_cock_X10_isWithin rfl rfl rfl (by decide +kernel) ⟨Nat.le_of_ble_eq_true rfl, Nat.le_of_ble_eq_true rfl⟩) [] rfl rfl rfl rfl (Nat.le_of_ble_eq_true rfl) ⟨Nat.le_of_ble_eq_true rfl, Nat.le_of_ble_eq_true rfl⟩ dX10_cock_15 ?_
    refine z_ifb_eq (tgt := 77) hx hb dX10_cock_18 (by decide) (fun h18 => ?_) (fun h18 => ?_)
    ·
      refine z_ldc2 (n := (-1000000000000000002)) hx hb hown (hts (.constantLong RX10 220 (-1000000000000000002)) (by decide +kernel)) (by decide +kernel) dX10_cock_77 ?_
      exact hret (((-1000000000000000002) : Int), (wyf : Int → Int), (nxf : Int → Int), (pts : Int), (al : Int)) dX10_cock_80 (show (-1000000000000000002) = coR m0 p0 a b n0 q0 part from (by unfold coR; rw [if_neg (by omega)])) hz
    ·
      refine lv_iload hx hb dX10_cock_21 (lv_at hl 6 rfl) ?_
      refine z_iconst hx hb dX10_cock_23 ?_
      refine lv_iload_n hx hb dX10_cock_24 rfl (lv_at hl 1 rfl) ?_
      refine z_iconst hx hb dX10_cock_25 ?_
      refine z_isub hx hb dX10_cock_26 ?_
      refine z_callSp (As := [.int (zI q0), .int (zI 0), .int (zI (m0 - 1))]) (rest := []) F hK hz hl (c_X10_isWithin l D cI cJ cZ q0 0 (m0 - 1) (by omega)) (va_cwS 3 hts gX10_cock_X10_isWithin rfl rfl rfl (by decide +kernel) ⟨Nat.le_of_ble_eq_true rfl, Nat.le_of_ble_eq_true rfl⟩) [] rfl rfl rfl rfl (Nat.le_of_ble_eq_true rfl) ⟨Nat.le_of_ble_eq_true rfl, Nat.le_of_ble_eq_true rfl⟩ dX10_cock_27 ?_
      refine z_ifb_eq (tgt := 77) hx hb dX10_cock_30 (by decide) (fun h30 => ?_) (fun h30 => ?_)
      ·
        refine z_ldc2 (n := (-1000000000000000002)) hx hb hown (hts (.constantLong RX10 220 (-1000000000000000002)) (by decide +kernel)) (by decide +kernel) dX10_cock_77 ?_
        exact hret (((-1000000000000000002) : Int), (wyf : Int → Int), (nxf : Int → Int), (pts : Int), (al : Int)) dX10_cock_80 (show (-1000000000000000002) = coR m0 p0 a b n0 q0 part from (by unfold coR; rw [if_neg (by omega)])) hz
      ·
        refine lv_iload_n hx hb dX10_cock_33 rfl (lv_at hl 3 rfl) ?_
        refine z_iconst hx hb dX10_cock_34 ?_
        refine z_bipush hx hb dX10_cock_35 (by decide) ?_
        refine z_callSp (As := [.int (zI a), .int (zI 0), .int (zI 10)]) (rest := []) F hK hz hl (c_X10_isWithin l D cI cJ cZ a 0 10 (by omega)) (va_cwS 3 hts gX10_cock_X10_isWithin rfl rfl rfl (by decide +kernel) ⟨Nat.le_of_ble_eq_true rfl, Nat.le_of_ble_eq_true rfl⟩) [] rfl rfl rfl rfl (Nat.le_of_ble_eq_true rfl) ⟨Nat.le_of_ble_eq_true rfl, Nat.le_of_ble_eq_true rfl⟩ dX10_cock_37 ?_
        refine z_ifb_eq (tgt := 77) hx hb dX10_cock_40 (by decide) (fun h40 => ?_) (fun h40 => ?_)
        ·
          refine z_ldc2 (n := (-1000000000000000002)) hx hb hown (hts (.constantLong RX10 220 (-1000000000000000002)) (by decide +kernel)) (by decide +kernel) dX10_cock_77 ?_
          exact hret (((-1000000000000000002) : Int), (wyf : Int → Int), (nxf : Int → Int), (pts : Int), (al : Int)) dX10_cock_80 (show (-1000000000000000002) = coR m0 p0 a b n0 q0 part from (by unfold coR; rw [if_neg (by omega)])) hz
        ·
          refine lv_iload hx hb dX10_cock_43 (lv_at hl 4 rfl) ?_
          refine z_iconst hx hb dX10_cock_45 ?_
          refine z_bipush hx hb dX10_cock_46 (by decide) ?_
          refine lv_iload_n hx hb dX10_cock_48 rfl (lv_at hl 3 rfl) ?_
          refine z_isub hx hb dX10_cock_49 ?_
          refine z_callSp (As := [.int (zI b), .int (zI 0), .int (zI (10 - a))]) (rest := []) F hK hz hl (c_X10_isWithin l D cI cJ cZ b 0 (10 - a) (by omega)) (va_cwS 3 hts gX10_cock_X10_isWithin rfl rfl rfl (by decide +kernel) ⟨Nat.le_of_ble_eq_true rfl, Nat.le_of_ble_eq_true rfl⟩) [] rfl rfl rfl rfl (Nat.le_of_ble_eq_true rfl) ⟨Nat.le_of_ble_eq_true rfl, Nat.le_of_ble_eq_true rfl⟩ dX10_cock_50 ?_
          refine z_ifb_eq (tgt := 77) hx hb dX10_cock_53 (by decide) (fun h53 => ?_) (fun h53 => ?_)
          ·
            refine z_ldc2 (n := (-1000000000000000002)) hx hb hown (hts (.constantLong RX10 220 (-1000000000000000002)) (by decide +kernel)) (by decide +kernel) dX10_cock_77 ?_
            exact hret (((-1000000000000000002) : Int), (wyf : Int → Int), (nxf : Int → Int), (pts : Int), (al : Int)) dX10_cock_80 (show (-1000000000000000002) = coR m0 p0 a b n0 q0 part from (by unfold coR; rw [if_neg (by omega)])) hz
          ·
            refine lv_iload hx hb dX10_cock_56 (lv_at hl 5 rfl) ?_
            refine z_iconst hx hb dX10_cock_58 ?_
            refine z_bipush hx hb dX10_cock_59 (by decide) ?_
            refine z_callSp (As := [.int (zI n0), .int (zI 0), .int (zI 16)]) (rest := []) F hK hz hl (c_X10_isWithin l D cI cJ cZ n0 0 16 (by omega)) (va_cwS 3 hts gX10_cock_X10_isWithin rfl rfl rfl (by decide +kernel) ⟨Nat.le_of_ble_eq_true rfl, Nat.le_of_ble_eq_true rfl⟩) [] rfl rfl rfl rfl (Nat.le_of_ble_eq_true rfl) ⟨Nat.le_of_ble_eq_true rfl, Nat.le_of_ble_eq_true rfl⟩ dX10_cock_61 ?_
            refine z_ifb_eq (tgt := 77) hx hb dX10_cock_64 (by decide) (fun h64 => ?_) (fun h64 => ?_)
            ·
              refine z_ldc2 (n := (-1000000000000000002)) hx hb hown (hts (.constantLong RX10 220 (-1000000000000000002)) (by decide +kernel)) (by decide +kernel) dX10_cock_77 ?_
              exact hret (((-1000000000000000002) : Int), (wyf : Int → Int), (nxf : Int → Int), (pts : Int), (al : Int)) dX10_cock_80 (show (-1000000000000000002) = coR m0 p0 a b n0 q0 part from (by unfold coR; rw [if_neg (by omega)])) hz
            ·
              refine lv_iload hx hb dX10_cock_67 (lv_at hl 7 rfl) ?_
              refine z_iconst hx hb dX10_cock_69 ?_
              refine z_iconst hx hb dX10_cock_70 ?_
              refine z_callSp (As := [.int (zI part), .int (zI 0), .int (zI 1)]) (rest := []) F hK hz hl (c_X10_isWithin l D cI cJ cZ part 0 1 (by omega)) (va_cwS 3 hts gX10_cock_X10_isWithin rfl rfl rfl (by decide +kernel) ⟨Nat.le_of_ble_eq_true rfl, Nat.le_of_ble_eq_true rfl⟩) [] rfl rfl rfl rfl (Nat.le_of_ble_eq_true rfl) ⟨Nat.le_of_ble_eq_true rfl, Nat.le_of_ble_eq_true rfl⟩ dX10_cock_71 ?_
              refine z_ifb_ne (tgt := 81) hx hb dX10_cock_74 (by decide) (fun h74 => ?_) (fun h74 => ?_)
              ·
                refine lv_aload_n hx hb dX10_cock_81 rfl (lv_at hl 0 rfl) ?_
                refine z_get (C := RX10) (T := TX10) (N := 10) (ref := "HornCity") hx hb hts hin_X10_cock_X10 hown hK hz 0 rfl rfl 9 (by decide) (hts _ fl_X10_cock_64) rfl rfl dX10_cock_82 ?_
                refine lv_iload_n hx hb dX10_cock_85 rfl (lv_at hl 1 rfl) ?_
                refine lv_iload_n hx hb dX10_cock_86 rfl (lv_at hl 2 rfl) ?_
                refine z_callVwv (As := [.int (zI m0), .int (zI p0)]) (rest := []) (C := RX8) (T := TX8) (N := 4) F hK hz hl (c_X8_start l D cI cJ cZ ck wy nx wyf pts al m0 p0 a b (by omega)) (cwV 2 hts gX10_cock_X8_start rfl rfl rfl (by decide +kernel) ⟨Nat.le_of_ble_eq_true rfl, Nat.le_of_ble_eq_true rfl⟩) rfl 1 rfl [1, 2] rfl rfl (by decide +kernel) rfl rfl (Nat.le_of_ble_eq_true rfl) ⟨Nat.le_of_ble_eq_true rfl, Nat.le_of_ble_eq_true rfl⟩ dX10_cock_87 (fun u H locs hu hz => ?_)
                obtain ⟨w1_1, p1_2, a1_3⟩ := u
                have hu : p1_2 = m0 ∧ a1_3 = 1 ∧ (∀ v, 0 ≤ v → v < m0 → w1_1 v = wysS m0 p0 a b 0 v) := hu
                obtain ⟨g87_0, g87_1, hc87_2⟩ := hu
                have g87_0 := g87_0.symm
                subst g87_0
                have g87_1 := g87_1.symm
                subst g87_1
                have hz : zH D (zF ws0) H0 [(hc, .inr (8, [.ref on, .ref of, .ref os, .ref kp, .ref pd, .ref ys, .ref tu, .ref as, .ref tk, .ref ck])), (ck, .inr (6, [.ref wy, .ref nx, .int (zI m0), .long (zL 1)])), (wy, .inl (cJ, 12, .inr (.inl (zAL w1_1)))), (nx, .inl (cJ, 12, .inr (.inl (zAL nxf))))] H locs := hz
                refine z_iconst hx hb dX10_cock_90 ?_
                refine lv_istore (lv' := [(8, .int (zI 0)), (0, .ref hc), (1, .int (zI m0)), (2, .int (zI p0)), (3, .int (zI a)), (4, .int (zI b)), (5, .int (zI n0)), (6, .int (zI q0)), (7, .int (zI part))]) hx hb dX10_cock_91 hl (Nat.le_of_ble_eq_true rfl) rfl (fun ls hl => ?_)
                have L93 : ∀ (n : Nat) (ho ax : Int) (wx nxx : Int → Int) (H : Heap) (locs : List Loc) (ls : Array Slot), ((n0 - ho).toNat = n) → (0 ≤ ho ∧ ho ≤ n0) → (ax = 10 ^ ho.toNat) → (∀ v, 0 ≤ v → v < m0 → wx v = wysS m0 p0 a b ho.toNat v) → zH D (zF ws0) H0 [(hc, .inr (8, [.ref on, .ref of, .ref os, .ref kp, .ref pd, .ref ys, .ref tu, .ref as, .ref tk, .ref ck])), (ck, .inr (6, [.ref wy, .ref nx, .int (zI m0), .long (zL ax)])), (wy, .inl (cJ, 12, .inr (.inl (zAL wx)))), (nx, .inl (cJ, 12, .inr (.inl (zAL nxx))))] H locs → lv_has ls 9 [(8, .int (zI ho)), (0, .ref hc), (1, .int (zI m0)), (2, .int (zI p0)), (3, .int (zI a)), (4, .int (zI b)), (5, .int (zI n0)), (6, .int (zI q0)), (7, .int (zI part))] → W p l e (zRm 3) s m args below meth c H locs 0 0 Q (F0 m 93 ls []) := by
                  intro n
                  refine Nat.strongRecOn n ?_
                  intro n ih93 ho ax wx nxx H locs ls hn93 h0 hax hwx hz hl
                  refine lv_iload hx hb dX10_cock_93 (lv_at hl 0 rfl) ?_
                  refine lv_iload hx hb dX10_cock_95 (lv_at hl 6 rfl) ?_
                  refine z_icmp_ge (tgt := 116) hx hb dX10_cock_97 (by decide) (by omega) (by omega) (fun h97 => ?_) (fun h97 => ?_)
                  ·
                    have hho : n0 = ho := by omega
                    subst hho
                    have h16 := pow16 n0 (by omega)
                    have hwb : ∀ v, 0 ≤ v → v < m0 → 0 ≤ wx v ∧ wx v ≤ 1000000000000000000 := fun v h1 h2 => by (rw [hwx v h1 h2]; have := wysS_bd (m := m0) (p := p0) (a := a) (b := b) (by omega) (by omega) (by omega) n0.toNat v; omega)
                    have hab1 : 1 ≤ ax ∧ ax ≤ 1000000000000000000 := by omega
                    refine lv_iload hx hb dX10_cock_116 (lv_at hl 8 rfl) ?_
                    refine z_if_ne (tgt := 133) hx hb dX10_cock_118 (by decide) (by omega) (fun h118 => ?_) (fun h118 => ?_)
                    ·
                      refine lv_aload_n hx hb dX10_cock_133 rfl (lv_at hl 1 rfl) ?_
                      refine z_get (C := RX10) (T := TX10) (N := 10) (ref := "HornCity") hx hb hts hin_X10_cock_X10 hown hK hz 0 rfl rfl 9 (by decide) (hts _ fl_X10_cock_64) rfl rfl dX10_cock_134 ?_
                      refine lv_iload hx hb dX10_cock_137 (lv_at hl 7 rfl) ?_
                      refine z_callVpl (As := [.int (zI q0)]) (rest := []) (C := RX8) (T := TX8) (N := 4) F hK hz hl (c_X8_lowerAt l D cI cJ cZ ck wy nx wx m0 ax q0 (by first | assumption | omega) (by omega) (by assumption) (by omega)) (cwV 1 hts gX10_cock_X8_lowerAt rfl rfl rfl (by decide +kernel) ⟨Nat.le_of_ble_eq_true rfl, Nat.le_of_ble_eq_true rfl⟩) rfl 1 rfl [1, 2] rfl rfl rfl rfl (Nat.le_of_ble_eq_true rfl) ⟨Nat.le_of_ble_eq_true rfl, Nat.le_of_ble_eq_true rfl⟩ dX10_cock_139 ?_
                      exact hret (((ax / gcdZ ax (wx q0)) : Int), (wx : Int → Int), (nxx : Int → Int), (m0 : Int), (ax : Int)) dX10_cock_142 (show (ax / gcdZ ax (wx q0)) = coR m0 p0 a b n0 q0 part from (by unfold coR; rw [if_pos (by omega)]; unfold cocS; rw [← hwx q0 (by omega) (by omega), ← hax]; exact (if_neg h118).symm)) hz
                    ·
                      refine lv_aload_n hx hb dX10_cock_121 rfl (lv_at hl 1 rfl) ?_
                      refine z_get (C := RX10) (T := TX10) (N := 10) (ref := "HornCity") hx hb hts hin_X10_cock_X10 hown hK hz 0 rfl rfl 9 (by decide) (hts _ fl_X10_cock_64) rfl rfl dX10_cock_122 ?_
                      refine lv_iload hx hb dX10_cock_125 (lv_at hl 7 rfl) ?_
                      refine z_callVpl (As := [.int (zI q0)]) (rest := []) (C := RX8) (T := TX8) (N := 4) F hK hz hl (c_X8_upperAt l D cI cJ cZ ck wy nx wx m0 ax q0 (by first | assumption | omega) (by omega) (by assumption) (by omega)) (cwV 1 hts gX10_cock_X8_upperAt rfl rfl rfl (by decide +kernel) ⟨Nat.le_of_ble_eq_true rfl, Nat.le_of_ble_eq_true rfl⟩) rfl 1 rfl [1, 2] rfl rfl rfl rfl (Nat.le_of_ble_eq_true rfl) ⟨Nat.le_of_ble_eq_true rfl, Nat.le_of_ble_eq_true rfl⟩ dX10_cock_127 ?_
                      refine lv_goto (tgt := 142) hx hb dX10_cock_130 (by decide) ?_
                      exact hret (((wx q0 / gcdZ ax (wx q0)) : Int), (wx : Int → Int), (nxx : Int → Int), (m0 : Int), (ax : Int)) dX10_cock_142 (show (wx q0 / gcdZ ax (wx q0)) = coR m0 p0 a b n0 q0 part from (by unfold coR; rw [if_pos (by omega)]; unfold cocS; rw [← hwx q0 (by omega) (by omega), ← hax]; exact (if_pos h118).symm)) hz
                  ·
                    refine lv_aload_n hx hb dX10_cock_100 rfl (lv_at hl 1 rfl) ?_
                    refine z_get (C := RX10) (T := TX10) (N := 10) (ref := "HornCity") hx hb hts hin_X10_cock_X10 hown hK hz 0 rfl rfl 9 (by decide) (hts _ fl_X10_cock_64) rfl rfl dX10_cock_101 ?_
                    refine lv_iload_n hx hb dX10_cock_104 rfl (lv_at hl 4 rfl) ?_
                    refine lv_iload hx hb dX10_cock_105 (lv_at hl 5 rfl) ?_
                    refine z_callVwv (As := [.int (zI a), .int (zI b)]) (rest := []) (C := RX8) (T := TX8) (N := 4) F hK hz hl (c_X8_turn l D cI cJ cZ ck wy nx wx nxx m0 ax a b (by first | assumption | omega) (by omega)) (cwV 2 hts gX10_cock_X8_turn rfl rfl rfl (by decide +kernel) ⟨Nat.le_of_ble_eq_true rfl, Nat.le_of_ble_eq_true rfl⟩) rfl 1 rfl [1, 2, 3] rfl rfl (by decide +kernel) rfl rfl (Nat.le_of_ble_eq_true rfl) ⟨Nat.le_of_ble_eq_true rfl, Nat.le_of_ble_eq_true rfl⟩ dX10_cock_107 (fun u H locs hu hz => ?_)
                    obtain ⟨w1_4, n1_5, a1_6⟩ := u
                    have hu : a1_6 = ax * 10 ∧ (∀ v, 0 ≤ v → v < m0 → w1_4 v = nxtS m0 a b wx v) := hu
                    obtain ⟨g107_0, hc107_1⟩ := hu
                    have g107_0 := g107_0.symm
                    subst g107_0
                    have hz : zH D (zF ws0) H0 [(hc, .inr (8, [.ref on, .ref of, .ref os, .ref kp, .ref pd, .ref ys, .ref tu, .ref as, .ref tk, .ref ck])), (ck, .inr (6, [.ref wy, .ref nx, .int (zI m0), .long (zL (ax * 10))])), (wy, .inl (cJ, 12, .inr (.inl (zAL w1_4)))), (nx, .inl (cJ, 12, .inr (.inl (zAL n1_5))))] H locs := hz
                    refine z_iinc (lv' := [(8, .int (zI (ho + 1))), (0, .ref hc), (1, .int (zI m0)), (2, .int (zI p0)), (3, .int (zI a)), (4, .int (zI b)), (5, .int (zI n0)), (6, .int (zI q0)), (7, .int (zI part))]) hx hb dX10_cock_110 hl (k := 0) rfl (Nat.le_of_ble_eq_true rfl) rfl (fun ls hl => ?_)
                    refine lv_goto (tgt := 93) hx hb dX10_cock_113 (by decide) ?_
                    exact ih93 _ (by omega) (ho + 1) (ax * 10) w1_4 n1_5 H locs ls rfl (by omega) (by rw [show (ho + 1).toNat = ho.toNat + 1 by omega, Int.pow_succ, ← hax]) (fun v h1 h2 => by rw [show (ho + 1).toNat = ho.toNat + 1 by omega]; rw [hc107_1 v h1 h2]; exact nxtS_cg (by omega) hwx ⟨h1, h2⟩) hz (lv_sub hl [0, 1, 2, 3, 4, 5, 6, 7, 8] rfl)
                exact L93 _ 0 1 w1_1 nxf H locs ls rfl (by omega) (rfl) (hc87_2) hz (lv_sub hl [0, 1, 2, 3, 4, 5, 6, 7, 8] rfl)
              ·
                refine z_ldc2 (n := (-1000000000000000002)) hx hb hown (hts (.constantLong RX10 220 (-1000000000000000002)) (by decide +kernel)) (by decide +kernel) dX10_cock_77 ?_
                exact hret (((-1000000000000000002) : Int), (wyf : Int → Int), (nxf : Int → Int), (pts : Int), (al : Int)) dX10_cock_80 (show (-1000000000000000002) = coR m0 p0 a b n0 q0 part from (by unfold coR; rw [if_neg (by omega)])) hz
