theorem fir_eq {g f : Int → Int} {r v : Int} (hf : ∀ v, 0 ≤ v → v < 180 → f v = disS g r v) (hv : 0 ≤ v ∧ v < 180) : (if f v = -6 ∨ f v = 0 then -6 else lstS (fun t => decide (f (nbS g v t) = f v - 1)) 6 0) = firS g r v := by
  unfold firS
  rw [hf v hv.1 hv.2]
  have e : (fun t => decide (f (nbS g v t) = disS g r v - 1)) = (fun t => decide (disS g r (nbS g v t) = disS g r v - 1)) := by
    funext t
    rw [hf _ (nbS_bd g v t).1 (nbS_bd g v t).2]
  rw [e]

set_option maxRecDepth 20000 in
theorem hin_X10_apart_X10 : ∀ w ∈ u_ws RX10 TX10 10, w ∈ wsX10_apart := by decide +kernel
set_option maxRecDepth 20000 in
theorem fl_X10_apart_10 : Cond.fieldLink RX10 10 "HornCity" "now" "LHornCity$City;" ∈ wsX10_apart := by decide +kernel
set_option maxHeartbeats 4000000 in
set_option maxRecDepth 100000 in
theorem c_X10_apart (l : Launch) (D : va_G) (cI cJ cZ : ClassId) (hc on of os kp pd ys tu as tk ck ain adn amn ahn chn : Nat) (incn : Int → Int) (Tn tmn yrn a b : Int) (hr : (-2147483648 ≤ a ∧ a ≤ 2147483647) ∧ (-2147483648 ≤ b ∧ b ≤ 2147483647)) (hTn : 0 ≤ Tn ∧ Tn < 512) (hbin : zBd incn 9 0 179) : zMp l yX10_apart wsX10_apart (zRm 3) D cI cJ cZ [.ref hc, .int (zI a), .int (zI b)] [(hc, .inr (8, [.ref on, .ref of, .ref os, .ref kp, .ref pd, .ref ys, .ref tu, .ref as, .ref tk, .ref ck])), (on, .inr (2, [.ref ain, .ref adn, .ref amn, .ref ahn, .ref chn, .int (zI Tn), .int (zI tmn), .int (zI yrn)])), (ain, .inl (cI, 9, .inl (zA incn)))] (some (.int (zI (apR Tn incn a b)))) := by
  refine zMp_i (cc := cX10_apart) (maxL := 3) (by decide +kernel) rfl (Nat.le_of_ble_eq_true rfl) rfl ?_
  intro p e s m args below meth c Q H ls F hK hz hl hret
  obtain ⟨hx, hb, hml, hown0, hts⟩ := id F
  have hown : s.vm.findClass RX10 = some m.cls := hown0
  obtain ⟨ws0, hw0⟩ : ∃ w : va_W, w = [(hc, .inr (8, [.ref on, .ref of, .ref os, .ref kp, .ref pd, .ref ys, .ref tu, .ref as, .ref tk, .ref ck])), (on, .inr (2, [.ref ain, .ref adn, .ref amn, .ref ahn, .ref chn, .int (zI Tn), .int (zI tmn), .int (zI yrn)])), (ain, .inl (cI, 9, .inl (zA incn)))] := ⟨_, rfl⟩
  have hz : zH D (zF ws0) H [(hc, .inr (8, [.ref on, .ref of, .ref os, .ref kp, .ref pd, .ref ys, .ref tu, .ref as, .ref tk, .ref ck])), (on, .inr (2, [.ref ain, .ref adn, .ref amn, .ref ahn, .ref chn, .int (zI Tn), .int (zI tmn), .int (zI yrn)])), (ain, .inl (cI, 9, .inl (zA incn)))] H [] := by rw [hw0]; exact hz
  have hl : lv_has ls 3 [(0, .ref hc), (1, .int (zI a)), (2, .int (zI b))] := hl
  refine lv_aload_n hx hb dX10_apart_0 rfl (lv_at hl 0 rfl) ?_
  refine z_get (C := RX10) (T := TX10) (N := 10) (ref := "HornCity") hx hb hts hin_X10_apart_X10 hown hK hz 0 rfl rfl 0 (by decide) (hts _ fl_X10_apart_10) rfl rfl dX10_apart_1 ?_
  refine lv_iload_n hx hb dX10_apart_4 rfl (lv_at hl 1 rfl) ?_
  refine z_callVp (As := [.int (zI a)]) (rest := []) (C := RX2) (T := TX2) (N := 8) F hK hz hl (c_X2_isThere l D cI cJ cZ on ain adn amn ahn chn Tn tmn yrn a (by omega) (by first | assumption | omega)) (cwV 1 hts gX10_apart_X2_isThere rfl rfl rfl (by decide +kernel) ⟨Nat.le_of_ble_eq_true rfl, Nat.le_of_ble_eq_true rfl⟩) rfl 1 rfl [1] rfl rfl rfl rfl (Nat.le_of_ble_eq_true rfl) ⟨Nat.le_of_ble_eq_true rfl, Nat.le_of_ble_eq_true rfl⟩ dX10_apart_5 ?_
  refine z_ifb_eq (tgt := 22) hx hb dX10_apart_8 (by decide) (fun h8 => ?_) (fun h8 => ?_)
  ·
    refine z_iconst hx hb dX10_apart_22 ?_
    exact hret dX10_apart_23 (congrArg (fun z => some (Value.int (zI z))) (show ((-1) : Int) = (apR Tn incn a b) by simp [apR, h8]))
  ·
    refine lv_aload_n hx hb dX10_apart_11 rfl (lv_at hl 0 rfl) ?_
    refine z_get (C := RX10) (T := TX10) (N := 10) (ref := "HornCity") hx hb hts hin_X10_apart_X10 hown hK hz 0 rfl rfl 0 (by decide) (hts _ fl_X10_apart_10) rfl rfl dX10_apart_12 ?_
    refine lv_iload_n hx hb dX10_apart_15 rfl (lv_at hl 2 rfl) ?_
    refine z_callVp (As := [.int (zI b)]) (rest := []) (C := RX2) (T := TX2) (N := 8) F hK hz hl (c_X2_isThere l D cI cJ cZ on ain adn amn ahn chn Tn tmn yrn b (by omega) (by first | assumption | omega)) (cwV 1 hts gX10_apart_X2_isThere rfl rfl rfl (by decide +kernel) ⟨Nat.le_of_ble_eq_true rfl, Nat.le_of_ble_eq_true rfl⟩) rfl 1 rfl [1] rfl rfl rfl rfl (Nat.le_of_ble_eq_true rfl) ⟨Nat.le_of_ble_eq_true rfl, Nat.le_of_ble_eq_true rfl⟩ dX10_apart_16 ?_
    refine z_ifb_ne (tgt := 24) hx hb dX10_apart_19 (by decide) (fun h19 => ?_) (fun h19 => ?_)
    ·
      refine lv_aload_n hx hb dX10_apart_24 rfl (lv_at hl 0 rfl) ?_
      refine z_get (C := RX10) (T := TX10) (N := 10) (ref := "HornCity") hx hb hts hin_X10_apart_X10 hown hK hz 0 rfl rfl 0 (by decide) (hts _ fl_X10_apart_10) rfl rfl dX10_apart_25 ?_
      refine lv_iload_n hx hb dX10_apart_28 rfl (lv_at hl 1 rfl) ?_
      refine lv_iload_n hx hb dX10_apart_29 rfl (lv_at hl 2 rfl) ?_
      refine z_callVp (As := [.int (zI a), .int (zI b)]) (rest := []) (C := RX2) (T := TX2) (N := 8) F hK hz hl (c_X2_between l D cI cJ cZ on ain adn amn ahn chn incn Tn tmn yrn a b (by omega) (by first | assumption | omega) (hbin)) (cwV 2 hts gX10_apart_X2_between rfl rfl rfl (by decide +kernel) ⟨Nat.le_of_ble_eq_true rfl, Nat.le_of_ble_eq_true rfl⟩) rfl 1 rfl [1, 2] rfl rfl rfl rfl (Nat.le_of_ble_eq_true rfl) ⟨Nat.le_of_ble_eq_true rfl, Nat.le_of_ble_eq_true rfl⟩ dX10_apart_30 ?_
      exact hret dX10_apart_33 (congrArg (fun z => some (Value.int (zI z))) (show ((apS (inO Tn incn a) (inO Tn incn b)) : Int) = (apR Tn incn a b) by simp [apR, h8, h19]))
    ·
      refine z_iconst hx hb dX10_apart_22 ?_
      exact hret dX10_apart_23 (congrArg (fun z => some (Value.int (zI z))) (show ((-1) : Int) = (apR Tn incn a b) by simp [apR, h8, h19]))

set_option maxRecDepth 20000 in
theorem hin_X10_triangles_X10 : ∀ w ∈ u_ws RX10 TX10 10, w ∈ wsX10_triangles := by decide +kernel
set_option maxRecDepth 20000 in
theorem fl_X10_triangles_10 : Cond.fieldLink RX10 10 "HornCity" "now" "LHornCity$City;" ∈ wsX10_triangles := by decide +kernel
set_option maxHeartbeats 4000000 in
set_option maxRecDepth 100000 in
theorem c_X10_triangles (l : Launch) (D : va_G) (cI cJ cZ : ClassId) (hc on of os kp pd ys tu as tk ck ain adn amn ahn chn : Nat) (incn : Int → Int) (Tn tmn yrn what : Int) (hr : (-2147483648 ≤ what ∧ what ≤ 2147483647)) (hTn : 0 ≤ Tn ∧ Tn < 512) (hbin : zBd incn 9 0 179) : zMp l yX10_triangles wsX10_triangles (zRm 5) D cI cJ cZ [.ref hc, .int (zI what)] [(hc, .inr (8, [.ref on, .ref of, .ref os, .ref kp, .ref pd, .ref ys, .ref tu, .ref as, .ref tk, .ref ck])), (on, .inr (2, [.ref ain, .ref adn, .ref amn, .ref ahn, .ref chn, .int (zI Tn), .int (zI tmn), .int (zI yrn)])), (ain, .inl (cI, 9, .inl (zA incn)))] (some (.int (zI (trR Tn incn what)))) := by
  refine zMp_i (cc := cX10_triangles) (maxL := 2) (by decide +kernel) rfl (Nat.le_of_ble_eq_true rfl) rfl ?_
  intro p e s m args below meth c Q H ls F hK hz hl hret
  obtain ⟨hx, hb, hml, hown0, hts⟩ := id F
  have hown : s.vm.findClass RX10 = some m.cls := hown0
  obtain ⟨ws0, hw0⟩ : ∃ w : va_W, w = [(hc, .inr (8, [.ref on, .ref of, .ref os, .ref kp, .ref pd, .ref ys, .ref tu, .ref as, .ref tk, .ref ck])), (on, .inr (2, [.ref ain, .ref adn, .ref amn, .ref ahn, .ref chn, .int (zI Tn), .int (zI tmn), .int (zI yrn)])), (ain, .inl (cI, 9, .inl (zA incn)))] := ⟨_, rfl⟩
  have hz : zH D (zF ws0) H [(hc, .inr (8, [.ref on, .ref of, .ref os, .ref kp, .ref pd, .ref ys, .ref tu, .ref as, .ref tk, .ref ck])), (on, .inr (2, [.ref ain, .ref adn, .ref amn, .ref ahn, .ref chn, .int (zI Tn), .int (zI tmn), .int (zI yrn)])), (ain, .inl (cI, 9, .inl (zA incn)))] H [] := by rw [hw0]; exact hz
  have hl : lv_has ls 2 [(0, .ref hc), (1, .int (zI what))] := hl
  refine lv_iload_n hx hb dX10_triangles_0 rfl (lv_at hl 1 rfl) ?_
  refine z_iconst hx hb dX10_triangles_1 ?_
  refine z_iconst hx hb dX10_triangles_2 ?_
  refine z_callSp (As := [.int (zI what), .int (zI 0), .int (zI 1)]) (rest := []) F hK hz hl (c_X10_isWithin l D cI cJ cZ what 0 1 (by omega)) (va_cwS 3 hts gX10_triangles_X10_isWithin rfl rfl rfl (by decide +kernel) ⟨Nat.le_of_ble_eq_true rfl, Nat.le_of_ble_eq_true rfl⟩) [] rfl rfl rfl rfl (Nat.le_of_ble_eq_true rfl) ⟨Nat.le_of_ble_eq_true rfl, Nat.le_of_ble_eq_true rfl⟩ dX10_triangles_3 ?_
  refine z_ifb_ne (tgt := 12) hx hb dX10_triangles_6 (by decide) (fun h6 => ?_) (fun h6 => ?_)
  ·
    refine lv_iload_n hx hb dX10_triangles_12 rfl (lv_at hl 1 rfl) ?_
    refine z_if_ne (tgt := 26) hx hb dX10_triangles_13 (by decide) (by omega) (fun h13 => ?_) (fun h13 => ?_)
    ·
      refine lv_aload_n hx hb dX10_triangles_26 rfl (lv_at hl 0 rfl) ?_
      refine z_get (C := RX10) (T := TX10) (N := 10) (ref := "HornCity") hx hb hts hin_X10_triangles_X10 hown hK hz 0 rfl rfl 0 (by decide) (hts _ fl_X10_triangles_10) rfl rfl dX10_triangles_27 ?_
      refine z_callSp (As := [.ref on]) (rest := []) F hK hz hl (c_X3_firstTriangle l D cI cJ cZ on ain adn amn ahn chn incn Tn tmn yrn (by first | assumption | omega) (hbin)) (va_cwS 1 hts gX10_triangles_X3_firstTriangle rfl rfl rfl (by decide +kernel) ⟨Nat.le_of_ble_eq_true rfl, Nat.le_of_ble_eq_true rfl⟩) [1, 2] rfl rfl rfl rfl (Nat.le_of_ble_eq_true rfl) ⟨Nat.le_of_ble_eq_true rfl, Nat.le_of_ble_eq_true rfl⟩ dX10_triangles_30 ?_
      exact hret dX10_triangles_33 (congrArg (fun z => some (Value.int (zI z))) (show ((lstS (triS Tn incn) 512 0) : Int) = (trR Tn incn what) by unfold trR; rw [if_pos h6]; exact (if_neg h13).symm))
    ·
      refine lv_aload_n hx hb dX10_triangles_16 rfl (lv_at hl 0 rfl) ?_
      refine z_get (C := RX10) (T := TX10) (N := 10) (ref := "HornCity") hx hb hts hin_X10_triangles_X10 hown hK hz 0 rfl rfl 0 (by decide) (hts _ fl_X10_triangles_10) rfl rfl dX10_triangles_17 ?_
      refine z_callSp (As := [.ref on]) (rest := []) F hK hz hl (c_X3_triangleCount l D cI cJ cZ on ain adn amn ahn chn incn Tn tmn yrn (by first | assumption | omega) (hbin)) (va_cwS 1 hts gX10_triangles_X3_triangleCount rfl rfl rfl (by decide +kernel) ⟨Nat.le_of_ble_eq_true rfl, Nat.le_of_ble_eq_true rfl⟩) [1, 2] rfl rfl rfl rfl (Nat.le_of_ble_eq_true rfl) ⟨Nat.le_of_ble_eq_true rfl, Nat.le_of_ble_eq_true rfl⟩ dX10_triangles_20 ?_
      refine lv_goto (tgt := 33) hx hb dX10_triangles_23 (by decide) ?_
      exact hret dX10_triangles_33 (congrArg (fun z => some (Value.int (zI z))) (show ((sumZ (fun s => if triS Tn incn s = true then 1 else 0) 512) : Int) = (trR Tn incn what) by unfold trR; rw [if_pos h6]; exact (if_pos h13).symm))
  ·
    refine z_bipush hx hb dX10_triangles_9 (by decide) ?_
    exact hret dX10_triangles_11 (congrArg (fun z => some (Value.int (zI z))) (show ((-2) : Int) = (trR Tn incn what) by unfold trR; rw [if_neg h6]))

set_option maxRecDepth 20000 in
theorem hin_X10_bring_X10 : ∀ w ∈ u_ws RX10 TX10 10, w ∈ wsX10_bring := by decide +kernel
set_option maxRecDepth 20000 in
theorem fl_X10_bring_10 : Cond.fieldLink RX10 10 "HornCity" "now" "LHornCity$City;" ∈ wsX10_bring := by decide +kernel
set_option maxRecDepth 20000 in
theorem fl_X10_bring_43 : Cond.fieldLink RX10 43 "HornCity" "turns" "LHornCity$Turns;" ∈ wsX10_bring := by decide +kernel
set_option maxHeartbeats 4000000 in
set_option maxRecDepth 100000 in
theorem c_X10_bring (l : Launch) (D : va_G) (cI cJ cZ : ClassId) (hc on of os kp pd ys tu as tk ck ain adn amn ahn chn fa wt dg : Nat) (incn faf wtf dgf : Int → Int) (Tn tmn yrn k to a b c0 what : Int) (hr : (-2147483648 ≤ k ∧ k ≤ 2147483647) ∧ (-2147483648 ≤ to ∧ to ≤ 2147483647) ∧ (-2147483648 ≤ a ∧ a ≤ 2147483647) ∧ (-2147483648 ≤ b ∧ b ≤ 2147483647) ∧ (-2147483648 ≤ c0 ∧ c0 ≤ 2147483647) ∧ (-2147483648 ≤ what ∧ what ≤ 2147483647)) (hTn : 0 ≤ Tn ∧ Tn < 512) (hbin : zBd incn 9 0 179) : zMw l yX10_bring wsX10_bring (zRm 3) D cI cJ cZ [.ref hc, .int (zI k), .int (zI to), .int (zI a), .int (zI b), .int (zI c0), .int (zI what)] [(hc, .inr (8, [.ref on, .ref of, .ref os, .ref kp, .ref pd, .ref ys, .ref tu, .ref as, .ref tk, .ref ck])), (on, .inr (2, [.ref ain, .ref adn, .ref amn, .ref ahn, .ref chn, .int (zI Tn), .int (zI tmn), .int (zI yrn)])), (ain, .inl (cI, 9, .inl (zA incn))), (tu, .inr (5, [.ref fa, .ref wt, .ref dg])), (fa, .inl (cI, 180, .inl (zA faf))), (wt, .inl (cI, 180, .inl (zA wtf))), (dg, .inl (cI, 6, .inl (zA dgf)))] (S := Int × (Int → Int) × (Int → Int) × (Int → Int)) (fun u => u.1 = brR Tn incn k to a b c0 what) (fun u => some (.int (zI u.1))) (fun u => [(hc, .inr (8, [.ref on, .ref of, .ref os, .ref kp, .ref pd, .ref ys, .ref tu, .ref as, .ref tk, .ref ck])), (on, .inr (2, [.ref ain, .ref adn, .ref amn, .ref ahn, .ref chn, .int (zI Tn), .int (zI tmn), .int (zI yrn)])), (ain, .inl (cI, 9, .inl (zA incn))), (tu, .inr (5, [.ref fa, .ref wt, .ref dg])), (fa, .inl (cI, 180, .inl (zA u.2.1))), (wt, .inl (cI, 180, .inl (zA u.2.2.1))), (dg, .inl (cI, 6, .inl (zA u.2.2.2)))]) := by
  refine zMw_i (cc := cX10_bring) (maxL := 8) (by decide +kernel) rfl (Nat.le_of_ble_eq_true rfl) rfl (fun _ => rfl) ?_
  intro p e s m args below meth c Q H0 ls F hK hz hl hret
  obtain ⟨hx, hb, hml, hown0, hts⟩ := id F
  have hown : s.vm.findClass RX10 = some m.cls := hown0
  obtain ⟨ws0, hw0⟩ : ∃ w : va_W, w = [(hc, .inr (8, [.ref on, .ref of, .ref os, .ref kp, .ref pd, .ref ys, .ref tu, .ref as, .ref tk, .ref ck])), (on, .inr (2, [.ref ain, .ref adn, .ref amn, .ref ahn, .ref chn, .int (zI Tn), .int (zI tmn), .int (zI yrn)])), (ain, .inl (cI, 9, .inl (zA incn))), (tu, .inr (5, [.ref fa, .ref wt, .ref dg])), (fa, .inl (cI, 180, .inl (zA faf))), (wt, .inl (cI, 180, .inl (zA wtf))), (dg, .inl (cI, 6, .inl (zA dgf)))] := ⟨_, rfl⟩
  rw [← hw0] at hret
  have hz : zH D (zF ws0) H0 [(hc, .inr (8, [.ref on, .ref of, .ref os, .ref kp, .ref pd, .ref ys, .ref tu, .ref as, .ref tk, .ref ck])), (on, .inr (2, [.ref ain, .ref adn, .ref amn, .ref ahn, .ref chn, .int (zI Tn), .int (zI tmn), .int (zI yrn)])), (ain, .inl (cI, 9, .inl (zA incn))), (tu, .inr (5, [.ref fa, .ref wt, .ref dg])), (fa, .inl (cI, 180, .inl (zA faf))), (wt, .inl (cI, 180, .inl (zA wtf))), (dg, .inl (cI, 6, .inl (zA dgf)))] H0 [] := by rw [hw0]; exact hz
  have hl : lv_has ls 8 [(0, .ref hc), (1, .int (zI k)), (2, .int (zI to)), (3, .int (zI a)), (4, .int (zI b)), (5, .int (zI c0)), (6, .int (zI what))] := hl
  refine lv_aload_n hx hb dX10_bring_0 rfl (lv_at hl 0 rfl) ?_
  refine z_get (C := RX10) (T := TX10) (N := 10) (ref := "HornCity") hx hb hts hin_X10_bring_X10 hown hK hz 0 rfl rfl 0 (by decide) (hts _ fl_X10_bring_10) rfl rfl dX10_bring_1 ?_
  refine lv_iload_n hx hb dX10_bring_4 rfl (lv_at hl 1 rfl) ?_
  refine z_callVp (As := [.int (zI k)]) (rest := []) (C := RX2) (T := TX2) (N := 8) F hK hz hl (c_X2_isThere l D cI cJ cZ on ain adn amn ahn chn Tn tmn yrn k (by omega) (by first | assumption | omega)) (cwV 1 hts gX10_bring_X2_isThere rfl rfl rfl (by decide +kernel) ⟨Nat.le_of_ble_eq_true rfl, Nat.le_of_ble_eq_true rfl⟩) rfl 1 rfl [1] rfl rfl rfl rfl (Nat.le_of_ble_eq_true rfl) ⟨Nat.le_of_ble_eq_true rfl, Nat.le_of_ble_eq_true rfl⟩ dX10_bring_5 ?_
  refine z_ifb_ne (tgt := 13) hx hb dX10_bring_8 (by decide) (fun h8 => ?_) (fun h8 => ?_)
  ·
    refine lv_iload_n hx hb dX10_bring_13 rfl (lv_at hl 2 rfl) ?_
    refine z_iconst hx hb dX10_bring_14 ?_
    refine z_sipush hx hb dX10_bring_15 (by decide) ?_
    refine z_callSp (As := [.int (zI to), .int (zI 0), .int (zI 179)]) (rest := []) F hK hz hl (c_X10_isWithin l D cI cJ cZ to 0 179 (by omega)) (va_cwS 3 hts gX10_bring_X10_isWithin rfl rfl rfl (by decide +kernel) ⟨Nat.le_of_ble_eq_true rfl, Nat.le_of_ble_eq_true rfl⟩) [] rfl rfl rfl rfl (Nat.le_of_ble_eq_true rfl) ⟨Nat.le_of_ble_eq_true rfl, Nat.le_of_ble_eq_true rfl⟩ dX10_bring_18 ?_
    refine z_ifb_eq (tgt := 69) hx hb dX10_bring_21 (by decide) (fun h21 => ?_) (fun h21 => ?_)
    ·
      refine z_bipush hx hb dX10_bring_69 (by decide) ?_
      exact hret (((-2) : Int), (faf : Int → Int), (wtf : Int → Int), (dgf : Int → Int)) dX10_bring_71 (show (-2) = brR Tn incn k to a b c0 what from (by unfold brR; rw [if_pos h8, if_neg (by omega)])) hz
    ·
      refine lv_iload_n hx hb dX10_bring_24 rfl (lv_at hl 3 rfl) ?_
      refine z_iconst hx hb dX10_bring_25 ?_
      refine z_sipush hx hb dX10_bring_26 (by decide) ?_
      refine z_callSp (As := [.int (zI a), .int (zI 1), .int (zI 179)]) (rest := []) F hK hz hl (c_X10_isWithin l D cI cJ cZ a 1 179 (by omega)) (va_cwS 3 hts gX10_bring_X10_isWithin rfl rfl rfl (by decide +kernel) ⟨Nat.le_of_ble_eq_true rfl, Nat.le_of_ble_eq_true rfl⟩) [] rfl rfl rfl rfl (Nat.le_of_ble_eq_true rfl) ⟨Nat.le_of_ble_eq_true rfl, Nat.le_of_ble_eq_true rfl⟩ dX10_bring_29 ?_
      refine z_ifb_eq (tgt := 69) hx hb dX10_bring_32 (by decide) (fun h32 => ?_) (fun h32 => ?_)
      ·
        refine z_bipush hx hb dX10_bring_69 (by decide) ?_
        exact hret (((-2) : Int), (faf : Int → Int), (wtf : Int → Int), (dgf : Int → Int)) dX10_bring_71 (show (-2) = brR Tn incn k to a b c0 what from (by unfold brR; rw [if_pos h8, if_neg (by omega)])) hz
      ·
        refine lv_iload hx hb dX10_bring_35 (lv_at hl 4 rfl) ?_
        refine z_iconst hx hb dX10_bring_37 ?_
        refine z_sipush hx hb dX10_bring_38 (by decide) ?_
        refine z_callSp (As := [.int (zI b), .int (zI 1), .int (zI 179)]) (rest := []) F hK hz hl (c_X10_isWithin l D cI cJ cZ b 1 179 (by omega)) (va_cwS 3 hts gX10_bring_X10_isWithin rfl rfl rfl (by decide +kernel) ⟨Nat.le_of_ble_eq_true rfl, Nat.le_of_ble_eq_true rfl⟩) [] rfl rfl rfl rfl (Nat.le_of_ble_eq_true rfl) ⟨Nat.le_of_ble_eq_true rfl, Nat.le_of_ble_eq_true rfl⟩ dX10_bring_41 ?_
        refine z_ifb_eq (tgt := 69) hx hb dX10_bring_44 (by decide) (fun h44 => ?_) (fun h44 => ?_)
        ·
          refine z_bipush hx hb dX10_bring_69 (by decide) ?_
          exact hret (((-2) : Int), (faf : Int → Int), (wtf : Int → Int), (dgf : Int → Int)) dX10_bring_71 (show (-2) = brR Tn incn k to a b c0 what from (by unfold brR; rw [if_pos h8, if_neg (by omega)])) hz
        ·
          refine lv_iload hx hb dX10_bring_47 (lv_at hl 5 rfl) ?_
          refine z_iconst hx hb dX10_bring_49 ?_
          refine z_sipush hx hb dX10_bring_50 (by decide) ?_
          refine z_callSp (As := [.int (zI c0), .int (zI 1), .int (zI 179)]) (rest := []) F hK hz hl (c_X10_isWithin l D cI cJ cZ c0 1 179 (by omega)) (va_cwS 3 hts gX10_bring_X10_isWithin rfl rfl rfl (by decide +kernel) ⟨Nat.le_of_ble_eq_true rfl, Nat.le_of_ble_eq_true rfl⟩) [] rfl rfl rfl rfl (Nat.le_of_ble_eq_true rfl) ⟨Nat.le_of_ble_eq_true rfl, Nat.le_of_ble_eq_true rfl⟩ dX10_bring_53 ?_
          refine z_ifb_eq (tgt := 69) hx hb dX10_bring_56 (by decide) (fun h56 => ?_) (fun h56 => ?_)
          ·
            refine z_bipush hx hb dX10_bring_69 (by decide) ?_
            exact hret (((-2) : Int), (faf : Int → Int), (wtf : Int → Int), (dgf : Int → Int)) dX10_bring_71 (show (-2) = brR Tn incn k to a b c0 what from (by unfold brR; rw [if_pos h8, if_neg (by omega)])) hz
          ·
            refine lv_iload hx hb dX10_bring_59 (lv_at hl 6 rfl) ?_
            refine z_iconst hx hb dX10_bring_61 ?_
            refine z_iconst hx hb dX10_bring_62 ?_
            refine z_callSp (As := [.int (zI what), .int (zI 0), .int (zI 1)]) (rest := []) F hK hz hl (c_X10_isWithin l D cI cJ cZ what 0 1 (by omega)) (va_cwS 3 hts gX10_bring_X10_isWithin rfl rfl rfl (by decide +kernel) ⟨Nat.le_of_ble_eq_true rfl, Nat.le_of_ble_eq_true rfl⟩) [] rfl rfl rfl rfl (Nat.le_of_ble_eq_true rfl) ⟨Nat.le_of_ble_eq_true rfl, Nat.le_of_ble_eq_true rfl⟩ dX10_bring_63 ?_
            refine z_ifb_ne (tgt := 72) hx hb dX10_bring_66 (by decide) (fun h66 => ?_) (fun h66 => ?_)
            ·
              refine lv_aload_n hx hb dX10_bring_72 rfl (lv_at hl 0 rfl) ?_
              refine z_get (C := RX10) (T := TX10) (N := 10) (ref := "HornCity") hx hb hts hin_X10_bring_X10 hown hK hz 0 rfl rfl 6 (by decide) (hts _ fl_X10_bring_43) rfl rfl dX10_bring_73 ?_
              refine lv_iload_n hx hb dX10_bring_76 rfl (lv_at hl 2 rfl) ?_
              refine lv_iload_n hx hb dX10_bring_77 rfl (lv_at hl 3 rfl) ?_
              refine lv_iload hx hb dX10_bring_78 (lv_at hl 4 rfl) ?_
              refine lv_iload hx hb dX10_bring_80 (lv_at hl 5 rfl) ?_
              refine z_callVwv (As := [.int (zI to), .int (zI a), .int (zI b), .int (zI c0)]) (rest := []) (C := RX7) (T := TX7) (N := 3) F hK hz hl (c_X7_measureTo l D cI cJ cZ tu fa wt dg faf wtf dgf to a b c0 (by omega) (by omega)) (cwV 4 hts gX10_bring_X7_measureTo rfl rfl rfl (by decide +kernel) ⟨Nat.le_of_ble_eq_true rfl, Nat.le_of_ble_eq_true rfl⟩) rfl 3 rfl [3, 4, 5, 6] rfl rfl (by decide +kernel) rfl rfl (Nat.le_of_ble_eq_true rfl) ⟨Nat.le_of_ble_eq_true rfl, Nat.le_of_ble_eq_true rfl⟩ dX10_bring_82 (fun u H locs hu hz => ?_)
              obtain ⟨f1_1, w1_2, d1_3⟩ := u
              have hu : d1_3 = dgS a b c0 ∧ (∀ v, 0 ≤ v → v < 180 → f1_1 v = disS (dgS a b c0) to v) := hu
              obtain ⟨g82_0, hc82_1⟩ := hu
              have g82_0 := g82_0.symm
              subst g82_0
              have hz : zH D (zF ws0) H0 [(hc, .inr (8, [.ref on, .ref of, .ref os, .ref kp, .ref pd, .ref ys, .ref tu, .ref as, .ref tk, .ref ck])), (on, .inr (2, [.ref ain, .ref adn, .ref amn, .ref ahn, .ref chn, .int (zI Tn), .int (zI tmn), .int (zI yrn)])), (ain, .inl (cI, 9, .inl (zA incn))), (tu, .inr (5, [.ref fa, .ref wt, .ref dg])), (fa, .inl (cI, 180, .inl (zA f1_1))), (wt, .inl (cI, 180, .inl (zA w1_2))), (dg, .inl (cI, 6, .inl (zA (dgS a b c0))))] H locs := hz
              refine lv_aload_n hx hb dX10_bring_85 rfl (lv_at hl 0 rfl) ?_
              refine z_get (C := RX10) (T := TX10) (N := 10) (ref := "HornCity") hx hb hts hin_X10_bring_X10 hown hK hz 0 rfl rfl 0 (by decide) (hts _ fl_X10_bring_10) rfl rfl dX10_bring_86 ?_
              refine lv_iload_n hx hb dX10_bring_89 rfl (lv_at hl 1 rfl) ?_
              refine z_callVp (As := [.int (zI k)]) (rest := []) (C := RX2) (T := TX2) (N := 8) F hK hz hl (c_X2_inclineOf l D cI cJ cZ on ain adn amn ahn chn incn Tn tmn yrn k (by omega) (by first | assumption | omega)) (cwV 1 hts gX10_bring_X2_inclineOf rfl rfl rfl (by decide +kernel) ⟨Nat.le_of_ble_eq_true rfl, Nat.le_of_ble_eq_true rfl⟩) rfl 1 rfl [1, 2] rfl rfl rfl rfl (Nat.le_of_ble_eq_true rfl) ⟨Nat.le_of_ble_eq_true rfl, Nat.le_of_ble_eq_true rfl⟩ dX10_bring_90 ?_
              have hi1 := inO_bd (T := Tn) hbin (by decide) k
              refine lv_istore (lv' := [(7, .int (zI (inO Tn incn k))), (0, .ref hc), (1, .int (zI k)), (2, .int (zI to)), (3, .int (zI a)), (4, .int (zI b)), (5, .int (zI c0)), (6, .int (zI what))]) hx hb dX10_bring_93 hl (Nat.le_of_ble_eq_true rfl) rfl (fun ls hl => ?_)
              refine lv_iload hx hb dX10_bring_95 (lv_at hl 7 rfl) ?_
              refine z_if_ne (tgt := 112) hx hb dX10_bring_97 (by decide) (by omega) (fun h97 => ?_) (fun h97 => ?_)
              ·
                refine lv_aload_n hx hb dX10_bring_112 rfl (lv_at hl 1 rfl) ?_
                refine z_get (C := RX10) (T := TX10) (N := 10) (ref := "HornCity") hx hb hts hin_X10_bring_X10 hown hK hz 0 rfl rfl 6 (by decide) (hts _ fl_X10_bring_43) rfl rfl dX10_bring_113 ?_
                refine lv_iload hx hb dX10_bring_116 (lv_at hl 0 rfl) ?_
                refine z_callVp (As := [.int (zI (inO Tn incn k))]) (rest := []) (C := RX7) (T := TX7) (N := 3) F hK hz hl (c_X7_firstFrom l D cI cJ cZ tu fa wt dg f1_1 (dgS a b c0) (inO Tn incn k) (by omega) (dgS_bd (by omega)) (fun v h1 h2 => by rw [hc82_1 v h1 h2]; exact disS_bd _ _ _)) (cwV 1 hts gX10_bring_X7_firstFrom rfl rfl rfl (by decide +kernel) ⟨Nat.le_of_ble_eq_true rfl, Nat.le_of_ble_eq_true rfl⟩) rfl 3 rfl [3, 4, 6] rfl rfl rfl rfl (Nat.le_of_ble_eq_true rfl) ⟨Nat.le_of_ble_eq_true rfl, Nat.le_of_ble_eq_true rfl⟩ dX10_bring_118 ?_
                exact hret (((if f1_1 (inO Tn incn k) = -6 ∨ f1_1 (inO Tn incn k) = 0 then -6 else lstS (fun t => decide (f1_1 (nbS (dgS a b c0) (inO Tn incn k) t) = f1_1 (inO Tn incn k) - 1)) 6 0) : Int), (f1_1 : Int → Int), (w1_2 : Int → Int), (dgS a b c0 : Int → Int)) dX10_bring_121 (show (if f1_1 (inO Tn incn k) = -6 ∨ f1_1 (inO Tn incn k) = 0 then -6 else lstS (fun t => decide (f1_1 (nbS (dgS a b c0) (inO Tn incn k) t) = f1_1 (inO Tn incn k) - 1)) 6 0) = brR Tn incn k to a b c0 what from (by rw [fir_eq hc82_1 ⟨hi1.1, by omega⟩]; unfold brR; rw [if_pos h8, if_pos (by omega), if_neg h97])) hz
              ·
                refine lv_aload_n hx hb dX10_bring_100 rfl (lv_at hl 1 rfl) ?_
                refine z_get (C := RX10) (T := TX10) (N := 10) (ref := "HornCity") hx hb hts hin_X10_bring_X10 hown hK hz 0 rfl rfl 6 (by decide) (hts _ fl_X10_bring_43) rfl rfl dX10_bring_101 ?_
                refine lv_iload hx hb dX10_bring_104 (lv_at hl 0 rfl) ?_
                refine z_callVp (As := [.int (zI (inO Tn incn k))]) (rest := []) (C := RX7) (T := TX7) (N := 3) F hK hz hl (c_X7_fewestFrom l D cI cJ cZ tu fa wt dg f1_1 (inO Tn incn k) (by omega)) (cwV 1 hts gX10_bring_X7_fewestFrom rfl rfl rfl (by decide +kernel) ⟨Nat.le_of_ble_eq_true rfl, Nat.le_of_ble_eq_true rfl⟩) rfl 3 rfl [3, 4] rfl rfl rfl rfl (Nat.le_of_ble_eq_true rfl) ⟨Nat.le_of_ble_eq_true rfl, Nat.le_of_ble_eq_true rfl⟩ dX10_bring_106 ?_
                refine lv_goto (tgt := 121) hx hb dX10_bring_109 (by decide) ?_
                exact hret (((f1_1 ((inO Tn incn k) % 180)) : Int), (f1_1 : Int → Int), (w1_2 : Int → Int), (dgS a b c0 : Int → Int)) dX10_bring_121 (show (f1_1 ((inO Tn incn k) % 180)) = brR Tn incn k to a b c0 what from (by unfold brR; rw [if_pos h8, if_pos (by omega), if_pos h97, show inO Tn incn k % 180 = inO Tn incn k by omega]; exact hc82_1 _ hi1.1 (by omega))) hz
            ·
              refine z_bipush hx hb dX10_bring_69 (by decide) ?_
              exact hret (((-2) : Int), (faf : Int → Int), (wtf : Int → Int), (dgf : Int → Int)) dX10_bring_71 (show (-2) = brR Tn incn k to a b c0 what from (by unfold brR; rw [if_pos h8, if_neg (by omega)])) hz
  ·
    refine z_iconst hx hb dX10_bring_11 ?_
    exact hret (((-1) : Int), (faf : Int → Int), (wtf : Int → Int), (dgf : Int → Int)) dX10_bring_12 (show (-1) = brR Tn incn k to a b c0 what from (by unfold brR; rw [if_neg h8])) hz

set_option maxRecDepth 20000 in
theorem hin_X10_lean_X10 : ∀ w ∈ u_ws RX10 TX10 10, w ∈ wsX10_lean := by decide +kernel
set_option maxRecDepth 20000 in
theorem fl_X10_lean_10 : Cond.fieldLink RX10 10 "HornCity" "now" "LHornCity$City;" ∈ wsX10_lean := by decide +kernel
set_option maxHeartbeats 4000000 in
set_option maxRecDepth 100000 in
theorem c_X10_lean (l : Launch) (D : va_G) (cI cJ cZ : ClassId) (hc on of os kp pd ys tu as tk ck ain adn amn ahn chn : Nat) (incn : Int → Int) (Tn tmn yrn what : Int) (hr : (-2147483648 ≤ what ∧ what ≤ 2147483647)) (hTn : 0 ≤ Tn ∧ Tn < 512) (hbin : zBd incn 9 0 179) : zMp l yX10_lean wsX10_lean (zRm 4) D cI cJ cZ [.ref hc, .int (zI what)] [(hc, .inr (8, [.ref on, .ref of, .ref os, .ref kp, .ref pd, .ref ys, .ref tu, .ref as, .ref tk, .ref ck])), (on, .inr (2, [.ref ain, .ref adn, .ref amn, .ref ahn, .ref chn, .int (zI Tn), .int (zI tmn), .int (zI yrn)])), (ain, .inl (cI, 9, .inl (zA incn)))] (some (.int (zI (leR Tn incn what)))) := by
  refine zMp_i (cc := cX10_lean) (maxL := 3) (by decide +kernel) rfl (Nat.le_of_ble_eq_true rfl) rfl ?_
  intro p e s m args below meth c Q H ls F hK hz hl hret
  obtain ⟨hx, hb, hml, hown0, hts⟩ := id F
  have hown : s.vm.findClass RX10 = some m.cls := hown0
  obtain ⟨ws0, hw0⟩ : ∃ w : va_W, w = [(hc, .inr (8, [.ref on, .ref of, .ref os, .ref kp, .ref pd, .ref ys, .ref tu, .ref as, .ref tk, .ref ck])), (on, .inr (2, [.ref ain, .ref adn, .ref amn, .ref ahn, .ref chn, .int (zI Tn), .int (zI tmn), .int (zI yrn)])), (ain, .inl (cI, 9, .inl (zA incn)))] := ⟨_, rfl⟩
  have hz : zH D (zF ws0) H [(hc, .inr (8, [.ref on, .ref of, .ref os, .ref kp, .ref pd, .ref ys, .ref tu, .ref as, .ref tk, .ref ck])), (on, .inr (2, [.ref ain, .ref adn, .ref amn, .ref ahn, .ref chn, .int (zI Tn), .int (zI tmn), .int (zI yrn)])), (ain, .inl (cI, 9, .inl (zA incn)))] H [] := by rw [hw0]; exact hz
  have hl : lv_has ls 3 [(0, .ref hc), (1, .int (zI what))] := hl
  refine lv_iload_n hx hb dX10_lean_0 rfl (lv_at hl 1 rfl) ?_
  refine z_iconst hx hb dX10_lean_1 ?_
  refine z_iconst hx hb dX10_lean_2 ?_
  refine z_callSp (As := [.int (zI what), .int (zI 0), .int (zI 1)]) (rest := []) F hK hz hl (c_X10_isWithin l D cI cJ cZ what 0 1 (by omega)) (va_cwS 3 hts gX10_lean_X10_isWithin rfl rfl rfl (by decide +kernel) ⟨Nat.le_of_ble_eq_true rfl, Nat.le_of_ble_eq_true rfl⟩) [] rfl rfl rfl rfl (Nat.le_of_ble_eq_true rfl) ⟨Nat.le_of_ble_eq_true rfl, Nat.le_of_ble_eq_true rfl⟩ dX10_lean_3 ?_
  refine z_ifb_ne (tgt := 12) hx hb dX10_lean_6 (by decide) (fun h6 => ?_) (fun h6 => ?_)
  ·
    refine lv_aload_n hx hb dX10_lean_12 rfl (lv_at hl 0 rfl) ?_
    refine z_get (C := RX10) (T := TX10) (N := 10) (ref := "HornCity") hx hb hts hin_X10_lean_X10 hown hK hz 0 rfl rfl 0 (by decide) (hts _ fl_X10_lean_10) rfl rfl dX10_lean_13 ?_
    refine z_callSp (As := [.ref on]) (rest := []) F hK hz hl (c_X3_bestProposal l D cI cJ cZ on ain adn amn ahn chn incn Tn tmn yrn (by first | assumption | omega) (hbin)) (va_cwS 1 hts gX10_lean_X3_bestProposal rfl rfl rfl (by decide +kernel) ⟨Nat.le_of_ble_eq_true rfl, Nat.le_of_ble_eq_true rfl⟩) [1, 2] rfl rfl rfl rfl (Nat.le_of_ble_eq_true rfl) ⟨Nat.le_of_ble_eq_true rfl, Nat.le_of_ble_eq_true rfl⟩ dX10_lean_16 ?_
    have hag := argm_bd (afS Tn incn) 179
    refine lv_istore_n (lv' := [(2, .int (zI ((argm (afS Tn incn) 179).1))), (0, .ref hc), (1, .int (zI what))]) hx hb dX10_lean_19 rfl hl (Nat.le_of_ble_eq_true rfl) rfl (fun ls hl => ?_)
    refine lv_iload_n hx hb dX10_lean_20 rfl (lv_at hl 2 rfl) ?_
    refine z_if_ne (tgt := 28) hx hb dX10_lean_21 (by decide) (by omega) (fun h21 => ?_) (fun h21 => ?_)
    ·
      refine lv_aload_n hx hb dX10_lean_28 rfl (lv_at hl 1 rfl) ?_
      refine z_get (C := RX10) (T := TX10) (N := 10) (ref := "HornCity") hx hb hts hin_X10_lean_X10 hown hK hz 0 rfl rfl 0 (by decide) (hts _ fl_X10_lean_10) rfl rfl dX10_lean_29 ?_
      refine lv_iload_n hx hb dX10_lean_32 rfl (lv_at hl 0 rfl) ?_
      refine z_callSp (As := [.ref on, .int (zI ((argm (afS Tn incn) 179).1))]) (rest := []) F hK hz hl (c_X3_apartFrom l D cI cJ cZ on ain adn amn ahn chn incn Tn tmn yrn ((argm (afS Tn incn) 179).1) (by first | assumption | omega) (hbin) (by omega)) (va_cwS 2 hts gX10_lean_X3_apartFrom rfl rfl rfl (by decide +kernel) ⟨Nat.le_of_ble_eq_true rfl, Nat.le_of_ble_eq_true rfl⟩) [1, 2] rfl rfl rfl rfl (Nat.le_of_ble_eq_true rfl) ⟨Nat.le_of_ble_eq_true rfl, Nat.le_of_ble_eq_true rfl⟩ dX10_lean_33 ?_
      exact hret dX10_lean_36 (congrArg (fun z => some (Value.int (zI z))) (show ((afS Tn incn ((argm (afS Tn incn) 179).1)) : Int) = (leR Tn incn what) by unfold leR; rw [if_pos h6]; exact (if_neg h21).symm))
    ·
      refine lv_iload_n hx hb dX10_lean_24 rfl (lv_at hl 0 rfl) ?_
      refine lv_goto (tgt := 36) hx hb dX10_lean_25 (by decide) ?_
      exact hret dX10_lean_36 (congrArg (fun z => some (Value.int (zI z))) (show ((argm (afS Tn incn) 179).1 : Int) = (leR Tn incn what) by unfold leR; rw [if_pos h6]; exact (if_pos h21).symm))
  ·
    refine z_bipush hx hb dX10_lean_9 (by decide) ?_
    exact hret dX10_lean_11 (congrArg (fun z => some (Value.int (zI z))) (show ((-2) : Int) = (leR Tn incn what) by unfold leR; rw [if_neg h6]))

set_option maxRecDepth 20000 in
theorem hin_X10_bisect_X10 : ∀ w ∈ u_ws RX10 TX10 10, w ∈ wsX10_bisect := by decide +kernel
set_option maxRecDepth 20000 in
theorem fl_X10_bisect_10 : Cond.fieldLink RX10 10 "HornCity" "now" "LHornCity$City;" ∈ wsX10_bisect := by decide +kernel
set_option maxHeartbeats 4000000 in
set_option maxRecDepth 100000 in
theorem c_X10_bisect (l : Launch) (D : va_G) (cI cJ cZ : ClassId) (hc on of os kp pd ys tu as tk ck ain adn amn ahn chn : Nat) (incn : Int → Int) (Tn tmn yrn what : Int) (hr : (-2147483648 ≤ what ∧ what ≤ 2147483647)) (hTn : 0 ≤ Tn ∧ Tn < 512) (hbin : zBd incn 9 0 179) : zMp l yX10_bisect wsX10_bisect (zRm 6) D cI cJ cZ [.ref hc, .int (zI what)] [(hc, .inr (8, [.ref on, .ref of, .ref os, .ref kp, .ref pd, .ref ys, .ref tu, .ref as, .ref tk, .ref ck])), (on, .inr (2, [.ref ain, .ref adn, .ref amn, .ref ahn, .ref chn, .int (zI Tn), .int (zI tmn), .int (zI yrn)])), (ain, .inl (cI, 9, .inl (zA incn)))] (some (.int (zI (biR Tn incn what)))) := by
  refine zMp_i (cc := cX10_bisect) (maxL := 3) (by decide +kernel) rfl (Nat.le_of_ble_eq_true rfl) rfl ?_
  intro p e s m args below meth c Q H ls F hK hz hl hret
  obtain ⟨hx, hb, hml, hown0, hts⟩ := id F
  have hown : s.vm.findClass RX10 = some m.cls := hown0
  obtain ⟨ws0, hw0⟩ : ∃ w : va_W, w = [(hc, .inr (8, [.ref on, .ref of, .ref os, .ref kp, .ref pd, .ref ys, .ref tu, .ref as, .ref tk, .ref ck])), (on, .inr (2, [.ref ain, .ref adn, .ref amn, .ref ahn, .ref chn, .int (zI Tn), .int (zI tmn), .int (zI yrn)])), (ain, .inl (cI, 9, .inl (zA incn)))] := ⟨_, rfl⟩
  have hz : zH D (zF ws0) H [(hc, .inr (8, [.ref on, .ref of, .ref os, .ref kp, .ref pd, .ref ys, .ref tu, .ref as, .ref tk, .ref ck])), (on, .inr (2, [.ref ain, .ref adn, .ref amn, .ref ahn, .ref chn, .int (zI Tn), .int (zI tmn), .int (zI yrn)])), (ain, .inl (cI, 9, .inl (zA incn)))] H [] := by rw [hw0]; exact hz
  have hl : lv_has ls 3 [(0, .ref hc), (1, .int (zI what))] := hl
  refine lv_iload_n hx hb dX10_bisect_0 rfl (lv_at hl 1 rfl) ?_
  refine z_iconst hx hb dX10_bisect_1 ?_
  refine z_iconst hx hb dX10_bisect_2 ?_
  refine z_callSp (As := [.int (zI what), .int (zI 0), .int (zI 1)]) (rest := []) F hK hz hl (c_X10_isWithin l D cI cJ cZ what 0 1 (by omega)) (va_cwS 3 hts gX10_bisect_X10_isWithin rfl rfl rfl (by decide +kernel) ⟨Nat.le_of_ble_eq_true rfl, Nat.le_of_ble_eq_true rfl⟩) [] rfl rfl rfl rfl (Nat.le_of_ble_eq_true rfl) ⟨Nat.le_of_ble_eq_true rfl, Nat.le_of_ble_eq_true rfl⟩ dX10_bisect_3 ?_
  refine z_ifb_ne (tgt := 12) hx hb dX10_bisect_6 (by decide) (fun h6 => ?_) (fun h6 => ?_)
  ·
    refine lv_aload_n hx hb dX10_bisect_12 rfl (lv_at hl 0 rfl) ?_
    refine z_get (C := RX10) (T := TX10) (N := 10) (ref := "HornCity") hx hb hts hin_X10_bisect_X10 hown hK hz 0 rfl rfl 0 (by decide) (hts _ fl_X10_bisect_10) rfl rfl dX10_bisect_13 ?_
    refine z_callSp (As := [.ref on]) (rest := []) F hK hz hl (c_X3_bestHalf l D cI cJ cZ on ain adn amn ahn chn incn Tn tmn yrn (by first | assumption | omega) (hbin)) (va_cwS 1 hts gX10_bisect_X3_bestHalf rfl rfl rfl (by decide +kernel) ⟨Nat.le_of_ble_eq_true rfl, Nat.le_of_ble_eq_true rfl⟩) [1, 2] rfl rfl rfl rfl (Nat.le_of_ble_eq_true rfl) ⟨Nat.le_of_ble_eq_true rfl, Nat.le_of_ble_eq_true rfl⟩ dX10_bisect_16 ?_
    have hag := bhS_bd Tn incn 511
    refine lv_istore_n (lv' := [(2, .int (zI ((bhS Tn incn 511).1))), (0, .ref hc), (1, .int (zI what))]) hx hb dX10_bisect_19 rfl hl (Nat.le_of_ble_eq_true rfl) rfl (fun ls hl => ?_)
    refine lv_iload_n hx hb dX10_bisect_20 rfl (lv_at hl 2 rfl) ?_
    refine z_if_ne (tgt := 35) hx hb dX10_bisect_21 (by decide) (by omega) (fun h21 => ?_) (fun h21 => ?_)
    ·
      refine lv_iload_n hx hb dX10_bisect_35 rfl (lv_at hl 0 rfl) ?_
      exact hret dX10_bisect_36 (congrArg (fun z => some (Value.int (zI z))) (show ((bhS Tn incn 511).1 : Int) = (biR Tn incn what) by unfold biR; rw [if_pos h6]; exact (if_neg h21).symm))
    ·
      refine lv_aload_n hx hb dX10_bisect_24 rfl (lv_at hl 1 rfl) ?_
      refine z_get (C := RX10) (T := TX10) (N := 10) (ref := "HornCity") hx hb hts hin_X10_bisect_X10 hown hK hz 0 rfl rfl 0 (by decide) (hts _ fl_X10_bisect_10) rfl rfl dX10_bisect_25 ?_
      refine lv_iload_n hx hb dX10_bisect_28 rfl (lv_at hl 0 rfl) ?_
      refine z_callSp (As := [.ref on, .int (zI ((bhS Tn incn 511).1))]) (rest := []) F hK hz hl (c_X3_apartInHalves l D cI cJ cZ on ain adn amn ahn chn incn Tn tmn yrn ((bhS Tn incn 511).1) (by first | assumption | omega) (hbin) (by first | assumption | omega)) (va_cwS 2 hts gX10_bisect_X3_apartInHalves rfl rfl rfl (by decide +kernel) ⟨Nat.le_of_ble_eq_true rfl, Nat.le_of_ble_eq_true rfl⟩) [1, 2] rfl rfl rfl rfl (Nat.le_of_ble_eq_true rfl) ⟨Nat.le_of_ble_eq_true rfl, Nat.le_of_ble_eq_true rfl⟩ dX10_bisect_29 ?_
      refine lv_goto (tgt := 36) hx hb dX10_bisect_32 (by decide) ?_
      exact hret dX10_bisect_36 (congrArg (fun z => some (Value.int (zI z))) (show ((ahS Tn incn ((bhS Tn incn 511).1)) : Int) = (biR Tn incn what) by unfold biR; rw [if_pos h6]; exact (if_pos h21).symm))
  ·
    refine z_bipush hx hb dX10_bisect_9 (by decide) ?_
    exact hret dX10_bisect_11 (congrArg (fun z => some (Value.int (zI z))) (show ((-2) : Int) = (biR Tn incn what) by unfold biR; rw [if_neg h6]))

set_option maxRecDepth 20000 in
theorem hin_X10_meet_X10 : ∀ w ∈ u_ws RX10 TX10 10, w ∈ wsX10_meet := by decide +kernel
set_option maxRecDepth 20000 in
theorem fl_X10_meet_10 : Cond.fieldLink RX10 10 "HornCity" "now" "LHornCity$City;" ∈ wsX10_meet := by decide +kernel
set_option maxHeartbeats 4000000 in
set_option maxRecDepth 100000 in
theorem c_X10_meet (l : Launch) (D : va_G) (cI cJ cZ : ClassId) (hc on of os kp pd ys tu as tk ck ain adn amn ahn chn : Nat) (incn drin : Int → Int) (Tn tmn yrn a b : Int) (hr : (-2147483648 ≤ a ∧ a ≤ 2147483647) ∧ (-2147483648 ≤ b ∧ b ≤ 2147483647)) (hTn : 0 ≤ Tn ∧ Tn < 512) (hbin : zBd incn 9 0 179) (hbdn : zBd drin 9 (-9) 9) : zMp l yX10_meet wsX10_meet (zRm 3) D cI cJ cZ [.ref hc, .int (zI a), .int (zI b)] [(hc, .inr (8, [.ref on, .ref of, .ref os, .ref kp, .ref pd, .ref ys, .ref tu, .ref as, .ref tk, .ref ck])), (on, .inr (2, [.ref ain, .ref adn, .ref amn, .ref ahn, .ref chn, .int (zI Tn), .int (zI tmn), .int (zI yrn)])), (ain, .inl (cI, 9, .inl (zA incn))), (adn, .inl (cI, 9, .inl (zA drin)))] (some (.int (zI (meR Tn incn drin a b)))) := by
  refine zMp_i (cc := cX10_meet) (maxL := 3) (by decide +kernel) rfl (Nat.le_of_ble_eq_true rfl) rfl ?_
  intro p e s m args below meth c Q H ls F hK hz hl hret
  obtain ⟨hx, hb, hml, hown0, hts⟩ := id F
  have hown : s.vm.findClass RX10 = some m.cls := hown0
  obtain ⟨ws0, hw0⟩ : ∃ w : va_W, w = [(hc, .inr (8, [.ref on, .ref of, .ref os, .ref kp, .ref pd, .ref ys, .ref tu, .ref as, .ref tk, .ref ck])), (on, .inr (2, [.ref ain, .ref adn, .ref amn, .ref ahn, .ref chn, .int (zI Tn), .int (zI tmn), .int (zI yrn)])), (ain, .inl (cI, 9, .inl (zA incn))), (adn, .inl (cI, 9, .inl (zA drin)))] := ⟨_, rfl⟩
  have hz : zH D (zF ws0) H [(hc, .inr (8, [.ref on, .ref of, .ref os, .ref kp, .ref pd, .ref ys, .ref tu, .ref as, .ref tk, .ref ck])), (on, .inr (2, [.ref ain, .ref adn, .ref amn, .ref ahn, .ref chn, .int (zI Tn), .int (zI tmn), .int (zI yrn)])), (ain, .inl (cI, 9, .inl (zA incn))), (adn, .inl (cI, 9, .inl (zA drin)))] H [] := by rw [hw0]; exact hz
  have hl : lv_has ls 3 [(0, .ref hc), (1, .int (zI a)), (2, .int (zI b))] := hl
  refine lv_aload_n hx hb dX10_meet_0 rfl (lv_at hl 0 rfl) ?_
  refine z_get (C := RX10) (T := TX10) (N := 10) (ref := "HornCity") hx hb hts hin_X10_meet_X10 hown hK hz 0 rfl rfl 0 (by decide) (hts _ fl_X10_meet_10) rfl rfl dX10_meet_1 ?_
  refine lv_iload_n hx hb dX10_meet_4 rfl (lv_at hl 1 rfl) ?_
  refine z_callVp (As := [.int (zI a)]) (rest := []) (C := RX2) (T := TX2) (N := 8) F hK hz hl (c_X2_isThere l D cI cJ cZ on ain adn amn ahn chn Tn tmn yrn a (by omega) (by first | assumption | omega)) (cwV 1 hts gX10_meet_X2_isThere rfl rfl rfl (by decide +kernel) ⟨Nat.le_of_ble_eq_true rfl, Nat.le_of_ble_eq_true rfl⟩) rfl 1 rfl [1] rfl rfl rfl rfl (Nat.le_of_ble_eq_true rfl) ⟨Nat.le_of_ble_eq_true rfl, Nat.le_of_ble_eq_true rfl⟩ dX10_meet_5 ?_
  refine z_ifb_eq (tgt := 22) hx hb dX10_meet_8 (by decide) (fun h8 => ?_) (fun h8 => ?_)
  ·
    refine z_iconst hx hb dX10_meet_22 ?_
    exact hret dX10_meet_23 (congrArg (fun z => some (Value.int (zI z))) (show ((-1) : Int) = (meR Tn incn drin a b) by simp [meR, h8]))
  ·
    refine lv_aload_n hx hb dX10_meet_11 rfl (lv_at hl 0 rfl) ?_
    refine z_get (C := RX10) (T := TX10) (N := 10) (ref := "HornCity") hx hb hts hin_X10_meet_X10 hown hK hz 0 rfl rfl 0 (by decide) (hts _ fl_X10_meet_10) rfl rfl dX10_meet_12 ?_
    refine lv_iload_n hx hb dX10_meet_15 rfl (lv_at hl 2 rfl) ?_
    refine z_callVp (As := [.int (zI b)]) (rest := []) (C := RX2) (T := TX2) (N := 8) F hK hz hl (c_X2_isThere l D cI cJ cZ on ain adn amn ahn chn Tn tmn yrn b (by omega) (by first | assumption | omega)) (cwV 1 hts gX10_meet_X2_isThere rfl rfl rfl (by decide +kernel) ⟨Nat.le_of_ble_eq_true rfl, Nat.le_of_ble_eq_true rfl⟩) rfl 1 rfl [1] rfl rfl rfl rfl (Nat.le_of_ble_eq_true rfl) ⟨Nat.le_of_ble_eq_true rfl, Nat.le_of_ble_eq_true rfl⟩ dX10_meet_16 ?_
    refine z_ifb_ne (tgt := 24) hx hb dX10_meet_19 (by decide) (fun h19 => ?_) (fun h19 => ?_)
    ·
      refine lv_aload_n hx hb dX10_meet_24 rfl (lv_at hl 0 rfl) ?_
      refine z_get (C := RX10) (T := TX10) (N := 10) (ref := "HornCity") hx hb hts hin_X10_meet_X10 hown hK hz 0 rfl rfl 0 (by decide) (hts _ fl_X10_meet_10) rfl rfl dX10_meet_25 ?_
      refine lv_iload_n hx hb dX10_meet_28 rfl (lv_at hl 1 rfl) ?_
      refine lv_iload_n hx hb dX10_meet_29 rfl (lv_at hl 2 rfl) ?_
      refine z_callSp (As := [.ref on, .int (zI a), .int (zI b)]) (rest := []) F hK hz hl (c_X3_yearsToMeet l D cI cJ cZ on ain adn amn ahn chn incn drin Tn tmn yrn a b (by first | assumption | omega) (hbin) (hbdn) (by omega)) (va_cwS 3 hts gX10_meet_X3_yearsToMeet rfl rfl rfl (by decide +kernel) ⟨Nat.le_of_ble_eq_true rfl, Nat.le_of_ble_eq_true rfl⟩) [1, 2, 3] rfl rfl rfl rfl (Nat.le_of_ble_eq_true rfl) ⟨Nat.le_of_ble_eq_true rfl, Nat.le_of_ble_eq_true rfl⟩ dX10_meet_30 ?_
      exact hret dX10_meet_33 (congrArg (fun z => some (Value.int (zI z))) (show ((lstS (fun n => decide ((inO Tn incn a - inO Tn incn b + (inO Tn drin a - inO Tn drin b) * n) % 180 = 0)) 360 0) : Int) = (meR Tn incn drin a b) by unfold meR; rw [if_pos ⟨h8, h19⟩]))
    ·
      refine z_iconst hx hb dX10_meet_22 ?_
      exact hret dX10_meet_23 (congrArg (fun z => some (Value.int (zI z))) (show ((-1) : Int) = (meR Tn incn drin a b) by simp [meR, h8, h19]))
