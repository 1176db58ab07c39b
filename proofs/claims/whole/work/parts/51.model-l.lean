theorem len_in {ln p : Int} {sgn : Int → Int} (h : faS ln sgn p = -6) (h0 : 0 ≤ p) (hp : p < ln) : p + lenS ln sgn p ≤ ln := by
  rcases fa_ok h h0 hp with h1 | ⟨h1, h2, h3, h4, h5, h6⟩
  · rw [len46 (knd46 h0 hp h1)]; omega
  · have hk := isKS_or h4
    by_cases hl : sgn (p + 1) = 43 ∨ sgn (p + 1) = 45 ∨ sgn (p + 1) = 38
    · rw [len3 (by rw [h5]; exact hl)]; have := h6 hl; omega
    · rw [len2 (by rw [h5]; omega)]; omega
theorem fq_fp {ln : Int} {sgn : Int → Int} : ∀ (n : Nat) (p : Int), 0 ≤ p → p ≤ ln → ln - p ≤ (n : Int) → fqS ln sgn (ln - p).toNat p 0 = fpS ln sgn n p
  | 0, p, h0, h1, h2 => by
    have e : p = ln := by omega
    rw [e, fq_e, if_pos rfl]; rfl
  | n + 1, p, h0, h1, h2 => by
    have e : fpS ln sgn (n + 1) p = if p < ln then (if faS ln sgn p = -6 then fpS ln sgn n (p + lenS ln sgn p) else faS ln sgn p) else -6 := rfl
    rw [e]
    by_cases hp : p < ln
    · rw [if_pos hp, fa_eq h0 hp]
      by_cases hf : faS ln sgn p = -6
      · have h3 := len_in hf h0 hp
        have h4 := lenS_bd ln sgn p
        rw [if_pos hf, if_pos hf]
        exact fq_fp n _ (by omega) h3 (by omega)
      · rw [if_neg hf, if_neg hf]
    · have e2 : p = ln := by omega
      rw [if_neg hp, e2, fq_e, if_pos rfl]
theorem fq_w {ln : Int} {sgn : Int → Int} (hl : 0 ≤ ln ∧ ln ≤ 60) : fqS ln sgn ln.toNat 0 0 = fpW ln sgn := by
  have := fq_fp (ln := ln) (sgn := sgn) 60 0 (by decide) hl.1 (by omega)
  rw [Int.sub_zero] at this; exact this
theorem faS_or (ln : Int) (sgn : Int → Int) (p : Int) (h : 0 ≤ p) : faS ln sgn p = -6 ∨ 0 ≤ faS ln sgn p := by
  have h1 : feS ln sgn p = -6 ∨ 0 ≤ feS ln sgn p := by unfold feS; split <;> omega
  unfold faS; split <;> (try split) <;> (try split) <;> (try split) <;> omega
theorem fpS_or (ln : Int) (sgn : Int → Int) : ∀ (n : Nat) (p : Int), 0 ≤ p → fpS ln sgn n p = -6 ∨ 0 ≤ fpS ln sgn n p
  | 0, p, _ => Or.inl rfl
  | n + 1, p, h => by
    have e : fpS ln sgn (n + 1) p = if p < ln then (if faS ln sgn p = -6 then fpS ln sgn n (p + lenS ln sgn p) else faS ln sgn p) else -6 := rfl
    rw [e]
    have h1 := lenS_bd ln sgn p
    have h2 := fpS_or ln sgn n (p + lenS ln sgn p) (by omega)
    have h3 := faS_or ln sgn p h
    split
    · split
      · exact h2
      · exact h3
    · exact Or.inl rfl
theorem fpW_or (ln : Int) (sgn : Int → Int) : fpW ln sgn = -6 ∨ 0 ≤ fpW ln sgn := fpS_or ln sgn 60 0 (by decide)
theorem runS_ac {T : Int} {dri : Int → Int} {ln : Int} {sgn : Int → Int} : ∀ (n : Nat) (p : Int) (q : zR), 0 ≤ zRac q → zRac q ≤ zRac (runS T dri ln sgn n p q) ∧ zRac (runS T dri ln sgn n p q) ≤ zRac q + n
  | 0, p, q, h => by rw [show runS T dri ln sgn 0 p q = q from rfl]; omega
  | n + 1, p, q, h => by
    by_cases hp : p < ln
    · by_cases hw : whyS T q.2.1 q.2.2.2.1 (kndS ln sgn p) (sigS ln sgn p - 65) (wthS ln sgn p) = 0
      · have e : runS T dri ln sgn (n + 1) p q = runS T dri ln sgn n (p + lenS ln sgn p) (stpS T dri (kndS ln sgn p) (sigS ln sgn p - 65) (wthS ln sgn p) q) := by
          show (if p < ln then _ else _) = _
          rw [if_pos hp]; exact if_pos hw
        have e2 : zRac (stpS T dri (kndS ln sgn p) (sigS ln sgn p - 65) (wthS ln sgn p) q) = zRac q + 1 := rfl
        have := runS_ac (T := T) (dri := dri) (ln := ln) (sgn := sgn) n (p + lenS ln sgn p) (stpS T dri (kndS ln sgn p) (sigS ln sgn p - 65) (wthS ln sgn p) q) (by rw [e2]; omega)
        rw [e]; rw [e2] at this; omega
      · have e : runS T dri ln sgn (n + 1) p q = (q.1, q.2.1, q.2.2.1, q.2.2.2.1, q.2.2.2.2.1, q.2.2.2.2.2.1, q.2.2.2.2.2.2.1, q.2.2.2.2.2.2.2.1, whyS T q.2.1 q.2.2.2.1 (kndS ln sgn p) (sigS ln sgn p - 65) (wthS ln sgn p)) := by
          show (if p < ln then _ else _) = _
          rw [if_pos hp]; exact if_neg hw
        have e2 : zRac (q.1, q.2.1, q.2.2.1, q.2.2.2.1, q.2.2.2.2.1, q.2.2.2.2.2.1, q.2.2.2.2.2.2.1, q.2.2.2.2.2.2.2.1, whyS T q.2.1 q.2.2.2.1 (kndS ln sgn p) (sigS ln sgn p - 65) (wthS ln sgn p)) = zRac q := rfl
        rw [e, e2]; omega
    · rw [runS_end hp]; omega
theorem rnW_ac (T : Int) (dri : Int → Int) (ln : Int) (sgn inc mat : Int → Int) (tm yr : Int) : 0 ≤ zRac (rnW T dri ln sgn inc mat tm yr) ∧ zRac (rnW T dri ln sgn inc mat tm yr) ≤ 60 := by
  have := runS_ac (T := T) (dri := dri) (ln := ln) (sgn := sgn) 60 0 (inc, mat, tm, yr, (fun _ => -6), -6, -6, 0, 0) (Int.le_refl 0)
  unfold rnW
  have e : zRac (inc, mat, tm, yr, (fun _ => -6), -6, -6, 0, 0) = 0 := rfl
  rw [e] at this; omega

theorem c_X11_faultOf2 (l : Launch) (D : va_G) (cI cJ cZ : ClassId) (md bk nw nt df chk pa rc qu ct ft wn wy nx im ik : Nat) (sgn : Int → Int) (T cn ln wat who rs act fse : Int) (hln : 0 ≤ ln ∧ ln ≤ 60) (hbs : zBd sgn 60 0 126) : zMp l yX11_faultOf wsX11_faultOf (zRm 1) D cI cJ cZ [.ref md] [(md, .inr (9, [.ref bk, .ref nw, .ref nt, .int (zI T), .ref df, .int (zI cn), .ref chk, .int (zI ln), .ref pa, .int (zI wat), .int (zI who), .int (zI rs), .int (zI act), .int (zI fse), .ref rc, .ref qu, .ref ct, .ref ft, .ref wn, .ref wy, .ref nx, .ref im, .ref ik])), (pa, .inl (cI, 60, .inl (zA sgn)))] (some (.int (zI (fpW ln sgn)))) := by
  rw [← fq_w hln]
  exact c_X11_faultOf l D cI cJ cZ md bk nw nt df chk pa rc qu ct ft wn wy nx im ik sgn T cn ln wat who rs act fse hln hbs

set_option maxHeartbeats 4000000 in
set_option maxRecDepth 100000 in
theorem c_X11_fault (l : Launch) (D : va_G) (cI cJ cZ : ClassId) (md bk nw nt df chk pa rc qu ct ft wn wy nx im ik : Nat) (sgn : Int → Int) (T cn ln wat who rs act fse : Int) (hln : 0 ≤ ln ∧ ln ≤ 60) (hbs : zBd sgn 60 0 126) : zMp l yX11_fault wsX11_fault (zRm 2) D cI cJ cZ [.ref md] [(md, .inr (9, [.ref bk, .ref nw, .ref nt, .int (zI T), .ref df, .int (zI cn), .ref chk, .int (zI ln), .ref pa, .int (zI wat), .int (zI who), .int (zI rs), .int (zI act), .int (zI fse), .ref rc, .ref qu, .ref ct, .ref ft, .ref wn, .ref wy, .ref nx, .ref im, .ref ik])), (pa, .inl (cI, 60, .inl (zA sgn)))] (some (.int (zI (fpW ln sgn)))) := by
  refine zMp_i (cc := cX11_fault) (maxL := 1) (by decide +kernel) rfl (Nat.le_of_ble_eq_true rfl) rfl ?_
  intro p e s m args below meth c Q H ls F hK hz hl hret
  obtain ⟨hx, hb, hml, hown0, hts⟩ := id F
  have hown : s.vm.findClass RX11 = some m.cls := hown0
  obtain ⟨ws0, hw0⟩ : ∃ w : va_W, w = [(md, .inr (9, [.ref bk, .ref nw, .ref nt, .int (zI T), .ref df, .int (zI cn), .ref chk, .int (zI ln), .ref pa, .int (zI wat), .int (zI who), .int (zI rs), .int (zI act), .int (zI fse), .ref rc, .ref qu, .ref ct, .ref ft, .ref wn, .ref wy, .ref nx, .ref im, .ref ik])), (pa, .inl (cI, 60, .inl (zA sgn)))] := ⟨_, rfl⟩
  have hz : zH D (zF ws0) H [(md, .inr (9, [.ref bk, .ref nw, .ref nt, .int (zI T), .ref df, .int (zI cn), .ref chk, .int (zI ln), .ref pa, .int (zI wat), .int (zI who), .int (zI rs), .int (zI act), .int (zI fse), .ref rc, .ref qu, .ref ct, .ref ft, .ref wn, .ref wy, .ref nx, .ref im, .ref ik])), (pa, .inl (cI, 60, .inl (zA sgn)))] H [] := by rw [hw0]; exact hz
  have hl : lv_has ls 1 [(0, .ref md)] := hl
  refine lv_aload_n hx hb dX11_fault_0 rfl (lv_at hl 0 rfl) ?_
  refine z_callVp (As := []) (rest := []) (C := RX11) (T := TX11) (N := 23) F hK hz hl (c_X11_faultOf2 l D cI cJ cZ md bk nw nt df chk pa rc qu ct ft wn wy nx im ik sgn T cn ln wat who rs act fse (by first | assumption | omega) (hbs)) (cwV 0 hts gX11_fault_X11_faultOf rfl rfl rfl (by decide +kernel) ⟨Nat.le_of_ble_eq_true rfl, Nat.le_of_ble_eq_true rfl⟩) rfl 0 rfl [0, 1] rfl rfl rfl rfl (Nat.le_of_ble_eq_true rfl) ⟨Nat.le_of_ble_eq_true rfl, Nat.le_of_ble_eq_true rfl⟩ dX11_fault_1 ?_
  exact hret dX11_fault_4 (congrArg (fun z => some (Value.int (zI z))) (show ((fpW ln sgn) : Int) = (fpW ln sgn) by rfl))

set_option maxRecDepth 20000 in
theorem hin_X11_judge_X11 : ∀ w ∈ u_ws RX11 TX11 23, w ∈ wsX11_judge := by decide +kernel
set_option maxRecDepth 20000 in
theorem fl_X11_judge_119 : Cond.fieldLink RX11 119 "HornCityModel" "reason" "I" ∈ wsX11_judge := by decide +kernel
set_option maxHeartbeats 4000000 in
set_option maxRecDepth 100000 in
theorem c_X11_judge (l : Launch) (D : va_G) (cI cJ cZ : ClassId) (md bk nw nt df chk pa rc qu ct ft wn wy nx im ik : Nat) (inc mat kd nwf ntf dri sgn : Int → Int) (T cn ln wat who rs act fse tm yr what : Int) (hr : (-2147483648 ≤ what ∧ what ≤ 2147483647)) (hT : 0 ≤ T ∧ T < 512) (hbi : zBd inc 9 0 179) (hbd : zBd dri 9 (-9) 9) (hmo : mOk T mat) (hty : (0 ≤ tm ∧ tm ≤ 9) ∧ 0 ≤ yr ∧ yr ≤ 999) (hln : 0 ≤ ln ∧ ln ≤ 60) (hbs : zBd sgn 60 0 126) : zMw l yX11_judge wsX11_judge (zRm 5) D cI cJ cZ [.ref md, .int (zI what)] [(md, .inr (9, [.ref bk, .ref nw, .ref nt, .int (zI T), .ref df, .int (zI cn), .ref chk, .int (zI ln), .ref pa, .int (zI wat), .int (zI who), .int (zI rs), .int (zI act), .int (zI fse), .ref rc, .ref qu, .ref ct, .ref ft, .ref wn, .ref wy, .ref nx, .ref im, .ref ik])), (bk, .inl (cI, 29, .inl (zA (nwS inc mat kd tm yr)))), (nw, .inl (cI, 29, .inl (zA nwf))), (nt, .inl (cI, 9, .inl (zA ntf))), (df, .inl (cI, 9, .inl (zA dri))), (pa, .inl (cI, 60, .inl (zA sgn)))] (S := Int × (Int → Int) × (Int → Int) × Int × Int × Int × Int) (fun u => u.1 = juR what (fpW ln sgn) (rnW T dri ln sgn inc mat tm yr)) (fun u => some (.int (zI u.1))) (fun u => [(md, .inr (9, [.ref bk, .ref nw, .ref nt, .int (zI T), .ref df, .int (zI cn), .ref chk, .int (zI ln), .ref pa, .int (zI u.2.2.2.1), .int (zI u.2.2.2.2.1), .int (zI u.2.2.2.2.2.1), .int (zI u.2.2.2.2.2.2), .int (zI fse), .ref rc, .ref qu, .ref ct, .ref ft, .ref wn, .ref wy, .ref nx, .ref im, .ref ik])), (bk, .inl (cI, 29, .inl (zA (nwS inc mat kd tm yr)))), (nw, .inl (cI, 29, .inl (zA u.2.1))), (nt, .inl (cI, 9, .inl (zA u.2.2.1))), (df, .inl (cI, 9, .inl (zA dri))), (pa, .inl (cI, 60, .inl (zA sgn)))]) := by
  refine zMw_i (cc := cX11_judge) (maxL := 3) (by decide +kernel) rfl (Nat.le_of_ble_eq_true rfl) rfl (fun _ => rfl) ?_
  intro p e s m args below meth c Q H0 ls F hK hz hl hret
  obtain ⟨hx, hb, hml, hown0, hts⟩ := id F
  have hown : s.vm.findClass RX11 = some m.cls := hown0
  obtain ⟨ws0, hw0⟩ : ∃ w : va_W, w = [(md, .inr (9, [.ref bk, .ref nw, .ref nt, .int (zI T), .ref df, .int (zI cn), .ref chk, .int (zI ln), .ref pa, .int (zI wat), .int (zI who), .int (zI rs), .int (zI act), .int (zI fse), .ref rc, .ref qu, .ref ct, .ref ft, .ref wn, .ref wy, .ref nx, .ref im, .ref ik])), (bk, .inl (cI, 29, .inl (zA (nwS inc mat kd tm yr)))), (nw, .inl (cI, 29, .inl (zA nwf))), (nt, .inl (cI, 9, .inl (zA ntf))), (df, .inl (cI, 9, .inl (zA dri))), (pa, .inl (cI, 60, .inl (zA sgn)))] := ⟨_, rfl⟩
  rw [← hw0] at hret
  have hz : zH D (zF ws0) H0 [(md, .inr (9, [.ref bk, .ref nw, .ref nt, .int (zI T), .ref df, .int (zI cn), .ref chk, .int (zI ln), .ref pa, .int (zI wat), .int (zI who), .int (zI rs), .int (zI act), .int (zI fse), .ref rc, .ref qu, .ref ct, .ref ft, .ref wn, .ref wy, .ref nx, .ref im, .ref ik])), (bk, .inl (cI, 29, .inl (zA (nwS inc mat kd tm yr)))), (nw, .inl (cI, 29, .inl (zA nwf))), (nt, .inl (cI, 9, .inl (zA ntf))), (df, .inl (cI, 9, .inl (zA dri))), (pa, .inl (cI, 60, .inl (zA sgn)))] H0 [] := by rw [hw0]; exact hz
  have hl : lv_has ls 3 [(0, .ref md), (1, .int (zI what))] := hl
  refine lv_iload_n hx hb dX11_judge_0 rfl (lv_at hl 1 rfl) ?_
  refine z_iconst hx hb dX11_judge_1 ?_
  refine z_iconst hx hb dX11_judge_2 ?_
  refine z_callSp (As := [.int (zI what), .int (zI 0), .int (zI 1)]) (rest := []) F hK hz hl (c_X11_in l D cI cJ cZ what 0 1 (by omega)) (va_cwS 3 hts gX11_judge_X11_in rfl rfl rfl (by decide +kernel) ⟨Nat.le_of_ble_eq_true rfl, Nat.le_of_ble_eq_true rfl⟩) [] rfl rfl rfl rfl (Nat.le_of_ble_eq_true rfl) ⟨Nat.le_of_ble_eq_true rfl, Nat.le_of_ble_eq_true rfl⟩ dX11_judge_3 ?_
  refine z_ifb_ne (tgt := 12) hx hb dX11_judge_6 (by decide) (fun h6 => ?_) (fun h6 => ?_)
  ·
    refine lv_aload_n hx hb dX11_judge_12 rfl (lv_at hl 0 rfl) ?_
    refine z_callVp (As := []) (rest := []) (C := RX11) (T := TX11) (N := 23) F hK hz hl (c_X11_faultOf2 l D cI cJ cZ md bk nw nt df chk pa rc qu ct ft wn wy nx im ik sgn T cn ln wat who rs act fse (by first | assumption | omega) (hbs)) (cwV 0 hts gX11_judge_X11_faultOf rfl rfl rfl (by decide +kernel) ⟨Nat.le_of_ble_eq_true rfl, Nat.le_of_ble_eq_true rfl⟩) rfl 0 rfl [0, 5] rfl rfl rfl rfl (Nat.le_of_ble_eq_true rfl) ⟨Nat.le_of_ble_eq_true rfl, Nat.le_of_ble_eq_true rfl⟩ dX11_judge_13 ?_
    have hfb := fpW_bd ln sgn hln.2
    have hfo := fpW_or ln sgn
    refine z_if_lt (tgt := 22) hx hb dX11_judge_16 (by decide) (by omega) (fun h16 => ?_) (fun h16 => ?_)
    ·
      refine lv_aload_n hx hb dX11_judge_22 rfl (lv_at hl 0 rfl) ?_
      refine z_callVw (As := []) (rest := []) (C := RX11) (T := TX11) (N := 23) F hK hz hl (c_X11_goYears l D cI cJ cZ md bk nw nt df chk pa rc qu ct ft wn wy nx im ik inc mat kd nwf ntf dri sgn T cn ln wat who rs act fse tm yr (by first | assumption | omega) (hbi) (hbd) (by assumption) (by omega) (by first | assumption | omega) (hbs) (by omega)) (cwV 0 hts gX11_judge_X11_goYears rfl rfl rfl (by decide +kernel) ⟨Nat.le_of_ble_eq_true rfl, Nat.le_of_ble_eq_true rfl⟩) rfl 0 rfl [0, 1, 2, 3, 4, 5] rfl rfl (by decide +kernel) rfl rfl (Nat.le_of_ble_eq_true rfl) ⟨Nat.le_of_ble_eq_true rfl, Nat.le_of_ble_eq_true rfl⟩ dX11_judge_23 (fun u H locs hu hz => ?_)
      obtain ⟨r_1, inc1_2, mat1_3, kd1_4, tm1_5, yr1_6, nt1_7, wa1_8, wo1_9, rs1_10, ac1_11⟩ := u
      have hu : (zRwh (rnW T dri ln sgn inc mat tm yr) = 0 → r_1 = -6 ∧ (inc1_2, mat1_3, tm1_5, yr1_6, kd1_4, wa1_8, wo1_9, ac1_11, 0) = (rnW T dri ln sgn inc mat tm yr) ∧ mOk T mat1_3) ∧ (¬ zRwh (rnW T dri ln sgn inc mat tm yr) = 0 → r_1 = zRac (rnW T dri ln sgn inc mat tm yr) ∧ rs1_10 = zRwh (rnW T dri ln sgn inc mat tm yr) ∧ 0 ≤ r_1 ∧ 0 < rs1_10) := hu
      obtain ⟨hc23_0, hc23_1⟩ := hu
      have hz : zH D (zF ws0) H0 [(md, .inr (9, [.ref bk, .ref nw, .ref nt, .int (zI T), .ref df, .int (zI cn), .ref chk, .int (zI ln), .ref pa, .int (zI wa1_8), .int (zI wo1_9), .int (zI rs1_10), .int (zI ac1_11), .int (zI fse), .ref rc, .ref qu, .ref ct, .ref ft, .ref wn, .ref wy, .ref nx, .ref im, .ref ik])), (bk, .inl (cI, 29, .inl (zA (nwS inc mat kd tm yr)))), (nw, .inl (cI, 29, .inl (zA (nwS inc1_2 mat1_3 kd1_4 tm1_5 yr1_6)))), (nt, .inl (cI, 9, .inl (zA nt1_7))), (df, .inl (cI, 9, .inl (zA dri))), (pa, .inl (cI, 60, .inl (zA sgn)))] H locs := hz
      have hwy := rnW_why T dri ln sgn inc mat tm yr
      have hac := rnW_ac T dri ln sgn inc mat tm yr
      have hgo : (zRwh (rnW T dri ln sgn inc mat tm yr) = 0 ∧ r_1 = -6) ∨ (¬ zRwh (rnW T dri ln sgn inc mat tm yr) = 0 ∧ r_1 = zRac (rnW T dri ln sgn inc mat tm yr) ∧ rs1_10 = zRwh (rnW T dri ln sgn inc mat tm yr) ∧ 0 ≤ r_1 ∧ r_1 ≤ 60) := (Classical.em (zRwh (rnW T dri ln sgn inc mat tm yr) = 0)).elim (fun q => Or.inl ⟨q, (hc23_0 q).1⟩) (fun q => Or.inr ⟨q, (hc23_1 q).1, (hc23_1 q).2.1, (hc23_1 q).2.2.1, by rw [(hc23_1 q).1]; exact hac.2⟩)
      refine lv_istore_n (lv' := [(2, .int (zI r_1)), (0, .ref md), (1, .int (zI what))]) hx hb dX11_judge_26 rfl hl (Nat.le_of_ble_eq_true rfl) rfl (fun ls hl => ?_)
      refine lv_iload_n hx hb dX11_judge_27 rfl (lv_at hl 0 rfl) ?_
      refine z_if_lt (tgt := 35) hx hb dX11_judge_28 (by decide) (by omega) (fun h28 => ?_) (fun h28 => ?_)
      ·
        refine lv_iload_n hx hb dX11_judge_35 rfl (lv_at hl 0 rfl) ?_
        refine lv_goto (tgt := 43) hx hb dX11_judge_36 (by decide) ?_
        exact hret ((r_1 : Int), (nwS inc1_2 mat1_3 kd1_4 tm1_5 yr1_6 : Int → Int), (nt1_7 : Int → Int), (wa1_8 : Int), (wo1_9 : Int), (rs1_10 : Int), (ac1_11 : Int)) dX11_judge_43 (show r_1 = juR what (fpW ln sgn) (rnW T dri ln sgn inc mat tm yr) from (by unfold juR; rw [if_pos h6, if_pos (show fpW ln sgn = -6 by omega)]; rw [if_pos (by omega)]; omega)) hz
      ·
        refine lv_iload_n hx hb dX11_judge_31 rfl (lv_at hl 2 rfl) ?_
        refine z_if_ne (tgt := 39) hx hb dX11_judge_32 (by decide) (by omega) (fun h32 => ?_) (fun h32 => ?_)
        ·
          refine lv_aload_n hx hb dX11_judge_39 rfl (lv_at hl 1 rfl) ?_
          refine z_get (C := RX11) (T := TX11) (N := 23) (ref := "HornCityModel") hx hb hts hin_X11_judge_X11 hown hK hz 0 rfl rfl 11 (by decide) (hts _ fl_X11_judge_119) rfl rfl dX11_judge_40 ?_
          exact hret ((rs1_10 : Int), (nwS inc1_2 mat1_3 kd1_4 tm1_5 yr1_6 : Int → Int), (nt1_7 : Int → Int), (wa1_8 : Int), (wo1_9 : Int), (rs1_10 : Int), (ac1_11 : Int)) dX11_judge_43 (show rs1_10 = juR what (fpW ln sgn) (rnW T dri ln sgn inc mat tm yr) from (by unfold juR; rw [if_pos h6, if_pos (show fpW ln sgn = -6 by omega)]; rw [if_neg (by omega), if_neg h32]; omega)) hz
        ·
          refine lv_iload_n hx hb dX11_judge_35 rfl (lv_at hl 0 rfl) ?_
          refine lv_goto (tgt := 43) hx hb dX11_judge_36 (by decide) ?_
          exact hret ((r_1 : Int), (nwS inc1_2 mat1_3 kd1_4 tm1_5 yr1_6 : Int → Int), (nt1_7 : Int → Int), (wa1_8 : Int), (wo1_9 : Int), (rs1_10 : Int), (ac1_11 : Int)) dX11_judge_43 (show r_1 = juR what (fpW ln sgn) (rnW T dri ln sgn inc mat tm yr) from (by unfold juR; rw [if_pos h6, if_pos (show fpW ln sgn = -6 by omega)]; rw [if_neg (by omega), if_pos h32]; omega)) hz
    ·
      refine z_bipush hx hb dX11_judge_19 (by decide) ?_
      exact hret (((-5) : Int), (nwf : Int → Int), (ntf : Int → Int), (wat : Int), (who : Int), (rs : Int), (act : Int)) dX11_judge_21 (show (-5) = juR what (fpW ln sgn) (rnW T dri ln sgn inc mat tm yr) from (by unfold juR; rw [if_pos h6, if_neg (by omega)])) hz
  ·
    refine z_bipush hx hb dX11_judge_9 (by decide) ?_
    exact hret (((-2) : Int), (nwf : Int → Int), (ntf : Int → Int), (wat : Int), (who : Int), (rs : Int), (act : Int)) dX11_judge_11 (show (-2) = juR what (fpW ln sgn) (rnW T dri ln sgn inc mat tm yr) from (by unfold juR; rw [if_neg h6])) hz
