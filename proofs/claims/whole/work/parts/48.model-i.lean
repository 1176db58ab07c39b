theorem cvS_bd (T : Int) (inc : Int → Int) (tm k : Int) (fw : Prop) [Decidable fw] : 0 ≤ cvS T inc tm k fw ∧ cvS T inc tm k fw ≤ 179 := by unfold cvS; split <;> omega

set_option maxRecDepth 20000 in
theorem hin_X11_goYears_X11 : ∀ w ∈ u_ws RX11 TX11 23, w ∈ wsX11_goYears := by decide +kernel
set_option maxRecDepth 20000 in
theorem fl_X11_goYears_113 : Cond.fieldLink RX11 113 "HornCityModel" "acts" "I" ∈ wsX11_goYears := by decide +kernel
set_option maxRecDepth 20000 in
theorem fl_X11_goYears_87 : Cond.fieldLink RX11 87 "HornCityModel" "signs" "I" ∈ wsX11_goYears := by decide +kernel
set_option maxRecDepth 20000 in
theorem fl_X11_goYears_25 : Cond.fieldLink RX11 25 "HornCityModel" "pad" "[I" ∈ wsX11_goYears := by decide +kernel
set_option maxRecDepth 20000 in
theorem fl_X11_goYears_119 : Cond.fieldLink RX11 119 "HornCityModel" "reason" "I" ∈ wsX11_goYears := by decide +kernel
set_option maxRecDepth 20000 in
theorem fl_X11_goYears_93 : Cond.fieldLink RX11 93 "HornCityModel" "wrongAt" "I" ∈ wsX11_goYears := by decide +kernel
set_option maxRecDepth 20000 in
theorem fl_X11_goYears_13 : Cond.fieldLink RX11 13 "HornCityModel" "now" "[I" ∈ wsX11_goYears := by decide +kernel
set_option maxRecDepth 20000 in
theorem fl_X11_goYears_96 : Cond.fieldLink RX11 96 "HornCityModel" "wrongWho" "I" ∈ wsX11_goYears := by decide +kernel
set_option maxHeartbeats 4000000 in
set_option maxRecDepth 100000 in
theorem c_X11_goYears (l : Launch) (D : va_G) (cI cJ cZ : ClassId) (md bk nw nt df chk pa rc qu ct ft wn wy nx im ik : Nat) (inc mat kd nwf ntf dri sgn : Int → Int) (T cn ln wat who rs act fse tm yr : Int) (hT : 0 ≤ T ∧ T < 512) (hbi : zBd inc 9 0 179) (hbd : zBd dri 9 (-9) 9) (hmo : mOk T mat) (hty : (0 ≤ tm ∧ tm ≤ 9) ∧ 0 ≤ yr ∧ yr ≤ 999) (hln : 0 ≤ ln ∧ ln ≤ 60) (hbs : zBd sgn 60 0 126) (hfp : fpW ln sgn = -6) : zMw l yX11_goYears wsX11_goYears (zRm 4) D cI cJ cZ [.ref md] [(md, .inr (9, [.ref bk, .ref nw, .ref nt, .int (zI T), .ref df, .int (zI cn), .ref chk, .int (zI ln), .ref pa, .int (zI wat), .int (zI who), .int (zI rs), .int (zI act), .int (zI fse), .ref rc, .ref qu, .ref ct, .ref ft, .ref wn, .ref wy, .ref nx, .ref im, .ref ik])), (bk, .inl (cI, 29, .inl (zA (nwS inc mat kd tm yr)))), (nw, .inl (cI, 29, .inl (zA nwf))), (nt, .inl (cI, 9, .inl (zA ntf))), (df, .inl (cI, 9, .inl (zA dri))), (pa, .inl (cI, 60, .inl (zA sgn)))] (S := Int × (Int → Int) × (Int → Int) × (Int → Int) × Int × Int × (Int → Int) × Int × Int × Int × Int) (fun u => (zRwh (rnW T dri ln sgn inc mat tm yr) = 0 → u.1 = -6 ∧ (u.2.1, u.2.2.1, u.2.2.2.2.1, u.2.2.2.2.2.1, u.2.2.2.1, u.2.2.2.2.2.2.2.1, u.2.2.2.2.2.2.2.2.1, u.2.2.2.2.2.2.2.2.2.2, 0) = (rnW T dri ln sgn inc mat tm yr) ∧ mOk T u.2.2.1) ∧ (¬ zRwh (rnW T dri ln sgn inc mat tm yr) = 0 → u.1 = zRac (rnW T dri ln sgn inc mat tm yr) ∧ u.2.2.2.2.2.2.2.2.2.1 = zRwh (rnW T dri ln sgn inc mat tm yr) ∧ 0 ≤ u.1 ∧ 0 < u.2.2.2.2.2.2.2.2.2.1)) (fun u => some (.int (zI u.1))) (fun u => [(md, .inr (9, [.ref bk, .ref nw, .ref nt, .int (zI T), .ref df, .int (zI cn), .ref chk, .int (zI ln), .ref pa, .int (zI u.2.2.2.2.2.2.2.1), .int (zI u.2.2.2.2.2.2.2.2.1), .int (zI u.2.2.2.2.2.2.2.2.2.1), .int (zI u.2.2.2.2.2.2.2.2.2.2), .int (zI fse), .ref rc, .ref qu, .ref ct, .ref ft, .ref wn, .ref wy, .ref nx, .ref im, .ref ik])), (bk, .inl (cI, 29, .inl (zA (nwS inc mat kd tm yr)))), (nw, .inl (cI, 29, .inl (zA (nwS u.2.1 u.2.2.1 u.2.2.2.1 u.2.2.2.2.1 u.2.2.2.2.2.1)))), (nt, .inl (cI, 9, .inl (zA u.2.2.2.2.2.2.1))), (df, .inl (cI, 9, .inl (zA dri))), (pa, .inl (cI, 60, .inl (zA sgn)))]) := by
  refine zMw_i (cc := cX11_goYears) (maxL := 7) (by decide +kernel) rfl (Nat.le_of_ble_eq_true rfl) rfl (fun _ => rfl) ?_
  intro p e s m args below meth c Q H0 ls F hK hz hl hret
  obtain ⟨hx, hb, hml, hown0, hts⟩ := id F
  have hown : s.vm.findClass RX11 = some m.cls := hown0
  obtain ⟨ws0, hw0⟩ : ∃ w : va_W, w = [(md, .inr (9, [.ref bk, .ref nw, .ref nt, .int (zI T), .ref df, .int (zI cn), .ref chk, .int (zI ln), .ref pa, .int (zI wat), .int (zI who), .int (zI rs), .int (zI act), .int (zI fse), .ref rc, .ref qu, .ref ct, .ref ft, .ref wn, .ref wy, .ref nx, .ref im, .ref ik])), (bk, .inl (cI, 29, .inl (zA (nwS inc mat kd tm yr)))), (nw, .inl (cI, 29, .inl (zA nwf))), (nt, .inl (cI, 9, .inl (zA ntf))), (df, .inl (cI, 9, .inl (zA dri))), (pa, .inl (cI, 60, .inl (zA sgn)))] := ⟨_, rfl⟩
  rw [← hw0] at hret
  have hz : zH D (zF ws0) H0 [(md, .inr (9, [.ref bk, .ref nw, .ref nt, .int (zI T), .ref df, .int (zI cn), .ref chk, .int (zI ln), .ref pa, .int (zI wat), .int (zI who), .int (zI rs), .int (zI act), .int (zI fse), .ref rc, .ref qu, .ref ct, .ref ft, .ref wn, .ref wy, .ref nx, .ref im, .ref ik])), (bk, .inl (cI, 29, .inl (zA (nwS inc mat kd tm yr)))), (nw, .inl (cI, 29, .inl (zA nwf))), (nt, .inl (cI, 9, .inl (zA ntf))), (df, .inl (cI, 9, .inl (zA dri))), (pa, .inl (cI, 60, .inl (zA sgn)))] H0 [] := by rw [hw0]; exact hz
  have hl : lv_has ls 7 [(0, .ref md)] := hl
  refine lv_aload_n hx hb dX11_goYears_0 rfl (lv_at hl 0 rfl) ?_
  refine z_callVwv (As := []) (rest := []) (C := RX11) (T := TX11) (N := 23) F hK hz hl (c_X11_asNow l D cI cJ cZ md bk nw nt df chk pa rc qu ct ft wn wy nx im ik inc mat kd nwf T cn ln wat who rs act fse tm yr ) (cwV 0 hts gX11_goYears_X11_asNow rfl rfl rfl (by decide +kernel) ⟨Nat.le_of_ble_eq_true rfl, Nat.le_of_ble_eq_true rfl⟩) rfl 0 rfl [0, 1, 2] rfl rfl (by decide +kernel) rfl rfl (Nat.le_of_ble_eq_true rfl) ⟨Nat.le_of_ble_eq_true rfl, Nat.le_of_ble_eq_true rfl⟩ dX11_goYears_1 (fun u H locs hu hz => ?_)
  obtain ⟨inc1_1, mat1_2, kd1_3, tm1_4, yr1_5, wa1_6, wo1_7⟩ := u
  have hu : inc1_1 = inc ∧ mat1_2 = mat ∧ kd1_3 = (fun _ => -6) ∧ tm1_4 = tm ∧ yr1_5 = yr ∧ wa1_6 = -6 ∧ wo1_7 = -6 := hu
  obtain ⟨g1_0, g1_1, g1_2, g1_3, g1_4, g1_5, g1_6⟩ := hu
  have g1_0 := g1_0.symm
  subst g1_0
  have g1_1 := g1_1.symm
  subst g1_1
  have g1_2 := g1_2.symm
  subst g1_2
  have g1_3 := g1_3.symm
  subst g1_3
  have g1_4 := g1_4.symm
  subst g1_4
  have g1_5 := g1_5.symm
  subst g1_5
  have g1_6 := g1_6.symm
  subst g1_6
  have hz : zH D (zF ws0) H0 [(md, .inr (9, [.ref bk, .ref nw, .ref nt, .int (zI T), .ref df, .int (zI cn), .ref chk, .int (zI ln), .ref pa, .int (zI (-6)), .int (zI (-6)), .int (zI rs), .int (zI act), .int (zI fse), .ref rc, .ref qu, .ref ct, .ref ft, .ref wn, .ref wy, .ref nx, .ref im, .ref ik])), (bk, .inl (cI, 29, .inl (zA (nwS inc mat kd tm yr)))), (nw, .inl (cI, 29, .inl (zA (nwS inc mat (fun _ => -6) tm yr)))), (nt, .inl (cI, 9, .inl (zA ntf))), (df, .inl (cI, 9, .inl (zA dri))), (pa, .inl (cI, 60, .inl (zA sgn)))] H locs := hz
  refine lv_aload_n hx hb dX11_goYears_4 rfl (lv_at hl 0 rfl) ?_
  refine z_iconst hx hb dX11_goYears_5 ?_
  refine z_put (C := RX11) (T := TX11) (N := 23) (ref := "HornCityModel") (ty := .int) hx hb hts hin_X11_goYears_X11 hown hK hz tyX11 tyX11_ok nmX11 0 rfl rfl 12 (by decide) (hts _ fl_X11_goYears_113) rfl rfl (by decide +kernel) rfl rfl (Nat.le_of_ble_eq_true rfl) dX11_goYears_6 (fun H locs hz => ?_)
  have hz : zH D (zF ws0) H0 [(md, .inr (9, [.ref bk, .ref nw, .ref nt, .int (zI T), .ref df, .int (zI cn), .ref chk, .int (zI ln), .ref pa, .int (zI (-6)), .int (zI (-6)), .int (zI rs), .int (zI 0), .int (zI fse), .ref rc, .ref qu, .ref ct, .ref ft, .ref wn, .ref wy, .ref nx, .ref im, .ref ik])), (bk, .inl (cI, 29, .inl (zA (nwS inc mat kd tm yr)))), (nw, .inl (cI, 29, .inl (zA (nwS inc mat (fun _ => -6) tm yr)))), (nt, .inl (cI, 9, .inl (zA ntf))), (df, .inl (cI, 9, .inl (zA dri))), (pa, .inl (cI, 60, .inl (zA sgn)))] H locs := hz
  refine z_iconst hx hb dX11_goYears_9 ?_
  refine lv_istore_n (lv' := [(1, .int (zI 0)), (0, .ref md)]) hx hb dX11_goYears_10 rfl hl (Nat.le_of_ble_eq_true rfl) rfl (fun ls hl => ?_)
  have L11 : ∀ (n : Nat) (p1 wax wox rsx acx tmx yrx : Int) (incx matx kdx ntx : Int → Int) (H : Heap) (locs : List Loc) (ls : Array Slot), ((63 - p1).toNat = n) → (0 ≤ acx ∧ acx ≤ p1 ∧ p1 ≤ 62 ∧ acx ≤ 60) → (fpS ln sgn (60 - acx).toNat p1 = -6) → (zBd incx 9 0 179) → (mOk T matx) → ((0 ≤ tmx ∧ tmx ≤ 9) ∧ 0 ≤ yrx ∧ yrx ≤ 999) → ((wax = -6 ∨ 0 ≤ wax) ∧ -6 ≤ wax ∧ wax ≤ 60) → (runS T dri ln sgn 60 0 (inc, mat, tm, yr, (fun _ => -6), -6, -6, 0, 0) = runS T dri ln sgn (60 - acx).toNat p1 (incx, matx, tmx, yrx, kdx, wax, wox, acx, 0)) → zH D (zF ws0) H0 [(md, .inr (9, [.ref bk, .ref nw, .ref nt, .int (zI T), .ref df, .int (zI cn), .ref chk, .int (zI ln), .ref pa, .int (zI wax), .int (zI wox), .int (zI rsx), .int (zI acx), .int (zI fse), .ref rc, .ref qu, .ref ct, .ref ft, .ref wn, .ref wy, .ref nx, .ref im, .ref ik])), (bk, .inl (cI, 29, .inl (zA (nwS inc mat kd tm yr)))), (nw, .inl (cI, 29, .inl (zA (nwS incx matx kdx tmx yrx)))), (nt, .inl (cI, 9, .inl (zA ntx))), (df, .inl (cI, 9, .inl (zA dri))), (pa, .inl (cI, 60, .inl (zA sgn)))] H locs → lv_has ls 7 [(1, .int (zI p1)), (0, .ref md)] → W p l e (zRm 4) s m args below meth c H locs 0 0 Q (F0 m 11 ls []) := by
    intro n
    refine Nat.strongRecOn n ?_
    intro n ih11 p1 wax wox rsx acx tmx yrx incx matx kdx ntx H locs ls hn11 h0 hff hbx hmx htx hwx hrun hz hl
    refine lv_iload_n hx hb dX11_goYears_11 rfl (lv_at hl 0 rfl) ?_
    refine lv_aload_n hx hb dX11_goYears_12 rfl (lv_at hl 1 rfl) ?_
    refine z_get (C := RX11) (T := TX11) (N := 23) (ref := "HornCityModel") hx hb hts hin_X11_goYears_X11 hown hK hz 0 rfl rfl 7 (by decide) (hts _ fl_X11_goYears_87) rfl rfl dX11_goYears_13 ?_
    refine z_icmp_ge (tgt := 227) hx hb dX11_goYears_16 (by decide) (by omega) (by omega) (fun h16 => ?_) (fun h16 => ?_)
    ·
      refine z_bipush hx hb dX11_goYears_227 (by decide) ?_
      exact hret (((-6) : Int), (incx : Int → Int), (matx : Int → Int), (kdx : Int → Int), (tmx : Int), (yrx : Int), (ntx : Int → Int), (wax : Int), (wox : Int), (rsx : Int), (acx : Int)) dX11_goYears_229 (show (zRwh (rnW T dri ln sgn inc mat tm yr) = 0 → (-6) = -6 ∧ (incx, matx, tmx, yrx, kdx, wax, wox, acx, 0) = (rnW T dri ln sgn inc mat tm yr) ∧ mOk T matx) ∧ (¬ zRwh (rnW T dri ln sgn inc mat tm yr) = 0 → (-6) = zRac (rnW T dri ln sgn inc mat tm yr) ∧ rsx = zRwh (rnW T dri ln sgn inc mat tm yr) ∧ 0 ≤ (-6) ∧ 0 < rsx) from (by have hEQ : (incx, matx, tmx, yrx, kdx, wax, wox, acx, 0) = (rnW T dri ln sgn inc mat tm yr) := (by unfold rnW; rw [hrun, runS_end (by omega)]); exact ⟨fun _ => ⟨rfl, hEQ, hmx⟩, fun q => absurd (by rw [← hEQ]; rfl) q⟩)) hz
    ·
      refine lv_aload_n hx hb dX11_goYears_19 rfl (lv_at hl 1 rfl) ?_
      refine z_get (C := RX11) (T := TX11) (N := 23) (ref := "HornCityModel") hx hb hts hin_X11_goYears_X11 hown hK hz 0 rfl rfl 8 (by decide) (hts _ fl_X11_goYears_25) rfl rfl dX11_goYears_20 ?_
      refine lv_iload_n hx hb dX11_goYears_23 rfl (lv_at hl 0 rfl) ?_
      refine z_iald hx hb hK hz 5 rfl (by omega) (by decide) dX11_goYears_24 ?_
      have hv24 := (hbs).ax p1 (by omega)
      refine lv_istore_n (lv' := [(2, .int (zI (sgn p1))), (1, .int (zI p1)), (0, .ref md)]) hx hb dX11_goYears_25 rfl hl (Nat.le_of_ble_eq_true rfl) rfl (fun ls hl => ?_)
      have hfn := fp_next hff (by omega) (by omega)
      have hok := fa_ok hfn.1 (by omega) (by omega)
      refine lv_iload_n hx hb dX11_goYears_26 rfl (lv_at hl 0 rfl) ?_
      refine z_bipush hx hb dX11_goYears_27 (by decide) ?_
      refine z_icmp_ne (tgt := 46) hx hb dX11_goYears_29 (by decide) (by omega) (by decide) (fun h29 => ?_) (fun h29 => ?_)
      ·
        have hok2 : okB ln sgn p1 := hok.elim (fun q => absurd q h29) (fun q => q)
        have hko := isKS_or hok2.2.2.2.1
        have hk3 := hok2.2.1
        have hp1 := hok2.2.2.1
        have hp2 := hok2.2.2.2.2.2
        refine lv_iload_n hx hb dX11_goYears_46 rfl (lv_at hl 0 rfl) ?_
        refine z_bipush hx hb dX11_goYears_47 (by decide) ?_
        refine z_isub hx hb dX11_goYears_49 ?_
        refine lv_istore_n (lv' := [(3, .int (zI ((sgn p1) - 65))), (2, .int (zI (sgn p1))), (1, .int (zI p1)), (0, .ref md)]) hx hb dX11_goYears_50 rfl hl (Nat.le_of_ble_eq_true rfl) rfl (fun ls hl => ?_)
        refine lv_aload_n hx hb dX11_goYears_51 rfl (lv_at hl 3 rfl) ?_
        refine z_get (C := RX11) (T := TX11) (N := 23) (ref := "HornCityModel") hx hb hts hin_X11_goYears_X11 hown hK hz 0 rfl rfl 8 (by decide) (hts _ fl_X11_goYears_25) rfl rfl dX11_goYears_52 ?_
        refine lv_iload_n hx hb dX11_goYears_55 rfl (lv_at hl 2 rfl) ?_
        refine z_iconst hx hb dX11_goYears_56 ?_
        refine z_iadd hx hb dX11_goYears_57 ?_
        refine z_iald hx hb hK hz 5 rfl (by omega) (by decide) dX11_goYears_58 ?_
        have hv58 := (hbs).ax (p1 + 1) (by omega)
        refine lv_istore (lv' := [(4, .int (zI (sgn (p1 + 1)))), (3, .int (zI ((sgn p1) - 65))), (2, .int (zI (sgn p1))), (1, .int (zI p1)), (0, .ref md)]) hx hb dX11_goYears_59 hl (Nat.le_of_ble_eq_true rfl) rfl (fun ls hl => ?_)
        refine lv_iload hx hb dX11_goYears_61 (lv_at hl 0 rfl) ?_
        refine z_bipush hx hb dX11_goYears_63 (by decide) ?_
        refine z_icmp_eq (tgt := 82) hx hb dX11_goYears_65 (by decide) (by omega) (by decide) (fun h65 => ?_) (fun h65 => ?_)
        ·
          refine z_iconst hx hb dX11_goYears_82 ?_
          refine lv_goto (tgt := 87) hx hb dX11_goYears_83 (by decide) ?_
          refine lv_istore (lv' := [(5, .int (zI 1)), (4, .int (zI (sgn (p1 + 1)))), (3, .int (zI ((sgn p1) - 65))), (2, .int (zI (sgn p1))), (1, .int (zI p1)), (0, .ref md)]) hx hb dX11_goYears_87 hl (Nat.le_of_ble_eq_true rfl) rfl (fun ls hl => ?_)
          refine lv_aload_n hx hb dX11_goYears_89 rfl (lv_at hl 5 rfl) ?_
          refine lv_aload_n hx hb dX11_goYears_90 rfl (lv_at hl 5 rfl) ?_
          refine lv_iload_n hx hb dX11_goYears_91 rfl (lv_at hl 2 rfl) ?_
          refine lv_iload hx hb dX11_goYears_92 (lv_at hl 1 rfl) ?_
          refine lv_iload hx hb dX11_goYears_94 (lv_at hl 0 rfl) ?_
          refine z_if_eq (tgt := 110) hx hb dX11_goYears_96 (by decide) (by decide) (fun h96 => ?_) (fun h96 => ?_)
          ·
            exfalso
            first | omega | (revert h96; simp_all; done) | simp_all
          ·
            refine lv_aload_n hx hb dX11_goYears_99 rfl (lv_at hl 5 rfl) ?_
            refine z_get (C := RX11) (T := TX11) (N := 23) (ref := "HornCityModel") hx hb hts hin_X11_goYears_X11 hown hK hz 0 rfl rfl 8 (by decide) (hts _ fl_X11_goYears_25) rfl rfl dX11_goYears_100 ?_
            refine lv_iload_n hx hb dX11_goYears_103 rfl (lv_at hl 4 rfl) ?_
            refine z_iconst hx hb dX11_goYears_104 ?_
            refine z_iadd hx hb dX11_goYears_105 ?_
            refine z_iald hx hb hK hz 5 rfl (by omega) (by decide) dX11_goYears_106 ?_
            have hv106 := (hbs).ax (p1 + 2) (by omega)
            refine lv_goto (tgt := 112) hx hb dX11_goYears_107 (by decide) ?_
            refine z_callVw (As := [.int (zI ((sgn p1) - 65)), .int (zI (sgn (p1 + 1))), .int (zI (sgn (p1 + 2)))]) (rest := [.ref md]) (C := RX11) (T := TX11) (N := 23) F hK hz hl (c_X11_oneAct l D cI cJ cZ md bk nw nt df chk pa rc qu ct ft wn wy nx im ik incx matx kdx T cn ln wax wox rsx acx fse tmx yrx ((sgn p1) - 65) (sgn (p1 + 1)) (sgn (p1 + 2)) dri (by omega) (by omega) (hok2.2.2.2.1) (by first | assumption | omega) (hbx) (by assumption) (by omega)) (cwV 3 hts gX11_goYears_X11_oneAct rfl rfl rfl (by decide +kernel) ⟨Nat.le_of_ble_eq_true rfl, Nat.le_of_ble_eq_true rfl⟩) rfl 0 rfl [0, 2] rfl rfl (by decide +kernel) rfl rfl (Nat.le_of_ble_eq_true rfl) ⟨Nat.le_of_ble_eq_true rfl, Nat.le_of_ble_eq_true rfl⟩ dX11_goYears_112 (fun u H locs hu hz => ?_)
            obtain ⟨r_8, inc1_9, mat1_10, kd1_11⟩ := u
            have hu : r_8 = whyS T matx yrx (sgn (p1 + 1)) ((sgn p1) - 65) (if (sgn (p1 + 1)) = 38 then (sgn (p1 + 2)) - 65 else (sgn (p1 + 2)) - 48) ∧ (whyS T matx yrx (sgn (p1 + 1)) ((sgn p1) - 65) (if (sgn (p1 + 1)) = 38 then (sgn (p1 + 2)) - 65 else (sgn (p1 + 2)) - 48) = 0 → inc1_9 = actI T dri matx incx (sgn (p1 + 1)) ((sgn p1) - 65) (if (sgn (p1 + 1)) = 38 then (sgn (p1 + 2)) - 65 else (sgn (p1 + 2)) - 48) ∧ mat1_10 = actM T matx (sgn (p1 + 1)) ((sgn p1) - 65) (if (sgn (p1 + 1)) = 38 then (sgn (p1 + 2)) - 65 else (sgn (p1 + 2)) - 48) ∧ kd1_11 = (if (sgn (p1 + 1)) = 58 ∨ (sgn (p1 + 1)) = 63 then zU kdx ((sgn p1) - 65) (cvS T incx tmx ((sgn p1) - 65) ((sgn (p1 + 1)) = 63)) else kdx)) := hu
            obtain ⟨g112_0, hc112_1⟩ := hu
            have g112_0 := g112_0.symm
            subst g112_0
            have hz : zH D (zF ws0) H0 [(md, .inr (9, [.ref bk, .ref nw, .ref nt, .int (zI T), .ref df, .int (zI cn), .ref chk, .int (zI ln), .ref pa, .int (zI wax), .int (zI wox), .int (zI rsx), .int (zI acx), .int (zI fse), .ref rc, .ref qu, .ref ct, .ref ft, .ref wn, .ref wy, .ref nx, .ref im, .ref ik])), (bk, .inl (cI, 29, .inl (zA (nwS inc mat kd tm yr)))), (nw, .inl (cI, 29, .inl (zA (nwS inc1_9 mat1_10 kd1_11 tmx yrx)))), (nt, .inl (cI, 9, .inl (zA ntx))), (df, .inl (cI, 9, .inl (zA dri))), (pa, .inl (cI, 60, .inl (zA sgn)))] H locs := hz
            refine z_put (C := RX11) (T := TX11) (N := 23) (ref := "HornCityModel") (ty := .int) hx hb hts hin_X11_goYears_X11 hown hK hz tyX11 tyX11_ok nmX11 0 rfl rfl 11 (by decide) (hts _ fl_X11_goYears_119) rfl rfl (by decide +kernel) rfl rfl (Nat.le_of_ble_eq_true rfl) dX11_goYears_115 (fun H locs hz => ?_)
            have hz : zH D (zF ws0) H0 [(md, .inr (9, [.ref bk, .ref nw, .ref nt, .int (zI T), .ref df, .int (zI cn), .ref chk, .int (zI ln), .ref pa, .int (zI wax), .int (zI wox), .int (zI (whyS T matx yrx (sgn (p1 + 1)) ((sgn p1) - 65) (if (sgn (p1 + 1)) = 38 then (sgn (p1 + 2)) - 65 else (sgn (p1 + 2)) - 48))), .int (zI acx), .int (zI fse), .ref rc, .ref qu, .ref ct, .ref ft, .ref wn, .ref wy, .ref nx, .ref im, .ref ik])), (bk, .inl (cI, 29, .inl (zA (nwS inc mat kd tm yr)))), (nw, .inl (cI, 29, .inl (zA (nwS inc1_9 mat1_10 kd1_11 tmx yrx)))), (nt, .inl (cI, 9, .inl (zA ntx))), (df, .inl (cI, 9, .inl (zA dri))), (pa, .inl (cI, 60, .inl (zA sgn)))] H locs := hz
            refine lv_iload_n hx hb dX11_goYears_118 rfl (lv_at hl 4 rfl) ?_
            refine lv_iload hx hb dX11_goYears_119 (lv_at hl 0 rfl) ?_
            refine z_if_eq (tgt := 128) hx hb dX11_goYears_121 (by decide) (by decide) (fun h121 => ?_) (fun h121 => ?_)
            ·
              exfalso
              first | omega | (revert h121; simp_all; done) | simp_all
            ·
              refine z_iconst hx hb dX11_goYears_124 ?_
              refine lv_goto (tgt := 129) hx hb dX11_goYears_125 (by decide) ?_
              refine z_iadd hx hb dX11_goYears_129 ?_
              refine lv_istore_n (lv' := [(1, .int (zI (p1 + 3))), (5, .int (zI 1)), (4, .int (zI (sgn (p1 + 1)))), (3, .int (zI ((sgn p1) - 65))), (2, .int (zI (sgn p1))), (0, .ref md)]) hx hb dX11_goYears_130 rfl hl (Nat.le_of_ble_eq_true rfl) rfl (fun ls hl => ?_)
              have hwc : 0 ≤ whyS T matx yrx (sgn (p1 + 1)) ((sgn p1) - 65) (if (sgn (p1 + 1)) = 38 then (sgn (p1 + 2)) - 65 else (sgn (p1 + 2)) - 48) ∧ whyS T matx yrx (sgn (p1 + 1)) ((sgn p1) - 65) (if (sgn (p1 + 1)) = 38 then (sgn (p1 + 2)) - 65 else (sgn (p1 + 2)) - 48) ≤ 4 := whyS_bd _ _ _ _ _ _
              refine lv_aload_n hx hb dX11_goYears_131 rfl (lv_at hl 5 rfl) ?_
              refine z_get (C := RX11) (T := TX11) (N := 23) (ref := "HornCityModel") hx hb hts hin_X11_goYears_X11 hown hK hz 0 rfl rfl 11 (by decide) (hts _ fl_X11_goYears_119) rfl rfl dX11_goYears_132 ?_
              refine z_if_ne (tgt := 156) hx hb dX11_goYears_135 (by decide) (by omega) (fun h135 => ?_) (fun h135 => ?_)
              ·
                refine z_iconst hx hb dX11_goYears_156 ?_
                refine lv_istore (lv' := [(6, .int (zI 0)), (1, .int (zI (p1 + 3))), (5, .int (zI 1)), (4, .int (zI (sgn (p1 + 1)))), (3, .int (zI ((sgn p1) - 65))), (2, .int (zI (sgn p1))), (0, .ref md)]) hx hb dX11_goYears_157 hl (Nat.le_of_ble_eq_true rfl) rfl (fun ls hl => ?_)
                refine lv_iload hx hb dX11_goYears_159 (lv_at hl 0 rfl) ?_
                refine z_if_eq (tgt := 202) hx hb dX11_goYears_161 (by decide) (by decide) (fun h161 => ?_) (fun h161 => ?_)
                ·
                  have hwb : 0 ≤ whyS T matx yrx (sgn (p1 + 1)) ((sgn p1) - 65) (if (sgn (p1 + 1)) = 38 then (sgn (p1 + 2)) - 65 else (sgn (p1 + 2)) - 48) ∧ whyS T matx yrx (sgn (p1 + 1)) ((sgn p1) - 65) (if (sgn (p1 + 1)) = 38 then (sgn (p1 + 2)) - 65 else (sgn (p1 + 2)) - 48) ≤ 4 := whyS_bd _ _ _ _ _ _
                  refine lv_aload_n hx hb dX11_goYears_202 rfl (lv_at hl 6 rfl) ?_
                  refine z_get (C := RX11) (T := TX11) (N := 23) (ref := "HornCityModel") hx hb hts hin_X11_goYears_X11 hown hK hz 0 rfl rfl 11 (by decide) (hts _ fl_X11_goYears_119) rfl rfl dX11_goYears_203 ?_
                  refine z_if_le (tgt := 214) hx hb dX11_goYears_206 (by decide) (by omega) (fun h206 => ?_) (fun h206 => ?_)
                  ·
                    exfalso; omega
                  ·
                    refine lv_aload_n hx hb dX11_goYears_209 rfl (lv_at hl 6 rfl) ?_
                    refine z_get (C := RX11) (T := TX11) (N := 23) (ref := "HornCityModel") hx hb hts hin_X11_goYears_X11 hown hK hz 0 rfl rfl 12 (by decide) (hts _ fl_X11_goYears_113) rfl rfl dX11_goYears_210 ?_
                    exact hret ((acx : Int), (inc1_9 : Int → Int), (mat1_10 : Int → Int), (kd1_11 : Int → Int), (tmx : Int), (yrx : Int), (ntx : Int → Int), (wax : Int), (wox : Int), ((whyS T matx yrx (sgn (p1 + 1)) ((sgn p1) - 65) (if (sgn (p1 + 1)) = 38 then (sgn (p1 + 2)) - 65 else (sgn (p1 + 2)) - 48)) : Int), (acx : Int)) dX11_goYears_213 (show (zRwh (rnW T dri ln sgn inc mat tm yr) = 0 → acx = -6 ∧ (inc1_9, mat1_10, tmx, yrx, kd1_11, wax, wox, acx, 0) = (rnW T dri ln sgn inc mat tm yr) ∧ mOk T mat1_10) ∧ (¬ zRwh (rnW T dri ln sgn inc mat tm yr) = 0 → acx = zRac (rnW T dri ln sgn inc mat tm yr) ∧ (whyS T matx yrx (sgn (p1 + 1)) ((sgn p1) - 65) (if (sgn (p1 + 1)) = 38 then (sgn (p1 + 2)) - 65 else (sgn (p1 + 2)) - 48)) = zRwh (rnW T dri ln sgn inc mat tm yr) ∧ 0 ≤ acx ∧ 0 < (whyS T matx yrx (sgn (p1 + 1)) ((sgn p1) - 65) (if (sgn (p1 + 1)) = 38 then (sgn (p1 + 2)) - 65 else (sgn (p1 + 2)) - 48))) from (by have hne : ¬ whyS T matx yrx (sgn (p1 + 1)) (sgn p1 - 65) (laS (sgn (p1 + 1)) (sgn (p1 + 2))) = 0 := (by omega); have hEQ : (rnW T dri ln sgn inc mat tm yr) = (incx, matx, tmx, yrx, kdx, wax, wox, acx, whyS T matx yrx (sgn (p1 + 1)) (sgn p1 - 65) (laS (sgn (p1 + 1)) (sgn (p1 + 2)))) := (by unfold rnW; rw [hrun, noB (la := (sgn (p1 + 2))) (show 0 ≤ acx ∧ acx < 60 by omega) (show 0 ≤ p1 ∧ p1 < ln by omega) hok2 (fun _ => rfl) hne]); exact ⟨fun q => absurd (by rw [hEQ] at q; exact q) hne, fun _ => ⟨by rw [hEQ]; rfl, by rw [hEQ]; rfl, by omega, by omega⟩⟩)) hz
                ·
                  exfalso
                  first | omega | (revert h161; simp_all; done) | simp_all
              ·
                refine lv_iload hx hb dX11_goYears_138 (lv_at hl 2 rfl) ?_
                refine z_bipush hx hb dX11_goYears_140 (by decide) ?_
                refine z_icmp_eq (tgt := 152) hx hb dX11_goYears_142 (by decide) (by omega) (by decide) (fun h142 => ?_) (fun h142 => ?_)
                ·
                  exfalso
                  first | omega | (revert h142; simp_all; done) | simp_all
                ·
                  refine lv_iload hx hb dX11_goYears_145 (lv_at hl 2 rfl) ?_
                  refine z_bipush hx hb dX11_goYears_147 (by decide) ?_
                  refine z_icmp_ne (tgt := 156) hx hb dX11_goYears_149 (by decide) (by omega) (by decide) (fun h149 => ?_) (fun h149 => ?_)
                  ·
                    refine z_iconst hx hb dX11_goYears_156 ?_
                    refine lv_istore (lv' := [(6, .int (zI 0)), (1, .int (zI (p1 + 3))), (5, .int (zI 1)), (4, .int (zI (sgn (p1 + 1)))), (3, .int (zI ((sgn p1) - 65))), (2, .int (zI (sgn p1))), (0, .ref md)]) hx hb dX11_goYears_157 hl (Nat.le_of_ble_eq_true rfl) rfl (fun ls hl => ?_)
                    refine lv_iload hx hb dX11_goYears_159 (lv_at hl 0 rfl) ?_
                    refine z_if_eq (tgt := 202) hx hb dX11_goYears_161 (by decide) (by decide) (fun h161 => ?_) (fun h161 => ?_)
                    ·
                      have hwb : 0 ≤ whyS T matx yrx (sgn (p1 + 1)) ((sgn p1) - 65) (if (sgn (p1 + 1)) = 38 then (sgn (p1 + 2)) - 65 else (sgn (p1 + 2)) - 48) ∧ whyS T matx yrx (sgn (p1 + 1)) ((sgn p1) - 65) (if (sgn (p1 + 1)) = 38 then (sgn (p1 + 2)) - 65 else (sgn (p1 + 2)) - 48) ≤ 4 := whyS_bd _ _ _ _ _ _
                      have hbad : ¬ ((sgn (p1 + 1) = 58 ∨ sgn (p1 + 1) = 63) ∧ ¬ cvS T incx tmx (sgn p1 - 65) (sgn (p1 + 1) = 63) = inO T incx (sgn p1 - 65) ∧ wax = -6) := fun q => by omega
                      refine lv_aload_n hx hb dX11_goYears_202 rfl (lv_at hl 6 rfl) ?_
                      refine z_get (C := RX11) (T := TX11) (N := 23) (ref := "HornCityModel") hx hb hts hin_X11_goYears_X11 hown hK hz 0 rfl rfl 11 (by decide) (hts _ fl_X11_goYears_119) rfl rfl dX11_goYears_203 ?_
                      refine z_if_le (tgt := 214) hx hb dX11_goYears_206 (by decide) (by omega) (fun h206 => ?_) (fun h206 => ?_)
                      ·
                        have hw0 : whyS T matx yrx (sgn (p1 + 1)) (sgn p1 - 65) (laS (sgn (p1 + 1)) (sgn (p1 + 2))) = 0 := by first | omega | exact h135
                        obtain ⟨he1, he2, he3⟩ := hc112_1 hw0
                        refine lv_aload_n hx hb dX11_goYears_214 rfl (lv_at hl 6 rfl) ?_
                        refine lv_dup hx hb dX11_goYears_215 rfl ?_
                        refine z_get (C := RX11) (T := TX11) (N := 23) (ref := "HornCityModel") hx hb hts hin_X11_goYears_X11 hown hK hz 0 rfl rfl 12 (by decide) (hts _ fl_X11_goYears_113) rfl rfl dX11_goYears_216 ?_
                        refine z_iconst hx hb dX11_goYears_219 ?_
                        refine z_iadd hx hb dX11_goYears_220 ?_
                        refine z_put (C := RX11) (T := TX11) (N := 23) (ref := "HornCityModel") (ty := .int) hx hb hts hin_X11_goYears_X11 hown hK hz tyX11 tyX11_ok nmX11 0 rfl rfl 12 (by decide) (hts _ fl_X11_goYears_113) rfl rfl (by decide +kernel) rfl rfl (Nat.le_of_ble_eq_true rfl) dX11_goYears_221 (fun H locs hz => ?_)
                        have hz : zH D (zF ws0) H0 [(md, .inr (9, [.ref bk, .ref nw, .ref nt, .int (zI T), .ref df, .int (zI cn), .ref chk, .int (zI ln), .ref pa, .int (zI wax), .int (zI wox), .int (zI (whyS T matx yrx (sgn (p1 + 1)) ((sgn p1) - 65) (if (sgn (p1 + 1)) = 38 then (sgn (p1 + 2)) - 65 else (sgn (p1 + 2)) - 48))), .int (zI (acx + 1)), .int (zI fse), .ref rc, .ref qu, .ref ct, .ref ft, .ref wn, .ref wy, .ref nx, .ref im, .ref ik])), (bk, .inl (cI, 29, .inl (zA (nwS inc mat kd tm yr)))), (nw, .inl (cI, 29, .inl (zA (nwS inc1_9 mat1_10 kd1_11 tmx yrx)))), (nt, .inl (cI, 9, .inl (zA ntx))), (df, .inl (cI, 9, .inl (zA dri))), (pa, .inl (cI, 60, .inl (zA sgn)))] H locs := hz
                        refine lv_goto (tgt := 11) hx hb dX11_goYears_224 (by decide) ?_
                        exact ih11 _ (by omega) (p1 + 3) wax wox (whyS T matx yrx (sgn (p1 + 1)) ((sgn p1) - 65) (if (sgn (p1 + 1)) = 38 then (sgn (p1 + 2)) - 65 else (sgn (p1 + 2)) - 48)) (acx + 1) tmx yrx inc1_9 mat1_10 kd1_11 ntx H locs ls rfl (by omega) (by have h7 := hfn.2; rw [len3 (by rw [hok2.2.2.2.2.1]; omega)] at h7; exact h7) (by rw [he1]; exact actI_bd hbx) (by rw [he2]; exact mOk_act hmx hw0) (htx) (by omega) (by rw [hrun, runB (la := (sgn (p1 + 2))) (show 0 ≤ acx ∧ acx < 60 by omega) (show 0 ≤ p1 ∧ p1 < ln by omega) hok2 (fun _ => rfl) hw0, len3 (by rw [hok2.2.2.2.2.1]; omega)]; congr 1; simp only [stpS]; rw [← he1, ← he2, ← he3, show actH tmx yrx (sgn (p1 + 1)) = tmx from if_neg (by omega), show actY yrx (sgn (p1 + 1)) = yrx from if_neg (by omega)]; rw [if_neg hbad, if_neg hbad]) hz (lv_sub hl [1, 6] rfl)
                      ·
                        refine lv_aload_n hx hb dX11_goYears_209 rfl (lv_at hl 6 rfl) ?_
                        refine z_get (C := RX11) (T := TX11) (N := 23) (ref := "HornCityModel") hx hb hts hin_X11_goYears_X11 hown hK hz 0 rfl rfl 12 (by decide) (hts _ fl_X11_goYears_113) rfl rfl dX11_goYears_210 ?_
                        exact hret ((acx : Int), (inc1_9 : Int → Int), (mat1_10 : Int → Int), (kd1_11 : Int → Int), (tmx : Int), (yrx : Int), (ntx : Int → Int), (wax : Int), (wox : Int), ((whyS T matx yrx (sgn (p1 + 1)) ((sgn p1) - 65) (if (sgn (p1 + 1)) = 38 then (sgn (p1 + 2)) - 65 else (sgn (p1 + 2)) - 48)) : Int), (acx : Int)) dX11_goYears_213 (show (zRwh (rnW T dri ln sgn inc mat tm yr) = 0 → acx = -6 ∧ (inc1_9, mat1_10, tmx, yrx, kd1_11, wax, wox, acx, 0) = (rnW T dri ln sgn inc mat tm yr) ∧ mOk T mat1_10) ∧ (¬ zRwh (rnW T dri ln sgn inc mat tm yr) = 0 → acx = zRac (rnW T dri ln sgn inc mat tm yr) ∧ (whyS T matx yrx (sgn (p1 + 1)) ((sgn p1) - 65) (if (sgn (p1 + 1)) = 38 then (sgn (p1 + 2)) - 65 else (sgn (p1 + 2)) - 48)) = zRwh (rnW T dri ln sgn inc mat tm yr) ∧ 0 ≤ acx ∧ 0 < (whyS T matx yrx (sgn (p1 + 1)) ((sgn p1) - 65) (if (sgn (p1 + 1)) = 38 then (sgn (p1 + 2)) - 65 else (sgn (p1 + 2)) - 48))) from (by have hne : ¬ whyS T matx yrx (sgn (p1 + 1)) (sgn p1 - 65) (laS (sgn (p1 + 1)) (sgn (p1 + 2))) = 0 := (by omega); have hEQ : (rnW T dri ln sgn inc mat tm yr) = (incx, matx, tmx, yrx, kdx, wax, wox, acx, whyS T matx yrx (sgn (p1 + 1)) (sgn p1 - 65) (laS (sgn (p1 + 1)) (sgn (p1 + 2)))) := (by unfold rnW; rw [hrun, noB (la := (sgn (p1 + 2))) (show 0 ≤ acx ∧ acx < 60 by omega) (show 0 ≤ p1 ∧ p1 < ln by omega) hok2 (fun _ => rfl) hne]); exact ⟨fun q => absurd (by rw [hEQ] at q; exact q) hne, fun _ => ⟨by rw [hEQ]; rfl, by rw [hEQ]; rfl, by omega, by omega⟩⟩)) hz
                    ·
                      exfalso
                      first | omega | (revert h161; simp_all; done) | simp_all
                  ·
                    exfalso
                    first | omega | (revert h149; simp_all; done) | simp_all
        ·
          refine lv_iload hx hb dX11_goYears_68 (lv_at hl 0 rfl) ?_
          refine z_bipush hx hb dX11_goYears_70 (by decide) ?_
          refine z_icmp_eq (tgt := 82) hx hb dX11_goYears_72 (by decide) (by omega) (by decide) (fun h72 => ?_) (fun h72 => ?_)
          ·
            refine z_iconst hx hb dX11_goYears_82 ?_
            refine lv_goto (tgt := 87) hx hb dX11_goYears_83 (by decide) ?_
            refine lv_istore (lv' := [(5, .int (zI 1)), (4, .int (zI (sgn (p1 + 1)))), (3, .int (zI ((sgn p1) - 65))), (2, .int (zI (sgn p1))), (1, .int (zI p1)), (0, .ref md)]) hx hb dX11_goYears_87 hl (Nat.le_of_ble_eq_true rfl) rfl (fun ls hl => ?_)
            refine lv_aload_n hx hb dX11_goYears_89 rfl (lv_at hl 5 rfl) ?_
            refine lv_aload_n hx hb dX11_goYears_90 rfl (lv_at hl 5 rfl) ?_
            refine lv_iload_n hx hb dX11_goYears_91 rfl (lv_at hl 2 rfl) ?_
            refine lv_iload hx hb dX11_goYears_92 (lv_at hl 1 rfl) ?_
            refine lv_iload hx hb dX11_goYears_94 (lv_at hl 0 rfl) ?_
            refine z_if_eq (tgt := 110) hx hb dX11_goYears_96 (by decide) (by decide) (fun h96 => ?_) (fun h96 => ?_)
            ·
              exfalso
              first | omega | (revert h96; simp_all; done) | simp_all
            ·
              refine lv_aload_n hx hb dX11_goYears_99 rfl (lv_at hl 5 rfl) ?_
              refine z_get (C := RX11) (T := TX11) (N := 23) (ref := "HornCityModel") hx hb hts hin_X11_goYears_X11 hown hK hz 0 rfl rfl 8 (by decide) (hts _ fl_X11_goYears_25) rfl rfl dX11_goYears_100 ?_
              refine lv_iload_n hx hb dX11_goYears_103 rfl (lv_at hl 4 rfl) ?_
              refine z_iconst hx hb dX11_goYears_104 ?_
              refine z_iadd hx hb dX11_goYears_105 ?_
              refine z_iald hx hb hK hz 5 rfl (by omega) (by decide) dX11_goYears_106 ?_
              have hv106 := (hbs).ax (p1 + 2) (by omega)
              refine lv_goto (tgt := 112) hx hb dX11_goYears_107 (by decide) ?_
              refine z_callVw (As := [.int (zI ((sgn p1) - 65)), .int (zI (sgn (p1 + 1))), .int (zI (sgn (p1 + 2)))]) (rest := [.ref md]) (C := RX11) (T := TX11) (N := 23) F hK hz hl (c_X11_oneAct l D cI cJ cZ md bk nw nt df chk pa rc qu ct ft wn wy nx im ik incx matx kdx T cn ln wax wox rsx acx fse tmx yrx ((sgn p1) - 65) (sgn (p1 + 1)) (sgn (p1 + 2)) dri (by omega) (by omega) (hok2.2.2.2.1) (by first | assumption | omega) (hbx) (by assumption) (by omega)) (cwV 3 hts gX11_goYears_X11_oneAct rfl rfl rfl (by decide +kernel) ⟨Nat.le_of_ble_eq_true rfl, Nat.le_of_ble_eq_true rfl⟩) rfl 0 rfl [0, 2] rfl rfl (by decide +kernel) rfl rfl (Nat.le_of_ble_eq_true rfl) ⟨Nat.le_of_ble_eq_true rfl, Nat.le_of_ble_eq_true rfl⟩ dX11_goYears_112 (fun u H locs hu hz => ?_)
              obtain ⟨r_12, inc1_13, mat1_14, kd1_15⟩ := u
              have hu : r_12 = whyS T matx yrx (sgn (p1 + 1)) ((sgn p1) - 65) (if (sgn (p1 + 1)) = 38 then (sgn (p1 + 2)) - 65 else (sgn (p1 + 2)) - 48) ∧ (whyS T matx yrx (sgn (p1 + 1)) ((sgn p1) - 65) (if (sgn (p1 + 1)) = 38 then (sgn (p1 + 2)) - 65 else (sgn (p1 + 2)) - 48) = 0 → inc1_13 = actI T dri matx incx (sgn (p1 + 1)) ((sgn p1) - 65) (if (sgn (p1 + 1)) = 38 then (sgn (p1 + 2)) - 65 else (sgn (p1 + 2)) - 48) ∧ mat1_14 = actM T matx (sgn (p1 + 1)) ((sgn p1) - 65) (if (sgn (p1 + 1)) = 38 then (sgn (p1 + 2)) - 65 else (sgn (p1 + 2)) - 48) ∧ kd1_15 = (if (sgn (p1 + 1)) = 58 ∨ (sgn (p1 + 1)) = 63 then zU kdx ((sgn p1) - 65) (cvS T incx tmx ((sgn p1) - 65) ((sgn (p1 + 1)) = 63)) else kdx)) := hu
              obtain ⟨g112_0, hc112_1⟩ := hu
              have g112_0 := g112_0.symm
              subst g112_0
              have hz : zH D (zF ws0) H0 [(md, .inr (9, [.ref bk, .ref nw, .ref nt, .int (zI T), .ref df, .int (zI cn), .ref chk, .int (zI ln), .ref pa, .int (zI wax), .int (zI wox), .int (zI rsx), .int (zI acx), .int (zI fse), .ref rc, .ref qu, .ref ct, .ref ft, .ref wn, .ref wy, .ref nx, .ref im, .ref ik])), (bk, .inl (cI, 29, .inl (zA (nwS inc mat kd tm yr)))), (nw, .inl (cI, 29, .inl (zA (nwS inc1_13 mat1_14 kd1_15 tmx yrx)))), (nt, .inl (cI, 9, .inl (zA ntx))), (df, .inl (cI, 9, .inl (zA dri))), (pa, .inl (cI, 60, .inl (zA sgn)))] H locs := hz
              refine z_put (C := RX11) (T := TX11) (N := 23) (ref := "HornCityModel") (ty := .int) hx hb hts hin_X11_goYears_X11 hown hK hz tyX11 tyX11_ok nmX11 0 rfl rfl 11 (by decide) (hts _ fl_X11_goYears_119) rfl rfl (by decide +kernel) rfl rfl (Nat.le_of_ble_eq_true rfl) dX11_goYears_115 (fun H locs hz => ?_)
              have hz : zH D (zF ws0) H0 [(md, .inr (9, [.ref bk, .ref nw, .ref nt, .int (zI T), .ref df, .int (zI cn), .ref chk, .int (zI ln), .ref pa, .int (zI wax), .int (zI wox), .int (zI (whyS T matx yrx (sgn (p1 + 1)) ((sgn p1) - 65) (if (sgn (p1 + 1)) = 38 then (sgn (p1 + 2)) - 65 else (sgn (p1 + 2)) - 48))), .int (zI acx), .int (zI fse), .ref rc, .ref qu, .ref ct, .ref ft, .ref wn, .ref wy, .ref nx, .ref im, .ref ik])), (bk, .inl (cI, 29, .inl (zA (nwS inc mat kd tm yr)))), (nw, .inl (cI, 29, .inl (zA (nwS inc1_13 mat1_14 kd1_15 tmx yrx)))), (nt, .inl (cI, 9, .inl (zA ntx))), (df, .inl (cI, 9, .inl (zA dri))), (pa, .inl (cI, 60, .inl (zA sgn)))] H locs := hz
              refine lv_iload_n hx hb dX11_goYears_118 rfl (lv_at hl 4 rfl) ?_
              refine lv_iload hx hb dX11_goYears_119 (lv_at hl 0 rfl) ?_
              refine z_if_eq (tgt := 128) hx hb dX11_goYears_121 (by decide) (by decide) (fun h121 => ?_) (fun h121 => ?_)
              ·
                exfalso
                first | omega | (revert h121; simp_all; done) | simp_all
              ·
                refine z_iconst hx hb dX11_goYears_124 ?_
                refine lv_goto (tgt := 129) hx hb dX11_goYears_125 (by decide) ?_
                refine z_iadd hx hb dX11_goYears_129 ?_
                refine lv_istore_n (lv' := [(1, .int (zI (p1 + 3))), (5, .int (zI 1)), (4, .int (zI (sgn (p1 + 1)))), (3, .int (zI ((sgn p1) - 65))), (2, .int (zI (sgn p1))), (0, .ref md)]) hx hb dX11_goYears_130 rfl hl (Nat.le_of_ble_eq_true rfl) rfl (fun ls hl => ?_)
                have hwc : 0 ≤ whyS T matx yrx (sgn (p1 + 1)) ((sgn p1) - 65) (if (sgn (p1 + 1)) = 38 then (sgn (p1 + 2)) - 65 else (sgn (p1 + 2)) - 48) ∧ whyS T matx yrx (sgn (p1 + 1)) ((sgn p1) - 65) (if (sgn (p1 + 1)) = 38 then (sgn (p1 + 2)) - 65 else (sgn (p1 + 2)) - 48) ≤ 4 := whyS_bd _ _ _ _ _ _
                refine lv_aload_n hx hb dX11_goYears_131 rfl (lv_at hl 5 rfl) ?_
                refine z_get (C := RX11) (T := TX11) (N := 23) (ref := "HornCityModel") hx hb hts hin_X11_goYears_X11 hown hK hz 0 rfl rfl 11 (by decide) (hts _ fl_X11_goYears_119) rfl rfl dX11_goYears_132 ?_
                refine z_if_ne (tgt := 156) hx hb dX11_goYears_135 (by decide) (by omega) (fun h135 => ?_) (fun h135 => ?_)
                ·
                  refine z_iconst hx hb dX11_goYears_156 ?_
                  refine lv_istore (lv' := [(6, .int (zI 0)), (1, .int (zI (p1 + 3))), (5, .int (zI 1)), (4, .int (zI (sgn (p1 + 1)))), (3, .int (zI ((sgn p1) - 65))), (2, .int (zI (sgn p1))), (0, .ref md)]) hx hb dX11_goYears_157 hl (Nat.le_of_ble_eq_true rfl) rfl (fun ls hl => ?_)
                  refine lv_iload hx hb dX11_goYears_159 (lv_at hl 0 rfl) ?_
                  refine z_if_eq (tgt := 202) hx hb dX11_goYears_161 (by decide) (by decide) (fun h161 => ?_) (fun h161 => ?_)
                  ·
                    have hwb : 0 ≤ whyS T matx yrx (sgn (p1 + 1)) ((sgn p1) - 65) (if (sgn (p1 + 1)) = 38 then (sgn (p1 + 2)) - 65 else (sgn (p1 + 2)) - 48) ∧ whyS T matx yrx (sgn (p1 + 1)) ((sgn p1) - 65) (if (sgn (p1 + 1)) = 38 then (sgn (p1 + 2)) - 65 else (sgn (p1 + 2)) - 48) ≤ 4 := whyS_bd _ _ _ _ _ _
                    refine lv_aload_n hx hb dX11_goYears_202 rfl (lv_at hl 6 rfl) ?_
                    refine z_get (C := RX11) (T := TX11) (N := 23) (ref := "HornCityModel") hx hb hts hin_X11_goYears_X11 hown hK hz 0 rfl rfl 11 (by decide) (hts _ fl_X11_goYears_119) rfl rfl dX11_goYears_203 ?_
                    refine z_if_le (tgt := 214) hx hb dX11_goYears_206 (by decide) (by omega) (fun h206 => ?_) (fun h206 => ?_)
                    ·
                      exfalso; omega
                    ·
                      refine lv_aload_n hx hb dX11_goYears_209 rfl (lv_at hl 6 rfl) ?_
                      refine z_get (C := RX11) (T := TX11) (N := 23) (ref := "HornCityModel") hx hb hts hin_X11_goYears_X11 hown hK hz 0 rfl rfl 12 (by decide) (hts _ fl_X11_goYears_113) rfl rfl dX11_goYears_210 ?_
                      exact hret ((acx : Int), (inc1_13 : Int → Int), (mat1_14 : Int → Int), (kd1_15 : Int → Int), (tmx : Int), (yrx : Int), (ntx : Int → Int), (wax : Int), (wox : Int), ((whyS T matx yrx (sgn (p1 + 1)) ((sgn p1) - 65) (if (sgn (p1 + 1)) = 38 then (sgn (p1 + 2)) - 65 else (sgn (p1 + 2)) - 48)) : Int), (acx : Int)) dX11_goYears_213 (show (zRwh (rnW T dri ln sgn inc mat tm yr) = 0 → acx = -6 ∧ (inc1_13, mat1_14, tmx, yrx, kd1_15, wax, wox, acx, 0) = (rnW T dri ln sgn inc mat tm yr) ∧ mOk T mat1_14) ∧ (¬ zRwh (rnW T dri ln sgn inc mat tm yr) = 0 → acx = zRac (rnW T dri ln sgn inc mat tm yr) ∧ (whyS T matx yrx (sgn (p1 + 1)) ((sgn p1) - 65) (if (sgn (p1 + 1)) = 38 then (sgn (p1 + 2)) - 65 else (sgn (p1 + 2)) - 48)) = zRwh (rnW T dri ln sgn inc mat tm yr) ∧ 0 ≤ acx ∧ 0 < (whyS T matx yrx (sgn (p1 + 1)) ((sgn p1) - 65) (if (sgn (p1 + 1)) = 38 then (sgn (p1 + 2)) - 65 else (sgn (p1 + 2)) - 48))) from (by have hne : ¬ whyS T matx yrx (sgn (p1 + 1)) (sgn p1 - 65) (laS (sgn (p1 + 1)) (sgn (p1 + 2))) = 0 := (by omega); have hEQ : (rnW T dri ln sgn inc mat tm yr) = (incx, matx, tmx, yrx, kdx, wax, wox, acx, whyS T matx yrx (sgn (p1 + 1)) (sgn p1 - 65) (laS (sgn (p1 + 1)) (sgn (p1 + 2)))) := (by unfold rnW; rw [hrun, noB (la := (sgn (p1 + 2))) (show 0 ≤ acx ∧ acx < 60 by omega) (show 0 ≤ p1 ∧ p1 < ln by omega) hok2 (fun _ => rfl) hne]); exact ⟨fun q => absurd (by rw [hEQ] at q; exact q) hne, fun _ => ⟨by rw [hEQ]; rfl, by rw [hEQ]; rfl, by omega, by omega⟩⟩)) hz
                  ·
                    exfalso
                    first | omega | (revert h161; simp_all; done) | simp_all
                ·
                  refine lv_iload hx hb dX11_goYears_138 (lv_at hl 2 rfl) ?_
                  refine z_bipush hx hb dX11_goYears_140 (by decide) ?_
                  refine z_icmp_eq (tgt := 152) hx hb dX11_goYears_142 (by decide) (by omega) (by decide) (fun h142 => ?_) (fun h142 => ?_)
                  ·
                    exfalso
                    first | omega | (revert h142; simp_all; done) | simp_all
                  ·
                    refine lv_iload hx hb dX11_goYears_145 (lv_at hl 2 rfl) ?_
                    refine z_bipush hx hb dX11_goYears_147 (by decide) ?_
                    refine z_icmp_ne (tgt := 156) hx hb dX11_goYears_149 (by decide) (by omega) (by decide) (fun h149 => ?_) (fun h149 => ?_)
                    ·
                      refine z_iconst hx hb dX11_goYears_156 ?_
                      refine lv_istore (lv' := [(6, .int (zI 0)), (1, .int (zI (p1 + 3))), (5, .int (zI 1)), (4, .int (zI (sgn (p1 + 1)))), (3, .int (zI ((sgn p1) - 65))), (2, .int (zI (sgn p1))), (0, .ref md)]) hx hb dX11_goYears_157 hl (Nat.le_of_ble_eq_true rfl) rfl (fun ls hl => ?_)
                      refine lv_iload hx hb dX11_goYears_159 (lv_at hl 0 rfl) ?_
                      refine z_if_eq (tgt := 202) hx hb dX11_goYears_161 (by decide) (by decide) (fun h161 => ?_) (fun h161 => ?_)
                      ·
                        have hwb : 0 ≤ whyS T matx yrx (sgn (p1 + 1)) ((sgn p1) - 65) (if (sgn (p1 + 1)) = 38 then (sgn (p1 + 2)) - 65 else (sgn (p1 + 2)) - 48) ∧ whyS T matx yrx (sgn (p1 + 1)) ((sgn p1) - 65) (if (sgn (p1 + 1)) = 38 then (sgn (p1 + 2)) - 65 else (sgn (p1 + 2)) - 48) ≤ 4 := whyS_bd _ _ _ _ _ _
                        have hbad : ¬ ((sgn (p1 + 1) = 58 ∨ sgn (p1 + 1) = 63) ∧ ¬ cvS T incx tmx (sgn p1 - 65) (sgn (p1 + 1) = 63) = inO T incx (sgn p1 - 65) ∧ wax = -6) := fun q => by omega
                        refine lv_aload_n hx hb dX11_goYears_202 rfl (lv_at hl 6 rfl) ?_
                        refine z_get (C := RX11) (T := TX11) (N := 23) (ref := "HornCityModel") hx hb hts hin_X11_goYears_X11 hown hK hz 0 rfl rfl 11 (by decide) (hts _ fl_X11_goYears_119) rfl rfl dX11_goYears_203 ?_
                        refine z_if_le (tgt := 214) hx hb dX11_goYears_206 (by decide) (by omega) (fun h206 => ?_) (fun h206 => ?_)
                        ·
                          have hw0 : whyS T matx yrx (sgn (p1 + 1)) (sgn p1 - 65) (laS (sgn (p1 + 1)) (sgn (p1 + 2))) = 0 := by first | omega | exact h135
                          obtain ⟨he1, he2, he3⟩ := hc112_1 hw0
                          refine lv_aload_n hx hb dX11_goYears_214 rfl (lv_at hl 6 rfl) ?_
                          refine lv_dup hx hb dX11_goYears_215 rfl ?_
                          refine z_get (C := RX11) (T := TX11) (N := 23) (ref := "HornCityModel") hx hb hts hin_X11_goYears_X11 hown hK hz 0 rfl rfl 12 (by decide) (hts _ fl_X11_goYears_113) rfl rfl dX11_goYears_216 ?_
                          refine z_iconst hx hb dX11_goYears_219 ?_
                          refine z_iadd hx hb dX11_goYears_220 ?_
                          refine z_put (C := RX11) (T := TX11) (N := 23) (ref := "HornCityModel") (ty := .int) hx hb hts hin_X11_goYears_X11 hown hK hz tyX11 tyX11_ok nmX11 0 rfl rfl 12 (by decide) (hts _ fl_X11_goYears_113) rfl rfl (by decide +kernel) rfl rfl (Nat.le_of_ble_eq_true rfl) dX11_goYears_221 (fun H locs hz => ?_)
                          have hz : zH D (zF ws0) H0 [(md, .inr (9, [.ref bk, .ref nw, .ref nt, .int (zI T), .ref df, .int (zI cn), .ref chk, .int (zI ln), .ref pa, .int (zI wax), .int (zI wox), .int (zI (whyS T matx yrx (sgn (p1 + 1)) ((sgn p1) - 65) (if (sgn (p1 + 1)) = 38 then (sgn (p1 + 2)) - 65 else (sgn (p1 + 2)) - 48))), .int (zI (acx + 1)), .int (zI fse), .ref rc, .ref qu, .ref ct, .ref ft, .ref wn, .ref wy, .ref nx, .ref im, .ref ik])), (bk, .inl (cI, 29, .inl (zA (nwS inc mat kd tm yr)))), (nw, .inl (cI, 29, .inl (zA (nwS inc1_13 mat1_14 kd1_15 tmx yrx)))), (nt, .inl (cI, 9, .inl (zA ntx))), (df, .inl (cI, 9, .inl (zA dri))), (pa, .inl (cI, 60, .inl (zA sgn)))] H locs := hz
                          refine lv_goto (tgt := 11) hx hb dX11_goYears_224 (by decide) ?_
                          exact ih11 _ (by omega) (p1 + 3) wax wox (whyS T matx yrx (sgn (p1 + 1)) ((sgn p1) - 65) (if (sgn (p1 + 1)) = 38 then (sgn (p1 + 2)) - 65 else (sgn (p1 + 2)) - 48)) (acx + 1) tmx yrx inc1_13 mat1_14 kd1_15 ntx H locs ls rfl (by omega) (by have h7 := hfn.2; rw [len3 (by rw [hok2.2.2.2.2.1]; omega)] at h7; exact h7) (by rw [he1]; exact actI_bd hbx) (by rw [he2]; exact mOk_act hmx hw0) (htx) (by omega) (by rw [hrun, runB (la := (sgn (p1 + 2))) (show 0 ≤ acx ∧ acx < 60 by omega) (show 0 ≤ p1 ∧ p1 < ln by omega) hok2 (fun _ => rfl) hw0, len3 (by rw [hok2.2.2.2.2.1]; omega)]; congr 1; simp only [stpS]; rw [← he1, ← he2, ← he3, show actH tmx yrx (sgn (p1 + 1)) = tmx from if_neg (by omega), show actY yrx (sgn (p1 + 1)) = yrx from if_neg (by omega)]; rw [if_neg hbad, if_neg hbad]) hz (lv_sub hl [1, 6] rfl)
                        ·
                          refine lv_aload_n hx hb dX11_goYears_209 rfl (lv_at hl 6 rfl) ?_
                          refine z_get (C := RX11) (T := TX11) (N := 23) (ref := "HornCityModel") hx hb hts hin_X11_goYears_X11 hown hK hz 0 rfl rfl 12 (by decide) (hts _ fl_X11_goYears_113) rfl rfl dX11_goYears_210 ?_
                          exact hret ((acx : Int), (inc1_13 : Int → Int), (mat1_14 : Int → Int), (kd1_15 : Int → Int), (tmx : Int), (yrx : Int), (ntx : Int → Int), (wax : Int), (wox : Int), ((whyS T matx yrx (sgn (p1 + 1)) ((sgn p1) - 65) (if (sgn (p1 + 1)) = 38 then (sgn (p1 + 2)) - 65 else (sgn (p1 + 2)) - 48)) : Int), (acx : Int)) dX11_goYears_213 (show (zRwh (rnW T dri ln sgn inc mat tm yr) = 0 → acx = -6 ∧ (inc1_13, mat1_14, tmx, yrx, kd1_15, wax, wox, acx, 0) = (rnW T dri ln sgn inc mat tm yr) ∧ mOk T mat1_14) ∧ (¬ zRwh (rnW T dri ln sgn inc mat tm yr) = 0 → acx = zRac (rnW T dri ln sgn inc mat tm yr) ∧ (whyS T matx yrx (sgn (p1 + 1)) ((sgn p1) - 65) (if (sgn (p1 + 1)) = 38 then (sgn (p1 + 2)) - 65 else (sgn (p1 + 2)) - 48)) = zRwh (rnW T dri ln sgn inc mat tm yr) ∧ 0 ≤ acx ∧ 0 < (whyS T matx yrx (sgn (p1 + 1)) ((sgn p1) - 65) (if (sgn (p1 + 1)) = 38 then (sgn (p1 + 2)) - 65 else (sgn (p1 + 2)) - 48))) from (by have hne : ¬ whyS T matx yrx (sgn (p1 + 1)) (sgn p1 - 65) (laS (sgn (p1 + 1)) (sgn (p1 + 2))) = 0 := (by omega); have hEQ : (rnW T dri ln sgn inc mat tm yr) = (incx, matx, tmx, yrx, kdx, wax, wox, acx, whyS T matx yrx (sgn (p1 + 1)) (sgn p1 - 65) (laS (sgn (p1 + 1)) (sgn (p1 + 2)))) := (by unfold rnW; rw [hrun, noB (la := (sgn (p1 + 2))) (show 0 ≤ acx ∧ acx < 60 by omega) (show 0 ≤ p1 ∧ p1 < ln by omega) hok2 (fun _ => rfl) hne]); exact ⟨fun q => absurd (by rw [hEQ] at q; exact q) hne, fun _ => ⟨by rw [hEQ]; rfl, by rw [hEQ]; rfl, by omega, by omega⟩⟩)) hz
                      ·
                        exfalso
                        first | omega | (revert h161; simp_all; done) | simp_all
                    ·
                      exfalso
                      first | omega | (revert h149; simp_all; done) | simp_all
          ·
            refine lv_iload hx hb dX11_goYears_75 (lv_at hl 0 rfl) ?_
            refine z_bipush hx hb dX11_goYears_77 (by decide) ?_
            refine z_icmp_ne (tgt := 86) hx hb dX11_goYears_79 (by decide) (by omega) (by decide) (fun h79 => ?_) (fun h79 => ?_)
            ·
              refine z_iconst hx hb dX11_goYears_86 ?_
              refine lv_istore (lv' := [(5, .int (zI 0)), (4, .int (zI (sgn (p1 + 1)))), (3, .int (zI ((sgn p1) - 65))), (2, .int (zI (sgn p1))), (1, .int (zI p1)), (0, .ref md)]) hx hb dX11_goYears_87 hl (Nat.le_of_ble_eq_true rfl) rfl (fun ls hl => ?_)
              refine lv_aload_n hx hb dX11_goYears_89 rfl (lv_at hl 5 rfl) ?_
              refine lv_aload_n hx hb dX11_goYears_90 rfl (lv_at hl 5 rfl) ?_
              refine lv_iload_n hx hb dX11_goYears_91 rfl (lv_at hl 2 rfl) ?_
              refine lv_iload hx hb dX11_goYears_92 (lv_at hl 1 rfl) ?_
              refine lv_iload hx hb dX11_goYears_94 (lv_at hl 0 rfl) ?_
              refine z_if_eq (tgt := 110) hx hb dX11_goYears_96 (by decide) (by decide) (fun h96 => ?_) (fun h96 => ?_)
              ·
                refine z_bipush hx hb dX11_goYears_110 (by decide) ?_
                refine z_callVw (As := [.int (zI ((sgn p1) - 65)), .int (zI (sgn (p1 + 1))), .int (zI 65)]) (rest := [.ref md]) (C := RX11) (T := TX11) (N := 23) F hK hz hl (c_X11_oneAct l D cI cJ cZ md bk nw nt df chk pa rc qu ct ft wn wy nx im ik incx matx kdx T cn ln wax wox rsx acx fse tmx yrx ((sgn p1) - 65) (sgn (p1 + 1)) 65 dri (by omega) (by omega) (hok2.2.2.2.1) (by first | assumption | omega) (hbx) (by assumption) (by omega)) (cwV 3 hts gX11_goYears_X11_oneAct rfl rfl rfl (by decide +kernel) ⟨Nat.le_of_ble_eq_true rfl, Nat.le_of_ble_eq_true rfl⟩) rfl 0 rfl [0, 2] rfl rfl (by decide +kernel) rfl rfl (Nat.le_of_ble_eq_true rfl) ⟨Nat.le_of_ble_eq_true rfl, Nat.le_of_ble_eq_true rfl⟩ dX11_goYears_112 (fun u H locs hu hz => ?_)
                obtain ⟨r_16, inc1_17, mat1_18, kd1_19⟩ := u
                have hu : r_16 = whyS T matx yrx (sgn (p1 + 1)) ((sgn p1) - 65) (if (sgn (p1 + 1)) = 38 then 65 - 65 else 65 - 48) ∧ (whyS T matx yrx (sgn (p1 + 1)) ((sgn p1) - 65) (if (sgn (p1 + 1)) = 38 then 65 - 65 else 65 - 48) = 0 → inc1_17 = actI T dri matx incx (sgn (p1 + 1)) ((sgn p1) - 65) (if (sgn (p1 + 1)) = 38 then 65 - 65 else 65 - 48) ∧ mat1_18 = actM T matx (sgn (p1 + 1)) ((sgn p1) - 65) (if (sgn (p1 + 1)) = 38 then 65 - 65 else 65 - 48) ∧ kd1_19 = (if (sgn (p1 + 1)) = 58 ∨ (sgn (p1 + 1)) = 63 then zU kdx ((sgn p1) - 65) (cvS T incx tmx ((sgn p1) - 65) ((sgn (p1 + 1)) = 63)) else kdx)) := hu
                obtain ⟨g112_0, hc112_1⟩ := hu
                have g112_0 := g112_0.symm
                subst g112_0
                have hz : zH D (zF ws0) H0 [(md, .inr (9, [.ref bk, .ref nw, .ref nt, .int (zI T), .ref df, .int (zI cn), .ref chk, .int (zI ln), .ref pa, .int (zI wax), .int (zI wox), .int (zI rsx), .int (zI acx), .int (zI fse), .ref rc, .ref qu, .ref ct, .ref ft, .ref wn, .ref wy, .ref nx, .ref im, .ref ik])), (bk, .inl (cI, 29, .inl (zA (nwS inc mat kd tm yr)))), (nw, .inl (cI, 29, .inl (zA (nwS inc1_17 mat1_18 kd1_19 tmx yrx)))), (nt, .inl (cI, 9, .inl (zA ntx))), (df, .inl (cI, 9, .inl (zA dri))), (pa, .inl (cI, 60, .inl (zA sgn)))] H locs := hz
                refine z_put (C := RX11) (T := TX11) (N := 23) (ref := "HornCityModel") (ty := .int) hx hb hts hin_X11_goYears_X11 hown hK hz tyX11 tyX11_ok nmX11 0 rfl rfl 11 (by decide) (hts _ fl_X11_goYears_119) rfl rfl (by decide +kernel) rfl rfl (Nat.le_of_ble_eq_true rfl) dX11_goYears_115 (fun H locs hz => ?_)
                have hz : zH D (zF ws0) H0 [(md, .inr (9, [.ref bk, .ref nw, .ref nt, .int (zI T), .ref df, .int (zI cn), .ref chk, .int (zI ln), .ref pa, .int (zI wax), .int (zI wox), .int (zI (whyS T matx yrx (sgn (p1 + 1)) ((sgn p1) - 65) (if (sgn (p1 + 1)) = 38 then 65 - 65 else 65 - 48))), .int (zI acx), .int (zI fse), .ref rc, .ref qu, .ref ct, .ref ft, .ref wn, .ref wy, .ref nx, .ref im, .ref ik])), (bk, .inl (cI, 29, .inl (zA (nwS inc mat kd tm yr)))), (nw, .inl (cI, 29, .inl (zA (nwS inc1_17 mat1_18 kd1_19 tmx yrx)))), (nt, .inl (cI, 9, .inl (zA ntx))), (df, .inl (cI, 9, .inl (zA dri))), (pa, .inl (cI, 60, .inl (zA sgn)))] H locs := hz
                refine lv_iload_n hx hb dX11_goYears_118 rfl (lv_at hl 4 rfl) ?_
                refine lv_iload hx hb dX11_goYears_119 (lv_at hl 0 rfl) ?_
                refine z_if_eq (tgt := 128) hx hb dX11_goYears_121 (by decide) (by decide) (fun h121 => ?_) (fun h121 => ?_)
                ·
                  refine z_iconst hx hb dX11_goYears_128 ?_
                  refine z_iadd hx hb dX11_goYears_129 ?_
                  refine lv_istore_n (lv' := [(1, .int (zI (p1 + 2))), (5, .int (zI 0)), (4, .int (zI (sgn (p1 + 1)))), (3, .int (zI ((sgn p1) - 65))), (2, .int (zI (sgn p1))), (0, .ref md)]) hx hb dX11_goYears_130 rfl hl (Nat.le_of_ble_eq_true rfl) rfl (fun ls hl => ?_)
                  have hwc : 0 ≤ whyS T matx yrx (sgn (p1 + 1)) ((sgn p1) - 65) (if (sgn (p1 + 1)) = 38 then 65 - 65 else 65 - 48) ∧ whyS T matx yrx (sgn (p1 + 1)) ((sgn p1) - 65) (if (sgn (p1 + 1)) = 38 then 65 - 65 else 65 - 48) ≤ 4 := whyS_bd _ _ _ _ _ _
                  refine lv_aload_n hx hb dX11_goYears_131 rfl (lv_at hl 5 rfl) ?_
                  refine z_get (C := RX11) (T := TX11) (N := 23) (ref := "HornCityModel") hx hb hts hin_X11_goYears_X11 hown hK hz 0 rfl rfl 11 (by decide) (hts _ fl_X11_goYears_119) rfl rfl dX11_goYears_132 ?_
                  refine z_if_ne (tgt := 156) hx hb dX11_goYears_135 (by decide) (by omega) (fun h135 => ?_) (fun h135 => ?_)
                  ·
                    refine z_iconst hx hb dX11_goYears_156 ?_
                    refine lv_istore (lv' := [(6, .int (zI 0)), (1, .int (zI (p1 + 2))), (5, .int (zI 0)), (4, .int (zI (sgn (p1 + 1)))), (3, .int (zI ((sgn p1) - 65))), (2, .int (zI (sgn p1))), (0, .ref md)]) hx hb dX11_goYears_157 hl (Nat.le_of_ble_eq_true rfl) rfl (fun ls hl => ?_)
                    refine lv_iload hx hb dX11_goYears_159 (lv_at hl 0 rfl) ?_
                    refine z_if_eq (tgt := 202) hx hb dX11_goYears_161 (by decide) (by decide) (fun h161 => ?_) (fun h161 => ?_)
                    ·
                      have hwb : 0 ≤ whyS T matx yrx (sgn (p1 + 1)) ((sgn p1) - 65) (if (sgn (p1 + 1)) = 38 then 65 - 65 else 65 - 48) ∧ whyS T matx yrx (sgn (p1 + 1)) ((sgn p1) - 65) (if (sgn (p1 + 1)) = 38 then 65 - 65 else 65 - 48) ≤ 4 := whyS_bd _ _ _ _ _ _
                      refine lv_aload_n hx hb dX11_goYears_202 rfl (lv_at hl 6 rfl) ?_
                      refine z_get (C := RX11) (T := TX11) (N := 23) (ref := "HornCityModel") hx hb hts hin_X11_goYears_X11 hown hK hz 0 rfl rfl 11 (by decide) (hts _ fl_X11_goYears_119) rfl rfl dX11_goYears_203 ?_
                      refine z_if_le (tgt := 214) hx hb dX11_goYears_206 (by decide) (by omega) (fun h206 => ?_) (fun h206 => ?_)
                      ·
                        exfalso; omega
                      ·
                        refine lv_aload_n hx hb dX11_goYears_209 rfl (lv_at hl 6 rfl) ?_
                        refine z_get (C := RX11) (T := TX11) (N := 23) (ref := "HornCityModel") hx hb hts hin_X11_goYears_X11 hown hK hz 0 rfl rfl 12 (by decide) (hts _ fl_X11_goYears_113) rfl rfl dX11_goYears_210 ?_
                        exact hret ((acx : Int), (inc1_17 : Int → Int), (mat1_18 : Int → Int), (kd1_19 : Int → Int), (tmx : Int), (yrx : Int), (ntx : Int → Int), (wax : Int), (wox : Int), ((whyS T matx yrx (sgn (p1 + 1)) ((sgn p1) - 65) (if (sgn (p1 + 1)) = 38 then 65 - 65 else 65 - 48)) : Int), (acx : Int)) dX11_goYears_213 (show (zRwh (rnW T dri ln sgn inc mat tm yr) = 0 → acx = -6 ∧ (inc1_17, mat1_18, tmx, yrx, kd1_19, wax, wox, acx, 0) = (rnW T dri ln sgn inc mat tm yr) ∧ mOk T mat1_18) ∧ (¬ zRwh (rnW T dri ln sgn inc mat tm yr) = 0 → acx = zRac (rnW T dri ln sgn inc mat tm yr) ∧ (whyS T matx yrx (sgn (p1 + 1)) ((sgn p1) - 65) (if (sgn (p1 + 1)) = 38 then 65 - 65 else 65 - 48)) = zRwh (rnW T dri ln sgn inc mat tm yr) ∧ 0 ≤ acx ∧ 0 < (whyS T matx yrx (sgn (p1 + 1)) ((sgn p1) - 65) (if (sgn (p1 + 1)) = 38 then 65 - 65 else 65 - 48))) from (by have hne : ¬ whyS T matx yrx (sgn (p1 + 1)) (sgn p1 - 65) (laS (sgn (p1 + 1)) 65) = 0 := (by omega); have hEQ : (rnW T dri ln sgn inc mat tm yr) = (incx, matx, tmx, yrx, kdx, wax, wox, acx, whyS T matx yrx (sgn (p1 + 1)) (sgn p1 - 65) (laS (sgn (p1 + 1)) 65)) := (by unfold rnW; rw [hrun, noB (la := 65) (show 0 ≤ acx ∧ acx < 60 by omega) (show 0 ≤ p1 ∧ p1 < ln by omega) hok2 (fun q => by omega) hne]); exact ⟨fun q => absurd (by rw [hEQ] at q; exact q) hne, fun _ => ⟨by rw [hEQ]; rfl, by rw [hEQ]; rfl, by omega, by omega⟩⟩)) hz
                    ·
                      exfalso
                      first | omega | (revert h161; simp_all; done) | simp_all
                  ·
                    refine lv_iload hx hb dX11_goYears_138 (lv_at hl 2 rfl) ?_
                    refine z_bipush hx hb dX11_goYears_140 (by decide) ?_
                    refine z_icmp_eq (tgt := 152) hx hb dX11_goYears_142 (by decide) (by omega) (by decide) (fun h142 => ?_) (fun h142 => ?_)
                    ·
                      refine z_iconst hx hb dX11_goYears_152 ?_
                      refine lv_goto (tgt := 157) hx hb dX11_goYears_153 (by decide) ?_
                      refine lv_istore (lv' := [(6, .int (zI 1)), (1, .int (zI (p1 + 2))), (5, .int (zI 0)), (4, .int (zI (sgn (p1 + 1)))), (3, .int (zI ((sgn p1) - 65))), (2, .int (zI (sgn p1))), (0, .ref md)]) hx hb dX11_goYears_157 hl (Nat.le_of_ble_eq_true rfl) rfl (fun ls hl => ?_)
                      refine lv_iload hx hb dX11_goYears_159 (lv_at hl 0 rfl) ?_
                      refine z_if_eq (tgt := 202) hx hb dX11_goYears_161 (by decide) (by decide) (fun h161 => ?_) (fun h161 => ?_)
                      ·
                        exfalso
                        first | omega | (revert h161; simp_all; done) | simp_all
                      ·
                        have hw0 : whyS T matx yrx (sgn (p1 + 1)) (sgn p1 - 65) (laS (sgn (p1 + 1)) 65) = 0 := h135
                        obtain ⟨he1, he2, he3⟩ := hc112_1 hw0
                        have hin := why0_in hw0 (by omega)
                        have hkr := inS.rng hin
                        have hie : inc1_17 (sgn p1 - 65) = incx (sgn p1 - 65) := by rw [he1]; unfold actI; rw [if_neg (by omega), if_neg (by omega), if_neg (by omega)]
                        have hkv : kd1_19 (sgn p1 - 65) = cvS T incx tmx (sgn p1 - 65) (sgn (p1 + 1) = 63) := by rw [he3, if_pos (by omega)]; exact zU_same
                        have hcb := cvS_bd T incx tmx (sgn p1 - 65) (sgn (p1 + 1) = 63)
                        have hiv : inO T incx (sgn p1 - 65) = incx (sgn p1 - 65) := if_pos hin
                        have hib := hbx.ax (sgn p1 - 65) hkr
                        refine lv_aload_n hx hb dX11_goYears_164 rfl (lv_at hl 6 rfl) ?_
                        refine z_get (C := RX11) (T := TX11) (N := 23) (ref := "HornCityModel") hx hb hts hin_X11_goYears_X11 hown hK hz 0 rfl rfl 9 (by decide) (hts _ fl_X11_goYears_93) rfl rfl dX11_goYears_165 ?_
                        refine z_if_ge (tgt := 202) hx hb dX11_goYears_168 (by decide) (by omega) (fun h168 => ?_) (fun h168 => ?_)
                        ·
                          have hwb : 0 ≤ whyS T matx yrx (sgn (p1 + 1)) ((sgn p1) - 65) (if (sgn (p1 + 1)) = 38 then 65 - 65 else 65 - 48) ∧ whyS T matx yrx (sgn (p1 + 1)) ((sgn p1) - 65) (if (sgn (p1 + 1)) = 38 then 65 - 65 else 65 - 48) ≤ 4 := whyS_bd _ _ _ _ _ _
                          have hbad : ¬ ((sgn (p1 + 1) = 58 ∨ sgn (p1 + 1) = 63) ∧ ¬ cvS T incx tmx (sgn p1 - 65) (sgn (p1 + 1) = 63) = inO T incx (sgn p1 - 65) ∧ wax = -6) := fun q => by omega
                          refine lv_aload_n hx hb dX11_goYears_202 rfl (lv_at hl 6 rfl) ?_
                          refine z_get (C := RX11) (T := TX11) (N := 23) (ref := "HornCityModel") hx hb hts hin_X11_goYears_X11 hown hK hz 0 rfl rfl 11 (by decide) (hts _ fl_X11_goYears_119) rfl rfl dX11_goYears_203 ?_
                          refine z_if_le (tgt := 214) hx hb dX11_goYears_206 (by decide) (by omega) (fun h206 => ?_) (fun h206 => ?_)
                          ·
                            have hw0 : whyS T matx yrx (sgn (p1 + 1)) (sgn p1 - 65) (laS (sgn (p1 + 1)) 65) = 0 := by first | omega | exact h135
                            refine lv_aload_n hx hb dX11_goYears_214 rfl (lv_at hl 6 rfl) ?_
                            refine lv_dup hx hb dX11_goYears_215 rfl ?_
                            refine z_get (C := RX11) (T := TX11) (N := 23) (ref := "HornCityModel") hx hb hts hin_X11_goYears_X11 hown hK hz 0 rfl rfl 12 (by decide) (hts _ fl_X11_goYears_113) rfl rfl dX11_goYears_216 ?_
                            refine z_iconst hx hb dX11_goYears_219 ?_
                            refine z_iadd hx hb dX11_goYears_220 ?_
                            refine z_put (C := RX11) (T := TX11) (N := 23) (ref := "HornCityModel") (ty := .int) hx hb hts hin_X11_goYears_X11 hown hK hz tyX11 tyX11_ok nmX11 0 rfl rfl 12 (by decide) (hts _ fl_X11_goYears_113) rfl rfl (by decide +kernel) rfl rfl (Nat.le_of_ble_eq_true rfl) dX11_goYears_221 (fun H locs hz => ?_)
                            have hz : zH D (zF ws0) H0 [(md, .inr (9, [.ref bk, .ref nw, .ref nt, .int (zI T), .ref df, .int (zI cn), .ref chk, .int (zI ln), .ref pa, .int (zI wax), .int (zI wox), .int (zI (whyS T matx yrx (sgn (p1 + 1)) ((sgn p1) - 65) (if (sgn (p1 + 1)) = 38 then 65 - 65 else 65 - 48))), .int (zI (acx + 1)), .int (zI fse), .ref rc, .ref qu, .ref ct, .ref ft, .ref wn, .ref wy, .ref nx, .ref im, .ref ik])), (bk, .inl (cI, 29, .inl (zA (nwS inc mat kd tm yr)))), (nw, .inl (cI, 29, .inl (zA (nwS inc1_17 mat1_18 kd1_19 tmx yrx)))), (nt, .inl (cI, 9, .inl (zA ntx))), (df, .inl (cI, 9, .inl (zA dri))), (pa, .inl (cI, 60, .inl (zA sgn)))] H locs := hz
                            refine lv_goto (tgt := 11) hx hb dX11_goYears_224 (by decide) ?_
                            exact ih11 _ (by omega) (p1 + 2) wax wox (whyS T matx yrx (sgn (p1 + 1)) ((sgn p1) - 65) (if (sgn (p1 + 1)) = 38 then 65 - 65 else 65 - 48)) (acx + 1) tmx yrx inc1_17 mat1_18 kd1_19 ntx H locs ls rfl (by omega) (by have h7 := hfn.2; rw [len2 (by rw [hok2.2.2.2.2.1]; omega)] at h7; exact h7) (by rw [he1]; exact actI_bd hbx) (by rw [he2]; exact mOk_act hmx hw0) (htx) (by omega) (by rw [hrun, runB (la := 65) (show 0 ≤ acx ∧ acx < 60 by omega) (show 0 ≤ p1 ∧ p1 < ln by omega) hok2 (fun q => by omega) hw0, len2 (by rw [hok2.2.2.2.2.1]; omega)]; congr 1; simp only [stpS]; rw [← he1, ← he2, ← he3, show actH tmx yrx (sgn (p1 + 1)) = tmx from if_neg (by omega), show actY yrx (sgn (p1 + 1)) = yrx from if_neg (by omega)]; rw [if_neg hbad, if_neg hbad]) hz (lv_sub hl [1, 6] rfl)
                          ·
                            refine lv_aload_n hx hb dX11_goYears_209 rfl (lv_at hl 6 rfl) ?_
                            refine z_get (C := RX11) (T := TX11) (N := 23) (ref := "HornCityModel") hx hb hts hin_X11_goYears_X11 hown hK hz 0 rfl rfl 12 (by decide) (hts _ fl_X11_goYears_113) rfl rfl dX11_goYears_210 ?_
                            exact hret ((acx : Int), (inc1_17 : Int → Int), (mat1_18 : Int → Int), (kd1_19 : Int → Int), (tmx : Int), (yrx : Int), (ntx : Int → Int), (wax : Int), (wox : Int), ((whyS T matx yrx (sgn (p1 + 1)) ((sgn p1) - 65) (if (sgn (p1 + 1)) = 38 then 65 - 65 else 65 - 48)) : Int), (acx : Int)) dX11_goYears_213 (show (zRwh (rnW T dri ln sgn inc mat tm yr) = 0 → acx = -6 ∧ (inc1_17, mat1_18, tmx, yrx, kd1_19, wax, wox, acx, 0) = (rnW T dri ln sgn inc mat tm yr) ∧ mOk T mat1_18) ∧ (¬ zRwh (rnW T dri ln sgn inc mat tm yr) = 0 → acx = zRac (rnW T dri ln sgn inc mat tm yr) ∧ (whyS T matx yrx (sgn (p1 + 1)) ((sgn p1) - 65) (if (sgn (p1 + 1)) = 38 then 65 - 65 else 65 - 48)) = zRwh (rnW T dri ln sgn inc mat tm yr) ∧ 0 ≤ acx ∧ 0 < (whyS T matx yrx (sgn (p1 + 1)) ((sgn p1) - 65) (if (sgn (p1 + 1)) = 38 then 65 - 65 else 65 - 48))) from (by have hne : ¬ whyS T matx yrx (sgn (p1 + 1)) (sgn p1 - 65) (laS (sgn (p1 + 1)) 65) = 0 := (by omega); have hEQ : (rnW T dri ln sgn inc mat tm yr) = (incx, matx, tmx, yrx, kdx, wax, wox, acx, whyS T matx yrx (sgn (p1 + 1)) (sgn p1 - 65) (laS (sgn (p1 + 1)) 65)) := (by unfold rnW; rw [hrun, noB (la := 65) (show 0 ≤ acx ∧ acx < 60 by omega) (show 0 ≤ p1 ∧ p1 < ln by omega) hok2 (fun q => by omega) hne]); exact ⟨fun q => absurd (by rw [hEQ] at q; exact q) hne, fun _ => ⟨by rw [hEQ]; rfl, by rw [hEQ]; rfl, by omega, by omega⟩⟩)) hz
                        ·
                          refine lv_aload_n hx hb dX11_goYears_171 rfl (lv_at hl 6 rfl) ?_
                          refine z_get (C := RX11) (T := TX11) (N := 23) (ref := "HornCityModel") hx hb hts hin_X11_goYears_X11 hown hK hz 0 rfl rfl 1 (by decide) (hts _ fl_X11_goYears_13) rfl rfl dX11_goYears_172 ?_
                          refine z_bipush hx hb dX11_goYears_175 (by decide) ?_
                          refine lv_iload_n hx hb dX11_goYears_177 rfl (lv_at hl 4 rfl) ?_
                          refine z_iadd hx hb dX11_goYears_178 ?_
                          refine z_iald hx hb hK hz 2 rfl (by omega) (by decide) dX11_goYears_179 ?_
                          rw [nwS_k (k := ((sgn p1) - 65)) (by omega)]
                          refine lv_aload_n hx hb dX11_goYears_180 rfl (lv_at hl 6 rfl) ?_
                          refine z_get (C := RX11) (T := TX11) (N := 23) (ref := "HornCityModel") hx hb hts hin_X11_goYears_X11 hown hK hz 0 rfl rfl 1 (by decide) (hts _ fl_X11_goYears_13) rfl rfl dX11_goYears_181 ?_
                          refine lv_iload_n hx hb dX11_goYears_184 rfl (lv_at hl 4 rfl) ?_
                          refine z_iald hx hb hK hz 2 rfl (by omega) (by decide) dX11_goYears_185 ?_
                          rw [nwS_i hkr]
                          refine z_icmp_eq (tgt := 202) hx hb dX11_goYears_186 (by decide) (by omega) (by omega) (fun h186 => ?_) (fun h186 => ?_)
                          ·
                            have hwb : 0 ≤ whyS T matx yrx (sgn (p1 + 1)) ((sgn p1) - 65) (if (sgn (p1 + 1)) = 38 then 65 - 65 else 65 - 48) ∧ whyS T matx yrx (sgn (p1 + 1)) ((sgn p1) - 65) (if (sgn (p1 + 1)) = 38 then 65 - 65 else 65 - 48) ≤ 4 := whyS_bd _ _ _ _ _ _
                            have hbad : ¬ ((sgn (p1 + 1) = 58 ∨ sgn (p1 + 1) = 63) ∧ ¬ cvS T incx tmx (sgn p1 - 65) (sgn (p1 + 1) = 63) = inO T incx (sgn p1 - 65) ∧ wax = -6) := fun q => q.2.1 (by rw [← hkv, hiv, ← hie]; exact h186)
                            refine lv_aload_n hx hb dX11_goYears_202 rfl (lv_at hl 6 rfl) ?_
                            refine z_get (C := RX11) (T := TX11) (N := 23) (ref := "HornCityModel") hx hb hts hin_X11_goYears_X11 hown hK hz 0 rfl rfl 11 (by decide) (hts _ fl_X11_goYears_119) rfl rfl dX11_goYears_203 ?_
                            refine z_if_le (tgt := 214) hx hb dX11_goYears_206 (by decide) (by omega) (fun h206 => ?_) (fun h206 => ?_)
                            ·
                              have hw0 : whyS T matx yrx (sgn (p1 + 1)) (sgn p1 - 65) (laS (sgn (p1 + 1)) 65) = 0 := by first | omega | exact h135
                              refine lv_aload_n hx hb dX11_goYears_214 rfl (lv_at hl 6 rfl) ?_
                              refine lv_dup hx hb dX11_goYears_215 rfl ?_
                              refine z_get (C := RX11) (T := TX11) (N := 23) (ref := "HornCityModel") hx hb hts hin_X11_goYears_X11 hown hK hz 0 rfl rfl 12 (by decide) (hts _ fl_X11_goYears_113) rfl rfl dX11_goYears_216 ?_
                              refine z_iconst hx hb dX11_goYears_219 ?_
                              refine z_iadd hx hb dX11_goYears_220 ?_
                              refine z_put (C := RX11) (T := TX11) (N := 23) (ref := "HornCityModel") (ty := .int) hx hb hts hin_X11_goYears_X11 hown hK hz tyX11 tyX11_ok nmX11 0 rfl rfl 12 (by decide) (hts _ fl_X11_goYears_113) rfl rfl (by decide +kernel) rfl rfl (Nat.le_of_ble_eq_true rfl) dX11_goYears_221 (fun H locs hz => ?_)
                              have hz : zH D (zF ws0) H0 [(md, .inr (9, [.ref bk, .ref nw, .ref nt, .int (zI T), .ref df, .int (zI cn), .ref chk, .int (zI ln), .ref pa, .int (zI wax), .int (zI wox), .int (zI (whyS T matx yrx (sgn (p1 + 1)) ((sgn p1) - 65) (if (sgn (p1 + 1)) = 38 then 65 - 65 else 65 - 48))), .int (zI (acx + 1)), .int (zI fse), .ref rc, .ref qu, .ref ct, .ref ft, .ref wn, .ref wy, .ref nx, .ref im, .ref ik])), (bk, .inl (cI, 29, .inl (zA (nwS inc mat kd tm yr)))), (nw, .inl (cI, 29, .inl (zA (nwS inc1_17 mat1_18 kd1_19 tmx yrx)))), (nt, .inl (cI, 9, .inl (zA ntx))), (df, .inl (cI, 9, .inl (zA dri))), (pa, .inl (cI, 60, .inl (zA sgn)))] H locs := hz
                              refine lv_goto (tgt := 11) hx hb dX11_goYears_224 (by decide) ?_
                              exact ih11 _ (by omega) (p1 + 2) wax wox (whyS T matx yrx (sgn (p1 + 1)) ((sgn p1) - 65) (if (sgn (p1 + 1)) = 38 then 65 - 65 else 65 - 48)) (acx + 1) tmx yrx inc1_17 mat1_18 kd1_19 ntx H locs ls rfl (by omega) (by have h7 := hfn.2; rw [len2 (by rw [hok2.2.2.2.2.1]; omega)] at h7; exact h7) (by rw [he1]; exact actI_bd hbx) (by rw [he2]; exact mOk_act hmx hw0) (htx) (by omega) (by rw [hrun, runB (la := 65) (show 0 ≤ acx ∧ acx < 60 by omega) (show 0 ≤ p1 ∧ p1 < ln by omega) hok2 (fun q => by omega) hw0, len2 (by rw [hok2.2.2.2.2.1]; omega)]; congr 1; simp only [stpS]; rw [← he1, ← he2, ← he3, show actH tmx yrx (sgn (p1 + 1)) = tmx from if_neg (by omega), show actY yrx (sgn (p1 + 1)) = yrx from if_neg (by omega)]; rw [if_neg hbad, if_neg hbad]) hz (lv_sub hl [1, 6] rfl)
                            ·
                              refine lv_aload_n hx hb dX11_goYears_209 rfl (lv_at hl 6 rfl) ?_
                              refine z_get (C := RX11) (T := TX11) (N := 23) (ref := "HornCityModel") hx hb hts hin_X11_goYears_X11 hown hK hz 0 rfl rfl 12 (by decide) (hts _ fl_X11_goYears_113) rfl rfl dX11_goYears_210 ?_
                              exact hret ((acx : Int), (inc1_17 : Int → Int), (mat1_18 : Int → Int), (kd1_19 : Int → Int), (tmx : Int), (yrx : Int), (ntx : Int → Int), (wax : Int), (wox : Int), ((whyS T matx yrx (sgn (p1 + 1)) ((sgn p1) - 65) (if (sgn (p1 + 1)) = 38 then 65 - 65 else 65 - 48)) : Int), (acx : Int)) dX11_goYears_213 (show (zRwh (rnW T dri ln sgn inc mat tm yr) = 0 → acx = -6 ∧ (inc1_17, mat1_18, tmx, yrx, kd1_19, wax, wox, acx, 0) = (rnW T dri ln sgn inc mat tm yr) ∧ mOk T mat1_18) ∧ (¬ zRwh (rnW T dri ln sgn inc mat tm yr) = 0 → acx = zRac (rnW T dri ln sgn inc mat tm yr) ∧ (whyS T matx yrx (sgn (p1 + 1)) ((sgn p1) - 65) (if (sgn (p1 + 1)) = 38 then 65 - 65 else 65 - 48)) = zRwh (rnW T dri ln sgn inc mat tm yr) ∧ 0 ≤ acx ∧ 0 < (whyS T matx yrx (sgn (p1 + 1)) ((sgn p1) - 65) (if (sgn (p1 + 1)) = 38 then 65 - 65 else 65 - 48))) from (by have hne : ¬ whyS T matx yrx (sgn (p1 + 1)) (sgn p1 - 65) (laS (sgn (p1 + 1)) 65) = 0 := (by omega); have hEQ : (rnW T dri ln sgn inc mat tm yr) = (incx, matx, tmx, yrx, kdx, wax, wox, acx, whyS T matx yrx (sgn (p1 + 1)) (sgn p1 - 65) (laS (sgn (p1 + 1)) 65)) := (by unfold rnW; rw [hrun, noB (la := 65) (show 0 ≤ acx ∧ acx < 60 by omega) (show 0 ≤ p1 ∧ p1 < ln by omega) hok2 (fun q => by omega) hne]); exact ⟨fun q => absurd (by rw [hEQ] at q; exact q) hne, fun _ => ⟨by rw [hEQ]; rfl, by rw [hEQ]; rfl, by omega, by omega⟩⟩)) hz
                          ·
                            refine lv_aload_n hx hb dX11_goYears_189 rfl (lv_at hl 6 rfl) ?_
                            refine lv_aload_n hx hb dX11_goYears_190 rfl (lv_at hl 6 rfl) ?_
                            refine z_get (C := RX11) (T := TX11) (N := 23) (ref := "HornCityModel") hx hb hts hin_X11_goYears_X11 hown hK hz 0 rfl rfl 12 (by decide) (hts _ fl_X11_goYears_113) rfl rfl dX11_goYears_191 ?_
                            refine z_put (C := RX11) (T := TX11) (N := 23) (ref := "HornCityModel") (ty := .int) hx hb hts hin_X11_goYears_X11 hown hK hz tyX11 tyX11_ok nmX11 0 rfl rfl 9 (by decide) (hts _ fl_X11_goYears_93) rfl rfl (by decide +kernel) rfl rfl (Nat.le_of_ble_eq_true rfl) dX11_goYears_194 (fun H locs hz => ?_)
                            have hz : zH D (zF ws0) H0 [(md, .inr (9, [.ref bk, .ref nw, .ref nt, .int (zI T), .ref df, .int (zI cn), .ref chk, .int (zI ln), .ref pa, .int (zI acx), .int (zI wox), .int (zI (whyS T matx yrx (sgn (p1 + 1)) ((sgn p1) - 65) (if (sgn (p1 + 1)) = 38 then 65 - 65 else 65 - 48))), .int (zI acx), .int (zI fse), .ref rc, .ref qu, .ref ct, .ref ft, .ref wn, .ref wy, .ref nx, .ref im, .ref ik])), (bk, .inl (cI, 29, .inl (zA (nwS inc mat kd tm yr)))), (nw, .inl (cI, 29, .inl (zA (nwS inc1_17 mat1_18 kd1_19 tmx yrx)))), (nt, .inl (cI, 9, .inl (zA ntx))), (df, .inl (cI, 9, .inl (zA dri))), (pa, .inl (cI, 60, .inl (zA sgn)))] H locs := hz
                            refine lv_aload_n hx hb dX11_goYears_197 rfl (lv_at hl 6 rfl) ?_
                            refine lv_iload_n hx hb dX11_goYears_198 rfl (lv_at hl 4 rfl) ?_
                            refine z_put (C := RX11) (T := TX11) (N := 23) (ref := "HornCityModel") (ty := .int) hx hb hts hin_X11_goYears_X11 hown hK hz tyX11 tyX11_ok nmX11 0 rfl rfl 10 (by decide) (hts _ fl_X11_goYears_96) rfl rfl (by decide +kernel) rfl rfl (Nat.le_of_ble_eq_true rfl) dX11_goYears_199 (fun H locs hz => ?_)
                            have hz : zH D (zF ws0) H0 [(md, .inr (9, [.ref bk, .ref nw, .ref nt, .int (zI T), .ref df, .int (zI cn), .ref chk, .int (zI ln), .ref pa, .int (zI acx), .int (zI ((sgn p1) - 65)), .int (zI (whyS T matx yrx (sgn (p1 + 1)) ((sgn p1) - 65) (if (sgn (p1 + 1)) = 38 then 65 - 65 else 65 - 48))), .int (zI acx), .int (zI fse), .ref rc, .ref qu, .ref ct, .ref ft, .ref wn, .ref wy, .ref nx, .ref im, .ref ik])), (bk, .inl (cI, 29, .inl (zA (nwS inc mat kd tm yr)))), (nw, .inl (cI, 29, .inl (zA (nwS inc1_17 mat1_18 kd1_19 tmx yrx)))), (nt, .inl (cI, 9, .inl (zA ntx))), (df, .inl (cI, 9, .inl (zA dri))), (pa, .inl (cI, 60, .inl (zA sgn)))] H locs := hz
                            have hwb : 0 ≤ whyS T matx yrx (sgn (p1 + 1)) ((sgn p1) - 65) (if (sgn (p1 + 1)) = 38 then 65 - 65 else 65 - 48) ∧ whyS T matx yrx (sgn (p1 + 1)) ((sgn p1) - 65) (if (sgn (p1 + 1)) = 38 then 65 - 65 else 65 - 48) ≤ 4 := whyS_bd _ _ _ _ _ _
                            have hbad : (sgn (p1 + 1) = 58 ∨ sgn (p1 + 1) = 63) ∧ ¬ cvS T incx tmx (sgn p1 - 65) (sgn (p1 + 1) = 63) = inO T incx (sgn p1 - 65) ∧ wax = -6 := ⟨by omega, by rw [← hkv, hiv, ← hie]; exact h186, by omega⟩
                            refine lv_aload_n hx hb dX11_goYears_202 rfl (lv_at hl 6 rfl) ?_
                            refine z_get (C := RX11) (T := TX11) (N := 23) (ref := "HornCityModel") hx hb hts hin_X11_goYears_X11 hown hK hz 0 rfl rfl 11 (by decide) (hts _ fl_X11_goYears_119) rfl rfl dX11_goYears_203 ?_
                            refine z_if_le (tgt := 214) hx hb dX11_goYears_206 (by decide) (by omega) (fun h206 => ?_) (fun h206 => ?_)
                            ·
                              have hw0 : whyS T matx yrx (sgn (p1 + 1)) (sgn p1 - 65) (laS (sgn (p1 + 1)) 65) = 0 := by first | omega | exact h135
                              refine lv_aload_n hx hb dX11_goYears_214 rfl (lv_at hl 6 rfl) ?_
                              refine lv_dup hx hb dX11_goYears_215 rfl ?_
                              refine z_get (C := RX11) (T := TX11) (N := 23) (ref := "HornCityModel") hx hb hts hin_X11_goYears_X11 hown hK hz 0 rfl rfl 12 (by decide) (hts _ fl_X11_goYears_113) rfl rfl dX11_goYears_216 ?_
                              refine z_iconst hx hb dX11_goYears_219 ?_
                              refine z_iadd hx hb dX11_goYears_220 ?_
                              refine z_put (C := RX11) (T := TX11) (N := 23) (ref := "HornCityModel") (ty := .int) hx hb hts hin_X11_goYears_X11 hown hK hz tyX11 tyX11_ok nmX11 0 rfl rfl 12 (by decide) (hts _ fl_X11_goYears_113) rfl rfl (by decide +kernel) rfl rfl (Nat.le_of_ble_eq_true rfl) dX11_goYears_221 (fun H locs hz => ?_)
                              have hz : zH D (zF ws0) H0 [(md, .inr (9, [.ref bk, .ref nw, .ref nt, .int (zI T), .ref df, .int (zI cn), .ref chk, .int (zI ln), .ref pa, .int (zI acx), .int (zI ((sgn p1) - 65)), .int (zI (whyS T matx yrx (sgn (p1 + 1)) ((sgn p1) - 65) (if (sgn (p1 + 1)) = 38 then 65 - 65 else 65 - 48))), .int (zI (acx + 1)), .int (zI fse), .ref rc, .ref qu, .ref ct, .ref ft, .ref wn, .ref wy, .ref nx, .ref im, .ref ik])), (bk, .inl (cI, 29, .inl (zA (nwS inc mat kd tm yr)))), (nw, .inl (cI, 29, .inl (zA (nwS inc1_17 mat1_18 kd1_19 tmx yrx)))), (nt, .inl (cI, 9, .inl (zA ntx))), (df, .inl (cI, 9, .inl (zA dri))), (pa, .inl (cI, 60, .inl (zA sgn)))] H locs := hz
                              refine lv_goto (tgt := 11) hx hb dX11_goYears_224 (by decide) ?_
                              exact ih11 _ (by omega) (p1 + 2) acx ((sgn p1) - 65) (whyS T matx yrx (sgn (p1 + 1)) ((sgn p1) - 65) (if (sgn (p1 + 1)) = 38 then 65 - 65 else 65 - 48)) (acx + 1) tmx yrx inc1_17 mat1_18 kd1_19 ntx H locs ls rfl (by omega) (by have h7 := hfn.2; rw [len2 (by rw [hok2.2.2.2.2.1]; omega)] at h7; exact h7) (by rw [he1]; exact actI_bd hbx) (by rw [he2]; exact mOk_act hmx hw0) (htx) (by omega) (by rw [hrun, runB (la := 65) (show 0 ≤ acx ∧ acx < 60 by omega) (show 0 ≤ p1 ∧ p1 < ln by omega) hok2 (fun q => by omega) hw0, len2 (by rw [hok2.2.2.2.2.1]; omega)]; congr 1; simp only [stpS]; rw [← he1, ← he2, ← he3, show actH tmx yrx (sgn (p1 + 1)) = tmx from if_neg (by omega), show actY yrx (sgn (p1 + 1)) = yrx from if_neg (by omega)]; rw [if_pos hbad, if_pos hbad]) hz (lv_sub hl [1, 6] rfl)
                            ·
                              refine lv_aload_n hx hb dX11_goYears_209 rfl (lv_at hl 6 rfl) ?_
                              refine z_get (C := RX11) (T := TX11) (N := 23) (ref := "HornCityModel") hx hb hts hin_X11_goYears_X11 hown hK hz 0 rfl rfl 12 (by decide) (hts _ fl_X11_goYears_113) rfl rfl dX11_goYears_210 ?_
                              exact hret ((acx : Int), (inc1_17 : Int → Int), (mat1_18 : Int → Int), (kd1_19 : Int → Int), (tmx : Int), (yrx : Int), (ntx : Int → Int), (acx : Int), (((sgn p1) - 65) : Int), ((whyS T matx yrx (sgn (p1 + 1)) ((sgn p1) - 65) (if (sgn (p1 + 1)) = 38 then 65 - 65 else 65 - 48)) : Int), (acx : Int)) dX11_goYears_213 (show (zRwh (rnW T dri ln sgn inc mat tm yr) = 0 → acx = -6 ∧ (inc1_17, mat1_18, tmx, yrx, kd1_19, acx, ((sgn p1) - 65), acx, 0) = (rnW T dri ln sgn inc mat tm yr) ∧ mOk T mat1_18) ∧ (¬ zRwh (rnW T dri ln sgn inc mat tm yr) = 0 → acx = zRac (rnW T dri ln sgn inc mat tm yr) ∧ (whyS T matx yrx (sgn (p1 + 1)) ((sgn p1) - 65) (if (sgn (p1 + 1)) = 38 then 65 - 65 else 65 - 48)) = zRwh (rnW T dri ln sgn inc mat tm yr) ∧ 0 ≤ acx ∧ 0 < (whyS T matx yrx (sgn (p1 + 1)) ((sgn p1) - 65) (if (sgn (p1 + 1)) = 38 then 65 - 65 else 65 - 48))) from (by have hne : ¬ whyS T matx yrx (sgn (p1 + 1)) (sgn p1 - 65) (laS (sgn (p1 + 1)) 65) = 0 := (by omega); have hEQ : (rnW T dri ln sgn inc mat tm yr) = (incx, matx, tmx, yrx, kdx, wax, wox, acx, whyS T matx yrx (sgn (p1 + 1)) (sgn p1 - 65) (laS (sgn (p1 + 1)) 65)) := (by unfold rnW; rw [hrun, noB (la := 65) (show 0 ≤ acx ∧ acx < 60 by omega) (show 0 ≤ p1 ∧ p1 < ln by omega) hok2 (fun q => by omega) hne]); exact ⟨fun q => absurd (by rw [hEQ] at q; exact q) hne, fun _ => ⟨by rw [hEQ]; rfl, by rw [hEQ]; rfl, by omega, by omega⟩⟩)) hz
                    ·
                      refine lv_iload hx hb dX11_goYears_145 (lv_at hl 2 rfl) ?_
                      refine z_bipush hx hb dX11_goYears_147 (by decide) ?_
                      refine z_icmp_ne (tgt := 156) hx hb dX11_goYears_149 (by decide) (by omega) (by decide) (fun h149 => ?_) (fun h149 => ?_)
                      ·
                        refine z_iconst hx hb dX11_goYears_156 ?_
                        refine lv_istore (lv' := [(6, .int (zI 0)), (1, .int (zI (p1 + 2))), (5, .int (zI 0)), (4, .int (zI (sgn (p1 + 1)))), (3, .int (zI ((sgn p1) - 65))), (2, .int (zI (sgn p1))), (0, .ref md)]) hx hb dX11_goYears_157 hl (Nat.le_of_ble_eq_true rfl) rfl (fun ls hl => ?_)
                        refine lv_iload hx hb dX11_goYears_159 (lv_at hl 0 rfl) ?_
                        refine z_if_eq (tgt := 202) hx hb dX11_goYears_161 (by decide) (by decide) (fun h161 => ?_) (fun h161 => ?_)
                        ·
                          have hwb : 0 ≤ whyS T matx yrx (sgn (p1 + 1)) ((sgn p1) - 65) (if (sgn (p1 + 1)) = 38 then 65 - 65 else 65 - 48) ∧ whyS T matx yrx (sgn (p1 + 1)) ((sgn p1) - 65) (if (sgn (p1 + 1)) = 38 then 65 - 65 else 65 - 48) ≤ 4 := whyS_bd _ _ _ _ _ _
                          have hbad : ¬ ((sgn (p1 + 1) = 58 ∨ sgn (p1 + 1) = 63) ∧ ¬ cvS T incx tmx (sgn p1 - 65) (sgn (p1 + 1) = 63) = inO T incx (sgn p1 - 65) ∧ wax = -6) := fun q => by omega
                          refine lv_aload_n hx hb dX11_goYears_202 rfl (lv_at hl 6 rfl) ?_
                          refine z_get (C := RX11) (T := TX11) (N := 23) (ref := "HornCityModel") hx hb hts hin_X11_goYears_X11 hown hK hz 0 rfl rfl 11 (by decide) (hts _ fl_X11_goYears_119) rfl rfl dX11_goYears_203 ?_
                          refine z_if_le (tgt := 214) hx hb dX11_goYears_206 (by decide) (by omega) (fun h206 => ?_) (fun h206 => ?_)
                          ·
                            have hw0 : whyS T matx yrx (sgn (p1 + 1)) (sgn p1 - 65) (laS (sgn (p1 + 1)) 65) = 0 := by first | omega | exact h135
                            obtain ⟨he1, he2, he3⟩ := hc112_1 hw0
                            refine lv_aload_n hx hb dX11_goYears_214 rfl (lv_at hl 6 rfl) ?_
                            refine lv_dup hx hb dX11_goYears_215 rfl ?_
                            refine z_get (C := RX11) (T := TX11) (N := 23) (ref := "HornCityModel") hx hb hts hin_X11_goYears_X11 hown hK hz 0 rfl rfl 12 (by decide) (hts _ fl_X11_goYears_113) rfl rfl dX11_goYears_216 ?_
                            refine z_iconst hx hb dX11_goYears_219 ?_
                            refine z_iadd hx hb dX11_goYears_220 ?_
                            refine z_put (C := RX11) (T := TX11) (N := 23) (ref := "HornCityModel") (ty := .int) hx hb hts hin_X11_goYears_X11 hown hK hz tyX11 tyX11_ok nmX11 0 rfl rfl 12 (by decide) (hts _ fl_X11_goYears_113) rfl rfl (by decide +kernel) rfl rfl (Nat.le_of_ble_eq_true rfl) dX11_goYears_221 (fun H locs hz => ?_)
                            have hz : zH D (zF ws0) H0 [(md, .inr (9, [.ref bk, .ref nw, .ref nt, .int (zI T), .ref df, .int (zI cn), .ref chk, .int (zI ln), .ref pa, .int (zI wax), .int (zI wox), .int (zI (whyS T matx yrx (sgn (p1 + 1)) ((sgn p1) - 65) (if (sgn (p1 + 1)) = 38 then 65 - 65 else 65 - 48))), .int (zI (acx + 1)), .int (zI fse), .ref rc, .ref qu, .ref ct, .ref ft, .ref wn, .ref wy, .ref nx, .ref im, .ref ik])), (bk, .inl (cI, 29, .inl (zA (nwS inc mat kd tm yr)))), (nw, .inl (cI, 29, .inl (zA (nwS inc1_17 mat1_18 kd1_19 tmx yrx)))), (nt, .inl (cI, 9, .inl (zA ntx))), (df, .inl (cI, 9, .inl (zA dri))), (pa, .inl (cI, 60, .inl (zA sgn)))] H locs := hz
                            refine lv_goto (tgt := 11) hx hb dX11_goYears_224 (by decide) ?_
                            exact ih11 _ (by omega) (p1 + 2) wax wox (whyS T matx yrx (sgn (p1 + 1)) ((sgn p1) - 65) (if (sgn (p1 + 1)) = 38 then 65 - 65 else 65 - 48)) (acx + 1) tmx yrx inc1_17 mat1_18 kd1_19 ntx H locs ls rfl (by omega) (by have h7 := hfn.2; rw [len2 (by rw [hok2.2.2.2.2.1]; omega)] at h7; exact h7) (by rw [he1]; exact actI_bd hbx) (by rw [he2]; exact mOk_act hmx hw0) (htx) (by omega) (by rw [hrun, runB (la := 65) (show 0 ≤ acx ∧ acx < 60 by omega) (show 0 ≤ p1 ∧ p1 < ln by omega) hok2 (fun q => by omega) hw0, len2 (by rw [hok2.2.2.2.2.1]; omega)]; congr 1; simp only [stpS]; rw [← he1, ← he2, ← he3, show actH tmx yrx (sgn (p1 + 1)) = tmx from if_neg (by omega), show actY yrx (sgn (p1 + 1)) = yrx from if_neg (by omega)]; rw [if_neg hbad, if_neg hbad]) hz (lv_sub hl [1, 6] rfl)
                          ·
                            refine lv_aload_n hx hb dX11_goYears_209 rfl (lv_at hl 6 rfl) ?_
                            refine z_get (C := RX11) (T := TX11) (N := 23) (ref := "HornCityModel") hx hb hts hin_X11_goYears_X11 hown hK hz 0 rfl rfl 12 (by decide) (hts _ fl_X11_goYears_113) rfl rfl dX11_goYears_210 ?_
                            exact hret ((acx : Int), (inc1_17 : Int → Int), (mat1_18 : Int → Int), (kd1_19 : Int → Int), (tmx : Int), (yrx : Int), (ntx : Int → Int), (wax : Int), (wox : Int), ((whyS T matx yrx (sgn (p1 + 1)) ((sgn p1) - 65) (if (sgn (p1 + 1)) = 38 then 65 - 65 else 65 - 48)) : Int), (acx : Int)) dX11_goYears_213 (show (zRwh (rnW T dri ln sgn inc mat tm yr) = 0 → acx = -6 ∧ (inc1_17, mat1_18, tmx, yrx, kd1_19, wax, wox, acx, 0) = (rnW T dri ln sgn inc mat tm yr) ∧ mOk T mat1_18) ∧ (¬ zRwh (rnW T dri ln sgn inc mat tm yr) = 0 → acx = zRac (rnW T dri ln sgn inc mat tm yr) ∧ (whyS T matx yrx (sgn (p1 + 1)) ((sgn p1) - 65) (if (sgn (p1 + 1)) = 38 then 65 - 65 else 65 - 48)) = zRwh (rnW T dri ln sgn inc mat tm yr) ∧ 0 ≤ acx ∧ 0 < (whyS T matx yrx (sgn (p1 + 1)) ((sgn p1) - 65) (if (sgn (p1 + 1)) = 38 then 65 - 65 else 65 - 48))) from (by have hne : ¬ whyS T matx yrx (sgn (p1 + 1)) (sgn p1 - 65) (laS (sgn (p1 + 1)) 65) = 0 := (by omega); have hEQ : (rnW T dri ln sgn inc mat tm yr) = (incx, matx, tmx, yrx, kdx, wax, wox, acx, whyS T matx yrx (sgn (p1 + 1)) (sgn p1 - 65) (laS (sgn (p1 + 1)) 65)) := (by unfold rnW; rw [hrun, noB (la := 65) (show 0 ≤ acx ∧ acx < 60 by omega) (show 0 ≤ p1 ∧ p1 < ln by omega) hok2 (fun q => by omega) hne]); exact ⟨fun q => absurd (by rw [hEQ] at q; exact q) hne, fun _ => ⟨by rw [hEQ]; rfl, by rw [hEQ]; rfl, by omega, by omega⟩⟩)) hz
                        ·
                          exfalso
                          first | omega | (revert h161; simp_all; done) | simp_all
                      ·
                        refine z_iconst hx hb dX11_goYears_152 ?_
                        refine lv_goto (tgt := 157) hx hb dX11_goYears_153 (by decide) ?_
                        refine lv_istore (lv' := [(6, .int (zI 1)), (1, .int (zI (p1 + 2))), (5, .int (zI 0)), (4, .int (zI (sgn (p1 + 1)))), (3, .int (zI ((sgn p1) - 65))), (2, .int (zI (sgn p1))), (0, .ref md)]) hx hb dX11_goYears_157 hl (Nat.le_of_ble_eq_true rfl) rfl (fun ls hl => ?_)
                        refine lv_iload hx hb dX11_goYears_159 (lv_at hl 0 rfl) ?_
                        refine z_if_eq (tgt := 202) hx hb dX11_goYears_161 (by decide) (by decide) (fun h161 => ?_) (fun h161 => ?_)
                        ·
                          exfalso
                          first | omega | (revert h161; simp_all; done) | simp_all
                        ·
                          have hw0 : whyS T matx yrx (sgn (p1 + 1)) (sgn p1 - 65) (laS (sgn (p1 + 1)) 65) = 0 := h135
                          obtain ⟨he1, he2, he3⟩ := hc112_1 hw0
                          have hin := why0_in hw0 (by omega)
                          have hkr := inS.rng hin
                          have hie : inc1_17 (sgn p1 - 65) = incx (sgn p1 - 65) := by rw [he1]; unfold actI; rw [if_neg (by omega), if_neg (by omega), if_neg (by omega)]
                          have hkv : kd1_19 (sgn p1 - 65) = cvS T incx tmx (sgn p1 - 65) (sgn (p1 + 1) = 63) := by rw [he3, if_pos (by omega)]; exact zU_same
                          have hcb := cvS_bd T incx tmx (sgn p1 - 65) (sgn (p1 + 1) = 63)
                          have hiv : inO T incx (sgn p1 - 65) = incx (sgn p1 - 65) := if_pos hin
                          have hib := hbx.ax (sgn p1 - 65) hkr
                          refine lv_aload_n hx hb dX11_goYears_164 rfl (lv_at hl 6 rfl) ?_
                          refine z_get (C := RX11) (T := TX11) (N := 23) (ref := "HornCityModel") hx hb hts hin_X11_goYears_X11 hown hK hz 0 rfl rfl 9 (by decide) (hts _ fl_X11_goYears_93) rfl rfl dX11_goYears_165 ?_
                          refine z_if_ge (tgt := 202) hx hb dX11_goYears_168 (by decide) (by omega) (fun h168 => ?_) (fun h168 => ?_)
                          ·
                            have hwb : 0 ≤ whyS T matx yrx (sgn (p1 + 1)) ((sgn p1) - 65) (if (sgn (p1 + 1)) = 38 then 65 - 65 else 65 - 48) ∧ whyS T matx yrx (sgn (p1 + 1)) ((sgn p1) - 65) (if (sgn (p1 + 1)) = 38 then 65 - 65 else 65 - 48) ≤ 4 := whyS_bd _ _ _ _ _ _
                            have hbad : ¬ ((sgn (p1 + 1) = 58 ∨ sgn (p1 + 1) = 63) ∧ ¬ cvS T incx tmx (sgn p1 - 65) (sgn (p1 + 1) = 63) = inO T incx (sgn p1 - 65) ∧ wax = -6) := fun q => by omega
                            refine lv_aload_n hx hb dX11_goYears_202 rfl (lv_at hl 6 rfl) ?_
                            refine z_get (C := RX11) (T := TX11) (N := 23) (ref := "HornCityModel") hx hb hts hin_X11_goYears_X11 hown hK hz 0 rfl rfl 11 (by decide) (hts _ fl_X11_goYears_119) rfl rfl dX11_goYears_203 ?_
                            refine z_if_le (tgt := 214) hx hb dX11_goYears_206 (by decide) (by omega) (fun h206 => ?_) (fun h206 => ?_)
                            ·
                              have hw0 : whyS T matx yrx (sgn (p1 + 1)) (sgn p1 - 65) (laS (sgn (p1 + 1)) 65) = 0 := by first | omega | exact h135
                              refine lv_aload_n hx hb dX11_goYears_214 rfl (lv_at hl 6 rfl) ?_
                              refine lv_dup hx hb dX11_goYears_215 rfl ?_
                              refine z_get (C := RX11) (T := TX11) (N := 23) (ref := "HornCityModel") hx hb hts hin_X11_goYears_X11 hown hK hz 0 rfl rfl 12 (by decide) (hts _ fl_X11_goYears_113) rfl rfl dX11_goYears_216 ?_
                              refine z_iconst hx hb dX11_goYears_219 ?_
                              refine z_iadd hx hb dX11_goYears_220 ?_
                              refine z_put (C := RX11) (T := TX11) (N := 23) (ref := "HornCityModel") (ty := .int) hx hb hts hin_X11_goYears_X11 hown hK hz tyX11 tyX11_ok nmX11 0 rfl rfl 12 (by decide) (hts _ fl_X11_goYears_113) rfl rfl (by decide +kernel) rfl rfl (Nat.le_of_ble_eq_true rfl) dX11_goYears_221 (fun H locs hz => ?_)
                              have hz : zH D (zF ws0) H0 [(md, .inr (9, [.ref bk, .ref nw, .ref nt, .int (zI T), .ref df, .int (zI cn), .ref chk, .int (zI ln), .ref pa, .int (zI wax), .int (zI wox), .int (zI (whyS T matx yrx (sgn (p1 + 1)) ((sgn p1) - 65) (if (sgn (p1 + 1)) = 38 then 65 - 65 else 65 - 48))), .int (zI (acx + 1)), .int (zI fse), .ref rc, .ref qu, .ref ct, .ref ft, .ref wn, .ref wy, .ref nx, .ref im, .ref ik])), (bk, .inl (cI, 29, .inl (zA (nwS inc mat kd tm yr)))), (nw, .inl (cI, 29, .inl (zA (nwS inc1_17 mat1_18 kd1_19 tmx yrx)))), (nt, .inl (cI, 9, .inl (zA ntx))), (df, .inl (cI, 9, .inl (zA dri))), (pa, .inl (cI, 60, .inl (zA sgn)))] H locs := hz
                              refine lv_goto (tgt := 11) hx hb dX11_goYears_224 (by decide) ?_
                              exact ih11 _ (by omega) (p1 + 2) wax wox (whyS T matx yrx (sgn (p1 + 1)) ((sgn p1) - 65) (if (sgn (p1 + 1)) = 38 then 65 - 65 else 65 - 48)) (acx + 1) tmx yrx inc1_17 mat1_18 kd1_19 ntx H locs ls rfl (by omega) (by have h7 := hfn.2; rw [len2 (by rw [hok2.2.2.2.2.1]; omega)] at h7; exact h7) (by rw [he1]; exact actI_bd hbx) (by rw [he2]; exact mOk_act hmx hw0) (htx) (by omega) (by rw [hrun, runB (la := 65) (show 0 ≤ acx ∧ acx < 60 by omega) (show 0 ≤ p1 ∧ p1 < ln by omega) hok2 (fun q => by omega) hw0, len2 (by rw [hok2.2.2.2.2.1]; omega)]; congr 1; simp only [stpS]; rw [← he1, ← he2, ← he3, show actH tmx yrx (sgn (p1 + 1)) = tmx from if_neg (by omega), show actY yrx (sgn (p1 + 1)) = yrx from if_neg (by omega)]; rw [if_neg hbad, if_neg hbad]) hz (lv_sub hl [1, 6] rfl)
                            ·
                              refine lv_aload_n hx hb dX11_goYears_209 rfl (lv_at hl 6 rfl) ?_
                              refine z_get (C := RX11) (T := TX11) (N := 23) (ref := "HornCityModel") hx hb hts hin_X11_goYears_X11 hown hK hz 0 rfl rfl 12 (by decide) (hts _ fl_X11_goYears_113) rfl rfl dX11_goYears_210 ?_
                              exact hret ((acx : Int), (inc1_17 : Int → Int), (mat1_18 : Int → Int), (kd1_19 : Int → Int), (tmx : Int), (yrx : Int), (ntx : Int → Int), (wax : Int), (wox : Int), ((whyS T matx yrx (sgn (p1 + 1)) ((sgn p1) - 65) (if (sgn (p1 + 1)) = 38 then 65 - 65 else 65 - 48)) : Int), (acx : Int)) dX11_goYears_213 (show (zRwh (rnW T dri ln sgn inc mat tm yr) = 0 → acx = -6 ∧ (inc1_17, mat1_18, tmx, yrx, kd1_19, wax, wox, acx, 0) = (rnW T dri ln sgn inc mat tm yr) ∧ mOk T mat1_18) ∧ (¬ zRwh (rnW T dri ln sgn inc mat tm yr) = 0 → acx = zRac (rnW T dri ln sgn inc mat tm yr) ∧ (whyS T matx yrx (sgn (p1 + 1)) ((sgn p1) - 65) (if (sgn (p1 + 1)) = 38 then 65 - 65 else 65 - 48)) = zRwh (rnW T dri ln sgn inc mat tm yr) ∧ 0 ≤ acx ∧ 0 < (whyS T matx yrx (sgn (p1 + 1)) ((sgn p1) - 65) (if (sgn (p1 + 1)) = 38 then 65 - 65 else 65 - 48))) from (by have hne : ¬ whyS T matx yrx (sgn (p1 + 1)) (sgn p1 - 65) (laS (sgn (p1 + 1)) 65) = 0 := (by omega); have hEQ : (rnW T dri ln sgn inc mat tm yr) = (incx, matx, tmx, yrx, kdx, wax, wox, acx, whyS T matx yrx (sgn (p1 + 1)) (sgn p1 - 65) (laS (sgn (p1 + 1)) 65)) := (by unfold rnW; rw [hrun, noB (la := 65) (show 0 ≤ acx ∧ acx < 60 by omega) (show 0 ≤ p1 ∧ p1 < ln by omega) hok2 (fun q => by omega) hne]); exact ⟨fun q => absurd (by rw [hEQ] at q; exact q) hne, fun _ => ⟨by rw [hEQ]; rfl, by rw [hEQ]; rfl, by omega, by omega⟩⟩)) hz
                          ·
                            refine lv_aload_n hx hb dX11_goYears_171 rfl (lv_at hl 6 rfl) ?_
                            refine z_get (C := RX11) (T := TX11) (N := 23) (ref := "HornCityModel") hx hb hts hin_X11_goYears_X11 hown hK hz 0 rfl rfl 1 (by decide) (hts _ fl_X11_goYears_13) rfl rfl dX11_goYears_172 ?_
                            refine z_bipush hx hb dX11_goYears_175 (by decide) ?_
                            refine lv_iload_n hx hb dX11_goYears_177 rfl (lv_at hl 4 rfl) ?_
                            refine z_iadd hx hb dX11_goYears_178 ?_
                            refine z_iald hx hb hK hz 2 rfl (by omega) (by decide) dX11_goYears_179 ?_
                            rw [nwS_k (k := ((sgn p1) - 65)) (by omega)]
                            refine lv_aload_n hx hb dX11_goYears_180 rfl (lv_at hl 6 rfl) ?_
                            refine z_get (C := RX11) (T := TX11) (N := 23) (ref := "HornCityModel") hx hb hts hin_X11_goYears_X11 hown hK hz 0 rfl rfl 1 (by decide) (hts _ fl_X11_goYears_13) rfl rfl dX11_goYears_181 ?_
                            refine lv_iload_n hx hb dX11_goYears_184 rfl (lv_at hl 4 rfl) ?_
                            refine z_iald hx hb hK hz 2 rfl (by omega) (by decide) dX11_goYears_185 ?_
                            rw [nwS_i hkr]
                            refine z_icmp_eq (tgt := 202) hx hb dX11_goYears_186 (by decide) (by omega) (by omega) (fun h186 => ?_) (fun h186 => ?_)
                            ·
                              have hwb : 0 ≤ whyS T matx yrx (sgn (p1 + 1)) ((sgn p1) - 65) (if (sgn (p1 + 1)) = 38 then 65 - 65 else 65 - 48) ∧ whyS T matx yrx (sgn (p1 + 1)) ((sgn p1) - 65) (if (sgn (p1 + 1)) = 38 then 65 - 65 else 65 - 48) ≤ 4 := whyS_bd _ _ _ _ _ _
                              have hbad : ¬ ((sgn (p1 + 1) = 58 ∨ sgn (p1 + 1) = 63) ∧ ¬ cvS T incx tmx (sgn p1 - 65) (sgn (p1 + 1) = 63) = inO T incx (sgn p1 - 65) ∧ wax = -6) := fun q => q.2.1 (by rw [← hkv, hiv, ← hie]; exact h186)
                              refine lv_aload_n hx hb dX11_goYears_202 rfl (lv_at hl 6 rfl) ?_
                              refine z_get (C := RX11) (T := TX11) (N := 23) (ref := "HornCityModel") hx hb hts hin_X11_goYears_X11 hown hK hz 0 rfl rfl 11 (by decide) (hts _ fl_X11_goYears_119) rfl rfl dX11_goYears_203 ?_
                              refine z_if_le (tgt := 214) hx hb dX11_goYears_206 (by decide) (by omega) (fun h206 => ?_) (fun h206 => ?_)
                              ·
                                have hw0 : whyS T matx yrx (sgn (p1 + 1)) (sgn p1 - 65) (laS (sgn (p1 + 1)) 65) = 0 := by first | omega | exact h135
                                refine lv_aload_n hx hb dX11_goYears_214 rfl (lv_at hl 6 rfl) ?_
                                refine lv_dup hx hb dX11_goYears_215 rfl ?_
                                refine z_get (C := RX11) (T := TX11) (N := 23) (ref := "HornCityModel") hx hb hts hin_X11_goYears_X11 hown hK hz 0 rfl rfl 12 (by decide) (hts _ fl_X11_goYears_113) rfl rfl dX11_goYears_216 ?_
                                refine z_iconst hx hb dX11_goYears_219 ?_
                                refine z_iadd hx hb dX11_goYears_220 ?_
                                refine z_put (C := RX11) (T := TX11) (N := 23) (ref := "HornCityModel") (ty := .int) hx hb hts hin_X11_goYears_X11 hown hK hz tyX11 tyX11_ok nmX11 0 rfl rfl 12 (by decide) (hts _ fl_X11_goYears_113) rfl rfl (by decide +kernel) rfl rfl (Nat.le_of_ble_eq_true rfl) dX11_goYears_221 (fun H locs hz => ?_)
                                have hz : zH D (zF ws0) H0 [(md, .inr (9, [.ref bk, .ref nw, .ref nt, .int (zI T), .ref df, .int (zI cn), .ref chk, .int (zI ln), .ref pa, .int (zI wax), .int (zI wox), .int (zI (whyS T matx yrx (sgn (p1 + 1)) ((sgn p1) - 65) (if (sgn (p1 + 1)) = 38 then 65 - 65 else 65 - 48))), .int (zI (acx + 1)), .int (zI fse), .ref rc, .ref qu, .ref ct, .ref ft, .ref wn, .ref wy, .ref nx, .ref im, .ref ik])), (bk, .inl (cI, 29, .inl (zA (nwS inc mat kd tm yr)))), (nw, .inl (cI, 29, .inl (zA (nwS inc1_17 mat1_18 kd1_19 tmx yrx)))), (nt, .inl (cI, 9, .inl (zA ntx))), (df, .inl (cI, 9, .inl (zA dri))), (pa, .inl (cI, 60, .inl (zA sgn)))] H locs := hz
                                refine lv_goto (tgt := 11) hx hb dX11_goYears_224 (by decide) ?_
                                exact ih11 _ (by omega) (p1 + 2) wax wox (whyS T matx yrx (sgn (p1 + 1)) ((sgn p1) - 65) (if (sgn (p1 + 1)) = 38 then 65 - 65 else 65 - 48)) (acx + 1) tmx yrx inc1_17 mat1_18 kd1_19 ntx H locs ls rfl (by omega) (by have h7 := hfn.2; rw [len2 (by rw [hok2.2.2.2.2.1]; omega)] at h7; exact h7) (by rw [he1]; exact actI_bd hbx) (by rw [he2]; exact mOk_act hmx hw0) (htx) (by omega) (by rw [hrun, runB (la := 65) (show 0 ≤ acx ∧ acx < 60 by omega) (show 0 ≤ p1 ∧ p1 < ln by omega) hok2 (fun q => by omega) hw0, len2 (by rw [hok2.2.2.2.2.1]; omega)]; congr 1; simp only [stpS]; rw [← he1, ← he2, ← he3, show actH tmx yrx (sgn (p1 + 1)) = tmx from if_neg (by omega), show actY yrx (sgn (p1 + 1)) = yrx from if_neg (by omega)]; rw [if_neg hbad, if_neg hbad]) hz (lv_sub hl [1, 6] rfl)
                              ·
                                refine lv_aload_n hx hb dX11_goYears_209 rfl (lv_at hl 6 rfl) ?_
                                refine z_get (C := RX11) (T := TX11) (N := 23) (ref := "HornCityModel") hx hb hts hin_X11_goYears_X11 hown hK hz 0 rfl rfl 12 (by decide) (hts _ fl_X11_goYears_113) rfl rfl dX11_goYears_210 ?_
                                exact hret ((acx : Int), (inc1_17 : Int → Int), (mat1_18 : Int → Int), (kd1_19 : Int → Int), (tmx : Int), (yrx : Int), (ntx : Int → Int), (wax : Int), (wox : Int), ((whyS T matx yrx (sgn (p1 + 1)) ((sgn p1) - 65) (if (sgn (p1 + 1)) = 38 then 65 - 65 else 65 - 48)) : Int), (acx : Int)) dX11_goYears_213 (show (zRwh (rnW T dri ln sgn inc mat tm yr) = 0 → acx = -6 ∧ (inc1_17, mat1_18, tmx, yrx, kd1_19, wax, wox, acx, 0) = (rnW T dri ln sgn inc mat tm yr) ∧ mOk T mat1_18) ∧ (¬ zRwh (rnW T dri ln sgn inc mat tm yr) = 0 → acx = zRac (rnW T dri ln sgn inc mat tm yr) ∧ (whyS T matx yrx (sgn (p1 + 1)) ((sgn p1) - 65) (if (sgn (p1 + 1)) = 38 then 65 - 65 else 65 - 48)) = zRwh (rnW T dri ln sgn inc mat tm yr) ∧ 0 ≤ acx ∧ 0 < (whyS T matx yrx (sgn (p1 + 1)) ((sgn p1) - 65) (if (sgn (p1 + 1)) = 38 then 65 - 65 else 65 - 48))) from (by have hne : ¬ whyS T matx yrx (sgn (p1 + 1)) (sgn p1 - 65) (laS (sgn (p1 + 1)) 65) = 0 := (by omega); have hEQ : (rnW T dri ln sgn inc mat tm yr) = (incx, matx, tmx, yrx, kdx, wax, wox, acx, whyS T matx yrx (sgn (p1 + 1)) (sgn p1 - 65) (laS (sgn (p1 + 1)) 65)) := (by unfold rnW; rw [hrun, noB (la := 65) (show 0 ≤ acx ∧ acx < 60 by omega) (show 0 ≤ p1 ∧ p1 < ln by omega) hok2 (fun q => by omega) hne]); exact ⟨fun q => absurd (by rw [hEQ] at q; exact q) hne, fun _ => ⟨by rw [hEQ]; rfl, by rw [hEQ]; rfl, by omega, by omega⟩⟩)) hz
                            ·
                              refine lv_aload_n hx hb dX11_goYears_189 rfl (lv_at hl 6 rfl) ?_
                              refine lv_aload_n hx hb dX11_goYears_190 rfl (lv_at hl 6 rfl) ?_
                              refine z_get (C := RX11) (T := TX11) (N := 23) (ref := "HornCityModel") hx hb hts hin_X11_goYears_X11 hown hK hz 0 rfl rfl 12 (by decide) (hts _ fl_X11_goYears_113) rfl rfl dX11_goYears_191 ?_
                              refine z_put (C := RX11) (T := TX11) (N := 23) (ref := "HornCityModel") (ty := .int) hx hb hts hin_X11_goYears_X11 hown hK hz tyX11 tyX11_ok nmX11 0 rfl rfl 9 (by decide) (hts _ fl_X11_goYears_93) rfl rfl (by decide +kernel) rfl rfl (Nat.le_of_ble_eq_true rfl) dX11_goYears_194 (fun H locs hz => ?_)
                              have hz : zH D (zF ws0) H0 [(md, .inr (9, [.ref bk, .ref nw, .ref nt, .int (zI T), .ref df, .int (zI cn), .ref chk, .int (zI ln), .ref pa, .int (zI acx), .int (zI wox), .int (zI (whyS T matx yrx (sgn (p1 + 1)) ((sgn p1) - 65) (if (sgn (p1 + 1)) = 38 then 65 - 65 else 65 - 48))), .int (zI acx), .int (zI fse), .ref rc, .ref qu, .ref ct, .ref ft, .ref wn, .ref wy, .ref nx, .ref im, .ref ik])), (bk, .inl (cI, 29, .inl (zA (nwS inc mat kd tm yr)))), (nw, .inl (cI, 29, .inl (zA (nwS inc1_17 mat1_18 kd1_19 tmx yrx)))), (nt, .inl (cI, 9, .inl (zA ntx))), (df, .inl (cI, 9, .inl (zA dri))), (pa, .inl (cI, 60, .inl (zA sgn)))] H locs := hz
                              refine lv_aload_n hx hb dX11_goYears_197 rfl (lv_at hl 6 rfl) ?_
                              refine lv_iload_n hx hb dX11_goYears_198 rfl (lv_at hl 4 rfl) ?_
                              refine z_put (C := RX11) (T := TX11) (N := 23) (ref := "HornCityModel") (ty := .int) hx hb hts hin_X11_goYears_X11 hown hK hz tyX11 tyX11_ok nmX11 0 rfl rfl 10 (by decide) (hts _ fl_X11_goYears_96) rfl rfl (by decide +kernel) rfl rfl (Nat.le_of_ble_eq_true rfl) dX11_goYears_199 (fun H locs hz => ?_)
                              have hz : zH D (zF ws0) H0 [(md, .inr (9, [.ref bk, .ref nw, .ref nt, .int (zI T), .ref df, .int (zI cn), .ref chk, .int (zI ln), .ref pa, .int (zI acx), .int (zI ((sgn p1) - 65)), .int (zI (whyS T matx yrx (sgn (p1 + 1)) ((sgn p1) - 65) (if (sgn (p1 + 1)) = 38 then 65 - 65 else 65 - 48))), .int (zI acx), .int (zI fse), .ref rc, .ref qu, .ref ct, .ref ft, .ref wn, .ref wy, .ref nx, .ref im, .ref ik])), (bk, .inl (cI, 29, .inl (zA (nwS inc mat kd tm yr)))), (nw, .inl (cI, 29, .inl (zA (nwS inc1_17 mat1_18 kd1_19 tmx yrx)))), (nt, .inl (cI, 9, .inl (zA ntx))), (df, .inl (cI, 9, .inl (zA dri))), (pa, .inl (cI, 60, .inl (zA sgn)))] H locs := hz
                              have hwb : 0 ≤ whyS T matx yrx (sgn (p1 + 1)) ((sgn p1) - 65) (if (sgn (p1 + 1)) = 38 then 65 - 65 else 65 - 48) ∧ whyS T matx yrx (sgn (p1 + 1)) ((sgn p1) - 65) (if (sgn (p1 + 1)) = 38 then 65 - 65 else 65 - 48) ≤ 4 := whyS_bd _ _ _ _ _ _
                              have hbad : (sgn (p1 + 1) = 58 ∨ sgn (p1 + 1) = 63) ∧ ¬ cvS T incx tmx (sgn p1 - 65) (sgn (p1 + 1) = 63) = inO T incx (sgn p1 - 65) ∧ wax = -6 := ⟨by omega, by rw [← hkv, hiv, ← hie]; exact h186, by omega⟩
                              refine lv_aload_n hx hb dX11_goYears_202 rfl (lv_at hl 6 rfl) ?_
                              refine z_get (C := RX11) (T := TX11) (N := 23) (ref := "HornCityModel") hx hb hts hin_X11_goYears_X11 hown hK hz 0 rfl rfl 11 (by decide) (hts _ fl_X11_goYears_119) rfl rfl dX11_goYears_203 ?_
                              refine z_if_le (tgt := 214) hx hb dX11_goYears_206 (by decide) (by omega) (fun h206 => ?_) (fun h206 => ?_)
                              ·
                                have hw0 : whyS T matx yrx (sgn (p1 + 1)) (sgn p1 - 65) (laS (sgn (p1 + 1)) 65) = 0 := by first | omega | exact h135
                                refine lv_aload_n hx hb dX11_goYears_214 rfl (lv_at hl 6 rfl) ?_
                                refine lv_dup hx hb dX11_goYears_215 rfl ?_
                                refine z_get (C := RX11) (T := TX11) (N := 23) (ref := "HornCityModel") hx hb hts hin_X11_goYears_X11 hown hK hz 0 rfl rfl 12 (by decide) (hts _ fl_X11_goYears_113) rfl rfl dX11_goYears_216 ?_
                                refine z_iconst hx hb dX11_goYears_219 ?_
                                refine z_iadd hx hb dX11_goYears_220 ?_
                                refine z_put (C := RX11) (T := TX11) (N := 23) (ref := "HornCityModel") (ty := .int) hx hb hts hin_X11_goYears_X11 hown hK hz tyX11 tyX11_ok nmX11 0 rfl rfl 12 (by decide) (hts _ fl_X11_goYears_113) rfl rfl (by decide +kernel) rfl rfl (Nat.le_of_ble_eq_true rfl) dX11_goYears_221 (fun H locs hz => ?_)
                                have hz : zH D (zF ws0) H0 [(md, .inr (9, [.ref bk, .ref nw, .ref nt, .int (zI T), .ref df, .int (zI cn), .ref chk, .int (zI ln), .ref pa, .int (zI acx), .int (zI ((sgn p1) - 65)), .int (zI (whyS T matx yrx (sgn (p1 + 1)) ((sgn p1) - 65) (if (sgn (p1 + 1)) = 38 then 65 - 65 else 65 - 48))), .int (zI (acx + 1)), .int (zI fse), .ref rc, .ref qu, .ref ct, .ref ft, .ref wn, .ref wy, .ref nx, .ref im, .ref ik])), (bk, .inl (cI, 29, .inl (zA (nwS inc mat kd tm yr)))), (nw, .inl (cI, 29, .inl (zA (nwS inc1_17 mat1_18 kd1_19 tmx yrx)))), (nt, .inl (cI, 9, .inl (zA ntx))), (df, .inl (cI, 9, .inl (zA dri))), (pa, .inl (cI, 60, .inl (zA sgn)))] H locs := hz
                                refine lv_goto (tgt := 11) hx hb dX11_goYears_224 (by decide) ?_
                                exact ih11 _ (by omega) (p1 + 2) acx ((sgn p1) - 65) (whyS T matx yrx (sgn (p1 + 1)) ((sgn p1) - 65) (if (sgn (p1 + 1)) = 38 then 65 - 65 else 65 - 48)) (acx + 1) tmx yrx inc1_17 mat1_18 kd1_19 ntx H locs ls rfl (by omega) (by have h7 := hfn.2; rw [len2 (by rw [hok2.2.2.2.2.1]; omega)] at h7; exact h7) (by rw [he1]; exact actI_bd hbx) (by rw [he2]; exact mOk_act hmx hw0) (htx) (by omega) (by rw [hrun, runB (la := 65) (show 0 ≤ acx ∧ acx < 60 by omega) (show 0 ≤ p1 ∧ p1 < ln by omega) hok2 (fun q => by omega) hw0, len2 (by rw [hok2.2.2.2.2.1]; omega)]; congr 1; simp only [stpS]; rw [← he1, ← he2, ← he3, show actH tmx yrx (sgn (p1 + 1)) = tmx from if_neg (by omega), show actY yrx (sgn (p1 + 1)) = yrx from if_neg (by omega)]; rw [if_pos hbad, if_pos hbad]) hz (lv_sub hl [1, 6] rfl)
                              ·
                                refine lv_aload_n hx hb dX11_goYears_209 rfl (lv_at hl 6 rfl) ?_
                                refine z_get (C := RX11) (T := TX11) (N := 23) (ref := "HornCityModel") hx hb hts hin_X11_goYears_X11 hown hK hz 0 rfl rfl 12 (by decide) (hts _ fl_X11_goYears_113) rfl rfl dX11_goYears_210 ?_
                                exact hret ((acx : Int), (inc1_17 : Int → Int), (mat1_18 : Int → Int), (kd1_19 : Int → Int), (tmx : Int), (yrx : Int), (ntx : Int → Int), (acx : Int), (((sgn p1) - 65) : Int), ((whyS T matx yrx (sgn (p1 + 1)) ((sgn p1) - 65) (if (sgn (p1 + 1)) = 38 then 65 - 65 else 65 - 48)) : Int), (acx : Int)) dX11_goYears_213 (show (zRwh (rnW T dri ln sgn inc mat tm yr) = 0 → acx = -6 ∧ (inc1_17, mat1_18, tmx, yrx, kd1_19, acx, ((sgn p1) - 65), acx, 0) = (rnW T dri ln sgn inc mat tm yr) ∧ mOk T mat1_18) ∧ (¬ zRwh (rnW T dri ln sgn inc mat tm yr) = 0 → acx = zRac (rnW T dri ln sgn inc mat tm yr) ∧ (whyS T matx yrx (sgn (p1 + 1)) ((sgn p1) - 65) (if (sgn (p1 + 1)) = 38 then 65 - 65 else 65 - 48)) = zRwh (rnW T dri ln sgn inc mat tm yr) ∧ 0 ≤ acx ∧ 0 < (whyS T matx yrx (sgn (p1 + 1)) ((sgn p1) - 65) (if (sgn (p1 + 1)) = 38 then 65 - 65 else 65 - 48))) from (by have hne : ¬ whyS T matx yrx (sgn (p1 + 1)) (sgn p1 - 65) (laS (sgn (p1 + 1)) 65) = 0 := (by omega); have hEQ : (rnW T dri ln sgn inc mat tm yr) = (incx, matx, tmx, yrx, kdx, wax, wox, acx, whyS T matx yrx (sgn (p1 + 1)) (sgn p1 - 65) (laS (sgn (p1 + 1)) 65)) := (by unfold rnW; rw [hrun, noB (la := 65) (show 0 ≤ acx ∧ acx < 60 by omega) (show 0 ≤ p1 ∧ p1 < ln by omega) hok2 (fun q => by omega) hne]); exact ⟨fun q => absurd (by rw [hEQ] at q; exact q) hne, fun _ => ⟨by rw [hEQ]; rfl, by rw [hEQ]; rfl, by omega, by omega⟩⟩)) hz
                ·
                  exfalso
                  first | omega | (revert h121; simp_all; done) | simp_all
              ·
                exfalso
                first | omega | (revert h96; simp_all; done) | simp_all
            ·
              refine z_iconst hx hb dX11_goYears_82 ?_
              refine lv_goto (tgt := 87) hx hb dX11_goYears_83 (by decide) ?_
              refine lv_istore (lv' := [(5, .int (zI 1)), (4, .int (zI (sgn (p1 + 1)))), (3, .int (zI ((sgn p1) - 65))), (2, .int (zI (sgn p1))), (1, .int (zI p1)), (0, .ref md)]) hx hb dX11_goYears_87 hl (Nat.le_of_ble_eq_true rfl) rfl (fun ls hl => ?_)
              refine lv_aload_n hx hb dX11_goYears_89 rfl (lv_at hl 5 rfl) ?_
              refine lv_aload_n hx hb dX11_goYears_90 rfl (lv_at hl 5 rfl) ?_
              refine lv_iload_n hx hb dX11_goYears_91 rfl (lv_at hl 2 rfl) ?_
              refine lv_iload hx hb dX11_goYears_92 (lv_at hl 1 rfl) ?_
              refine lv_iload hx hb dX11_goYears_94 (lv_at hl 0 rfl) ?_
              refine z_if_eq (tgt := 110) hx hb dX11_goYears_96 (by decide) (by decide) (fun h96 => ?_) (fun h96 => ?_)
              ·
                exfalso
                first | omega | (revert h96; simp_all; done) | simp_all
              ·
                refine lv_aload_n hx hb dX11_goYears_99 rfl (lv_at hl 5 rfl) ?_
                refine z_get (C := RX11) (T := TX11) (N := 23) (ref := "HornCityModel") hx hb hts hin_X11_goYears_X11 hown hK hz 0 rfl rfl 8 (by decide) (hts _ fl_X11_goYears_25) rfl rfl dX11_goYears_100 ?_
                refine lv_iload_n hx hb dX11_goYears_103 rfl (lv_at hl 4 rfl) ?_
                refine z_iconst hx hb dX11_goYears_104 ?_
                refine z_iadd hx hb dX11_goYears_105 ?_
                refine z_iald hx hb hK hz 5 rfl (by omega) (by decide) dX11_goYears_106 ?_
                have hv106 := (hbs).ax (p1 + 2) (by omega)
                refine lv_goto (tgt := 112) hx hb dX11_goYears_107 (by decide) ?_
                refine z_callVw (As := [.int (zI ((sgn p1) - 65)), .int (zI (sgn (p1 + 1))), .int (zI (sgn (p1 + 2)))]) (rest := [.ref md]) (C := RX11) (T := TX11) (N := 23) F hK hz hl (c_X11_oneAct l D cI cJ cZ md bk nw nt df chk pa rc qu ct ft wn wy nx im ik incx matx kdx T cn ln wax wox rsx acx fse tmx yrx ((sgn p1) - 65) (sgn (p1 + 1)) (sgn (p1 + 2)) dri (by omega) (by omega) (hok2.2.2.2.1) (by first | assumption | omega) (hbx) (by assumption) (by omega)) (cwV 3 hts gX11_goYears_X11_oneAct rfl rfl rfl (by decide +kernel) ⟨Nat.le_of_ble_eq_true rfl, Nat.le_of_ble_eq_true rfl⟩) rfl 0 rfl [0, 2] rfl rfl (by decide +kernel) rfl rfl (Nat.le_of_ble_eq_true rfl) ⟨Nat.le_of_ble_eq_true rfl, Nat.le_of_ble_eq_true rfl⟩ dX11_goYears_112 (fun u H locs hu hz => ?_)
                obtain ⟨r_20, inc1_21, mat1_22, kd1_23⟩ := u
                have hu : r_20 = whyS T matx yrx (sgn (p1 + 1)) ((sgn p1) - 65) (if (sgn (p1 + 1)) = 38 then (sgn (p1 + 2)) - 65 else (sgn (p1 + 2)) - 48) ∧ (whyS T matx yrx (sgn (p1 + 1)) ((sgn p1) - 65) (if (sgn (p1 + 1)) = 38 then (sgn (p1 + 2)) - 65 else (sgn (p1 + 2)) - 48) = 0 → inc1_21 = actI T dri matx incx (sgn (p1 + 1)) ((sgn p1) - 65) (if (sgn (p1 + 1)) = 38 then (sgn (p1 + 2)) - 65 else (sgn (p1 + 2)) - 48) ∧ mat1_22 = actM T matx (sgn (p1 + 1)) ((sgn p1) - 65) (if (sgn (p1 + 1)) = 38 then (sgn (p1 + 2)) - 65 else (sgn (p1 + 2)) - 48) ∧ kd1_23 = (if (sgn (p1 + 1)) = 58 ∨ (sgn (p1 + 1)) = 63 then zU kdx ((sgn p1) - 65) (cvS T incx tmx ((sgn p1) - 65) ((sgn (p1 + 1)) = 63)) else kdx)) := hu
                obtain ⟨g112_0, hc112_1⟩ := hu
                have g112_0 := g112_0.symm
                subst g112_0
                have hz : zH D (zF ws0) H0 [(md, .inr (9, [.ref bk, .ref nw, .ref nt, .int (zI T), .ref df, .int (zI cn), .ref chk, .int (zI ln), .ref pa, .int (zI wax), .int (zI wox), .int (zI rsx), .int (zI acx), .int (zI fse), .ref rc, .ref qu, .ref ct, .ref ft, .ref wn, .ref wy, .ref nx, .ref im, .ref ik])), (bk, .inl (cI, 29, .inl (zA (nwS inc mat kd tm yr)))), (nw, .inl (cI, 29, .inl (zA (nwS inc1_21 mat1_22 kd1_23 tmx yrx)))), (nt, .inl (cI, 9, .inl (zA ntx))), (df, .inl (cI, 9, .inl (zA dri))), (pa, .inl (cI, 60, .inl (zA sgn)))] H locs := hz
                refine z_put (C := RX11) (T := TX11) (N := 23) (ref := "HornCityModel") (ty := .int) hx hb hts hin_X11_goYears_X11 hown hK hz tyX11 tyX11_ok nmX11 0 rfl rfl 11 (by decide) (hts _ fl_X11_goYears_119) rfl rfl (by decide +kernel) rfl rfl (Nat.le_of_ble_eq_true rfl) dX11_goYears_115 (fun H locs hz => ?_)
                have hz : zH D (zF ws0) H0 [(md, .inr (9, [.ref bk, .ref nw, .ref nt, .int (zI T), .ref df, .int (zI cn), .ref chk, .int (zI ln), .ref pa, .int (zI wax), .int (zI wox), .int (zI (whyS T matx yrx (sgn (p1 + 1)) ((sgn p1) - 65) (if (sgn (p1 + 1)) = 38 then (sgn (p1 + 2)) - 65 else (sgn (p1 + 2)) - 48))), .int (zI acx), .int (zI fse), .ref rc, .ref qu, .ref ct, .ref ft, .ref wn, .ref wy, .ref nx, .ref im, .ref ik])), (bk, .inl (cI, 29, .inl (zA (nwS inc mat kd tm yr)))), (nw, .inl (cI, 29, .inl (zA (nwS inc1_21 mat1_22 kd1_23 tmx yrx)))), (nt, .inl (cI, 9, .inl (zA ntx))), (df, .inl (cI, 9, .inl (zA dri))), (pa, .inl (cI, 60, .inl (zA sgn)))] H locs := hz
                refine lv_iload_n hx hb dX11_goYears_118 rfl (lv_at hl 4 rfl) ?_
                refine lv_iload hx hb dX11_goYears_119 (lv_at hl 0 rfl) ?_
                refine z_if_eq (tgt := 128) hx hb dX11_goYears_121 (by decide) (by decide) (fun h121 => ?_) (fun h121 => ?_)
                ·
                  exfalso
                  first | omega | (revert h121; simp_all; done) | simp_all
                ·
                  refine z_iconst hx hb dX11_goYears_124 ?_
                  refine lv_goto (tgt := 129) hx hb dX11_goYears_125 (by decide) ?_
                  refine z_iadd hx hb dX11_goYears_129 ?_
                  refine lv_istore_n (lv' := [(1, .int (zI (p1 + 3))), (5, .int (zI 1)), (4, .int (zI (sgn (p1 + 1)))), (3, .int (zI ((sgn p1) - 65))), (2, .int (zI (sgn p1))), (0, .ref md)]) hx hb dX11_goYears_130 rfl hl (Nat.le_of_ble_eq_true rfl) rfl (fun ls hl => ?_)
                  have hwc : 0 ≤ whyS T matx yrx (sgn (p1 + 1)) ((sgn p1) - 65) (if (sgn (p1 + 1)) = 38 then (sgn (p1 + 2)) - 65 else (sgn (p1 + 2)) - 48) ∧ whyS T matx yrx (sgn (p1 + 1)) ((sgn p1) - 65) (if (sgn (p1 + 1)) = 38 then (sgn (p1 + 2)) - 65 else (sgn (p1 + 2)) - 48) ≤ 4 := whyS_bd _ _ _ _ _ _
                  refine lv_aload_n hx hb dX11_goYears_131 rfl (lv_at hl 5 rfl) ?_
                  refine z_get (C := RX11) (T := TX11) (N := 23) (ref := "HornCityModel") hx hb hts hin_X11_goYears_X11 hown hK hz 0 rfl rfl 11 (by decide) (hts _ fl_X11_goYears_119) rfl rfl dX11_goYears_132 ?_
                  refine z_if_ne (tgt := 156) hx hb dX11_goYears_135 (by decide) (by omega) (fun h135 => ?_) (fun h135 => ?_)
                  ·
                    refine z_iconst hx hb dX11_goYears_156 ?_
                    refine lv_istore (lv' := [(6, .int (zI 0)), (1, .int (zI (p1 + 3))), (5, .int (zI 1)), (4, .int (zI (sgn (p1 + 1)))), (3, .int (zI ((sgn p1) - 65))), (2, .int (zI (sgn p1))), (0, .ref md)]) hx hb dX11_goYears_157 hl (Nat.le_of_ble_eq_true rfl) rfl (fun ls hl => ?_)
                    refine lv_iload hx hb dX11_goYears_159 (lv_at hl 0 rfl) ?_
                    refine z_if_eq (tgt := 202) hx hb dX11_goYears_161 (by decide) (by decide) (fun h161 => ?_) (fun h161 => ?_)
                    ·
                      have hwb : 0 ≤ whyS T matx yrx (sgn (p1 + 1)) ((sgn p1) - 65) (if (sgn (p1 + 1)) = 38 then (sgn (p1 + 2)) - 65 else (sgn (p1 + 2)) - 48) ∧ whyS T matx yrx (sgn (p1 + 1)) ((sgn p1) - 65) (if (sgn (p1 + 1)) = 38 then (sgn (p1 + 2)) - 65 else (sgn (p1 + 2)) - 48) ≤ 4 := whyS_bd _ _ _ _ _ _
                      refine lv_aload_n hx hb dX11_goYears_202 rfl (lv_at hl 6 rfl) ?_
                      refine z_get (C := RX11) (T := TX11) (N := 23) (ref := "HornCityModel") hx hb hts hin_X11_goYears_X11 hown hK hz 0 rfl rfl 11 (by decide) (hts _ fl_X11_goYears_119) rfl rfl dX11_goYears_203 ?_
                      refine z_if_le (tgt := 214) hx hb dX11_goYears_206 (by decide) (by omega) (fun h206 => ?_) (fun h206 => ?_)
                      ·
                        exfalso; omega
                      ·
                        refine lv_aload_n hx hb dX11_goYears_209 rfl (lv_at hl 6 rfl) ?_
                        refine z_get (C := RX11) (T := TX11) (N := 23) (ref := "HornCityModel") hx hb hts hin_X11_goYears_X11 hown hK hz 0 rfl rfl 12 (by decide) (hts _ fl_X11_goYears_113) rfl rfl dX11_goYears_210 ?_
                        exact hret ((acx : Int), (inc1_21 : Int → Int), (mat1_22 : Int → Int), (kd1_23 : Int → Int), (tmx : Int), (yrx : Int), (ntx : Int → Int), (wax : Int), (wox : Int), ((whyS T matx yrx (sgn (p1 + 1)) ((sgn p1) - 65) (if (sgn (p1 + 1)) = 38 then (sgn (p1 + 2)) - 65 else (sgn (p1 + 2)) - 48)) : Int), (acx : Int)) dX11_goYears_213 (show (zRwh (rnW T dri ln sgn inc mat tm yr) = 0 → acx = -6 ∧ (inc1_21, mat1_22, tmx, yrx, kd1_23, wax, wox, acx, 0) = (rnW T dri ln sgn inc mat tm yr) ∧ mOk T mat1_22) ∧ (¬ zRwh (rnW T dri ln sgn inc mat tm yr) = 0 → acx = zRac (rnW T dri ln sgn inc mat tm yr) ∧ (whyS T matx yrx (sgn (p1 + 1)) ((sgn p1) - 65) (if (sgn (p1 + 1)) = 38 then (sgn (p1 + 2)) - 65 else (sgn (p1 + 2)) - 48)) = zRwh (rnW T dri ln sgn inc mat tm yr) ∧ 0 ≤ acx ∧ 0 < (whyS T matx yrx (sgn (p1 + 1)) ((sgn p1) - 65) (if (sgn (p1 + 1)) = 38 then (sgn (p1 + 2)) - 65 else (sgn (p1 + 2)) - 48))) from (by have hne : ¬ whyS T matx yrx (sgn (p1 + 1)) (sgn p1 - 65) (laS (sgn (p1 + 1)) (sgn (p1 + 2))) = 0 := (by omega); have hEQ : (rnW T dri ln sgn inc mat tm yr) = (incx, matx, tmx, yrx, kdx, wax, wox, acx, whyS T matx yrx (sgn (p1 + 1)) (sgn p1 - 65) (laS (sgn (p1 + 1)) (sgn (p1 + 2)))) := (by unfold rnW; rw [hrun, noB (la := (sgn (p1 + 2))) (show 0 ≤ acx ∧ acx < 60 by omega) (show 0 ≤ p1 ∧ p1 < ln by omega) hok2 (fun _ => rfl) hne]); exact ⟨fun q => absurd (by rw [hEQ] at q; exact q) hne, fun _ => ⟨by rw [hEQ]; rfl, by rw [hEQ]; rfl, by omega, by omega⟩⟩)) hz
                    ·
                      exfalso
                      first | omega | (revert h161; simp_all; done) | simp_all
                  ·
                    refine lv_iload hx hb dX11_goYears_138 (lv_at hl 2 rfl) ?_
                    refine z_bipush hx hb dX11_goYears_140 (by decide) ?_
                    refine z_icmp_eq (tgt := 152) hx hb dX11_goYears_142 (by decide) (by omega) (by decide) (fun h142 => ?_) (fun h142 => ?_)
                    ·
                      exfalso
                      first | omega | (revert h142; simp_all; done) | simp_all
                    ·
                      refine lv_iload hx hb dX11_goYears_145 (lv_at hl 2 rfl) ?_
                      refine z_bipush hx hb dX11_goYears_147 (by decide) ?_
                      refine z_icmp_ne (tgt := 156) hx hb dX11_goYears_149 (by decide) (by omega) (by decide) (fun h149 => ?_) (fun h149 => ?_)
                      ·
                        refine z_iconst hx hb dX11_goYears_156 ?_
                        refine lv_istore (lv' := [(6, .int (zI 0)), (1, .int (zI (p1 + 3))), (5, .int (zI 1)), (4, .int (zI (sgn (p1 + 1)))), (3, .int (zI ((sgn p1) - 65))), (2, .int (zI (sgn p1))), (0, .ref md)]) hx hb dX11_goYears_157 hl (Nat.le_of_ble_eq_true rfl) rfl (fun ls hl => ?_)
                        refine lv_iload hx hb dX11_goYears_159 (lv_at hl 0 rfl) ?_
                        refine z_if_eq (tgt := 202) hx hb dX11_goYears_161 (by decide) (by decide) (fun h161 => ?_) (fun h161 => ?_)
                        ·
                          have hwb : 0 ≤ whyS T matx yrx (sgn (p1 + 1)) ((sgn p1) - 65) (if (sgn (p1 + 1)) = 38 then (sgn (p1 + 2)) - 65 else (sgn (p1 + 2)) - 48) ∧ whyS T matx yrx (sgn (p1 + 1)) ((sgn p1) - 65) (if (sgn (p1 + 1)) = 38 then (sgn (p1 + 2)) - 65 else (sgn (p1 + 2)) - 48) ≤ 4 := whyS_bd _ _ _ _ _ _
                          have hbad : ¬ ((sgn (p1 + 1) = 58 ∨ sgn (p1 + 1) = 63) ∧ ¬ cvS T incx tmx (sgn p1 - 65) (sgn (p1 + 1) = 63) = inO T incx (sgn p1 - 65) ∧ wax = -6) := fun q => by omega
                          refine lv_aload_n hx hb dX11_goYears_202 rfl (lv_at hl 6 rfl) ?_
                          refine z_get (C := RX11) (T := TX11) (N := 23) (ref := "HornCityModel") hx hb hts hin_X11_goYears_X11 hown hK hz 0 rfl rfl 11 (by decide) (hts _ fl_X11_goYears_119) rfl rfl dX11_goYears_203 ?_
                          refine z_if_le (tgt := 214) hx hb dX11_goYears_206 (by decide) (by omega) (fun h206 => ?_) (fun h206 => ?_)
                          ·
                            have hw0 : whyS T matx yrx (sgn (p1 + 1)) (sgn p1 - 65) (laS (sgn (p1 + 1)) (sgn (p1 + 2))) = 0 := by first | omega | exact h135
                            obtain ⟨he1, he2, he3⟩ := hc112_1 hw0
                            refine lv_aload_n hx hb dX11_goYears_214 rfl (lv_at hl 6 rfl) ?_
                            refine lv_dup hx hb dX11_goYears_215 rfl ?_
                            refine z_get (C := RX11) (T := TX11) (N := 23) (ref := "HornCityModel") hx hb hts hin_X11_goYears_X11 hown hK hz 0 rfl rfl 12 (by decide) (hts _ fl_X11_goYears_113) rfl rfl dX11_goYears_216 ?_
                            refine z_iconst hx hb dX11_goYears_219 ?_
                            refine z_iadd hx hb dX11_goYears_220 ?_
                            refine z_put (C := RX11) (T := TX11) (N := 23) (ref := "HornCityModel") (ty := .int) hx hb hts hin_X11_goYears_X11 hown hK hz tyX11 tyX11_ok nmX11 0 rfl rfl 12 (by decide) (hts _ fl_X11_goYears_113) rfl rfl (by decide +kernel) rfl rfl (Nat.le_of_ble_eq_true rfl) dX11_goYears_221 (fun H locs hz => ?_)
                            have hz : zH D (zF ws0) H0 [(md, .inr (9, [.ref bk, .ref nw, .ref nt, .int (zI T), .ref df, .int (zI cn), .ref chk, .int (zI ln), .ref pa, .int (zI wax), .int (zI wox), .int (zI (whyS T matx yrx (sgn (p1 + 1)) ((sgn p1) - 65) (if (sgn (p1 + 1)) = 38 then (sgn (p1 + 2)) - 65 else (sgn (p1 + 2)) - 48))), .int (zI (acx + 1)), .int (zI fse), .ref rc, .ref qu, .ref ct, .ref ft, .ref wn, .ref wy, .ref nx, .ref im, .ref ik])), (bk, .inl (cI, 29, .inl (zA (nwS inc mat kd tm yr)))), (nw, .inl (cI, 29, .inl (zA (nwS inc1_21 mat1_22 kd1_23 tmx yrx)))), (nt, .inl (cI, 9, .inl (zA ntx))), (df, .inl (cI, 9, .inl (zA dri))), (pa, .inl (cI, 60, .inl (zA sgn)))] H locs := hz
                            refine lv_goto (tgt := 11) hx hb dX11_goYears_224 (by decide) ?_
                            exact ih11 _ (by omega) (p1 + 3) wax wox (whyS T matx yrx (sgn (p1 + 1)) ((sgn p1) - 65) (if (sgn (p1 + 1)) = 38 then (sgn (p1 + 2)) - 65 else (sgn (p1 + 2)) - 48)) (acx + 1) tmx yrx inc1_21 mat1_22 kd1_23 ntx H locs ls rfl (by omega) (by have h7 := hfn.2; rw [len3 (by rw [hok2.2.2.2.2.1]; omega)] at h7; exact h7) (by rw [he1]; exact actI_bd hbx) (by rw [he2]; exact mOk_act hmx hw0) (htx) (by omega) (by rw [hrun, runB (la := (sgn (p1 + 2))) (show 0 ≤ acx ∧ acx < 60 by omega) (show 0 ≤ p1 ∧ p1 < ln by omega) hok2 (fun _ => rfl) hw0, len3 (by rw [hok2.2.2.2.2.1]; omega)]; congr 1; simp only [stpS]; rw [← he1, ← he2, ← he3, show actH tmx yrx (sgn (p1 + 1)) = tmx from if_neg (by omega), show actY yrx (sgn (p1 + 1)) = yrx from if_neg (by omega)]; rw [if_neg hbad, if_neg hbad]) hz (lv_sub hl [1, 6] rfl)
                          ·
                            refine lv_aload_n hx hb dX11_goYears_209 rfl (lv_at hl 6 rfl) ?_
                            refine z_get (C := RX11) (T := TX11) (N := 23) (ref := "HornCityModel") hx hb hts hin_X11_goYears_X11 hown hK hz 0 rfl rfl 12 (by decide) (hts _ fl_X11_goYears_113) rfl rfl dX11_goYears_210 ?_
                            exact hret ((acx : Int), (inc1_21 : Int → Int), (mat1_22 : Int → Int), (kd1_23 : Int → Int), (tmx : Int), (yrx : Int), (ntx : Int → Int), (wax : Int), (wox : Int), ((whyS T matx yrx (sgn (p1 + 1)) ((sgn p1) - 65) (if (sgn (p1 + 1)) = 38 then (sgn (p1 + 2)) - 65 else (sgn (p1 + 2)) - 48)) : Int), (acx : Int)) dX11_goYears_213 (show (zRwh (rnW T dri ln sgn inc mat tm yr) = 0 → acx = -6 ∧ (inc1_21, mat1_22, tmx, yrx, kd1_23, wax, wox, acx, 0) = (rnW T dri ln sgn inc mat tm yr) ∧ mOk T mat1_22) ∧ (¬ zRwh (rnW T dri ln sgn inc mat tm yr) = 0 → acx = zRac (rnW T dri ln sgn inc mat tm yr) ∧ (whyS T matx yrx (sgn (p1 + 1)) ((sgn p1) - 65) (if (sgn (p1 + 1)) = 38 then (sgn (p1 + 2)) - 65 else (sgn (p1 + 2)) - 48)) = zRwh (rnW T dri ln sgn inc mat tm yr) ∧ 0 ≤ acx ∧ 0 < (whyS T matx yrx (sgn (p1 + 1)) ((sgn p1) - 65) (if (sgn (p1 + 1)) = 38 then (sgn (p1 + 2)) - 65 else (sgn (p1 + 2)) - 48))) from (by have hne : ¬ whyS T matx yrx (sgn (p1 + 1)) (sgn p1 - 65) (laS (sgn (p1 + 1)) (sgn (p1 + 2))) = 0 := (by omega); have hEQ : (rnW T dri ln sgn inc mat tm yr) = (incx, matx, tmx, yrx, kdx, wax, wox, acx, whyS T matx yrx (sgn (p1 + 1)) (sgn p1 - 65) (laS (sgn (p1 + 1)) (sgn (p1 + 2)))) := (by unfold rnW; rw [hrun, noB (la := (sgn (p1 + 2))) (show 0 ≤ acx ∧ acx < 60 by omega) (show 0 ≤ p1 ∧ p1 < ln by omega) hok2 (fun _ => rfl) hne]); exact ⟨fun q => absurd (by rw [hEQ] at q; exact q) hne, fun _ => ⟨by rw [hEQ]; rfl, by rw [hEQ]; rfl, by omega, by omega⟩⟩)) hz
                        ·
                          exfalso
                          first | omega | (revert h161; simp_all; done) | simp_all
                      ·
                        exfalso
                        first | omega | (revert h149; simp_all; done) | simp_all
      ·
        refine lv_aload_n hx hb dX11_goYears_32 rfl (lv_at hl 2 rfl) ?_
        refine lv_aload_n hx hb dX11_goYears_33 rfl (lv_at hl 2 rfl) ?_
        refine z_callVw (As := []) (rest := [.ref md]) (C := RX11) (T := TX11) (N := 23) F hK hz hl (c_X11_endYear l D cI cJ cZ md bk nw nt df chk pa rc qu ct ft wn wy nx im ik incx matx kdx ntx dri T cn ln wax wox rsx acx fse tmx yrx (by first | assumption | omega) (hbx) (hbd) (by assumption) (by omega)) (cwV 0 hts gX11_goYears_X11_endYear rfl rfl rfl (by decide +kernel) ⟨Nat.le_of_ble_eq_true rfl, Nat.le_of_ble_eq_true rfl⟩) rfl 0 rfl [0, 2, 3, 4] rfl rfl (by decide +kernel) rfl rfl (Nat.le_of_ble_eq_true rfl) ⟨Nat.le_of_ble_eq_true rfl, Nat.le_of_ble_eq_true rfl⟩ dX11_goYears_34 (fun u H locs hu hz => ?_)
        obtain ⟨r_24, inc1_25, tm1_26, yr1_27, nt1_28⟩ := u
        have hu : r_24 = whyS T matx yrx 46 0 0 ∧ inc1_25 = (if yrx < 999 then yeaI T dri matx incx else incx) ∧ tm1_26 = (if yrx < 999 then yeaH tmx yrx else tmx) ∧ yr1_27 = (if yrx < 999 then yrx + 1 else yrx) := hu
        obtain ⟨g34_0, g34_1, g34_2, g34_3⟩ := hu
        have g34_0 := g34_0.symm
        subst g34_0
        have g34_1 := g34_1.symm
        subst g34_1
        have g34_2 := g34_2.symm
        subst g34_2
        have g34_3 := g34_3.symm
        subst g34_3
        have hz : zH D (zF ws0) H0 [(md, .inr (9, [.ref bk, .ref nw, .ref nt, .int (zI T), .ref df, .int (zI cn), .ref chk, .int (zI ln), .ref pa, .int (zI wax), .int (zI wox), .int (zI rsx), .int (zI acx), .int (zI fse), .ref rc, .ref qu, .ref ct, .ref ft, .ref wn, .ref wy, .ref nx, .ref im, .ref ik])), (bk, .inl (cI, 29, .inl (zA (nwS inc mat kd tm yr)))), (nw, .inl (cI, 29, .inl (zA (nwS (if yrx < 999 then yeaI T dri matx incx else incx) matx kdx (if yrx < 999 then yeaH tmx yrx else tmx) (if yrx < 999 then yrx + 1 else yrx))))), (nt, .inl (cI, 9, .inl (zA nt1_28))), (df, .inl (cI, 9, .inl (zA dri))), (pa, .inl (cI, 60, .inl (zA sgn)))] H locs := hz
        refine z_put (C := RX11) (T := TX11) (N := 23) (ref := "HornCityModel") (ty := .int) hx hb hts hin_X11_goYears_X11 hown hK hz tyX11 tyX11_ok nmX11 0 rfl rfl 11 (by decide) (hts _ fl_X11_goYears_119) rfl rfl (by decide +kernel) rfl rfl (Nat.le_of_ble_eq_true rfl) dX11_goYears_37 (fun H locs hz => ?_)
        have hz : zH D (zF ws0) H0 [(md, .inr (9, [.ref bk, .ref nw, .ref nt, .int (zI T), .ref df, .int (zI cn), .ref chk, .int (zI ln), .ref pa, .int (zI wax), .int (zI wox), .int (zI (whyS T matx yrx 46 0 0)), .int (zI acx), .int (zI fse), .ref rc, .ref qu, .ref ct, .ref ft, .ref wn, .ref wy, .ref nx, .ref im, .ref ik])), (bk, .inl (cI, 29, .inl (zA (nwS inc mat kd tm yr)))), (nw, .inl (cI, 29, .inl (zA (nwS (if yrx < 999 then yeaI T dri matx incx else incx) matx kdx (if yrx < 999 then yeaH tmx yrx else tmx) (if yrx < 999 then yrx + 1 else yrx))))), (nt, .inl (cI, 9, .inl (zA nt1_28))), (df, .inl (cI, 9, .inl (zA dri))), (pa, .inl (cI, 60, .inl (zA sgn)))] H locs := hz
        refine z_iinc (lv' := [(1, .int (zI (p1 + 1))), (2, .int (zI (sgn p1))), (0, .ref md)]) hx hb dX11_goYears_40 hl (k := 1) rfl (Nat.le_of_ble_eq_true rfl) rfl (fun ls hl => ?_)
        refine lv_goto (tgt := 202) hx hb dX11_goYears_43 (by decide) ?_
        have hwb : 0 ≤ whyS T matx yrx 46 0 0 ∧ whyS T matx yrx 46 0 0 ≤ 4 := whyS_bd _ _ _ _ _ _
        refine lv_aload_n hx hb dX11_goYears_202 rfl (lv_at hl 2 rfl) ?_
        refine z_get (C := RX11) (T := TX11) (N := 23) (ref := "HornCityModel") hx hb hts hin_X11_goYears_X11 hown hK hz 0 rfl rfl 11 (by decide) (hts _ fl_X11_goYears_119) rfl rfl dX11_goYears_203 ?_
        refine z_if_le (tgt := 214) hx hb dX11_goYears_206 (by decide) (by omega) (fun h206 => ?_) (fun h206 => ?_)
        ·
          have hw0 : whyS T matx yrx 46 0 0 = 0 := by first | omega | exact h135
          refine lv_aload_n hx hb dX11_goYears_214 rfl (lv_at hl 2 rfl) ?_
          refine lv_dup hx hb dX11_goYears_215 rfl ?_
          refine z_get (C := RX11) (T := TX11) (N := 23) (ref := "HornCityModel") hx hb hts hin_X11_goYears_X11 hown hK hz 0 rfl rfl 12 (by decide) (hts _ fl_X11_goYears_113) rfl rfl dX11_goYears_216 ?_
          refine z_iconst hx hb dX11_goYears_219 ?_
          refine z_iadd hx hb dX11_goYears_220 ?_
          refine z_put (C := RX11) (T := TX11) (N := 23) (ref := "HornCityModel") (ty := .int) hx hb hts hin_X11_goYears_X11 hown hK hz tyX11 tyX11_ok nmX11 0 rfl rfl 12 (by decide) (hts _ fl_X11_goYears_113) rfl rfl (by decide +kernel) rfl rfl (Nat.le_of_ble_eq_true rfl) dX11_goYears_221 (fun H locs hz => ?_)
          have hz : zH D (zF ws0) H0 [(md, .inr (9, [.ref bk, .ref nw, .ref nt, .int (zI T), .ref df, .int (zI cn), .ref chk, .int (zI ln), .ref pa, .int (zI wax), .int (zI wox), .int (zI (whyS T matx yrx 46 0 0)), .int (zI (acx + 1)), .int (zI fse), .ref rc, .ref qu, .ref ct, .ref ft, .ref wn, .ref wy, .ref nx, .ref im, .ref ik])), (bk, .inl (cI, 29, .inl (zA (nwS inc mat kd tm yr)))), (nw, .inl (cI, 29, .inl (zA (nwS (if yrx < 999 then yeaI T dri matx incx else incx) matx kdx (if yrx < 999 then yeaH tmx yrx else tmx) (if yrx < 999 then yrx + 1 else yrx))))), (nt, .inl (cI, 9, .inl (zA nt1_28))), (df, .inl (cI, 9, .inl (zA dri))), (pa, .inl (cI, 60, .inl (zA sgn)))] H locs := hz
          refine lv_goto (tgt := 11) hx hb dX11_goYears_224 (by decide) ?_
          exact ih11 _ (by omega) (p1 + 1) wax wox (whyS T matx yrx 46 0 0) (acx + 1) (if yrx < 999 then yeaH tmx yrx else tmx) (if yrx < 999 then yrx + 1 else yrx) (if yrx < 999 then yeaI T dri matx incx else incx) matx kdx nt1_28 H locs ls rfl (by omega) (by have h7 := hfn.2; rw [len46 (knd46 (show 0 ≤ p1 by omega) (show p1 < ln by omega) h29)] at h7; exact h7) (by rw [if_pos (y999 hw0)]; exact (show zBd (actI T dri matx incx 46 0 0) 9 0 179 from actI_bd hbx)) (hmx) (by have h9 := y999 hw0; rw [if_pos h9, if_pos h9]; exact ⟨(show 0 ≤ actH tmx yrx 46 ∧ actH tmx yrx 46 ≤ 9 from actH_bd htx.1), by omega, by omega⟩) (by omega) (by rw [hrun, run46 (show 0 ≤ acx ∧ acx < 60 by omega) (show 0 ≤ p1 ∧ p1 < ln by omega) h29 hw0]) hz (lv_sub hl [0, 2] rfl)
        ·
          refine lv_aload_n hx hb dX11_goYears_209 rfl (lv_at hl 2 rfl) ?_
          refine z_get (C := RX11) (T := TX11) (N := 23) (ref := "HornCityModel") hx hb hts hin_X11_goYears_X11 hown hK hz 0 rfl rfl 12 (by decide) (hts _ fl_X11_goYears_113) rfl rfl dX11_goYears_210 ?_
          exact hret ((acx : Int), (if yrx < 999 then yeaI T dri matx incx else incx : Int → Int), (matx : Int → Int), (kdx : Int → Int), (if yrx < 999 then yeaH tmx yrx else tmx : Int), (if yrx < 999 then yrx + 1 else yrx : Int), (nt1_28 : Int → Int), (wax : Int), (wox : Int), ((whyS T matx yrx 46 0 0) : Int), (acx : Int)) dX11_goYears_213 (show (zRwh (rnW T dri ln sgn inc mat tm yr) = 0 → acx = -6 ∧ ((if yrx < 999 then yeaI T dri matx incx else incx), matx, (if yrx < 999 then yeaH tmx yrx else tmx), (if yrx < 999 then yrx + 1 else yrx), kdx, wax, wox, acx, 0) = (rnW T dri ln sgn inc mat tm yr) ∧ mOk T matx) ∧ (¬ zRwh (rnW T dri ln sgn inc mat tm yr) = 0 → acx = zRac (rnW T dri ln sgn inc mat tm yr) ∧ (whyS T matx yrx 46 0 0) = zRwh (rnW T dri ln sgn inc mat tm yr) ∧ 0 ≤ acx ∧ 0 < (whyS T matx yrx 46 0 0)) from (by have hne : ¬ whyS T matx yrx 46 0 0 = 0 := (by omega); have hEQ : (rnW T dri ln sgn inc mat tm yr) = (incx, matx, tmx, yrx, kdx, wax, wox, acx, whyS T matx yrx 46 0 0) := (by unfold rnW; rw [hrun, no46 (show 0 ≤ acx ∧ acx < 60 by omega) (show 0 ≤ p1 ∧ p1 < ln by omega) h29 hne]); exact ⟨fun q => absurd (by rw [hEQ] at q; exact q) hne, fun _ => ⟨by rw [hEQ]; rfl, by rw [hEQ]; rfl, by omega, by omega⟩⟩)) hz
  exact L11 _ 0 (-6) (-6) rs 0 tm yr inc mat (fun _ => -6) ntf H locs ls rfl (by decide) (hfp) (hbi) (hmo) (hty) (by decide) (rfl) hz (lv_sub hl [0, 1] rfl)
