theorem isKS_or {x : Int} (h : isKS x = true) : x = 43 ∨ x = 45 ∨ x = 38 ∨ x = 47 ∨ x = 58 ∨ x = 63 := of_decide_eq_true h
theorem why47w {T : Int} {mat : Int → Int} {yr k w : Int} (h : mOk T mat) : whyS T mat yr 47 k w = whyS T mat yr 47 k 0 := by rw [why47 h, why47 h]

set_option maxHeartbeats 4000000 in
set_option maxRecDepth 100000 in
theorem c_X11_oneAct (l : Launch) (D : va_G) (cI cJ cZ : ClassId) (md bk nw nt df chk pa rc qu ct ft wn wy nx im ik : Nat) (inc mat kd : Int → Int) (T cn ln wat who rs act fse tm yr k how la : Int) (dri : Int → Int) (hr : (-2147483648 ≤ k ∧ k ≤ 2147483647) ∧ (-2147483648 ≤ how ∧ how ≤ 2147483647)) (hla : 0 ≤ la ∧ la ≤ 200) (hks : isKS how = true) (hT : 0 ≤ T ∧ T < 512) (hbi : zBd inc 9 0 179) (hmo : mOk T mat) (hty : (0 ≤ tm ∧ tm ≤ 9) ∧ 0 ≤ yr ∧ yr ≤ 999) : zMw l yX11_oneAct wsX11_oneAct (zRm 3) D cI cJ cZ [.ref md, .int (zI k), .int (zI how), .int (zI la)] [(md, .inr (9, [.ref bk, .ref nw, .ref nt, .int (zI T), .ref df, .int (zI cn), .ref chk, .int (zI ln), .ref pa, .int (zI wat), .int (zI who), .int (zI rs), .int (zI act), .int (zI fse), .ref rc, .ref qu, .ref ct, .ref ft, .ref wn, .ref wy, .ref nx, .ref im, .ref ik])), (nw, .inl (cI, 29, .inl (zA (nwS inc mat kd tm yr))))] (S := Int × (Int → Int) × (Int → Int) × (Int → Int)) (fun u => u.1 = whyS T mat yr how k (if how = 38 then la - 65 else la - 48) ∧ (whyS T mat yr how k (if how = 38 then la - 65 else la - 48) = 0 → u.2.1 = actI T dri mat inc how k (if how = 38 then la - 65 else la - 48) ∧ u.2.2.1 = actM T mat how k (if how = 38 then la - 65 else la - 48) ∧ u.2.2.2 = (if how = 58 ∨ how = 63 then zU kd k (cvS T inc tm k (how = 63)) else kd))) (fun u => some (.int (zI u.1))) (fun u => [(md, .inr (9, [.ref bk, .ref nw, .ref nt, .int (zI T), .ref df, .int (zI cn), .ref chk, .int (zI ln), .ref pa, .int (zI wat), .int (zI who), .int (zI rs), .int (zI act), .int (zI fse), .ref rc, .ref qu, .ref ct, .ref ft, .ref wn, .ref wy, .ref nx, .ref im, .ref ik])), (nw, .inl (cI, 29, .inl (zA (nwS u.2.1 u.2.2.1 u.2.2.2 tm yr))))]) := by
  refine zMw_i (cc := cX11_oneAct) (maxL := 4) (by decide +kernel) rfl (Nat.le_of_ble_eq_true rfl) rfl (fun _ => rfl) ?_
  intro p e s m args below meth c Q H0 ls F hK hz hl hret
  obtain ⟨hx, hb, hml, hown0, hts⟩ := id F
  have hown : s.vm.findClass RX11 = some m.cls := hown0
  obtain ⟨ws0, hw0⟩ : ∃ w : va_W, w = [(md, .inr (9, [.ref bk, .ref nw, .ref nt, .int (zI T), .ref df, .int (zI cn), .ref chk, .int (zI ln), .ref pa, .int (zI wat), .int (zI who), .int (zI rs), .int (zI act), .int (zI fse), .ref rc, .ref qu, .ref ct, .ref ft, .ref wn, .ref wy, .ref nx, .ref im, .ref ik])), (nw, .inl (cI, 29, .inl (zA (nwS inc mat kd tm yr))))] := ⟨_, rfl⟩
  rw [← hw0] at hret
  have hz : zH D (zF ws0) H0 [(md, .inr (9, [.ref bk, .ref nw, .ref nt, .int (zI T), .ref df, .int (zI cn), .ref chk, .int (zI ln), .ref pa, .int (zI wat), .int (zI who), .int (zI rs), .int (zI act), .int (zI fse), .ref rc, .ref qu, .ref ct, .ref ft, .ref wn, .ref wy, .ref nx, .ref im, .ref ik])), (nw, .inl (cI, 29, .inl (zA (nwS inc mat kd tm yr))))] H0 [] := by rw [hw0]; exact hz
  have hl : lv_has ls 4 [(0, .ref md), (1, .int (zI k)), (2, .int (zI how)), (3, .int (zI la))] := hl
  have hko := isKS_or hks
  refine lv_iload_n hx hb dX11_oneAct_0 rfl (lv_at hl 2 rfl) ?_
  by_cases h1 : how = 38
  ·
    refine z_tabIn (k := 38) (off := 75) (tgt := 76) hx hb dX11_oneAct_1 (by omega) (by decide) (by decide) (by decide +kernel) (by decide) ?_
    refine lv_aload_n hx hb dX11_oneAct_76 rfl (lv_at hl 0 rfl) ?_
    refine lv_iload_n hx hb dX11_oneAct_77 rfl (lv_at hl 1 rfl) ?_
    refine lv_iload_n hx hb dX11_oneAct_78 rfl (lv_at hl 3 rfl) ?_
    refine z_bipush hx hb dX11_oneAct_79 (by decide) ?_
    refine z_isub hx hb dX11_oneAct_81 ?_
    refine z_callVw (As := [.int (zI k), .int (zI (la - 65))]) (rest := []) (C := RX11) (T := TX11) (N := 23) F hK hz hl (c_X11_sit l D cI cJ cZ md bk nw nt df chk pa rc qu ct ft wn wy nx im ik inc mat kd T cn ln wat who rs act fse tm yr k (la - 65) (by omega) (by first | assumption | omega) (by assumption) (by omega)) (cwV 2 hts gX11_oneAct_X11_sit rfl rfl rfl (by decide +kernel) ⟨Nat.le_of_ble_eq_true rfl, Nat.le_of_ble_eq_true rfl⟩) rfl 0 rfl [0, 1] rfl rfl (by decide +kernel) rfl rfl (Nat.le_of_ble_eq_true rfl) ⟨Nat.le_of_ble_eq_true rfl, Nat.le_of_ble_eq_true rfl⟩ dX11_oneAct_82 (fun u H locs hu hz => ?_)
    obtain ⟨r_1, mat1_2⟩ := u
    have hu : r_1 = whyS T mat yr 38 k (la - 65) ∧ mat1_2 = (if whyS T mat yr 38 k (la - 65) = 0 then seaM T mat k (la - 65) else mat) := hu
    obtain ⟨g82_0, g82_1⟩ := hu
    have g82_0 := g82_0.symm
    subst g82_0
    have g82_1 := g82_1.symm
    subst g82_1
    have hz : zH D (zF ws0) H0 [(md, .inr (9, [.ref bk, .ref nw, .ref nt, .int (zI T), .ref df, .int (zI cn), .ref chk, .int (zI ln), .ref pa, .int (zI wat), .int (zI who), .int (zI rs), .int (zI act), .int (zI fse), .ref rc, .ref qu, .ref ct, .ref ft, .ref wn, .ref wy, .ref nx, .ref im, .ref ik])), (nw, .inl (cI, 29, .inl (zA (nwS inc (if whyS T mat yr 38 k (la - 65) = 0 then seaM T mat k (la - 65) else mat) kd tm yr))))] H locs := hz
    exact hret (((whyS T mat yr 38 k (la - 65)) : Int), (inc : Int → Int), (if whyS T mat yr 38 k (la - 65) = 0 then seaM T mat k (la - 65) else mat : Int → Int), (kd : Int → Int)) dX11_oneAct_85 (show (whyS T mat yr 38 k (la - 65)) = whyS T mat yr how k (if how = 38 then la - 65 else la - 48) ∧ (whyS T mat yr how k (if how = 38 then la - 65 else la - 48) = 0 → inc = actI T dri mat inc how k (if how = 38 then la - 65 else la - 48) ∧ (if whyS T mat yr 38 k (la - 65) = 0 then seaM T mat k (la - 65) else mat) = actM T mat how k (if how = 38 then la - 65 else la - 48) ∧ kd = (if how = 58 ∨ how = 63 then zU kd k (cvS T inc tm k (how = 63)) else kd)) from ⟨by rw [if_pos h1, h1], fun q => ⟨by unfold actI; rw [if_neg (show ¬ how = 43 by omega), if_neg (show ¬ how = 45 by omega), if_neg (show ¬ how = 46 by omega)], by rw [if_pos h1, h1] at q; rw [if_pos q]; unfold actM; rw [if_pos h1, if_pos h1], by rw [if_neg (by omega)]⟩⟩) hz
  ·
    by_cases h1q : how = 39
    ·
      refine z_tabIn (k := 39) (off := 91) (tgt := 92) hx hb dX11_oneAct_1 (by omega) (by decide) (by decide) (by decide +kernel) (by decide) ?_
      refine lv_aload_n hx hb dX11_oneAct_92 rfl (lv_at hl 0 rfl) ?_
      refine lv_iload_n hx hb dX11_oneAct_93 rfl (lv_at hl 1 rfl) ?_
      refine lv_iload_n hx hb dX11_oneAct_94 rfl (lv_at hl 2 rfl) ?_
      refine z_bipush hx hb dX11_oneAct_95 (by decide) ?_
      refine z_icmp_ne (tgt := 104) hx hb dX11_oneAct_97 (by decide) (by omega) (by decide) (fun h97 => ?_) (fun h97 => ?_)
      ·
        refine z_iconst hx hb dX11_oneAct_104 ?_
        refine z_callVw (As := [.int (zI k), .int (zI 0)]) (rest := []) (C := RX11) (T := TX11) (N := 23) F hK hz hl (c_X11_mark l D cI cJ cZ md bk nw nt df chk pa rc qu ct ft wn wy nx im ik inc mat kd T cn ln wat who rs act fse tm yr k False (by omega) (by first | assumption | omega) (hbi) (by omega)) (cwV 2 hts gX11_oneAct_X11_mark rfl rfl rfl (by decide +kernel) ⟨Nat.le_of_ble_eq_true rfl, Nat.le_of_ble_eq_true rfl⟩) rfl 0 rfl [0, 1] rfl rfl (by decide +kernel) rfl rfl (Nat.le_of_ble_eq_true rfl) ⟨Nat.le_of_ble_eq_true rfl, Nat.le_of_ble_eq_true rfl⟩ dX11_oneAct_105 (fun u H locs hu hz => ?_)
        obtain ⟨r_3, kd1_4⟩ := u
        have hu : r_3 = (if inS T k = true then 0 else 1) ∧ kd1_4 = (if inS T k = true then zU kd k (cvS T inc tm k False) else kd) := hu
        obtain ⟨g105_0, g105_1⟩ := hu
        have g105_0 := g105_0.symm
        subst g105_0
        have g105_1 := g105_1.symm
        subst g105_1
        have hz : zH D (zF ws0) H0 [(md, .inr (9, [.ref bk, .ref nw, .ref nt, .int (zI T), .ref df, .int (zI cn), .ref chk, .int (zI ln), .ref pa, .int (zI wat), .int (zI who), .int (zI rs), .int (zI act), .int (zI fse), .ref rc, .ref qu, .ref ct, .ref ft, .ref wn, .ref wy, .ref nx, .ref im, .ref ik])), (nw, .inl (cI, 29, .inl (zA (nwS inc mat (if inS T k = true then zU kd k (cvS T inc tm k False) else kd) tm yr))))] H locs := hz
        exact hret (((if inS T k = true then 0 else 1) : Int), (inc : Int → Int), (mat : Int → Int), (if inS T k = true then zU kd k (cvS T inc tm k False) else kd : Int → Int)) dX11_oneAct_108 (show (if inS T k = true then 0 else 1) = whyS T mat yr how k (if how = 38 then la - 65 else la - 48) ∧ (whyS T mat yr how k (if how = 38 then la - 65 else la - 48) = 0 → inc = actI T dri mat inc how k (if how = 38 then la - 65 else la - 48) ∧ mat = actM T mat how k (if how = 38 then la - 65 else la - 48) ∧ (if inS T k = true then zU kd k (cvS T inc tm k False) else kd) = (if how = 58 ∨ how = 63 then zU kd k (cvS T inc tm k (how = 63)) else kd)) from (by exfalso; omega)) hz
      ·
        exfalso
        first | omega | (revert h97; simp_all; done) | simp_all
    ·
      by_cases h1qq : how = 40
      ·
        refine z_tabIn (k := 40) (off := 91) (tgt := 92) hx hb dX11_oneAct_1 (by omega) (by decide) (by decide) (by decide +kernel) (by decide) ?_
        refine lv_aload_n hx hb dX11_oneAct_92 rfl (lv_at hl 0 rfl) ?_
        refine lv_iload_n hx hb dX11_oneAct_93 rfl (lv_at hl 1 rfl) ?_
        refine lv_iload_n hx hb dX11_oneAct_94 rfl (lv_at hl 2 rfl) ?_
        refine z_bipush hx hb dX11_oneAct_95 (by decide) ?_
        refine z_icmp_ne (tgt := 104) hx hb dX11_oneAct_97 (by decide) (by omega) (by decide) (fun h97 => ?_) (fun h97 => ?_)
        ·
          refine z_iconst hx hb dX11_oneAct_104 ?_
          refine z_callVw (As := [.int (zI k), .int (zI 0)]) (rest := []) (C := RX11) (T := TX11) (N := 23) F hK hz hl (c_X11_mark l D cI cJ cZ md bk nw nt df chk pa rc qu ct ft wn wy nx im ik inc mat kd T cn ln wat who rs act fse tm yr k False (by omega) (by first | assumption | omega) (hbi) (by omega)) (cwV 2 hts gX11_oneAct_X11_mark rfl rfl rfl (by decide +kernel) ⟨Nat.le_of_ble_eq_true rfl, Nat.le_of_ble_eq_true rfl⟩) rfl 0 rfl [0, 1] rfl rfl (by decide +kernel) rfl rfl (Nat.le_of_ble_eq_true rfl) ⟨Nat.le_of_ble_eq_true rfl, Nat.le_of_ble_eq_true rfl⟩ dX11_oneAct_105 (fun u H locs hu hz => ?_)
          obtain ⟨r_5, kd1_6⟩ := u
          have hu : r_5 = (if inS T k = true then 0 else 1) ∧ kd1_6 = (if inS T k = true then zU kd k (cvS T inc tm k False) else kd) := hu
          obtain ⟨g105_0, g105_1⟩ := hu
          have g105_0 := g105_0.symm
          subst g105_0
          have g105_1 := g105_1.symm
          subst g105_1
          have hz : zH D (zF ws0) H0 [(md, .inr (9, [.ref bk, .ref nw, .ref nt, .int (zI T), .ref df, .int (zI cn), .ref chk, .int (zI ln), .ref pa, .int (zI wat), .int (zI who), .int (zI rs), .int (zI act), .int (zI fse), .ref rc, .ref qu, .ref ct, .ref ft, .ref wn, .ref wy, .ref nx, .ref im, .ref ik])), (nw, .inl (cI, 29, .inl (zA (nwS inc mat (if inS T k = true then zU kd k (cvS T inc tm k False) else kd) tm yr))))] H locs := hz
          exact hret (((if inS T k = true then 0 else 1) : Int), (inc : Int → Int), (mat : Int → Int), (if inS T k = true then zU kd k (cvS T inc tm k False) else kd : Int → Int)) dX11_oneAct_108 (show (if inS T k = true then 0 else 1) = whyS T mat yr how k (if how = 38 then la - 65 else la - 48) ∧ (whyS T mat yr how k (if how = 38 then la - 65 else la - 48) = 0 → inc = actI T dri mat inc how k (if how = 38 then la - 65 else la - 48) ∧ mat = actM T mat how k (if how = 38 then la - 65 else la - 48) ∧ (if inS T k = true then zU kd k (cvS T inc tm k False) else kd) = (if how = 58 ∨ how = 63 then zU kd k (cvS T inc tm k (how = 63)) else kd)) from (by exfalso; omega)) hz
        ·
          exfalso
          first | omega | (revert h97; simp_all; done) | simp_all
      ·
        by_cases h1qqq : how = 41
        ·
          refine z_tabIn (k := 41) (off := 91) (tgt := 92) hx hb dX11_oneAct_1 (by omega) (by decide) (by decide) (by decide +kernel) (by decide) ?_
          refine lv_aload_n hx hb dX11_oneAct_92 rfl (lv_at hl 0 rfl) ?_
          refine lv_iload_n hx hb dX11_oneAct_93 rfl (lv_at hl 1 rfl) ?_
          refine lv_iload_n hx hb dX11_oneAct_94 rfl (lv_at hl 2 rfl) ?_
          refine z_bipush hx hb dX11_oneAct_95 (by decide) ?_
          refine z_icmp_ne (tgt := 104) hx hb dX11_oneAct_97 (by decide) (by omega) (by decide) (fun h97 => ?_) (fun h97 => ?_)
          ·
            refine z_iconst hx hb dX11_oneAct_104 ?_
            refine z_callVw (As := [.int (zI k), .int (zI 0)]) (rest := []) (C := RX11) (T := TX11) (N := 23) F hK hz hl (c_X11_mark l D cI cJ cZ md bk nw nt df chk pa rc qu ct ft wn wy nx im ik inc mat kd T cn ln wat who rs act fse tm yr k False (by omega) (by first | assumption | omega) (hbi) (by omega)) (cwV 2 hts gX11_oneAct_X11_mark rfl rfl rfl (by decide +kernel) ⟨Nat.le_of_ble_eq_true rfl, Nat.le_of_ble_eq_true rfl⟩) rfl 0 rfl [0, 1] rfl rfl (by decide +kernel) rfl rfl (Nat.le_of_ble_eq_true rfl) ⟨Nat.le_of_ble_eq_true rfl, Nat.le_of_ble_eq_true rfl⟩ dX11_oneAct_105 (fun u H locs hu hz => ?_)
            obtain ⟨r_7, kd1_8⟩ := u
            have hu : r_7 = (if inS T k = true then 0 else 1) ∧ kd1_8 = (if inS T k = true then zU kd k (cvS T inc tm k False) else kd) := hu
            obtain ⟨g105_0, g105_1⟩ := hu
            have g105_0 := g105_0.symm
            subst g105_0
            have g105_1 := g105_1.symm
            subst g105_1
            have hz : zH D (zF ws0) H0 [(md, .inr (9, [.ref bk, .ref nw, .ref nt, .int (zI T), .ref df, .int (zI cn), .ref chk, .int (zI ln), .ref pa, .int (zI wat), .int (zI who), .int (zI rs), .int (zI act), .int (zI fse), .ref rc, .ref qu, .ref ct, .ref ft, .ref wn, .ref wy, .ref nx, .ref im, .ref ik])), (nw, .inl (cI, 29, .inl (zA (nwS inc mat (if inS T k = true then zU kd k (cvS T inc tm k False) else kd) tm yr))))] H locs := hz
            exact hret (((if inS T k = true then 0 else 1) : Int), (inc : Int → Int), (mat : Int → Int), (if inS T k = true then zU kd k (cvS T inc tm k False) else kd : Int → Int)) dX11_oneAct_108 (show (if inS T k = true then 0 else 1) = whyS T mat yr how k (if how = 38 then la - 65 else la - 48) ∧ (whyS T mat yr how k (if how = 38 then la - 65 else la - 48) = 0 → inc = actI T dri mat inc how k (if how = 38 then la - 65 else la - 48) ∧ mat = actM T mat how k (if how = 38 then la - 65 else la - 48) ∧ (if inS T k = true then zU kd k (cvS T inc tm k False) else kd) = (if how = 58 ∨ how = 63 then zU kd k (cvS T inc tm k (how = 63)) else kd)) from (by exfalso; omega)) hz
          ·
            exfalso
            first | omega | (revert h97; simp_all; done) | simp_all
        ·
          by_cases h1qqqq : how = 42
          ·
            refine z_tabIn (k := 42) (off := 91) (tgt := 92) hx hb dX11_oneAct_1 (by omega) (by decide) (by decide) (by decide +kernel) (by decide) ?_
            refine lv_aload_n hx hb dX11_oneAct_92 rfl (lv_at hl 0 rfl) ?_
            refine lv_iload_n hx hb dX11_oneAct_93 rfl (lv_at hl 1 rfl) ?_
            refine lv_iload_n hx hb dX11_oneAct_94 rfl (lv_at hl 2 rfl) ?_
            refine z_bipush hx hb dX11_oneAct_95 (by decide) ?_
            refine z_icmp_ne (tgt := 104) hx hb dX11_oneAct_97 (by decide) (by omega) (by decide) (fun h97 => ?_) (fun h97 => ?_)
            ·
              refine z_iconst hx hb dX11_oneAct_104 ?_
              refine z_callVw (As := [.int (zI k), .int (zI 0)]) (rest := []) (C := RX11) (T := TX11) (N := 23) F hK hz hl (c_X11_mark l D cI cJ cZ md bk nw nt df chk pa rc qu ct ft wn wy nx im ik inc mat kd T cn ln wat who rs act fse tm yr k False (by omega) (by first | assumption | omega) (hbi) (by omega)) (cwV 2 hts gX11_oneAct_X11_mark rfl rfl rfl (by decide +kernel) ⟨Nat.le_of_ble_eq_true rfl, Nat.le_of_ble_eq_true rfl⟩) rfl 0 rfl [0, 1] rfl rfl (by decide +kernel) rfl rfl (Nat.le_of_ble_eq_true rfl) ⟨Nat.le_of_ble_eq_true rfl, Nat.le_of_ble_eq_true rfl⟩ dX11_oneAct_105 (fun u H locs hu hz => ?_)
              obtain ⟨r_9, kd1_10⟩ := u
              have hu : r_9 = (if inS T k = true then 0 else 1) ∧ kd1_10 = (if inS T k = true then zU kd k (cvS T inc tm k False) else kd) := hu
              obtain ⟨g105_0, g105_1⟩ := hu
              have g105_0 := g105_0.symm
              subst g105_0
              have g105_1 := g105_1.symm
              subst g105_1
              have hz : zH D (zF ws0) H0 [(md, .inr (9, [.ref bk, .ref nw, .ref nt, .int (zI T), .ref df, .int (zI cn), .ref chk, .int (zI ln), .ref pa, .int (zI wat), .int (zI who), .int (zI rs), .int (zI act), .int (zI fse), .ref rc, .ref qu, .ref ct, .ref ft, .ref wn, .ref wy, .ref nx, .ref im, .ref ik])), (nw, .inl (cI, 29, .inl (zA (nwS inc mat (if inS T k = true then zU kd k (cvS T inc tm k False) else kd) tm yr))))] H locs := hz
              exact hret (((if inS T k = true then 0 else 1) : Int), (inc : Int → Int), (mat : Int → Int), (if inS T k = true then zU kd k (cvS T inc tm k False) else kd : Int → Int)) dX11_oneAct_108 (show (if inS T k = true then 0 else 1) = whyS T mat yr how k (if how = 38 then la - 65 else la - 48) ∧ (whyS T mat yr how k (if how = 38 then la - 65 else la - 48) = 0 → inc = actI T dri mat inc how k (if how = 38 then la - 65 else la - 48) ∧ mat = actM T mat how k (if how = 38 then la - 65 else la - 48) ∧ (if inS T k = true then zU kd k (cvS T inc tm k False) else kd) = (if how = 58 ∨ how = 63 then zU kd k (cvS T inc tm k (how = 63)) else kd)) from (by exfalso; omega)) hz
            ·
              exfalso
              first | omega | (revert h97; simp_all; done) | simp_all
          ·
            by_cases h1qqqqq : how = 43
            ·
              refine z_tabIn (k := 43) (off := 55) (tgt := 56) hx hb dX11_oneAct_1 (by omega) (by decide) (by decide) (by decide +kernel) (by decide) ?_
              refine lv_aload_n hx hb dX11_oneAct_56 rfl (lv_at hl 0 rfl) ?_
              refine lv_iload_n hx hb dX11_oneAct_57 rfl (lv_at hl 1 rfl) ?_
              refine lv_iload_n hx hb dX11_oneAct_58 rfl (lv_at hl 3 rfl) ?_
              refine z_bipush hx hb dX11_oneAct_59 (by decide) ?_
              refine z_isub hx hb dX11_oneAct_61 ?_
              refine z_callVw (As := [.int (zI k), .int (zI (la - 48))]) (rest := []) (C := RX11) (T := TX11) (N := 23) F hK hz hl (c_X11_turn l D cI cJ cZ md bk nw nt df chk pa rc qu ct ft wn wy nx im ik inc mat kd T cn ln wat who rs act fse tm yr k (la - 48) (by omega) (by first | assumption | omega) (hbi) (by omega)) (cwV 2 hts gX11_oneAct_X11_turn rfl rfl rfl (by decide +kernel) ⟨Nat.le_of_ble_eq_true rfl, Nat.le_of_ble_eq_true rfl⟩) rfl 0 rfl [0, 1] rfl rfl (by decide +kernel) rfl rfl (Nat.le_of_ble_eq_true rfl) ⟨Nat.le_of_ble_eq_true rfl, Nat.le_of_ble_eq_true rfl⟩ dX11_oneAct_62 (fun u H locs hu hz => ?_)
              obtain ⟨r_11, inc1_12⟩ := u
              have hu : r_11 = (if inS T k = true then 0 else 1) ∧ inc1_12 = turI T inc k (la - 48) := hu
              obtain ⟨g62_0, g62_1⟩ := hu
              have g62_0 := g62_0.symm
              subst g62_0
              have g62_1 := g62_1.symm
              subst g62_1
              have hz : zH D (zF ws0) H0 [(md, .inr (9, [.ref bk, .ref nw, .ref nt, .int (zI T), .ref df, .int (zI cn), .ref chk, .int (zI ln), .ref pa, .int (zI wat), .int (zI who), .int (zI rs), .int (zI act), .int (zI fse), .ref rc, .ref qu, .ref ct, .ref ft, .ref wn, .ref wy, .ref nx, .ref im, .ref ik])), (nw, .inl (cI, 29, .inl (zA (nwS (turI T inc k (la - 48)) mat kd tm yr))))] H locs := hz
              exact hret (((if inS T k = true then 0 else 1) : Int), (turI T inc k (la - 48) : Int → Int), (mat : Int → Int), (kd : Int → Int)) dX11_oneAct_65 (show (if inS T k = true then 0 else 1) = whyS T mat yr how k (if how = 38 then la - 65 else la - 48) ∧ (whyS T mat yr how k (if how = 38 then la - 65 else la - 48) = 0 → (turI T inc k (la - 48)) = actI T dri mat inc how k (if how = 38 then la - 65 else la - 48) ∧ mat = actM T mat how k (if how = 38 then la - 65 else la - 48) ∧ kd = (if how = 58 ∨ how = 63 then zU kd k (cvS T inc tm k (how = 63)) else kd)) from ⟨(whyT (by omega) (by omega) (by omega)).symm, fun _ => ⟨by unfold actI; rw [if_pos (show how = 43 by omega), if_neg (show ¬ how = 38 by omega)], by unfold actM; rw [if_neg (show ¬ how = 38 by omega), if_neg (show ¬ how = 47 by omega)], by rw [if_neg (by omega)]⟩⟩) hz
            ·
              by_cases h1qqqqqq : how = 44
              ·
                refine z_tabIn (k := 44) (off := 91) (tgt := 92) hx hb dX11_oneAct_1 (by omega) (by decide) (by decide) (by decide +kernel) (by decide) ?_
                refine lv_aload_n hx hb dX11_oneAct_92 rfl (lv_at hl 0 rfl) ?_
                refine lv_iload_n hx hb dX11_oneAct_93 rfl (lv_at hl 1 rfl) ?_
                refine lv_iload_n hx hb dX11_oneAct_94 rfl (lv_at hl 2 rfl) ?_
                refine z_bipush hx hb dX11_oneAct_95 (by decide) ?_
                refine z_icmp_ne (tgt := 104) hx hb dX11_oneAct_97 (by decide) (by omega) (by decide) (fun h97 => ?_) (fun h97 => ?_)
                ·
                  refine z_iconst hx hb dX11_oneAct_104 ?_
                  refine z_callVw (As := [.int (zI k), .int (zI 0)]) (rest := []) (C := RX11) (T := TX11) (N := 23) F hK hz hl (c_X11_mark l D cI cJ cZ md bk nw nt df chk pa rc qu ct ft wn wy nx im ik inc mat kd T cn ln wat who rs act fse tm yr k False (by omega) (by first | assumption | omega) (hbi) (by omega)) (cwV 2 hts gX11_oneAct_X11_mark rfl rfl rfl (by decide +kernel) ⟨Nat.le_of_ble_eq_true rfl, Nat.le_of_ble_eq_true rfl⟩) rfl 0 rfl [0, 1] rfl rfl (by decide +kernel) rfl rfl (Nat.le_of_ble_eq_true rfl) ⟨Nat.le_of_ble_eq_true rfl, Nat.le_of_ble_eq_true rfl⟩ dX11_oneAct_105 (fun u H locs hu hz => ?_)
                  obtain ⟨r_13, kd1_14⟩ := u
                  have hu : r_13 = (if inS T k = true then 0 else 1) ∧ kd1_14 = (if inS T k = true then zU kd k (cvS T inc tm k False) else kd) := hu
                  obtain ⟨g105_0, g105_1⟩ := hu
                  have g105_0 := g105_0.symm
                  subst g105_0
                  have g105_1 := g105_1.symm
                  subst g105_1
                  have hz : zH D (zF ws0) H0 [(md, .inr (9, [.ref bk, .ref nw, .ref nt, .int (zI T), .ref df, .int (zI cn), .ref chk, .int (zI ln), .ref pa, .int (zI wat), .int (zI who), .int (zI rs), .int (zI act), .int (zI fse), .ref rc, .ref qu, .ref ct, .ref ft, .ref wn, .ref wy, .ref nx, .ref im, .ref ik])), (nw, .inl (cI, 29, .inl (zA (nwS inc mat (if inS T k = true then zU kd k (cvS T inc tm k False) else kd) tm yr))))] H locs := hz
                  exact hret (((if inS T k = true then 0 else 1) : Int), (inc : Int → Int), (mat : Int → Int), (if inS T k = true then zU kd k (cvS T inc tm k False) else kd : Int → Int)) dX11_oneAct_108 (show (if inS T k = true then 0 else 1) = whyS T mat yr how k (if how = 38 then la - 65 else la - 48) ∧ (whyS T mat yr how k (if how = 38 then la - 65 else la - 48) = 0 → inc = actI T dri mat inc how k (if how = 38 then la - 65 else la - 48) ∧ mat = actM T mat how k (if how = 38 then la - 65 else la - 48) ∧ (if inS T k = true then zU kd k (cvS T inc tm k False) else kd) = (if how = 58 ∨ how = 63 then zU kd k (cvS T inc tm k (how = 63)) else kd)) from (by exfalso; omega)) hz
                ·
                  exfalso
                  first | omega | (revert h97; simp_all; done) | simp_all
              ·
                by_cases h1qqqqqqq : how = 45
                ·
                  refine z_tabIn (k := 45) (off := 65) (tgt := 66) hx hb dX11_oneAct_1 (by omega) (by decide) (by decide) (by decide +kernel) (by decide) ?_
                  refine lv_aload_n hx hb dX11_oneAct_66 rfl (lv_at hl 0 rfl) ?_
                  refine lv_iload_n hx hb dX11_oneAct_67 rfl (lv_at hl 1 rfl) ?_
                  refine z_bipush hx hb dX11_oneAct_68 (by decide) ?_
                  refine lv_iload_n hx hb dX11_oneAct_70 rfl (lv_at hl 3 rfl) ?_
                  refine z_isub hx hb dX11_oneAct_71 ?_
                  refine z_callVw (As := [.int (zI k), .int (zI (48 - la))]) (rest := []) (C := RX11) (T := TX11) (N := 23) F hK hz hl (c_X11_turn l D cI cJ cZ md bk nw nt df chk pa rc qu ct ft wn wy nx im ik inc mat kd T cn ln wat who rs act fse tm yr k (48 - la) (by omega) (by first | assumption | omega) (hbi) (by omega)) (cwV 2 hts gX11_oneAct_X11_turn rfl rfl rfl (by decide +kernel) ⟨Nat.le_of_ble_eq_true rfl, Nat.le_of_ble_eq_true rfl⟩) rfl 0 rfl [0, 1] rfl rfl (by decide +kernel) rfl rfl (Nat.le_of_ble_eq_true rfl) ⟨Nat.le_of_ble_eq_true rfl, Nat.le_of_ble_eq_true rfl⟩ dX11_oneAct_72 (fun u H locs hu hz => ?_)
                  obtain ⟨r_15, inc1_16⟩ := u
                  have hu : r_15 = (if inS T k = true then 0 else 1) ∧ inc1_16 = turI T inc k (48 - la) := hu
                  obtain ⟨g72_0, g72_1⟩ := hu
                  have g72_0 := g72_0.symm
                  subst g72_0
                  have g72_1 := g72_1.symm
                  subst g72_1
                  have hz : zH D (zF ws0) H0 [(md, .inr (9, [.ref bk, .ref nw, .ref nt, .int (zI T), .ref df, .int (zI cn), .ref chk, .int (zI ln), .ref pa, .int (zI wat), .int (zI who), .int (zI rs), .int (zI act), .int (zI fse), .ref rc, .ref qu, .ref ct, .ref ft, .ref wn, .ref wy, .ref nx, .ref im, .ref ik])), (nw, .inl (cI, 29, .inl (zA (nwS (turI T inc k (48 - la)) mat kd tm yr))))] H locs := hz
                  exact hret (((if inS T k = true then 0 else 1) : Int), (turI T inc k (48 - la) : Int → Int), (mat : Int → Int), (kd : Int → Int)) dX11_oneAct_75 (show (if inS T k = true then 0 else 1) = whyS T mat yr how k (if how = 38 then la - 65 else la - 48) ∧ (whyS T mat yr how k (if how = 38 then la - 65 else la - 48) = 0 → (turI T inc k (48 - la)) = actI T dri mat inc how k (if how = 38 then la - 65 else la - 48) ∧ mat = actM T mat how k (if how = 38 then la - 65 else la - 48) ∧ kd = (if how = 58 ∨ how = 63 then zU kd k (cvS T inc tm k (how = 63)) else kd)) from ⟨(whyT (by omega) (by omega) (by omega)).symm, fun _ => ⟨by unfold actI; rw [if_neg (show ¬ how = 43 by omega), if_pos (show how = 45 by omega), if_neg (show ¬ how = 38 by omega), show 48 - la = -(la - 48) by omega], by unfold actM; rw [if_neg (show ¬ how = 38 by omega), if_neg (show ¬ how = 47 by omega)], by rw [if_neg (by omega)]⟩⟩) hz
                ·
                  by_cases h1qqqqqqqq : how = 46
                  ·
                    refine z_tabIn (k := 46) (off := 91) (tgt := 92) hx hb dX11_oneAct_1 (by omega) (by decide) (by decide) (by decide +kernel) (by decide) ?_
                    refine lv_aload_n hx hb dX11_oneAct_92 rfl (lv_at hl 0 rfl) ?_
                    refine lv_iload_n hx hb dX11_oneAct_93 rfl (lv_at hl 1 rfl) ?_
                    refine lv_iload_n hx hb dX11_oneAct_94 rfl (lv_at hl 2 rfl) ?_
                    refine z_bipush hx hb dX11_oneAct_95 (by decide) ?_
                    refine z_icmp_ne (tgt := 104) hx hb dX11_oneAct_97 (by decide) (by omega) (by decide) (fun h97 => ?_) (fun h97 => ?_)
                    ·
                      refine z_iconst hx hb dX11_oneAct_104 ?_
                      refine z_callVw (As := [.int (zI k), .int (zI 0)]) (rest := []) (C := RX11) (T := TX11) (N := 23) F hK hz hl (c_X11_mark l D cI cJ cZ md bk nw nt df chk pa rc qu ct ft wn wy nx im ik inc mat kd T cn ln wat who rs act fse tm yr k False (by omega) (by first | assumption | omega) (hbi) (by omega)) (cwV 2 hts gX11_oneAct_X11_mark rfl rfl rfl (by decide +kernel) ⟨Nat.le_of_ble_eq_true rfl, Nat.le_of_ble_eq_true rfl⟩) rfl 0 rfl [0, 1] rfl rfl (by decide +kernel) rfl rfl (Nat.le_of_ble_eq_true rfl) ⟨Nat.le_of_ble_eq_true rfl, Nat.le_of_ble_eq_true rfl⟩ dX11_oneAct_105 (fun u H locs hu hz => ?_)
                      obtain ⟨r_17, kd1_18⟩ := u
                      have hu : r_17 = (if inS T k = true then 0 else 1) ∧ kd1_18 = (if inS T k = true then zU kd k (cvS T inc tm k False) else kd) := hu
                      obtain ⟨g105_0, g105_1⟩ := hu
                      have g105_0 := g105_0.symm
                      subst g105_0
                      have g105_1 := g105_1.symm
                      subst g105_1
                      have hz : zH D (zF ws0) H0 [(md, .inr (9, [.ref bk, .ref nw, .ref nt, .int (zI T), .ref df, .int (zI cn), .ref chk, .int (zI ln), .ref pa, .int (zI wat), .int (zI who), .int (zI rs), .int (zI act), .int (zI fse), .ref rc, .ref qu, .ref ct, .ref ft, .ref wn, .ref wy, .ref nx, .ref im, .ref ik])), (nw, .inl (cI, 29, .inl (zA (nwS inc mat (if inS T k = true then zU kd k (cvS T inc tm k False) else kd) tm yr))))] H locs := hz
                      exact hret (((if inS T k = true then 0 else 1) : Int), (inc : Int → Int), (mat : Int → Int), (if inS T k = true then zU kd k (cvS T inc tm k False) else kd : Int → Int)) dX11_oneAct_108 (show (if inS T k = true then 0 else 1) = whyS T mat yr how k (if how = 38 then la - 65 else la - 48) ∧ (whyS T mat yr how k (if how = 38 then la - 65 else la - 48) = 0 → inc = actI T dri mat inc how k (if how = 38 then la - 65 else la - 48) ∧ mat = actM T mat how k (if how = 38 then la - 65 else la - 48) ∧ (if inS T k = true then zU kd k (cvS T inc tm k False) else kd) = (if how = 58 ∨ how = 63 then zU kd k (cvS T inc tm k (how = 63)) else kd)) from (by exfalso; omega)) hz
                    ·
                      exfalso
                      first | omega | (revert h97; simp_all; done) | simp_all
                  ·
                    by_cases h1qqqqqqqqq : how = 47
                    ·
                      refine z_tabIn (k := 47) (off := 85) (tgt := 86) hx hb dX11_oneAct_1 (by omega) (by decide) (by decide) (by decide +kernel) (by decide) ?_
                      refine lv_aload_n hx hb dX11_oneAct_86 rfl (lv_at hl 0 rfl) ?_
                      refine lv_iload_n hx hb dX11_oneAct_87 rfl (lv_at hl 1 rfl) ?_
                      refine z_callVw (As := [.int (zI k)]) (rest := []) (C := RX11) (T := TX11) (N := 23) F hK hz hl (c_X11_rise l D cI cJ cZ md bk nw nt df chk pa rc qu ct ft wn wy nx im ik inc mat kd T cn ln wat who rs act fse tm yr k (by omega) (by first | assumption | omega) (by assumption)) (cwV 1 hts gX11_oneAct_X11_rise rfl rfl rfl (by decide +kernel) ⟨Nat.le_of_ble_eq_true rfl, Nat.le_of_ble_eq_true rfl⟩) rfl 0 rfl [0, 1] rfl rfl (by decide +kernel) rfl rfl (Nat.le_of_ble_eq_true rfl) ⟨Nat.le_of_ble_eq_true rfl, Nat.le_of_ble_eq_true rfl⟩ dX11_oneAct_88 (fun u H locs hu hz => ?_)
                      obtain ⟨r_19, mat1_20⟩ := u
                      have hu : r_19 = whyS T mat yr 47 k 0 ∧ mat1_20 = (if whyS T mat yr 47 k 0 = 0 then sepM T mat k else mat) := hu
                      obtain ⟨g88_0, g88_1⟩ := hu
                      have g88_0 := g88_0.symm
                      subst g88_0
                      have g88_1 := g88_1.symm
                      subst g88_1
                      have hz : zH D (zF ws0) H0 [(md, .inr (9, [.ref bk, .ref nw, .ref nt, .int (zI T), .ref df, .int (zI cn), .ref chk, .int (zI ln), .ref pa, .int (zI wat), .int (zI who), .int (zI rs), .int (zI act), .int (zI fse), .ref rc, .ref qu, .ref ct, .ref ft, .ref wn, .ref wy, .ref nx, .ref im, .ref ik])), (nw, .inl (cI, 29, .inl (zA (nwS inc (if whyS T mat yr 47 k 0 = 0 then sepM T mat k else mat) kd tm yr))))] H locs := hz
                      exact hret (((whyS T mat yr 47 k 0) : Int), (inc : Int → Int), (if whyS T mat yr 47 k 0 = 0 then sepM T mat k else mat : Int → Int), (kd : Int → Int)) dX11_oneAct_91 (show (whyS T mat yr 47 k 0) = whyS T mat yr how k (if how = 38 then la - 65 else la - 48) ∧ (whyS T mat yr how k (if how = 38 then la - 65 else la - 48) = 0 → inc = actI T dri mat inc how k (if how = 38 then la - 65 else la - 48) ∧ (if whyS T mat yr 47 k 0 = 0 then sepM T mat k else mat) = actM T mat how k (if how = 38 then la - 65 else la - 48) ∧ kd = (if how = 58 ∨ how = 63 then zU kd k (cvS T inc tm k (how = 63)) else kd)) from ⟨by rw [if_neg (show ¬ how = 38 by omega), show how = 47 by omega]; exact (why47w hmo).symm, fun q => ⟨by unfold actI; rw [if_neg (show ¬ how = 43 by omega), if_neg (show ¬ how = 45 by omega), if_neg (show ¬ how = 46 by omega)], by rw [if_neg (show ¬ how = 38 by omega), show how = 47 by omega, why47w hmo] at q; rw [if_pos q]; unfold actM; rw [if_neg (show ¬ how = 38 by omega), if_pos (show how = 47 by omega)], by rw [if_neg (by omega)]⟩⟩) hz
                    ·
                      refine z_tabOut (tgt := 92) hx hb dX11_oneAct_1 (by omega) (by omega) (by decide) ?_
                      refine lv_aload_n hx hb dX11_oneAct_92 rfl (lv_at hl 0 rfl) ?_
                      refine lv_iload_n hx hb dX11_oneAct_93 rfl (lv_at hl 1 rfl) ?_
                      refine lv_iload_n hx hb dX11_oneAct_94 rfl (lv_at hl 2 rfl) ?_
                      refine z_bipush hx hb dX11_oneAct_95 (by decide) ?_
                      refine z_icmp_ne (tgt := 104) hx hb dX11_oneAct_97 (by decide) (by omega) (by decide) (fun h97 => ?_) (fun h97 => ?_)
                      ·
                        refine z_iconst hx hb dX11_oneAct_104 ?_
                        refine z_callVw (As := [.int (zI k), .int (zI 0)]) (rest := []) (C := RX11) (T := TX11) (N := 23) F hK hz hl (c_X11_mark l D cI cJ cZ md bk nw nt df chk pa rc qu ct ft wn wy nx im ik inc mat kd T cn ln wat who rs act fse tm yr k False (by omega) (by first | assumption | omega) (hbi) (by omega)) (cwV 2 hts gX11_oneAct_X11_mark rfl rfl rfl (by decide +kernel) ⟨Nat.le_of_ble_eq_true rfl, Nat.le_of_ble_eq_true rfl⟩) rfl 0 rfl [0, 1] rfl rfl (by decide +kernel) rfl rfl (Nat.le_of_ble_eq_true rfl) ⟨Nat.le_of_ble_eq_true rfl, Nat.le_of_ble_eq_true rfl⟩ dX11_oneAct_105 (fun u H locs hu hz => ?_)
                        obtain ⟨r_21, kd1_22⟩ := u
                        have hu : r_21 = (if inS T k = true then 0 else 1) ∧ kd1_22 = (if inS T k = true then zU kd k (cvS T inc tm k False) else kd) := hu
                        obtain ⟨g105_0, g105_1⟩ := hu
                        have g105_0 := g105_0.symm
                        subst g105_0
                        have g105_1 := g105_1.symm
                        subst g105_1
                        have hz : zH D (zF ws0) H0 [(md, .inr (9, [.ref bk, .ref nw, .ref nt, .int (zI T), .ref df, .int (zI cn), .ref chk, .int (zI ln), .ref pa, .int (zI wat), .int (zI who), .int (zI rs), .int (zI act), .int (zI fse), .ref rc, .ref qu, .ref ct, .ref ft, .ref wn, .ref wy, .ref nx, .ref im, .ref ik])), (nw, .inl (cI, 29, .inl (zA (nwS inc mat (if inS T k = true then zU kd k (cvS T inc tm k False) else kd) tm yr))))] H locs := hz
                        exact hret (((if inS T k = true then 0 else 1) : Int), (inc : Int → Int), (mat : Int → Int), (if inS T k = true then zU kd k (cvS T inc tm k False) else kd : Int → Int)) dX11_oneAct_108 (show (if inS T k = true then 0 else 1) = whyS T mat yr how k (if how = 38 then la - 65 else la - 48) ∧ (whyS T mat yr how k (if how = 38 then la - 65 else la - 48) = 0 → inc = actI T dri mat inc how k (if how = 38 then la - 65 else la - 48) ∧ mat = actM T mat how k (if how = 38 then la - 65 else la - 48) ∧ (if inS T k = true then zU kd k (cvS T inc tm k False) else kd) = (if how = 58 ∨ how = 63 then zU kd k (cvS T inc tm k (how = 63)) else kd)) from ⟨(whyT (by omega) (by omega) (by omega)).symm, fun q => ⟨by unfold actI; rw [if_neg (show ¬ how = 43 by omega), if_neg (show ¬ how = 45 by omega), if_neg (show ¬ how = 46 by omega)], by unfold actM; rw [if_neg (show ¬ how = 38 by omega), if_neg (show ¬ how = 47 by omega)], by rw [whyT (by omega) (by omega) (by omega)] at q; have hin : inS T k = true := (by cases hq : inS T k with | true => rfl | false => (rw [hq] at q; simp at q)); rw [if_pos hin, if_pos (by omega)]; congr 1; unfold cvS; simp only [if_true, if_false]; rw [if_neg (show ¬ how = 63 by omega)]⟩⟩) hz
                      ·
                        refine z_iconst hx hb dX11_oneAct_100 ?_
                        refine lv_goto (tgt := 105) hx hb dX11_oneAct_101 (by decide) ?_
                        refine z_callVw (As := [.int (zI k), .int (zI 1)]) (rest := []) (C := RX11) (T := TX11) (N := 23) F hK hz hl (c_X11_mark l D cI cJ cZ md bk nw nt df chk pa rc qu ct ft wn wy nx im ik inc mat kd T cn ln wat who rs act fse tm yr k True (by omega) (by first | assumption | omega) (hbi) (by omega)) (cwV 2 hts gX11_oneAct_X11_mark rfl rfl rfl (by decide +kernel) ⟨Nat.le_of_ble_eq_true rfl, Nat.le_of_ble_eq_true rfl⟩) rfl 0 rfl [0, 1] rfl rfl (by decide +kernel) rfl rfl (Nat.le_of_ble_eq_true rfl) ⟨Nat.le_of_ble_eq_true rfl, Nat.le_of_ble_eq_true rfl⟩ dX11_oneAct_105 (fun u H locs hu hz => ?_)
                        obtain ⟨r_23, kd1_24⟩ := u
                        have hu : r_23 = (if inS T k = true then 0 else 1) ∧ kd1_24 = (if inS T k = true then zU kd k (cvS T inc tm k True) else kd) := hu
                        obtain ⟨g105_0, g105_1⟩ := hu
                        have g105_0 := g105_0.symm
                        subst g105_0
                        have g105_1 := g105_1.symm
                        subst g105_1
                        have hz : zH D (zF ws0) H0 [(md, .inr (9, [.ref bk, .ref nw, .ref nt, .int (zI T), .ref df, .int (zI cn), .ref chk, .int (zI ln), .ref pa, .int (zI wat), .int (zI who), .int (zI rs), .int (zI act), .int (zI fse), .ref rc, .ref qu, .ref ct, .ref ft, .ref wn, .ref wy, .ref nx, .ref im, .ref ik])), (nw, .inl (cI, 29, .inl (zA (nwS inc mat (if inS T k = true then zU kd k (cvS T inc tm k True) else kd) tm yr))))] H locs := hz
                        exact hret (((if inS T k = true then 0 else 1) : Int), (inc : Int → Int), (mat : Int → Int), (if inS T k = true then zU kd k (cvS T inc tm k True) else kd : Int → Int)) dX11_oneAct_108 (show (if inS T k = true then 0 else 1) = whyS T mat yr how k (if how = 38 then la - 65 else la - 48) ∧ (whyS T mat yr how k (if how = 38 then la - 65 else la - 48) = 0 → inc = actI T dri mat inc how k (if how = 38 then la - 65 else la - 48) ∧ mat = actM T mat how k (if how = 38 then la - 65 else la - 48) ∧ (if inS T k = true then zU kd k (cvS T inc tm k True) else kd) = (if how = 58 ∨ how = 63 then zU kd k (cvS T inc tm k (how = 63)) else kd)) from ⟨(whyT (by omega) (by omega) (by omega)).symm, fun q => ⟨by unfold actI; rw [if_neg (show ¬ how = 43 by omega), if_neg (show ¬ how = 45 by omega), if_neg (show ¬ how = 46 by omega)], by unfold actM; rw [if_neg (show ¬ how = 38 by omega), if_neg (show ¬ how = 47 by omega)], by rw [whyT (by omega) (by omega) (by omega)] at q; have hin : inS T k = true := (by cases hq : inS T k with | true => rfl | false => (rw [hq] at q; simp at q)); rw [if_pos hin, if_pos (by omega)]; congr 1; unfold cvS; simp only [if_true, if_false]; rw [if_pos (show how = 63 by omega)]⟩⟩) hz
