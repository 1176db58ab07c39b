set_option maxRecDepth 20000 in
theorem hin_X11_book_X11 : ∀ w ∈ u_ws RX11 TX11 23, w ∈ wsX11_book := by decide +kernel
set_option maxRecDepth 20000 in
theorem fl_X11_book_13 : Cond.fieldLink RX11 13 "HornCityModel" "now" "[I" ∈ wsX11_book := by decide +kernel
set_option maxRecDepth 20000 in
theorem fl_X11_book_119 : Cond.fieldLink RX11 119 "HornCityModel" "reason" "I" ∈ wsX11_book := by decide +kernel
set_option maxHeartbeats 4000000 in
set_option maxRecDepth 100000 in
theorem c_X11_book (l : Launch) (D : va_G) (cI cJ cZ : ClassId) (md bk nw nt df chk pa rc qu ct ft wn wy nx im ik : Nat) (inc mat kd nwf ntf dri : Int → Int) (T cn ln wat who rs act fse tm yr seed m0 what : Int) (hr : (-2147483648 ≤ seed ∧ seed ≤ 2147483647) ∧ (-2147483648 ≤ m0 ∧ m0 ≤ 2147483647) ∧ (-2147483648 ≤ what ∧ what ≤ 2147483647)) (hT : 0 ≤ T ∧ T < 512) (hbi : zBd inc 9 0 179) (hbd : zBd dri 9 (-9) 9) (hmo : mOk T mat) (hty : (0 ≤ tm ∧ tm ≤ 9) ∧ 0 ≤ yr ∧ yr ≤ 999) : zMw l yX11_book wsX11_book (zRm 3) D cI cJ cZ [.ref md, .int (zI seed), .int (zI m0), .int (zI what)] [(md, .inr (9, [.ref bk, .ref nw, .ref nt, .int (zI T), .ref df, .int (zI cn), .ref chk, .int (zI ln), .ref pa, .int (zI wat), .int (zI who), .int (zI rs), .int (zI act), .int (zI fse), .ref rc, .ref qu, .ref ct, .ref ft, .ref wn, .ref wy, .ref nx, .ref im, .ref ik])), (bk, .inl (cI, 29, .inl (zA (nwS inc mat kd tm yr)))), (nw, .inl (cI, 29, .inl (zA nwf))), (nt, .inl (cI, 9, .inl (zA ntf))), (df, .inl (cI, 9, .inl (zA dri)))] (S := Int × (Int → Int) × (Int → Int) × Int × Int × Int × Int) (fun u => u.1 = boR T dri inc mat tm yr seed m0 what) (fun u => some (.int (zI u.1))) (fun u => [(md, .inr (9, [.ref bk, .ref nw, .ref nt, .int (zI T), .ref df, .int (zI cn), .ref chk, .int (zI ln), .ref pa, .int (zI u.2.2.2.1), .int (zI u.2.2.2.2.1), .int (zI u.2.2.2.2.2.1), .int (zI act), .int (zI u.2.2.2.2.2.2), .ref rc, .ref qu, .ref ct, .ref ft, .ref wn, .ref wy, .ref nx, .ref im, .ref ik])), (bk, .inl (cI, 29, .inl (zA (nwS inc mat kd tm yr)))), (nw, .inl (cI, 29, .inl (zA u.2.1))), (nt, .inl (cI, 9, .inl (zA u.2.2.1))), (df, .inl (cI, 9, .inl (zA dri)))]) := by
  refine zMw_i (cc := cX11_book) (maxL := 9) (by decide +kernel) rfl (Nat.le_of_ble_eq_true rfl) rfl (fun _ => rfl) ?_
  intro p e s m args below meth c Q H0 ls F hK hz hl hret
  obtain ⟨hx, hb, hml, hown0, hts⟩ := id F
  have hown : s.vm.findClass RX11 = some m.cls := hown0
  obtain ⟨ws0, hw0⟩ : ∃ w : va_W, w = [(md, .inr (9, [.ref bk, .ref nw, .ref nt, .int (zI T), .ref df, .int (zI cn), .ref chk, .int (zI ln), .ref pa, .int (zI wat), .int (zI who), .int (zI rs), .int (zI act), .int (zI fse), .ref rc, .ref qu, .ref ct, .ref ft, .ref wn, .ref wy, .ref nx, .ref im, .ref ik])), (bk, .inl (cI, 29, .inl (zA (nwS inc mat kd tm yr)))), (nw, .inl (cI, 29, .inl (zA nwf))), (nt, .inl (cI, 9, .inl (zA ntf))), (df, .inl (cI, 9, .inl (zA dri)))] := ⟨_, rfl⟩
  rw [← hw0] at hret
  have hz : zH D (zF ws0) H0 [(md, .inr (9, [.ref bk, .ref nw, .ref nt, .int (zI T), .ref df, .int (zI cn), .ref chk, .int (zI ln), .ref pa, .int (zI wat), .int (zI who), .int (zI rs), .int (zI act), .int (zI fse), .ref rc, .ref qu, .ref ct, .ref ft, .ref wn, .ref wy, .ref nx, .ref im, .ref ik])), (bk, .inl (cI, 29, .inl (zA (nwS inc mat kd tm yr)))), (nw, .inl (cI, 29, .inl (zA nwf))), (nt, .inl (cI, 9, .inl (zA ntf))), (df, .inl (cI, 9, .inl (zA dri)))] H0 [] := by rw [hw0]; exact hz
  have hl : lv_has ls 9 [(0, .ref md), (1, .int (zI seed)), (2, .int (zI m0)), (3, .int (zI what))] := hl
  refine lv_iload_n hx hb dX11_book_0 rfl (lv_at hl 1 rfl) ?_
  refine z_iconst hx hb dX11_book_1 ?_
  refine z_sipush hx hb dX11_book_2 (by decide) ?_
  refine z_callSp (As := [.int (zI seed), .int (zI 0), .int (zI 9999)]) (rest := []) F hK hz hl (c_X11_in l D cI cJ cZ seed 0 9999 (by omega)) (va_cwS 3 hts gX11_book_X11_in rfl rfl rfl (by decide +kernel) ⟨Nat.le_of_ble_eq_true rfl, Nat.le_of_ble_eq_true rfl⟩) [] rfl rfl rfl rfl (Nat.le_of_ble_eq_true rfl) ⟨Nat.le_of_ble_eq_true rfl, Nat.le_of_ble_eq_true rfl⟩ dX11_book_5 ?_
  refine z_ifb_eq (tgt := 30) hx hb dX11_book_8 (by decide) (fun h8 => ?_) (fun h8 => ?_)
  ·
    refine z_bipush hx hb dX11_book_30 (by decide) ?_
    exact hret (((-2) : Int), (nwf : Int → Int), (ntf : Int → Int), (wat : Int), (who : Int), (rs : Int), (fse : Int)) dX11_book_32 (show (-2) = boR T dri inc mat tm yr seed m0 what from (by unfold boR; rw [if_neg (by omega)])) hz
  ·
    refine lv_iload_n hx hb dX11_book_11 rfl (lv_at hl 2 rfl) ?_
    refine z_iconst hx hb dX11_book_12 ?_
    refine z_bipush hx hb dX11_book_13 (by decide) ?_
    refine z_callSp (As := [.int (zI m0), .int (zI 1), .int (zI 99)]) (rest := []) F hK hz hl (c_X11_in l D cI cJ cZ m0 1 99 (by omega)) (va_cwS 3 hts gX11_book_X11_in rfl rfl rfl (by decide +kernel) ⟨Nat.le_of_ble_eq_true rfl, Nat.le_of_ble_eq_true rfl⟩) [] rfl rfl rfl rfl (Nat.le_of_ble_eq_true rfl) ⟨Nat.le_of_ble_eq_true rfl, Nat.le_of_ble_eq_true rfl⟩ dX11_book_15 ?_
    refine z_ifb_eq (tgt := 30) hx hb dX11_book_18 (by decide) (fun h18 => ?_) (fun h18 => ?_)
    ·
      refine z_bipush hx hb dX11_book_30 (by decide) ?_
      exact hret (((-2) : Int), (nwf : Int → Int), (ntf : Int → Int), (wat : Int), (who : Int), (rs : Int), (fse : Int)) dX11_book_32 (show (-2) = boR T dri inc mat tm yr seed m0 what from (by unfold boR; rw [if_neg (by omega)])) hz
    ·
      refine lv_iload_n hx hb dX11_book_21 rfl (lv_at hl 3 rfl) ?_
      refine z_iconst hx hb dX11_book_22 ?_
      refine z_iconst hx hb dX11_book_23 ?_
      refine z_callSp (As := [.int (zI what), .int (zI 0), .int (zI 2)]) (rest := []) F hK hz hl (c_X11_in l D cI cJ cZ what 0 2 (by omega)) (va_cwS 3 hts gX11_book_X11_in rfl rfl rfl (by decide +kernel) ⟨Nat.le_of_ble_eq_true rfl, Nat.le_of_ble_eq_true rfl⟩) [] rfl rfl rfl rfl (Nat.le_of_ble_eq_true rfl) ⟨Nat.le_of_ble_eq_true rfl, Nat.le_of_ble_eq_true rfl⟩ dX11_book_24 ?_
      refine z_ifb_ne (tgt := 33) hx hb dX11_book_27 (by decide) (fun h27 => ?_) (fun h27 => ?_)
      ·
        refine lv_aload_n hx hb dX11_book_33 rfl (lv_at hl 0 rfl) ?_
        refine z_callVwv (As := []) (rest := []) (C := RX11) (T := TX11) (N := 23) F hK hz hl (c_X11_asNow l D cI cJ cZ md bk nw nt df chk pa rc qu ct ft wn wy nx im ik inc mat kd nwf T cn ln wat who rs act fse tm yr ) (cwV 0 hts gX11_book_X11_asNow rfl rfl rfl (by decide +kernel) ⟨Nat.le_of_ble_eq_true rfl, Nat.le_of_ble_eq_true rfl⟩) rfl 0 rfl [0, 1, 2] rfl rfl (by decide +kernel) rfl rfl (Nat.le_of_ble_eq_true rfl) ⟨Nat.le_of_ble_eq_true rfl, Nat.le_of_ble_eq_true rfl⟩ dX11_book_34 (fun u H locs hu hz => ?_)
        obtain ⟨inc1_1, mat1_2, kd1_3, tm1_4, yr1_5, wa1_6, wo1_7⟩ := u
        have hu : inc1_1 = inc ∧ mat1_2 = mat ∧ kd1_3 = (fun _ => -6) ∧ tm1_4 = tm ∧ yr1_5 = yr ∧ wa1_6 = -6 ∧ wo1_7 = -6 := hu
        obtain ⟨g34_0, g34_1, g34_2, g34_3, g34_4, g34_5, g34_6⟩ := hu
        have g34_0 := g34_0.symm
        subst g34_0
        have g34_1 := g34_1.symm
        subst g34_1
        have g34_2 := g34_2.symm
        subst g34_2
        have g34_3 := g34_3.symm
        subst g34_3
        have g34_4 := g34_4.symm
        subst g34_4
        have g34_5 := g34_5.symm
        subst g34_5
        have g34_6 := g34_6.symm
        subst g34_6
        have hz : zH D (zF ws0) H0 [(md, .inr (9, [.ref bk, .ref nw, .ref nt, .int (zI T), .ref df, .int (zI cn), .ref chk, .int (zI ln), .ref pa, .int (zI (-6)), .int (zI (-6)), .int (zI rs), .int (zI act), .int (zI fse), .ref rc, .ref qu, .ref ct, .ref ft, .ref wn, .ref wy, .ref nx, .ref im, .ref ik])), (bk, .inl (cI, 29, .inl (zA (nwS inc mat kd tm yr)))), (nw, .inl (cI, 29, .inl (zA (nwS inc mat (fun _ => -6) tm yr)))), (nt, .inl (cI, 9, .inl (zA ntf))), (df, .inl (cI, 9, .inl (zA dri)))] H locs := hz
        refine lv_iload_n hx hb dX11_book_37 rfl (lv_at hl 1 rfl) ?_
        refine lv_istore (lv' := [(4, .int (zI seed)), (0, .ref md), (1, .int (zI seed)), (2, .int (zI m0)), (3, .int (zI what))]) hx hb dX11_book_38 hl (Nat.le_of_ble_eq_true rfl) rfl (fun ls hl => ?_)
        refine z_iconst hx hb dX11_book_40 ?_
        refine lv_istore (lv' := [(5, .int (zI 0)), (4, .int (zI seed)), (0, .ref md), (1, .int (zI seed)), (2, .int (zI m0)), (3, .int (zI what))]) hx hb dX11_book_41 hl (Nat.le_of_ble_eq_true rfl) rfl (fun ls hl => ?_)
        have L43 : ∀ (n : Nat) (cnt0 x rsx tmx yrx : Int) (incx matx ntx : Int → Int) (H : Heap) (locs : List Loc) (ls : Array Slot), ((m0 - cnt0).toNat = n) → (0 ≤ cnt0 ∧ cnt0 ≤ m0) → (0 ≤ x ∧ x ≤ 65536) → (zBd incx 9 0 179) → (mOk T matx) → ((0 ≤ tmx ∧ tmx ≤ 9) ∧ 0 ≤ yrx ∧ yrx ≤ 999) → (drwS T dri m0.toNat seed (inc, mat, tm, yr) = drwS T dri (m0 - cnt0).toNat x (incx, matx, tmx, yrx)) → zH D (zF ws0) H0 [(md, .inr (9, [.ref bk, .ref nw, .ref nt, .int (zI T), .ref df, .int (zI cn), .ref chk, .int (zI ln), .ref pa, .int (zI (-6)), .int (zI (-6)), .int (zI rsx), .int (zI act), .int (zI fse), .ref rc, .ref qu, .ref ct, .ref ft, .ref wn, .ref wy, .ref nx, .ref im, .ref ik])), (bk, .inl (cI, 29, .inl (zA (nwS inc mat kd tm yr)))), (nw, .inl (cI, 29, .inl (zA (nwS incx matx (fun _ => -6) tmx yrx)))), (nt, .inl (cI, 9, .inl (zA ntx))), (df, .inl (cI, 9, .inl (zA dri)))] H locs → lv_has ls 9 [(5, .int (zI cnt0)), (4, .int (zI x)), (0, .ref md), (1, .int (zI seed)), (2, .int (zI m0)), (3, .int (zI what))] → W p l e (zRm 3) s m args below meth c H locs 0 0 Q (F0 m 43 ls []) := by
          intro n
          refine Nat.strongRecOn n ?_
          intro n ih43 cnt0 x rsx tmx yrx incx matx ntx H locs ls hn43 h0 h1 hbx hmx htx hf hz hl
          refine lv_iload hx hb dX11_book_43 (lv_at hl 0 rfl) ?_
          refine lv_iload_n hx hb dX11_book_45 rfl (lv_at hl 4 rfl) ?_
          refine z_icmp_ge (tgt := 195) hx hb dX11_book_46 (by decide) (by omega) (by omega) (fun h46 => ?_) (fun h46 => ?_)
          ·
            have hQ : drwS T dri m0.toNat seed (inc, mat, tm, yr) = (incx, matx, tmx, yrx) := by rw [hf, show (m0 - cnt0).toNat = 0 by omega]; rfl
            refine z_iconst hx hb dX11_book_195 ?_
            refine lv_istore (lv' := [(5, .int (zI 0)), (4, .int (zI x)), (0, .ref md), (1, .int (zI seed)), (2, .int (zI m0)), (3, .int (zI what))]) hx hb dX11_book_196 hl (Nat.le_of_ble_eq_true rfl) rfl (fun ls hl => ?_)
            refine z_iconst hx hb dX11_book_198 ?_
            refine lv_istore (lv' := [(6, .int (zI 0)), (5, .int (zI 0)), (4, .int (zI x)), (0, .ref md), (1, .int (zI seed)), (2, .int (zI m0)), (3, .int (zI what))]) hx hb dX11_book_199 hl (Nat.le_of_ble_eq_true rfl) rfl (fun ls hl => ?_)
            have L201 : ∀ (n : Nat) (j su : Int) (H : Heap) (locs : List Loc) (ls : Array Slot), ((9 - j).toNat = n) → (0 ≤ j ∧ j ≤ 9) → (su = sumZ (inO T incx) j.toNat) → zH D (zF ws0) H0 [(md, .inr (9, [.ref bk, .ref nw, .ref nt, .int (zI T), .ref df, .int (zI cn), .ref chk, .int (zI ln), .ref pa, .int (zI (-6)), .int (zI (-6)), .int (zI rsx), .int (zI act), .int (zI fse), .ref rc, .ref qu, .ref ct, .ref ft, .ref wn, .ref wy, .ref nx, .ref im, .ref ik])), (bk, .inl (cI, 29, .inl (zA (nwS inc mat kd tm yr)))), (nw, .inl (cI, 29, .inl (zA (nwS incx matx (fun _ => -6) tmx yrx)))), (nt, .inl (cI, 9, .inl (zA ntx))), (df, .inl (cI, 9, .inl (zA dri)))] H locs → lv_has ls 9 [(6, .int (zI j)), (5, .int (zI su)), (4, .int (zI x)), (0, .ref md), (1, .int (zI seed)), (2, .int (zI m0)), (3, .int (zI what))] → W p l e (zRm 3) s m args below meth c H locs 0 0 Q (F0 m 201 ls []) := by
              intro n
              refine Nat.strongRecOn n ?_
              intro n ih201 j su H locs ls hn201 h0b hs hz hl
              refine lv_iload hx hb dX11_book_201 (lv_at hl 0 rfl) ?_
              refine z_bipush hx hb dX11_book_203 (by decide) ?_
              refine z_icmp_ge (tgt := 239) hx hb dX11_book_205 (by decide) (by omega) (by decide) (fun h205 => ?_) (fun h205 => ?_)
              ·
                refine lv_iload_n hx hb dX11_book_239 rfl (lv_at hl 6 rfl) ?_
                refine z_if_ne (tgt := 248) hx hb dX11_book_240 (by decide) (by omega) (fun h240 => ?_) (fun h240 => ?_)
                ·
                  refine lv_iload_n hx hb dX11_book_248 rfl (lv_at hl 6 rfl) ?_
                  refine z_iconst hx hb dX11_book_249 ?_
                  refine z_icmp_ne (tgt := 260) hx hb dX11_book_250 (by decide) (by omega) (by decide) (fun h250 => ?_) (fun h250 => ?_)
                  ·
                    refine lv_aload_n hx hb dX11_book_260 rfl (lv_at hl 3 rfl) ?_
                    refine z_callVw (As := []) (rest := []) (C := RX11) (T := TX11) (N := 23) F hK hz hl (c_X11_layTriangles l D cI cJ cZ md bk nw nt df chk pa rc qu ct ft wn wy nx im ik incx matx (fun _ => -6) T cn ln (-6) (-6) rsx act fse tmx yrx (by first | assumption | omega) (hbx)) (cwV 0 hts gX11_book_X11_layTriangles rfl rfl rfl (by decide +kernel) ⟨Nat.le_of_ble_eq_true rfl, Nat.le_of_ble_eq_true rfl⟩) rfl 0 rfl [0, 2] rfl rfl (by decide +kernel) rfl rfl (Nat.le_of_ble_eq_true rfl) ⟨Nat.le_of_ble_eq_true rfl, Nat.le_of_ble_eq_true rfl⟩ dX11_book_261 (fun u H locs hu hz => ?_)
                    obtain ⟨r_8, f9_9⟩ := u
                    have hu : r_8 = sumZ (fun s => if triS T incx s = true then 1 else 0) 512 ∧ f9_9 = lstS (triS T incx) 512 0 := hu
                    obtain ⟨g261_0, g261_1⟩ := hu
                    have g261_0 := g261_0.symm
                    subst g261_0
                    have g261_1 := g261_1.symm
                    subst g261_1
                    have hz : zH D (zF ws0) H0 [(md, .inr (9, [.ref bk, .ref nw, .ref nt, .int (zI T), .ref df, .int (zI cn), .ref chk, .int (zI ln), .ref pa, .int (zI (-6)), .int (zI (-6)), .int (zI rsx), .int (zI act), .int (zI (lstS (triS T incx) 512 0)), .ref rc, .ref qu, .ref ct, .ref ft, .ref wn, .ref wy, .ref nx, .ref im, .ref ik])), (bk, .inl (cI, 29, .inl (zA (nwS inc mat kd tm yr)))), (nw, .inl (cI, 29, .inl (zA (nwS incx matx (fun _ => -6) tmx yrx)))), (nt, .inl (cI, 9, .inl (zA ntx))), (df, .inl (cI, 9, .inl (zA dri)))] H locs := hz
                    exact hret (((sumZ (fun s => if triS T incx s = true then 1 else 0) 512) : Int), (nwS incx matx (fun _ => -6) tmx yrx : Int → Int), (ntx : Int → Int), ((-6) : Int), ((-6) : Int), (rsx : Int), ((lstS (triS T incx) 512 0) : Int)) dX11_book_264 (show (sumZ (fun s => if triS T incx s = true then 1 else 0) 512) = boR T dri inc mat tm yr seed m0 what from (by unfold boR; rw [if_pos (by omega), hQ]; rw [if_neg h240, if_neg h250])) hz
                  ·
                    refine lv_aload_n hx hb dX11_book_253 rfl (lv_at hl 3 rfl) ?_
                    refine z_callVp (As := []) (rest := []) (C := RX11) (T := TX11) (N := 23) F hK hz hl (c_X11_pairsOf l D cI cJ cZ md bk nw nt df chk pa rc qu ct ft wn wy nx im ik incx matx (fun _ => -6) T cn ln (-6) (-6) rsx act fse tmx yrx (by first | assumption | omega) (mOk_bd hmx)) (cwV 0 hts gX11_book_X11_pairsOf rfl rfl rfl (by decide +kernel) ⟨Nat.le_of_ble_eq_true rfl, Nat.le_of_ble_eq_true rfl⟩) rfl 0 rfl [0, 2] rfl rfl rfl rfl (Nat.le_of_ble_eq_true rfl) ⟨Nat.le_of_ble_eq_true rfl, Nat.le_of_ble_eq_true rfl⟩ dX11_book_254 ?_
                    refine lv_goto (tgt := 264) hx hb dX11_book_257 (by decide) ?_
                    exact hret (((pa2S T matx) : Int), (nwS incx matx (fun _ => -6) tmx yrx : Int → Int), (ntx : Int → Int), ((-6) : Int), ((-6) : Int), (rsx : Int), (fse : Int)) dX11_book_264 (show (pa2S T matx) = boR T dri inc mat tm yr seed m0 what from (by unfold boR; rw [if_pos (by omega), hQ]; rw [if_neg h240, if_pos h250]; exact pa2_eq hmx)) hz
                ·
                  refine lv_iload hx hb dX11_book_243 (lv_at hl 1 rfl) ?_
                  refine lv_goto (tgt := 264) hx hb dX11_book_245 (by decide) ?_
                  exact hret ((su : Int), (nwS incx matx (fun _ => -6) tmx yrx : Int → Int), (ntx : Int → Int), ((-6) : Int), ((-6) : Int), (rsx : Int), (fse : Int)) dX11_book_264 (show su = boR T dri inc mat tm yr seed m0 what from (by unfold boR; rw [if_pos (by omega), hQ]; rw [if_pos h240, hs, show j = 9 by omega]; rfl)) hz
              ·
                refine lv_iload hx hb dX11_book_208 (lv_at hl 1 rfl) ?_
                refine lv_aload_n hx hb dX11_book_210 rfl (lv_at hl 3 rfl) ?_
                refine lv_iload hx hb dX11_book_211 (lv_at hl 0 rfl) ?_
                refine z_callVp (As := [.int (zI j)]) (rest := [.int (zI su)]) (C := RX11) (T := TX11) (N := 23) F hK hz hl (c_X11_isThere l D cI cJ cZ md bk nw nt df chk pa rc qu ct ft wn wy nx im ik T cn ln (-6) (-6) rsx act fse j (by omega) (by first | assumption | omega)) (cwV 1 hts gX11_book_X11_isThere rfl rfl rfl (by decide +kernel) ⟨Nat.le_of_ble_eq_true rfl, Nat.le_of_ble_eq_true rfl⟩) rfl 0 rfl [0] rfl rfl rfl rfl (Nat.le_of_ble_eq_true rfl) ⟨Nat.le_of_ble_eq_true rfl, Nat.le_of_ble_eq_true rfl⟩ dX11_book_213 ?_
                refine z_ifb_eq (tgt := 229) hx hb dX11_book_216 (by decide) (fun h216 => ?_) (fun h216 => ?_)
                ·
                  refine z_iconst hx hb dX11_book_229 ?_
                  refine z_iadd hx hb dX11_book_230 ?_
                  refine lv_istore (lv' := [(5, .int (zI (su + 0))), (6, .int (zI j)), (4, .int (zI x)), (0, .ref md), (1, .int (zI seed)), (2, .int (zI m0)), (3, .int (zI what))]) hx hb dX11_book_231 hl (Nat.le_of_ble_eq_true rfl) rfl (fun ls hl => ?_)
                  refine z_iinc (lv' := [(6, .int (zI (j + 1))), (5, .int (zI (su + 0))), (4, .int (zI x)), (0, .ref md), (1, .int (zI seed)), (2, .int (zI m0)), (3, .int (zI what))]) hx hb dX11_book_233 hl (k := 1) rfl (Nat.le_of_ble_eq_true rfl) rfl (fun ls hl => ?_)
                  refine lv_goto (tgt := 201) hx hb dX11_book_236 (by decide) ?_
                  exact ih201 _ (by omega) (j + 1) (su + 0) H locs ls rfl (by omega) (by rw [sumZ_s h0b.1, ← hs]; unfold inO; rw [if_neg h216]) hz (lv_sub hl [0, 1, 2, 3, 4, 5, 6] rfl)
                ·
                  refine lv_aload_n hx hb dX11_book_219 rfl (lv_at hl 3 rfl) ?_
                  refine z_get (C := RX11) (T := TX11) (N := 23) (ref := "HornCityModel") hx hb hts hin_X11_book_X11 hown hK hz 0 rfl rfl 1 (by decide) (hts _ fl_X11_book_13) rfl rfl dX11_book_220 ?_
                  refine lv_iload hx hb dX11_book_223 (lv_at hl 0 rfl) ?_
                  refine z_iald hx hb hK hz 2 rfl (by omega) (by decide) dX11_book_225 ?_
                  rw [nwS_i (k := j) (by omega)]
                  have hv225 := (hbx).ax j (by omega)
                  refine lv_goto (tgt := 230) hx hb dX11_book_226 (by decide) ?_
                  refine z_iadd hx hb dX11_book_230 ?_
                  refine lv_istore (lv' := [(5, .int (zI (su + (incx j)))), (6, .int (zI j)), (4, .int (zI x)), (0, .ref md), (1, .int (zI seed)), (2, .int (zI m0)), (3, .int (zI what))]) hx hb dX11_book_231 hl (Nat.le_of_ble_eq_true rfl) rfl (fun ls hl => ?_)
                  refine z_iinc (lv' := [(6, .int (zI (j + 1))), (5, .int (zI (su + (incx j)))), (4, .int (zI x)), (0, .ref md), (1, .int (zI seed)), (2, .int (zI m0)), (3, .int (zI what))]) hx hb dX11_book_233 hl (k := 1) rfl (Nat.le_of_ble_eq_true rfl) rfl (fun ls hl => ?_)
                  refine lv_goto (tgt := 201) hx hb dX11_book_236 (by decide) ?_
                  exact ih201 _ (by omega) (j + 1) (su + (incx j)) H locs ls rfl (by omega) (by rw [sumZ_s h0b.1, ← hs]; unfold inO; rw [if_pos h216]) hz (lv_sub hl [0, 1, 2, 3, 4, 5, 6] rfl)
            exact L201 _ 0 0 H locs ls rfl (by decide) (rfl) hz (lv_sub hl [0, 1, 2, 3, 4, 5, 6] rfl)
          ·
            refine z_bipush hx hb dX11_book_49 (by decide) ?_
            refine lv_iload hx hb dX11_book_51 (lv_at hl 1 rfl) ?_
            refine z_imul hx hb dX11_book_53 ?_
            refine z_bipush hx hb dX11_book_54 (by decide) ?_
            refine z_iadd hx hb dX11_book_56 ?_
            refine z_ldc (n := 65537) hx hb hown (hts (.constant RX11 155 65537) (by decide +kernel)) (by decide +kernel) dX11_book_57 ?_
            refine z_irem hx hb dX11_book_59 (by omega) (by omega) ?_
            refine lv_istore (lv' := [(4, .int (zI (((75 * x) + 74) % 65537))), (5, .int (zI cnt0)), (0, .ref md), (1, .int (zI seed)), (2, .int (zI m0)), (3, .int (zI what))]) hx hb dX11_book_60 hl (Nat.le_of_ble_eq_true rfl) rfl (fun ls hl => ?_)
            refine lv_iload hx hb dX11_book_62 (lv_at hl 0 rfl) ?_
            refine z_bipush hx hb dX11_book_64 (by decide) ?_
            refine z_irem hx hb dX11_book_66 (by omega) (by omega) ?_
            refine lv_istore (lv' := [(6, .int (zI ((((75 * x) + 74) % 65537) % 9))), (4, .int (zI (((75 * x) + 74) % 65537))), (5, .int (zI cnt0)), (0, .ref md), (1, .int (zI seed)), (2, .int (zI m0)), (3, .int (zI what))]) hx hb dX11_book_67 hl (Nat.le_of_ble_eq_true rfl) rfl (fun ls hl => ?_)
            refine lv_iload hx hb dX11_book_69 (lv_at hl 1 rfl) ?_
            refine z_bipush hx hb dX11_book_71 (by decide) ?_
            refine z_idiv hx hb dX11_book_73 (by omega) (by omega) ?_
            refine z_bipush hx hb dX11_book_74 (by decide) ?_
            refine z_irem hx hb dX11_book_76 (by omega) (by omega) ?_
            refine lv_istore (lv' := [(7, .int (zI (((((75 * x) + 74) % 65537) / 9) % 8))), (6, .int (zI ((((75 * x) + 74) % 65537) % 9))), (4, .int (zI (((75 * x) + 74) % 65537))), (5, .int (zI cnt0)), (0, .ref md), (1, .int (zI seed)), (2, .int (zI m0)), (3, .int (zI what))]) hx hb dX11_book_77 hl (Nat.le_of_ble_eq_true rfl) rfl (fun ls hl => ?_)
            refine lv_iload hx hb dX11_book_79 (lv_at hl 2 rfl) ?_
            refine z_bipush hx hb dX11_book_81 (by decide) ?_
            refine z_idiv hx hb dX11_book_83 (by omega) (by omega) ?_
            refine lv_istore (lv' := [(8, .int (zI ((((75 * x) + 74) % 65537) / 72))), (7, .int (zI (((((75 * x) + 74) % 65537) / 9) % 8))), (6, .int (zI ((((75 * x) + 74) % 65537) % 9))), (4, .int (zI (((75 * x) + 74) % 65537))), (5, .int (zI cnt0)), (0, .ref md), (1, .int (zI seed)), (2, .int (zI m0)), (3, .int (zI what))]) hx hb dX11_book_84 hl (Nat.le_of_ble_eq_true rfl) rfl (fun ls hl => ?_)
            refine lv_iload hx hb dX11_book_86 (lv_at hl 1 rfl) ?_
            refine z_iconst hx hb dX11_book_88 ?_
            refine z_icmp_ge (tgt := 112) hx hb dX11_book_89 (by decide) (by omega) (by decide) (fun h89 => ?_) (fun h89 => ?_)
            ·
              refine lv_iload hx hb dX11_book_112 (lv_at hl 1 rfl) ?_
              refine z_iconst hx hb dX11_book_114 ?_
              refine z_icmp_ne (tgt := 138) hx hb dX11_book_115 (by decide) (by omega) (by decide) (fun h115 => ?_) (fun h115 => ?_)
              ·
                refine lv_iload hx hb dX11_book_138 (lv_at hl 1 rfl) ?_
                refine z_iconst hx hb dX11_book_140 ?_
                refine z_icmp_ne (tgt := 162) hx hb dX11_book_141 (by decide) (by omega) (by decide) (fun h141 => ?_) (fun h141 => ?_)
                ·
                  refine lv_iload hx hb dX11_book_162 (lv_at hl 1 rfl) ?_
                  refine z_iconst hx hb dX11_book_164 ?_
                  refine z_icmp_ne (tgt := 181) hx hb dX11_book_165 (by decide) (by omega) (by decide) (fun h165 => ?_) (fun h165 => ?_)
                  ·
                    refine lv_aload_n hx hb dX11_book_181 rfl (lv_at hl 5 rfl) ?_
                    refine lv_aload_n hx hb dX11_book_182 rfl (lv_at hl 5 rfl) ?_
                    refine z_callVw (As := []) (rest := [.ref md]) (C := RX11) (T := TX11) (N := 23) F hK hz hl (c_X11_endYear l D cI cJ cZ md bk nw nt df chk pa rc qu ct ft wn wy nx im ik incx matx (fun _ => -6) ntx dri T cn ln (-6) (-6) rsx act fse tmx yrx (by first | assumption | omega) (hbx) (hbd) (by assumption) (by omega)) (cwV 0 hts gX11_book_X11_endYear rfl rfl rfl (by decide +kernel) ⟨Nat.le_of_ble_eq_true rfl, Nat.le_of_ble_eq_true rfl⟩) rfl 0 rfl [0, 2, 3, 4] rfl rfl (by decide +kernel) rfl rfl (Nat.le_of_ble_eq_true rfl) ⟨Nat.le_of_ble_eq_true rfl, Nat.le_of_ble_eq_true rfl⟩ dX11_book_183 (fun u H locs hu hz => ?_)
                    obtain ⟨r_10, inc1_11, tm1_12, yr1_13, nt1_14⟩ := u
                    have hu : r_10 = whyS T matx yrx 46 0 0 ∧ inc1_11 = (if yrx < 999 then yeaI T dri matx incx else incx) ∧ tm1_12 = (if yrx < 999 then yeaH tmx yrx else tmx) ∧ yr1_13 = (if yrx < 999 then yrx + 1 else yrx) := hu
                    obtain ⟨g183_0, g183_1, g183_2, g183_3⟩ := hu
                    have g183_0 := g183_0.symm
                    subst g183_0
                    have g183_1 := g183_1.symm
                    subst g183_1
                    have g183_2 := g183_2.symm
                    subst g183_2
                    have g183_3 := g183_3.symm
                    subst g183_3
                    have hz : zH D (zF ws0) H0 [(md, .inr (9, [.ref bk, .ref nw, .ref nt, .int (zI T), .ref df, .int (zI cn), .ref chk, .int (zI ln), .ref pa, .int (zI (-6)), .int (zI (-6)), .int (zI rsx), .int (zI act), .int (zI fse), .ref rc, .ref qu, .ref ct, .ref ft, .ref wn, .ref wy, .ref nx, .ref im, .ref ik])), (bk, .inl (cI, 29, .inl (zA (nwS inc mat kd tm yr)))), (nw, .inl (cI, 29, .inl (zA (nwS (if yrx < 999 then yeaI T dri matx incx else incx) matx (fun _ => -6) (if yrx < 999 then yeaH tmx yrx else tmx) (if yrx < 999 then yrx + 1 else yrx))))), (nt, .inl (cI, 9, .inl (zA nt1_14))), (df, .inl (cI, 9, .inl (zA dri)))] H locs := hz
                    refine z_put (C := RX11) (T := TX11) (N := 23) (ref := "HornCityModel") (ty := .int) hx hb hts hin_X11_book_X11 hown hK hz tyX11 tyX11_ok nmX11 0 rfl rfl 11 (by decide) (hts _ fl_X11_book_119) rfl rfl (by decide +kernel) rfl rfl (Nat.le_of_ble_eq_true rfl) dX11_book_186 (fun H locs hz => ?_)
                    have hz : zH D (zF ws0) H0 [(md, .inr (9, [.ref bk, .ref nw, .ref nt, .int (zI T), .ref df, .int (zI cn), .ref chk, .int (zI ln), .ref pa, .int (zI (-6)), .int (zI (-6)), .int (zI (whyS T matx yrx 46 0 0)), .int (zI act), .int (zI fse), .ref rc, .ref qu, .ref ct, .ref ft, .ref wn, .ref wy, .ref nx, .ref im, .ref ik])), (bk, .inl (cI, 29, .inl (zA (nwS inc mat kd tm yr)))), (nw, .inl (cI, 29, .inl (zA (nwS (if yrx < 999 then yeaI T dri matx incx else incx) matx (fun _ => -6) (if yrx < 999 then yeaH tmx yrx else tmx) (if yrx < 999 then yrx + 1 else yrx))))), (nt, .inl (cI, 9, .inl (zA nt1_14))), (df, .inl (cI, 9, .inl (zA dri)))] H locs := hz
                    refine z_iinc (lv' := [(5, .int (zI (cnt0 + 1))), (8, .int (zI ((((75 * x) + 74) % 65537) / 72))), (7, .int (zI (((((75 * x) + 74) % 65537) / 9) % 8))), (6, .int (zI ((((75 * x) + 74) % 65537) % 9))), (4, .int (zI (((75 * x) + 74) % 65537))), (0, .ref md), (1, .int (zI seed)), (2, .int (zI m0)), (3, .int (zI what))]) hx hb dX11_book_189 hl (k := 4) rfl (Nat.le_of_ble_eq_true rfl) rfl (fun ls hl => ?_)
                    refine lv_goto (tgt := 43) hx hb dX11_book_192 (by decide) ?_
                    exact ih43 _ (by omega) (cnt0 + 1) (((75 * x) + 74) % 65537) (whyS T matx yrx 46 0 0) (if yrx < 999 then yeaH tmx yrx else tmx) (if yrx < 999 then yrx + 1 else yrx) (if yrx < 999 then yeaI T dri matx incx else incx) matx nt1_14 H locs ls rfl (by omega) (by omega) (yeaI_bd2 hbx) (hmx) (yr_ok htx) (by rw [hf, bk_year (by omega) (by omega)]) hz (lv_sub hl [0, 4, 5, 6, 7, 8] rfl)
                  ·
                    refine lv_aload_n hx hb dX11_book_168 rfl (lv_at hl 5 rfl) ?_
                    refine lv_aload_n hx hb dX11_book_169 rfl (lv_at hl 5 rfl) ?_
                    refine lv_iload hx hb dX11_book_170 (lv_at hl 2 rfl) ?_
                    refine z_callVw (As := [.int (zI ((((75 * x) + 74) % 65537) % 9))]) (rest := [.ref md]) (C := RX11) (T := TX11) (N := 23) F hK hz hl (c_X11_rise l D cI cJ cZ md bk nw nt df chk pa rc qu ct ft wn wy nx im ik incx matx (fun _ => -6) T cn ln (-6) (-6) rsx act fse tmx yrx ((((75 * x) + 74) % 65537) % 9) (by omega) (by first | assumption | omega) (by assumption)) (cwV 1 hts gX11_book_X11_rise rfl rfl rfl (by decide +kernel) ⟨Nat.le_of_ble_eq_true rfl, Nat.le_of_ble_eq_true rfl⟩) rfl 0 rfl [0, 2] rfl rfl (by decide +kernel) rfl rfl (Nat.le_of_ble_eq_true rfl) ⟨Nat.le_of_ble_eq_true rfl, Nat.le_of_ble_eq_true rfl⟩ dX11_book_172 (fun u H locs hu hz => ?_)
                    obtain ⟨r_15, mat1_16⟩ := u
                    have hu : r_15 = whyS T matx yrx 47 ((((75 * x) + 74) % 65537) % 9) 0 ∧ mat1_16 = (if whyS T matx yrx 47 ((((75 * x) + 74) % 65537) % 9) 0 = 0 then sepM T matx ((((75 * x) + 74) % 65537) % 9) else matx) := hu
                    obtain ⟨g172_0, g172_1⟩ := hu
                    have g172_0 := g172_0.symm
                    subst g172_0
                    have g172_1 := g172_1.symm
                    subst g172_1
                    have hz : zH D (zF ws0) H0 [(md, .inr (9, [.ref bk, .ref nw, .ref nt, .int (zI T), .ref df, .int (zI cn), .ref chk, .int (zI ln), .ref pa, .int (zI (-6)), .int (zI (-6)), .int (zI rsx), .int (zI act), .int (zI fse), .ref rc, .ref qu, .ref ct, .ref ft, .ref wn, .ref wy, .ref nx, .ref im, .ref ik])), (bk, .inl (cI, 29, .inl (zA (nwS inc mat kd tm yr)))), (nw, .inl (cI, 29, .inl (zA (nwS incx (if whyS T matx yrx 47 ((((75 * x) + 74) % 65537) % 9) 0 = 0 then sepM T matx ((((75 * x) + 74) % 65537) % 9) else matx) (fun _ => -6) tmx yrx)))), (nt, .inl (cI, 9, .inl (zA ntx))), (df, .inl (cI, 9, .inl (zA dri)))] H locs := hz
                    refine z_put (C := RX11) (T := TX11) (N := 23) (ref := "HornCityModel") (ty := .int) hx hb hts hin_X11_book_X11 hown hK hz tyX11 tyX11_ok nmX11 0 rfl rfl 11 (by decide) (hts _ fl_X11_book_119) rfl rfl (by decide +kernel) rfl rfl (Nat.le_of_ble_eq_true rfl) dX11_book_175 (fun H locs hz => ?_)
                    have hz : zH D (zF ws0) H0 [(md, .inr (9, [.ref bk, .ref nw, .ref nt, .int (zI T), .ref df, .int (zI cn), .ref chk, .int (zI ln), .ref pa, .int (zI (-6)), .int (zI (-6)), .int (zI (whyS T matx yrx 47 ((((75 * x) + 74) % 65537) % 9) 0)), .int (zI act), .int (zI fse), .ref rc, .ref qu, .ref ct, .ref ft, .ref wn, .ref wy, .ref nx, .ref im, .ref ik])), (bk, .inl (cI, 29, .inl (zA (nwS inc mat kd tm yr)))), (nw, .inl (cI, 29, .inl (zA (nwS incx (if whyS T matx yrx 47 ((((75 * x) + 74) % 65537) % 9) 0 = 0 then sepM T matx ((((75 * x) + 74) % 65537) % 9) else matx) (fun _ => -6) tmx yrx)))), (nt, .inl (cI, 9, .inl (zA ntx))), (df, .inl (cI, 9, .inl (zA dri)))] H locs := hz
                    refine lv_goto (tgt := 189) hx hb dX11_book_178 (by decide) ?_
                    refine z_iinc (lv' := [(5, .int (zI (cnt0 + 1))), (8, .int (zI ((((75 * x) + 74) % 65537) / 72))), (7, .int (zI (((((75 * x) + 74) % 65537) / 9) % 8))), (6, .int (zI ((((75 * x) + 74) % 65537) % 9))), (4, .int (zI (((75 * x) + 74) % 65537))), (0, .ref md), (1, .int (zI seed)), (2, .int (zI m0)), (3, .int (zI what))]) hx hb dX11_book_189 hl (k := 4) rfl (Nat.le_of_ble_eq_true rfl) rfl (fun ls hl => ?_)
                    refine lv_goto (tgt := 43) hx hb dX11_book_192 (by decide) ?_
                    exact ih43 _ (by omega) (cnt0 + 1) (((75 * x) + 74) % 65537) (whyS T matx yrx 47 ((((75 * x) + 74) % 65537) % 9) 0) tmx yrx incx (if whyS T matx yrx 47 ((((75 * x) + 74) % 65537) % 9) 0 = 0 then sepM T matx ((((75 * x) + 74) % 65537) % 9) else matx) ntx H locs ls rfl (by omega) (by omega) (hbx) (mOk_rise hmx) (htx) (by rw [hf, bk_rise (by omega) (by omega) hmx]) hz (lv_sub hl [0, 4, 5, 6, 7, 8] rfl)
                ·
                  refine lv_aload_n hx hb dX11_book_144 rfl (lv_at hl 5 rfl) ?_
                  refine lv_aload_n hx hb dX11_book_145 rfl (lv_at hl 5 rfl) ?_
                  refine lv_iload hx hb dX11_book_146 (lv_at hl 2 rfl) ?_
                  refine lv_iload hx hb dX11_book_148 (lv_at hl 0 rfl) ?_
                  refine z_bipush hx hb dX11_book_150 (by decide) ?_
                  refine z_irem hx hb dX11_book_152 (by omega) (by omega) ?_
                  refine z_callVw (As := [.int (zI ((((75 * x) + 74) % 65537) % 9)), .int (zI (((((75 * x) + 74) % 65537) / 72) % 9))]) (rest := [.ref md]) (C := RX11) (T := TX11) (N := 23) F hK hz hl (c_X11_sit l D cI cJ cZ md bk nw nt df chk pa rc qu ct ft wn wy nx im ik incx matx (fun _ => -6) T cn ln (-6) (-6) rsx act fse tmx yrx ((((75 * x) + 74) % 65537) % 9) (((((75 * x) + 74) % 65537) / 72) % 9) (by omega) (by first | assumption | omega) (by assumption) (by omega)) (cwV 2 hts gX11_book_X11_sit rfl rfl rfl (by decide +kernel) ⟨Nat.le_of_ble_eq_true rfl, Nat.le_of_ble_eq_true rfl⟩) rfl 0 rfl [0, 2] rfl rfl (by decide +kernel) rfl rfl (Nat.le_of_ble_eq_true rfl) ⟨Nat.le_of_ble_eq_true rfl, Nat.le_of_ble_eq_true rfl⟩ dX11_book_153 (fun u H locs hu hz => ?_)
                  obtain ⟨r_17, mat1_18⟩ := u
                  have hu : r_17 = whyS T matx yrx 38 ((((75 * x) + 74) % 65537) % 9) (((((75 * x) + 74) % 65537) / 72) % 9) ∧ mat1_18 = (if whyS T matx yrx 38 ((((75 * x) + 74) % 65537) % 9) (((((75 * x) + 74) % 65537) / 72) % 9) = 0 then seaM T matx ((((75 * x) + 74) % 65537) % 9) (((((75 * x) + 74) % 65537) / 72) % 9) else matx) := hu
                  obtain ⟨g153_0, g153_1⟩ := hu
                  have g153_0 := g153_0.symm
                  subst g153_0
                  have g153_1 := g153_1.symm
                  subst g153_1
                  have hz : zH D (zF ws0) H0 [(md, .inr (9, [.ref bk, .ref nw, .ref nt, .int (zI T), .ref df, .int (zI cn), .ref chk, .int (zI ln), .ref pa, .int (zI (-6)), .int (zI (-6)), .int (zI rsx), .int (zI act), .int (zI fse), .ref rc, .ref qu, .ref ct, .ref ft, .ref wn, .ref wy, .ref nx, .ref im, .ref ik])), (bk, .inl (cI, 29, .inl (zA (nwS inc mat kd tm yr)))), (nw, .inl (cI, 29, .inl (zA (nwS incx (if whyS T matx yrx 38 ((((75 * x) + 74) % 65537) % 9) (((((75 * x) + 74) % 65537) / 72) % 9) = 0 then seaM T matx ((((75 * x) + 74) % 65537) % 9) (((((75 * x) + 74) % 65537) / 72) % 9) else matx) (fun _ => -6) tmx yrx)))), (nt, .inl (cI, 9, .inl (zA ntx))), (df, .inl (cI, 9, .inl (zA dri)))] H locs := hz
                  refine z_put (C := RX11) (T := TX11) (N := 23) (ref := "HornCityModel") (ty := .int) hx hb hts hin_X11_book_X11 hown hK hz tyX11 tyX11_ok nmX11 0 rfl rfl 11 (by decide) (hts _ fl_X11_book_119) rfl rfl (by decide +kernel) rfl rfl (Nat.le_of_ble_eq_true rfl) dX11_book_156 (fun H locs hz => ?_)
                  have hz : zH D (zF ws0) H0 [(md, .inr (9, [.ref bk, .ref nw, .ref nt, .int (zI T), .ref df, .int (zI cn), .ref chk, .int (zI ln), .ref pa, .int (zI (-6)), .int (zI (-6)), .int (zI (whyS T matx yrx 38 ((((75 * x) + 74) % 65537) % 9) (((((75 * x) + 74) % 65537) / 72) % 9))), .int (zI act), .int (zI fse), .ref rc, .ref qu, .ref ct, .ref ft, .ref wn, .ref wy, .ref nx, .ref im, .ref ik])), (bk, .inl (cI, 29, .inl (zA (nwS inc mat kd tm yr)))), (nw, .inl (cI, 29, .inl (zA (nwS incx (if whyS T matx yrx 38 ((((75 * x) + 74) % 65537) % 9) (((((75 * x) + 74) % 65537) / 72) % 9) = 0 then seaM T matx ((((75 * x) + 74) % 65537) % 9) (((((75 * x) + 74) % 65537) / 72) % 9) else matx) (fun _ => -6) tmx yrx)))), (nt, .inl (cI, 9, .inl (zA ntx))), (df, .inl (cI, 9, .inl (zA dri)))] H locs := hz
                  refine lv_goto (tgt := 189) hx hb dX11_book_159 (by decide) ?_
                  refine z_iinc (lv' := [(5, .int (zI (cnt0 + 1))), (8, .int (zI ((((75 * x) + 74) % 65537) / 72))), (7, .int (zI (((((75 * x) + 74) % 65537) / 9) % 8))), (6, .int (zI ((((75 * x) + 74) % 65537) % 9))), (4, .int (zI (((75 * x) + 74) % 65537))), (0, .ref md), (1, .int (zI seed)), (2, .int (zI m0)), (3, .int (zI what))]) hx hb dX11_book_189 hl (k := 4) rfl (Nat.le_of_ble_eq_true rfl) rfl (fun ls hl => ?_)
                  refine lv_goto (tgt := 43) hx hb dX11_book_192 (by decide) ?_
                  exact ih43 _ (by omega) (cnt0 + 1) (((75 * x) + 74) % 65537) (whyS T matx yrx 38 ((((75 * x) + 74) % 65537) % 9) (((((75 * x) + 74) % 65537) / 72) % 9)) tmx yrx incx (if whyS T matx yrx 38 ((((75 * x) + 74) % 65537) % 9) (((((75 * x) + 74) % 65537) / 72) % 9) = 0 then seaM T matx ((((75 * x) + 74) % 65537) % 9) (((((75 * x) + 74) % 65537) / 72) % 9) else matx) ntx H locs ls rfl (by omega) (by omega) (hbx) (mOk_sit hmx) (htx) (by rw [hf, bk_sit (by omega) (by omega)]) hz (lv_sub hl [0, 4, 5, 6, 7, 8] rfl)
              ·
                refine lv_aload_n hx hb dX11_book_118 rfl (lv_at hl 5 rfl) ?_
                refine lv_aload_n hx hb dX11_book_119 rfl (lv_at hl 5 rfl) ?_
                refine lv_iload hx hb dX11_book_120 (lv_at hl 2 rfl) ?_
                refine z_iconst hx hb dX11_book_122 ?_
                refine lv_iload hx hb dX11_book_123 (lv_at hl 0 rfl) ?_
                refine z_bipush hx hb dX11_book_125 (by decide) ?_
                refine z_irem hx hb dX11_book_127 (by omega) (by omega) ?_
                refine z_isub hx hb dX11_book_128 ?_
                refine z_callVw (As := [.int (zI ((((75 * x) + 74) % 65537) % 9)), .int (zI ((-1) - (((((75 * x) + 74) % 65537) / 72) % 9)))]) (rest := [.ref md]) (C := RX11) (T := TX11) (N := 23) F hK hz hl (c_X11_turn l D cI cJ cZ md bk nw nt df chk pa rc qu ct ft wn wy nx im ik incx matx (fun _ => -6) T cn ln (-6) (-6) rsx act fse tmx yrx ((((75 * x) + 74) % 65537) % 9) ((-1) - (((((75 * x) + 74) % 65537) / 72) % 9)) (by omega) (by first | assumption | omega) (hbx) (by omega)) (cwV 2 hts gX11_book_X11_turn rfl rfl rfl (by decide +kernel) ⟨Nat.le_of_ble_eq_true rfl, Nat.le_of_ble_eq_true rfl⟩) rfl 0 rfl [0, 2] rfl rfl (by decide +kernel) rfl rfl (Nat.le_of_ble_eq_true rfl) ⟨Nat.le_of_ble_eq_true rfl, Nat.le_of_ble_eq_true rfl⟩ dX11_book_129 (fun u H locs hu hz => ?_)
                obtain ⟨r_19, inc1_20⟩ := u
                have hu : r_19 = (if inS T ((((75 * x) + 74) % 65537) % 9) = true then 0 else 1) ∧ inc1_20 = turI T incx ((((75 * x) + 74) % 65537) % 9) ((-1) - (((((75 * x) + 74) % 65537) / 72) % 9)) := hu
                obtain ⟨g129_0, g129_1⟩ := hu
                have g129_0 := g129_0.symm
                subst g129_0
                have g129_1 := g129_1.symm
                subst g129_1
                have hz : zH D (zF ws0) H0 [(md, .inr (9, [.ref bk, .ref nw, .ref nt, .int (zI T), .ref df, .int (zI cn), .ref chk, .int (zI ln), .ref pa, .int (zI (-6)), .int (zI (-6)), .int (zI rsx), .int (zI act), .int (zI fse), .ref rc, .ref qu, .ref ct, .ref ft, .ref wn, .ref wy, .ref nx, .ref im, .ref ik])), (bk, .inl (cI, 29, .inl (zA (nwS inc mat kd tm yr)))), (nw, .inl (cI, 29, .inl (zA (nwS (turI T incx ((((75 * x) + 74) % 65537) % 9) ((-1) - (((((75 * x) + 74) % 65537) / 72) % 9))) matx (fun _ => -6) tmx yrx)))), (nt, .inl (cI, 9, .inl (zA ntx))), (df, .inl (cI, 9, .inl (zA dri)))] H locs := hz
                refine z_put (C := RX11) (T := TX11) (N := 23) (ref := "HornCityModel") (ty := .int) hx hb hts hin_X11_book_X11 hown hK hz tyX11 tyX11_ok nmX11 0 rfl rfl 11 (by decide) (hts _ fl_X11_book_119) rfl rfl (by decide +kernel) rfl rfl (Nat.le_of_ble_eq_true rfl) dX11_book_132 (fun H locs hz => ?_)
                have hz : zH D (zF ws0) H0 [(md, .inr (9, [.ref bk, .ref nw, .ref nt, .int (zI T), .ref df, .int (zI cn), .ref chk, .int (zI ln), .ref pa, .int (zI (-6)), .int (zI (-6)), .int (zI (if inS T ((((75 * x) + 74) % 65537) % 9) = true then 0 else 1)), .int (zI act), .int (zI fse), .ref rc, .ref qu, .ref ct, .ref ft, .ref wn, .ref wy, .ref nx, .ref im, .ref ik])), (bk, .inl (cI, 29, .inl (zA (nwS inc mat kd tm yr)))), (nw, .inl (cI, 29, .inl (zA (nwS (turI T incx ((((75 * x) + 74) % 65537) % 9) ((-1) - (((((75 * x) + 74) % 65537) / 72) % 9))) matx (fun _ => -6) tmx yrx)))), (nt, .inl (cI, 9, .inl (zA ntx))), (df, .inl (cI, 9, .inl (zA dri)))] H locs := hz
                refine lv_goto (tgt := 189) hx hb dX11_book_135 (by decide) ?_
                refine z_iinc (lv' := [(5, .int (zI (cnt0 + 1))), (8, .int (zI ((((75 * x) + 74) % 65537) / 72))), (7, .int (zI (((((75 * x) + 74) % 65537) / 9) % 8))), (6, .int (zI ((((75 * x) + 74) % 65537) % 9))), (4, .int (zI (((75 * x) + 74) % 65537))), (0, .ref md), (1, .int (zI seed)), (2, .int (zI m0)), (3, .int (zI what))]) hx hb dX11_book_189 hl (k := 4) rfl (Nat.le_of_ble_eq_true rfl) rfl (fun ls hl => ?_)
                refine lv_goto (tgt := 43) hx hb dX11_book_192 (by decide) ?_
                exact ih43 _ (by omega) (cnt0 + 1) (((75 * x) + 74) % 65537) (if inS T ((((75 * x) + 74) % 65537) % 9) = true then 0 else 1) tmx yrx (turI T incx ((((75 * x) + 74) % 65537) % 9) ((-1) - (((((75 * x) + 74) % 65537) / 72) % 9))) matx ntx H locs ls rfl (by omega) (by omega) (turI_bd2 hbx) (hmx) (htx) (by rw [hf, bk_back (by omega) (by omega)]) hz (lv_sub hl [0, 4, 5, 6, 7, 8] rfl)
            ·
              refine lv_aload_n hx hb dX11_book_92 rfl (lv_at hl 5 rfl) ?_
              refine lv_aload_n hx hb dX11_book_93 rfl (lv_at hl 5 rfl) ?_
              refine lv_iload hx hb dX11_book_94 (lv_at hl 2 rfl) ?_
              refine z_iconst hx hb dX11_book_96 ?_
              refine lv_iload hx hb dX11_book_97 (lv_at hl 0 rfl) ?_
              refine z_bipush hx hb dX11_book_99 (by decide) ?_
              refine z_irem hx hb dX11_book_101 (by omega) (by omega) ?_
              refine z_iadd hx hb dX11_book_102 ?_
              refine z_callVw (As := [.int (zI ((((75 * x) + 74) % 65537) % 9)), .int (zI (1 + (((((75 * x) + 74) % 65537) / 72) % 9)))]) (rest := [.ref md]) (C := RX11) (T := TX11) (N := 23) F hK hz hl (c_X11_turn l D cI cJ cZ md bk nw nt df chk pa rc qu ct ft wn wy nx im ik incx matx (fun _ => -6) T cn ln (-6) (-6) rsx act fse tmx yrx ((((75 * x) + 74) % 65537) % 9) (1 + (((((75 * x) + 74) % 65537) / 72) % 9)) (by omega) (by first | assumption | omega) (hbx) (by omega)) (cwV 2 hts gX11_book_X11_turn rfl rfl rfl (by decide +kernel) ⟨Nat.le_of_ble_eq_true rfl, Nat.le_of_ble_eq_true rfl⟩) rfl 0 rfl [0, 2] rfl rfl (by decide +kernel) rfl rfl (Nat.le_of_ble_eq_true rfl) ⟨Nat.le_of_ble_eq_true rfl, Nat.le_of_ble_eq_true rfl⟩ dX11_book_103 (fun u H locs hu hz => ?_)
              obtain ⟨r_21, inc1_22⟩ := u
              have hu : r_21 = (if inS T ((((75 * x) + 74) % 65537) % 9) = true then 0 else 1) ∧ inc1_22 = turI T incx ((((75 * x) + 74) % 65537) % 9) (1 + (((((75 * x) + 74) % 65537) / 72) % 9)) := hu
              obtain ⟨g103_0, g103_1⟩ := hu
              have g103_0 := g103_0.symm
              subst g103_0
              have g103_1 := g103_1.symm
              subst g103_1
              have hz : zH D (zF ws0) H0 [(md, .inr (9, [.ref bk, .ref nw, .ref nt, .int (zI T), .ref df, .int (zI cn), .ref chk, .int (zI ln), .ref pa, .int (zI (-6)), .int (zI (-6)), .int (zI rsx), .int (zI act), .int (zI fse), .ref rc, .ref qu, .ref ct, .ref ft, .ref wn, .ref wy, .ref nx, .ref im, .ref ik])), (bk, .inl (cI, 29, .inl (zA (nwS inc mat kd tm yr)))), (nw, .inl (cI, 29, .inl (zA (nwS (turI T incx ((((75 * x) + 74) % 65537) % 9) (1 + (((((75 * x) + 74) % 65537) / 72) % 9))) matx (fun _ => -6) tmx yrx)))), (nt, .inl (cI, 9, .inl (zA ntx))), (df, .inl (cI, 9, .inl (zA dri)))] H locs := hz
              refine z_put (C := RX11) (T := TX11) (N := 23) (ref := "HornCityModel") (ty := .int) hx hb hts hin_X11_book_X11 hown hK hz tyX11 tyX11_ok nmX11 0 rfl rfl 11 (by decide) (hts _ fl_X11_book_119) rfl rfl (by decide +kernel) rfl rfl (Nat.le_of_ble_eq_true rfl) dX11_book_106 (fun H locs hz => ?_)
              have hz : zH D (zF ws0) H0 [(md, .inr (9, [.ref bk, .ref nw, .ref nt, .int (zI T), .ref df, .int (zI cn), .ref chk, .int (zI ln), .ref pa, .int (zI (-6)), .int (zI (-6)), .int (zI (if inS T ((((75 * x) + 74) % 65537) % 9) = true then 0 else 1)), .int (zI act), .int (zI fse), .ref rc, .ref qu, .ref ct, .ref ft, .ref wn, .ref wy, .ref nx, .ref im, .ref ik])), (bk, .inl (cI, 29, .inl (zA (nwS inc mat kd tm yr)))), (nw, .inl (cI, 29, .inl (zA (nwS (turI T incx ((((75 * x) + 74) % 65537) % 9) (1 + (((((75 * x) + 74) % 65537) / 72) % 9))) matx (fun _ => -6) tmx yrx)))), (nt, .inl (cI, 9, .inl (zA ntx))), (df, .inl (cI, 9, .inl (zA dri)))] H locs := hz
              refine lv_goto (tgt := 189) hx hb dX11_book_109 (by decide) ?_
              refine z_iinc (lv' := [(5, .int (zI (cnt0 + 1))), (8, .int (zI ((((75 * x) + 74) % 65537) / 72))), (7, .int (zI (((((75 * x) + 74) % 65537) / 9) % 8))), (6, .int (zI ((((75 * x) + 74) % 65537) % 9))), (4, .int (zI (((75 * x) + 74) % 65537))), (0, .ref md), (1, .int (zI seed)), (2, .int (zI m0)), (3, .int (zI what))]) hx hb dX11_book_189 hl (k := 4) rfl (Nat.le_of_ble_eq_true rfl) rfl (fun ls hl => ?_)
              refine lv_goto (tgt := 43) hx hb dX11_book_192 (by decide) ?_
              exact ih43 _ (by omega) (cnt0 + 1) (((75 * x) + 74) % 65537) (if inS T ((((75 * x) + 74) % 65537) % 9) = true then 0 else 1) tmx yrx (turI T incx ((((75 * x) + 74) % 65537) % 9) (1 + (((((75 * x) + 74) % 65537) / 72) % 9))) matx ntx H locs ls rfl (by omega) (by omega) (turI_bd2 hbx) (hmx) (htx) (by rw [hf, bk_turn (by omega) (by omega) h1.1]) hz (lv_sub hl [0, 4, 5, 6, 7, 8] rfl)
        exact L43 _ 0 seed rs tm yr inc mat ntf H locs ls rfl (by omega) (by omega) (hbi) (hmo) (hty) (by rw [Int.sub_zero]) hz (lv_sub hl [0, 1, 2, 3, 4, 5] rfl)
      ·
        refine z_bipush hx hb dX11_book_30 (by decide) ?_
        exact hret (((-2) : Int), (nwf : Int → Int), (ntf : Int → Int), (wat : Int), (who : Int), (rs : Int), (fse : Int)) dX11_book_32 (show (-2) = boR T dri inc mat tm yr seed m0 what from (by unfold boR; rw [if_neg (by omega)])) hz
