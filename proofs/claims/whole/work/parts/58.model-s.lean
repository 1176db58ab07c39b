set_option maxRecDepth 20000 in
theorem hin_X11_bring_X11 : ∀ w ∈ u_ws RX11 TX11 23, w ∈ wsX11_bring := by decide +kernel
set_option maxRecDepth 20000 in
theorem fl_X11_bring_28 : Cond.fieldLink RX11 28 "HornCityModel" "reached" "[I" ∈ wsX11_bring := by decide +kernel
set_option maxRecDepth 20000 in
theorem fl_X11_bring_7 : Cond.fieldLink RX11 7 "HornCityModel" "book" "[I" ∈ wsX11_bring := by decide +kernel
set_option maxRecDepth 20000 in
theorem fl_X11_bring_31 : Cond.fieldLink RX11 31 "HornCityModel" "queue" "[I" ∈ wsX11_bring := by decide +kernel
set_option maxHeartbeats 4000000 in
set_option maxRecDepth 100000 in
theorem c_X11_bring (l : Launch) (D : va_G) (cI cJ cZ : ClassId) (md bk nw nt df chk pa rc qu ct ft wn wy nx im ik : Nat) (inc mat kd rcf quf : Int → Int) (T cn ln wat who rs act fse tm yr k to a b c0 what : Int) (hr : (-2147483648 ≤ k ∧ k ≤ 2147483647) ∧ (-2147483648 ≤ to ∧ to ≤ 2147483647) ∧ (-2147483648 ≤ a ∧ a ≤ 2147483647) ∧ (-2147483648 ≤ b ∧ b ≤ 2147483647) ∧ (-2147483648 ≤ c0 ∧ c0 ≤ 2147483647) ∧ (-2147483648 ≤ what ∧ what ≤ 2147483647)) (hT : 0 ≤ T ∧ T < 512) (hbi : zBd inc 9 0 179) : zMw l yX11_bring wsX11_bring (zRm 2) D cI cJ cZ [.ref md, .int (zI k), .int (zI to), .int (zI a), .int (zI b), .int (zI c0), .int (zI what)] [(md, .inr (9, [.ref bk, .ref nw, .ref nt, .int (zI T), .ref df, .int (zI cn), .ref chk, .int (zI ln), .ref pa, .int (zI wat), .int (zI who), .int (zI rs), .int (zI act), .int (zI fse), .ref rc, .ref qu, .ref ct, .ref ft, .ref wn, .ref wy, .ref nx, .ref im, .ref ik])), (bk, .inl (cI, 29, .inl (zA (nwS inc mat kd tm yr)))), (rc, .inl (cI, 180, .inl (zA rcf))), (qu, .inl (cI, 180, .inl (zA quf)))] (S := Int × (Int → Int) × (Int → Int)) (fun u => u.1 = brR T inc k to a b c0 what) (fun u => some (.int (zI u.1))) (fun u => [(md, .inr (9, [.ref bk, .ref nw, .ref nt, .int (zI T), .ref df, .int (zI cn), .ref chk, .int (zI ln), .ref pa, .int (zI wat), .int (zI who), .int (zI rs), .int (zI act), .int (zI fse), .ref rc, .ref qu, .ref ct, .ref ft, .ref wn, .ref wy, .ref nx, .ref im, .ref ik])), (bk, .inl (cI, 29, .inl (zA (nwS inc mat kd tm yr)))), (rc, .inl (cI, 180, .inl (zA u.2.1))), (qu, .inl (cI, 180, .inl (zA u.2.2)))]) := by
  refine zMw_i (cc := cX11_bring) (maxL := 14) (by decide +kernel) rfl (Nat.le_of_ble_eq_true rfl) rfl (fun _ => rfl) ?_
  intro p e s m args below meth c Q H0 ls F hK hz hl hret
  obtain ⟨hx, hb, hml, hown0, hts⟩ := id F
  have hown : s.vm.findClass RX11 = some m.cls := hown0
  obtain ⟨ws0, hw0⟩ : ∃ w : va_W, w = [(md, .inr (9, [.ref bk, .ref nw, .ref nt, .int (zI T), .ref df, .int (zI cn), .ref chk, .int (zI ln), .ref pa, .int (zI wat), .int (zI who), .int (zI rs), .int (zI act), .int (zI fse), .ref rc, .ref qu, .ref ct, .ref ft, .ref wn, .ref wy, .ref nx, .ref im, .ref ik])), (bk, .inl (cI, 29, .inl (zA (nwS inc mat kd tm yr)))), (rc, .inl (cI, 180, .inl (zA rcf))), (qu, .inl (cI, 180, .inl (zA quf)))] := ⟨_, rfl⟩
  rw [← hw0] at hret
  have hz : zH D (zF ws0) H0 [(md, .inr (9, [.ref bk, .ref nw, .ref nt, .int (zI T), .ref df, .int (zI cn), .ref chk, .int (zI ln), .ref pa, .int (zI wat), .int (zI who), .int (zI rs), .int (zI act), .int (zI fse), .ref rc, .ref qu, .ref ct, .ref ft, .ref wn, .ref wy, .ref nx, .ref im, .ref ik])), (bk, .inl (cI, 29, .inl (zA (nwS inc mat kd tm yr)))), (rc, .inl (cI, 180, .inl (zA rcf))), (qu, .inl (cI, 180, .inl (zA quf)))] H0 [] := by rw [hw0]; exact hz
  have hl : lv_has ls 14 [(0, .ref md), (1, .int (zI k)), (2, .int (zI to)), (3, .int (zI a)), (4, .int (zI b)), (5, .int (zI c0)), (6, .int (zI what))] := hl
  refine lv_aload_n hx hb dX11_bring_0 rfl (lv_at hl 0 rfl) ?_
  refine lv_iload_n hx hb dX11_bring_1 rfl (lv_at hl 1 rfl) ?_
  refine z_callVp (As := [.int (zI k)]) (rest := []) (C := RX11) (T := TX11) (N := 23) F hK hz hl (c_X11_isThere l D cI cJ cZ md bk nw nt df chk pa rc qu ct ft wn wy nx im ik T cn ln wat who rs act fse k (by omega) (by first | assumption | omega)) (cwV 1 hts gX11_bring_X11_isThere rfl rfl rfl (by decide +kernel) ⟨Nat.le_of_ble_eq_true rfl, Nat.le_of_ble_eq_true rfl⟩) rfl 0 rfl [0] rfl rfl rfl rfl (Nat.le_of_ble_eq_true rfl) ⟨Nat.le_of_ble_eq_true rfl, Nat.le_of_ble_eq_true rfl⟩ dX11_bring_2 ?_
  refine z_ifb_ne (tgt := 10) hx hb dX11_bring_5 (by decide) (fun h5 => ?_) (fun h5 => ?_)
  ·
    have hkr := inS.rng h5
    have hkr9 : 0 ≤ inc k ∧ inc k < 180 := by have := hbi.ax k hkr; omega
    refine lv_iload_n hx hb dX11_bring_10 rfl (lv_at hl 2 rfl) ?_
    refine z_iconst hx hb dX11_bring_11 ?_
    refine z_sipush hx hb dX11_bring_12 (by decide) ?_
    refine z_callSp (As := [.int (zI to), .int (zI 0), .int (zI 179)]) (rest := []) F hK hz hl (c_X11_in l D cI cJ cZ to 0 179 (by omega)) (va_cwS 3 hts gX11_bring_X11_in rfl rfl rfl (by decide +kernel) ⟨Nat.le_of_ble_eq_true rfl, Nat.le_of_ble_eq_true rfl⟩) [] rfl rfl rfl rfl (Nat.le_of_ble_eq_true rfl) ⟨Nat.le_of_ble_eq_true rfl, Nat.le_of_ble_eq_true rfl⟩ dX11_bring_15 ?_
    refine z_ifb_eq (tgt := 66) hx hb dX11_bring_18 (by decide) (fun h18 => ?_) (fun h18 => ?_)
    ·
      refine z_bipush hx hb dX11_bring_66 (by decide) ?_
      exact hret (((-2) : Int), (rcf : Int → Int), (quf : Int → Int)) dX11_bring_68 (show (-2) = brR T inc k to a b c0 what from (by unfold brR; rw [if_pos h5, if_neg (by omega)])) hz
    ·
      refine lv_iload_n hx hb dX11_bring_21 rfl (lv_at hl 3 rfl) ?_
      refine z_iconst hx hb dX11_bring_22 ?_
      refine z_sipush hx hb dX11_bring_23 (by decide) ?_
      refine z_callSp (As := [.int (zI a), .int (zI 1), .int (zI 179)]) (rest := []) F hK hz hl (c_X11_in l D cI cJ cZ a 1 179 (by omega)) (va_cwS 3 hts gX11_bring_X11_in rfl rfl rfl (by decide +kernel) ⟨Nat.le_of_ble_eq_true rfl, Nat.le_of_ble_eq_true rfl⟩) [] rfl rfl rfl rfl (Nat.le_of_ble_eq_true rfl) ⟨Nat.le_of_ble_eq_true rfl, Nat.le_of_ble_eq_true rfl⟩ dX11_bring_26 ?_
      refine z_ifb_eq (tgt := 66) hx hb dX11_bring_29 (by decide) (fun h29 => ?_) (fun h29 => ?_)
      ·
        refine z_bipush hx hb dX11_bring_66 (by decide) ?_
        exact hret (((-2) : Int), (rcf : Int → Int), (quf : Int → Int)) dX11_bring_68 (show (-2) = brR T inc k to a b c0 what from (by unfold brR; rw [if_pos h5, if_neg (by omega)])) hz
      ·
        refine lv_iload hx hb dX11_bring_32 (lv_at hl 4 rfl) ?_
        refine z_iconst hx hb dX11_bring_34 ?_
        refine z_sipush hx hb dX11_bring_35 (by decide) ?_
        refine z_callSp (As := [.int (zI b), .int (zI 1), .int (zI 179)]) (rest := []) F hK hz hl (c_X11_in l D cI cJ cZ b 1 179 (by omega)) (va_cwS 3 hts gX11_bring_X11_in rfl rfl rfl (by decide +kernel) ⟨Nat.le_of_ble_eq_true rfl, Nat.le_of_ble_eq_true rfl⟩) [] rfl rfl rfl rfl (Nat.le_of_ble_eq_true rfl) ⟨Nat.le_of_ble_eq_true rfl, Nat.le_of_ble_eq_true rfl⟩ dX11_bring_38 ?_
        refine z_ifb_eq (tgt := 66) hx hb dX11_bring_41 (by decide) (fun h41 => ?_) (fun h41 => ?_)
        ·
          refine z_bipush hx hb dX11_bring_66 (by decide) ?_
          exact hret (((-2) : Int), (rcf : Int → Int), (quf : Int → Int)) dX11_bring_68 (show (-2) = brR T inc k to a b c0 what from (by unfold brR; rw [if_pos h5, if_neg (by omega)])) hz
        ·
          refine lv_iload hx hb dX11_bring_44 (lv_at hl 5 rfl) ?_
          refine z_iconst hx hb dX11_bring_46 ?_
          refine z_sipush hx hb dX11_bring_47 (by decide) ?_
          refine z_callSp (As := [.int (zI c0), .int (zI 1), .int (zI 179)]) (rest := []) F hK hz hl (c_X11_in l D cI cJ cZ c0 1 179 (by omega)) (va_cwS 3 hts gX11_bring_X11_in rfl rfl rfl (by decide +kernel) ⟨Nat.le_of_ble_eq_true rfl, Nat.le_of_ble_eq_true rfl⟩) [] rfl rfl rfl rfl (Nat.le_of_ble_eq_true rfl) ⟨Nat.le_of_ble_eq_true rfl, Nat.le_of_ble_eq_true rfl⟩ dX11_bring_50 ?_
          refine z_ifb_eq (tgt := 66) hx hb dX11_bring_53 (by decide) (fun h53 => ?_) (fun h53 => ?_)
          ·
            refine z_bipush hx hb dX11_bring_66 (by decide) ?_
            exact hret (((-2) : Int), (rcf : Int → Int), (quf : Int → Int)) dX11_bring_68 (show (-2) = brR T inc k to a b c0 what from (by unfold brR; rw [if_pos h5, if_neg (by omega)])) hz
          ·
            refine lv_iload hx hb dX11_bring_56 (lv_at hl 6 rfl) ?_
            refine z_iconst hx hb dX11_bring_58 ?_
            refine z_iconst hx hb dX11_bring_59 ?_
            refine z_callSp (As := [.int (zI what), .int (zI 0), .int (zI 1)]) (rest := []) F hK hz hl (c_X11_in l D cI cJ cZ what 0 1 (by omega)) (va_cwS 3 hts gX11_bring_X11_in rfl rfl rfl (by decide +kernel) ⟨Nat.le_of_ble_eq_true rfl, Nat.le_of_ble_eq_true rfl⟩) [] rfl rfl rfl rfl (Nat.le_of_ble_eq_true rfl) ⟨Nat.le_of_ble_eq_true rfl, Nat.le_of_ble_eq_true rfl⟩ dX11_bring_60 ?_
            refine z_ifb_ne (tgt := 69) hx hb dX11_bring_63 (by decide) (fun h63 => ?_) (fun h63 => ?_)
            ·
              refine z_iconst hx hb dX11_bring_69 ?_
              refine lv_istore (lv' := [(7, .int (zI 0)), (0, .ref md), (1, .int (zI k)), (2, .int (zI to)), (3, .int (zI a)), (4, .int (zI b)), (5, .int (zI c0)), (6, .int (zI what))]) hx hb dX11_bring_70 hl (Nat.le_of_ble_eq_true rfl) rfl (fun ls hl => ?_)
              have L72 : ∀ (n : Nat) (v : Int) (rx : Int → Int) (H : Heap) (locs : List Loc) (ls : Array Slot), ((180 - v).toNat = n) → (0 ≤ v ∧ v ≤ 180) → (∀ j, 0 ≤ j → j < v → rx j = (fun _ => -1 : Int → Int) j) → zH D (zF ws0) H0 [(md, .inr (9, [.ref bk, .ref nw, .ref nt, .int (zI T), .ref df, .int (zI cn), .ref chk, .int (zI ln), .ref pa, .int (zI wat), .int (zI who), .int (zI rs), .int (zI act), .int (zI fse), .ref rc, .ref qu, .ref ct, .ref ft, .ref wn, .ref wy, .ref nx, .ref im, .ref ik])), (bk, .inl (cI, 29, .inl (zA (nwS inc mat kd tm yr)))), (rc, .inl (cI, 180, .inl (zA rx))), (qu, .inl (cI, 180, .inl (zA quf)))] H locs → lv_has ls 14 [(7, .int (zI v)), (0, .ref md), (1, .int (zI k)), (2, .int (zI to)), (3, .int (zI a)), (4, .int (zI b)), (5, .int (zI c0)), (6, .int (zI what))] → W p l e (zRm 2) s m args below meth c H locs 0 0 Q (F0 m 72 ls []) := by
                intro n
                refine Nat.strongRecOn n ?_
                intro n ih72 v rx H locs ls hn72 h0 hrx hz hl
                refine lv_iload hx hb dX11_bring_72 (lv_at hl 0 rfl) ?_
                refine z_sipush hx hb dX11_bring_74 (by decide) ?_
                refine z_icmp_ge (tgt := 94) hx hb dX11_bring_77 (by decide) (by omega) (by decide) (fun h77 => ?_) (fun h77 => ?_)
                ·
                  have hz := zH_ext hz 2 (fun _ => -1) rfl (fun j h1 h2 => hrx j h1 (by omega))
                  have hz : zH D (zF ws0) H0 [(md, .inr (9, [.ref bk, .ref nw, .ref nt, .int (zI T), .ref df, .int (zI cn), .ref chk, .int (zI ln), .ref pa, .int (zI wat), .int (zI who), .int (zI rs), .int (zI act), .int (zI fse), .ref rc, .ref qu, .ref ct, .ref ft, .ref wn, .ref wy, .ref nx, .ref im, .ref ik])), (bk, .inl (cI, 29, .inl (zA (nwS inc mat kd tm yr)))), (rc, .inl (cI, 180, .inl (zA (fun _ => -1)))), (qu, .inl (cI, 180, .inl (zA quf)))] H locs := hz
                  refine lv_aload_n hx hb dX11_bring_94 rfl (lv_at hl 1 rfl) ?_
                  refine z_get (C := RX11) (T := TX11) (N := 23) (ref := "HornCityModel") hx hb hts hin_X11_bring_X11 hown hK hz 0 rfl rfl 14 (by decide) (hts _ fl_X11_bring_28) rfl rfl dX11_bring_95 ?_
                  refine lv_aload_n hx hb dX11_bring_98 rfl (lv_at hl 1 rfl) ?_
                  refine z_get (C := RX11) (T := TX11) (N := 23) (ref := "HornCityModel") hx hb hts hin_X11_bring_X11 hown hK hz 0 rfl rfl 0 (by decide) (hts _ fl_X11_bring_7) rfl rfl dX11_bring_99 ?_
                  refine lv_iload_n hx hb dX11_bring_102 rfl (lv_at hl 2 rfl) ?_
                  refine z_iald hx hb hK hz 1 rfl (by omega) (by decide) dX11_bring_103 ?_
                  rw [nwS_i (k := k) (by omega)]
                  have hv103 := (hbi).ax k (by omega)
                  refine z_iconst hx hb dX11_bring_104 ?_
                  refine z_iast hx hb hK hz 2 rfl (by omega) (by decide) dX11_bring_105 (fun H locs hz => ?_)
                  have hz : zH D (zF ws0) H0 [(md, .inr (9, [.ref bk, .ref nw, .ref nt, .int (zI T), .ref df, .int (zI cn), .ref chk, .int (zI ln), .ref pa, .int (zI wat), .int (zI who), .int (zI rs), .int (zI act), .int (zI fse), .ref rc, .ref qu, .ref ct, .ref ft, .ref wn, .ref wy, .ref nx, .ref im, .ref ik])), (bk, .inl (cI, 29, .inl (zA (nwS inc mat kd tm yr)))), (rc, .inl (cI, 180, .inl (zA (zU (fun _ => -1) (inc k) 0)))), (qu, .inl (cI, 180, .inl (zA quf)))] H locs := hz
                  refine lv_aload_n hx hb dX11_bring_106 rfl (lv_at hl 1 rfl) ?_
                  refine z_get (C := RX11) (T := TX11) (N := 23) (ref := "HornCityModel") hx hb hts hin_X11_bring_X11 hown hK hz 0 rfl rfl 15 (by decide) (hts _ fl_X11_bring_31) rfl rfl dX11_bring_107 ?_
                  refine z_iconst hx hb dX11_bring_110 ?_
                  refine lv_aload_n hx hb dX11_bring_111 rfl (lv_at hl 1 rfl) ?_
                  refine z_get (C := RX11) (T := TX11) (N := 23) (ref := "HornCityModel") hx hb hts hin_X11_bring_X11 hown hK hz 0 rfl rfl 0 (by decide) (hts _ fl_X11_bring_7) rfl rfl dX11_bring_112 ?_
                  refine lv_iload_n hx hb dX11_bring_115 rfl (lv_at hl 2 rfl) ?_
                  refine z_iald hx hb hK hz 1 rfl (by omega) (by decide) dX11_bring_116 ?_
                  rw [nwS_i (k := k) (by omega)]
                  have hv116 := (hbi).ax k (by omega)
                  refine z_iast hx hb hK hz 3 rfl (by omega) (by decide) dX11_bring_117 (fun H locs hz => ?_)
                  have hz : zH D (zF ws0) H0 [(md, .inr (9, [.ref bk, .ref nw, .ref nt, .int (zI T), .ref df, .int (zI cn), .ref chk, .int (zI ln), .ref pa, .int (zI wat), .int (zI who), .int (zI rs), .int (zI act), .int (zI fse), .ref rc, .ref qu, .ref ct, .ref ft, .ref wn, .ref wy, .ref nx, .ref im, .ref ik])), (bk, .inl (cI, 29, .inl (zA (nwS inc mat kd tm yr)))), (rc, .inl (cI, 180, .inl (zA (zU (fun _ => -1) (inc k) 0)))), (qu, .inl (cI, 180, .inl (zA (zU quf 0 (inc k)))))] H locs := hz
                  refine z_iconst hx hb dX11_bring_118 ?_
                  refine lv_istore (lv' := [(7, .int (zI 1)), (0, .ref md), (1, .int (zI k)), (2, .int (zI to)), (3, .int (zI a)), (4, .int (zI b)), (5, .int (zI c0)), (6, .int (zI what))]) hx hb dX11_bring_119 hl (Nat.le_of_ble_eq_true rfl) rfl (fun ls hl => ?_)
                  refine z_iconst hx hb dX11_bring_121 ?_
                  refine lv_istore (lv' := [(8, .int (zI 0)), (7, .int (zI 1)), (0, .ref md), (1, .int (zI k)), (2, .int (zI to)), (3, .int (zI a)), (4, .int (zI b)), (5, .int (zI c0)), (6, .int (zI what))]) hx hb dX11_bring_122 hl (Nat.le_of_ble_eq_true rfl) rfl (fun ls hl => ?_)
                  have L124 : ∀ (n : Nat) (i en : Int) (rx qx : Int → Int) (H : Heap) (locs : List Loc) (ls : Array Slot), ((180 - i).toNat = n) → (bfs (dgS a b c0) (inc k) (farM rx) qx i en 0) → (lbs (dgS a b c0) (inc k) (farM rx) qx (labM rx) i en 0) → (∀ j, 0 ≤ j → j < i → ¬ qx j = to) → (zBd rx 180 (-1) 2000) → zH D (zF ws0) H0 [(md, .inr (9, [.ref bk, .ref nw, .ref nt, .int (zI T), .ref df, .int (zI cn), .ref chk, .int (zI ln), .ref pa, .int (zI wat), .int (zI who), .int (zI rs), .int (zI act), .int (zI fse), .ref rc, .ref qu, .ref ct, .ref ft, .ref wn, .ref wy, .ref nx, .ref im, .ref ik])), (bk, .inl (cI, 29, .inl (zA (nwS inc mat kd tm yr)))), (rc, .inl (cI, 180, .inl (zA rx))), (qu, .inl (cI, 180, .inl (zA qx)))] H locs → lv_has ls 14 [(8, .int (zI i)), (7, .int (zI en)), (0, .ref md), (1, .int (zI k)), (2, .int (zI to)), (3, .int (zI a)), (4, .int (zI b)), (5, .int (zI c0)), (6, .int (zI what))] → W p l e (zRm 2) s m args below meth c H locs 0 0 Q (F0 m 124 ls []) := by
                    intro n
                    refine Nat.strongRecOn n ?_
                    intro n ih124 i en rx qx H locs ls hn124 hb1 hl1 hno hrb hz hl
                    have hA := hb1.1
                    refine lv_iload hx hb dX11_bring_124 (lv_at hl 0 rfl) ?_
                    refine lv_iload hx hb dX11_bring_126 (lv_at hl 1 rfl) ?_
                    refine z_icmp_ge (tgt := 317) hx hb dX11_bring_128 (by decide) (by omega) (by omega) (fun h128 => ?_) (fun h128 => ?_)
                    ·
                      have hD := brg_no (dgS_inv a b c0) hkr9 (show 0 ≤ to ∧ to < 180 by omega) hb1 (by omega) hno
                      have hF : firS (dgS a b c0) to (inc k) = -6 := by unfold firS; rw [if_pos (Or.inl hD)]
                      refine z_bipush hx hb dX11_bring_317 (by decide) ?_
                      exact hret (((-6) : Int), (rx : Int → Int), (qx : Int → Int)) dX11_bring_319 (show (-6) = brR T inc k to a b c0 what from (by unfold brR; rw [if_pos h5, if_pos (by omega), show inO T inc k = inc k from if_pos h5, hD, hF]; split <;> rfl)) hz
                    ·
                      refine lv_aload_n hx hb dX11_bring_131 rfl (lv_at hl 2 rfl) ?_
                      refine z_get (C := RX11) (T := TX11) (N := 23) (ref := "HornCityModel") hx hb hts hin_X11_bring_X11 hown hK hz 0 rfl rfl 15 (by decide) (hts _ fl_X11_bring_31) rfl rfl dX11_bring_132 ?_
                      refine lv_iload hx hb dX11_bring_135 (lv_at hl 0 rfl) ?_
                      have hq1 := hb1.2.1 i hA.1 (by omega)
                      refine z_iald hx hb hK hz 3 rfl (by omega) (by decide) dX11_bring_137 ?_
                      refine lv_istore (lv' := [(9, .int (zI (qx i))), (8, .int (zI i)), (7, .int (zI en)), (0, .ref md), (1, .int (zI k)), (2, .int (zI to)), (3, .int (zI a)), (4, .int (zI b)), (5, .int (zI c0)), (6, .int (zI what))]) hx hb dX11_bring_138 hl (Nat.le_of_ble_eq_true rfl) rfl (fun ls hl => ?_)
                      refine lv_aload_n hx hb dX11_bring_140 rfl (lv_at hl 3 rfl) ?_
                      refine z_get (C := RX11) (T := TX11) (N := 23) (ref := "HornCityModel") hx hb hts hin_X11_bring_X11 hown hK hz 0 rfl rfl 14 (by decide) (hts _ fl_X11_bring_28) rfl rfl dX11_bring_141 ?_
                      refine lv_iload hx hb dX11_bring_144 (lv_at hl 0 rfl) ?_
                      refine z_iald hx hb hK hz 2 rfl (by omega) (by decide) dX11_bring_146 ?_
                      have hv146 := (hrb).ax (qx i) (by omega)
                      have hfo := farM_ge (rc := rx) (v := qx i) hq1.2.1
                      refine lv_istore (lv' := [(10, .int (zI (rx (qx i)))), (9, .int (zI (qx i))), (8, .int (zI i)), (7, .int (zI en)), (0, .ref md), (1, .int (zI k)), (2, .int (zI to)), (3, .int (zI a)), (4, .int (zI b)), (5, .int (zI c0)), (6, .int (zI what))]) hx hb dX11_bring_147 hl (Nat.le_of_ble_eq_true rfl) rfl (fun ls hl => ?_)
                      refine lv_iload hx hb dX11_bring_149 (lv_at hl 1 rfl) ?_
                      refine lv_iload_n hx hb dX11_bring_151 rfl (lv_at hl 6 rfl) ?_
                      refine z_icmp_ne (tgt := 186) hx hb dX11_bring_152 (by decide) (by omega) (by omega) (fun h152 => ?_) (fun h152 => ?_)
                      ·
                        refine z_iconst hx hb dX11_bring_186 ?_
                        refine lv_istore (lv' := [(11, .int (zI 0)), (10, .int (zI (rx (qx i)))), (9, .int (zI (qx i))), (8, .int (zI i)), (7, .int (zI en)), (0, .ref md), (1, .int (zI k)), (2, .int (zI to)), (3, .int (zI a)), (4, .int (zI b)), (5, .int (zI c0)), (6, .int (zI what))]) hx hb dX11_bring_187 hl (Nat.le_of_ble_eq_true rfl) rfl (fun ls hl => ?_)
                        have L189 : ∀ (n : Nat) (t en2 : Int) (ry qy : Int → Int) (H : Heap) (locs : List Loc) (ls : Array Slot), ((6 - t).toNat = n) → (0 ≤ t ∧ t ≤ 6) → (i < en2 ∧ qy i = qx i ∧ ry (qx i) = rx (qx i)) → (bfs (dgS a b c0) (inc k) (farM ry) qy i en2 t) → (lbs (dgS a b c0) (inc k) (farM ry) qy (labM ry) i en2 t) → (∀ j, 0 ≤ j → j ≤ i → qy j = qx j) → (zBd ry 180 (-1) 2000) → zH D (zF ws0) H0 [(md, .inr (9, [.ref bk, .ref nw, .ref nt, .int (zI T), .ref df, .int (zI cn), .ref chk, .int (zI ln), .ref pa, .int (zI wat), .int (zI who), .int (zI rs), .int (zI act), .int (zI fse), .ref rc, .ref qu, .ref ct, .ref ft, .ref wn, .ref wy, .ref nx, .ref im, .ref ik])), (bk, .inl (cI, 29, .inl (zA (nwS inc mat kd tm yr)))), (rc, .inl (cI, 180, .inl (zA ry))), (qu, .inl (cI, 180, .inl (zA qy)))] H locs → lv_has ls 14 [(11, .int (zI t)), (10, .int (zI (rx (qx i)))), (9, .int (zI (qx i))), (8, .int (zI i)), (7, .int (zI en2)), (0, .ref md), (1, .int (zI k)), (2, .int (zI to)), (3, .int (zI a)), (4, .int (zI b)), (5, .int (zI c0)), (6, .int (zI what))] → W p l e (zRm 2) s m args below meth c H locs 0 0 Q (F0 m 189 ls []) := by
                          intro n
                          refine Nat.strongRecOn n ?_
                          intro n ih189 t en2 ry qy H locs ls hn189 ht hi2 hb2 hl2 hqq hrb2 hz hl
                          have hA2 := hb2.1
                          refine lv_iload hx hb dX11_bring_189 (lv_at hl 0 rfl) ?_
                          refine z_bipush hx hb dX11_bring_191 (by decide) ?_
                          refine z_icmp_ge (tgt := 311) hx hb dX11_bring_193 (by decide) (by omega) (by decide) (fun h193 => ?_) (fun h193 => ?_)
                          ·
                            refine z_iinc (lv' := [(8, .int (zI (i + 1))), (11, .int (zI t)), (10, .int (zI (rx (qx i)))), (9, .int (zI (qx i))), (7, .int (zI en2)), (0, .ref md), (1, .int (zI k)), (2, .int (zI to)), (3, .int (zI a)), (4, .int (zI b)), (5, .int (zI c0)), (6, .int (zI what))]) hx hb dX11_bring_311 hl (k := 3) rfl (Nat.le_of_ble_eq_true rfl) rfl (fun ls hl => ?_)
                            refine lv_goto (tgt := 124) hx hb dX11_bring_314 (by decide) ?_
                            exact ih124 _ (by omega) (i + 1) en2 ry qy H locs ls rfl (bfs_adv (show bfs (dgS a b c0) (inc k) (farM ry) qy i en2 6 by rwa [show (6 : Int) = t from by omega]) hi2.1) (lbs_adv (show bfs (dgS a b c0) (inc k) (farM ry) qy i en2 6 by rwa [show (6 : Int) = t from by omega]) (show lbs (dgS a b c0) (inc k) (farM ry) qy (labM ry) i en2 6 by rwa [show (6 : Int) = t from by omega]) hi2.1) (fun j h1 h2 => by rw [hqq j h1 (by omega)]; exact if hj : j = i then (by rw [hj]; exact h152) else hno j h1 (by omega)) (hrb2) hz (lv_sub hl [0, 4, 5, 6, 7, 8, 9, 10, 11] rfl)
                          ·
                            refine lv_iload hx hb dX11_bring_196 (lv_at hl 0 rfl) ?_
                            refine z_iconst hx hb dX11_bring_198 ?_
                            refine z_irem hx hb dX11_bring_199 (by omega) (by omega) ?_
                            refine z_if_ne (tgt := 207) hx hb dX11_bring_200 (by decide) (by omega) (fun h200 => ?_) (fun h200 => ?_)
                            ·
                              refine lv_iload hx hb dX11_bring_207 (lv_at hl 0 rfl) ?_
                              refine z_iconst hx hb dX11_bring_209 ?_
                              refine z_irem hx hb dX11_bring_210 (by omega) (by omega) ?_
                              refine z_iconst hx hb dX11_bring_211 ?_
                              refine z_icmp_ne (tgt := 220) hx hb dX11_bring_212 (by decide) (by omega) (by decide) (fun h212 => ?_) (fun h212 => ?_)
                              ·
                                refine lv_iload hx hb dX11_bring_220 (lv_at hl 10 rfl) ?_
                                refine lv_istore (lv' := [(12, .int (zI c0)), (11, .int (zI t)), (10, .int (zI (rx (qx i)))), (9, .int (zI (qx i))), (8, .int (zI i)), (7, .int (zI en2)), (0, .ref md), (1, .int (zI k)), (2, .int (zI to)), (3, .int (zI a)), (4, .int (zI b)), (5, .int (zI c0)), (6, .int (zI what))]) hx hb dX11_bring_222 hl (Nat.le_of_ble_eq_true rfl) rfl (fun ls hl => ?_)
                                refine lv_iload hx hb dX11_bring_224 (lv_at hl 1 rfl) ?_
                                refine z_iconst hx hb dX11_bring_226 ?_
                                refine z_icmp_ge (tgt := 238) hx hb dX11_bring_227 (by decide) (by omega) (by decide) (fun h227 => ?_) (fun h227 => ?_)
                                ·
                                  refine lv_iload hx hb dX11_bring_238 (lv_at hl 3 rfl) ?_
                                  refine lv_iload hx hb dX11_bring_240 (lv_at hl 0 rfl) ?_
                                  refine z_isub hx hb dX11_bring_242 ?_
                                  refine z_callSp (As := [.int (zI ((qx i) - c0))]) (rest := []) F hK hz hl (c_X11_over l D cI cJ cZ ((qx i) - c0) (by omega)) (va_cwS 1 hts gX11_bring_X11_over rfl rfl rfl (by decide +kernel) ⟨Nat.le_of_ble_eq_true rfl, Nat.le_of_ble_eq_true rfl⟩) [] rfl rfl rfl rfl (Nat.le_of_ble_eq_true rfl) ⟨Nat.le_of_ble_eq_true rfl, Nat.le_of_ble_eq_true rfl⟩ dX11_bring_243 ?_
                                  have hdg : dgS a b c0 t = -c0 := by unfold dgS; rw [if_neg (by omega)]; rw [if_neg (by omega)]; rw [if_neg (by omega)]; rw [if_neg (by omega)]; rw [if_neg (by omega)]
                                  have hnx : (((qx i) - c0) % 180) = (nbS (dgS a b c0) (qx i) t) := by unfold nbS; rw [hdg]; rfl
                                  rw [hnx]
                                  have hx1 := nbS_bd (dgS a b c0) (qx i) t
                                  refine lv_istore (lv' := [(13, .int (zI (nbS (dgS a b c0) (qx i) t))), (12, .int (zI c0)), (11, .int (zI t)), (10, .int (zI (rx (qx i)))), (9, .int (zI (qx i))), (8, .int (zI i)), (7, .int (zI en2)), (0, .ref md), (1, .int (zI k)), (2, .int (zI to)), (3, .int (zI a)), (4, .int (zI b)), (5, .int (zI c0)), (6, .int (zI what))]) hx hb dX11_bring_246 hl (Nat.le_of_ble_eq_true rfl) rfl (fun ls hl => ?_)
                                  refine lv_aload_n hx hb dX11_bring_248 rfl (lv_at hl 7 rfl) ?_
                                  refine z_get (C := RX11) (T := TX11) (N := 23) (ref := "HornCityModel") hx hb hts hin_X11_bring_X11 hown hK hz 0 rfl rfl 14 (by decide) (hts _ fl_X11_bring_28) rfl rfl dX11_bring_249 ?_
                                  refine lv_iload hx hb dX11_bring_252 (lv_at hl 0 rfl) ?_
                                  refine z_iald hx hb hK hz 2 rfl (by omega) (by decide) dX11_bring_254 ?_
                                  have hv254 := (hrb2).ax (nbS (dgS a b c0) (qx i) t) (by omega)
                                  refine z_if_ge (tgt := 305) hx hb dX11_bring_255 (by decide) (by omega) (fun h255 => ?_) (fun h255 => ?_)
                                  ·
                                    refine z_iinc (lv' := [(11, .int (zI (t + 1))), (13, .int (zI (nbS (dgS a b c0) (qx i) t))), (12, .int (zI c0)), (10, .int (zI (rx (qx i)))), (9, .int (zI (qx i))), (8, .int (zI i)), (7, .int (zI en2)), (0, .ref md), (1, .int (zI k)), (2, .int (zI to)), (3, .int (zI a)), (4, .int (zI b)), (5, .int (zI c0)), (6, .int (zI what))]) hx hb dX11_bring_305 hl (k := 2) rfl (Nat.le_of_ble_eq_true rfl) rfl (fun ls hl => ?_)
                                    refine lv_goto (tgt := 189) hx hb dX11_bring_308 (by decide) ?_
                                    exact ih189 _ (by omega) (t + 1) en2 ry qy H locs ls rfl (by omega) (hi2) (bfs_skip hb2 hi2.1 (by omega) (by rw [hi2.2.1]; exact fun q => by have h9 := farM_nn (rc := ry) (v := (nbS (dgS a b c0) (qx i) t)) (by omega); omega)) (lbs_skip hl2) (hqq) (hrb2) hz (lv_sub hl [0, 3, 4, 5, 6, 7, 8, 9, 10, 11, 12, 13] rfl)
                                  ·
                                    have hs9 : farM ry (nbS (dgS a b c0) (qy i) t) = -6 := by rw [hi2.2.1]; exact if_pos (by omega)
                                    have hroom := bfs_room hb2 (nbS_bd (dgS a b c0) (qy i) t) hs9
                                    have hfo9 : farM ry (qx i) = rx (qx i) / 10 := by (have h9 := farM_nn (rc := ry) (v := qx i) (by rw [hi2.2.2]; exact hfo.1)); rw [h9.2, hi2.2.2]
                                    have hqx9 : ¬ qx i = (nbS (dgS a b c0) (qx i) t) := fun q => by (have h9 := hi2.2.2; rw [q] at h9; have h8 := hfo.1; rw [q] at h8; omega)
                                    refine lv_aload_n hx hb dX11_bring_258 rfl (lv_at hl 7 rfl) ?_
                                    refine z_get (C := RX11) (T := TX11) (N := 23) (ref := "HornCityModel") hx hb hts hin_X11_bring_X11 hown hK hz 0 rfl rfl 14 (by decide) (hts _ fl_X11_bring_28) rfl rfl dX11_bring_259 ?_
                                    refine lv_iload hx hb dX11_bring_262 (lv_at hl 0 rfl) ?_
                                    refine z_bipush hx hb dX11_bring_264 (by decide) ?_
                                    refine lv_iload hx hb dX11_bring_266 (lv_at hl 3 rfl) ?_
                                    refine z_bipush hx hb dX11_bring_268 (by decide) ?_
                                    refine z_idiv hx hb dX11_bring_270 (by omega) (by omega) ?_
                                    refine z_iconst hx hb dX11_bring_271 ?_
                                    refine z_iadd hx hb dX11_bring_272 ?_
                                    refine z_imul hx hb dX11_bring_273 ?_
                                    refine lv_iload hx hb dX11_bring_274 (lv_at hl 3 rfl) ?_
                                    refine z_bipush hx hb dX11_bring_276 (by decide) ?_
                                    refine z_icmp_ge (tgt := 286) hx hb dX11_bring_278 (by decide) (by omega) (by decide) (fun h278 => ?_) (fun h278 => ?_)
                                    ·
                                      refine lv_iload hx hb dX11_bring_286 (lv_at hl 3 rfl) ?_
                                      refine z_bipush hx hb dX11_bring_288 (by decide) ?_
                                      refine z_irem hx hb dX11_bring_290 (by omega) (by omega) ?_
                                      refine z_iadd hx hb dX11_bring_291 ?_
                                      refine z_iast hx hb hK hz 2 rfl (by omega) (by decide) dX11_bring_292 (fun H locs hz => ?_)
                                      have hz : zH D (zF ws0) H0 [(md, .inr (9, [.ref bk, .ref nw, .ref nt, .int (zI T), .ref df, .int (zI cn), .ref chk, .int (zI ln), .ref pa, .int (zI wat), .int (zI who), .int (zI rs), .int (zI act), .int (zI fse), .ref rc, .ref qu, .ref ct, .ref ft, .ref wn, .ref wy, .ref nx, .ref im, .ref ik])), (bk, .inl (cI, 29, .inl (zA (nwS inc mat kd tm yr)))), (rc, .inl (cI, 180, .inl (zA (zU ry (nbS (dgS a b c0) (qx i) t) ((10 * (((rx (qx i)) / 10) + 1)) + ((rx (qx i)) % 10)))))), (qu, .inl (cI, 180, .inl (zA qy)))] H locs := hz
                                      refine lv_aload_n hx hb dX11_bring_293 rfl (lv_at hl 7 rfl) ?_
                                      refine z_get (C := RX11) (T := TX11) (N := 23) (ref := "HornCityModel") hx hb hts hin_X11_bring_X11 hown hK hz 0 rfl rfl 15 (by decide) (hts _ fl_X11_bring_31) rfl rfl dX11_bring_294 ?_
                                      refine lv_iload hx hb dX11_bring_297 (lv_at hl 6 rfl) ?_
                                      refine lv_iload hx hb dX11_bring_299 (lv_at hl 0 rfl) ?_
                                      refine z_iast hx hb hK hz 3 rfl (by omega) (by decide) dX11_bring_301 (fun H locs hz => ?_)
                                      have hz : zH D (zF ws0) H0 [(md, .inr (9, [.ref bk, .ref nw, .ref nt, .int (zI T), .ref df, .int (zI cn), .ref chk, .int (zI ln), .ref pa, .int (zI wat), .int (zI who), .int (zI rs), .int (zI act), .int (zI fse), .ref rc, .ref qu, .ref ct, .ref ft, .ref wn, .ref wy, .ref nx, .ref im, .ref ik])), (bk, .inl (cI, 29, .inl (zA (nwS inc mat kd tm yr)))), (rc, .inl (cI, 180, .inl (zA (zU ry (nbS (dgS a b c0) (qx i) t) ((10 * (((rx (qx i)) / 10) + 1)) + ((rx (qx i)) % 10)))))), (qu, .inl (cI, 180, .inl (zA (zU qy en2 (nbS (dgS a b c0) (qx i) t)))))] H locs := hz
                                      refine z_iinc (lv' := [(7, .int (zI (en2 + 1))), (13, .int (zI (nbS (dgS a b c0) (qx i) t))), (12, .int (zI c0)), (11, .int (zI t)), (10, .int (zI (rx (qx i)))), (9, .int (zI (qx i))), (8, .int (zI i)), (0, .ref md), (1, .int (zI k)), (2, .int (zI to)), (3, .int (zI a)), (4, .int (zI b)), (5, .int (zI c0)), (6, .int (zI what))]) hx hb dX11_bring_302 hl (k := 6) rfl (Nat.le_of_ble_eq_true rfl) rfl (fun ls hl => ?_)
                                      refine z_iinc (lv' := [(11, .int (zI (t + 1))), (7, .int (zI (en2 + 1))), (13, .int (zI (nbS (dgS a b c0) (qx i) t))), (12, .int (zI c0)), (10, .int (zI (rx (qx i)))), (9, .int (zI (qx i))), (8, .int (zI i)), (0, .ref md), (1, .int (zI k)), (2, .int (zI to)), (3, .int (zI a)), (4, .int (zI b)), (5, .int (zI c0)), (6, .int (zI what))]) hx hb dX11_bring_305 hl (k := 3) rfl (Nat.le_of_ble_eq_true rfl) rfl (fun ls hl => ?_)
                                      refine lv_goto (tgt := 189) hx hb dX11_bring_308 (by decide) ?_
                                      exact ih189 _ (by omega) (t + 1) (en2 + 1) (zU ry (nbS (dgS a b c0) (qx i) t) ((10 * (((rx (qx i)) / 10) + 1)) + ((rx (qx i)) % 10))) (zU qy en2 (nbS (dgS a b c0) (qx i) t)) H locs ls rfl (by omega) (⟨by omega, by rw [zU_ne (by omega)]; exact hi2.2.1, by rw [zU_ne hqx9]; exact hi2.2.2⟩) (by have h9 := bfs_new (dgS_inv a b c0) hb2 hi2.1 (by omega) hs9; rw [hi2.2.1, hfo9] at h9; rw [farM_up (by omega) (by omega)]; exact h9) (by have h9 := lbs_new (dgS_inv a b c0) hkr9 hb2 hl2 hi2.1 (by omega) hs9 (l := ((rx (qx i)) % 10)) (by rw [hi2.2.1, hfo9, if_neg (by omega)]; show _ = ry (qx i) % 10; rw [hi2.2.2]); rw [hi2.2.1, hfo9] at h9; rw [farM_up (by omega) (by omega), labM_up (by omega) (by omega)]; exact h9) (fun j h1 h2 => by rw [zU_ne (by omega)]; exact hqq j h1 h2) (hrb2.up (by omega)) hz (lv_sub hl [0, 4, 5, 6, 1, 7, 8, 9, 10, 11, 12, 13] rfl)
                                    ·
                                      refine lv_iload hx hb dX11_bring_281 (lv_at hl 2 rfl) ?_
                                      refine lv_goto (tgt := 291) hx hb dX11_bring_283 (by decide) ?_
                                      refine z_iadd hx hb dX11_bring_291 ?_
                                      refine z_iast hx hb hK hz 2 rfl (by omega) (by decide) dX11_bring_292 (fun H locs hz => ?_)
                                      have hz : zH D (zF ws0) H0 [(md, .inr (9, [.ref bk, .ref nw, .ref nt, .int (zI T), .ref df, .int (zI cn), .ref chk, .int (zI ln), .ref pa, .int (zI wat), .int (zI who), .int (zI rs), .int (zI act), .int (zI fse), .ref rc, .ref qu, .ref ct, .ref ft, .ref wn, .ref wy, .ref nx, .ref im, .ref ik])), (bk, .inl (cI, 29, .inl (zA (nwS inc mat kd tm yr)))), (rc, .inl (cI, 180, .inl (zA (zU ry (nbS (dgS a b c0) (qx i) t) ((10 * (((rx (qx i)) / 10) + 1)) + t))))), (qu, .inl (cI, 180, .inl (zA qy)))] H locs := hz
                                      refine lv_aload_n hx hb dX11_bring_293 rfl (lv_at hl 7 rfl) ?_
                                      refine z_get (C := RX11) (T := TX11) (N := 23) (ref := "HornCityModel") hx hb hts hin_X11_bring_X11 hown hK hz 0 rfl rfl 15 (by decide) (hts _ fl_X11_bring_31) rfl rfl dX11_bring_294 ?_
                                      refine lv_iload hx hb dX11_bring_297 (lv_at hl 6 rfl) ?_
                                      refine lv_iload hx hb dX11_bring_299 (lv_at hl 0 rfl) ?_
                                      refine z_iast hx hb hK hz 3 rfl (by omega) (by decide) dX11_bring_301 (fun H locs hz => ?_)
                                      have hz : zH D (zF ws0) H0 [(md, .inr (9, [.ref bk, .ref nw, .ref nt, .int (zI T), .ref df, .int (zI cn), .ref chk, .int (zI ln), .ref pa, .int (zI wat), .int (zI who), .int (zI rs), .int (zI act), .int (zI fse), .ref rc, .ref qu, .ref ct, .ref ft, .ref wn, .ref wy, .ref nx, .ref im, .ref ik])), (bk, .inl (cI, 29, .inl (zA (nwS inc mat kd tm yr)))), (rc, .inl (cI, 180, .inl (zA (zU ry (nbS (dgS a b c0) (qx i) t) ((10 * (((rx (qx i)) / 10) + 1)) + t))))), (qu, .inl (cI, 180, .inl (zA (zU qy en2 (nbS (dgS a b c0) (qx i) t)))))] H locs := hz
                                      refine z_iinc (lv' := [(7, .int (zI (en2 + 1))), (13, .int (zI (nbS (dgS a b c0) (qx i) t))), (12, .int (zI c0)), (11, .int (zI t)), (10, .int (zI (rx (qx i)))), (9, .int (zI (qx i))), (8, .int (zI i)), (0, .ref md), (1, .int (zI k)), (2, .int (zI to)), (3, .int (zI a)), (4, .int (zI b)), (5, .int (zI c0)), (6, .int (zI what))]) hx hb dX11_bring_302 hl (k := 6) rfl (Nat.le_of_ble_eq_true rfl) rfl (fun ls hl => ?_)
                                      refine z_iinc (lv' := [(11, .int (zI (t + 1))), (7, .int (zI (en2 + 1))), (13, .int (zI (nbS (dgS a b c0) (qx i) t))), (12, .int (zI c0)), (10, .int (zI (rx (qx i)))), (9, .int (zI (qx i))), (8, .int (zI i)), (0, .ref md), (1, .int (zI k)), (2, .int (zI to)), (3, .int (zI a)), (4, .int (zI b)), (5, .int (zI c0)), (6, .int (zI what))]) hx hb dX11_bring_305 hl (k := 3) rfl (Nat.le_of_ble_eq_true rfl) rfl (fun ls hl => ?_)
                                      refine lv_goto (tgt := 189) hx hb dX11_bring_308 (by decide) ?_
                                      exact ih189 _ (by omega) (t + 1) (en2 + 1) (zU ry (nbS (dgS a b c0) (qx i) t) ((10 * (((rx (qx i)) / 10) + 1)) + t)) (zU qy en2 (nbS (dgS a b c0) (qx i) t)) H locs ls rfl (by omega) (⟨by omega, by rw [zU_ne (by omega)]; exact hi2.2.1, by rw [zU_ne hqx9]; exact hi2.2.2⟩) (by have h9 := bfs_new (dgS_inv a b c0) hb2 hi2.1 (by omega) hs9; rw [hi2.2.1, hfo9] at h9; rw [farM_up (by omega) (by omega)]; exact h9) (by have h9 := lbs_new (dgS_inv a b c0) hkr9 hb2 hl2 hi2.1 (by omega) hs9 (l := t) (by rw [hi2.2.1, hfo9, if_pos (by omega)]); rw [hi2.2.1, hfo9] at h9; rw [farM_up (by omega) (by omega), labM_up (by omega) (by omega)]; exact h9) (fun j h1 h2 => by rw [zU_ne (by omega)]; exact hqq j h1 h2) (hrb2.up (by omega)) hz (lv_sub hl [0, 4, 5, 6, 1, 7, 8, 9, 10, 11, 12, 13] rfl)
                                ·
                                  refine lv_iload hx hb dX11_bring_230 (lv_at hl 3 rfl) ?_
                                  refine lv_iload hx hb dX11_bring_232 (lv_at hl 0 rfl) ?_
                                  refine z_iadd hx hb dX11_bring_234 ?_
                                  refine lv_goto (tgt := 243) hx hb dX11_bring_235 (by decide) ?_
                                  refine z_callSp (As := [.int (zI ((qx i) + c0))]) (rest := []) F hK hz hl (c_X11_over l D cI cJ cZ ((qx i) + c0) (by omega)) (va_cwS 1 hts gX11_bring_X11_over rfl rfl rfl (by decide +kernel) ⟨Nat.le_of_ble_eq_true rfl, Nat.le_of_ble_eq_true rfl⟩) [] rfl rfl rfl rfl (Nat.le_of_ble_eq_true rfl) ⟨Nat.le_of_ble_eq_true rfl, Nat.le_of_ble_eq_true rfl⟩ dX11_bring_243 ?_
                                  have hdg : dgS a b c0 t = c0 := by unfold dgS; rw [if_neg (by omega)]; rw [if_neg (by omega)]; rw [if_pos (by omega)]
                                  have hnx : (((qx i) + c0) % 180) = (nbS (dgS a b c0) (qx i) t) := by unfold nbS; rw [hdg]
                                  rw [hnx]
                                  have hx1 := nbS_bd (dgS a b c0) (qx i) t
                                  refine lv_istore (lv' := [(13, .int (zI (nbS (dgS a b c0) (qx i) t))), (12, .int (zI c0)), (11, .int (zI t)), (10, .int (zI (rx (qx i)))), (9, .int (zI (qx i))), (8, .int (zI i)), (7, .int (zI en2)), (0, .ref md), (1, .int (zI k)), (2, .int (zI to)), (3, .int (zI a)), (4, .int (zI b)), (5, .int (zI c0)), (6, .int (zI what))]) hx hb dX11_bring_246 hl (Nat.le_of_ble_eq_true rfl) rfl (fun ls hl => ?_)
                                  refine lv_aload_n hx hb dX11_bring_248 rfl (lv_at hl 7 rfl) ?_
                                  refine z_get (C := RX11) (T := TX11) (N := 23) (ref := "HornCityModel") hx hb hts hin_X11_bring_X11 hown hK hz 0 rfl rfl 14 (by decide) (hts _ fl_X11_bring_28) rfl rfl dX11_bring_249 ?_
                                  refine lv_iload hx hb dX11_bring_252 (lv_at hl 0 rfl) ?_
                                  refine z_iald hx hb hK hz 2 rfl (by omega) (by decide) dX11_bring_254 ?_
                                  have hv254 := (hrb2).ax (nbS (dgS a b c0) (qx i) t) (by omega)
                                  refine z_if_ge (tgt := 305) hx hb dX11_bring_255 (by decide) (by omega) (fun h255 => ?_) (fun h255 => ?_)
                                  ·
                                    refine z_iinc (lv' := [(11, .int (zI (t + 1))), (13, .int (zI (nbS (dgS a b c0) (qx i) t))), (12, .int (zI c0)), (10, .int (zI (rx (qx i)))), (9, .int (zI (qx i))), (8, .int (zI i)), (7, .int (zI en2)), (0, .ref md), (1, .int (zI k)), (2, .int (zI to)), (3, .int (zI a)), (4, .int (zI b)), (5, .int (zI c0)), (6, .int (zI what))]) hx hb dX11_bring_305 hl (k := 2) rfl (Nat.le_of_ble_eq_true rfl) rfl (fun ls hl => ?_)
                                    refine lv_goto (tgt := 189) hx hb dX11_bring_308 (by decide) ?_
                                    exact ih189 _ (by omega) (t + 1) en2 ry qy H locs ls rfl (by omega) (hi2) (bfs_skip hb2 hi2.1 (by omega) (by rw [hi2.2.1]; exact fun q => by have h9 := farM_nn (rc := ry) (v := (nbS (dgS a b c0) (qx i) t)) (by omega); omega)) (lbs_skip hl2) (hqq) (hrb2) hz (lv_sub hl [0, 3, 4, 5, 6, 7, 8, 9, 10, 11, 12, 13] rfl)
                                  ·
                                    have hs9 : farM ry (nbS (dgS a b c0) (qy i) t) = -6 := by rw [hi2.2.1]; exact if_pos (by omega)
                                    have hroom := bfs_room hb2 (nbS_bd (dgS a b c0) (qy i) t) hs9
                                    have hfo9 : farM ry (qx i) = rx (qx i) / 10 := by (have h9 := farM_nn (rc := ry) (v := qx i) (by rw [hi2.2.2]; exact hfo.1)); rw [h9.2, hi2.2.2]
                                    have hqx9 : ¬ qx i = (nbS (dgS a b c0) (qx i) t) := fun q => by (have h9 := hi2.2.2; rw [q] at h9; have h8 := hfo.1; rw [q] at h8; omega)
                                    refine lv_aload_n hx hb dX11_bring_258 rfl (lv_at hl 7 rfl) ?_
                                    refine z_get (C := RX11) (T := TX11) (N := 23) (ref := "HornCityModel") hx hb hts hin_X11_bring_X11 hown hK hz 0 rfl rfl 14 (by decide) (hts _ fl_X11_bring_28) rfl rfl dX11_bring_259 ?_
                                    refine lv_iload hx hb dX11_bring_262 (lv_at hl 0 rfl) ?_
                                    refine z_bipush hx hb dX11_bring_264 (by decide) ?_
                                    refine lv_iload hx hb dX11_bring_266 (lv_at hl 3 rfl) ?_
                                    refine z_bipush hx hb dX11_bring_268 (by decide) ?_
                                    refine z_idiv hx hb dX11_bring_270 (by omega) (by omega) ?_
                                    refine z_iconst hx hb dX11_bring_271 ?_
                                    refine z_iadd hx hb dX11_bring_272 ?_
                                    refine z_imul hx hb dX11_bring_273 ?_
                                    refine lv_iload hx hb dX11_bring_274 (lv_at hl 3 rfl) ?_
                                    refine z_bipush hx hb dX11_bring_276 (by decide) ?_
                                    refine z_icmp_ge (tgt := 286) hx hb dX11_bring_278 (by decide) (by omega) (by decide) (fun h278 => ?_) (fun h278 => ?_)
                                    ·
                                      refine lv_iload hx hb dX11_bring_286 (lv_at hl 3 rfl) ?_
                                      refine z_bipush hx hb dX11_bring_288 (by decide) ?_
                                      refine z_irem hx hb dX11_bring_290 (by omega) (by omega) ?_
                                      refine z_iadd hx hb dX11_bring_291 ?_
                                      refine z_iast hx hb hK hz 2 rfl (by omega) (by decide) dX11_bring_292 (fun H locs hz => ?_)
                                      have hz : zH D (zF ws0) H0 [(md, .inr (9, [.ref bk, .ref nw, .ref nt, .int (zI T), .ref df, .int (zI cn), .ref chk, .int (zI ln), .ref pa, .int (zI wat), .int (zI who), .int (zI rs), .int (zI act), .int (zI fse), .ref rc, .ref qu, .ref ct, .ref ft, .ref wn, .ref wy, .ref nx, .ref im, .ref ik])), (bk, .inl (cI, 29, .inl (zA (nwS inc mat kd tm yr)))), (rc, .inl (cI, 180, .inl (zA (zU ry (nbS (dgS a b c0) (qx i) t) ((10 * (((rx (qx i)) / 10) + 1)) + ((rx (qx i)) % 10)))))), (qu, .inl (cI, 180, .inl (zA qy)))] H locs := hz
                                      refine lv_aload_n hx hb dX11_bring_293 rfl (lv_at hl 7 rfl) ?_
                                      refine z_get (C := RX11) (T := TX11) (N := 23) (ref := "HornCityModel") hx hb hts hin_X11_bring_X11 hown hK hz 0 rfl rfl 15 (by decide) (hts _ fl_X11_bring_31) rfl rfl dX11_bring_294 ?_
                                      refine lv_iload hx hb dX11_bring_297 (lv_at hl 6 rfl) ?_
                                      refine lv_iload hx hb dX11_bring_299 (lv_at hl 0 rfl) ?_
                                      refine z_iast hx hb hK hz 3 rfl (by omega) (by decide) dX11_bring_301 (fun H locs hz => ?_)
                                      have hz : zH D (zF ws0) H0 [(md, .inr (9, [.ref bk, .ref nw, .ref nt, .int (zI T), .ref df, .int (zI cn), .ref chk, .int (zI ln), .ref pa, .int (zI wat), .int (zI who), .int (zI rs), .int (zI act), .int (zI fse), .ref rc, .ref qu, .ref ct, .ref ft, .ref wn, .ref wy, .ref nx, .ref im, .ref ik])), (bk, .inl (cI, 29, .inl (zA (nwS inc mat kd tm yr)))), (rc, .inl (cI, 180, .inl (zA (zU ry (nbS (dgS a b c0) (qx i) t) ((10 * (((rx (qx i)) / 10) + 1)) + ((rx (qx i)) % 10)))))), (qu, .inl (cI, 180, .inl (zA (zU qy en2 (nbS (dgS a b c0) (qx i) t)))))] H locs := hz
                                      refine z_iinc (lv' := [(7, .int (zI (en2 + 1))), (13, .int (zI (nbS (dgS a b c0) (qx i) t))), (12, .int (zI c0)), (11, .int (zI t)), (10, .int (zI (rx (qx i)))), (9, .int (zI (qx i))), (8, .int (zI i)), (0, .ref md), (1, .int (zI k)), (2, .int (zI to)), (3, .int (zI a)), (4, .int (zI b)), (5, .int (zI c0)), (6, .int (zI what))]) hx hb dX11_bring_302 hl (k := 6) rfl (Nat.le_of_ble_eq_true rfl) rfl (fun ls hl => ?_)
                                      refine z_iinc (lv' := [(11, .int (zI (t + 1))), (7, .int (zI (en2 + 1))), (13, .int (zI (nbS (dgS a b c0) (qx i) t))), (12, .int (zI c0)), (10, .int (zI (rx (qx i)))), (9, .int (zI (qx i))), (8, .int (zI i)), (0, .ref md), (1, .int (zI k)), (2, .int (zI to)), (3, .int (zI a)), (4, .int (zI b)), (5, .int (zI c0)), (6, .int (zI what))]) hx hb dX11_bring_305 hl (k := 3) rfl (Nat.le_of_ble_eq_true rfl) rfl (fun ls hl => ?_)
                                      refine lv_goto (tgt := 189) hx hb dX11_bring_308 (by decide) ?_
                                      exact ih189 _ (by omega) (t + 1) (en2 + 1) (zU ry (nbS (dgS a b c0) (qx i) t) ((10 * (((rx (qx i)) / 10) + 1)) + ((rx (qx i)) % 10))) (zU qy en2 (nbS (dgS a b c0) (qx i) t)) H locs ls rfl (by omega) (⟨by omega, by rw [zU_ne (by omega)]; exact hi2.2.1, by rw [zU_ne hqx9]; exact hi2.2.2⟩) (by have h9 := bfs_new (dgS_inv a b c0) hb2 hi2.1 (by omega) hs9; rw [hi2.2.1, hfo9] at h9; rw [farM_up (by omega) (by omega)]; exact h9) (by have h9 := lbs_new (dgS_inv a b c0) hkr9 hb2 hl2 hi2.1 (by omega) hs9 (l := ((rx (qx i)) % 10)) (by rw [hi2.2.1, hfo9, if_neg (by omega)]; show _ = ry (qx i) % 10; rw [hi2.2.2]); rw [hi2.2.1, hfo9] at h9; rw [farM_up (by omega) (by omega), labM_up (by omega) (by omega)]; exact h9) (fun j h1 h2 => by rw [zU_ne (by omega)]; exact hqq j h1 h2) (hrb2.up (by omega)) hz (lv_sub hl [0, 4, 5, 6, 1, 7, 8, 9, 10, 11, 12, 13] rfl)
                                    ·
                                      refine lv_iload hx hb dX11_bring_281 (lv_at hl 2 rfl) ?_
                                      refine lv_goto (tgt := 291) hx hb dX11_bring_283 (by decide) ?_
                                      refine z_iadd hx hb dX11_bring_291 ?_
                                      refine z_iast hx hb hK hz 2 rfl (by omega) (by decide) dX11_bring_292 (fun H locs hz => ?_)
                                      have hz : zH D (zF ws0) H0 [(md, .inr (9, [.ref bk, .ref nw, .ref nt, .int (zI T), .ref df, .int (zI cn), .ref chk, .int (zI ln), .ref pa, .int (zI wat), .int (zI who), .int (zI rs), .int (zI act), .int (zI fse), .ref rc, .ref qu, .ref ct, .ref ft, .ref wn, .ref wy, .ref nx, .ref im, .ref ik])), (bk, .inl (cI, 29, .inl (zA (nwS inc mat kd tm yr)))), (rc, .inl (cI, 180, .inl (zA (zU ry (nbS (dgS a b c0) (qx i) t) ((10 * (((rx (qx i)) / 10) + 1)) + t))))), (qu, .inl (cI, 180, .inl (zA qy)))] H locs := hz
                                      refine lv_aload_n hx hb dX11_bring_293 rfl (lv_at hl 7 rfl) ?_
                                      refine z_get (C := RX11) (T := TX11) (N := 23) (ref := "HornCityModel") hx hb hts hin_X11_bring_X11 hown hK hz 0 rfl rfl 15 (by decide) (hts _ fl_X11_bring_31) rfl rfl dX11_bring_294 ?_
                                      refine lv_iload hx hb dX11_bring_297 (lv_at hl 6 rfl) ?_
                                      refine lv_iload hx hb dX11_bring_299 (lv_at hl 0 rfl) ?_
                                      refine z_iast hx hb hK hz 3 rfl (by omega) (by decide) dX11_bring_301 (fun H locs hz => ?_)
                                      have hz : zH D (zF ws0) H0 [(md, .inr (9, [.ref bk, .ref nw, .ref nt, .int (zI T), .ref df, .int (zI cn), .ref chk, .int (zI ln), .ref pa, .int (zI wat), .int (zI who), .int (zI rs), .int (zI act), .int (zI fse), .ref rc, .ref qu, .ref ct, .ref ft, .ref wn, .ref wy, .ref nx, .ref im, .ref ik])), (bk, .inl (cI, 29, .inl (zA (nwS inc mat kd tm yr)))), (rc, .inl (cI, 180, .inl (zA (zU ry (nbS (dgS a b c0) (qx i) t) ((10 * (((rx (qx i)) / 10) + 1)) + t))))), (qu, .inl (cI, 180, .inl (zA (zU qy en2 (nbS (dgS a b c0) (qx i) t)))))] H locs := hz
                                      refine z_iinc (lv' := [(7, .int (zI (en2 + 1))), (13, .int (zI (nbS (dgS a b c0) (qx i) t))), (12, .int (zI c0)), (11, .int (zI t)), (10, .int (zI (rx (qx i)))), (9, .int (zI (qx i))), (8, .int (zI i)), (0, .ref md), (1, .int (zI k)), (2, .int (zI to)), (3, .int (zI a)), (4, .int (zI b)), (5, .int (zI c0)), (6, .int (zI what))]) hx hb dX11_bring_302 hl (k := 6) rfl (Nat.le_of_ble_eq_true rfl) rfl (fun ls hl => ?_)
                                      refine z_iinc (lv' := [(11, .int (zI (t + 1))), (7, .int (zI (en2 + 1))), (13, .int (zI (nbS (dgS a b c0) (qx i) t))), (12, .int (zI c0)), (10, .int (zI (rx (qx i)))), (9, .int (zI (qx i))), (8, .int (zI i)), (0, .ref md), (1, .int (zI k)), (2, .int (zI to)), (3, .int (zI a)), (4, .int (zI b)), (5, .int (zI c0)), (6, .int (zI what))]) hx hb dX11_bring_305 hl (k := 3) rfl (Nat.le_of_ble_eq_true rfl) rfl (fun ls hl => ?_)
                                      refine lv_goto (tgt := 189) hx hb dX11_bring_308 (by decide) ?_
                                      exact ih189 _ (by omega) (t + 1) (en2 + 1) (zU ry (nbS (dgS a b c0) (qx i) t) ((10 * (((rx (qx i)) / 10) + 1)) + t)) (zU qy en2 (nbS (dgS a b c0) (qx i) t)) H locs ls rfl (by omega) (⟨by omega, by rw [zU_ne (by omega)]; exact hi2.2.1, by rw [zU_ne hqx9]; exact hi2.2.2⟩) (by have h9 := bfs_new (dgS_inv a b c0) hb2 hi2.1 (by omega) hs9; rw [hi2.2.1, hfo9] at h9; rw [farM_up (by omega) (by omega)]; exact h9) (by have h9 := lbs_new (dgS_inv a b c0) hkr9 hb2 hl2 hi2.1 (by omega) hs9 (l := t) (by rw [hi2.2.1, hfo9, if_pos (by omega)]); rw [hi2.2.1, hfo9] at h9; rw [farM_up (by omega) (by omega), labM_up (by omega) (by omega)]; exact h9) (fun j h1 h2 => by rw [zU_ne (by omega)]; exact hqq j h1 h2) (hrb2.up (by omega)) hz (lv_sub hl [0, 4, 5, 6, 1, 7, 8, 9, 10, 11, 12, 13] rfl)
                              ·
                                refine lv_iload hx hb dX11_bring_215 (lv_at hl 9 rfl) ?_
                                refine lv_goto (tgt := 222) hx hb dX11_bring_217 (by decide) ?_
                                refine lv_istore (lv' := [(12, .int (zI b)), (11, .int (zI t)), (10, .int (zI (rx (qx i)))), (9, .int (zI (qx i))), (8, .int (zI i)), (7, .int (zI en2)), (0, .ref md), (1, .int (zI k)), (2, .int (zI to)), (3, .int (zI a)), (4, .int (zI b)), (5, .int (zI c0)), (6, .int (zI what))]) hx hb dX11_bring_222 hl (Nat.le_of_ble_eq_true rfl) rfl (fun ls hl => ?_)
                                refine lv_iload hx hb dX11_bring_224 (lv_at hl 1 rfl) ?_
                                refine z_iconst hx hb dX11_bring_226 ?_
                                refine z_icmp_ge (tgt := 238) hx hb dX11_bring_227 (by decide) (by omega) (by decide) (fun h227 => ?_) (fun h227 => ?_)
                                ·
                                  refine lv_iload hx hb dX11_bring_238 (lv_at hl 3 rfl) ?_
                                  refine lv_iload hx hb dX11_bring_240 (lv_at hl 0 rfl) ?_
                                  refine z_isub hx hb dX11_bring_242 ?_
                                  refine z_callSp (As := [.int (zI ((qx i) - b))]) (rest := []) F hK hz hl (c_X11_over l D cI cJ cZ ((qx i) - b) (by omega)) (va_cwS 1 hts gX11_bring_X11_over rfl rfl rfl (by decide +kernel) ⟨Nat.le_of_ble_eq_true rfl, Nat.le_of_ble_eq_true rfl⟩) [] rfl rfl rfl rfl (Nat.le_of_ble_eq_true rfl) ⟨Nat.le_of_ble_eq_true rfl, Nat.le_of_ble_eq_true rfl⟩ dX11_bring_243 ?_
                                  have hdg : dgS a b c0 t = -b := by unfold dgS; rw [if_neg (by omega)]; rw [if_neg (by omega)]; rw [if_neg (by omega)]; rw [if_neg (by omega)]; rw [if_pos (by omega)]
                                  have hnx : (((qx i) - b) % 180) = (nbS (dgS a b c0) (qx i) t) := by unfold nbS; rw [hdg]; rfl
                                  rw [hnx]
                                  have hx1 := nbS_bd (dgS a b c0) (qx i) t
                                  refine lv_istore (lv' := [(13, .int (zI (nbS (dgS a b c0) (qx i) t))), (12, .int (zI b)), (11, .int (zI t)), (10, .int (zI (rx (qx i)))), (9, .int (zI (qx i))), (8, .int (zI i)), (7, .int (zI en2)), (0, .ref md), (1, .int (zI k)), (2, .int (zI to)), (3, .int (zI a)), (4, .int (zI b)), (5, .int (zI c0)), (6, .int (zI what))]) hx hb dX11_bring_246 hl (Nat.le_of_ble_eq_true rfl) rfl (fun ls hl => ?_)
                                  refine lv_aload_n hx hb dX11_bring_248 rfl (lv_at hl 7 rfl) ?_
                                  refine z_get (C := RX11) (T := TX11) (N := 23) (ref := "HornCityModel") hx hb hts hin_X11_bring_X11 hown hK hz 0 rfl rfl 14 (by decide) (hts _ fl_X11_bring_28) rfl rfl dX11_bring_249 ?_
                                  refine lv_iload hx hb dX11_bring_252 (lv_at hl 0 rfl) ?_
                                  refine z_iald hx hb hK hz 2 rfl (by omega) (by decide) dX11_bring_254 ?_
                                  have hv254 := (hrb2).ax (nbS (dgS a b c0) (qx i) t) (by omega)
                                  refine z_if_ge (tgt := 305) hx hb dX11_bring_255 (by decide) (by omega) (fun h255 => ?_) (fun h255 => ?_)
                                  ·
                                    refine z_iinc (lv' := [(11, .int (zI (t + 1))), (13, .int (zI (nbS (dgS a b c0) (qx i) t))), (12, .int (zI b)), (10, .int (zI (rx (qx i)))), (9, .int (zI (qx i))), (8, .int (zI i)), (7, .int (zI en2)), (0, .ref md), (1, .int (zI k)), (2, .int (zI to)), (3, .int (zI a)), (4, .int (zI b)), (5, .int (zI c0)), (6, .int (zI what))]) hx hb dX11_bring_305 hl (k := 2) rfl (Nat.le_of_ble_eq_true rfl) rfl (fun ls hl => ?_)
                                    refine lv_goto (tgt := 189) hx hb dX11_bring_308 (by decide) ?_
                                    exact ih189 _ (by omega) (t + 1) en2 ry qy H locs ls rfl (by omega) (hi2) (bfs_skip hb2 hi2.1 (by omega) (by rw [hi2.2.1]; exact fun q => by have h9 := farM_nn (rc := ry) (v := (nbS (dgS a b c0) (qx i) t)) (by omega); omega)) (lbs_skip hl2) (hqq) (hrb2) hz (lv_sub hl [0, 3, 4, 5, 6, 7, 8, 9, 10, 11, 12, 13] rfl)
                                  ·
                                    have hs9 : farM ry (nbS (dgS a b c0) (qy i) t) = -6 := by rw [hi2.2.1]; exact if_pos (by omega)
                                    have hroom := bfs_room hb2 (nbS_bd (dgS a b c0) (qy i) t) hs9
                                    have hfo9 : farM ry (qx i) = rx (qx i) / 10 := by (have h9 := farM_nn (rc := ry) (v := qx i) (by rw [hi2.2.2]; exact hfo.1)); rw [h9.2, hi2.2.2]
                                    have hqx9 : ¬ qx i = (nbS (dgS a b c0) (qx i) t) := fun q => by (have h9 := hi2.2.2; rw [q] at h9; have h8 := hfo.1; rw [q] at h8; omega)
                                    refine lv_aload_n hx hb dX11_bring_258 rfl (lv_at hl 7 rfl) ?_
                                    refine z_get (C := RX11) (T := TX11) (N := 23) (ref := "HornCityModel") hx hb hts hin_X11_bring_X11 hown hK hz 0 rfl rfl 14 (by decide) (hts _ fl_X11_bring_28) rfl rfl dX11_bring_259 ?_
                                    refine lv_iload hx hb dX11_bring_262 (lv_at hl 0 rfl) ?_
                                    refine z_bipush hx hb dX11_bring_264 (by decide) ?_
                                    refine lv_iload hx hb dX11_bring_266 (lv_at hl 3 rfl) ?_
                                    refine z_bipush hx hb dX11_bring_268 (by decide) ?_
                                    refine z_idiv hx hb dX11_bring_270 (by omega) (by omega) ?_
                                    refine z_iconst hx hb dX11_bring_271 ?_
                                    refine z_iadd hx hb dX11_bring_272 ?_
                                    refine z_imul hx hb dX11_bring_273 ?_
                                    refine lv_iload hx hb dX11_bring_274 (lv_at hl 3 rfl) ?_
                                    refine z_bipush hx hb dX11_bring_276 (by decide) ?_
                                    refine z_icmp_ge (tgt := 286) hx hb dX11_bring_278 (by decide) (by omega) (by decide) (fun h278 => ?_) (fun h278 => ?_)
                                    ·
                                      refine lv_iload hx hb dX11_bring_286 (lv_at hl 3 rfl) ?_
                                      refine z_bipush hx hb dX11_bring_288 (by decide) ?_
                                      refine z_irem hx hb dX11_bring_290 (by omega) (by omega) ?_
                                      refine z_iadd hx hb dX11_bring_291 ?_
                                      refine z_iast hx hb hK hz 2 rfl (by omega) (by decide) dX11_bring_292 (fun H locs hz => ?_)
                                      have hz : zH D (zF ws0) H0 [(md, .inr (9, [.ref bk, .ref nw, .ref nt, .int (zI T), .ref df, .int (zI cn), .ref chk, .int (zI ln), .ref pa, .int (zI wat), .int (zI who), .int (zI rs), .int (zI act), .int (zI fse), .ref rc, .ref qu, .ref ct, .ref ft, .ref wn, .ref wy, .ref nx, .ref im, .ref ik])), (bk, .inl (cI, 29, .inl (zA (nwS inc mat kd tm yr)))), (rc, .inl (cI, 180, .inl (zA (zU ry (nbS (dgS a b c0) (qx i) t) ((10 * (((rx (qx i)) / 10) + 1)) + ((rx (qx i)) % 10)))))), (qu, .inl (cI, 180, .inl (zA qy)))] H locs := hz
                                      refine lv_aload_n hx hb dX11_bring_293 rfl (lv_at hl 7 rfl) ?_
                                      refine z_get (C := RX11) (T := TX11) (N := 23) (ref := "HornCityModel") hx hb hts hin_X11_bring_X11 hown hK hz 0 rfl rfl 15 (by decide) (hts _ fl_X11_bring_31) rfl rfl dX11_bring_294 ?_
                                      refine lv_iload hx hb dX11_bring_297 (lv_at hl 6 rfl) ?_
                                      refine lv_iload hx hb dX11_bring_299 (lv_at hl 0 rfl) ?_
                                      refine z_iast hx hb hK hz 3 rfl (by omega) (by decide) dX11_bring_301 (fun H locs hz => ?_)
                                      have hz : zH D (zF ws0) H0 [(md, .inr (9, [.ref bk, .ref nw, .ref nt, .int (zI T), .ref df, .int (zI cn), .ref chk, .int (zI ln), .ref pa, .int (zI wat), .int (zI who), .int (zI rs), .int (zI act), .int (zI fse), .ref rc, .ref qu, .ref ct, .ref ft, .ref wn, .ref wy, .ref nx, .ref im, .ref ik])), (bk, .inl (cI, 29, .inl (zA (nwS inc mat kd tm yr)))), (rc, .inl (cI, 180, .inl (zA (zU ry (nbS (dgS a b c0) (qx i) t) ((10 * (((rx (qx i)) / 10) + 1)) + ((rx (qx i)) % 10)))))), (qu, .inl (cI, 180, .inl (zA (zU qy en2 (nbS (dgS a b c0) (qx i) t)))))] H locs := hz
                                      refine z_iinc (lv' := [(7, .int (zI (en2 + 1))), (13, .int (zI (nbS (dgS a b c0) (qx i) t))), (12, .int (zI b)), (11, .int (zI t)), (10, .int (zI (rx (qx i)))), (9, .int (zI (qx i))), (8, .int (zI i)), (0, .ref md), (1, .int (zI k)), (2, .int (zI to)), (3, .int (zI a)), (4, .int (zI b)), (5, .int (zI c0)), (6, .int (zI what))]) hx hb dX11_bring_302 hl (k := 6) rfl (Nat.le_of_ble_eq_true rfl) rfl (fun ls hl => ?_)
                                      refine z_iinc (lv' := [(11, .int (zI (t + 1))), (7, .int (zI (en2 + 1))), (13, .int (zI (nbS (dgS a b c0) (qx i) t))), (12, .int (zI b)), (10, .int (zI (rx (qx i)))), (9, .int (zI (qx i))), (8, .int (zI i)), (0, .ref md), (1, .int (zI k)), (2, .int (zI to)), (3, .int (zI a)), (4, .int (zI b)), (5, .int (zI c0)), (6, .int (zI what))]) hx hb dX11_bring_305 hl (k := 3) rfl (Nat.le_of_ble_eq_true rfl) rfl (fun ls hl => ?_)
                                      refine lv_goto (tgt := 189) hx hb dX11_bring_308 (by decide) ?_
                                      exact ih189 _ (by omega) (t + 1) (en2 + 1) (zU ry (nbS (dgS a b c0) (qx i) t) ((10 * (((rx (qx i)) / 10) + 1)) + ((rx (qx i)) % 10))) (zU qy en2 (nbS (dgS a b c0) (qx i) t)) H locs ls rfl (by omega) (⟨by omega, by rw [zU_ne (by omega)]; exact hi2.2.1, by rw [zU_ne hqx9]; exact hi2.2.2⟩) (by have h9 := bfs_new (dgS_inv a b c0) hb2 hi2.1 (by omega) hs9; rw [hi2.2.1, hfo9] at h9; rw [farM_up (by omega) (by omega)]; exact h9) (by have h9 := lbs_new (dgS_inv a b c0) hkr9 hb2 hl2 hi2.1 (by omega) hs9 (l := ((rx (qx i)) % 10)) (by rw [hi2.2.1, hfo9, if_neg (by omega)]; show _ = ry (qx i) % 10; rw [hi2.2.2]); rw [hi2.2.1, hfo9] at h9; rw [farM_up (by omega) (by omega), labM_up (by omega) (by omega)]; exact h9) (fun j h1 h2 => by rw [zU_ne (by omega)]; exact hqq j h1 h2) (hrb2.up (by omega)) hz (lv_sub hl [0, 4, 5, 6, 1, 7, 8, 9, 10, 11, 12, 13] rfl)
                                    ·
                                      refine lv_iload hx hb dX11_bring_281 (lv_at hl 2 rfl) ?_
                                      refine lv_goto (tgt := 291) hx hb dX11_bring_283 (by decide) ?_
                                      refine z_iadd hx hb dX11_bring_291 ?_
                                      refine z_iast hx hb hK hz 2 rfl (by omega) (by decide) dX11_bring_292 (fun H locs hz => ?_)
                                      have hz : zH D (zF ws0) H0 [(md, .inr (9, [.ref bk, .ref nw, .ref nt, .int (zI T), .ref df, .int (zI cn), .ref chk, .int (zI ln), .ref pa, .int (zI wat), .int (zI who), .int (zI rs), .int (zI act), .int (zI fse), .ref rc, .ref qu, .ref ct, .ref ft, .ref wn, .ref wy, .ref nx, .ref im, .ref ik])), (bk, .inl (cI, 29, .inl (zA (nwS inc mat kd tm yr)))), (rc, .inl (cI, 180, .inl (zA (zU ry (nbS (dgS a b c0) (qx i) t) ((10 * (((rx (qx i)) / 10) + 1)) + t))))), (qu, .inl (cI, 180, .inl (zA qy)))] H locs := hz
                                      refine lv_aload_n hx hb dX11_bring_293 rfl (lv_at hl 7 rfl) ?_
                                      refine z_get (C := RX11) (T := TX11) (N := 23) (ref := "HornCityModel") hx hb hts hin_X11_bring_X11 hown hK hz 0 rfl rfl 15 (by decide) (hts _ fl_X11_bring_31) rfl rfl dX11_bring_294 ?_
                                      refine lv_iload hx hb dX11_bring_297 (lv_at hl 6 rfl) ?_
                                      refine lv_iload hx hb dX11_bring_299 (lv_at hl 0 rfl) ?_
                                      refine z_iast hx hb hK hz 3 rfl (by omega) (by decide) dX11_bring_301 (fun H locs hz => ?_)
                                      have hz : zH D (zF ws0) H0 [(md, .inr (9, [.ref bk, .ref nw, .ref nt, .int (zI T), .ref df, .int (zI cn), .ref chk, .int (zI ln), .ref pa, .int (zI wat), .int (zI who), .int (zI rs), .int (zI act), .int (zI fse), .ref rc, .ref qu, .ref ct, .ref ft, .ref wn, .ref wy, .ref nx, .ref im, .ref ik])), (bk, .inl (cI, 29, .inl (zA (nwS inc mat kd tm yr)))), (rc, .inl (cI, 180, .inl (zA (zU ry (nbS (dgS a b c0) (qx i) t) ((10 * (((rx (qx i)) / 10) + 1)) + t))))), (qu, .inl (cI, 180, .inl (zA (zU qy en2 (nbS (dgS a b c0) (qx i) t)))))] H locs := hz
                                      refine z_iinc (lv' := [(7, .int (zI (en2 + 1))), (13, .int (zI (nbS (dgS a b c0) (qx i) t))), (12, .int (zI b)), (11, .int (zI t)), (10, .int (zI (rx (qx i)))), (9, .int (zI (qx i))), (8, .int (zI i)), (0, .ref md), (1, .int (zI k)), (2, .int (zI to)), (3, .int (zI a)), (4, .int (zI b)), (5, .int (zI c0)), (6, .int (zI what))]) hx hb dX11_bring_302 hl (k := 6) rfl (Nat.le_of_ble_eq_true rfl) rfl (fun ls hl => ?_)
                                      refine z_iinc (lv' := [(11, .int (zI (t + 1))), (7, .int (zI (en2 + 1))), (13, .int (zI (nbS (dgS a b c0) (qx i) t))), (12, .int (zI b)), (10, .int (zI (rx (qx i)))), (9, .int (zI (qx i))), (8, .int (zI i)), (0, .ref md), (1, .int (zI k)), (2, .int (zI to)), (3, .int (zI a)), (4, .int (zI b)), (5, .int (zI c0)), (6, .int (zI what))]) hx hb dX11_bring_305 hl (k := 3) rfl (Nat.le_of_ble_eq_true rfl) rfl (fun ls hl => ?_)
                                      refine lv_goto (tgt := 189) hx hb dX11_bring_308 (by decide) ?_
                                      exact ih189 _ (by omega) (t + 1) (en2 + 1) (zU ry (nbS (dgS a b c0) (qx i) t) ((10 * (((rx (qx i)) / 10) + 1)) + t)) (zU qy en2 (nbS (dgS a b c0) (qx i) t)) H locs ls rfl (by omega) (⟨by omega, by rw [zU_ne (by omega)]; exact hi2.2.1, by rw [zU_ne hqx9]; exact hi2.2.2⟩) (by have h9 := bfs_new (dgS_inv a b c0) hb2 hi2.1 (by omega) hs9; rw [hi2.2.1, hfo9] at h9; rw [farM_up (by omega) (by omega)]; exact h9) (by have h9 := lbs_new (dgS_inv a b c0) hkr9 hb2 hl2 hi2.1 (by omega) hs9 (l := t) (by rw [hi2.2.1, hfo9, if_pos (by omega)]); rw [hi2.2.1, hfo9] at h9; rw [farM_up (by omega) (by omega), labM_up (by omega) (by omega)]; exact h9) (fun j h1 h2 => by rw [zU_ne (by omega)]; exact hqq j h1 h2) (hrb2.up (by omega)) hz (lv_sub hl [0, 4, 5, 6, 1, 7, 8, 9, 10, 11, 12, 13] rfl)
                                ·
                                  refine lv_iload hx hb dX11_bring_230 (lv_at hl 3 rfl) ?_
                                  refine lv_iload hx hb dX11_bring_232 (lv_at hl 0 rfl) ?_
                                  refine z_iadd hx hb dX11_bring_234 ?_
                                  refine lv_goto (tgt := 243) hx hb dX11_bring_235 (by decide) ?_
                                  refine z_callSp (As := [.int (zI ((qx i) + b))]) (rest := []) F hK hz hl (c_X11_over l D cI cJ cZ ((qx i) + b) (by omega)) (va_cwS 1 hts gX11_bring_X11_over rfl rfl rfl (by decide +kernel) ⟨Nat.le_of_ble_eq_true rfl, Nat.le_of_ble_eq_true rfl⟩) [] rfl rfl rfl rfl (Nat.le_of_ble_eq_true rfl) ⟨Nat.le_of_ble_eq_true rfl, Nat.le_of_ble_eq_true rfl⟩ dX11_bring_243 ?_
                                  have hdg : dgS a b c0 t = b := by unfold dgS; rw [if_neg (by omega)]; rw [if_pos (by omega)]
                                  have hnx : (((qx i) + b) % 180) = (nbS (dgS a b c0) (qx i) t) := by unfold nbS; rw [hdg]
                                  rw [hnx]
                                  have hx1 := nbS_bd (dgS a b c0) (qx i) t
                                  refine lv_istore (lv' := [(13, .int (zI (nbS (dgS a b c0) (qx i) t))), (12, .int (zI b)), (11, .int (zI t)), (10, .int (zI (rx (qx i)))), (9, .int (zI (qx i))), (8, .int (zI i)), (7, .int (zI en2)), (0, .ref md), (1, .int (zI k)), (2, .int (zI to)), (3, .int (zI a)), (4, .int (zI b)), (5, .int (zI c0)), (6, .int (zI what))]) hx hb dX11_bring_246 hl (Nat.le_of_ble_eq_true rfl) rfl (fun ls hl => ?_)
                                  refine lv_aload_n hx hb dX11_bring_248 rfl (lv_at hl 7 rfl) ?_
                                  refine z_get (C := RX11) (T := TX11) (N := 23) (ref := "HornCityModel") hx hb hts hin_X11_bring_X11 hown hK hz 0 rfl rfl 14 (by decide) (hts _ fl_X11_bring_28) rfl rfl dX11_bring_249 ?_
                                  refine lv_iload hx hb dX11_bring_252 (lv_at hl 0 rfl) ?_
                                  refine z_iald hx hb hK hz 2 rfl (by omega) (by decide) dX11_bring_254 ?_
                                  have hv254 := (hrb2).ax (nbS (dgS a b c0) (qx i) t) (by omega)
                                  refine z_if_ge (tgt := 305) hx hb dX11_bring_255 (by decide) (by omega) (fun h255 => ?_) (fun h255 => ?_)
                                  ·
                                    refine z_iinc (lv' := [(11, .int (zI (t + 1))), (13, .int (zI (nbS (dgS a b c0) (qx i) t))), (12, .int (zI b)), (10, .int (zI (rx (qx i)))), (9, .int (zI (qx i))), (8, .int (zI i)), (7, .int (zI en2)), (0, .ref md), (1, .int (zI k)), (2, .int (zI to)), (3, .int (zI a)), (4, .int (zI b)), (5, .int (zI c0)), (6, .int (zI what))]) hx hb dX11_bring_305 hl (k := 2) rfl (Nat.le_of_ble_eq_true rfl) rfl (fun ls hl => ?_)
                                    refine lv_goto (tgt := 189) hx hb dX11_bring_308 (by decide) ?_
                                    exact ih189 _ (by omega) (t + 1) en2 ry qy H locs ls rfl (by omega) (hi2) (bfs_skip hb2 hi2.1 (by omega) (by rw [hi2.2.1]; exact fun q => by have h9 := farM_nn (rc := ry) (v := (nbS (dgS a b c0) (qx i) t)) (by omega); omega)) (lbs_skip hl2) (hqq) (hrb2) hz (lv_sub hl [0, 3, 4, 5, 6, 7, 8, 9, 10, 11, 12, 13] rfl)
                                  ·
                                    have hs9 : farM ry (nbS (dgS a b c0) (qy i) t) = -6 := by rw [hi2.2.1]; exact if_pos (by omega)
                                    have hroom := bfs_room hb2 (nbS_bd (dgS a b c0) (qy i) t) hs9
                                    have hfo9 : farM ry (qx i) = rx (qx i) / 10 := by (have h9 := farM_nn (rc := ry) (v := qx i) (by rw [hi2.2.2]; exact hfo.1)); rw [h9.2, hi2.2.2]
                                    have hqx9 : ¬ qx i = (nbS (dgS a b c0) (qx i) t) := fun q => by (have h9 := hi2.2.2; rw [q] at h9; have h8 := hfo.1; rw [q] at h8; omega)
                                    refine lv_aload_n hx hb dX11_bring_258 rfl (lv_at hl 7 rfl) ?_
                                    refine z_get (C := RX11) (T := TX11) (N := 23) (ref := "HornCityModel") hx hb hts hin_X11_bring_X11 hown hK hz 0 rfl rfl 14 (by decide) (hts _ fl_X11_bring_28) rfl rfl dX11_bring_259 ?_
                                    refine lv_iload hx hb dX11_bring_262 (lv_at hl 0 rfl) ?_
                                    refine z_bipush hx hb dX11_bring_264 (by decide) ?_
                                    refine lv_iload hx hb dX11_bring_266 (lv_at hl 3 rfl) ?_
                                    refine z_bipush hx hb dX11_bring_268 (by decide) ?_
                                    refine z_idiv hx hb dX11_bring_270 (by omega) (by omega) ?_
                                    refine z_iconst hx hb dX11_bring_271 ?_
                                    refine z_iadd hx hb dX11_bring_272 ?_
                                    refine z_imul hx hb dX11_bring_273 ?_
                                    refine lv_iload hx hb dX11_bring_274 (lv_at hl 3 rfl) ?_
                                    refine z_bipush hx hb dX11_bring_276 (by decide) ?_
                                    refine z_icmp_ge (tgt := 286) hx hb dX11_bring_278 (by decide) (by omega) (by decide) (fun h278 => ?_) (fun h278 => ?_)
                                    ·
                                      refine lv_iload hx hb dX11_bring_286 (lv_at hl 3 rfl) ?_
                                      refine z_bipush hx hb dX11_bring_288 (by decide) ?_
                                      refine z_irem hx hb dX11_bring_290 (by omega) (by omega) ?_
                                      refine z_iadd hx hb dX11_bring_291 ?_
                                      refine z_iast hx hb hK hz 2 rfl (by omega) (by decide) dX11_bring_292 (fun H locs hz => ?_)
                                      have hz : zH D (zF ws0) H0 [(md, .inr (9, [.ref bk, .ref nw, .ref nt, .int (zI T), .ref df, .int (zI cn), .ref chk, .int (zI ln), .ref pa, .int (zI wat), .int (zI who), .int (zI rs), .int (zI act), .int (zI fse), .ref rc, .ref qu, .ref ct, .ref ft, .ref wn, .ref wy, .ref nx, .ref im, .ref ik])), (bk, .inl (cI, 29, .inl (zA (nwS inc mat kd tm yr)))), (rc, .inl (cI, 180, .inl (zA (zU ry (nbS (dgS a b c0) (qx i) t) ((10 * (((rx (qx i)) / 10) + 1)) + ((rx (qx i)) % 10)))))), (qu, .inl (cI, 180, .inl (zA qy)))] H locs := hz
                                      refine lv_aload_n hx hb dX11_bring_293 rfl (lv_at hl 7 rfl) ?_
                                      refine z_get (C := RX11) (T := TX11) (N := 23) (ref := "HornCityModel") hx hb hts hin_X11_bring_X11 hown hK hz 0 rfl rfl 15 (by decide) (hts _ fl_X11_bring_31) rfl rfl dX11_bring_294 ?_
                                      refine lv_iload hx hb dX11_bring_297 (lv_at hl 6 rfl) ?_
                                      refine lv_iload hx hb dX11_bring_299 (lv_at hl 0 rfl) ?_
                                      refine z_iast hx hb hK hz 3 rfl (by omega) (by decide) dX11_bring_301 (fun H locs hz => ?_)
                                      have hz : zH D (zF ws0) H0 [(md, .inr (9, [.ref bk, .ref nw, .ref nt, .int (zI T), .ref df, .int (zI cn), .ref chk, .int (zI ln), .ref pa, .int (zI wat), .int (zI who), .int (zI rs), .int (zI act), .int (zI fse), .ref rc, .ref qu, .ref ct, .ref ft, .ref wn, .ref wy, .ref nx, .ref im, .ref ik])), (bk, .inl (cI, 29, .inl (zA (nwS inc mat kd tm yr)))), (rc, .inl (cI, 180, .inl (zA (zU ry (nbS (dgS a b c0) (qx i) t) ((10 * (((rx (qx i)) / 10) + 1)) + ((rx (qx i)) % 10)))))), (qu, .inl (cI, 180, .inl (zA (zU qy en2 (nbS (dgS a b c0) (qx i) t)))))] H locs := hz
                                      refine z_iinc (lv' := [(7, .int (zI (en2 + 1))), (13, .int (zI (nbS (dgS a b c0) (qx i) t))), (12, .int (zI b)), (11, .int (zI t)), (10, .int (zI (rx (qx i)))), (9, .int (zI (qx i))), (8, .int (zI i)), (0, .ref md), (1, .int (zI k)), (2, .int (zI to)), (3, .int (zI a)), (4, .int (zI b)), (5, .int (zI c0)), (6, .int (zI what))]) hx hb dX11_bring_302 hl (k := 6) rfl (Nat.le_of_ble_eq_true rfl) rfl (fun ls hl => ?_)
                                      refine z_iinc (lv' := [(11, .int (zI (t + 1))), (7, .int (zI (en2 + 1))), (13, .int (zI (nbS (dgS a b c0) (qx i) t))), (12, .int (zI b)), (10, .int (zI (rx (qx i)))), (9, .int (zI (qx i))), (8, .int (zI i)), (0, .ref md), (1, .int (zI k)), (2, .int (zI to)), (3, .int (zI a)), (4, .int (zI b)), (5, .int (zI c0)), (6, .int (zI what))]) hx hb dX11_bring_305 hl (k := 3) rfl (Nat.le_of_ble_eq_true rfl) rfl (fun ls hl => ?_)
                                      refine lv_goto (tgt := 189) hx hb dX11_bring_308 (by decide) ?_
                                      exact ih189 _ (by omega) (t + 1) (en2 + 1) (zU ry (nbS (dgS a b c0) (qx i) t) ((10 * (((rx (qx i)) / 10) + 1)) + ((rx (qx i)) % 10))) (zU qy en2 (nbS (dgS a b c0) (qx i) t)) H locs ls rfl (by omega) (⟨by omega, by rw [zU_ne (by omega)]; exact hi2.2.1, by rw [zU_ne hqx9]; exact hi2.2.2⟩) (by have h9 := bfs_new (dgS_inv a b c0) hb2 hi2.1 (by omega) hs9; rw [hi2.2.1, hfo9] at h9; rw [farM_up (by omega) (by omega)]; exact h9) (by have h9 := lbs_new (dgS_inv a b c0) hkr9 hb2 hl2 hi2.1 (by omega) hs9 (l := ((rx (qx i)) % 10)) (by rw [hi2.2.1, hfo9, if_neg (by omega)]; show _ = ry (qx i) % 10; rw [hi2.2.2]); rw [hi2.2.1, hfo9] at h9; rw [farM_up (by omega) (by omega), labM_up (by omega) (by omega)]; exact h9) (fun j h1 h2 => by rw [zU_ne (by omega)]; exact hqq j h1 h2) (hrb2.up (by omega)) hz (lv_sub hl [0, 4, 5, 6, 1, 7, 8, 9, 10, 11, 12, 13] rfl)
                                    ·
                                      refine lv_iload hx hb dX11_bring_281 (lv_at hl 2 rfl) ?_
                                      refine lv_goto (tgt := 291) hx hb dX11_bring_283 (by decide) ?_
                                      refine z_iadd hx hb dX11_bring_291 ?_
                                      refine z_iast hx hb hK hz 2 rfl (by omega) (by decide) dX11_bring_292 (fun H locs hz => ?_)
                                      have hz : zH D (zF ws0) H0 [(md, .inr (9, [.ref bk, .ref nw, .ref nt, .int (zI T), .ref df, .int (zI cn), .ref chk, .int (zI ln), .ref pa, .int (zI wat), .int (zI who), .int (zI rs), .int (zI act), .int (zI fse), .ref rc, .ref qu, .ref ct, .ref ft, .ref wn, .ref wy, .ref nx, .ref im, .ref ik])), (bk, .inl (cI, 29, .inl (zA (nwS inc mat kd tm yr)))), (rc, .inl (cI, 180, .inl (zA (zU ry (nbS (dgS a b c0) (qx i) t) ((10 * (((rx (qx i)) / 10) + 1)) + t))))), (qu, .inl (cI, 180, .inl (zA qy)))] H locs := hz
                                      refine lv_aload_n hx hb dX11_bring_293 rfl (lv_at hl 7 rfl) ?_
                                      refine z_get (C := RX11) (T := TX11) (N := 23) (ref := "HornCityModel") hx hb hts hin_X11_bring_X11 hown hK hz 0 rfl rfl 15 (by decide) (hts _ fl_X11_bring_31) rfl rfl dX11_bring_294 ?_
                                      refine lv_iload hx hb dX11_bring_297 (lv_at hl 6 rfl) ?_
                                      refine lv_iload hx hb dX11_bring_299 (lv_at hl 0 rfl) ?_
                                      refine z_iast hx hb hK hz 3 rfl (by omega) (by decide) dX11_bring_301 (fun H locs hz => ?_)
                                      have hz : zH D (zF ws0) H0 [(md, .inr (9, [.ref bk, .ref nw, .ref nt, .int (zI T), .ref df, .int (zI cn), .ref chk, .int (zI ln), .ref pa, .int (zI wat), .int (zI who), .int (zI rs), .int (zI act), .int (zI fse), .ref rc, .ref qu, .ref ct, .ref ft, .ref wn, .ref wy, .ref nx, .ref im, .ref ik])), (bk, .inl (cI, 29, .inl (zA (nwS inc mat kd tm yr)))), (rc, .inl (cI, 180, .inl (zA (zU ry (nbS (dgS a b c0) (qx i) t) ((10 * (((rx (qx i)) / 10) + 1)) + t))))), (qu, .inl (cI, 180, .inl (zA (zU qy en2 (nbS (dgS a b c0) (qx i) t)))))] H locs := hz
                                      refine z_iinc (lv' := [(7, .int (zI (en2 + 1))), (13, .int (zI (nbS (dgS a b c0) (qx i) t))), (12, .int (zI b)), (11, .int (zI t)), (10, .int (zI (rx (qx i)))), (9, .int (zI (qx i))), (8, .int (zI i)), (0, .ref md), (1, .int (zI k)), (2, .int (zI to)), (3, .int (zI a)), (4, .int (zI b)), (5, .int (zI c0)), (6, .int (zI what))]) hx hb dX11_bring_302 hl (k := 6) rfl (Nat.le_of_ble_eq_true rfl) rfl (fun ls hl => ?_)
                                      refine z_iinc (lv' := [(11, .int (zI (t + 1))), (7, .int (zI (en2 + 1))), (13, .int (zI (nbS (dgS a b c0) (qx i) t))), (12, .int (zI b)), (10, .int (zI (rx (qx i)))), (9, .int (zI (qx i))), (8, .int (zI i)), (0, .ref md), (1, .int (zI k)), (2, .int (zI to)), (3, .int (zI a)), (4, .int (zI b)), (5, .int (zI c0)), (6, .int (zI what))]) hx hb dX11_bring_305 hl (k := 3) rfl (Nat.le_of_ble_eq_true rfl) rfl (fun ls hl => ?_)
                                      refine lv_goto (tgt := 189) hx hb dX11_bring_308 (by decide) ?_
                                      exact ih189 _ (by omega) (t + 1) (en2 + 1) (zU ry (nbS (dgS a b c0) (qx i) t) ((10 * (((rx (qx i)) / 10) + 1)) + t)) (zU qy en2 (nbS (dgS a b c0) (qx i) t)) H locs ls rfl (by omega) (⟨by omega, by rw [zU_ne (by omega)]; exact hi2.2.1, by rw [zU_ne hqx9]; exact hi2.2.2⟩) (by have h9 := bfs_new (dgS_inv a b c0) hb2 hi2.1 (by omega) hs9; rw [hi2.2.1, hfo9] at h9; rw [farM_up (by omega) (by omega)]; exact h9) (by have h9 := lbs_new (dgS_inv a b c0) hkr9 hb2 hl2 hi2.1 (by omega) hs9 (l := t) (by rw [hi2.2.1, hfo9, if_pos (by omega)]); rw [hi2.2.1, hfo9] at h9; rw [farM_up (by omega) (by omega), labM_up (by omega) (by omega)]; exact h9) (fun j h1 h2 => by rw [zU_ne (by omega)]; exact hqq j h1 h2) (hrb2.up (by omega)) hz (lv_sub hl [0, 4, 5, 6, 1, 7, 8, 9, 10, 11, 12, 13] rfl)
                            ·
                              refine lv_iload_n hx hb dX11_bring_203 rfl (lv_at hl 8 rfl) ?_
                              refine lv_goto (tgt := 222) hx hb dX11_bring_204 (by decide) ?_
                              refine lv_istore (lv' := [(12, .int (zI a)), (11, .int (zI t)), (10, .int (zI (rx (qx i)))), (9, .int (zI (qx i))), (8, .int (zI i)), (7, .int (zI en2)), (0, .ref md), (1, .int (zI k)), (2, .int (zI to)), (3, .int (zI a)), (4, .int (zI b)), (5, .int (zI c0)), (6, .int (zI what))]) hx hb dX11_bring_222 hl (Nat.le_of_ble_eq_true rfl) rfl (fun ls hl => ?_)
                              refine lv_iload hx hb dX11_bring_224 (lv_at hl 1 rfl) ?_
                              refine z_iconst hx hb dX11_bring_226 ?_
                              refine z_icmp_ge (tgt := 238) hx hb dX11_bring_227 (by decide) (by omega) (by decide) (fun h227 => ?_) (fun h227 => ?_)
                              ·
                                refine lv_iload hx hb dX11_bring_238 (lv_at hl 3 rfl) ?_
                                refine lv_iload hx hb dX11_bring_240 (lv_at hl 0 rfl) ?_
                                refine z_isub hx hb dX11_bring_242 ?_
                                refine z_callSp (As := [.int (zI ((qx i) - a))]) (rest := []) F hK hz hl (c_X11_over l D cI cJ cZ ((qx i) - a) (by omega)) (va_cwS 1 hts gX11_bring_X11_over rfl rfl rfl (by decide +kernel) ⟨Nat.le_of_ble_eq_true rfl, Nat.le_of_ble_eq_true rfl⟩) [] rfl rfl rfl rfl (Nat.le_of_ble_eq_true rfl) ⟨Nat.le_of_ble_eq_true rfl, Nat.le_of_ble_eq_true rfl⟩ dX11_bring_243 ?_
                                have hdg : dgS a b c0 t = -a := by unfold dgS; rw [if_neg (by omega)]; rw [if_neg (by omega)]; rw [if_neg (by omega)]; rw [if_pos (by omega)]
                                have hnx : (((qx i) - a) % 180) = (nbS (dgS a b c0) (qx i) t) := by unfold nbS; rw [hdg]; rfl
                                rw [hnx]
                                have hx1 := nbS_bd (dgS a b c0) (qx i) t
                                refine lv_istore (lv' := [(13, .int (zI (nbS (dgS a b c0) (qx i) t))), (12, .int (zI a)), (11, .int (zI t)), (10, .int (zI (rx (qx i)))), (9, .int (zI (qx i))), (8, .int (zI i)), (7, .int (zI en2)), (0, .ref md), (1, .int (zI k)), (2, .int (zI to)), (3, .int (zI a)), (4, .int (zI b)), (5, .int (zI c0)), (6, .int (zI what))]) hx hb dX11_bring_246 hl (Nat.le_of_ble_eq_true rfl) rfl (fun ls hl => ?_)
                                refine lv_aload_n hx hb dX11_bring_248 rfl (lv_at hl 7 rfl) ?_
                                refine z_get (C := RX11) (T := TX11) (N := 23) (ref := "HornCityModel") hx hb hts hin_X11_bring_X11 hown hK hz 0 rfl rfl 14 (by decide) (hts _ fl_X11_bring_28) rfl rfl dX11_bring_249 ?_
                                refine lv_iload hx hb dX11_bring_252 (lv_at hl 0 rfl) ?_
                                refine z_iald hx hb hK hz 2 rfl (by omega) (by decide) dX11_bring_254 ?_
                                have hv254 := (hrb2).ax (nbS (dgS a b c0) (qx i) t) (by omega)
                                refine z_if_ge (tgt := 305) hx hb dX11_bring_255 (by decide) (by omega) (fun h255 => ?_) (fun h255 => ?_)
                                ·
                                  refine z_iinc (lv' := [(11, .int (zI (t + 1))), (13, .int (zI (nbS (dgS a b c0) (qx i) t))), (12, .int (zI a)), (10, .int (zI (rx (qx i)))), (9, .int (zI (qx i))), (8, .int (zI i)), (7, .int (zI en2)), (0, .ref md), (1, .int (zI k)), (2, .int (zI to)), (3, .int (zI a)), (4, .int (zI b)), (5, .int (zI c0)), (6, .int (zI what))]) hx hb dX11_bring_305 hl (k := 2) rfl (Nat.le_of_ble_eq_true rfl) rfl (fun ls hl => ?_)
                                  refine lv_goto (tgt := 189) hx hb dX11_bring_308 (by decide) ?_
                                  exact ih189 _ (by omega) (t + 1) en2 ry qy H locs ls rfl (by omega) (hi2) (bfs_skip hb2 hi2.1 (by omega) (by rw [hi2.2.1]; exact fun q => by have h9 := farM_nn (rc := ry) (v := (nbS (dgS a b c0) (qx i) t)) (by omega); omega)) (lbs_skip hl2) (hqq) (hrb2) hz (lv_sub hl [0, 3, 4, 5, 6, 7, 8, 9, 10, 11, 12, 13] rfl)
                                ·
                                  have hs9 : farM ry (nbS (dgS a b c0) (qy i) t) = -6 := by rw [hi2.2.1]; exact if_pos (by omega)
                                  have hroom := bfs_room hb2 (nbS_bd (dgS a b c0) (qy i) t) hs9
                                  have hfo9 : farM ry (qx i) = rx (qx i) / 10 := by (have h9 := farM_nn (rc := ry) (v := qx i) (by rw [hi2.2.2]; exact hfo.1)); rw [h9.2, hi2.2.2]
                                  have hqx9 : ¬ qx i = (nbS (dgS a b c0) (qx i) t) := fun q => by (have h9 := hi2.2.2; rw [q] at h9; have h8 := hfo.1; rw [q] at h8; omega)
                                  refine lv_aload_n hx hb dX11_bring_258 rfl (lv_at hl 7 rfl) ?_
                                  refine z_get (C := RX11) (T := TX11) (N := 23) (ref := "HornCityModel") hx hb hts hin_X11_bring_X11 hown hK hz 0 rfl rfl 14 (by decide) (hts _ fl_X11_bring_28) rfl rfl dX11_bring_259 ?_
                                  refine lv_iload hx hb dX11_bring_262 (lv_at hl 0 rfl) ?_
                                  refine z_bipush hx hb dX11_bring_264 (by decide) ?_
                                  refine lv_iload hx hb dX11_bring_266 (lv_at hl 3 rfl) ?_
                                  refine z_bipush hx hb dX11_bring_268 (by decide) ?_
                                  refine z_idiv hx hb dX11_bring_270 (by omega) (by omega) ?_
                                  refine z_iconst hx hb dX11_bring_271 ?_
                                  refine z_iadd hx hb dX11_bring_272 ?_
                                  refine z_imul hx hb dX11_bring_273 ?_
                                  refine lv_iload hx hb dX11_bring_274 (lv_at hl 3 rfl) ?_
                                  refine z_bipush hx hb dX11_bring_276 (by decide) ?_
                                  refine z_icmp_ge (tgt := 286) hx hb dX11_bring_278 (by decide) (by omega) (by decide) (fun h278 => ?_) (fun h278 => ?_)
                                  ·
                                    refine lv_iload hx hb dX11_bring_286 (lv_at hl 3 rfl) ?_
                                    refine z_bipush hx hb dX11_bring_288 (by decide) ?_
                                    refine z_irem hx hb dX11_bring_290 (by omega) (by omega) ?_
                                    refine z_iadd hx hb dX11_bring_291 ?_
                                    refine z_iast hx hb hK hz 2 rfl (by omega) (by decide) dX11_bring_292 (fun H locs hz => ?_)
                                    have hz : zH D (zF ws0) H0 [(md, .inr (9, [.ref bk, .ref nw, .ref nt, .int (zI T), .ref df, .int (zI cn), .ref chk, .int (zI ln), .ref pa, .int (zI wat), .int (zI who), .int (zI rs), .int (zI act), .int (zI fse), .ref rc, .ref qu, .ref ct, .ref ft, .ref wn, .ref wy, .ref nx, .ref im, .ref ik])), (bk, .inl (cI, 29, .inl (zA (nwS inc mat kd tm yr)))), (rc, .inl (cI, 180, .inl (zA (zU ry (nbS (dgS a b c0) (qx i) t) ((10 * (((rx (qx i)) / 10) + 1)) + ((rx (qx i)) % 10)))))), (qu, .inl (cI, 180, .inl (zA qy)))] H locs := hz
                                    refine lv_aload_n hx hb dX11_bring_293 rfl (lv_at hl 7 rfl) ?_
                                    refine z_get (C := RX11) (T := TX11) (N := 23) (ref := "HornCityModel") hx hb hts hin_X11_bring_X11 hown hK hz 0 rfl rfl 15 (by decide) (hts _ fl_X11_bring_31) rfl rfl dX11_bring_294 ?_
                                    refine lv_iload hx hb dX11_bring_297 (lv_at hl 6 rfl) ?_
                                    refine lv_iload hx hb dX11_bring_299 (lv_at hl 0 rfl) ?_
                                    refine z_iast hx hb hK hz 3 rfl (by omega) (by decide) dX11_bring_301 (fun H locs hz => ?_)
                                    have hz : zH D (zF ws0) H0 [(md, .inr (9, [.ref bk, .ref nw, .ref nt, .int (zI T), .ref df, .int (zI cn), .ref chk, .int (zI ln), .ref pa, .int (zI wat), .int (zI who), .int (zI rs), .int (zI act), .int (zI fse), .ref rc, .ref qu, .ref ct, .ref ft, .ref wn, .ref wy, .ref nx, .ref im, .ref ik])), (bk, .inl (cI, 29, .inl (zA (nwS inc mat kd tm yr)))), (rc, .inl (cI, 180, .inl (zA (zU ry (nbS (dgS a b c0) (qx i) t) ((10 * (((rx (qx i)) / 10) + 1)) + ((rx (qx i)) % 10)))))), (qu, .inl (cI, 180, .inl (zA (zU qy en2 (nbS (dgS a b c0) (qx i) t)))))] H locs := hz
                                    refine z_iinc (lv' := [(7, .int (zI (en2 + 1))), (13, .int (zI (nbS (dgS a b c0) (qx i) t))), (12, .int (zI a)), (11, .int (zI t)), (10, .int (zI (rx (qx i)))), (9, .int (zI (qx i))), (8, .int (zI i)), (0, .ref md), (1, .int (zI k)), (2, .int (zI to)), (3, .int (zI a)), (4, .int (zI b)), (5, .int (zI c0)), (6, .int (zI what))]) hx hb dX11_bring_302 hl (k := 6) rfl (Nat.le_of_ble_eq_true rfl) rfl (fun ls hl => ?_)
                                    refine z_iinc (lv' := [(11, .int (zI (t + 1))), (7, .int (zI (en2 + 1))), (13, .int (zI (nbS (dgS a b c0) (qx i) t))), (12, .int (zI a)), (10, .int (zI (rx (qx i)))), (9, .int (zI (qx i))), (8, .int (zI i)), (0, .ref md), (1, .int (zI k)), (2, .int (zI to)), (3, .int (zI a)), (4, .int (zI b)), (5, .int (zI c0)), (6, .int (zI what))]) hx hb dX11_bring_305 hl (k := 3) rfl (Nat.le_of_ble_eq_true rfl) rfl (fun ls hl => ?_)
                                    refine lv_goto (tgt := 189) hx hb dX11_bring_308 (by decide) ?_
                                    exact ih189 _ (by omega) (t + 1) (en2 + 1) (zU ry (nbS (dgS a b c0) (qx i) t) ((10 * (((rx (qx i)) / 10) + 1)) + ((rx (qx i)) % 10))) (zU qy en2 (nbS (dgS a b c0) (qx i) t)) H locs ls rfl (by omega) (⟨by omega, by rw [zU_ne (by omega)]; exact hi2.2.1, by rw [zU_ne hqx9]; exact hi2.2.2⟩) (by have h9 := bfs_new (dgS_inv a b c0) hb2 hi2.1 (by omega) hs9; rw [hi2.2.1, hfo9] at h9; rw [farM_up (by omega) (by omega)]; exact h9) (by have h9 := lbs_new (dgS_inv a b c0) hkr9 hb2 hl2 hi2.1 (by omega) hs9 (l := ((rx (qx i)) % 10)) (by rw [hi2.2.1, hfo9, if_neg (by omega)]; show _ = ry (qx i) % 10; rw [hi2.2.2]); rw [hi2.2.1, hfo9] at h9; rw [farM_up (by omega) (by omega), labM_up (by omega) (by omega)]; exact h9) (fun j h1 h2 => by rw [zU_ne (by omega)]; exact hqq j h1 h2) (hrb2.up (by omega)) hz (lv_sub hl [0, 4, 5, 6, 1, 7, 8, 9, 10, 11, 12, 13] rfl)
                                  ·
                                    refine lv_iload hx hb dX11_bring_281 (lv_at hl 2 rfl) ?_
                                    refine lv_goto (tgt := 291) hx hb dX11_bring_283 (by decide) ?_
                                    refine z_iadd hx hb dX11_bring_291 ?_
                                    refine z_iast hx hb hK hz 2 rfl (by omega) (by decide) dX11_bring_292 (fun H locs hz => ?_)
                                    have hz : zH D (zF ws0) H0 [(md, .inr (9, [.ref bk, .ref nw, .ref nt, .int (zI T), .ref df, .int (zI cn), .ref chk, .int (zI ln), .ref pa, .int (zI wat), .int (zI who), .int (zI rs), .int (zI act), .int (zI fse), .ref rc, .ref qu, .ref ct, .ref ft, .ref wn, .ref wy, .ref nx, .ref im, .ref ik])), (bk, .inl (cI, 29, .inl (zA (nwS inc mat kd tm yr)))), (rc, .inl (cI, 180, .inl (zA (zU ry (nbS (dgS a b c0) (qx i) t) ((10 * (((rx (qx i)) / 10) + 1)) + t))))), (qu, .inl (cI, 180, .inl (zA qy)))] H locs := hz
                                    refine lv_aload_n hx hb dX11_bring_293 rfl (lv_at hl 7 rfl) ?_
                                    refine z_get (C := RX11) (T := TX11) (N := 23) (ref := "HornCityModel") hx hb hts hin_X11_bring_X11 hown hK hz 0 rfl rfl 15 (by decide) (hts _ fl_X11_bring_31) rfl rfl dX11_bring_294 ?_
                                    refine lv_iload hx hb dX11_bring_297 (lv_at hl 6 rfl) ?_
                                    refine lv_iload hx hb dX11_bring_299 (lv_at hl 0 rfl) ?_
                                    refine z_iast hx hb hK hz 3 rfl (by omega) (by decide) dX11_bring_301 (fun H locs hz => ?_)
                                    have hz : zH D (zF ws0) H0 [(md, .inr (9, [.ref bk, .ref nw, .ref nt, .int (zI T), .ref df, .int (zI cn), .ref chk, .int (zI ln), .ref pa, .int (zI wat), .int (zI who), .int (zI rs), .int (zI act), .int (zI fse), .ref rc, .ref qu, .ref ct, .ref ft, .ref wn, .ref wy, .ref nx, .ref im, .ref ik])), (bk, .inl (cI, 29, .inl (zA (nwS inc mat kd tm yr)))), (rc, .inl (cI, 180, .inl (zA (zU ry (nbS (dgS a b c0) (qx i) t) ((10 * (((rx (qx i)) / 10) + 1)) + t))))), (qu, .inl (cI, 180, .inl (zA (zU qy en2 (nbS (dgS a b c0) (qx i) t)))))] H locs := hz
                                    refine z_iinc (lv' := [(7, .int (zI (en2 + 1))), (13, .int (zI (nbS (dgS a b c0) (qx i) t))), (12, .int (zI a)), (11, .int (zI t)), (10, .int (zI (rx (qx i)))), (9, .int (zI (qx i))), (8, .int (zI i)), (0, .ref md), (1, .int (zI k)), (2, .int (zI to)), (3, .int (zI a)), (4, .int (zI b)), (5, .int (zI c0)), (6, .int (zI what))]) hx hb dX11_bring_302 hl (k := 6) rfl (Nat.le_of_ble_eq_true rfl) rfl (fun ls hl => ?_)
                                    refine z_iinc (lv' := [(11, .int (zI (t + 1))), (7, .int (zI (en2 + 1))), (13, .int (zI (nbS (dgS a b c0) (qx i) t))), (12, .int (zI a)), (10, .int (zI (rx (qx i)))), (9, .int (zI (qx i))), (8, .int (zI i)), (0, .ref md), (1, .int (zI k)), (2, .int (zI to)), (3, .int (zI a)), (4, .int (zI b)), (5, .int (zI c0)), (6, .int (zI what))]) hx hb dX11_bring_305 hl (k := 3) rfl (Nat.le_of_ble_eq_true rfl) rfl (fun ls hl => ?_)
                                    refine lv_goto (tgt := 189) hx hb dX11_bring_308 (by decide) ?_
                                    exact ih189 _ (by omega) (t + 1) (en2 + 1) (zU ry (nbS (dgS a b c0) (qx i) t) ((10 * (((rx (qx i)) / 10) + 1)) + t)) (zU qy en2 (nbS (dgS a b c0) (qx i) t)) H locs ls rfl (by omega) (⟨by omega, by rw [zU_ne (by omega)]; exact hi2.2.1, by rw [zU_ne hqx9]; exact hi2.2.2⟩) (by have h9 := bfs_new (dgS_inv a b c0) hb2 hi2.1 (by omega) hs9; rw [hi2.2.1, hfo9] at h9; rw [farM_up (by omega) (by omega)]; exact h9) (by have h9 := lbs_new (dgS_inv a b c0) hkr9 hb2 hl2 hi2.1 (by omega) hs9 (l := t) (by rw [hi2.2.1, hfo9, if_pos (by omega)]); rw [hi2.2.1, hfo9] at h9; rw [farM_up (by omega) (by omega), labM_up (by omega) (by omega)]; exact h9) (fun j h1 h2 => by rw [zU_ne (by omega)]; exact hqq j h1 h2) (hrb2.up (by omega)) hz (lv_sub hl [0, 4, 5, 6, 1, 7, 8, 9, 10, 11, 12, 13] rfl)
                              ·
                                refine lv_iload hx hb dX11_bring_230 (lv_at hl 3 rfl) ?_
                                refine lv_iload hx hb dX11_bring_232 (lv_at hl 0 rfl) ?_
                                refine z_iadd hx hb dX11_bring_234 ?_
                                refine lv_goto (tgt := 243) hx hb dX11_bring_235 (by decide) ?_
                                refine z_callSp (As := [.int (zI ((qx i) + a))]) (rest := []) F hK hz hl (c_X11_over l D cI cJ cZ ((qx i) + a) (by omega)) (va_cwS 1 hts gX11_bring_X11_over rfl rfl rfl (by decide +kernel) ⟨Nat.le_of_ble_eq_true rfl, Nat.le_of_ble_eq_true rfl⟩) [] rfl rfl rfl rfl (Nat.le_of_ble_eq_true rfl) ⟨Nat.le_of_ble_eq_true rfl, Nat.le_of_ble_eq_true rfl⟩ dX11_bring_243 ?_
                                have hdg : dgS a b c0 t = a := by unfold dgS; rw [if_pos (by omega)]
                                have hnx : (((qx i) + a) % 180) = (nbS (dgS a b c0) (qx i) t) := by unfold nbS; rw [hdg]
                                rw [hnx]
                                have hx1 := nbS_bd (dgS a b c0) (qx i) t
                                refine lv_istore (lv' := [(13, .int (zI (nbS (dgS a b c0) (qx i) t))), (12, .int (zI a)), (11, .int (zI t)), (10, .int (zI (rx (qx i)))), (9, .int (zI (qx i))), (8, .int (zI i)), (7, .int (zI en2)), (0, .ref md), (1, .int (zI k)), (2, .int (zI to)), (3, .int (zI a)), (4, .int (zI b)), (5, .int (zI c0)), (6, .int (zI what))]) hx hb dX11_bring_246 hl (Nat.le_of_ble_eq_true rfl) rfl (fun ls hl => ?_)
                                refine lv_aload_n hx hb dX11_bring_248 rfl (lv_at hl 7 rfl) ?_
                                refine z_get (C := RX11) (T := TX11) (N := 23) (ref := "HornCityModel") hx hb hts hin_X11_bring_X11 hown hK hz 0 rfl rfl 14 (by decide) (hts _ fl_X11_bring_28) rfl rfl dX11_bring_249 ?_
                                refine lv_iload hx hb dX11_bring_252 (lv_at hl 0 rfl) ?_
                                refine z_iald hx hb hK hz 2 rfl (by omega) (by decide) dX11_bring_254 ?_
                                have hv254 := (hrb2).ax (nbS (dgS a b c0) (qx i) t) (by omega)
                                refine z_if_ge (tgt := 305) hx hb dX11_bring_255 (by decide) (by omega) (fun h255 => ?_) (fun h255 => ?_)
                                ·
                                  refine z_iinc (lv' := [(11, .int (zI (t + 1))), (13, .int (zI (nbS (dgS a b c0) (qx i) t))), (12, .int (zI a)), (10, .int (zI (rx (qx i)))), (9, .int (zI (qx i))), (8, .int (zI i)), (7, .int (zI en2)), (0, .ref md), (1, .int (zI k)), (2, .int (zI to)), (3, .int (zI a)), (4, .int (zI b)), (5, .int (zI c0)), (6, .int (zI what))]) hx hb dX11_bring_305 hl (k := 2) rfl (Nat.le_of_ble_eq_true rfl) rfl (fun ls hl => ?_)
                                  refine lv_goto (tgt := 189) hx hb dX11_bring_308 (by decide) ?_
                                  exact ih189 _ (by omega) (t + 1) en2 ry qy H locs ls rfl (by omega) (hi2) (bfs_skip hb2 hi2.1 (by omega) (by rw [hi2.2.1]; exact fun q => by have h9 := farM_nn (rc := ry) (v := (nbS (dgS a b c0) (qx i) t)) (by omega); omega)) (lbs_skip hl2) (hqq) (hrb2) hz (lv_sub hl [0, 3, 4, 5, 6, 7, 8, 9, 10, 11, 12, 13] rfl)
                                ·
                                  have hs9 : farM ry (nbS (dgS a b c0) (qy i) t) = -6 := by rw [hi2.2.1]; exact if_pos (by omega)
                                  have hroom := bfs_room hb2 (nbS_bd (dgS a b c0) (qy i) t) hs9
                                  have hfo9 : farM ry (qx i) = rx (qx i) / 10 := by (have h9 := farM_nn (rc := ry) (v := qx i) (by rw [hi2.2.2]; exact hfo.1)); rw [h9.2, hi2.2.2]
                                  have hqx9 : ¬ qx i = (nbS (dgS a b c0) (qx i) t) := fun q => by (have h9 := hi2.2.2; rw [q] at h9; have h8 := hfo.1; rw [q] at h8; omega)
                                  refine lv_aload_n hx hb dX11_bring_258 rfl (lv_at hl 7 rfl) ?_
                                  refine z_get (C := RX11) (T := TX11) (N := 23) (ref := "HornCityModel") hx hb hts hin_X11_bring_X11 hown hK hz 0 rfl rfl 14 (by decide) (hts _ fl_X11_bring_28) rfl rfl dX11_bring_259 ?_
                                  refine lv_iload hx hb dX11_bring_262 (lv_at hl 0 rfl) ?_
                                  refine z_bipush hx hb dX11_bring_264 (by decide) ?_
                                  refine lv_iload hx hb dX11_bring_266 (lv_at hl 3 rfl) ?_
                                  refine z_bipush hx hb dX11_bring_268 (by decide) ?_
                                  refine z_idiv hx hb dX11_bring_270 (by omega) (by omega) ?_
                                  refine z_iconst hx hb dX11_bring_271 ?_
                                  refine z_iadd hx hb dX11_bring_272 ?_
                                  refine z_imul hx hb dX11_bring_273 ?_
                                  refine lv_iload hx hb dX11_bring_274 (lv_at hl 3 rfl) ?_
                                  refine z_bipush hx hb dX11_bring_276 (by decide) ?_
                                  refine z_icmp_ge (tgt := 286) hx hb dX11_bring_278 (by decide) (by omega) (by decide) (fun h278 => ?_) (fun h278 => ?_)
                                  ·
                                    refine lv_iload hx hb dX11_bring_286 (lv_at hl 3 rfl) ?_
                                    refine z_bipush hx hb dX11_bring_288 (by decide) ?_
                                    refine z_irem hx hb dX11_bring_290 (by omega) (by omega) ?_
                                    refine z_iadd hx hb dX11_bring_291 ?_
                                    refine z_iast hx hb hK hz 2 rfl (by omega) (by decide) dX11_bring_292 (fun H locs hz => ?_)
                                    have hz : zH D (zF ws0) H0 [(md, .inr (9, [.ref bk, .ref nw, .ref nt, .int (zI T), .ref df, .int (zI cn), .ref chk, .int (zI ln), .ref pa, .int (zI wat), .int (zI who), .int (zI rs), .int (zI act), .int (zI fse), .ref rc, .ref qu, .ref ct, .ref ft, .ref wn, .ref wy, .ref nx, .ref im, .ref ik])), (bk, .inl (cI, 29, .inl (zA (nwS inc mat kd tm yr)))), (rc, .inl (cI, 180, .inl (zA (zU ry (nbS (dgS a b c0) (qx i) t) ((10 * (((rx (qx i)) / 10) + 1)) + ((rx (qx i)) % 10)))))), (qu, .inl (cI, 180, .inl (zA qy)))] H locs := hz
                                    refine lv_aload_n hx hb dX11_bring_293 rfl (lv_at hl 7 rfl) ?_
                                    refine z_get (C := RX11) (T := TX11) (N := 23) (ref := "HornCityModel") hx hb hts hin_X11_bring_X11 hown hK hz 0 rfl rfl 15 (by decide) (hts _ fl_X11_bring_31) rfl rfl dX11_bring_294 ?_
                                    refine lv_iload hx hb dX11_bring_297 (lv_at hl 6 rfl) ?_
                                    refine lv_iload hx hb dX11_bring_299 (lv_at hl 0 rfl) ?_
                                    refine z_iast hx hb hK hz 3 rfl (by omega) (by decide) dX11_bring_301 (fun H locs hz => ?_)
                                    have hz : zH D (zF ws0) H0 [(md, .inr (9, [.ref bk, .ref nw, .ref nt, .int (zI T), .ref df, .int (zI cn), .ref chk, .int (zI ln), .ref pa, .int (zI wat), .int (zI who), .int (zI rs), .int (zI act), .int (zI fse), .ref rc, .ref qu, .ref ct, .ref ft, .ref wn, .ref wy, .ref nx, .ref im, .ref ik])), (bk, .inl (cI, 29, .inl (zA (nwS inc mat kd tm yr)))), (rc, .inl (cI, 180, .inl (zA (zU ry (nbS (dgS a b c0) (qx i) t) ((10 * (((rx (qx i)) / 10) + 1)) + ((rx (qx i)) % 10)))))), (qu, .inl (cI, 180, .inl (zA (zU qy en2 (nbS (dgS a b c0) (qx i) t)))))] H locs := hz
                                    refine z_iinc (lv' := [(7, .int (zI (en2 + 1))), (13, .int (zI (nbS (dgS a b c0) (qx i) t))), (12, .int (zI a)), (11, .int (zI t)), (10, .int (zI (rx (qx i)))), (9, .int (zI (qx i))), (8, .int (zI i)), (0, .ref md), (1, .int (zI k)), (2, .int (zI to)), (3, .int (zI a)), (4, .int (zI b)), (5, .int (zI c0)), (6, .int (zI what))]) hx hb dX11_bring_302 hl (k := 6) rfl (Nat.le_of_ble_eq_true rfl) rfl (fun ls hl => ?_)
                                    refine z_iinc (lv' := [(11, .int (zI (t + 1))), (7, .int (zI (en2 + 1))), (13, .int (zI (nbS (dgS a b c0) (qx i) t))), (12, .int (zI a)), (10, .int (zI (rx (qx i)))), (9, .int (zI (qx i))), (8, .int (zI i)), (0, .ref md), (1, .int (zI k)), (2, .int (zI to)), (3, .int (zI a)), (4, .int (zI b)), (5, .int (zI c0)), (6, .int (zI what))]) hx hb dX11_bring_305 hl (k := 3) rfl (Nat.le_of_ble_eq_true rfl) rfl (fun ls hl => ?_)
                                    refine lv_goto (tgt := 189) hx hb dX11_bring_308 (by decide) ?_
                                    exact ih189 _ (by omega) (t + 1) (en2 + 1) (zU ry (nbS (dgS a b c0) (qx i) t) ((10 * (((rx (qx i)) / 10) + 1)) + ((rx (qx i)) % 10))) (zU qy en2 (nbS (dgS a b c0) (qx i) t)) H locs ls rfl (by omega) (⟨by omega, by rw [zU_ne (by omega)]; exact hi2.2.1, by rw [zU_ne hqx9]; exact hi2.2.2⟩) (by have h9 := bfs_new (dgS_inv a b c0) hb2 hi2.1 (by omega) hs9; rw [hi2.2.1, hfo9] at h9; rw [farM_up (by omega) (by omega)]; exact h9) (by have h9 := lbs_new (dgS_inv a b c0) hkr9 hb2 hl2 hi2.1 (by omega) hs9 (l := ((rx (qx i)) % 10)) (by rw [hi2.2.1, hfo9, if_neg (by omega)]; show _ = ry (qx i) % 10; rw [hi2.2.2]); rw [hi2.2.1, hfo9] at h9; rw [farM_up (by omega) (by omega), labM_up (by omega) (by omega)]; exact h9) (fun j h1 h2 => by rw [zU_ne (by omega)]; exact hqq j h1 h2) (hrb2.up (by omega)) hz (lv_sub hl [0, 4, 5, 6, 1, 7, 8, 9, 10, 11, 12, 13] rfl)
                                  ·
                                    refine lv_iload hx hb dX11_bring_281 (lv_at hl 2 rfl) ?_
                                    refine lv_goto (tgt := 291) hx hb dX11_bring_283 (by decide) ?_
                                    refine z_iadd hx hb dX11_bring_291 ?_
                                    refine z_iast hx hb hK hz 2 rfl (by omega) (by decide) dX11_bring_292 (fun H locs hz => ?_)
                                    have hz : zH D (zF ws0) H0 [(md, .inr (9, [.ref bk, .ref nw, .ref nt, .int (zI T), .ref df, .int (zI cn), .ref chk, .int (zI ln), .ref pa, .int (zI wat), .int (zI who), .int (zI rs), .int (zI act), .int (zI fse), .ref rc, .ref qu, .ref ct, .ref ft, .ref wn, .ref wy, .ref nx, .ref im, .ref ik])), (bk, .inl (cI, 29, .inl (zA (nwS inc mat kd tm yr)))), (rc, .inl (cI, 180, .inl (zA (zU ry (nbS (dgS a b c0) (qx i) t) ((10 * (((rx (qx i)) / 10) + 1)) + t))))), (qu, .inl (cI, 180, .inl (zA qy)))] H locs := hz
                                    refine lv_aload_n hx hb dX11_bring_293 rfl (lv_at hl 7 rfl) ?_
                                    refine z_get (C := RX11) (T := TX11) (N := 23) (ref := "HornCityModel") hx hb hts hin_X11_bring_X11 hown hK hz 0 rfl rfl 15 (by decide) (hts _ fl_X11_bring_31) rfl rfl dX11_bring_294 ?_
                                    refine lv_iload hx hb dX11_bring_297 (lv_at hl 6 rfl) ?_
                                    refine lv_iload hx hb dX11_bring_299 (lv_at hl 0 rfl) ?_
                                    refine z_iast hx hb hK hz 3 rfl (by omega) (by decide) dX11_bring_301 (fun H locs hz => ?_)
                                    have hz : zH D (zF ws0) H0 [(md, .inr (9, [.ref bk, .ref nw, .ref nt, .int (zI T), .ref df, .int (zI cn), .ref chk, .int (zI ln), .ref pa, .int (zI wat), .int (zI who), .int (zI rs), .int (zI act), .int (zI fse), .ref rc, .ref qu, .ref ct, .ref ft, .ref wn, .ref wy, .ref nx, .ref im, .ref ik])), (bk, .inl (cI, 29, .inl (zA (nwS inc mat kd tm yr)))), (rc, .inl (cI, 180, .inl (zA (zU ry (nbS (dgS a b c0) (qx i) t) ((10 * (((rx (qx i)) / 10) + 1)) + t))))), (qu, .inl (cI, 180, .inl (zA (zU qy en2 (nbS (dgS a b c0) (qx i) t)))))] H locs := hz
                                    refine z_iinc (lv' := [(7, .int (zI (en2 + 1))), (13, .int (zI (nbS (dgS a b c0) (qx i) t))), (12, .int (zI a)), (11, .int (zI t)), (10, .int (zI (rx (qx i)))), (9, .int (zI (qx i))), (8, .int (zI i)), (0, .ref md), (1, .int (zI k)), (2, .int (zI to)), (3, .int (zI a)), (4, .int (zI b)), (5, .int (zI c0)), (6, .int (zI what))]) hx hb dX11_bring_302 hl (k := 6) rfl (Nat.le_of_ble_eq_true rfl) rfl (fun ls hl => ?_)
                                    refine z_iinc (lv' := [(11, .int (zI (t + 1))), (7, .int (zI (en2 + 1))), (13, .int (zI (nbS (dgS a b c0) (qx i) t))), (12, .int (zI a)), (10, .int (zI (rx (qx i)))), (9, .int (zI (qx i))), (8, .int (zI i)), (0, .ref md), (1, .int (zI k)), (2, .int (zI to)), (3, .int (zI a)), (4, .int (zI b)), (5, .int (zI c0)), (6, .int (zI what))]) hx hb dX11_bring_305 hl (k := 3) rfl (Nat.le_of_ble_eq_true rfl) rfl (fun ls hl => ?_)
                                    refine lv_goto (tgt := 189) hx hb dX11_bring_308 (by decide) ?_
                                    exact ih189 _ (by omega) (t + 1) (en2 + 1) (zU ry (nbS (dgS a b c0) (qx i) t) ((10 * (((rx (qx i)) / 10) + 1)) + t)) (zU qy en2 (nbS (dgS a b c0) (qx i) t)) H locs ls rfl (by omega) (⟨by omega, by rw [zU_ne (by omega)]; exact hi2.2.1, by rw [zU_ne hqx9]; exact hi2.2.2⟩) (by have h9 := bfs_new (dgS_inv a b c0) hb2 hi2.1 (by omega) hs9; rw [hi2.2.1, hfo9] at h9; rw [farM_up (by omega) (by omega)]; exact h9) (by have h9 := lbs_new (dgS_inv a b c0) hkr9 hb2 hl2 hi2.1 (by omega) hs9 (l := t) (by rw [hi2.2.1, hfo9, if_pos (by omega)]); rw [hi2.2.1, hfo9] at h9; rw [farM_up (by omega) (by omega), labM_up (by omega) (by omega)]; exact h9) (fun j h1 h2 => by rw [zU_ne (by omega)]; exact hqq j h1 h2) (hrb2.up (by omega)) hz (lv_sub hl [0, 4, 5, 6, 1, 7, 8, 9, 10, 11, 12, 13] rfl)
                        exact L189 _ 0 en rx qx H locs ls rfl (by decide) (⟨by omega, rfl, rfl⟩) (hb1) (hl1) (fun j _ _ => rfl) (hrb) hz (lv_sub hl [0, 1, 2, 3, 4, 5, 6, 7, 8, 9, 10, 11] rfl)
                      ·
                        have hE := lbs_end (dgS_inv a b c0) hkr9 (show 0 ≤ to ∧ to < 180 by omega) hb1 hl1 (by omega) h152
                        have hfo3 : farM rx to = rx (qx i) / 10 := by rw [← h152]; exact hfo.2
                        refine lv_iload hx hb dX11_bring_155 (lv_at hl 10 rfl) ?_
                        refine z_if_ne (tgt := 168) hx hb dX11_bring_157 (by decide) (by omega) (fun h157 => ?_) (fun h157 => ?_)
                        ·
                          refine lv_iload hx hb dX11_bring_168 (lv_at hl 0 rfl) ?_
                          refine z_bipush hx hb dX11_bring_170 (by decide) ?_
                          refine z_icmp_ge (tgt := 180) hx hb dX11_bring_172 (by decide) (by omega) (by decide) (fun h172 => ?_) (fun h172 => ?_)
                          ·
                            refine lv_iload hx hb dX11_bring_180 (lv_at hl 0 rfl) ?_
                            refine z_bipush hx hb dX11_bring_182 (by decide) ?_
                            refine z_irem hx hb dX11_bring_184 (by omega) (by omega) ?_
                            exact hret ((((rx (qx i)) % 10) : Int), (rx : Int → Int), (qx : Int → Int)) dX11_bring_185 (show ((rx (qx i)) % 10) = brR T inc k to a b c0 what from (by unfold brR; rw [if_pos h5, if_pos (by omega), show inO T inc k = inc k from if_pos h5, if_neg h157, hE.2.1 (by omega)]; show _ = rx to % 10; rw [h152])) hz
                          ·
                            refine z_bipush hx hb dX11_bring_175 (by decide) ?_
                            refine lv_goto (tgt := 185) hx hb dX11_bring_177 (by decide) ?_
                            exact hret (((-6) : Int), (rx : Int → Int), (qx : Int → Int)) dX11_bring_185 (show (-6) = brR T inc k to a b c0 what from (by unfold brR; rw [if_pos h5, if_pos (by omega), show inO T inc k = inc k from if_pos h5, if_neg h157, hE.2.2 (by omega)])) hz
                        ·
                          refine lv_iload hx hb dX11_bring_160 (lv_at hl 0 rfl) ?_
                          refine z_bipush hx hb dX11_bring_162 (by decide) ?_
                          refine z_idiv hx hb dX11_bring_164 (by omega) (by omega) ?_
                          refine lv_goto (tgt := 185) hx hb dX11_bring_165 (by decide) ?_
                          exact hret ((((rx (qx i)) / 10) : Int), (rx : Int → Int), (qx : Int → Int)) dX11_bring_185 (show ((rx (qx i)) / 10) = brR T inc k to a b c0 what from (by unfold brR; rw [if_pos h5, if_pos (by omega), show inO T inc k = inc k from if_pos h5, if_pos h157, ← hE.1, hfo3])) hz
                  exact L124 _ 0 1 (zU (fun _ => -1) (inc k) 0) (zU quf 0 (inc k)) H locs ls rfl (by rw [farM_0]; exact bfs_0 hkr9) (by rw [farM_0]; exact lbs_0) (fun j h1 h2 => absurd h1 (by omega)) (zBd.up (fun j _ _ => ⟨by show (-1 : Int) ≤ -1; decide, by show (-1 : Int) ≤ 2000; decide⟩) (by decide)) hz (lv_sub hl [0, 1, 2, 3, 4, 5, 6, 7, 8] rfl)
                ·
                  refine lv_aload_n hx hb dX11_bring_80 rfl (lv_at hl 1 rfl) ?_
                  refine z_get (C := RX11) (T := TX11) (N := 23) (ref := "HornCityModel") hx hb hts hin_X11_bring_X11 hown hK hz 0 rfl rfl 14 (by decide) (hts _ fl_X11_bring_28) rfl rfl dX11_bring_81 ?_
                  refine lv_iload hx hb dX11_bring_84 (lv_at hl 0 rfl) ?_
                  refine z_iconst hx hb dX11_bring_86 ?_
                  refine z_iast hx hb hK hz 2 rfl (by omega) (by decide) dX11_bring_87 (fun H locs hz => ?_)
                  have hz : zH D (zF ws0) H0 [(md, .inr (9, [.ref bk, .ref nw, .ref nt, .int (zI T), .ref df, .int (zI cn), .ref chk, .int (zI ln), .ref pa, .int (zI wat), .int (zI who), .int (zI rs), .int (zI act), .int (zI fse), .ref rc, .ref qu, .ref ct, .ref ft, .ref wn, .ref wy, .ref nx, .ref im, .ref ik])), (bk, .inl (cI, 29, .inl (zA (nwS inc mat kd tm yr)))), (rc, .inl (cI, 180, .inl (zA (zU rx v (-1))))), (qu, .inl (cI, 180, .inl (zA quf)))] H locs := hz
                  refine z_iinc (lv' := [(7, .int (zI (v + 1))), (0, .ref md), (1, .int (zI k)), (2, .int (zI to)), (3, .int (zI a)), (4, .int (zI b)), (5, .int (zI c0)), (6, .int (zI what))]) hx hb dX11_bring_88 hl (k := 0) rfl (Nat.le_of_ble_eq_true rfl) rfl (fun ls hl => ?_)
                  refine lv_goto (tgt := 72) hx hb dX11_bring_91 (by decide) ?_
                  exact ih72 _ (by omega) (v + 1) (zU rx v (-1)) H locs ls rfl (by omega) (zU_cp hrx) hz (lv_sub hl [0, 1, 2, 3, 4, 5, 6, 7] rfl)
              exact L72 _ 0 rcf H0 [] ls rfl (by decide) (fun j h1 h2 => absurd h1 (by omega)) hz (lv_sub hl [0, 1, 2, 3, 4, 5, 6, 7] rfl)
            ·
              refine z_bipush hx hb dX11_bring_66 (by decide) ?_
              exact hret (((-2) : Int), (rcf : Int → Int), (quf : Int → Int)) dX11_bring_68 (show (-2) = brR T inc k to a b c0 what from (by unfold brR; rw [if_pos h5, if_neg (by omega)])) hz
  ·
    refine z_iconst hx hb dX11_bring_8 ?_
    exact hret (((-1) : Int), (rcf : Int → Int), (quf : Int → Int)) dX11_bring_9 (show (-1) = brR T inc k to a b c0 what from (by unfold brR; rw [if_neg h5])) hz
