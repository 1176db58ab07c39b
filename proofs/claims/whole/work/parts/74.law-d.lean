set_option maxHeartbeats 8000000 in
set_option maxRecDepth 100000 in
theorem law_c12 {p : Program} {l : Launch} {e : Env} {s : State} {m : MethodId} {args : Array Value} {below : List Frame} {meth : Method} {c : Code} {Q : State → Prop} {D : va_G} {cI cJ cZ : ClassId} {A : Nat → Prop} {H0 : Heap} {b L : Nat} {xs : Nat → Int32} (hc on ain adn amn ahn chn iyn mkn of aif adf amf ahf chf iyf mkf os ais ads ams ahs chs iys mks kp pd sg ys o ai ad am ah ch iy mk kd tu fa wt dg as al tk wn ck wy nx md bk nw nt df chk pa rc qu ct ft wn2 wy2 nx2 im ik : Nat) {i : Int} (F : CallFix p m c cL_law 4 s args wsL_law RL) (hK : zK D cI cJ cZ s) (hX : va_X b L xs s H0) (hbl : b < H0.size) (hbA : ¬ A b) (hL : L ≤ 4096) (hi : 0 ≤ i ∧ i + 8 ≤ (L : Int))  (hk : lwK p l e s m args below meth c Q D cI cJ cZ A H0 b hc on ain adn amn ahn chn iyn mkn of aif adf amf ahf chf iyf mkf os ais ads ams ahs chs iys mks kp pd sg ys o ai ad am ah ch iy mk kd tu fa wt dg as al tk wn ck wy nx md bk nw nt df chk pa rc qu ct ft wn2 wy2 nx2 im ik i 963) : lwK p l e s m args below meth c Q D cI cJ cZ A H0 b hc on ain adn amn ahn chn iyn mkn of aif adf amf ahf chf iyf mkf os ais ads ams ahs chs iys mks kp pd sg ys o ai ad am ah ch iy mk kd tu fa wt dg as al tk wn ck wy nx md bk nw nt df chk pa rc qu ct ft wn2 wy2 nx2 im ik i 474 := by
  intro incn drin matn ahen iyfn mkfn incf drif matf ahef iyff mkff incs dris mats ahes iyfs mkfs kpf sgn inc dri mat ahe iyz mkz kdf faf wtf dgf alf wnf wyf nxf kdb nwf ntf rcf quf ctf ftf wnm wym nxm imf Tn tmn yrn cnn Tf tmf yrf cnf Ts tms yrs cns ln acs why wac won T tm yr cn by0 bm0 pts all0 wat who rs act fse H locs ls hI hz hl
  obtain ⟨hx, hb, hml, hown0, hts⟩ := id F
  have hown : s.vm.findClass RL = some m.cls := hown0
  obtain ⟨hok, hpad, hkp, hif, his, htk, htm⟩ := hI
  obtain ⟨hT, hbi, hbd, hmo, hty, hcn, hby, hbk⟩ := id hok
  have hbm := mOk_bd hmo
  obtain ⟨hln, hbs⟩ := id hpad
  obtain ⟨hwb, hwz⟩ := id htk
  have hz : zH D A H0 [(hc, .inr (8, [.ref on, .ref of, .ref os, .ref kp, .ref pd, .ref ys, .ref tu, .ref as, .ref tk, .ref ck])), (on, .inr (2, [.ref ain, .ref adn, .ref amn, .ref ahn, .ref chn, .int (zI Tn), .int (zI tmn), .int (zI yrn)])), (ain, .inl (cI, 9, .inl (zA incn))), (adn, .inl (cI, 9, .inl (zA drin))), (amn, .inl (cI, 9, .inl (zA matn))), (ahn, .inl (cI, 9, .inl (zA ahen))), (chn, .inr (1, [.ref iyn, .ref mkn, .int (zI cnn)])), (iyn, .inl (cI, 8, .inl (zA iyfn))), (mkn, .inl (cI, 8, .inl (zA mkfn))), (of, .inr (2, [.ref aif, .ref adf, .ref amf, .ref ahf, .ref chf, .int (zI Tf), .int (zI tmf), .int (zI yrf)])), (aif, .inl (cI, 9, .inl (zA incf))), (adf, .inl (cI, 9, .inl (zA drif))), (amf, .inl (cI, 9, .inl (zA matf))), (ahf, .inl (cI, 9, .inl (zA ahef))), (chf, .inr (1, [.ref iyf, .ref mkf, .int (zI cnf)])), (iyf, .inl (cI, 8, .inl (zA iyff))), (mkf, .inl (cI, 8, .inl (zA mkff))), (os, .inr (2, [.ref ais, .ref ads, .ref ams, .ref ahs, .ref chs, .int (zI Ts), .int (zI tms), .int (zI yrs)])), (ais, .inl (cI, 9, .inl (zA incs))), (ads, .inl (cI, 9, .inl (zA dris))), (ams, .inl (cI, 9, .inl (zA mats))), (ahs, .inl (cI, 9, .inl (zA ahes))), (chs, .inr (1, [.ref iys, .ref mks, .int (zI cns)])), (iys, .inl (cI, 8, .inl (zA iyfs))), (mks, .inl (cI, 8, .inl (zA mkfs))), (kp, .inl (cZ, 2, .inl (zA kpf))), (pd, .inr (3, [.ref sg, .int (zI ln)])), (sg, .inl (cI, 60, .inl (zA sgn))), (ys, .inr (7, [.ref o, .ref kd, .int (zI acs), .int (zI why), .int (zI wac), .int (zI won)])), (o, .inr (2, [.ref ai, .ref ad, .ref am, .ref ah, .ref ch, .int (zI T), .int (zI tm), .int (zI yr)])), (ai, .inl (cI, 9, .inl (zA inc))), (ad, .inl (cI, 9, .inl (zA dri))), (am, .inl (cI, 9, .inl (zA mat))), (ah, .inl (cI, 9, .inl (zA ahe))), (ch, .inr (1, [.ref iy, .ref mk, .int (zI cn)])), (iy, .inl (cI, 8, .inl (zA iyz))), (mk, .inl (cI, 8, .inl (zA mkz))), (kd, .inl (cI, 9, .inl (zA kdf))), (tu, .inr (5, [.ref fa, .ref wt, .ref dg])), (fa, .inl (cI, 180, .inl (zA faf))), (wt, .inl (cI, 180, .inl (zA wtf))), (dg, .inl (cI, 6, .inl (zA dgf))), (as, .inr (0, [.ref al, .int (zI by0), .int (zI bm0)])), (al, .inl (cI, 180, .inl (zA alf))), (tk, .inr (4, [.ref wn])), (wn, .inl (cZ, 180, .inl (zA wnf))), (ck, .inr (6, [.ref wy, .ref nx, .int (zI pts), .long (zL all0)])), (wy, .inl (cJ, 12, .inr (.inl (zAL wyf)))), (nx, .inl (cJ, 12, .inr (.inl (zAL nxf)))), (md, .inr (9, [.ref bk, .ref nw, .ref nt, .int (zI Tn), .ref df, .int (zI cnn), .ref chk, .int (zI ln), .ref pa, .int (zI wat), .int (zI who), .int (zI rs), .int (zI act), .int (zI fse), .ref rc, .ref qu, .ref ct, .ref ft, .ref wn2, .ref wy2, .ref nx2, .ref im, .ref ik])), (bk, .inl (cI, 29, .inl (zA (nwS incn matn kdb tmn yrn)))), (nw, .inl (cI, 29, .inl (zA nwf))), (nt, .inl (cI, 9, .inl (zA ntf))), (df, .inl (cI, 9, .inl (zA drin))), (chk, .inl (cI, 16, .inl (zA (chS iyfn mkfn)))), (pa, .inl (cI, 60, .inl (zA sgn))), (rc, .inl (cI, 180, .inl (zA rcf))), (qu, .inl (cI, 180, .inl (zA quf))), (ct, .inl (cI, 180, .inl (zA ctf))), (ft, .inl (cI, 3600, .inl (zA ftf))), (wn2, .inl (cZ, 180, .inl (zA wnm))), (wy2, .inl (cJ, 12, .inr (.inl (zAL wym)))), (nx2, .inl (cJ, 12, .inr (.inl (zAL nxm)))), (im, .inl (cI, 120, .inl (zA imf))), (ik, .inl (cZ, 2, .inl (zA kpf)))] H locs := hz
  have hl : lv_has ls 4 [(3, .int (zI i)), (2, .ref md), (1, .ref hc), (0, .ref b)] := hl
  obtain ⟨v1, hv1⟩ : ∃ v, xsZ xs (i + 1) = v := ⟨_, rfl⟩
  have hr1 := xsZ_rng xs (i + 1)
  rw [hv1] at hr1
  obtain ⟨v2, hv2⟩ : ∃ v, xsZ xs (i + 2) = v := ⟨_, rfl⟩
  have hr2 := xsZ_rng xs (i + 2)
  rw [hv2] at hr2
  obtain ⟨v3, hv3⟩ : ∃ v, xsZ xs (i + 3) = v := ⟨_, rfl⟩
  have hr3 := xsZ_rng xs (i + 3)
  rw [hv3] at hr3
  obtain ⟨v4, hv4⟩ : ∃ v, xsZ xs (i + 4) = v := ⟨_, rfl⟩
  have hr4 := xsZ_rng xs (i + 4)
  rw [hv4] at hr4
  obtain ⟨v5, hv5⟩ : ∃ v, xsZ xs (i + 5) = v := ⟨_, rfl⟩
  have hr5 := xsZ_rng xs (i + 5)
  rw [hv5] at hr5
  obtain ⟨v6, hv6⟩ : ∃ v, xsZ xs (i + 6) = v := ⟨_, rfl⟩
  have hr6 := xsZ_rng xs (i + 6)
  rw [hv6] at hr6
  obtain ⟨v7, hv7⟩ : ∃ v, xsZ xs (i + 7) = v := ⟨_, rfl⟩
  have hr7 := xsZ_rng xs (i + 7)
  rw [hv7] at hr7
  refine lv_aload_n hx hb dL_law_474 rfl (lv_at hl 2 rfl) ?_
  refine lv_aload_n hx hb dL_law_475 rfl (lv_at hl 3 rfl) ?_
  refine lv_iload_n hx hb dL_law_476 rfl (lv_at hl 0 rfl) ?_
  refine z_iconst hx hb dL_law_477 ?_
  refine z_iadd hx hb dL_law_478 ?_
  refine z_sld hx hb hX hbl hbA hz (by omega) hL dL_law_479 hv1 ?_
  refine lv_aload_n hx hb dL_law_480 rfl (lv_at hl 3 rfl) ?_
  refine lv_iload_n hx hb dL_law_481 rfl (lv_at hl 0 rfl) ?_
  refine z_iconst hx hb dL_law_482 ?_
  refine z_iadd hx hb dL_law_483 ?_
  refine z_sld hx hb hX hbl hbA hz (by omega) hL dL_law_484 hv2 ?_
  refine lv_aload_n hx hb dL_law_485 rfl (lv_at hl 3 rfl) ?_
  refine lv_iload_n hx hb dL_law_486 rfl (lv_at hl 0 rfl) ?_
  refine z_iconst hx hb dL_law_487 ?_
  refine z_iadd hx hb dL_law_488 ?_
  refine z_sld hx hb hX hbl hbA hz (by omega) hL dL_law_489 hv3 ?_
  refine lv_aload_n hx hb dL_law_490 rfl (lv_at hl 3 rfl) ?_
  refine lv_iload_n hx hb dL_law_491 rfl (lv_at hl 0 rfl) ?_
  refine z_iconst hx hb dL_law_492 ?_
  refine z_iadd hx hb dL_law_493 ?_
  refine z_sld hx hb hX hbl hbA hz (by omega) hL dL_law_494 hv4 ?_
  refine lv_aload_n hx hb dL_law_495 rfl (lv_at hl 3 rfl) ?_
  refine lv_iload_n hx hb dL_law_496 rfl (lv_at hl 0 rfl) ?_
  refine z_iconst hx hb dL_law_497 ?_
  refine z_iadd hx hb dL_law_498 ?_
  refine z_sld hx hb hX hbl hbA hz (by omega) hL dL_law_499 hv5 ?_
  refine lv_aload_n hx hb dL_law_500 rfl (lv_at hl 3 rfl) ?_
  refine lv_iload_n hx hb dL_law_501 rfl (lv_at hl 0 rfl) ?_
  refine z_bipush hx hb dL_law_502 (by decide) ?_
  refine z_iadd hx hb dL_law_504 ?_
  refine z_sld hx hb hX hbl hbA hz (by omega) hL dL_law_505 hv6 ?_
  refine z_callVw (As := [.int (zI v1), .int (zI v2), .int (zI v3), .int (zI v4), .int (zI v5), .int (zI v6)]) (rest := []) (C := RX10) (T := TX10) (N := 10) F hK hz hl (c_X10_bring l D cI cJ cZ hc on of os kp pd ys tu as tk ck ain adn amn ahn chn fa wt dg incn faf wtf dgf Tn tmn yrn v1 v2 v3 v4 v5 v6 (by omega) (by first | assumption | omega) (by assumption)) (cwV 6 hts gL_law_X10_bring rfl rfl rfl (by decide +kernel) ⟨Nat.le_of_ble_eq_true rfl, Nat.le_of_ble_eq_true rfl⟩) rfl 0 rfl [0, 1, 2, 38, 39, 40, 41] rfl rfl (by decide +kernel) rfl rfl (Nat.le_of_ble_eq_true rfl) ⟨Nat.le_of_ble_eq_true rfl, Nat.le_of_ble_eq_true rfl⟩ dL_law_506 (fun u H locs hu hz => ?_)
  obtain ⟨r_1, f1_2, w1_3, d1_4⟩ := u
  have hu : r_1 = brR Tn incn v1 v2 v3 v4 v5 v6 := hu
  have g506_0 := hu
  have g506_0 := g506_0.symm
  subst g506_0
  have hz : zH D A H0 [(hc, .inr (8, [.ref on, .ref of, .ref os, .ref kp, .ref pd, .ref ys, .ref tu, .ref as, .ref tk, .ref ck])), (on, .inr (2, [.ref ain, .ref adn, .ref amn, .ref ahn, .ref chn, .int (zI Tn), .int (zI tmn), .int (zI yrn)])), (ain, .inl (cI, 9, .inl (zA incn))), (adn, .inl (cI, 9, .inl (zA drin))), (amn, .inl (cI, 9, .inl (zA matn))), (ahn, .inl (cI, 9, .inl (zA ahen))), (chn, .inr (1, [.ref iyn, .ref mkn, .int (zI cnn)])), (iyn, .inl (cI, 8, .inl (zA iyfn))), (mkn, .inl (cI, 8, .inl (zA mkfn))), (of, .inr (2, [.ref aif, .ref adf, .ref amf, .ref ahf, .ref chf, .int (zI Tf), .int (zI tmf), .int (zI yrf)])), (aif, .inl (cI, 9, .inl (zA incf))), (adf, .inl (cI, 9, .inl (zA drif))), (amf, .inl (cI, 9, .inl (zA matf))), (ahf, .inl (cI, 9, .inl (zA ahef))), (chf, .inr (1, [.ref iyf, .ref mkf, .int (zI cnf)])), (iyf, .inl (cI, 8, .inl (zA iyff))), (mkf, .inl (cI, 8, .inl (zA mkff))), (os, .inr (2, [.ref ais, .ref ads, .ref ams, .ref ahs, .ref chs, .int (zI Ts), .int (zI tms), .int (zI yrs)])), (ais, .inl (cI, 9, .inl (zA incs))), (ads, .inl (cI, 9, .inl (zA dris))), (ams, .inl (cI, 9, .inl (zA mats))), (ahs, .inl (cI, 9, .inl (zA ahes))), (chs, .inr (1, [.ref iys, .ref mks, .int (zI cns)])), (iys, .inl (cI, 8, .inl (zA iyfs))), (mks, .inl (cI, 8, .inl (zA mkfs))), (kp, .inl (cZ, 2, .inl (zA kpf))), (pd, .inr (3, [.ref sg, .int (zI ln)])), (sg, .inl (cI, 60, .inl (zA sgn))), (ys, .inr (7, [.ref o, .ref kd, .int (zI acs), .int (zI why), .int (zI wac), .int (zI won)])), (o, .inr (2, [.ref ai, .ref ad, .ref am, .ref ah, .ref ch, .int (zI T), .int (zI tm), .int (zI yr)])), (ai, .inl (cI, 9, .inl (zA inc))), (ad, .inl (cI, 9, .inl (zA dri))), (am, .inl (cI, 9, .inl (zA mat))), (ah, .inl (cI, 9, .inl (zA ahe))), (ch, .inr (1, [.ref iy, .ref mk, .int (zI cn)])), (iy, .inl (cI, 8, .inl (zA iyz))), (mk, .inl (cI, 8, .inl (zA mkz))), (kd, .inl (cI, 9, .inl (zA kdf))), (tu, .inr (5, [.ref fa, .ref wt, .ref dg])), (fa, .inl (cI, 180, .inl (zA f1_2))), (wt, .inl (cI, 180, .inl (zA w1_3))), (dg, .inl (cI, 6, .inl (zA d1_4))), (as, .inr (0, [.ref al, .int (zI by0), .int (zI bm0)])), (al, .inl (cI, 180, .inl (zA alf))), (tk, .inr (4, [.ref wn])), (wn, .inl (cZ, 180, .inl (zA wnf))), (ck, .inr (6, [.ref wy, .ref nx, .int (zI pts), .long (zL all0)])), (wy, .inl (cJ, 12, .inr (.inl (zAL wyf)))), (nx, .inl (cJ, 12, .inr (.inl (zAL nxf)))), (md, .inr (9, [.ref bk, .ref nw, .ref nt, .int (zI Tn), .ref df, .int (zI cnn), .ref chk, .int (zI ln), .ref pa, .int (zI wat), .int (zI who), .int (zI rs), .int (zI act), .int (zI fse), .ref rc, .ref qu, .ref ct, .ref ft, .ref wn2, .ref wy2, .ref nx2, .ref im, .ref ik])), (bk, .inl (cI, 29, .inl (zA (nwS incn matn kdb tmn yrn)))), (nw, .inl (cI, 29, .inl (zA nwf))), (nt, .inl (cI, 9, .inl (zA ntf))), (df, .inl (cI, 9, .inl (zA drin))), (chk, .inl (cI, 16, .inl (zA (chS iyfn mkfn)))), (pa, .inl (cI, 60, .inl (zA sgn))), (rc, .inl (cI, 180, .inl (zA rcf))), (qu, .inl (cI, 180, .inl (zA quf))), (ct, .inl (cI, 180, .inl (zA ctf))), (ft, .inl (cI, 3600, .inl (zA ftf))), (wn2, .inl (cZ, 180, .inl (zA wnm))), (wy2, .inl (cJ, 12, .inr (.inl (zAL wym)))), (nx2, .inl (cJ, 12, .inr (.inl (zAL nxm)))), (im, .inl (cI, 120, .inl (zA imf))), (ik, .inl (cZ, 2, .inl (zA kpf)))] H locs := hz
  refine lv_aload_n hx hb dL_law_509 rfl (lv_at hl 1 rfl) ?_
  refine lv_aload_n hx hb dL_law_510 rfl (lv_at hl 3 rfl) ?_
  refine lv_iload_n hx hb dL_law_511 rfl (lv_at hl 0 rfl) ?_
  refine z_iconst hx hb dL_law_512 ?_
  refine z_iadd hx hb dL_law_513 ?_
  refine z_sld hx hb hX hbl hbA hz (by omega) hL dL_law_514 hv1 ?_
  refine lv_aload_n hx hb dL_law_515 rfl (lv_at hl 3 rfl) ?_
  refine lv_iload_n hx hb dL_law_516 rfl (lv_at hl 0 rfl) ?_
  refine z_iconst hx hb dL_law_517 ?_
  refine z_iadd hx hb dL_law_518 ?_
  refine z_sld hx hb hX hbl hbA hz (by omega) hL dL_law_519 hv2 ?_
  refine lv_aload_n hx hb dL_law_520 rfl (lv_at hl 3 rfl) ?_
  refine lv_iload_n hx hb dL_law_521 rfl (lv_at hl 0 rfl) ?_
  refine z_iconst hx hb dL_law_522 ?_
  refine z_iadd hx hb dL_law_523 ?_
  refine z_sld hx hb hX hbl hbA hz (by omega) hL dL_law_524 hv3 ?_
  refine lv_aload_n hx hb dL_law_525 rfl (lv_at hl 3 rfl) ?_
  refine lv_iload_n hx hb dL_law_526 rfl (lv_at hl 0 rfl) ?_
  refine z_iconst hx hb dL_law_527 ?_
  refine z_iadd hx hb dL_law_528 ?_
  refine z_sld hx hb hX hbl hbA hz (by omega) hL dL_law_529 hv4 ?_
  refine lv_aload_n hx hb dL_law_530 rfl (lv_at hl 3 rfl) ?_
  refine lv_iload_n hx hb dL_law_531 rfl (lv_at hl 0 rfl) ?_
  refine z_iconst hx hb dL_law_532 ?_
  refine z_iadd hx hb dL_law_533 ?_
  refine z_sld hx hb hX hbl hbA hz (by omega) hL dL_law_534 hv5 ?_
  refine lv_aload_n hx hb dL_law_535 rfl (lv_at hl 3 rfl) ?_
  refine lv_iload_n hx hb dL_law_536 rfl (lv_at hl 0 rfl) ?_
  refine z_bipush hx hb dL_law_537 (by decide) ?_
  refine z_iadd hx hb dL_law_539 ?_
  refine z_sld hx hb hX hbl hbA hz (by omega) hL dL_law_540 hv6 ?_
  refine z_callVw (As := [.int (zI v1), .int (zI v2), .int (zI v3), .int (zI v4), .int (zI v5), .int (zI v6)]) (rest := [.int (zI (brR Tn incn v1 v2 v3 v4 v5 v6))]) (C := RX11) (T := TX11) (N := 23) F hK hz hl (c_X11_bring l D cI cJ cZ md bk nw nt df chk pa rc qu ct ft wn2 wy2 nx2 im ik incn matn kdb rcf quf Tn cnn ln wat who rs act fse tmn yrn v1 v2 v3 v4 v5 v6 (by omega) (by first | assumption | omega) (by assumption)) (cwV 6 hts gL_law_X11_bring rfl rfl rfl (by decide +kernel) ⟨Nat.le_of_ble_eq_true rfl, Nat.le_of_ble_eq_true rfl⟩) rfl 49 rfl [49, 50, 56, 57] rfl rfl (by decide +kernel) rfl rfl (Nat.le_of_ble_eq_true rfl) ⟨Nat.le_of_ble_eq_true rfl, Nat.le_of_ble_eq_true rfl⟩ dL_law_541 (fun u H locs hu hz => ?_)
  obtain ⟨r_5, rc1_6, qu1_7⟩ := u
  have hu : r_5 = brR Tn incn v1 v2 v3 v4 v5 v6 := hu
  have g541_0 := hu
  have g541_0 := g541_0.symm
  subst g541_0
  have hz : zH D A H0 [(hc, .inr (8, [.ref on, .ref of, .ref os, .ref kp, .ref pd, .ref ys, .ref tu, .ref as, .ref tk, .ref ck])), (on, .inr (2, [.ref ain, .ref adn, .ref amn, .ref ahn, .ref chn, .int (zI Tn), .int (zI tmn), .int (zI yrn)])), (ain, .inl (cI, 9, .inl (zA incn))), (adn, .inl (cI, 9, .inl (zA drin))), (amn, .inl (cI, 9, .inl (zA matn))), (ahn, .inl (cI, 9, .inl (zA ahen))), (chn, .inr (1, [.ref iyn, .ref mkn, .int (zI cnn)])), (iyn, .inl (cI, 8, .inl (zA iyfn))), (mkn, .inl (cI, 8, .inl (zA mkfn))), (of, .inr (2, [.ref aif, .ref adf, .ref amf, .ref ahf, .ref chf, .int (zI Tf), .int (zI tmf), .int (zI yrf)])), (aif, .inl (cI, 9, .inl (zA incf))), (adf, .inl (cI, 9, .inl (zA drif))), (amf, .inl (cI, 9, .inl (zA matf))), (ahf, .inl (cI, 9, .inl (zA ahef))), (chf, .inr (1, [.ref iyf, .ref mkf, .int (zI cnf)])), (iyf, .inl (cI, 8, .inl (zA iyff))), (mkf, .inl (cI, 8, .inl (zA mkff))), (os, .inr (2, [.ref ais, .ref ads, .ref ams, .ref ahs, .ref chs, .int (zI Ts), .int (zI tms), .int (zI yrs)])), (ais, .inl (cI, 9, .inl (zA incs))), (ads, .inl (cI, 9, .inl (zA dris))), (ams, .inl (cI, 9, .inl (zA mats))), (ahs, .inl (cI, 9, .inl (zA ahes))), (chs, .inr (1, [.ref iys, .ref mks, .int (zI cns)])), (iys, .inl (cI, 8, .inl (zA iyfs))), (mks, .inl (cI, 8, .inl (zA mkfs))), (kp, .inl (cZ, 2, .inl (zA kpf))), (pd, .inr (3, [.ref sg, .int (zI ln)])), (sg, .inl (cI, 60, .inl (zA sgn))), (ys, .inr (7, [.ref o, .ref kd, .int (zI acs), .int (zI why), .int (zI wac), .int (zI won)])), (o, .inr (2, [.ref ai, .ref ad, .ref am, .ref ah, .ref ch, .int (zI T), .int (zI tm), .int (zI yr)])), (ai, .inl (cI, 9, .inl (zA inc))), (ad, .inl (cI, 9, .inl (zA dri))), (am, .inl (cI, 9, .inl (zA mat))), (ah, .inl (cI, 9, .inl (zA ahe))), (ch, .inr (1, [.ref iy, .ref mk, .int (zI cn)])), (iy, .inl (cI, 8, .inl (zA iyz))), (mk, .inl (cI, 8, .inl (zA mkz))), (kd, .inl (cI, 9, .inl (zA kdf))), (tu, .inr (5, [.ref fa, .ref wt, .ref dg])), (fa, .inl (cI, 180, .inl (zA f1_2))), (wt, .inl (cI, 180, .inl (zA w1_3))), (dg, .inl (cI, 6, .inl (zA d1_4))), (as, .inr (0, [.ref al, .int (zI by0), .int (zI bm0)])), (al, .inl (cI, 180, .inl (zA alf))), (tk, .inr (4, [.ref wn])), (wn, .inl (cZ, 180, .inl (zA wnf))), (ck, .inr (6, [.ref wy, .ref nx, .int (zI pts), .long (zL all0)])), (wy, .inl (cJ, 12, .inr (.inl (zAL wyf)))), (nx, .inl (cJ, 12, .inr (.inl (zAL nxf)))), (md, .inr (9, [.ref bk, .ref nw, .ref nt, .int (zI Tn), .ref df, .int (zI cnn), .ref chk, .int (zI ln), .ref pa, .int (zI wat), .int (zI who), .int (zI rs), .int (zI act), .int (zI fse), .ref rc, .ref qu, .ref ct, .ref ft, .ref wn2, .ref wy2, .ref nx2, .ref im, .ref ik])), (bk, .inl (cI, 29, .inl (zA (nwS incn matn kdb tmn yrn)))), (nw, .inl (cI, 29, .inl (zA nwf))), (nt, .inl (cI, 9, .inl (zA ntf))), (df, .inl (cI, 9, .inl (zA drin))), (chk, .inl (cI, 16, .inl (zA (chS iyfn mkfn)))), (pa, .inl (cI, 60, .inl (zA sgn))), (rc, .inl (cI, 180, .inl (zA rc1_6))), (qu, .inl (cI, 180, .inl (zA qu1_7))), (ct, .inl (cI, 180, .inl (zA ctf))), (ft, .inl (cI, 3600, .inl (zA ftf))), (wn2, .inl (cZ, 180, .inl (zA wnm))), (wy2, .inl (cJ, 12, .inr (.inl (zAL wym)))), (nx2, .inl (cJ, 12, .inr (.inl (zAL nxm)))), (im, .inl (cI, 120, .inl (zA imf))), (ik, .inl (cZ, 2, .inl (zA kpf)))] H locs := hz
  refine lv_icmp_eq (tgt := 963) hx hb dL_law_544 (by decide) (fun _ => ?_) (fun h => absurd rfl h)
  exact hk incn drin matn ahen iyfn mkfn incf drif matf ahef iyff mkff incs dris mats ahes iyfs mkfs kpf sgn inc dri mat ahe iyz mkz kdf f1_2 w1_3 d1_4 alf wnf wyf nxf kdb nwf ntf rc1_6 qu1_7 ctf ftf wnm wym nxm imf Tn tmn yrn cnn Tf tmf yrf cnf Ts tms yrs cns ln acs why wac won T tm yr cn by0 bm0 pts all0 wat who rs act fse H locs ls (show lwI Tn incn drin matn tmn yrn iyfn mkfn cnn ln sgn kpf imf Tf incf drif matf tmf yrf iyff mkff cnf Ts incs dris mats tms yrs iyfs mkfs cns wnf wnm from ⟨hok, hpad, hkp, hif, his, htk, htm⟩) hz (lv_sub hl [0, 1, 2, 3] rfl)

set_option maxHeartbeats 8000000 in
set_option maxRecDepth 100000 in
theorem law_c13 {p : Program} {l : Launch} {e : Env} {s : State} {m : MethodId} {args : Array Value} {below : List Frame} {meth : Method} {c : Code} {Q : State → Prop} {D : va_G} {cI cJ cZ : ClassId} {A : Nat → Prop} {H0 : Heap} {b L : Nat} {xs : Nat → Int32} (hc on ain adn amn ahn chn iyn mkn of aif adf amf ahf chf iyf mkf os ais ads ams ahs chs iys mks kp pd sg ys o ai ad am ah ch iy mk kd tu fa wt dg as al tk wn ck wy nx md bk nw nt df chk pa rc qu ct ft wn2 wy2 nx2 im ik : Nat) {i : Int} (F : CallFix p m c cL_law 4 s args wsL_law RL) (hK : zK D cI cJ cZ s) (hX : va_X b L xs s H0) (hbl : b < H0.size) (hbA : ¬ A b) (hL : L ≤ 4096) (hi : 0 ≤ i ∧ i + 8 ≤ (L : Int))  (hk : lwK p l e s m args below meth c Q D cI cJ cZ A H0 b hc on ain adn amn ahn chn iyn mkn of aif adf amf ahf chf iyf mkf os ais ads ams ahs chs iys mks kp pd sg ys o ai ad am ah ch iy mk kd tu fa wt dg as al tk wn ck wy nx md bk nw nt df chk pa rc qu ct ft wn2 wy2 nx2 im ik i 963) : lwK p l e s m args below meth c Q D cI cJ cZ A H0 b hc on ain adn amn ahn chn iyn mkn of aif adf amf ahf chf iyf mkf os ais ads ams ahs chs iys mks kp pd sg ys o ai ad am ah ch iy mk kd tu fa wt dg as al tk wn ck wy nx md bk nw nt df chk pa rc qu ct ft wn2 wy2 nx2 im ik i 549 := by
  intro incn drin matn ahen iyfn mkfn incf drif matf ahef iyff mkff incs dris mats ahes iyfs mkfs kpf sgn inc dri mat ahe iyz mkz kdf faf wtf dgf alf wnf wyf nxf kdb nwf ntf rcf quf ctf ftf wnm wym nxm imf Tn tmn yrn cnn Tf tmf yrf cnf Ts tms yrs cns ln acs why wac won T tm yr cn by0 bm0 pts all0 wat who rs act fse H locs ls hI hz hl
  obtain ⟨hx, hb, hml, hown0, hts⟩ := id F
  have hown : s.vm.findClass RL = some m.cls := hown0
  obtain ⟨hok, hpad, hkp, hif, his, htk, htm⟩ := hI
  obtain ⟨hT, hbi, hbd, hmo, hty, hcn, hby, hbk⟩ := id hok
  have hbm := mOk_bd hmo
  obtain ⟨hln, hbs⟩ := id hpad
  obtain ⟨hwb, hwz⟩ := id htk
  have hz : zH D A H0 [(hc, .inr (8, [.ref on, .ref of, .ref os, .ref kp, .ref pd, .ref ys, .ref tu, .ref as, .ref tk, .ref ck])), (on, .inr (2, [.ref ain, .ref adn, .ref amn, .ref ahn, .ref chn, .int (zI Tn), .int (zI tmn), .int (zI yrn)])), (ain, .inl (cI, 9, .inl (zA incn))), (adn, .inl (cI, 9, .inl (zA drin))), (amn, .inl (cI, 9, .inl (zA matn))), (ahn, .inl (cI, 9, .inl (zA ahen))), (chn, .inr (1, [.ref iyn, .ref mkn, .int (zI cnn)])), (iyn, .inl (cI, 8, .inl (zA iyfn))), (mkn, .inl (cI, 8, .inl (zA mkfn))), (of, .inr (2, [.ref aif, .ref adf, .ref amf, .ref ahf, .ref chf, .int (zI Tf), .int (zI tmf), .int (zI yrf)])), (aif, .inl (cI, 9, .inl (zA incf))), (adf, .inl (cI, 9, .inl (zA drif))), (amf, .inl (cI, 9, .inl (zA matf))), (ahf, .inl (cI, 9, .inl (zA ahef))), (chf, .inr (1, [.ref iyf, .ref mkf, .int (zI cnf)])), (iyf, .inl (cI, 8, .inl (zA iyff))), (mkf, .inl (cI, 8, .inl (zA mkff))), (os, .inr (2, [.ref ais, .ref ads, .ref ams, .ref ahs, .ref chs, .int (zI Ts), .int (zI tms), .int (zI yrs)])), (ais, .inl (cI, 9, .inl (zA incs))), (ads, .inl (cI, 9, .inl (zA dris))), (ams, .inl (cI, 9, .inl (zA mats))), (ahs, .inl (cI, 9, .inl (zA ahes))), (chs, .inr (1, [.ref iys, .ref mks, .int (zI cns)])), (iys, .inl (cI, 8, .inl (zA iyfs))), (mks, .inl (cI, 8, .inl (zA mkfs))), (kp, .inl (cZ, 2, .inl (zA kpf))), (pd, .inr (3, [.ref sg, .int (zI ln)])), (sg, .inl (cI, 60, .inl (zA sgn))), (ys, .inr (7, [.ref o, .ref kd, .int (zI acs), .int (zI why), .int (zI wac), .int (zI won)])), (o, .inr (2, [.ref ai, .ref ad, .ref am, .ref ah, .ref ch, .int (zI T), .int (zI tm), .int (zI yr)])), (ai, .inl (cI, 9, .inl (zA inc))), (ad, .inl (cI, 9, .inl (zA dri))), (am, .inl (cI, 9, .inl (zA mat))), (ah, .inl (cI, 9, .inl (zA ahe))), (ch, .inr (1, [.ref iy, .ref mk, .int (zI cn)])), (iy, .inl (cI, 8, .inl (zA iyz))), (mk, .inl (cI, 8, .inl (zA mkz))), (kd, .inl (cI, 9, .inl (zA kdf))), (tu, .inr (5, [.ref fa, .ref wt, .ref dg])), (fa, .inl (cI, 180, .inl (zA faf))), (wt, .inl (cI, 180, .inl (zA wtf))), (dg, .inl (cI, 6, .inl (zA dgf))), (as, .inr (0, [.ref al, .int (zI by0), .int (zI bm0)])), (al, .inl (cI, 180, .inl (zA alf))), (tk, .inr (4, [.ref wn])), (wn, .inl (cZ, 180, .inl (zA wnf))), (ck, .inr (6, [.ref wy, .ref nx, .int (zI pts), .long (zL all0)])), (wy, .inl (cJ, 12, .inr (.inl (zAL wyf)))), (nx, .inl (cJ, 12, .inr (.inl (zAL nxf)))), (md, .inr (9, [.ref bk, .ref nw, .ref nt, .int (zI Tn), .ref df, .int (zI cnn), .ref chk, .int (zI ln), .ref pa, .int (zI wat), .int (zI who), .int (zI rs), .int (zI act), .int (zI fse), .ref rc, .ref qu, .ref ct, .ref ft, .ref wn2, .ref wy2, .ref nx2, .ref im, .ref ik])), (bk, .inl (cI, 29, .inl (zA (nwS incn matn kdb tmn yrn)))), (nw, .inl (cI, 29, .inl (zA nwf))), (nt, .inl (cI, 9, .inl (zA ntf))), (df, .inl (cI, 9, .inl (zA drin))), (chk, .inl (cI, 16, .inl (zA (chS iyfn mkfn)))), (pa, .inl (cI, 60, .inl (zA sgn))), (rc, .inl (cI, 180, .inl (zA rcf))), (qu, .inl (cI, 180, .inl (zA quf))), (ct, .inl (cI, 180, .inl (zA ctf))), (ft, .inl (cI, 3600, .inl (zA ftf))), (wn2, .inl (cZ, 180, .inl (zA wnm))), (wy2, .inl (cJ, 12, .inr (.inl (zAL wym)))), (nx2, .inl (cJ, 12, .inr (.inl (zAL nxm)))), (im, .inl (cI, 120, .inl (zA imf))), (ik, .inl (cZ, 2, .inl (zA kpf)))] H locs := hz
  have hl : lv_has ls 4 [(3, .int (zI i)), (2, .ref md), (1, .ref hc), (0, .ref b)] := hl
  obtain ⟨v1, hv1⟩ : ∃ v, xsZ xs (i + 1) = v := ⟨_, rfl⟩
  have hr1 := xsZ_rng xs (i + 1)
  rw [hv1] at hr1
  obtain ⟨v2, hv2⟩ : ∃ v, xsZ xs (i + 2) = v := ⟨_, rfl⟩
  have hr2 := xsZ_rng xs (i + 2)
  rw [hv2] at hr2
  obtain ⟨v3, hv3⟩ : ∃ v, xsZ xs (i + 3) = v := ⟨_, rfl⟩
  have hr3 := xsZ_rng xs (i + 3)
  rw [hv3] at hr3
  obtain ⟨v4, hv4⟩ : ∃ v, xsZ xs (i + 4) = v := ⟨_, rfl⟩
  have hr4 := xsZ_rng xs (i + 4)
  rw [hv4] at hr4
  obtain ⟨v5, hv5⟩ : ∃ v, xsZ xs (i + 5) = v := ⟨_, rfl⟩
  have hr5 := xsZ_rng xs (i + 5)
  rw [hv5] at hr5
  obtain ⟨v6, hv6⟩ : ∃ v, xsZ xs (i + 6) = v := ⟨_, rfl⟩
  have hr6 := xsZ_rng xs (i + 6)
  rw [hv6] at hr6
  obtain ⟨v7, hv7⟩ : ∃ v, xsZ xs (i + 7) = v := ⟨_, rfl⟩
  have hr7 := xsZ_rng xs (i + 7)
  rw [hv7] at hr7
  refine lv_aload_n hx hb dL_law_549 rfl (lv_at hl 2 rfl) ?_
  refine lv_aload_n hx hb dL_law_550 rfl (lv_at hl 3 rfl) ?_
  refine lv_iload_n hx hb dL_law_551 rfl (lv_at hl 0 rfl) ?_
  refine z_iconst hx hb dL_law_552 ?_
  refine z_iadd hx hb dL_law_553 ?_
  refine z_sld hx hb hX hbl hbA hz (by omega) hL dL_law_554 hv1 ?_
  refine z_callVp (As := [.int (zI v1)]) (rest := []) (C := RX10) (T := TX10) (N := 10) F hK hz hl (c_X10_lean l D cI cJ cZ hc on of os kp pd ys tu as tk ck ain adn amn ahn chn incn Tn tmn yrn v1 (by omega) (by first | assumption | omega) (by assumption)) (cwV 1 hts gL_law_X10_lean rfl rfl rfl (by decide +kernel) ⟨Nat.le_of_ble_eq_true rfl, Nat.le_of_ble_eq_true rfl⟩) rfl 0 rfl [0, 1, 2] rfl rfl rfl rfl (Nat.le_of_ble_eq_true rfl) ⟨Nat.le_of_ble_eq_true rfl, Nat.le_of_ble_eq_true rfl⟩ dL_law_555 ?_
  refine lv_aload_n hx hb dL_law_558 rfl (lv_at hl 1 rfl) ?_
  refine lv_aload_n hx hb dL_law_559 rfl (lv_at hl 3 rfl) ?_
  refine lv_iload_n hx hb dL_law_560 rfl (lv_at hl 0 rfl) ?_
  refine z_iconst hx hb dL_law_561 ?_
  refine z_iadd hx hb dL_law_562 ?_
  refine z_sld hx hb hX hbl hbA hz (by omega) hL dL_law_563 hv1 ?_
  refine z_callVp (As := [.int (zI v1)]) (rest := [.int (zI (leR Tn incn v1))]) (C := RX11) (T := TX11) (N := 23) F hK hz hl (c_X11_lean l D cI cJ cZ md bk nw nt df chk pa rc qu ct ft wn2 wy2 nx2 im ik incn matn kdb Tn cnn ln wat who rs act fse tmn yrn v1 (by omega) (by first | assumption | omega) (by assumption)) (cwV 1 hts gL_law_X11_lean rfl rfl rfl (by decide +kernel) ⟨Nat.le_of_ble_eq_true rfl, Nat.le_of_ble_eq_true rfl⟩) rfl 49 rfl [49, 50] rfl rfl rfl rfl (Nat.le_of_ble_eq_true rfl) ⟨Nat.le_of_ble_eq_true rfl, Nat.le_of_ble_eq_true rfl⟩ dL_law_564 ?_
  refine lv_icmp_eq (tgt := 963) hx hb dL_law_567 (by decide) (fun _ => ?_) (fun h => absurd rfl h)
  exact hk incn drin matn ahen iyfn mkfn incf drif matf ahef iyff mkff incs dris mats ahes iyfs mkfs kpf sgn inc dri mat ahe iyz mkz kdf faf wtf dgf alf wnf wyf nxf kdb nwf ntf rcf quf ctf ftf wnm wym nxm imf Tn tmn yrn cnn Tf tmf yrf cnf Ts tms yrs cns ln acs why wac won T tm yr cn by0 bm0 pts all0 wat who rs act fse H locs ls (show lwI Tn incn drin matn tmn yrn iyfn mkfn cnn ln sgn kpf imf Tf incf drif matf tmf yrf iyff mkff cnf Ts incs dris mats tms yrs iyfs mkfs cns wnf wnm from ⟨hok, hpad, hkp, hif, his, htk, htm⟩) hz (lv_sub hl [0, 1, 2, 3] rfl)

set_option maxHeartbeats 8000000 in
set_option maxRecDepth 100000 in
theorem law_c14 {p : Program} {l : Launch} {e : Env} {s : State} {m : MethodId} {args : Array Value} {below : List Frame} {meth : Method} {c : Code} {Q : State → Prop} {D : va_G} {cI cJ cZ : ClassId} {A : Nat → Prop} {H0 : Heap} {b L : Nat} {xs : Nat → Int32} (hc on ain adn amn ahn chn iyn mkn of aif adf amf ahf chf iyf mkf os ais ads ams ahs chs iys mks kp pd sg ys o ai ad am ah ch iy mk kd tu fa wt dg as al tk wn ck wy nx md bk nw nt df chk pa rc qu ct ft wn2 wy2 nx2 im ik : Nat) {i : Int} (F : CallFix p m c cL_law 4 s args wsL_law RL) (hK : zK D cI cJ cZ s) (hX : va_X b L xs s H0) (hbl : b < H0.size) (hbA : ¬ A b) (hL : L ≤ 4096) (hi : 0 ≤ i ∧ i + 8 ≤ (L : Int))  (hk : lwK p l e s m args below meth c Q D cI cJ cZ A H0 b hc on ain adn amn ahn chn iyn mkn of aif adf amf ahf chf iyf mkf os ais ads ams ahs chs iys mks kp pd sg ys o ai ad am ah ch iy mk kd tu fa wt dg as al tk wn ck wy nx md bk nw nt df chk pa rc qu ct ft wn2 wy2 nx2 im ik i 963) : lwK p l e s m args below meth c Q D cI cJ cZ A H0 b hc on ain adn amn ahn chn iyn mkn of aif adf amf ahf chf iyf mkf os ais ads ams ahs chs iys mks kp pd sg ys o ai ad am ah ch iy mk kd tu fa wt dg as al tk wn ck wy nx md bk nw nt df chk pa rc qu ct ft wn2 wy2 nx2 im ik i 572 := by
  intro incn drin matn ahen iyfn mkfn incf drif matf ahef iyff mkff incs dris mats ahes iyfs mkfs kpf sgn inc dri mat ahe iyz mkz kdf faf wtf dgf alf wnf wyf nxf kdb nwf ntf rcf quf ctf ftf wnm wym nxm imf Tn tmn yrn cnn Tf tmf yrf cnf Ts tms yrs cns ln acs why wac won T tm yr cn by0 bm0 pts all0 wat who rs act fse H locs ls hI hz hl
  obtain ⟨hx, hb, hml, hown0, hts⟩ := id F
  have hown : s.vm.findClass RL = some m.cls := hown0
  obtain ⟨hok, hpad, hkp, hif, his, htk, htm⟩ := hI
  obtain ⟨hT, hbi, hbd, hmo, hty, hcn, hby, hbk⟩ := id hok
  have hbm := mOk_bd hmo
  obtain ⟨hln, hbs⟩ := id hpad
  obtain ⟨hwb, hwz⟩ := id htk
  have hz : zH D A H0 [(hc, .inr (8, [.ref on, .ref of, .ref os, .ref kp, .ref pd, .ref ys, .ref tu, .ref as, .ref tk, .ref ck])), (on, .inr (2, [.ref ain, .ref adn, .ref amn, .ref ahn, .ref chn, .int (zI Tn), .int (zI tmn), .int (zI yrn)])), (ain, .inl (cI, 9, .inl (zA incn))), (adn, .inl (cI, 9, .inl (zA drin))), (amn, .inl (cI, 9, .inl (zA matn))), (ahn, .inl (cI, 9, .inl (zA ahen))), (chn, .inr (1, [.ref iyn, .ref mkn, .int (zI cnn)])), (iyn, .inl (cI, 8, .inl (zA iyfn))), (mkn, .inl (cI, 8, .inl (zA mkfn))), (of, .inr (2, [.ref aif, .ref adf, .ref amf, .ref ahf, .ref chf, .int (zI Tf), .int (zI tmf), .int (zI yrf)])), (aif, .inl (cI, 9, .inl (zA incf))), (adf, .inl (cI, 9, .inl (zA drif))), (amf, .inl (cI, 9, .inl (zA matf))), (ahf, .inl (cI, 9, .inl (zA ahef))), (chf, .inr (1, [.ref iyf, .ref mkf, .int (zI cnf)])), (iyf, .inl (cI, 8, .inl (zA iyff))), (mkf, .inl (cI, 8, .inl (zA mkff))), (os, .inr (2, [.ref ais, .ref ads, .ref ams, .ref ahs, .ref chs, .int (zI Ts), .int (zI tms), .int (zI yrs)])), (ais, .inl (cI, 9, .inl (zA incs))), (ads, .inl (cI, 9, .inl (zA dris))), (ams, .inl (cI, 9, .inl (zA mats))), (ahs, .inl (cI, 9, .inl (zA ahes))), (chs, .inr (1, [.ref iys, .ref mks, .int (zI cns)])), (iys, .inl (cI, 8, .inl (zA iyfs))), (mks, .inl (cI, 8, .inl (zA mkfs))), (kp, .inl (cZ, 2, .inl (zA kpf))), (pd, .inr (3, [.ref sg, .int (zI ln)])), (sg, .inl (cI, 60, .inl (zA sgn))), (ys, .inr (7, [.ref o, .ref kd, .int (zI acs), .int (zI why), .int (zI wac), .int (zI won)])), (o, .inr (2, [.ref ai, .ref ad, .ref am, .ref ah, .ref ch, .int (zI T), .int (zI tm), .int (zI yr)])), (ai, .inl (cI, 9, .inl (zA inc))), (ad, .inl (cI, 9, .inl (zA dri))), (am, .inl (cI, 9, .inl (zA mat))), (ah, .inl (cI, 9, .inl (zA ahe))), (ch, .inr (1, [.ref iy, .ref mk, .int (zI cn)])), (iy, .inl (cI, 8, .inl (zA iyz))), (mk, .inl (cI, 8, .inl (zA mkz))), (kd, .inl (cI, 9, .inl (zA kdf))), (tu, .inr (5, [.ref fa, .ref wt, .ref dg])), (fa, .inl (cI, 180, .inl (zA faf))), (wt, .inl (cI, 180, .inl (zA wtf))), (dg, .inl (cI, 6, .inl (zA dgf))), (as, .inr (0, [.ref al, .int (zI by0), .int (zI bm0)])), (al, .inl (cI, 180, .inl (zA alf))), (tk, .inr (4, [.ref wn])), (wn, .inl (cZ, 180, .inl (zA wnf))), (ck, .inr (6, [.ref wy, .ref nx, .int (zI pts), .long (zL all0)])), (wy, .inl (cJ, 12, .inr (.inl (zAL wyf)))), (nx, .inl (cJ, 12, .inr (.inl (zAL nxf)))), (md, .inr (9, [.ref bk, .ref nw, .ref nt, .int (zI Tn), .ref df, .int (zI cnn), .ref chk, .int (zI ln), .ref pa, .int (zI wat), .int (zI who), .int (zI rs), .int (zI act), .int (zI fse), .ref rc, .ref qu, .ref ct, .ref ft, .ref wn2, .ref wy2, .ref nx2, .ref im, .ref ik])), (bk, .inl (cI, 29, .inl (zA (nwS incn matn kdb tmn yrn)))), (nw, .inl (cI, 29, .inl (zA nwf))), (nt, .inl (cI, 9, .inl (zA ntf))), (df, .inl (cI, 9, .inl (zA drin))), (chk, .inl (cI, 16, .inl (zA (chS iyfn mkfn)))), (pa, .inl (cI, 60, .inl (zA sgn))), (rc, .inl (cI, 180, .inl (zA rcf))), (qu, .inl (cI, 180, .inl (zA quf))), (ct, .inl (cI, 180, .inl (zA ctf))), (ft, .inl (cI, 3600, .inl (zA ftf))), (wn2, .inl (cZ, 180, .inl (zA wnm))), (wy2, .inl (cJ, 12, .inr (.inl (zAL wym)))), (nx2, .inl (cJ, 12, .inr (.inl (zAL nxm)))), (im, .inl (cI, 120, .inl (zA imf))), (ik, .inl (cZ, 2, .inl (zA kpf)))] H locs := hz
  have hl : lv_has ls 4 [(3, .int (zI i)), (2, .ref md), (1, .ref hc), (0, .ref b)] := hl
  obtain ⟨v1, hv1⟩ : ∃ v, xsZ xs (i + 1) = v := ⟨_, rfl⟩
  have hr1 := xsZ_rng xs (i + 1)
  rw [hv1] at hr1
  obtain ⟨v2, hv2⟩ : ∃ v, xsZ xs (i + 2) = v := ⟨_, rfl⟩
  have hr2 := xsZ_rng xs (i + 2)
  rw [hv2] at hr2
  obtain ⟨v3, hv3⟩ : ∃ v, xsZ xs (i + 3) = v := ⟨_, rfl⟩
  have hr3 := xsZ_rng xs (i + 3)
  rw [hv3] at hr3
  obtain ⟨v4, hv4⟩ : ∃ v, xsZ xs (i + 4) = v := ⟨_, rfl⟩
  have hr4 := xsZ_rng xs (i + 4)
  rw [hv4] at hr4
  obtain ⟨v5, hv5⟩ : ∃ v, xsZ xs (i + 5) = v := ⟨_, rfl⟩
  have hr5 := xsZ_rng xs (i + 5)
  rw [hv5] at hr5
  obtain ⟨v6, hv6⟩ : ∃ v, xsZ xs (i + 6) = v := ⟨_, rfl⟩
  have hr6 := xsZ_rng xs (i + 6)
  rw [hv6] at hr6
  obtain ⟨v7, hv7⟩ : ∃ v, xsZ xs (i + 7) = v := ⟨_, rfl⟩
  have hr7 := xsZ_rng xs (i + 7)
  rw [hv7] at hr7
  refine lv_aload_n hx hb dL_law_572 rfl (lv_at hl 2 rfl) ?_
  refine lv_aload_n hx hb dL_law_573 rfl (lv_at hl 3 rfl) ?_
  refine lv_iload_n hx hb dL_law_574 rfl (lv_at hl 0 rfl) ?_
  refine z_iconst hx hb dL_law_575 ?_
  refine z_iadd hx hb dL_law_576 ?_
  refine z_sld hx hb hX hbl hbA hz (by omega) hL dL_law_577 hv1 ?_
  refine z_callVp (As := [.int (zI v1)]) (rest := []) (C := RX10) (T := TX10) (N := 10) F hK hz hl (c_X10_bisect l D cI cJ cZ hc on of os kp pd ys tu as tk ck ain adn amn ahn chn incn Tn tmn yrn v1 (by omega) (by first | assumption | omega) (by assumption)) (cwV 1 hts gL_law_X10_bisect rfl rfl rfl (by decide +kernel) ⟨Nat.le_of_ble_eq_true rfl, Nat.le_of_ble_eq_true rfl⟩) rfl 0 rfl [0, 1, 2] rfl rfl rfl rfl (Nat.le_of_ble_eq_true rfl) ⟨Nat.le_of_ble_eq_true rfl, Nat.le_of_ble_eq_true rfl⟩ dL_law_578 ?_
  refine lv_aload_n hx hb dL_law_581 rfl (lv_at hl 1 rfl) ?_
  refine lv_aload_n hx hb dL_law_582 rfl (lv_at hl 3 rfl) ?_
  refine lv_iload_n hx hb dL_law_583 rfl (lv_at hl 0 rfl) ?_
  refine z_iconst hx hb dL_law_584 ?_
  refine z_iadd hx hb dL_law_585 ?_
  refine z_sld hx hb hX hbl hbA hz (by omega) hL dL_law_586 hv1 ?_
  refine z_callVp (As := [.int (zI v1)]) (rest := [.int (zI (biR Tn incn v1))]) (C := RX11) (T := TX11) (N := 23) F hK hz hl (c_X11_bisect l D cI cJ cZ md bk nw nt df chk pa rc qu ct ft wn2 wy2 nx2 im ik incn matn kdb Tn cnn ln wat who rs act fse tmn yrn v1 (by omega) (by first | assumption | omega) (by assumption)) (cwV 1 hts gL_law_X11_bisect rfl rfl rfl (by decide +kernel) ⟨Nat.le_of_ble_eq_true rfl, Nat.le_of_ble_eq_true rfl⟩) rfl 49 rfl [49, 50] rfl rfl rfl rfl (Nat.le_of_ble_eq_true rfl) ⟨Nat.le_of_ble_eq_true rfl, Nat.le_of_ble_eq_true rfl⟩ dL_law_587 ?_
  refine lv_icmp_eq (tgt := 963) hx hb dL_law_590 (by decide) (fun _ => ?_) (fun h => absurd rfl h)
  exact hk incn drin matn ahen iyfn mkfn incf drif matf ahef iyff mkff incs dris mats ahes iyfs mkfs kpf sgn inc dri mat ahe iyz mkz kdf faf wtf dgf alf wnf wyf nxf kdb nwf ntf rcf quf ctf ftf wnm wym nxm imf Tn tmn yrn cnn Tf tmf yrf cnf Ts tms yrs cns ln acs why wac won T tm yr cn by0 bm0 pts all0 wat who rs act fse H locs ls (show lwI Tn incn drin matn tmn yrn iyfn mkfn cnn ln sgn kpf imf Tf incf drif matf tmf yrf iyff mkff cnf Ts incs dris mats tms yrs iyfs mkfs cns wnf wnm from ⟨hok, hpad, hkp, hif, his, htk, htm⟩) hz (lv_sub hl [0, 1, 2, 3] rfl)

set_option maxHeartbeats 8000000 in
set_option maxRecDepth 100000 in
theorem law_c15 {p : Program} {l : Launch} {e : Env} {s : State} {m : MethodId} {args : Array Value} {below : List Frame} {meth : Method} {c : Code} {Q : State → Prop} {D : va_G} {cI cJ cZ : ClassId} {A : Nat → Prop} {H0 : Heap} {b L : Nat} {xs : Nat → Int32} (hc on ain adn amn ahn chn iyn mkn of aif adf amf ahf chf iyf mkf os ais ads ams ahs chs iys mks kp pd sg ys o ai ad am ah ch iy mk kd tu fa wt dg as al tk wn ck wy nx md bk nw nt df chk pa rc qu ct ft wn2 wy2 nx2 im ik : Nat) {i : Int} (F : CallFix p m c cL_law 4 s args wsL_law RL) (hK : zK D cI cJ cZ s) (hX : va_X b L xs s H0) (hbl : b < H0.size) (hbA : ¬ A b) (hL : L ≤ 4096) (hi : 0 ≤ i ∧ i + 8 ≤ (L : Int))  (hk : lwK p l e s m args below meth c Q D cI cJ cZ A H0 b hc on ain adn amn ahn chn iyn mkn of aif adf amf ahf chf iyf mkf os ais ads ams ahs chs iys mks kp pd sg ys o ai ad am ah ch iy mk kd tu fa wt dg as al tk wn ck wy nx md bk nw nt df chk pa rc qu ct ft wn2 wy2 nx2 im ik i 963) : lwK p l e s m args below meth c Q D cI cJ cZ A H0 b hc on ain adn amn ahn chn iyn mkn of aif adf amf ahf chf iyf mkf os ais ads ams ahs chs iys mks kp pd sg ys o ai ad am ah ch iy mk kd tu fa wt dg as al tk wn ck wy nx md bk nw nt df chk pa rc qu ct ft wn2 wy2 nx2 im ik i 595 := by
  intro incn drin matn ahen iyfn mkfn incf drif matf ahef iyff mkff incs dris mats ahes iyfs mkfs kpf sgn inc dri mat ahe iyz mkz kdf faf wtf dgf alf wnf wyf nxf kdb nwf ntf rcf quf ctf ftf wnm wym nxm imf Tn tmn yrn cnn Tf tmf yrf cnf Ts tms yrs cns ln acs why wac won T tm yr cn by0 bm0 pts all0 wat who rs act fse H locs ls hI hz hl
  obtain ⟨hx, hb, hml, hown0, hts⟩ := id F
  have hown : s.vm.findClass RL = some m.cls := hown0
  obtain ⟨hok, hpad, hkp, hif, his, htk, htm⟩ := hI
  obtain ⟨hT, hbi, hbd, hmo, hty, hcn, hby, hbk⟩ := id hok
  have hbm := mOk_bd hmo
  obtain ⟨hln, hbs⟩ := id hpad
  obtain ⟨hwb, hwz⟩ := id htk
  have hz : zH D A H0 [(hc, .inr (8, [.ref on, .ref of, .ref os, .ref kp, .ref pd, .ref ys, .ref tu, .ref as, .ref tk, .ref ck])), (on, .inr (2, [.ref ain, .ref adn, .ref amn, .ref ahn, .ref chn, .int (zI Tn), .int (zI tmn), .int (zI yrn)])), (ain, .inl (cI, 9, .inl (zA incn))), (adn, .inl (cI, 9, .inl (zA drin))), (amn, .inl (cI, 9, .inl (zA matn))), (ahn, .inl (cI, 9, .inl (zA ahen))), (chn, .inr (1, [.ref iyn, .ref mkn, .int (zI cnn)])), (iyn, .inl (cI, 8, .inl (zA iyfn))), (mkn, .inl (cI, 8, .inl (zA mkfn))), (of, .inr (2, [.ref aif, .ref adf, .ref amf, .ref ahf, .ref chf, .int (zI Tf), .int (zI tmf), .int (zI yrf)])), (aif, .inl (cI, 9, .inl (zA incf))), (adf, .inl (cI, 9, .inl (zA drif))), (amf, .inl (cI, 9, .inl (zA matf))), (ahf, .inl (cI, 9, .inl (zA ahef))), (chf, .inr (1, [.ref iyf, .ref mkf, .int (zI cnf)])), (iyf, .inl (cI, 8, .inl (zA iyff))), (mkf, .inl (cI, 8, .inl (zA mkff))), (os, .inr (2, [.ref ais, .ref ads, .ref ams, .ref ahs, .ref chs, .int (zI Ts), .int (zI tms), .int (zI yrs)])), (ais, .inl (cI, 9, .inl (zA incs))), (ads, .inl (cI, 9, .inl (zA dris))), (ams, .inl (cI, 9, .inl (zA mats))), (ahs, .inl (cI, 9, .inl (zA ahes))), (chs, .inr (1, [.ref iys, .ref mks, .int (zI cns)])), (iys, .inl (cI, 8, .inl (zA iyfs))), (mks, .inl (cI, 8, .inl (zA mkfs))), (kp, .inl (cZ, 2, .inl (zA kpf))), (pd, .inr (3, [.ref sg, .int (zI ln)])), (sg, .inl (cI, 60, .inl (zA sgn))), (ys, .inr (7, [.ref o, .ref kd, .int (zI acs), .int (zI why), .int (zI wac), .int (zI won)])), (o, .inr (2, [.ref ai, .ref ad, .ref am, .ref ah, .ref ch, .int (zI T), .int (zI tm), .int (zI yr)])), (ai, .inl (cI, 9, .inl (zA inc))), (ad, .inl (cI, 9, .inl (zA dri))), (am, .inl (cI, 9, .inl (zA mat))), (ah, .inl (cI, 9, .inl (zA ahe))), (ch, .inr (1, [.ref iy, .ref mk, .int (zI cn)])), (iy, .inl (cI, 8, .inl (zA iyz))), (mk, .inl (cI, 8, .inl (zA mkz))), (kd, .inl (cI, 9, .inl (zA kdf))), (tu, .inr (5, [.ref fa, .ref wt, .ref dg])), (fa, .inl (cI, 180, .inl (zA faf))), (wt, .inl (cI, 180, .inl (zA wtf))), (dg, .inl (cI, 6, .inl (zA dgf))), (as, .inr (0, [.ref al, .int (zI by0), .int (zI bm0)])), (al, .inl (cI, 180, .inl (zA alf))), (tk, .inr (4, [.ref wn])), (wn, .inl (cZ, 180, .inl (zA wnf))), (ck, .inr (6, [.ref wy, .ref nx, .int (zI pts), .long (zL all0)])), (wy, .inl (cJ, 12, .inr (.inl (zAL wyf)))), (nx, .inl (cJ, 12, .inr (.inl (zAL nxf)))), (md, .inr (9, [.ref bk, .ref nw, .ref nt, .int (zI Tn), .ref df, .int (zI cnn), .ref chk, .int (zI ln), .ref pa, .int (zI wat), .int (zI who), .int (zI rs), .int (zI act), .int (zI fse), .ref rc, .ref qu, .ref ct, .ref ft, .ref wn2, .ref wy2, .ref nx2, .ref im, .ref ik])), (bk, .inl (cI, 29, .inl (zA (nwS incn matn kdb tmn yrn)))), (nw, .inl (cI, 29, .inl (zA nwf))), (nt, .inl (cI, 9, .inl (zA ntf))), (df, .inl (cI, 9, .inl (zA drin))), (chk, .inl (cI, 16, .inl (zA (chS iyfn mkfn)))), (pa, .inl (cI, 60, .inl (zA sgn))), (rc, .inl (cI, 180, .inl (zA rcf))), (qu, .inl (cI, 180, .inl (zA quf))), (ct, .inl (cI, 180, .inl (zA ctf))), (ft, .inl (cI, 3600, .inl (zA ftf))), (wn2, .inl (cZ, 180, .inl (zA wnm))), (wy2, .inl (cJ, 12, .inr (.inl (zAL wym)))), (nx2, .inl (cJ, 12, .inr (.inl (zAL nxm)))), (im, .inl (cI, 120, .inl (zA imf))), (ik, .inl (cZ, 2, .inl (zA kpf)))] H locs := hz
  have hl : lv_has ls 4 [(3, .int (zI i)), (2, .ref md), (1, .ref hc), (0, .ref b)] := hl
  obtain ⟨v1, hv1⟩ : ∃ v, xsZ xs (i + 1) = v := ⟨_, rfl⟩
  have hr1 := xsZ_rng xs (i + 1)
  rw [hv1] at hr1
  obtain ⟨v2, hv2⟩ : ∃ v, xsZ xs (i + 2) = v := ⟨_, rfl⟩
  have hr2 := xsZ_rng xs (i + 2)
  rw [hv2] at hr2
  obtain ⟨v3, hv3⟩ : ∃ v, xsZ xs (i + 3) = v := ⟨_, rfl⟩
  have hr3 := xsZ_rng xs (i + 3)
  rw [hv3] at hr3
  obtain ⟨v4, hv4⟩ : ∃ v, xsZ xs (i + 4) = v := ⟨_, rfl⟩
  have hr4 := xsZ_rng xs (i + 4)
  rw [hv4] at hr4
  obtain ⟨v5, hv5⟩ : ∃ v, xsZ xs (i + 5) = v := ⟨_, rfl⟩
  have hr5 := xsZ_rng xs (i + 5)
  rw [hv5] at hr5
  obtain ⟨v6, hv6⟩ : ∃ v, xsZ xs (i + 6) = v := ⟨_, rfl⟩
  have hr6 := xsZ_rng xs (i + 6)
  rw [hv6] at hr6
  obtain ⟨v7, hv7⟩ : ∃ v, xsZ xs (i + 7) = v := ⟨_, rfl⟩
  have hr7 := xsZ_rng xs (i + 7)
  rw [hv7] at hr7
  refine lv_aload_n hx hb dL_law_595 rfl (lv_at hl 2 rfl) ?_
  refine lv_aload_n hx hb dL_law_596 rfl (lv_at hl 3 rfl) ?_
  refine lv_iload_n hx hb dL_law_597 rfl (lv_at hl 0 rfl) ?_
  refine z_iconst hx hb dL_law_598 ?_
  refine z_iadd hx hb dL_law_599 ?_
  refine z_sld hx hb hX hbl hbA hz (by omega) hL dL_law_600 hv1 ?_
  refine lv_aload_n hx hb dL_law_601 rfl (lv_at hl 3 rfl) ?_
  refine lv_iload_n hx hb dL_law_602 rfl (lv_at hl 0 rfl) ?_
  refine z_iconst hx hb dL_law_603 ?_
  refine z_iadd hx hb dL_law_604 ?_
  refine z_sld hx hb hX hbl hbA hz (by omega) hL dL_law_605 hv2 ?_
  refine z_callVp (As := [.int (zI v1), .int (zI v2)]) (rest := []) (C := RX10) (T := TX10) (N := 10) F hK hz hl (c_X10_meet l D cI cJ cZ hc on of os kp pd ys tu as tk ck ain adn amn ahn chn incn drin Tn tmn yrn v1 v2 (by omega) (by first | assumption | omega) (by assumption) (by assumption)) (cwV 2 hts gL_law_X10_meet rfl rfl rfl (by decide +kernel) ⟨Nat.le_of_ble_eq_true rfl, Nat.le_of_ble_eq_true rfl⟩) rfl 0 rfl [0, 1, 2, 3] rfl rfl rfl rfl (Nat.le_of_ble_eq_true rfl) ⟨Nat.le_of_ble_eq_true rfl, Nat.le_of_ble_eq_true rfl⟩ dL_law_606 ?_
  refine lv_aload_n hx hb dL_law_609 rfl (lv_at hl 1 rfl) ?_
  refine lv_aload_n hx hb dL_law_610 rfl (lv_at hl 3 rfl) ?_
  refine lv_iload_n hx hb dL_law_611 rfl (lv_at hl 0 rfl) ?_
  refine z_iconst hx hb dL_law_612 ?_
  refine z_iadd hx hb dL_law_613 ?_
  refine z_sld hx hb hX hbl hbA hz (by omega) hL dL_law_614 hv1 ?_
  refine lv_aload_n hx hb dL_law_615 rfl (lv_at hl 3 rfl) ?_
  refine lv_iload_n hx hb dL_law_616 rfl (lv_at hl 0 rfl) ?_
  refine z_iconst hx hb dL_law_617 ?_
  refine z_iadd hx hb dL_law_618 ?_
  refine z_sld hx hb hX hbl hbA hz (by omega) hL dL_law_619 hv2 ?_
  refine z_callVp (As := [.int (zI v1), .int (zI v2)]) (rest := [.int (zI (meR Tn incn drin v1 v2))]) (C := RX11) (T := TX11) (N := 23) F hK hz hl (c_X11_meet l D cI cJ cZ md bk nw nt df chk pa rc qu ct ft wn2 wy2 nx2 im ik incn matn kdb drin Tn cnn ln wat who rs act fse tmn yrn v1 v2 (by omega) (by first | assumption | omega) (by assumption) (by assumption)) (cwV 2 hts gL_law_X11_meet rfl rfl rfl (by decide +kernel) ⟨Nat.le_of_ble_eq_true rfl, Nat.le_of_ble_eq_true rfl⟩) rfl 49 rfl [49, 50, 53] rfl rfl rfl rfl (Nat.le_of_ble_eq_true rfl) ⟨Nat.le_of_ble_eq_true rfl, Nat.le_of_ble_eq_true rfl⟩ dL_law_620 ?_
  refine lv_icmp_eq (tgt := 963) hx hb dL_law_623 (by decide) (fun _ => ?_) (fun h => absurd rfl h)
  exact hk incn drin matn ahen iyfn mkfn incf drif matf ahef iyff mkff incs dris mats ahes iyfs mkfs kpf sgn inc dri mat ahe iyz mkz kdf faf wtf dgf alf wnf wyf nxf kdb nwf ntf rcf quf ctf ftf wnm wym nxm imf Tn tmn yrn cnn Tf tmf yrf cnf Ts tms yrs cns ln acs why wac won T tm yr cn by0 bm0 pts all0 wat who rs act fse H locs ls (show lwI Tn incn drin matn tmn yrn iyfn mkfn cnn ln sgn kpf imf Tf incf drif matf tmf yrf iyff mkff cnf Ts incs dris mats tms yrs iyfs mkfs cns wnf wnm from ⟨hok, hpad, hkp, hif, his, htk, htm⟩) hz (lv_sub hl [0, 1, 2, 3] rfl)

set_option maxHeartbeats 8000000 in
set_option maxRecDepth 100000 in
theorem law_c16 {p : Program} {l : Launch} {e : Env} {s : State} {m : MethodId} {args : Array Value} {below : List Frame} {meth : Method} {c : Code} {Q : State → Prop} {D : va_G} {cI cJ cZ : ClassId} {A : Nat → Prop} {H0 : Heap} {b L : Nat} {xs : Nat → Int32} (hc on ain adn amn ahn chn iyn mkn of aif adf amf ahf chf iyf mkf os ais ads ams ahs chs iys mks kp pd sg ys o ai ad am ah ch iy mk kd tu fa wt dg as al tk wn ck wy nx md bk nw nt df chk pa rc qu ct ft wn2 wy2 nx2 im ik : Nat) {i : Int} (F : CallFix p m c cL_law 4 s args wsL_law RL) (hK : zK D cI cJ cZ s) (hX : va_X b L xs s H0) (hbl : b < H0.size) (hbA : ¬ A b) (hL : L ≤ 4096) (hi : 0 ≤ i ∧ i + 8 ≤ (L : Int))  (hk : lwK p l e s m args below meth c Q D cI cJ cZ A H0 b hc on ain adn amn ahn chn iyn mkn of aif adf amf ahf chf iyf mkf os ais ads ams ahs chs iys mks kp pd sg ys o ai ad am ah ch iy mk kd tu fa wt dg as al tk wn ck wy nx md bk nw nt df chk pa rc qu ct ft wn2 wy2 nx2 im ik i 963) : lwK p l e s m args below meth c Q D cI cJ cZ A H0 b hc on ain adn amn ahn chn iyn mkn of aif adf amf ahf chf iyf mkf os ais ads ams ahs chs iys mks kp pd sg ys o ai ad am ah ch iy mk kd tu fa wt dg as al tk wn ck wy nx md bk nw nt df chk pa rc qu ct ft wn2 wy2 nx2 im ik i 628 := by
  intro incn drin matn ahen iyfn mkfn incf drif matf ahef iyff mkff incs dris mats ahes iyfs mkfs kpf sgn inc dri mat ahe iyz mkz kdf faf wtf dgf alf wnf wyf nxf kdb nwf ntf rcf quf ctf ftf wnm wym nxm imf Tn tmn yrn cnn Tf tmf yrf cnf Ts tms yrs cns ln acs why wac won T tm yr cn by0 bm0 pts all0 wat who rs act fse H locs ls hI hz hl
  obtain ⟨hx, hb, hml, hown0, hts⟩ := id F
  have hown : s.vm.findClass RL = some m.cls := hown0
  obtain ⟨hok, hpad, hkp, hif, his, htk, htm⟩ := hI
  obtain ⟨hT, hbi, hbd, hmo, hty, hcn, hby, hbk⟩ := id hok
  have hbm := mOk_bd hmo
  obtain ⟨hln, hbs⟩ := id hpad
  obtain ⟨hwb, hwz⟩ := id htk
  have hz : zH D A H0 [(hc, .inr (8, [.ref on, .ref of, .ref os, .ref kp, .ref pd, .ref ys, .ref tu, .ref as, .ref tk, .ref ck])), (on, .inr (2, [.ref ain, .ref adn, .ref amn, .ref ahn, .ref chn, .int (zI Tn), .int (zI tmn), .int (zI yrn)])), (ain, .inl (cI, 9, .inl (zA incn))), (adn, .inl (cI, 9, .inl (zA drin))), (amn, .inl (cI, 9, .inl (zA matn))), (ahn, .inl (cI, 9, .inl (zA ahen))), (chn, .inr (1, [.ref iyn, .ref mkn, .int (zI cnn)])), (iyn, .inl (cI, 8, .inl (zA iyfn))), (mkn, .inl (cI, 8, .inl (zA mkfn))), (of, .inr (2, [.ref aif, .ref adf, .ref amf, .ref ahf, .ref chf, .int (zI Tf), .int (zI tmf), .int (zI yrf)])), (aif, .inl (cI, 9, .inl (zA incf))), (adf, .inl (cI, 9, .inl (zA drif))), (amf, .inl (cI, 9, .inl (zA matf))), (ahf, .inl (cI, 9, .inl (zA ahef))), (chf, .inr (1, [.ref iyf, .ref mkf, .int (zI cnf)])), (iyf, .inl (cI, 8, .inl (zA iyff))), (mkf, .inl (cI, 8, .inl (zA mkff))), (os, .inr (2, [.ref ais, .ref ads, .ref ams, .ref ahs, .ref chs, .int (zI Ts), .int (zI tms), .int (zI yrs)])), (ais, .inl (cI, 9, .inl (zA incs))), (ads, .inl (cI, 9, .inl (zA dris))), (ams, .inl (cI, 9, .inl (zA mats))), (ahs, .inl (cI, 9, .inl (zA ahes))), (chs, .inr (1, [.ref iys, .ref mks, .int (zI cns)])), (iys, .inl (cI, 8, .inl (zA iyfs))), (mks, .inl (cI, 8, .inl (zA mkfs))), (kp, .inl (cZ, 2, .inl (zA kpf))), (pd, .inr (3, [.ref sg, .int (zI ln)])), (sg, .inl (cI, 60, .inl (zA sgn))), (ys, .inr (7, [.ref o, .ref kd, .int (zI acs), .int (zI why), .int (zI wac), .int (zI won)])), (o, .inr (2, [.ref ai, .ref ad, .ref am, .ref ah, .ref ch, .int (zI T), .int (zI tm), .int (zI yr)])), (ai, .inl (cI, 9, .inl (zA inc))), (ad, .inl (cI, 9, .inl (zA dri))), (am, .inl (cI, 9, .inl (zA mat))), (ah, .inl (cI, 9, .inl (zA ahe))), (ch, .inr (1, [.ref iy, .ref mk, .int (zI cn)])), (iy, .inl (cI, 8, .inl (zA iyz))), (mk, .inl (cI, 8, .inl (zA mkz))), (kd, .inl (cI, 9, .inl (zA kdf))), (tu, .inr (5, [.ref fa, .ref wt, .ref dg])), (fa, .inl (cI, 180, .inl (zA faf))), (wt, .inl (cI, 180, .inl (zA wtf))), (dg, .inl (cI, 6, .inl (zA dgf))), (as, .inr (0, [.ref al, .int (zI by0), .int (zI bm0)])), (al, .inl (cI, 180, .inl (zA alf))), (tk, .inr (4, [.ref wn])), (wn, .inl (cZ, 180, .inl (zA wnf))), (ck, .inr (6, [.ref wy, .ref nx, .int (zI pts), .long (zL all0)])), (wy, .inl (cJ, 12, .inr (.inl (zAL wyf)))), (nx, .inl (cJ, 12, .inr (.inl (zAL nxf)))), (md, .inr (9, [.ref bk, .ref nw, .ref nt, .int (zI Tn), .ref df, .int (zI cnn), .ref chk, .int (zI ln), .ref pa, .int (zI wat), .int (zI who), .int (zI rs), .int (zI act), .int (zI fse), .ref rc, .ref qu, .ref ct, .ref ft, .ref wn2, .ref wy2, .ref nx2, .ref im, .ref ik])), (bk, .inl (cI, 29, .inl (zA (nwS incn matn kdb tmn yrn)))), (nw, .inl (cI, 29, .inl (zA nwf))), (nt, .inl (cI, 9, .inl (zA ntf))), (df, .inl (cI, 9, .inl (zA drin))), (chk, .inl (cI, 16, .inl (zA (chS iyfn mkfn)))), (pa, .inl (cI, 60, .inl (zA sgn))), (rc, .inl (cI, 180, .inl (zA rcf))), (qu, .inl (cI, 180, .inl (zA quf))), (ct, .inl (cI, 180, .inl (zA ctf))), (ft, .inl (cI, 3600, .inl (zA ftf))), (wn2, .inl (cZ, 180, .inl (zA wnm))), (wy2, .inl (cJ, 12, .inr (.inl (zAL wym)))), (nx2, .inl (cJ, 12, .inr (.inl (zAL nxm)))), (im, .inl (cI, 120, .inl (zA imf))), (ik, .inl (cZ, 2, .inl (zA kpf)))] H locs := hz
  have hl : lv_has ls 4 [(3, .int (zI i)), (2, .ref md), (1, .ref hc), (0, .ref b)] := hl
  obtain ⟨v1, hv1⟩ : ∃ v, xsZ xs (i + 1) = v := ⟨_, rfl⟩
  have hr1 := xsZ_rng xs (i + 1)
  rw [hv1] at hr1
  obtain ⟨v2, hv2⟩ : ∃ v, xsZ xs (i + 2) = v := ⟨_, rfl⟩
  have hr2 := xsZ_rng xs (i + 2)
  rw [hv2] at hr2
  obtain ⟨v3, hv3⟩ : ∃ v, xsZ xs (i + 3) = v := ⟨_, rfl⟩
  have hr3 := xsZ_rng xs (i + 3)
  rw [hv3] at hr3
  obtain ⟨v4, hv4⟩ : ∃ v, xsZ xs (i + 4) = v := ⟨_, rfl⟩
  have hr4 := xsZ_rng xs (i + 4)
  rw [hv4] at hr4
  obtain ⟨v5, hv5⟩ : ∃ v, xsZ xs (i + 5) = v := ⟨_, rfl⟩
  have hr5 := xsZ_rng xs (i + 5)
  rw [hv5] at hr5
  obtain ⟨v6, hv6⟩ : ∃ v, xsZ xs (i + 6) = v := ⟨_, rfl⟩
  have hr6 := xsZ_rng xs (i + 6)
  rw [hv6] at hr6
  obtain ⟨v7, hv7⟩ : ∃ v, xsZ xs (i + 7) = v := ⟨_, rfl⟩
  have hr7 := xsZ_rng xs (i + 7)
  rw [hv7] at hr7
  refine lv_aload_n hx hb dL_law_628 rfl (lv_at hl 2 rfl) ?_
  refine lv_aload_n hx hb dL_law_629 rfl (lv_at hl 3 rfl) ?_
  refine lv_iload_n hx hb dL_law_630 rfl (lv_at hl 0 rfl) ?_
  refine z_iconst hx hb dL_law_631 ?_
  refine z_iadd hx hb dL_law_632 ?_
  refine z_sld hx hb hX hbl hbA hz (by omega) hL dL_law_633 hv1 ?_
  refine lv_aload_n hx hb dL_law_634 rfl (lv_at hl 3 rfl) ?_
  refine lv_iload_n hx hb dL_law_635 rfl (lv_at hl 0 rfl) ?_
  refine z_iconst hx hb dL_law_636 ?_
  refine z_iadd hx hb dL_law_637 ?_
  refine z_sld hx hb hX hbl hbA hz (by omega) hL dL_law_638 hv2 ?_
  refine z_callVw (As := [.int (zI v1), .int (zI v2)]) (rest := []) (C := RX10) (T := TX10) (N := 10) F hK hz hl (c_X10_chalk l D cI cJ cZ hc on of os kp pd ys tu as tk ck ain adn amn ahn chn iyn mkn iyfn mkfn Tn tmn yrn cnn v1 v2 (by omega) (by omega)) (cwV 2 hts gL_law_X10_chalk rfl rfl rfl (by decide +kernel) ⟨Nat.le_of_ble_eq_true rfl, Nat.le_of_ble_eq_true rfl⟩) rfl 0 rfl [0, 1, 6, 7, 8] rfl rfl (by decide +kernel) rfl rfl (Nat.le_of_ble_eq_true rfl) ⟨Nat.le_of_ble_eq_true rfl, Nat.le_of_ble_eq_true rfl⟩ dL_law_639 (fun u H locs hu hz => ?_)
  obtain ⟨r_1, y1_2, m1_3, c1_4⟩ := u
  have hu : r_1 = chR cnn v1 v2 ∧ y1_2 = chY iyfn cnn v1 v2 ∧ m1_3 = chM mkfn cnn v1 v2 ∧ c1_4 = chN cnn v1 v2 := hu
  obtain ⟨g639_0, g639_1, g639_2, g639_3⟩ := hu
  have g639_0 := g639_0.symm
  subst g639_0
  have g639_1 := g639_1.symm
  subst g639_1
  have g639_2 := g639_2.symm
  subst g639_2
  have g639_3 := g639_3.symm
  subst g639_3
  have hz : zH D A H0 [(hc, .inr (8, [.ref on, .ref of, .ref os, .ref kp, .ref pd, .ref ys, .ref tu, .ref as, .ref tk, .ref ck])), (on, .inr (2, [.ref ain, .ref adn, .ref amn, .ref ahn, .ref chn, .int (zI Tn), .int (zI tmn), .int (zI yrn)])), (ain, .inl (cI, 9, .inl (zA incn))), (adn, .inl (cI, 9, .inl (zA drin))), (amn, .inl (cI, 9, .inl (zA matn))), (ahn, .inl (cI, 9, .inl (zA ahen))), (chn, .inr (1, [.ref iyn, .ref mkn, .int (zI (chN cnn v1 v2))])), (iyn, .inl (cI, 8, .inl (zA (chY iyfn cnn v1 v2)))), (mkn, .inl (cI, 8, .inl (zA (chM mkfn cnn v1 v2)))), (of, .inr (2, [.ref aif, .ref adf, .ref amf, .ref ahf, .ref chf, .int (zI Tf), .int (zI tmf), .int (zI yrf)])), (aif, .inl (cI, 9, .inl (zA incf))), (adf, .inl (cI, 9, .inl (zA drif))), (amf, .inl (cI, 9, .inl (zA matf))), (ahf, .inl (cI, 9, .inl (zA ahef))), (chf, .inr (1, [.ref iyf, .ref mkf, .int (zI cnf)])), (iyf, .inl (cI, 8, .inl (zA iyff))), (mkf, .inl (cI, 8, .inl (zA mkff))), (os, .inr (2, [.ref ais, .ref ads, .ref ams, .ref ahs, .ref chs, .int (zI Ts), .int (zI tms), .int (zI yrs)])), (ais, .inl (cI, 9, .inl (zA incs))), (ads, .inl (cI, 9, .inl (zA dris))), (ams, .inl (cI, 9, .inl (zA mats))), (ahs, .inl (cI, 9, .inl (zA ahes))), (chs, .inr (1, [.ref iys, .ref mks, .int (zI cns)])), (iys, .inl (cI, 8, .inl (zA iyfs))), (mks, .inl (cI, 8, .inl (zA mkfs))), (kp, .inl (cZ, 2, .inl (zA kpf))), (pd, .inr (3, [.ref sg, .int (zI ln)])), (sg, .inl (cI, 60, .inl (zA sgn))), (ys, .inr (7, [.ref o, .ref kd, .int (zI acs), .int (zI why), .int (zI wac), .int (zI won)])), (o, .inr (2, [.ref ai, .ref ad, .ref am, .ref ah, .ref ch, .int (zI T), .int (zI tm), .int (zI yr)])), (ai, .inl (cI, 9, .inl (zA inc))), (ad, .inl (cI, 9, .inl (zA dri))), (am, .inl (cI, 9, .inl (zA mat))), (ah, .inl (cI, 9, .inl (zA ahe))), (ch, .inr (1, [.ref iy, .ref mk, .int (zI cn)])), (iy, .inl (cI, 8, .inl (zA iyz))), (mk, .inl (cI, 8, .inl (zA mkz))), (kd, .inl (cI, 9, .inl (zA kdf))), (tu, .inr (5, [.ref fa, .ref wt, .ref dg])), (fa, .inl (cI, 180, .inl (zA faf))), (wt, .inl (cI, 180, .inl (zA wtf))), (dg, .inl (cI, 6, .inl (zA dgf))), (as, .inr (0, [.ref al, .int (zI by0), .int (zI bm0)])), (al, .inl (cI, 180, .inl (zA alf))), (tk, .inr (4, [.ref wn])), (wn, .inl (cZ, 180, .inl (zA wnf))), (ck, .inr (6, [.ref wy, .ref nx, .int (zI pts), .long (zL all0)])), (wy, .inl (cJ, 12, .inr (.inl (zAL wyf)))), (nx, .inl (cJ, 12, .inr (.inl (zAL nxf)))), (md, .inr (9, [.ref bk, .ref nw, .ref nt, .int (zI Tn), .ref df, .int (zI cnn), .ref chk, .int (zI ln), .ref pa, .int (zI wat), .int (zI who), .int (zI rs), .int (zI act), .int (zI fse), .ref rc, .ref qu, .ref ct, .ref ft, .ref wn2, .ref wy2, .ref nx2, .ref im, .ref ik])), (bk, .inl (cI, 29, .inl (zA (nwS incn matn kdb tmn yrn)))), (nw, .inl (cI, 29, .inl (zA nwf))), (nt, .inl (cI, 9, .inl (zA ntf))), (df, .inl (cI, 9, .inl (zA drin))), (chk, .inl (cI, 16, .inl (zA (chS iyfn mkfn)))), (pa, .inl (cI, 60, .inl (zA sgn))), (rc, .inl (cI, 180, .inl (zA rcf))), (qu, .inl (cI, 180, .inl (zA quf))), (ct, .inl (cI, 180, .inl (zA ctf))), (ft, .inl (cI, 3600, .inl (zA ftf))), (wn2, .inl (cZ, 180, .inl (zA wnm))), (wy2, .inl (cJ, 12, .inr (.inl (zAL wym)))), (nx2, .inl (cJ, 12, .inr (.inl (zAL nxm)))), (im, .inl (cI, 120, .inl (zA imf))), (ik, .inl (cZ, 2, .inl (zA kpf)))] H locs := hz
  refine lv_aload_n hx hb dL_law_642 rfl (lv_at hl 1 rfl) ?_
  refine lv_aload_n hx hb dL_law_643 rfl (lv_at hl 3 rfl) ?_
  refine lv_iload_n hx hb dL_law_644 rfl (lv_at hl 0 rfl) ?_
  refine z_iconst hx hb dL_law_645 ?_
  refine z_iadd hx hb dL_law_646 ?_
  refine z_sld hx hb hX hbl hbA hz (by omega) hL dL_law_647 hv1 ?_
  refine lv_aload_n hx hb dL_law_648 rfl (lv_at hl 3 rfl) ?_
  refine lv_iload_n hx hb dL_law_649 rfl (lv_at hl 0 rfl) ?_
  refine z_iconst hx hb dL_law_650 ?_
  refine z_iadd hx hb dL_law_651 ?_
  refine z_sld hx hb hX hbl hbA hz (by omega) hL dL_law_652 hv2 ?_
  refine z_callVw (As := [.int (zI v1), .int (zI v2)]) (rest := [.int (zI (chR cnn v1 v2))]) (C := RX11) (T := TX11) (N := 23) F hK hz hl (c_X11_chalk l D cI cJ cZ md bk nw nt df chk pa rc qu ct ft wn2 wy2 nx2 im ik iyfn mkfn Tn cnn ln wat who rs act fse v1 v2 (by omega) (by omega)) (cwV 2 hts gL_law_X11_chalk rfl rfl rfl (by decide +kernel) ⟨Nat.le_of_ble_eq_true rfl, Nat.le_of_ble_eq_true rfl⟩) rfl 49 rfl [49, 54] rfl rfl (by decide +kernel) rfl rfl (Nat.le_of_ble_eq_true rfl) ⟨Nat.le_of_ble_eq_true rfl, Nat.le_of_ble_eq_true rfl⟩ dL_law_653 (fun u H locs hu hz => ?_)
  obtain ⟨r_5, y1_6, m1_7, c1_8⟩ := u
  have hu : r_5 = chR cnn v1 v2 ∧ y1_6 = chY iyfn cnn v1 v2 ∧ m1_7 = chM mkfn cnn v1 v2 ∧ c1_8 = chN cnn v1 v2 := hu
  obtain ⟨g653_0, g653_1, g653_2, g653_3⟩ := hu
  have g653_0 := g653_0.symm
  subst g653_0
  have g653_1 := g653_1.symm
  subst g653_1
  have g653_2 := g653_2.symm
  subst g653_2
  have g653_3 := g653_3.symm
  subst g653_3
  have hz : zH D A H0 [(hc, .inr (8, [.ref on, .ref of, .ref os, .ref kp, .ref pd, .ref ys, .ref tu, .ref as, .ref tk, .ref ck])), (on, .inr (2, [.ref ain, .ref adn, .ref amn, .ref ahn, .ref chn, .int (zI Tn), .int (zI tmn), .int (zI yrn)])), (ain, .inl (cI, 9, .inl (zA incn))), (adn, .inl (cI, 9, .inl (zA drin))), (amn, .inl (cI, 9, .inl (zA matn))), (ahn, .inl (cI, 9, .inl (zA ahen))), (chn, .inr (1, [.ref iyn, .ref mkn, .int (zI (chN cnn v1 v2))])), (iyn, .inl (cI, 8, .inl (zA (chY iyfn cnn v1 v2)))), (mkn, .inl (cI, 8, .inl (zA (chM mkfn cnn v1 v2)))), (of, .inr (2, [.ref aif, .ref adf, .ref amf, .ref ahf, .ref chf, .int (zI Tf), .int (zI tmf), .int (zI yrf)])), (aif, .inl (cI, 9, .inl (zA incf))), (adf, .inl (cI, 9, .inl (zA drif))), (amf, .inl (cI, 9, .inl (zA matf))), (ahf, .inl (cI, 9, .inl (zA ahef))), (chf, .inr (1, [.ref iyf, .ref mkf, .int (zI cnf)])), (iyf, .inl (cI, 8, .inl (zA iyff))), (mkf, .inl (cI, 8, .inl (zA mkff))), (os, .inr (2, [.ref ais, .ref ads, .ref ams, .ref ahs, .ref chs, .int (zI Ts), .int (zI tms), .int (zI yrs)])), (ais, .inl (cI, 9, .inl (zA incs))), (ads, .inl (cI, 9, .inl (zA dris))), (ams, .inl (cI, 9, .inl (zA mats))), (ahs, .inl (cI, 9, .inl (zA ahes))), (chs, .inr (1, [.ref iys, .ref mks, .int (zI cns)])), (iys, .inl (cI, 8, .inl (zA iyfs))), (mks, .inl (cI, 8, .inl (zA mkfs))), (kp, .inl (cZ, 2, .inl (zA kpf))), (pd, .inr (3, [.ref sg, .int (zI ln)])), (sg, .inl (cI, 60, .inl (zA sgn))), (ys, .inr (7, [.ref o, .ref kd, .int (zI acs), .int (zI why), .int (zI wac), .int (zI won)])), (o, .inr (2, [.ref ai, .ref ad, .ref am, .ref ah, .ref ch, .int (zI T), .int (zI tm), .int (zI yr)])), (ai, .inl (cI, 9, .inl (zA inc))), (ad, .inl (cI, 9, .inl (zA dri))), (am, .inl (cI, 9, .inl (zA mat))), (ah, .inl (cI, 9, .inl (zA ahe))), (ch, .inr (1, [.ref iy, .ref mk, .int (zI cn)])), (iy, .inl (cI, 8, .inl (zA iyz))), (mk, .inl (cI, 8, .inl (zA mkz))), (kd, .inl (cI, 9, .inl (zA kdf))), (tu, .inr (5, [.ref fa, .ref wt, .ref dg])), (fa, .inl (cI, 180, .inl (zA faf))), (wt, .inl (cI, 180, .inl (zA wtf))), (dg, .inl (cI, 6, .inl (zA dgf))), (as, .inr (0, [.ref al, .int (zI by0), .int (zI bm0)])), (al, .inl (cI, 180, .inl (zA alf))), (tk, .inr (4, [.ref wn])), (wn, .inl (cZ, 180, .inl (zA wnf))), (ck, .inr (6, [.ref wy, .ref nx, .int (zI pts), .long (zL all0)])), (wy, .inl (cJ, 12, .inr (.inl (zAL wyf)))), (nx, .inl (cJ, 12, .inr (.inl (zAL nxf)))), (md, .inr (9, [.ref bk, .ref nw, .ref nt, .int (zI Tn), .ref df, .int (zI (chN cnn v1 v2)), .ref chk, .int (zI ln), .ref pa, .int (zI wat), .int (zI who), .int (zI rs), .int (zI act), .int (zI fse), .ref rc, .ref qu, .ref ct, .ref ft, .ref wn2, .ref wy2, .ref nx2, .ref im, .ref ik])), (bk, .inl (cI, 29, .inl (zA (nwS incn matn kdb tmn yrn)))), (nw, .inl (cI, 29, .inl (zA nwf))), (nt, .inl (cI, 9, .inl (zA ntf))), (df, .inl (cI, 9, .inl (zA drin))), (chk, .inl (cI, 16, .inl (zA (chS (chY iyfn cnn v1 v2) (chM mkfn cnn v1 v2))))), (pa, .inl (cI, 60, .inl (zA sgn))), (rc, .inl (cI, 180, .inl (zA rcf))), (qu, .inl (cI, 180, .inl (zA quf))), (ct, .inl (cI, 180, .inl (zA ctf))), (ft, .inl (cI, 3600, .inl (zA ftf))), (wn2, .inl (cZ, 180, .inl (zA wnm))), (wy2, .inl (cJ, 12, .inr (.inl (zAL wym)))), (nx2, .inl (cJ, 12, .inr (.inl (zAL nxm)))), (im, .inl (cI, 120, .inl (zA imf))), (ik, .inl (cZ, 2, .inl (zA kpf)))] H locs := hz
  refine lv_icmp_eq (tgt := 963) hx hb dL_law_656 (by decide) (fun _ => ?_) (fun h => absurd rfl h)
  exact hk incn drin matn ahen (chY iyfn cnn v1 v2) (chM mkfn cnn v1 v2) incf drif matf ahef iyff mkff incs dris mats ahes iyfs mkfs kpf sgn inc dri mat ahe iyz mkz kdf faf wtf dgf alf wnf wyf nxf kdb nwf ntf rcf quf ctf ftf wnm wym nxm imf Tn tmn yrn (chN cnn v1 v2) Tf tmf yrf cnf Ts tms yrs cns ln acs why wac won T tm yr cn by0 bm0 pts all0 wat who rs act fse H locs ls (show lwI Tn incn drin matn tmn yrn (chY iyfn cnn v1 v2) (chM mkfn cnn v1 v2) (chN cnn v1 v2) ln sgn kpf imf Tf incf drif matf tmf yrf iyff mkff cnf Ts incs dris mats tms yrs iyfs mkfs cns wnf wnm from ⟨ok_ch hok v1 v2, hpad, hkp, hif, his, htk, htm⟩) hz (lv_sub hl [0, 1, 2, 3] rfl)
