set_option maxHeartbeats 8000000 in
set_option maxRecDepth 100000 in
theorem law_c17 {p : Program} {l : Launch} {e : Env} {s : State} {m : MethodId} {args : Array Value} {below : List Frame} {meth : Method} {c : Code} {Q : State → Prop} {D : va_G} {cI cJ cZ : ClassId} {A : Nat → Prop} {H0 : Heap} {b L : Nat} {xs : Nat → Int32} (hc on ain adn amn ahn chn iyn mkn of aif adf amf ahf chf iyf mkf os ais ads ams ahs chs iys mks kp pd sg ys o ai ad am ah ch iy mk kd tu fa wt dg as al tk wn ck wy nx md bk nw nt df chk pa rc qu ct ft wn2 wy2 nx2 im ik : Nat) {i : Int} (F : CallFix p m c cL_law 4 s args wsL_law RL) (hK : zK D cI cJ cZ s) (hX : va_X b L xs s H0) (hbl : b < H0.size) (hbA : ¬ A b) (hL : L ≤ 4096) (hi : 0 ≤ i ∧ i + 8 ≤ (L : Int))  (hk : lwK p l e s m args below meth c Q D cI cJ cZ A H0 b hc on ain adn amn ahn chn iyn mkn of aif adf amf ahf chf iyf mkf os ais ads ams ahs chs iys mks kp pd sg ys o ai ad am ah ch iy mk kd tu fa wt dg as al tk wn ck wy nx md bk nw nt df chk pa rc qu ct ft wn2 wy2 nx2 im ik i 963) : lwK p l e s m args below meth c Q D cI cJ cZ A H0 b hc on ain adn amn ahn chn iyn mkn of aif adf amf ahf chf iyf mkf os ais ads ams ahs chs iys mks kp pd sg ys o ai ad am ah ch iy mk kd tu fa wt dg as al tk wn ck wy nx md bk nw nt df chk pa rc qu ct ft wn2 wy2 nx2 im ik i 661 := by
  intro incn drin matn ahen iyfn mkfn incf drif matf ahef iyff mkff incs dris mats ahes iyfs mkfs kpf sgn inc dri mat ahe iyz mkz kdf faf wtf dgf alf wnf wyf nxf kdb nwf ntf rcf quf ctf ftf wnm wym nxm imf Tn tmn yrn cnn Tf tmf yrf cnf Ts tms yrs cns ln acs why wac won T tm yr cn by0 bm0 pts all0 wat who rs act fse H locs ls hI hz hl
  obtain ⟨hx, hb, hml, hown0, hts⟩ := id F
  have hown : s.vm.findClass RL = some m.cls := hown0
  obtain ⟨hok, hpad, hkp, hif, his, htk, htm⟩ := hI
  obtain ⟨hT, hbi, hbd, hmo, hty, hcn, hby, hbk⟩ := id hok
  have hbm := mOk_bd hmo
  obtain ⟨hln, hbs⟩ := id hpad
  obtain ⟨hwb, hwz⟩ := id htk
  have hz : zH D A H0 [(hc, .inr (8, [.ref on, .ref of, .ref os, .ref kp, .ref pd, .ref ys, .ref tu, .ref as, .ref tk, .ref ck])), (on, .inr (2, [.ref ain, .ref adn, .ref amn, .ref ahn, .ref chn, .int (zI Tn), .int (zI tmn), .int (zI yrn)])), (ain, .inl (cI, 9, .inl (zA incn))), (adn, .inl (cI, 9, .inl (zA drin))), (amn, .inl (cI, 9, .inl (zA matn))), (ahn, .inl (cI, 9, .inl (zA ahen))), (chn, .inr (1, [.ref iyn, .ref mkn, .int (zI cnn)])), (iyn, .inl (cI, 8, .inl (zA iyfn))), (mkn, .inl (cI, 8, .inl (zA mkfn))), (of, .inr (2, [.ref aif, .ref adf, .ref amf, .ref ahf, .ref chf, .int (zI Tf), .int (zI tmf), .int (zI yrf)])), (aif, .inl (cI, 9, .inl (zA incf))), (adf, .inl (cI, 9, .inl (zA drif))), (amf, .inl (cI, 9, .inl (zA matf))), (ahf, .inl (cI, 9, .inl (zA ahef))), (chf, .inr (1, [.ref iyf, .ref mkf, .int (zI cnf)])), (iyf, .inl (cI, 8, .inl (zA iyff))), (mkf, .inl (cI, 8, .inl (zA mkff))), (os, .inr (2, [.ref ais, .ref ads, .ref ams, .ref ahs, .ref chs, .int (zI Ts), .int (zI tms), .int (zI yrs)])), (ais, .inl (cI, 9, .inl (zA incs))), (ads, .inl (cI, 9, .inl (zA dris))), (ams, .inl (cI, 9, .inl (zA mats))), (ahs, .inl (cI, 9, .inl (zA ahes))), (chs, .inr (1, [.ref iys, .ref mks, .int (zI cns)])), (iys, .inl (cI, 8, .inl (zA iyfs))), (mks, .inl (cI, 8, .inl (zA mkfs))), (kp, .inl (cZ, 2, .inl (zA kpf))), (pd, .inr (3, [.ref sg, .int (zI ln)])), (sg, .inl (cI, 60, .inl (zA sgn))), (ys, .inr (7, [.ref o, .ref kd, .int (zI acs), .int (zI why), .int (zI wac), .int (zI won)])), (o, .inr (2, [.ref ai, .ref ad, .ref am, .ref ah, .ref ch, .int (zI T), .int (zI tm), .int (zI yr)])), (ai, .inl (cI, 9, .inl (zA inc))), (ad, .inl (cI, 9, .inl (zA dri))), (am, .inl (cI, 9, .inl (zA mat))), (ah, .inl (cI, 9, .inl (zA ahe))), (ch, .inr (1, [.ref iy, .ref mk, .int (zI cn)])), (iy, .inl (cI, 8, .inl (zA iyz))), (mk, .inl (cI, 8, .inl (zA mkz))), (kd, .inl (cI, 9, .inl (zA kdf))), (tu, .inr (5, [.ref fa, .ref wt, .ref dg])), (fa, .inl (cI, 180, .inl (zA faf))), (wt, .inl (cI, 180, .inl (zA wtf))), (dg, .inl (cI, 6, .inl (zA dgf))), (as, .inr (0, [.ref al, .int (zI by0), .int (zI bm0)])), (al, .inl (cI, 180, .inl (zA alf))), (tk, .inr (4, [.ref wn])), (wn, .inl (cZ, 180, .inl (zA wnf))), (ck, .inr (6, [.ref wy, .ref nx, .int (zI pts), .long (zL all0)])), (wy, .inl (cJ, 12, .inr (.inl (zAL wyf)))), (nx, .inl (cJ, 12, .inr (.inl (zAL nxf)))), (md, .inr (9, [.ref bk, .ref nw, .ref nt, .int (zI Tn), .ref df, .int (zI cnn), .ref chk, .int (zI ln), .ref pa, .int (zI wat), .int (zI who), .int (zI rs), .int (zI act), .int (zI fse), .ref rc, .ref qu, .ref ct, .ref ft, .ref wn2, .ref wy2, .ref nx2, .ref im, .ref ik])), (bk, .inl (cI, 29, .inl (zA (nwS incn matn kdb tmn yrn)))), (nw, .inl (cI, 29, .inl (zA nwf))), (nt, .inl (cI, 9, .inl (zA ntf))), (df, .inl (cI, 9, .inl (zA drin))), (chk, .inl (cI, 16, .inl (zA (chS iyfn mkfn)))), (pa, .inl (cI, 60, .inl (zA sgn))), (rc, .inl (cI, 180, .inl (zA rcf))), (qu, .inl (cI, 180, .inl (zA quf))), (ct, .inl (cI, 180, .inl (zA ctf))), (ft, .inl (cI, 3600, .inl (zA ftf))), (wn2, .inl (cZ, 180, .inl (zA wnm))), (wy2, .inl (cJ, 12, .inr (.inl (zAL wym)))), (nx2, .inl (cJ, 12, .inr (.inl (zAL nxm)))), (im, .inl (cI, 120, .inl (zA imf))), (ik, .inl (cZ, 2, .inl (zA kpf)))] H locs := hz
  have hl : lv_has ls 4 [(3, .int (zI i)), (2, .ref md), (1, .ref hc), (0, .ref b)] := hl
  obtain ⟨v1, hv1⟩ : ∃ v, xsZ xs (i + 1) = v := ⟨_, rfl⟩
  have hr1 := xsZ_rng xs (i + 1)
  rw [hv1] at hr1
  obtain ⟨v2, hv2⟩ : ∃ v, xsZ xs (i + 2) = v := ⟨_, rfl⟩
  have hr2 := xsZ_rng xs (i + 2)
  rw [hv2] at hr2
  obtain ⟨v3, hv3⟩ : ∃ v, xsZ xs (i + 3) = v := ⟨_, rfl⟩
  have hr3 := xsZ_rng xs (i + 3)
  rw [hv3] at hr3
  obtain ⟨v4, hv4⟩ : ∃ v, xsZ xs (i + 4) = v := ⟨_, rfl⟩
  have hr4 := xsZ_rng xs (i + 4)
  rw [hv4] at hr4
  obtain ⟨v5, hv5⟩ : ∃ v, xsZ xs (i + 5) = v := ⟨_, rfl⟩
  have hr5 := xsZ_rng xs (i + 5)
  rw [hv5] at hr5
  obtain ⟨v6, hv6⟩ : ∃ v, xsZ xs (i + 6) = v := ⟨_, rfl⟩
  have hr6 := xsZ_rng xs (i + 6)
  rw [hv6] at hr6
  obtain ⟨v7, hv7⟩ : ∃ v, xsZ xs (i + 7) = v := ⟨_, rfl⟩
  have hr7 := xsZ_rng xs (i + 7)
  rw [hv7] at hr7
  refine lv_aload_n hx hb dL_law_661 rfl (lv_at hl 2 rfl) ?_
  refine z_callVw (As := []) (rest := []) (C := RX10) (T := TX10) (N := 10) F hK hz hl (c_X10_forget l D cI cJ cZ hc on of os kp pd ys tu as tk ck ain adn amn ahn chn iyn mkn Tn tmn yrn cnn ) (cwV 0 hts gL_law_X10_forget rfl rfl rfl (by decide +kernel) ⟨Nat.le_of_ble_eq_true rfl, Nat.le_of_ble_eq_true rfl⟩) rfl 0 rfl [0, 1, 6] rfl rfl (by decide +kernel) rfl rfl (Nat.le_of_ble_eq_true rfl) ⟨Nat.le_of_ble_eq_true rfl, Nat.le_of_ble_eq_true rfl⟩ dL_law_662 (fun u H locs hu hz => ?_)
  obtain ⟨r_1, c1_2⟩ := u
  have hu : r_1 = cnn ∧ c1_2 = 0 := hu
  obtain ⟨g662_0, g662_1⟩ := hu
  have g662_0 := g662_0.symm
  subst g662_0
  have g662_1 := g662_1.symm
  subst g662_1
  have hz : zH D A H0 [(hc, .inr (8, [.ref on, .ref of, .ref os, .ref kp, .ref pd, .ref ys, .ref tu, .ref as, .ref tk, .ref ck])), (on, .inr (2, [.ref ain, .ref adn, .ref amn, .ref ahn, .ref chn, .int (zI Tn), .int (zI tmn), .int (zI yrn)])), (ain, .inl (cI, 9, .inl (zA incn))), (adn, .inl (cI, 9, .inl (zA drin))), (amn, .inl (cI, 9, .inl (zA matn))), (ahn, .inl (cI, 9, .inl (zA ahen))), (chn, .inr (1, [.ref iyn, .ref mkn, .int (zI 0)])), (iyn, .inl (cI, 8, .inl (zA iyfn))), (mkn, .inl (cI, 8, .inl (zA mkfn))), (of, .inr (2, [.ref aif, .ref adf, .ref amf, .ref ahf, .ref chf, .int (zI Tf), .int (zI tmf), .int (zI yrf)])), (aif, .inl (cI, 9, .inl (zA incf))), (adf, .inl (cI, 9, .inl (zA drif))), (amf, .inl (cI, 9, .inl (zA matf))), (ahf, .inl (cI, 9, .inl (zA ahef))), (chf, .inr (1, [.ref iyf, .ref mkf, .int (zI cnf)])), (iyf, .inl (cI, 8, .inl (zA iyff))), (mkf, .inl (cI, 8, .inl (zA mkff))), (os, .inr (2, [.ref ais, .ref ads, .ref ams, .ref ahs, .ref chs, .int (zI Ts), .int (zI tms), .int (zI yrs)])), (ais, .inl (cI, 9, .inl (zA incs))), (ads, .inl (cI, 9, .inl (zA dris))), (ams, .inl (cI, 9, .inl (zA mats))), (ahs, .inl (cI, 9, .inl (zA ahes))), (chs, .inr (1, [.ref iys, .ref mks, .int (zI cns)])), (iys, .inl (cI, 8, .inl (zA iyfs))), (mks, .inl (cI, 8, .inl (zA mkfs))), (kp, .inl (cZ, 2, .inl (zA kpf))), (pd, .inr (3, [.ref sg, .int (zI ln)])), (sg, .inl (cI, 60, .inl (zA sgn))), (ys, .inr (7, [.ref o, .ref kd, .int (zI acs), .int (zI why), .int (zI wac), .int (zI won)])), (o, .inr (2, [.ref ai, .ref ad, .ref am, .ref ah, .ref ch, .int (zI T), .int (zI tm), .int (zI yr)])), (ai, .inl (cI, 9, .inl (zA inc))), (ad, .inl (cI, 9, .inl (zA dri))), (am, .inl (cI, 9, .inl (zA mat))), (ah, .inl (cI, 9, .inl (zA ahe))), (ch, .inr (1, [.ref iy, .ref mk, .int (zI cn)])), (iy, .inl (cI, 8, .inl (zA iyz))), (mk, .inl (cI, 8, .inl (zA mkz))), (kd, .inl (cI, 9, .inl (zA kdf))), (tu, .inr (5, [.ref fa, .ref wt, .ref dg])), (fa, .inl (cI, 180, .inl (zA faf))), (wt, .inl (cI, 180, .inl (zA wtf))), (dg, .inl (cI, 6, .inl (zA dgf))), (as, .inr (0, [.ref al, .int (zI by0), .int (zI bm0)])), (al, .inl (cI, 180, .inl (zA alf))), (tk, .inr (4, [.ref wn])), (wn, .inl (cZ, 180, .inl (zA wnf))), (ck, .inr (6, [.ref wy, .ref nx, .int (zI pts), .long (zL all0)])), (wy, .inl (cJ, 12, .inr (.inl (zAL wyf)))), (nx, .inl (cJ, 12, .inr (.inl (zAL nxf)))), (md, .inr (9, [.ref bk, .ref nw, .ref nt, .int (zI Tn), .ref df, .int (zI cnn), .ref chk, .int (zI ln), .ref pa, .int (zI wat), .int (zI who), .int (zI rs), .int (zI act), .int (zI fse), .ref rc, .ref qu, .ref ct, .ref ft, .ref wn2, .ref wy2, .ref nx2, .ref im, .ref ik])), (bk, .inl (cI, 29, .inl (zA (nwS incn matn kdb tmn yrn)))), (nw, .inl (cI, 29, .inl (zA nwf))), (nt, .inl (cI, 9, .inl (zA ntf))), (df, .inl (cI, 9, .inl (zA drin))), (chk, .inl (cI, 16, .inl (zA (chS iyfn mkfn)))), (pa, .inl (cI, 60, .inl (zA sgn))), (rc, .inl (cI, 180, .inl (zA rcf))), (qu, .inl (cI, 180, .inl (zA quf))), (ct, .inl (cI, 180, .inl (zA ctf))), (ft, .inl (cI, 3600, .inl (zA ftf))), (wn2, .inl (cZ, 180, .inl (zA wnm))), (wy2, .inl (cJ, 12, .inr (.inl (zAL wym)))), (nx2, .inl (cJ, 12, .inr (.inl (zAL nxm)))), (im, .inl (cI, 120, .inl (zA imf))), (ik, .inl (cZ, 2, .inl (zA kpf)))] H locs := hz
  refine lv_aload_n hx hb dL_law_665 rfl (lv_at hl 1 rfl) ?_
  refine z_callVw (As := []) (rest := [.int (zI cnn)]) (C := RX11) (T := TX11) (N := 23) F hK hz hl (c_X11_forget l D cI cJ cZ md bk nw nt df chk pa rc qu ct ft wn2 wy2 nx2 im ik Tn cnn ln wat who rs act fse ) (cwV 0 hts gL_law_X11_forget rfl rfl rfl (by decide +kernel) ⟨Nat.le_of_ble_eq_true rfl, Nat.le_of_ble_eq_true rfl⟩) rfl 49 rfl [49] rfl rfl (by decide +kernel) rfl rfl (Nat.le_of_ble_eq_true rfl) ⟨Nat.le_of_ble_eq_true rfl, Nat.le_of_ble_eq_true rfl⟩ dL_law_666 (fun u H locs hu hz => ?_)
  obtain ⟨r_3, c1_4⟩ := u
  have hu : r_3 = cnn ∧ c1_4 = 0 := hu
  obtain ⟨g666_0, g666_1⟩ := hu
  have g666_0 := g666_0.symm
  subst g666_0
  have g666_1 := g666_1.symm
  subst g666_1
  have hz : zH D A H0 [(hc, .inr (8, [.ref on, .ref of, .ref os, .ref kp, .ref pd, .ref ys, .ref tu, .ref as, .ref tk, .ref ck])), (on, .inr (2, [.ref ain, .ref adn, .ref amn, .ref ahn, .ref chn, .int (zI Tn), .int (zI tmn), .int (zI yrn)])), (ain, .inl (cI, 9, .inl (zA incn))), (adn, .inl (cI, 9, .inl (zA drin))), (amn, .inl (cI, 9, .inl (zA matn))), (ahn, .inl (cI, 9, .inl (zA ahen))), (chn, .inr (1, [.ref iyn, .ref mkn, .int (zI 0)])), (iyn, .inl (cI, 8, .inl (zA iyfn))), (mkn, .inl (cI, 8, .inl (zA mkfn))), (of, .inr (2, [.ref aif, .ref adf, .ref amf, .ref ahf, .ref chf, .int (zI Tf), .int (zI tmf), .int (zI yrf)])), (aif, .inl (cI, 9, .inl (zA incf))), (adf, .inl (cI, 9, .inl (zA drif))), (amf, .inl (cI, 9, .inl (zA matf))), (ahf, .inl (cI, 9, .inl (zA ahef))), (chf, .inr (1, [.ref iyf, .ref mkf, .int (zI cnf)])), (iyf, .inl (cI, 8, .inl (zA iyff))), (mkf, .inl (cI, 8, .inl (zA mkff))), (os, .inr (2, [.ref ais, .ref ads, .ref ams, .ref ahs, .ref chs, .int (zI Ts), .int (zI tms), .int (zI yrs)])), (ais, .inl (cI, 9, .inl (zA incs))), (ads, .inl (cI, 9, .inl (zA dris))), (ams, .inl (cI, 9, .inl (zA mats))), (ahs, .inl (cI, 9, .inl (zA ahes))), (chs, .inr (1, [.ref iys, .ref mks, .int (zI cns)])), (iys, .inl (cI, 8, .inl (zA iyfs))), (mks, .inl (cI, 8, .inl (zA mkfs))), (kp, .inl (cZ, 2, .inl (zA kpf))), (pd, .inr (3, [.ref sg, .int (zI ln)])), (sg, .inl (cI, 60, .inl (zA sgn))), (ys, .inr (7, [.ref o, .ref kd, .int (zI acs), .int (zI why), .int (zI wac), .int (zI won)])), (o, .inr (2, [.ref ai, .ref ad, .ref am, .ref ah, .ref ch, .int (zI T), .int (zI tm), .int (zI yr)])), (ai, .inl (cI, 9, .inl (zA inc))), (ad, .inl (cI, 9, .inl (zA dri))), (am, .inl (cI, 9, .inl (zA mat))), (ah, .inl (cI, 9, .inl (zA ahe))), (ch, .inr (1, [.ref iy, .ref mk, .int (zI cn)])), (iy, .inl (cI, 8, .inl (zA iyz))), (mk, .inl (cI, 8, .inl (zA mkz))), (kd, .inl (cI, 9, .inl (zA kdf))), (tu, .inr (5, [.ref fa, .ref wt, .ref dg])), (fa, .inl (cI, 180, .inl (zA faf))), (wt, .inl (cI, 180, .inl (zA wtf))), (dg, .inl (cI, 6, .inl (zA dgf))), (as, .inr (0, [.ref al, .int (zI by0), .int (zI bm0)])), (al, .inl (cI, 180, .inl (zA alf))), (tk, .inr (4, [.ref wn])), (wn, .inl (cZ, 180, .inl (zA wnf))), (ck, .inr (6, [.ref wy, .ref nx, .int (zI pts), .long (zL all0)])), (wy, .inl (cJ, 12, .inr (.inl (zAL wyf)))), (nx, .inl (cJ, 12, .inr (.inl (zAL nxf)))), (md, .inr (9, [.ref bk, .ref nw, .ref nt, .int (zI Tn), .ref df, .int (zI 0), .ref chk, .int (zI ln), .ref pa, .int (zI wat), .int (zI who), .int (zI rs), .int (zI act), .int (zI fse), .ref rc, .ref qu, .ref ct, .ref ft, .ref wn2, .ref wy2, .ref nx2, .ref im, .ref ik])), (bk, .inl (cI, 29, .inl (zA (nwS incn matn kdb tmn yrn)))), (nw, .inl (cI, 29, .inl (zA nwf))), (nt, .inl (cI, 9, .inl (zA ntf))), (df, .inl (cI, 9, .inl (zA drin))), (chk, .inl (cI, 16, .inl (zA (chS iyfn mkfn)))), (pa, .inl (cI, 60, .inl (zA sgn))), (rc, .inl (cI, 180, .inl (zA rcf))), (qu, .inl (cI, 180, .inl (zA quf))), (ct, .inl (cI, 180, .inl (zA ctf))), (ft, .inl (cI, 3600, .inl (zA ftf))), (wn2, .inl (cZ, 180, .inl (zA wnm))), (wy2, .inl (cJ, 12, .inr (.inl (zAL wym)))), (nx2, .inl (cJ, 12, .inr (.inl (zAL nxm)))), (im, .inl (cI, 120, .inl (zA imf))), (ik, .inl (cZ, 2, .inl (zA kpf)))] H locs := hz
  refine lv_icmp_eq (tgt := 963) hx hb dL_law_669 (by decide) (fun _ => ?_) (fun h => absurd rfl h)
  exact hk incn drin matn ahen iyfn mkfn incf drif matf ahef iyff mkff incs dris mats ahes iyfs mkfs kpf sgn inc dri mat ahe iyz mkz kdf faf wtf dgf alf wnf wyf nxf kdb nwf ntf rcf quf ctf ftf wnm wym nxm imf Tn tmn yrn 0 Tf tmf yrf cnf Ts tms yrs cns ln acs why wac won T tm yr cn by0 bm0 pts all0 wat who rs act fse H locs ls (show lwI Tn incn drin matn tmn yrn iyfn mkfn 0 ln sgn kpf imf Tf incf drif matf tmf yrf iyff mkff cnf Ts incs dris mats tms yrs iyfs mkfs cns wnf wnm from ⟨ok_c0 hok, hpad, hkp, hif, his, htk, htm⟩) hz (lv_sub hl [0, 1, 2, 3] rfl)

set_option maxHeartbeats 8000000 in
set_option maxRecDepth 100000 in
theorem law_c18 {p : Program} {l : Launch} {e : Env} {s : State} {m : MethodId} {args : Array Value} {below : List Frame} {meth : Method} {c : Code} {Q : State → Prop} {D : va_G} {cI cJ cZ : ClassId} {A : Nat → Prop} {H0 : Heap} {b L : Nat} {xs : Nat → Int32} (hc on ain adn amn ahn chn iyn mkn of aif adf amf ahf chf iyf mkf os ais ads ams ahs chs iys mks kp pd sg ys o ai ad am ah ch iy mk kd tu fa wt dg as al tk wn ck wy nx md bk nw nt df chk pa rc qu ct ft wn2 wy2 nx2 im ik : Nat) {i : Int} (F : CallFix p m c cL_law 4 s args wsL_law RL) (hK : zK D cI cJ cZ s) (hX : va_X b L xs s H0) (hbl : b < H0.size) (hbA : ¬ A b) (hL : L ≤ 4096) (hi : 0 ≤ i ∧ i + 8 ≤ (L : Int))  (hk : lwK p l e s m args below meth c Q D cI cJ cZ A H0 b hc on ain adn amn ahn chn iyn mkn of aif adf amf ahf chf iyf mkf os ais ads ams ahs chs iys mks kp pd sg ys o ai ad am ah ch iy mk kd tu fa wt dg as al tk wn ck wy nx md bk nw nt df chk pa rc qu ct ft wn2 wy2 nx2 im ik i 963) : lwK p l e s m args below meth c Q D cI cJ cZ A H0 b hc on ain adn amn ahn chn iyn mkn of aif adf amf ahf chf iyf mkf os ais ads ams ahs chs iys mks kp pd sg ys o ai ad am ah ch iy mk kd tu fa wt dg as al tk wn ck wy nx md bk nw nt df chk pa rc qu ct ft wn2 wy2 nx2 im ik i 674 := by
  intro incn drin matn ahen iyfn mkfn incf drif matf ahef iyff mkff incs dris mats ahes iyfs mkfs kpf sgn inc dri mat ahe iyz mkz kdf faf wtf dgf alf wnf wyf nxf kdb nwf ntf rcf quf ctf ftf wnm wym nxm imf Tn tmn yrn cnn Tf tmf yrf cnf Ts tms yrs cns ln acs why wac won T tm yr cn by0 bm0 pts all0 wat who rs act fse H locs ls hI hz hl
  obtain ⟨hx, hb, hml, hown0, hts⟩ := id F
  have hown : s.vm.findClass RL = some m.cls := hown0
  obtain ⟨hok, hpad, hkp, hif, his, htk, htm⟩ := hI
  obtain ⟨hT, hbi, hbd, hmo, hty, hcn, hby, hbk⟩ := id hok
  have hbm := mOk_bd hmo
  obtain ⟨hln, hbs⟩ := id hpad
  obtain ⟨hwb, hwz⟩ := id htk
  have hz : zH D A H0 [(hc, .inr (8, [.ref on, .ref of, .ref os, .ref kp, .ref pd, .ref ys, .ref tu, .ref as, .ref tk, .ref ck])), (on, .inr (2, [.ref ain, .ref adn, .ref amn, .ref ahn, .ref chn, .int (zI Tn), .int (zI tmn), .int (zI yrn)])), (ain, .inl (cI, 9, .inl (zA incn))), (adn, .inl (cI, 9, .inl (zA drin))), (amn, .inl (cI, 9, .inl (zA matn))), (ahn, .inl (cI, 9, .inl (zA ahen))), (chn, .inr (1, [.ref iyn, .ref mkn, .int (zI cnn)])), (iyn, .inl (cI, 8, .inl (zA iyfn))), (mkn, .inl (cI, 8, .inl (zA mkfn))), (of, .inr (2, [.ref aif, .ref adf, .ref amf, .ref ahf, .ref chf, .int (zI Tf), .int (zI tmf), .int (zI yrf)])), (aif, .inl (cI, 9, .inl (zA incf))), (adf, .inl (cI, 9, .inl (zA drif))), (amf, .inl (cI, 9, .inl (zA matf))), (ahf, .inl (cI, 9, .inl (zA ahef))), (chf, .inr (1, [.ref iyf, .ref mkf, .int (zI cnf)])), (iyf, .inl (cI, 8, .inl (zA iyff))), (mkf, .inl (cI, 8, .inl (zA mkff))), (os, .inr (2, [.ref ais, .ref ads, .ref ams, .ref ahs, .ref chs, .int (zI Ts), .int (zI tms), .int (zI yrs)])), (ais, .inl (cI, 9, .inl (zA incs))), (ads, .inl (cI, 9, .inl (zA dris))), (ams, .inl (cI, 9, .inl (zA mats))), (ahs, .inl (cI, 9, .inl (zA ahes))), (chs, .inr (1, [.ref iys, .ref mks, .int (zI cns)])), (iys, .inl (cI, 8, .inl (zA iyfs))), (mks, .inl (cI, 8, .inl (zA mkfs))), (kp, .inl (cZ, 2, .inl (zA kpf))), (pd, .inr (3, [.ref sg, .int (zI ln)])), (sg, .inl (cI, 60, .inl (zA sgn))), (ys, .inr (7, [.ref o, .ref kd, .int (zI acs), .int (zI why), .int (zI wac), .int (zI won)])), (o, .inr (2, [.ref ai, .ref ad, .ref am, .ref ah, .ref ch, .int (zI T), .int (zI tm), .int (zI yr)])), (ai, .inl (cI, 9, .inl (zA inc))), (ad, .inl (cI, 9, .inl (zA dri))), (am, .inl (cI, 9, .inl (zA mat))), (ah, .inl (cI, 9, .inl (zA ahe))), (ch, .inr (1, [.ref iy, .ref mk, .int (zI cn)])), (iy, .inl (cI, 8, .inl (zA iyz))), (mk, .inl (cI, 8, .inl (zA mkz))), (kd, .inl (cI, 9, .inl (zA kdf))), (tu, .inr (5, [.ref fa, .ref wt, .ref dg])), (fa, .inl (cI, 180, .inl (zA faf))), (wt, .inl (cI, 180, .inl (zA wtf))), (dg, .inl (cI, 6, .inl (zA dgf))), (as, .inr (0, [.ref al, .int (zI by0), .int (zI bm0)])), (al, .inl (cI, 180, .inl (zA alf))), (tk, .inr (4, [.ref wn])), (wn, .inl (cZ, 180, .inl (zA wnf))), (ck, .inr (6, [.ref wy, .ref nx, .int (zI pts), .long (zL all0)])), (wy, .inl (cJ, 12, .inr (.inl (zAL wyf)))), (nx, .inl (cJ, 12, .inr (.inl (zAL nxf)))), (md, .inr (9, [.ref bk, .ref nw, .ref nt, .int (zI Tn), .ref df, .int (zI cnn), .ref chk, .int (zI ln), .ref pa, .int (zI wat), .int (zI who), .int (zI rs), .int (zI act), .int (zI fse), .ref rc, .ref qu, .ref ct, .ref ft, .ref wn2, .ref wy2, .ref nx2, .ref im, .ref ik])), (bk, .inl (cI, 29, .inl (zA (nwS incn matn kdb tmn yrn)))), (nw, .inl (cI, 29, .inl (zA nwf))), (nt, .inl (cI, 9, .inl (zA ntf))), (df, .inl (cI, 9, .inl (zA drin))), (chk, .inl (cI, 16, .inl (zA (chS iyfn mkfn)))), (pa, .inl (cI, 60, .inl (zA sgn))), (rc, .inl (cI, 180, .inl (zA rcf))), (qu, .inl (cI, 180, .inl (zA quf))), (ct, .inl (cI, 180, .inl (zA ctf))), (ft, .inl (cI, 3600, .inl (zA ftf))), (wn2, .inl (cZ, 180, .inl (zA wnm))), (wy2, .inl (cJ, 12, .inr (.inl (zAL wym)))), (nx2, .inl (cJ, 12, .inr (.inl (zAL nxm)))), (im, .inl (cI, 120, .inl (zA imf))), (ik, .inl (cZ, 2, .inl (zA kpf)))] H locs := hz
  have hl : lv_has ls 4 [(3, .int (zI i)), (2, .ref md), (1, .ref hc), (0, .ref b)] := hl
  obtain ⟨v1, hv1⟩ : ∃ v, xsZ xs (i + 1) = v := ⟨_, rfl⟩
  have hr1 := xsZ_rng xs (i + 1)
  rw [hv1] at hr1
  obtain ⟨v2, hv2⟩ : ∃ v, xsZ xs (i + 2) = v := ⟨_, rfl⟩
  have hr2 := xsZ_rng xs (i + 2)
  rw [hv2] at hr2
  obtain ⟨v3, hv3⟩ : ∃ v, xsZ xs (i + 3) = v := ⟨_, rfl⟩
  have hr3 := xsZ_rng xs (i + 3)
  rw [hv3] at hr3
  obtain ⟨v4, hv4⟩ : ∃ v, xsZ xs (i + 4) = v := ⟨_, rfl⟩
  have hr4 := xsZ_rng xs (i + 4)
  rw [hv4] at hr4
  obtain ⟨v5, hv5⟩ : ∃ v, xsZ xs (i + 5) = v := ⟨_, rfl⟩
  have hr5 := xsZ_rng xs (i + 5)
  rw [hv5] at hr5
  obtain ⟨v6, hv6⟩ : ∃ v, xsZ xs (i + 6) = v := ⟨_, rfl⟩
  have hr6 := xsZ_rng xs (i + 6)
  rw [hv6] at hr6
  obtain ⟨v7, hv7⟩ : ∃ v, xsZ xs (i + 7) = v := ⟨_, rfl⟩
  have hr7 := xsZ_rng xs (i + 7)
  rw [hv7] at hr7
  refine lv_aload_n hx hb dL_law_674 rfl (lv_at hl 2 rfl) ?_
  refine lv_aload_n hx hb dL_law_675 rfl (lv_at hl 3 rfl) ?_
  refine lv_iload_n hx hb dL_law_676 rfl (lv_at hl 0 rfl) ?_
  refine z_iconst hx hb dL_law_677 ?_
  refine z_iadd hx hb dL_law_678 ?_
  refine z_sld hx hb hX hbl hbA hz (by omega) hL dL_law_679 hv1 ?_
  refine lv_aload_n hx hb dL_law_680 rfl (lv_at hl 3 rfl) ?_
  refine lv_iload_n hx hb dL_law_681 rfl (lv_at hl 0 rfl) ?_
  refine z_iconst hx hb dL_law_682 ?_
  refine z_iadd hx hb dL_law_683 ?_
  refine z_sld hx hb hX hbl hbA hz (by omega) hL dL_law_684 hv2 ?_
  refine z_callVp (As := [.int (zI v1), .int (zI v2)]) (rest := []) (C := RX10) (T := TX10) (N := 10) F hK hz hl (c_X10_was l D cI cJ cZ hc on of os kp pd ys tu as tk ck ain adn amn ahn chn iyn mkn iyfn mkfn Tn tmn yrn cnn v1 v2 (by omega) (by omega) (by assumption) (by assumption)) (cwV 2 hts gL_law_X10_was rfl rfl rfl (by decide +kernel) ⟨Nat.le_of_ble_eq_true rfl, Nat.le_of_ble_eq_true rfl⟩) rfl 0 rfl [0, 1, 6, 7, 8] rfl rfl rfl rfl (Nat.le_of_ble_eq_true rfl) ⟨Nat.le_of_ble_eq_true rfl, Nat.le_of_ble_eq_true rfl⟩ dL_law_685 ?_
  refine lv_aload_n hx hb dL_law_688 rfl (lv_at hl 1 rfl) ?_
  refine lv_aload_n hx hb dL_law_689 rfl (lv_at hl 3 rfl) ?_
  refine lv_iload_n hx hb dL_law_690 rfl (lv_at hl 0 rfl) ?_
  refine z_iconst hx hb dL_law_691 ?_
  refine z_iadd hx hb dL_law_692 ?_
  refine z_sld hx hb hX hbl hbA hz (by omega) hL dL_law_693 hv1 ?_
  refine lv_aload_n hx hb dL_law_694 rfl (lv_at hl 3 rfl) ?_
  refine lv_iload_n hx hb dL_law_695 rfl (lv_at hl 0 rfl) ?_
  refine z_iconst hx hb dL_law_696 ?_
  refine z_iadd hx hb dL_law_697 ?_
  refine z_sld hx hb hX hbl hbA hz (by omega) hL dL_law_698 hv2 ?_
  refine z_callVp (As := [.int (zI v1), .int (zI v2)]) (rest := [.int (zI (waR iyfn mkfn cnn v1 v2))]) (C := RX11) (T := TX11) (N := 23) F hK hz hl (c_X11_was l D cI cJ cZ md bk nw nt df chk pa rc qu ct ft wn2 wy2 nx2 im ik iyfn mkfn Tn cnn ln wat who rs act fse v1 v2 (by omega) (by omega) (by assumption) (by assumption)) (cwV 2 hts gL_law_X11_was rfl rfl rfl (by decide +kernel) ⟨Nat.le_of_ble_eq_true rfl, Nat.le_of_ble_eq_true rfl⟩) rfl 49 rfl [49, 54] rfl rfl rfl rfl (Nat.le_of_ble_eq_true rfl) ⟨Nat.le_of_ble_eq_true rfl, Nat.le_of_ble_eq_true rfl⟩ dL_law_699 ?_
  refine lv_icmp_eq (tgt := 963) hx hb dL_law_702 (by decide) (fun _ => ?_) (fun h => absurd rfl h)
  exact hk incn drin matn ahen iyfn mkfn incf drif matf ahef iyff mkff incs dris mats ahes iyfs mkfs kpf sgn inc dri mat ahe iyz mkz kdf faf wtf dgf alf wnf wyf nxf kdb nwf ntf rcf quf ctf ftf wnm wym nxm imf Tn tmn yrn cnn Tf tmf yrf cnf Ts tms yrs cns ln acs why wac won T tm yr cn by0 bm0 pts all0 wat who rs act fse H locs ls (show lwI Tn incn drin matn tmn yrn iyfn mkfn cnn ln sgn kpf imf Tf incf drif matf tmf yrf iyff mkff cnf Ts incs dris mats tms yrs iyfs mkfs cns wnf wnm from ⟨hok, hpad, hkp, hif, his, htk, htm⟩) hz (lv_sub hl [0, 1, 2, 3] rfl)

set_option maxHeartbeats 8000000 in
set_option maxRecDepth 100000 in
theorem law_c19 {p : Program} {l : Launch} {e : Env} {s : State} {m : MethodId} {args : Array Value} {below : List Frame} {meth : Method} {c : Code} {Q : State → Prop} {D : va_G} {cI cJ cZ : ClassId} {A : Nat → Prop} {H0 : Heap} {b L : Nat} {xs : Nat → Int32} (hc on ain adn amn ahn chn iyn mkn of aif adf amf ahf chf iyf mkf os ais ads ams ahs chs iys mks kp pd sg ys o ai ad am ah ch iy mk kd tu fa wt dg as al tk wn ck wy nx md bk nw nt df chk pa rc qu ct ft wn2 wy2 nx2 im ik : Nat) {i : Int} (F : CallFix p m c cL_law 4 s args wsL_law RL) (hK : zK D cI cJ cZ s) (hX : va_X b L xs s H0) (hbl : b < H0.size) (hbA : ¬ A b) (hL : L ≤ 4096) (hi : 0 ≤ i ∧ i + 8 ≤ (L : Int))  (hk : lwK p l e s m args below meth c Q D cI cJ cZ A H0 b hc on ain adn amn ahn chn iyn mkn of aif adf amf ahf chf iyf mkf os ais ads ams ahs chs iys mks kp pd sg ys o ai ad am ah ch iy mk kd tu fa wt dg as al tk wn ck wy nx md bk nw nt df chk pa rc qu ct ft wn2 wy2 nx2 im ik i 963) : lwK p l e s m args below meth c Q D cI cJ cZ A H0 b hc on ain adn amn ahn chn iyn mkn of aif adf amf ahf chf iyf mkf os ais ads ams ahs chs iys mks kp pd sg ys o ai ad am ah ch iy mk kd tu fa wt dg as al tk wn ck wy nx md bk nw nt df chk pa rc qu ct ft wn2 wy2 nx2 im ik i 707 := by
  intro incn drin matn ahen iyfn mkfn incf drif matf ahef iyff mkff incs dris mats ahes iyfs mkfs kpf sgn inc dri mat ahe iyz mkz kdf faf wtf dgf alf wnf wyf nxf kdb nwf ntf rcf quf ctf ftf wnm wym nxm imf Tn tmn yrn cnn Tf tmf yrf cnf Ts tms yrs cns ln acs why wac won T tm yr cn by0 bm0 pts all0 wat who rs act fse H locs ls hI hz hl
  obtain ⟨hx, hb, hml, hown0, hts⟩ := id F
  have hown : s.vm.findClass RL = some m.cls := hown0
  obtain ⟨hok, hpad, hkp, hif, his, htk, htm⟩ := hI
  obtain ⟨hT, hbi, hbd, hmo, hty, hcn, hby, hbk⟩ := id hok
  have hbm := mOk_bd hmo
  obtain ⟨hln, hbs⟩ := id hpad
  obtain ⟨hwb, hwz⟩ := id htk
  have hz : zH D A H0 [(hc, .inr (8, [.ref on, .ref of, .ref os, .ref kp, .ref pd, .ref ys, .ref tu, .ref as, .ref tk, .ref ck])), (on, .inr (2, [.ref ain, .ref adn, .ref amn, .ref ahn, .ref chn, .int (zI Tn), .int (zI tmn), .int (zI yrn)])), (ain, .inl (cI, 9, .inl (zA incn))), (adn, .inl (cI, 9, .inl (zA drin))), (amn, .inl (cI, 9, .inl (zA matn))), (ahn, .inl (cI, 9, .inl (zA ahen))), (chn, .inr (1, [.ref iyn, .ref mkn, .int (zI cnn)])), (iyn, .inl (cI, 8, .inl (zA iyfn))), (mkn, .inl (cI, 8, .inl (zA mkfn))), (of, .inr (2, [.ref aif, .ref adf, .ref amf, .ref ahf, .ref chf, .int (zI Tf), .int (zI tmf), .int (zI yrf)])), (aif, .inl (cI, 9, .inl (zA incf))), (adf, .inl (cI, 9, .inl (zA drif))), (amf, .inl (cI, 9, .inl (zA matf))), (ahf, .inl (cI, 9, .inl (zA ahef))), (chf, .inr (1, [.ref iyf, .ref mkf, .int (zI cnf)])), (iyf, .inl (cI, 8, .inl (zA iyff))), (mkf, .inl (cI, 8, .inl (zA mkff))), (os, .inr (2, [.ref ais, .ref ads, .ref ams, .ref ahs, .ref chs, .int (zI Ts), .int (zI tms), .int (zI yrs)])), (ais, .inl (cI, 9, .inl (zA incs))), (ads, .inl (cI, 9, .inl (zA dris))), (ams, .inl (cI, 9, .inl (zA mats))), (ahs, .inl (cI, 9, .inl (zA ahes))), (chs, .inr (1, [.ref iys, .ref mks, .int (zI cns)])), (iys, .inl (cI, 8, .inl (zA iyfs))), (mks, .inl (cI, 8, .inl (zA mkfs))), (kp, .inl (cZ, 2, .inl (zA kpf))), (pd, .inr (3, [.ref sg, .int (zI ln)])), (sg, .inl (cI, 60, .inl (zA sgn))), (ys, .inr (7, [.ref o, .ref kd, .int (zI acs), .int (zI why), .int (zI wac), .int (zI won)])), (o, .inr (2, [.ref ai, .ref ad, .ref am, .ref ah, .ref ch, .int (zI T), .int (zI tm), .int (zI yr)])), (ai, .inl (cI, 9, .inl (zA inc))), (ad, .inl (cI, 9, .inl (zA dri))), (am, .inl (cI, 9, .inl (zA mat))), (ah, .inl (cI, 9, .inl (zA ahe))), (ch, .inr (1, [.ref iy, .ref mk, .int (zI cn)])), (iy, .inl (cI, 8, .inl (zA iyz))), (mk, .inl (cI, 8, .inl (zA mkz))), (kd, .inl (cI, 9, .inl (zA kdf))), (tu, .inr (5, [.ref fa, .ref wt, .ref dg])), (fa, .inl (cI, 180, .inl (zA faf))), (wt, .inl (cI, 180, .inl (zA wtf))), (dg, .inl (cI, 6, .inl (zA dgf))), (as, .inr (0, [.ref al, .int (zI by0), .int (zI bm0)])), (al, .inl (cI, 180, .inl (zA alf))), (tk, .inr (4, [.ref wn])), (wn, .inl (cZ, 180, .inl (zA wnf))), (ck, .inr (6, [.ref wy, .ref nx, .int (zI pts), .long (zL all0)])), (wy, .inl (cJ, 12, .inr (.inl (zAL wyf)))), (nx, .inl (cJ, 12, .inr (.inl (zAL nxf)))), (md, .inr (9, [.ref bk, .ref nw, .ref nt, .int (zI Tn), .ref df, .int (zI cnn), .ref chk, .int (zI ln), .ref pa, .int (zI wat), .int (zI who), .int (zI rs), .int (zI act), .int (zI fse), .ref rc, .ref qu, .ref ct, .ref ft, .ref wn2, .ref wy2, .ref nx2, .ref im, .ref ik])), (bk, .inl (cI, 29, .inl (zA (nwS incn matn kdb tmn yrn)))), (nw, .inl (cI, 29, .inl (zA nwf))), (nt, .inl (cI, 9, .inl (zA ntf))), (df, .inl (cI, 9, .inl (zA drin))), (chk, .inl (cI, 16, .inl (zA (chS iyfn mkfn)))), (pa, .inl (cI, 60, .inl (zA sgn))), (rc, .inl (cI, 180, .inl (zA rcf))), (qu, .inl (cI, 180, .inl (zA quf))), (ct, .inl (cI, 180, .inl (zA ctf))), (ft, .inl (cI, 3600, .inl (zA ftf))), (wn2, .inl (cZ, 180, .inl (zA wnm))), (wy2, .inl (cJ, 12, .inr (.inl (zAL wym)))), (nx2, .inl (cJ, 12, .inr (.inl (zAL nxm)))), (im, .inl (cI, 120, .inl (zA imf))), (ik, .inl (cZ, 2, .inl (zA kpf)))] H locs := hz
  have hl : lv_has ls 4 [(3, .int (zI i)), (2, .ref md), (1, .ref hc), (0, .ref b)] := hl
  obtain ⟨v1, hv1⟩ : ∃ v, xsZ xs (i + 1) = v := ⟨_, rfl⟩
  have hr1 := xsZ_rng xs (i + 1)
  rw [hv1] at hr1
  obtain ⟨v2, hv2⟩ : ∃ v, xsZ xs (i + 2) = v := ⟨_, rfl⟩
  have hr2 := xsZ_rng xs (i + 2)
  rw [hv2] at hr2
  obtain ⟨v3, hv3⟩ : ∃ v, xsZ xs (i + 3) = v := ⟨_, rfl⟩
  have hr3 := xsZ_rng xs (i + 3)
  rw [hv3] at hr3
  obtain ⟨v4, hv4⟩ : ∃ v, xsZ xs (i + 4) = v := ⟨_, rfl⟩
  have hr4 := xsZ_rng xs (i + 4)
  rw [hv4] at hr4
  obtain ⟨v5, hv5⟩ : ∃ v, xsZ xs (i + 5) = v := ⟨_, rfl⟩
  have hr5 := xsZ_rng xs (i + 5)
  rw [hv5] at hr5
  obtain ⟨v6, hv6⟩ : ∃ v, xsZ xs (i + 6) = v := ⟨_, rfl⟩
  have hr6 := xsZ_rng xs (i + 6)
  rw [hv6] at hr6
  obtain ⟨v7, hv7⟩ : ∃ v, xsZ xs (i + 7) = v := ⟨_, rfl⟩
  have hr7 := xsZ_rng xs (i + 7)
  rw [hv7] at hr7
  refine lv_aload_n hx hb dL_law_707 rfl (lv_at hl 2 rfl) ?_
  refine lv_aload_n hx hb dL_law_708 rfl (lv_at hl 3 rfl) ?_
  refine lv_iload_n hx hb dL_law_709 rfl (lv_at hl 0 rfl) ?_
  refine z_iconst hx hb dL_law_710 ?_
  refine z_iadd hx hb dL_law_711 ?_
  refine z_sld hx hb hX hbl hbA hz (by omega) hL dL_law_712 hv1 ?_
  refine z_callVw (As := [.int (zI v1)]) (rest := []) (C := RX10) (T := TX10) (N := 10) F hK hz hl (c_X10_ask l D cI cJ cZ hc on of os kp pd ys tu as tk ck ain adn amn ahn chn iyn mkn al iyfn mkfn alf Tn tmn yrn cnn by0 bm0 v1 (by omega) (by omega) (by assumption) (by assumption)) (cwV 1 hts gL_law_X10_ask rfl rfl rfl (by decide +kernel) ⟨Nat.le_of_ble_eq_true rfl, Nat.le_of_ble_eq_true rfl⟩) rfl 0 rfl [0, 1, 6, 7, 8, 42, 43] rfl rfl (by decide +kernel) rfl rfl (Nat.le_of_ble_eq_true rfl) ⟨Nat.le_of_ble_eq_true rfl, Nat.le_of_ble_eq_true rfl⟩ dL_law_713 (fun u H locs hu hz => ?_)
  obtain ⟨r_1, al1_2, by1_3, bm1_4⟩ := u
  have hu : r_1 = asR iyfn mkfn cnn v1 := hu
  have g713_0 := hu
  have g713_0 := g713_0.symm
  subst g713_0
  have hz : zH D A H0 [(hc, .inr (8, [.ref on, .ref of, .ref os, .ref kp, .ref pd, .ref ys, .ref tu, .ref as, .ref tk, .ref ck])), (on, .inr (2, [.ref ain, .ref adn, .ref amn, .ref ahn, .ref chn, .int (zI Tn), .int (zI tmn), .int (zI yrn)])), (ain, .inl (cI, 9, .inl (zA incn))), (adn, .inl (cI, 9, .inl (zA drin))), (amn, .inl (cI, 9, .inl (zA matn))), (ahn, .inl (cI, 9, .inl (zA ahen))), (chn, .inr (1, [.ref iyn, .ref mkn, .int (zI cnn)])), (iyn, .inl (cI, 8, .inl (zA iyfn))), (mkn, .inl (cI, 8, .inl (zA mkfn))), (of, .inr (2, [.ref aif, .ref adf, .ref amf, .ref ahf, .ref chf, .int (zI Tf), .int (zI tmf), .int (zI yrf)])), (aif, .inl (cI, 9, .inl (zA incf))), (adf, .inl (cI, 9, .inl (zA drif))), (amf, .inl (cI, 9, .inl (zA matf))), (ahf, .inl (cI, 9, .inl (zA ahef))), (chf, .inr (1, [.ref iyf, .ref mkf, .int (zI cnf)])), (iyf, .inl (cI, 8, .inl (zA iyff))), (mkf, .inl (cI, 8, .inl (zA mkff))), (os, .inr (2, [.ref ais, .ref ads, .ref ams, .ref ahs, .ref chs, .int (zI Ts), .int (zI tms), .int (zI yrs)])), (ais, .inl (cI, 9, .inl (zA incs))), (ads, .inl (cI, 9, .inl (zA dris))), (ams, .inl (cI, 9, .inl (zA mats))), (ahs, .inl (cI, 9, .inl (zA ahes))), (chs, .inr (1, [.ref iys, .ref mks, .int (zI cns)])), (iys, .inl (cI, 8, .inl (zA iyfs))), (mks, .inl (cI, 8, .inl (zA mkfs))), (kp, .inl (cZ, 2, .inl (zA kpf))), (pd, .inr (3, [.ref sg, .int (zI ln)])), (sg, .inl (cI, 60, .inl (zA sgn))), (ys, .inr (7, [.ref o, .ref kd, .int (zI acs), .int (zI why), .int (zI wac), .int (zI won)])), (o, .inr (2, [.ref ai, .ref ad, .ref am, .ref ah, .ref ch, .int (zI T), .int (zI tm), .int (zI yr)])), (ai, .inl (cI, 9, .inl (zA inc))), (ad, .inl (cI, 9, .inl (zA dri))), (am, .inl (cI, 9, .inl (zA mat))), (ah, .inl (cI, 9, .inl (zA ahe))), (ch, .inr (1, [.ref iy, .ref mk, .int (zI cn)])), (iy, .inl (cI, 8, .inl (zA iyz))), (mk, .inl (cI, 8, .inl (zA mkz))), (kd, .inl (cI, 9, .inl (zA kdf))), (tu, .inr (5, [.ref fa, .ref wt, .ref dg])), (fa, .inl (cI, 180, .inl (zA faf))), (wt, .inl (cI, 180, .inl (zA wtf))), (dg, .inl (cI, 6, .inl (zA dgf))), (as, .inr (0, [.ref al, .int (zI by1_3), .int (zI bm1_4)])), (al, .inl (cI, 180, .inl (zA al1_2))), (tk, .inr (4, [.ref wn])), (wn, .inl (cZ, 180, .inl (zA wnf))), (ck, .inr (6, [.ref wy, .ref nx, .int (zI pts), .long (zL all0)])), (wy, .inl (cJ, 12, .inr (.inl (zAL wyf)))), (nx, .inl (cJ, 12, .inr (.inl (zAL nxf)))), (md, .inr (9, [.ref bk, .ref nw, .ref nt, .int (zI Tn), .ref df, .int (zI cnn), .ref chk, .int (zI ln), .ref pa, .int (zI wat), .int (zI who), .int (zI rs), .int (zI act), .int (zI fse), .ref rc, .ref qu, .ref ct, .ref ft, .ref wn2, .ref wy2, .ref nx2, .ref im, .ref ik])), (bk, .inl (cI, 29, .inl (zA (nwS incn matn kdb tmn yrn)))), (nw, .inl (cI, 29, .inl (zA nwf))), (nt, .inl (cI, 9, .inl (zA ntf))), (df, .inl (cI, 9, .inl (zA drin))), (chk, .inl (cI, 16, .inl (zA (chS iyfn mkfn)))), (pa, .inl (cI, 60, .inl (zA sgn))), (rc, .inl (cI, 180, .inl (zA rcf))), (qu, .inl (cI, 180, .inl (zA quf))), (ct, .inl (cI, 180, .inl (zA ctf))), (ft, .inl (cI, 3600, .inl (zA ftf))), (wn2, .inl (cZ, 180, .inl (zA wnm))), (wy2, .inl (cJ, 12, .inr (.inl (zAL wym)))), (nx2, .inl (cJ, 12, .inr (.inl (zAL nxm)))), (im, .inl (cI, 120, .inl (zA imf))), (ik, .inl (cZ, 2, .inl (zA kpf)))] H locs := hz
  refine lv_aload_n hx hb dL_law_716 rfl (lv_at hl 1 rfl) ?_
  refine lv_aload_n hx hb dL_law_717 rfl (lv_at hl 3 rfl) ?_
  refine lv_iload_n hx hb dL_law_718 rfl (lv_at hl 0 rfl) ?_
  refine z_iconst hx hb dL_law_719 ?_
  refine z_iadd hx hb dL_law_720 ?_
  refine z_sld hx hb hX hbl hbA hz (by omega) hL dL_law_721 hv1 ?_
  refine z_callVw (As := [.int (zI v1)]) (rest := [.int (zI (asR iyfn mkfn cnn v1))]) (C := RX11) (T := TX11) (N := 23) F hK hz hl (c_X11_ask l D cI cJ cZ md bk nw nt df chk pa rc qu ct ft wn2 wy2 nx2 im ik iyfn mkfn ctf ftf Tn cnn ln wat who rs act fse v1 (by omega) (by omega) (by assumption) (by assumption)) (cwV 1 hts gL_law_X11_ask rfl rfl rfl (by decide +kernel) ⟨Nat.le_of_ble_eq_true rfl, Nat.le_of_ble_eq_true rfl⟩) rfl 49 rfl [49, 54, 58, 59] rfl rfl (by decide +kernel) rfl rfl (Nat.le_of_ble_eq_true rfl) ⟨Nat.le_of_ble_eq_true rfl, Nat.le_of_ble_eq_true rfl⟩ dL_law_722 (fun u H locs hu hz => ?_)
  obtain ⟨r_5, ct1_6, ft1_7⟩ := u
  have hu : r_5 = asR iyfn mkfn cnn v1 := hu
  have g722_0 := hu
  have g722_0 := g722_0.symm
  subst g722_0
  have hz : zH D A H0 [(hc, .inr (8, [.ref on, .ref of, .ref os, .ref kp, .ref pd, .ref ys, .ref tu, .ref as, .ref tk, .ref ck])), (on, .inr (2, [.ref ain, .ref adn, .ref amn, .ref ahn, .ref chn, .int (zI Tn), .int (zI tmn), .int (zI yrn)])), (ain, .inl (cI, 9, .inl (zA incn))), (adn, .inl (cI, 9, .inl (zA drin))), (amn, .inl (cI, 9, .inl (zA matn))), (ahn, .inl (cI, 9, .inl (zA ahen))), (chn, .inr (1, [.ref iyn, .ref mkn, .int (zI cnn)])), (iyn, .inl (cI, 8, .inl (zA iyfn))), (mkn, .inl (cI, 8, .inl (zA mkfn))), (of, .inr (2, [.ref aif, .ref adf, .ref amf, .ref ahf, .ref chf, .int (zI Tf), .int (zI tmf), .int (zI yrf)])), (aif, .inl (cI, 9, .inl (zA incf))), (adf, .inl (cI, 9, .inl (zA drif))), (amf, .inl (cI, 9, .inl (zA matf))), (ahf, .inl (cI, 9, .inl (zA ahef))), (chf, .inr (1, [.ref iyf, .ref mkf, .int (zI cnf)])), (iyf, .inl (cI, 8, .inl (zA iyff))), (mkf, .inl (cI, 8, .inl (zA mkff))), (os, .inr (2, [.ref ais, .ref ads, .ref ams, .ref ahs, .ref chs, .int (zI Ts), .int (zI tms), .int (zI yrs)])), (ais, .inl (cI, 9, .inl (zA incs))), (ads, .inl (cI, 9, .inl (zA dris))), (ams, .inl (cI, 9, .inl (zA mats))), (ahs, .inl (cI, 9, .inl (zA ahes))), (chs, .inr (1, [.ref iys, .ref mks, .int (zI cns)])), (iys, .inl (cI, 8, .inl (zA iyfs))), (mks, .inl (cI, 8, .inl (zA mkfs))), (kp, .inl (cZ, 2, .inl (zA kpf))), (pd, .inr (3, [.ref sg, .int (zI ln)])), (sg, .inl (cI, 60, .inl (zA sgn))), (ys, .inr (7, [.ref o, .ref kd, .int (zI acs), .int (zI why), .int (zI wac), .int (zI won)])), (o, .inr (2, [.ref ai, .ref ad, .ref am, .ref ah, .ref ch, .int (zI T), .int (zI tm), .int (zI yr)])), (ai, .inl (cI, 9, .inl (zA inc))), (ad, .inl (cI, 9, .inl (zA dri))), (am, .inl (cI, 9, .inl (zA mat))), (ah, .inl (cI, 9, .inl (zA ahe))), (ch, .inr (1, [.ref iy, .ref mk, .int (zI cn)])), (iy, .inl (cI, 8, .inl (zA iyz))), (mk, .inl (cI, 8, .inl (zA mkz))), (kd, .inl (cI, 9, .inl (zA kdf))), (tu, .inr (5, [.ref fa, .ref wt, .ref dg])), (fa, .inl (cI, 180, .inl (zA faf))), (wt, .inl (cI, 180, .inl (zA wtf))), (dg, .inl (cI, 6, .inl (zA dgf))), (as, .inr (0, [.ref al, .int (zI by1_3), .int (zI bm1_4)])), (al, .inl (cI, 180, .inl (zA al1_2))), (tk, .inr (4, [.ref wn])), (wn, .inl (cZ, 180, .inl (zA wnf))), (ck, .inr (6, [.ref wy, .ref nx, .int (zI pts), .long (zL all0)])), (wy, .inl (cJ, 12, .inr (.inl (zAL wyf)))), (nx, .inl (cJ, 12, .inr (.inl (zAL nxf)))), (md, .inr (9, [.ref bk, .ref nw, .ref nt, .int (zI Tn), .ref df, .int (zI cnn), .ref chk, .int (zI ln), .ref pa, .int (zI wat), .int (zI who), .int (zI rs), .int (zI act), .int (zI fse), .ref rc, .ref qu, .ref ct, .ref ft, .ref wn2, .ref wy2, .ref nx2, .ref im, .ref ik])), (bk, .inl (cI, 29, .inl (zA (nwS incn matn kdb tmn yrn)))), (nw, .inl (cI, 29, .inl (zA nwf))), (nt, .inl (cI, 9, .inl (zA ntf))), (df, .inl (cI, 9, .inl (zA drin))), (chk, .inl (cI, 16, .inl (zA (chS iyfn mkfn)))), (pa, .inl (cI, 60, .inl (zA sgn))), (rc, .inl (cI, 180, .inl (zA rcf))), (qu, .inl (cI, 180, .inl (zA quf))), (ct, .inl (cI, 180, .inl (zA ct1_6))), (ft, .inl (cI, 3600, .inl (zA ft1_7))), (wn2, .inl (cZ, 180, .inl (zA wnm))), (wy2, .inl (cJ, 12, .inr (.inl (zAL wym)))), (nx2, .inl (cJ, 12, .inr (.inl (zAL nxm)))), (im, .inl (cI, 120, .inl (zA imf))), (ik, .inl (cZ, 2, .inl (zA kpf)))] H locs := hz
  refine lv_icmp_eq (tgt := 963) hx hb dL_law_725 (by decide) (fun _ => ?_) (fun h => absurd rfl h)
  exact hk incn drin matn ahen iyfn mkfn incf drif matf ahef iyff mkff incs dris mats ahes iyfs mkfs kpf sgn inc dri mat ahe iyz mkz kdf faf wtf dgf al1_2 wnf wyf nxf kdb nwf ntf rcf quf ct1_6 ft1_7 wnm wym nxm imf Tn tmn yrn cnn Tf tmf yrf cnf Ts tms yrs cns ln acs why wac won T tm yr cn by1_3 bm1_4 pts all0 wat who rs act fse H locs ls (show lwI Tn incn drin matn tmn yrn iyfn mkfn cnn ln sgn kpf imf Tf incf drif matf tmf yrf iyff mkff cnf Ts incs dris mats tms yrs iyfs mkfs cns wnf wnm from ⟨hok, hpad, hkp, hif, his, htk, htm⟩) hz (lv_sub hl [0, 1, 2, 3] rfl)

set_option maxHeartbeats 8000000 in
set_option maxRecDepth 100000 in
theorem law_c20 {p : Program} {l : Launch} {e : Env} {s : State} {m : MethodId} {args : Array Value} {below : List Frame} {meth : Method} {c : Code} {Q : State → Prop} {D : va_G} {cI cJ cZ : ClassId} {A : Nat → Prop} {H0 : Heap} {b L : Nat} {xs : Nat → Int32} (hc on ain adn amn ahn chn iyn mkn of aif adf amf ahf chf iyf mkf os ais ads ams ahs chs iys mks kp pd sg ys o ai ad am ah ch iy mk kd tu fa wt dg as al tk wn ck wy nx md bk nw nt df chk pa rc qu ct ft wn2 wy2 nx2 im ik : Nat) {i : Int} (F : CallFix p m c cL_law 4 s args wsL_law RL) (hK : zK D cI cJ cZ s) (hX : va_X b L xs s H0) (hbl : b < H0.size) (hbA : ¬ A b) (hL : L ≤ 4096) (hi : 0 ≤ i ∧ i + 8 ≤ (L : Int))  (hk : lwK p l e s m args below meth c Q D cI cJ cZ A H0 b hc on ain adn amn ahn chn iyn mkn of aif adf amf ahf chf iyf mkf os ais ads ams ahs chs iys mks kp pd sg ys o ai ad am ah ch iy mk kd tu fa wt dg as al tk wn ck wy nx md bk nw nt df chk pa rc qu ct ft wn2 wy2 nx2 im ik i 963) : lwK p l e s m args below meth c Q D cI cJ cZ A H0 b hc on ain adn amn ahn chn iyn mkn of aif adf amf ahf chf iyf mkf os ais ads ams ahs chs iys mks kp pd sg ys o ai ad am ah ch iy mk kd tu fa wt dg as al tk wn ck wy nx md bk nw nt df chk pa rc qu ct ft wn2 wy2 nx2 im ik i 730 := by
  intro incn drin matn ahen iyfn mkfn incf drif matf ahef iyff mkff incs dris mats ahes iyfs mkfs kpf sgn inc dri mat ahe iyz mkz kdf faf wtf dgf alf wnf wyf nxf kdb nwf ntf rcf quf ctf ftf wnm wym nxm imf Tn tmn yrn cnn Tf tmf yrf cnf Ts tms yrs cns ln acs why wac won T tm yr cn by0 bm0 pts all0 wat who rs act fse H locs ls hI hz hl
  obtain ⟨hx, hb, hml, hown0, hts⟩ := id F
  have hown : s.vm.findClass RL = some m.cls := hown0
  obtain ⟨hok, hpad, hkp, hif, his, htk, htm⟩ := hI
  obtain ⟨hT, hbi, hbd, hmo, hty, hcn, hby, hbk⟩ := id hok
  have hbm := mOk_bd hmo
  obtain ⟨hln, hbs⟩ := id hpad
  obtain ⟨hwb, hwz⟩ := id htk
  have hz : zH D A H0 [(hc, .inr (8, [.ref on, .ref of, .ref os, .ref kp, .ref pd, .ref ys, .ref tu, .ref as, .ref tk, .ref ck])), (on, .inr (2, [.ref ain, .ref adn, .ref amn, .ref ahn, .ref chn, .int (zI Tn), .int (zI tmn), .int (zI yrn)])), (ain, .inl (cI, 9, .inl (zA incn))), (adn, .inl (cI, 9, .inl (zA drin))), (amn, .inl (cI, 9, .inl (zA matn))), (ahn, .inl (cI, 9, .inl (zA ahen))), (chn, .inr (1, [.ref iyn, .ref mkn, .int (zI cnn)])), (iyn, .inl (cI, 8, .inl (zA iyfn))), (mkn, .inl (cI, 8, .inl (zA mkfn))), (of, .inr (2, [.ref aif, .ref adf, .ref amf, .ref ahf, .ref chf, .int (zI Tf), .int (zI tmf), .int (zI yrf)])), (aif, .inl (cI, 9, .inl (zA incf))), (adf, .inl (cI, 9, .inl (zA drif))), (amf, .inl (cI, 9, .inl (zA matf))), (ahf, .inl (cI, 9, .inl (zA ahef))), (chf, .inr (1, [.ref iyf, .ref mkf, .int (zI cnf)])), (iyf, .inl (cI, 8, .inl (zA iyff))), (mkf, .inl (cI, 8, .inl (zA mkff))), (os, .inr (2, [.ref ais, .ref ads, .ref ams, .ref ahs, .ref chs, .int (zI Ts), .int (zI tms), .int (zI yrs)])), (ais, .inl (cI, 9, .inl (zA incs))), (ads, .inl (cI, 9, .inl (zA dris))), (ams, .inl (cI, 9, .inl (zA mats))), (ahs, .inl (cI, 9, .inl (zA ahes))), (chs, .inr (1, [.ref iys, .ref mks, .int (zI cns)])), (iys, .inl (cI, 8, .inl (zA iyfs))), (mks, .inl (cI, 8, .inl (zA mkfs))), (kp, .inl (cZ, 2, .inl (zA kpf))), (pd, .inr (3, [.ref sg, .int (zI ln)])), (sg, .inl (cI, 60, .inl (zA sgn))), (ys, .inr (7, [.ref o, .ref kd, .int (zI acs), .int (zI why), .int (zI wac), .int (zI won)])), (o, .inr (2, [.ref ai, .ref ad, .ref am, .ref ah, .ref ch, .int (zI T), .int (zI tm), .int (zI yr)])), (ai, .inl (cI, 9, .inl (zA inc))), (ad, .inl (cI, 9, .inl (zA dri))), (am, .inl (cI, 9, .inl (zA mat))), (ah, .inl (cI, 9, .inl (zA ahe))), (ch, .inr (1, [.ref iy, .ref mk, .int (zI cn)])), (iy, .inl (cI, 8, .inl (zA iyz))), (mk, .inl (cI, 8, .inl (zA mkz))), (kd, .inl (cI, 9, .inl (zA kdf))), (tu, .inr (5, [.ref fa, .ref wt, .ref dg])), (fa, .inl (cI, 180, .inl (zA faf))), (wt, .inl (cI, 180, .inl (zA wtf))), (dg, .inl (cI, 6, .inl (zA dgf))), (as, .inr (0, [.ref al, .int (zI by0), .int (zI bm0)])), (al, .inl (cI, 180, .inl (zA alf))), (tk, .inr (4, [.ref wn])), (wn, .inl (cZ, 180, .inl (zA wnf))), (ck, .inr (6, [.ref wy, .ref nx, .int (zI pts), .long (zL all0)])), (wy, .inl (cJ, 12, .inr (.inl (zAL wyf)))), (nx, .inl (cJ, 12, .inr (.inl (zAL nxf)))), (md, .inr (9, [.ref bk, .ref nw, .ref nt, .int (zI Tn), .ref df, .int (zI cnn), .ref chk, .int (zI ln), .ref pa, .int (zI wat), .int (zI who), .int (zI rs), .int (zI act), .int (zI fse), .ref rc, .ref qu, .ref ct, .ref ft, .ref wn2, .ref wy2, .ref nx2, .ref im, .ref ik])), (bk, .inl (cI, 29, .inl (zA (nwS incn matn kdb tmn yrn)))), (nw, .inl (cI, 29, .inl (zA nwf))), (nt, .inl (cI, 9, .inl (zA ntf))), (df, .inl (cI, 9, .inl (zA drin))), (chk, .inl (cI, 16, .inl (zA (chS iyfn mkfn)))), (pa, .inl (cI, 60, .inl (zA sgn))), (rc, .inl (cI, 180, .inl (zA rcf))), (qu, .inl (cI, 180, .inl (zA quf))), (ct, .inl (cI, 180, .inl (zA ctf))), (ft, .inl (cI, 3600, .inl (zA ftf))), (wn2, .inl (cZ, 180, .inl (zA wnm))), (wy2, .inl (cJ, 12, .inr (.inl (zAL wym)))), (nx2, .inl (cJ, 12, .inr (.inl (zAL nxm)))), (im, .inl (cI, 120, .inl (zA imf))), (ik, .inl (cZ, 2, .inl (zA kpf)))] H locs := hz
  have hl : lv_has ls 4 [(3, .int (zI i)), (2, .ref md), (1, .ref hc), (0, .ref b)] := hl
  obtain ⟨v1, hv1⟩ : ∃ v, xsZ xs (i + 1) = v := ⟨_, rfl⟩
  have hr1 := xsZ_rng xs (i + 1)
  rw [hv1] at hr1
  obtain ⟨v2, hv2⟩ : ∃ v, xsZ xs (i + 2) = v := ⟨_, rfl⟩
  have hr2 := xsZ_rng xs (i + 2)
  rw [hv2] at hr2
  obtain ⟨v3, hv3⟩ : ∃ v, xsZ xs (i + 3) = v := ⟨_, rfl⟩
  have hr3 := xsZ_rng xs (i + 3)
  rw [hv3] at hr3
  obtain ⟨v4, hv4⟩ : ∃ v, xsZ xs (i + 4) = v := ⟨_, rfl⟩
  have hr4 := xsZ_rng xs (i + 4)
  rw [hv4] at hr4
  obtain ⟨v5, hv5⟩ : ∃ v, xsZ xs (i + 5) = v := ⟨_, rfl⟩
  have hr5 := xsZ_rng xs (i + 5)
  rw [hv5] at hr5
  obtain ⟨v6, hv6⟩ : ∃ v, xsZ xs (i + 6) = v := ⟨_, rfl⟩
  have hr6 := xsZ_rng xs (i + 6)
  rw [hv6] at hr6
  obtain ⟨v7, hv7⟩ : ∃ v, xsZ xs (i + 7) = v := ⟨_, rfl⟩
  have hr7 := xsZ_rng xs (i + 7)
  rw [hv7] at hr7
  refine lv_aload_n hx hb dL_law_730 rfl (lv_at hl 2 rfl) ?_
  refine lv_aload_n hx hb dL_law_731 rfl (lv_at hl 3 rfl) ?_
  refine lv_iload_n hx hb dL_law_732 rfl (lv_at hl 0 rfl) ?_
  refine z_iconst hx hb dL_law_733 ?_
  refine z_iadd hx hb dL_law_734 ?_
  refine z_sld hx hb hX hbl hbA hz (by omega) hL dL_law_735 hv1 ?_
  refine lv_aload_n hx hb dL_law_736 rfl (lv_at hl 3 rfl) ?_
  refine lv_iload_n hx hb dL_law_737 rfl (lv_at hl 0 rfl) ?_
  refine z_iconst hx hb dL_law_738 ?_
  refine z_iadd hx hb dL_law_739 ?_
  refine z_sld hx hb hX hbl hbA hz (by omega) hL dL_law_740 hv2 ?_
  refine z_callVw (As := [.int (zI v1), .int (zI v2)]) (rest := []) (C := RX10) (T := TX10) (N := 10) F hK hz hl (c_X10_take l D cI cJ cZ hc on of os kp pd ys tu as tk ck wn wnf v1 v2 (by omega) (by assumption) (by assumption)) (cwV 2 hts gL_law_X10_take rfl rfl rfl (by decide +kernel) ⟨Nat.le_of_ble_eq_true rfl, Nat.le_of_ble_eq_true rfl⟩) rfl 0 rfl [0, 44, 45] rfl rfl (by decide +kernel) rfl rfl (Nat.le_of_ble_eq_true rfl) ⟨Nat.le_of_ble_eq_true rfl, Nat.le_of_ble_eq_true rfl⟩ dL_law_741 (fun u H locs hu hz => ?_)
  obtain ⟨r_1, wn1_2⟩ := u
  have hu : r_1 = taR v1 v2 ∧ (zBd wn1_2 180 0 1 ∧ wn1_2 0 = 0) := hu
  obtain ⟨g741_0, hc741_1⟩ := hu
  have g741_0 := g741_0.symm
  subst g741_0
  have hz : zH D A H0 [(hc, .inr (8, [.ref on, .ref of, .ref os, .ref kp, .ref pd, .ref ys, .ref tu, .ref as, .ref tk, .ref ck])), (on, .inr (2, [.ref ain, .ref adn, .ref amn, .ref ahn, .ref chn, .int (zI Tn), .int (zI tmn), .int (zI yrn)])), (ain, .inl (cI, 9, .inl (zA incn))), (adn, .inl (cI, 9, .inl (zA drin))), (amn, .inl (cI, 9, .inl (zA matn))), (ahn, .inl (cI, 9, .inl (zA ahen))), (chn, .inr (1, [.ref iyn, .ref mkn, .int (zI cnn)])), (iyn, .inl (cI, 8, .inl (zA iyfn))), (mkn, .inl (cI, 8, .inl (zA mkfn))), (of, .inr (2, [.ref aif, .ref adf, .ref amf, .ref ahf, .ref chf, .int (zI Tf), .int (zI tmf), .int (zI yrf)])), (aif, .inl (cI, 9, .inl (zA incf))), (adf, .inl (cI, 9, .inl (zA drif))), (amf, .inl (cI, 9, .inl (zA matf))), (ahf, .inl (cI, 9, .inl (zA ahef))), (chf, .inr (1, [.ref iyf, .ref mkf, .int (zI cnf)])), (iyf, .inl (cI, 8, .inl (zA iyff))), (mkf, .inl (cI, 8, .inl (zA mkff))), (os, .inr (2, [.ref ais, .ref ads, .ref ams, .ref ahs, .ref chs, .int (zI Ts), .int (zI tms), .int (zI yrs)])), (ais, .inl (cI, 9, .inl (zA incs))), (ads, .inl (cI, 9, .inl (zA dris))), (ams, .inl (cI, 9, .inl (zA mats))), (ahs, .inl (cI, 9, .inl (zA ahes))), (chs, .inr (1, [.ref iys, .ref mks, .int (zI cns)])), (iys, .inl (cI, 8, .inl (zA iyfs))), (mks, .inl (cI, 8, .inl (zA mkfs))), (kp, .inl (cZ, 2, .inl (zA kpf))), (pd, .inr (3, [.ref sg, .int (zI ln)])), (sg, .inl (cI, 60, .inl (zA sgn))), (ys, .inr (7, [.ref o, .ref kd, .int (zI acs), .int (zI why), .int (zI wac), .int (zI won)])), (o, .inr (2, [.ref ai, .ref ad, .ref am, .ref ah, .ref ch, .int (zI T), .int (zI tm), .int (zI yr)])), (ai, .inl (cI, 9, .inl (zA inc))), (ad, .inl (cI, 9, .inl (zA dri))), (am, .inl (cI, 9, .inl (zA mat))), (ah, .inl (cI, 9, .inl (zA ahe))), (ch, .inr (1, [.ref iy, .ref mk, .int (zI cn)])), (iy, .inl (cI, 8, .inl (zA iyz))), (mk, .inl (cI, 8, .inl (zA mkz))), (kd, .inl (cI, 9, .inl (zA kdf))), (tu, .inr (5, [.ref fa, .ref wt, .ref dg])), (fa, .inl (cI, 180, .inl (zA faf))), (wt, .inl (cI, 180, .inl (zA wtf))), (dg, .inl (cI, 6, .inl (zA dgf))), (as, .inr (0, [.ref al, .int (zI by0), .int (zI bm0)])), (al, .inl (cI, 180, .inl (zA alf))), (tk, .inr (4, [.ref wn])), (wn, .inl (cZ, 180, .inl (zA wn1_2))), (ck, .inr (6, [.ref wy, .ref nx, .int (zI pts), .long (zL all0)])), (wy, .inl (cJ, 12, .inr (.inl (zAL wyf)))), (nx, .inl (cJ, 12, .inr (.inl (zAL nxf)))), (md, .inr (9, [.ref bk, .ref nw, .ref nt, .int (zI Tn), .ref df, .int (zI cnn), .ref chk, .int (zI ln), .ref pa, .int (zI wat), .int (zI who), .int (zI rs), .int (zI act), .int (zI fse), .ref rc, .ref qu, .ref ct, .ref ft, .ref wn2, .ref wy2, .ref nx2, .ref im, .ref ik])), (bk, .inl (cI, 29, .inl (zA (nwS incn matn kdb tmn yrn)))), (nw, .inl (cI, 29, .inl (zA nwf))), (nt, .inl (cI, 9, .inl (zA ntf))), (df, .inl (cI, 9, .inl (zA drin))), (chk, .inl (cI, 16, .inl (zA (chS iyfn mkfn)))), (pa, .inl (cI, 60, .inl (zA sgn))), (rc, .inl (cI, 180, .inl (zA rcf))), (qu, .inl (cI, 180, .inl (zA quf))), (ct, .inl (cI, 180, .inl (zA ctf))), (ft, .inl (cI, 3600, .inl (zA ftf))), (wn2, .inl (cZ, 180, .inl (zA wnm))), (wy2, .inl (cJ, 12, .inr (.inl (zAL wym)))), (nx2, .inl (cJ, 12, .inr (.inl (zAL nxm)))), (im, .inl (cI, 120, .inl (zA imf))), (ik, .inl (cZ, 2, .inl (zA kpf)))] H locs := hz
  refine lv_aload_n hx hb dL_law_744 rfl (lv_at hl 1 rfl) ?_
  refine lv_aload_n hx hb dL_law_745 rfl (lv_at hl 3 rfl) ?_
  refine lv_iload_n hx hb dL_law_746 rfl (lv_at hl 0 rfl) ?_
  refine z_iconst hx hb dL_law_747 ?_
  refine z_iadd hx hb dL_law_748 ?_
  refine z_sld hx hb hX hbl hbA hz (by omega) hL dL_law_749 hv1 ?_
  refine lv_aload_n hx hb dL_law_750 rfl (lv_at hl 3 rfl) ?_
  refine lv_iload_n hx hb dL_law_751 rfl (lv_at hl 0 rfl) ?_
  refine z_iconst hx hb dL_law_752 ?_
  refine z_iadd hx hb dL_law_753 ?_
  refine z_sld hx hb hX hbl hbA hz (by omega) hL dL_law_754 hv2 ?_
  refine z_callVw (As := [.int (zI v1), .int (zI v2)]) (rest := [.int (zI (taR v1 v2))]) (C := RX11) (T := TX11) (N := 23) F hK hz hl (c_X11_take l D cI cJ cZ md bk nw nt df chk pa rc qu ct ft wn2 wy2 nx2 im ik wnm Tn cnn ln wat who rs act fse v1 v2 (by omega) (by assumption)) (cwV 2 hts gL_law_X11_take rfl rfl rfl (by decide +kernel) ⟨Nat.le_of_ble_eq_true rfl, Nat.le_of_ble_eq_true rfl⟩) rfl 49 rfl [49, 60] rfl rfl (by decide +kernel) rfl rfl (Nat.le_of_ble_eq_true rfl) ⟨Nat.le_of_ble_eq_true rfl, Nat.le_of_ble_eq_true rfl⟩ dL_law_755 (fun u H locs hu hz => ?_)
  obtain ⟨r_3, wn1_4⟩ := u
  have hu : r_3 = taR v1 v2 ∧ (zBd wn1_4 180 0 1) := hu
  obtain ⟨g755_0, hc755_1⟩ := hu
  have g755_0 := g755_0.symm
  subst g755_0
  have hz : zH D A H0 [(hc, .inr (8, [.ref on, .ref of, .ref os, .ref kp, .ref pd, .ref ys, .ref tu, .ref as, .ref tk, .ref ck])), (on, .inr (2, [.ref ain, .ref adn, .ref amn, .ref ahn, .ref chn, .int (zI Tn), .int (zI tmn), .int (zI yrn)])), (ain, .inl (cI, 9, .inl (zA incn))), (adn, .inl (cI, 9, .inl (zA drin))), (amn, .inl (cI, 9, .inl (zA matn))), (ahn, .inl (cI, 9, .inl (zA ahen))), (chn, .inr (1, [.ref iyn, .ref mkn, .int (zI cnn)])), (iyn, .inl (cI, 8, .inl (zA iyfn))), (mkn, .inl (cI, 8, .inl (zA mkfn))), (of, .inr (2, [.ref aif, .ref adf, .ref amf, .ref ahf, .ref chf, .int (zI Tf), .int (zI tmf), .int (zI yrf)])), (aif, .inl (cI, 9, .inl (zA incf))), (adf, .inl (cI, 9, .inl (zA drif))), (amf, .inl (cI, 9, .inl (zA matf))), (ahf, .inl (cI, 9, .inl (zA ahef))), (chf, .inr (1, [.ref iyf, .ref mkf, .int (zI cnf)])), (iyf, .inl (cI, 8, .inl (zA iyff))), (mkf, .inl (cI, 8, .inl (zA mkff))), (os, .inr (2, [.ref ais, .ref ads, .ref ams, .ref ahs, .ref chs, .int (zI Ts), .int (zI tms), .int (zI yrs)])), (ais, .inl (cI, 9, .inl (zA incs))), (ads, .inl (cI, 9, .inl (zA dris))), (ams, .inl (cI, 9, .inl (zA mats))), (ahs, .inl (cI, 9, .inl (zA ahes))), (chs, .inr (1, [.ref iys, .ref mks, .int (zI cns)])), (iys, .inl (cI, 8, .inl (zA iyfs))), (mks, .inl (cI, 8, .inl (zA mkfs))), (kp, .inl (cZ, 2, .inl (zA kpf))), (pd, .inr (3, [.ref sg, .int (zI ln)])), (sg, .inl (cI, 60, .inl (zA sgn))), (ys, .inr (7, [.ref o, .ref kd, .int (zI acs), .int (zI why), .int (zI wac), .int (zI won)])), (o, .inr (2, [.ref ai, .ref ad, .ref am, .ref ah, .ref ch, .int (zI T), .int (zI tm), .int (zI yr)])), (ai, .inl (cI, 9, .inl (zA inc))), (ad, .inl (cI, 9, .inl (zA dri))), (am, .inl (cI, 9, .inl (zA mat))), (ah, .inl (cI, 9, .inl (zA ahe))), (ch, .inr (1, [.ref iy, .ref mk, .int (zI cn)])), (iy, .inl (cI, 8, .inl (zA iyz))), (mk, .inl (cI, 8, .inl (zA mkz))), (kd, .inl (cI, 9, .inl (zA kdf))), (tu, .inr (5, [.ref fa, .ref wt, .ref dg])), (fa, .inl (cI, 180, .inl (zA faf))), (wt, .inl (cI, 180, .inl (zA wtf))), (dg, .inl (cI, 6, .inl (zA dgf))), (as, .inr (0, [.ref al, .int (zI by0), .int (zI bm0)])), (al, .inl (cI, 180, .inl (zA alf))), (tk, .inr (4, [.ref wn])), (wn, .inl (cZ, 180, .inl (zA wn1_2))), (ck, .inr (6, [.ref wy, .ref nx, .int (zI pts), .long (zL all0)])), (wy, .inl (cJ, 12, .inr (.inl (zAL wyf)))), (nx, .inl (cJ, 12, .inr (.inl (zAL nxf)))), (md, .inr (9, [.ref bk, .ref nw, .ref nt, .int (zI Tn), .ref df, .int (zI cnn), .ref chk, .int (zI ln), .ref pa, .int (zI wat), .int (zI who), .int (zI rs), .int (zI act), .int (zI fse), .ref rc, .ref qu, .ref ct, .ref ft, .ref wn2, .ref wy2, .ref nx2, .ref im, .ref ik])), (bk, .inl (cI, 29, .inl (zA (nwS incn matn kdb tmn yrn)))), (nw, .inl (cI, 29, .inl (zA nwf))), (nt, .inl (cI, 9, .inl (zA ntf))), (df, .inl (cI, 9, .inl (zA drin))), (chk, .inl (cI, 16, .inl (zA (chS iyfn mkfn)))), (pa, .inl (cI, 60, .inl (zA sgn))), (rc, .inl (cI, 180, .inl (zA rcf))), (qu, .inl (cI, 180, .inl (zA quf))), (ct, .inl (cI, 180, .inl (zA ctf))), (ft, .inl (cI, 3600, .inl (zA ftf))), (wn2, .inl (cZ, 180, .inl (zA wn1_4))), (wy2, .inl (cJ, 12, .inr (.inl (zAL wym)))), (nx2, .inl (cJ, 12, .inr (.inl (zAL nxm)))), (im, .inl (cI, 120, .inl (zA imf))), (ik, .inl (cZ, 2, .inl (zA kpf)))] H locs := hz
  refine lv_icmp_eq (tgt := 963) hx hb dL_law_758 (by decide) (fun _ => ?_) (fun h => absurd rfl h)
  exact hk incn drin matn ahen iyfn mkfn incf drif matf ahef iyff mkff incs dris mats ahes iyfs mkfs kpf sgn inc dri mat ahe iyz mkz kdf faf wtf dgf alf wn1_2 wyf nxf kdb nwf ntf rcf quf ctf ftf wn1_4 wym nxm imf Tn tmn yrn cnn Tf tmf yrf cnf Ts tms yrs cns ln acs why wac won T tm yr cn by0 bm0 pts all0 wat who rs act fse H locs ls (show lwI Tn incn drin matn tmn yrn iyfn mkfn cnn ln sgn kpf imf Tf incf drif matf tmf yrf iyff mkff cnf Ts incs dris mats tms yrs iyfs mkfs cns wn1_2 wn1_4 from ⟨hok, hpad, hkp, hif, his, hc741_1, hc755_1⟩) hz (lv_sub hl [0, 1, 2, 3] rfl)

set_option maxHeartbeats 8000000 in
set_option maxRecDepth 100000 in
theorem law_c21 {p : Program} {l : Launch} {e : Env} {s : State} {m : MethodId} {args : Array Value} {below : List Frame} {meth : Method} {c : Code} {Q : State → Prop} {D : va_G} {cI cJ cZ : ClassId} {A : Nat → Prop} {H0 : Heap} {b L : Nat} {xs : Nat → Int32} (hc on ain adn amn ahn chn iyn mkn of aif adf amf ahf chf iyf mkf os ais ads ams ahs chs iys mks kp pd sg ys o ai ad am ah ch iy mk kd tu fa wt dg as al tk wn ck wy nx md bk nw nt df chk pa rc qu ct ft wn2 wy2 nx2 im ik : Nat) {i : Int} (F : CallFix p m c cL_law 4 s args wsL_law RL) (hK : zK D cI cJ cZ s) (hX : va_X b L xs s H0) (hbl : b < H0.size) (hbA : ¬ A b) (hL : L ≤ 4096) (hi : 0 ≤ i ∧ i + 8 ≤ (L : Int))  (hk : lwK p l e s m args below meth c Q D cI cJ cZ A H0 b hc on ain adn amn ahn chn iyn mkn of aif adf amf ahf chf iyf mkf os ais ads ams ahs chs iys mks kp pd sg ys o ai ad am ah ch iy mk kd tu fa wt dg as al tk wn ck wy nx md bk nw nt df chk pa rc qu ct ft wn2 wy2 nx2 im ik i 963) : lwK p l e s m args below meth c Q D cI cJ cZ A H0 b hc on ain adn amn ahn chn iyn mkn of aif adf amf ahf chf iyf mkf os ais ads ams ahs chs iys mks kp pd sg ys o ai ad am ah ch iy mk kd tu fa wt dg as al tk wn ck wy nx md bk nw nt df chk pa rc qu ct ft wn2 wy2 nx2 im ik i 763 := by
  intro incn drin matn ahen iyfn mkfn incf drif matf ahef iyff mkff incs dris mats ahes iyfs mkfs kpf sgn inc dri mat ahe iyz mkz kdf faf wtf dgf alf wnf wyf nxf kdb nwf ntf rcf quf ctf ftf wnm wym nxm imf Tn tmn yrn cnn Tf tmf yrf cnf Ts tms yrs cns ln acs why wac won T tm yr cn by0 bm0 pts all0 wat who rs act fse H locs ls hI hz hl
  obtain ⟨hx, hb, hml, hown0, hts⟩ := id F
  have hown : s.vm.findClass RL = some m.cls := hown0
  obtain ⟨hok, hpad, hkp, hif, his, htk, htm⟩ := hI
  obtain ⟨hT, hbi, hbd, hmo, hty, hcn, hby, hbk⟩ := id hok
  have hbm := mOk_bd hmo
  obtain ⟨hln, hbs⟩ := id hpad
  obtain ⟨hwb, hwz⟩ := id htk
  have hz : zH D A H0 [(hc, .inr (8, [.ref on, .ref of, .ref os, .ref kp, .ref pd, .ref ys, .ref tu, .ref as, .ref tk, .ref ck])), (on, .inr (2, [.ref ain, .ref adn, .ref amn, .ref ahn, .ref chn, .int (zI Tn), .int (zI tmn), .int (zI yrn)])), (ain, .inl (cI, 9, .inl (zA incn))), (adn, .inl (cI, 9, .inl (zA drin))), (amn, .inl (cI, 9, .inl (zA matn))), (ahn, .inl (cI, 9, .inl (zA ahen))), (chn, .inr (1, [.ref iyn, .ref mkn, .int (zI cnn)])), (iyn, .inl (cI, 8, .inl (zA iyfn))), (mkn, .inl (cI, 8, .inl (zA mkfn))), (of, .inr (2, [.ref aif, .ref adf, .ref amf, .ref ahf, .ref chf, .int (zI Tf), .int (zI tmf), .int (zI yrf)])), (aif, .inl (cI, 9, .inl (zA incf))), (adf, .inl (cI, 9, .inl (zA drif))), (amf, .inl (cI, 9, .inl (zA matf))), (ahf, .inl (cI, 9, .inl (zA ahef))), (chf, .inr (1, [.ref iyf, .ref mkf, .int (zI cnf)])), (iyf, .inl (cI, 8, .inl (zA iyff))), (mkf, .inl (cI, 8, .inl (zA mkff))), (os, .inr (2, [.ref ais, .ref ads, .ref ams, .ref ahs, .ref chs, .int (zI Ts), .int (zI tms), .int (zI yrs)])), (ais, .inl (cI, 9, .inl (zA incs))), (ads, .inl (cI, 9, .inl (zA dris))), (ams, .inl (cI, 9, .inl (zA mats))), (ahs, .inl (cI, 9, .inl (zA ahes))), (chs, .inr (1, [.ref iys, .ref mks, .int (zI cns)])), (iys, .inl (cI, 8, .inl (zA iyfs))), (mks, .inl (cI, 8, .inl (zA mkfs))), (kp, .inl (cZ, 2, .inl (zA kpf))), (pd, .inr (3, [.ref sg, .int (zI ln)])), (sg, .inl (cI, 60, .inl (zA sgn))), (ys, .inr (7, [.ref o, .ref kd, .int (zI acs), .int (zI why), .int (zI wac), .int (zI won)])), (o, .inr (2, [.ref ai, .ref ad, .ref am, .ref ah, .ref ch, .int (zI T), .int (zI tm), .int (zI yr)])), (ai, .inl (cI, 9, .inl (zA inc))), (ad, .inl (cI, 9, .inl (zA dri))), (am, .inl (cI, 9, .inl (zA mat))), (ah, .inl (cI, 9, .inl (zA ahe))), (ch, .inr (1, [.ref iy, .ref mk, .int (zI cn)])), (iy, .inl (cI, 8, .inl (zA iyz))), (mk, .inl (cI, 8, .inl (zA mkz))), (kd, .inl (cI, 9, .inl (zA kdf))), (tu, .inr (5, [.ref fa, .ref wt, .ref dg])), (fa, .inl (cI, 180, .inl (zA faf))), (wt, .inl (cI, 180, .inl (zA wtf))), (dg, .inl (cI, 6, .inl (zA dgf))), (as, .inr (0, [.ref al, .int (zI by0), .int (zI bm0)])), (al, .inl (cI, 180, .inl (zA alf))), (tk, .inr (4, [.ref wn])), (wn, .inl (cZ, 180, .inl (zA wnf))), (ck, .inr (6, [.ref wy, .ref nx, .int (zI pts), .long (zL all0)])), (wy, .inl (cJ, 12, .inr (.inl (zAL wyf)))), (nx, .inl (cJ, 12, .inr (.inl (zAL nxf)))), (md, .inr (9, [.ref bk, .ref nw, .ref nt, .int (zI Tn), .ref df, .int (zI cnn), .ref chk, .int (zI ln), .ref pa, .int (zI wat), .int (zI who), .int (zI rs), .int (zI act), .int (zI fse), .ref rc, .ref qu, .ref ct, .ref ft, .ref wn2, .ref wy2, .ref nx2, .ref im, .ref ik])), (bk, .inl (cI, 29, .inl (zA (nwS incn matn kdb tmn yrn)))), (nw, .inl (cI, 29, .inl (zA nwf))), (nt, .inl (cI, 9, .inl (zA ntf))), (df, .inl (cI, 9, .inl (zA drin))), (chk, .inl (cI, 16, .inl (zA (chS iyfn mkfn)))), (pa, .inl (cI, 60, .inl (zA sgn))), (rc, .inl (cI, 180, .inl (zA rcf))), (qu, .inl (cI, 180, .inl (zA quf))), (ct, .inl (cI, 180, .inl (zA ctf))), (ft, .inl (cI, 3600, .inl (zA ftf))), (wn2, .inl (cZ, 180, .inl (zA wnm))), (wy2, .inl (cJ, 12, .inr (.inl (zAL wym)))), (nx2, .inl (cJ, 12, .inr (.inl (zAL nxm)))), (im, .inl (cI, 120, .inl (zA imf))), (ik, .inl (cZ, 2, .inl (zA kpf)))] H locs := hz
  have hl : lv_has ls 4 [(3, .int (zI i)), (2, .ref md), (1, .ref hc), (0, .ref b)] := hl
  obtain ⟨v1, hv1⟩ : ∃ v, xsZ xs (i + 1) = v := ⟨_, rfl⟩
  have hr1 := xsZ_rng xs (i + 1)
  rw [hv1] at hr1
  obtain ⟨v2, hv2⟩ : ∃ v, xsZ xs (i + 2) = v := ⟨_, rfl⟩
  have hr2 := xsZ_rng xs (i + 2)
  rw [hv2] at hr2
  obtain ⟨v3, hv3⟩ : ∃ v, xsZ xs (i + 3) = v := ⟨_, rfl⟩
  have hr3 := xsZ_rng xs (i + 3)
  rw [hv3] at hr3
  obtain ⟨v4, hv4⟩ : ∃ v, xsZ xs (i + 4) = v := ⟨_, rfl⟩
  have hr4 := xsZ_rng xs (i + 4)
  rw [hv4] at hr4
  obtain ⟨v5, hv5⟩ : ∃ v, xsZ xs (i + 5) = v := ⟨_, rfl⟩
  have hr5 := xsZ_rng xs (i + 5)
  rw [hv5] at hr5
  obtain ⟨v6, hv6⟩ : ∃ v, xsZ xs (i + 6) = v := ⟨_, rfl⟩
  have hr6 := xsZ_rng xs (i + 6)
  rw [hv6] at hr6
  obtain ⟨v7, hv7⟩ : ∃ v, xsZ xs (i + 7) = v := ⟨_, rfl⟩
  have hr7 := xsZ_rng xs (i + 7)
  rw [hv7] at hr7
  refine lv_aload_n hx hb dL_law_763 rfl (lv_at hl 2 rfl) ?_
  refine lv_aload_n hx hb dL_law_764 rfl (lv_at hl 3 rfl) ?_
  refine lv_iload_n hx hb dL_law_765 rfl (lv_at hl 0 rfl) ?_
  refine z_iconst hx hb dL_law_766 ?_
  refine z_iadd hx hb dL_law_767 ?_
  refine z_sld hx hb hX hbl hbA hz (by omega) hL dL_law_768 hv1 ?_
  refine lv_aload_n hx hb dL_law_769 rfl (lv_at hl 3 rfl) ?_
  refine lv_iload_n hx hb dL_law_770 rfl (lv_at hl 0 rfl) ?_
  refine z_iconst hx hb dL_law_771 ?_
  refine z_iadd hx hb dL_law_772 ?_
  refine z_sld hx hb hX hbl hbA hz (by omega) hL dL_law_773 hv2 ?_
  refine lv_aload_n hx hb dL_law_774 rfl (lv_at hl 3 rfl) ?_
  refine lv_iload_n hx hb dL_law_775 rfl (lv_at hl 0 rfl) ?_
  refine z_iconst hx hb dL_law_776 ?_
  refine z_iadd hx hb dL_law_777 ?_
  refine z_sld hx hb hX hbl hbA hz (by omega) hL dL_law_778 hv3 ?_
  refine lv_aload_n hx hb dL_law_779 rfl (lv_at hl 3 rfl) ?_
  refine lv_iload_n hx hb dL_law_780 rfl (lv_at hl 0 rfl) ?_
  refine z_iconst hx hb dL_law_781 ?_
  refine z_iadd hx hb dL_law_782 ?_
  refine z_sld hx hb hX hbl hbA hz (by omega) hL dL_law_783 hv4 ?_
  refine lv_aload_n hx hb dL_law_784 rfl (lv_at hl 3 rfl) ?_
  refine lv_iload_n hx hb dL_law_785 rfl (lv_at hl 0 rfl) ?_
  refine z_iconst hx hb dL_law_786 ?_
  refine z_iadd hx hb dL_law_787 ?_
  refine z_sld hx hb hX hbl hbA hz (by omega) hL dL_law_788 hv5 ?_
  refine lv_aload_n hx hb dL_law_789 rfl (lv_at hl 3 rfl) ?_
  refine lv_iload_n hx hb dL_law_790 rfl (lv_at hl 0 rfl) ?_
  refine z_bipush hx hb dL_law_791 (by decide) ?_
  refine z_iadd hx hb dL_law_793 ?_
  refine z_sld hx hb hX hbl hbA hz (by omega) hL dL_law_794 hv6 ?_
  refine lv_aload_n hx hb dL_law_795 rfl (lv_at hl 3 rfl) ?_
  refine lv_iload_n hx hb dL_law_796 rfl (lv_at hl 0 rfl) ?_
  refine z_bipush hx hb dL_law_797 (by decide) ?_
  refine z_iadd hx hb dL_law_799 ?_
  refine z_sld hx hb hX hbl hbA hz (by omega) hL dL_law_800 hv7 ?_
  refine z_callVwl (As := [.int (zI v1), .int (zI v2), .int (zI v3), .int (zI v4), .int (zI v5), .int (zI v6), .int (zI v7)]) (rest := []) (C := RX10) (T := TX10) (N := 10) F hK hz hl (c_X10_cock l D cI cJ cZ hc on of os kp pd ys tu as tk ck wy nx wyf nxf pts all0 v1 v2 v3 v4 v5 v6 v7 (by omega)) (cwV 7 hts gL_law_X10_cock rfl rfl rfl (by decide +kernel) ⟨Nat.le_of_ble_eq_true rfl, Nat.le_of_ble_eq_true rfl⟩) rfl 0 rfl [0, 46, 47, 48] rfl rfl (by decide +kernel) rfl rfl (Nat.le_of_ble_eq_true rfl) ⟨Nat.le_of_ble_eq_true rfl, Nat.le_of_ble_eq_true rfl⟩ dL_law_801 (fun u H locs hu hz => ?_)
  obtain ⟨r_1, w1_2, n1_3, p1_4, a1_5⟩ := u
  have hu : r_1 = coR v1 v2 v3 v4 v5 v6 v7 := hu
  have g801_0 := hu
  have g801_0 := g801_0.symm
  subst g801_0
  have hz : zH D A H0 [(hc, .inr (8, [.ref on, .ref of, .ref os, .ref kp, .ref pd, .ref ys, .ref tu, .ref as, .ref tk, .ref ck])), (on, .inr (2, [.ref ain, .ref adn, .ref amn, .ref ahn, .ref chn, .int (zI Tn), .int (zI tmn), .int (zI yrn)])), (ain, .inl (cI, 9, .inl (zA incn))), (adn, .inl (cI, 9, .inl (zA drin))), (amn, .inl (cI, 9, .inl (zA matn))), (ahn, .inl (cI, 9, .inl (zA ahen))), (chn, .inr (1, [.ref iyn, .ref mkn, .int (zI cnn)])), (iyn, .inl (cI, 8, .inl (zA iyfn))), (mkn, .inl (cI, 8, .inl (zA mkfn))), (of, .inr (2, [.ref aif, .ref adf, .ref amf, .ref ahf, .ref chf, .int (zI Tf), .int (zI tmf), .int (zI yrf)])), (aif, .inl (cI, 9, .inl (zA incf))), (adf, .inl (cI, 9, .inl (zA drif))), (amf, .inl (cI, 9, .inl (zA matf))), (ahf, .inl (cI, 9, .inl (zA ahef))), (chf, .inr (1, [.ref iyf, .ref mkf, .int (zI cnf)])), (iyf, .inl (cI, 8, .inl (zA iyff))), (mkf, .inl (cI, 8, .inl (zA mkff))), (os, .inr (2, [.ref ais, .ref ads, .ref ams, .ref ahs, .ref chs, .int (zI Ts), .int (zI tms), .int (zI yrs)])), (ais, .inl (cI, 9, .inl (zA incs))), (ads, .inl (cI, 9, .inl (zA dris))), (ams, .inl (cI, 9, .inl (zA mats))), (ahs, .inl (cI, 9, .inl (zA ahes))), (chs, .inr (1, [.ref iys, .ref mks, .int (zI cns)])), (iys, .inl (cI, 8, .inl (zA iyfs))), (mks, .inl (cI, 8, .inl (zA mkfs))), (kp, .inl (cZ, 2, .inl (zA kpf))), (pd, .inr (3, [.ref sg, .int (zI ln)])), (sg, .inl (cI, 60, .inl (zA sgn))), (ys, .inr (7, [.ref o, .ref kd, .int (zI acs), .int (zI why), .int (zI wac), .int (zI won)])), (o, .inr (2, [.ref ai, .ref ad, .ref am, .ref ah, .ref ch, .int (zI T), .int (zI tm), .int (zI yr)])), (ai, .inl (cI, 9, .inl (zA inc))), (ad, .inl (cI, 9, .inl (zA dri))), (am, .inl (cI, 9, .inl (zA mat))), (ah, .inl (cI, 9, .inl (zA ahe))), (ch, .inr (1, [.ref iy, .ref mk, .int (zI cn)])), (iy, .inl (cI, 8, .inl (zA iyz))), (mk, .inl (cI, 8, .inl (zA mkz))), (kd, .inl (cI, 9, .inl (zA kdf))), (tu, .inr (5, [.ref fa, .ref wt, .ref dg])), (fa, .inl (cI, 180, .inl (zA faf))), (wt, .inl (cI, 180, .inl (zA wtf))), (dg, .inl (cI, 6, .inl (zA dgf))), (as, .inr (0, [.ref al, .int (zI by0), .int (zI bm0)])), (al, .inl (cI, 180, .inl (zA alf))), (tk, .inr (4, [.ref wn])), (wn, .inl (cZ, 180, .inl (zA wnf))), (ck, .inr (6, [.ref wy, .ref nx, .int (zI p1_4), .long (zL a1_5)])), (wy, .inl (cJ, 12, .inr (.inl (zAL w1_2)))), (nx, .inl (cJ, 12, .inr (.inl (zAL n1_3)))), (md, .inr (9, [.ref bk, .ref nw, .ref nt, .int (zI Tn), .ref df, .int (zI cnn), .ref chk, .int (zI ln), .ref pa, .int (zI wat), .int (zI who), .int (zI rs), .int (zI act), .int (zI fse), .ref rc, .ref qu, .ref ct, .ref ft, .ref wn2, .ref wy2, .ref nx2, .ref im, .ref ik])), (bk, .inl (cI, 29, .inl (zA (nwS incn matn kdb tmn yrn)))), (nw, .inl (cI, 29, .inl (zA nwf))), (nt, .inl (cI, 9, .inl (zA ntf))), (df, .inl (cI, 9, .inl (zA drin))), (chk, .inl (cI, 16, .inl (zA (chS iyfn mkfn)))), (pa, .inl (cI, 60, .inl (zA sgn))), (rc, .inl (cI, 180, .inl (zA rcf))), (qu, .inl (cI, 180, .inl (zA quf))), (ct, .inl (cI, 180, .inl (zA ctf))), (ft, .inl (cI, 3600, .inl (zA ftf))), (wn2, .inl (cZ, 180, .inl (zA wnm))), (wy2, .inl (cJ, 12, .inr (.inl (zAL wym)))), (nx2, .inl (cJ, 12, .inr (.inl (zAL nxm)))), (im, .inl (cI, 120, .inl (zA imf))), (ik, .inl (cZ, 2, .inl (zA kpf)))] H locs := hz
  refine lv_aload_n hx hb dL_law_804 rfl (lv_at hl 1 rfl) ?_
  refine lv_aload_n hx hb dL_law_805 rfl (lv_at hl 3 rfl) ?_
  refine lv_iload_n hx hb dL_law_806 rfl (lv_at hl 0 rfl) ?_
  refine z_iconst hx hb dL_law_807 ?_
  refine z_iadd hx hb dL_law_808 ?_
  refine z_sld hx hb hX hbl hbA hz (by omega) hL dL_law_809 hv1 ?_
  refine lv_aload_n hx hb dL_law_810 rfl (lv_at hl 3 rfl) ?_
  refine lv_iload_n hx hb dL_law_811 rfl (lv_at hl 0 rfl) ?_
  refine z_iconst hx hb dL_law_812 ?_
  refine z_iadd hx hb dL_law_813 ?_
  refine z_sld hx hb hX hbl hbA hz (by omega) hL dL_law_814 hv2 ?_
  refine lv_aload_n hx hb dL_law_815 rfl (lv_at hl 3 rfl) ?_
  refine lv_iload_n hx hb dL_law_816 rfl (lv_at hl 0 rfl) ?_
  refine z_iconst hx hb dL_law_817 ?_
  refine z_iadd hx hb dL_law_818 ?_
  refine z_sld hx hb hX hbl hbA hz (by omega) hL dL_law_819 hv3 ?_
  refine lv_aload_n hx hb dL_law_820 rfl (lv_at hl 3 rfl) ?_
  refine lv_iload_n hx hb dL_law_821 rfl (lv_at hl 0 rfl) ?_
  refine z_iconst hx hb dL_law_822 ?_
  refine z_iadd hx hb dL_law_823 ?_
  refine z_sld hx hb hX hbl hbA hz (by omega) hL dL_law_824 hv4 ?_
  refine lv_aload_n hx hb dL_law_825 rfl (lv_at hl 3 rfl) ?_
  refine lv_iload_n hx hb dL_law_826 rfl (lv_at hl 0 rfl) ?_
  refine z_iconst hx hb dL_law_827 ?_
  refine z_iadd hx hb dL_law_828 ?_
  refine z_sld hx hb hX hbl hbA hz (by omega) hL dL_law_829 hv5 ?_
  refine lv_aload_n hx hb dL_law_830 rfl (lv_at hl 3 rfl) ?_
  refine lv_iload_n hx hb dL_law_831 rfl (lv_at hl 0 rfl) ?_
  refine z_bipush hx hb dL_law_832 (by decide) ?_
  refine z_iadd hx hb dL_law_834 ?_
  refine z_sld hx hb hX hbl hbA hz (by omega) hL dL_law_835 hv6 ?_
  refine lv_aload_n hx hb dL_law_836 rfl (lv_at hl 3 rfl) ?_
  refine lv_iload_n hx hb dL_law_837 rfl (lv_at hl 0 rfl) ?_
  refine z_bipush hx hb dL_law_838 (by decide) ?_
  refine z_iadd hx hb dL_law_840 ?_
  refine z_sld hx hb hX hbl hbA hz (by omega) hL dL_law_841 hv7 ?_
  refine z_callVwl (As := [.int (zI v1), .int (zI v2), .int (zI v3), .int (zI v4), .int (zI v5), .int (zI v6), .int (zI v7)]) (rest := [.long (zL (coR v1 v2 v3 v4 v5 v6 v7))]) (C := RX11) (T := TX11) (N := 23) F hK hz hl (c_X11_cock l D cI cJ cZ md bk nw nt df chk pa rc qu ct ft wn2 wy2 nx2 im ik wym nxm Tn cnn ln wat who rs act fse v1 v2 v3 v4 v5 v6 v7 (by omega)) (cwV 7 hts gL_law_X11_cock rfl rfl rfl (by decide +kernel) ⟨Nat.le_of_ble_eq_true rfl, Nat.le_of_ble_eq_true rfl⟩) rfl 49 rfl [49, 61, 62] rfl rfl (by decide +kernel) rfl rfl (Nat.le_of_ble_eq_true rfl) ⟨Nat.le_of_ble_eq_true rfl, Nat.le_of_ble_eq_true rfl⟩ dL_law_842 (fun u H locs hu hz => ?_)
  obtain ⟨r_6, w1_7, n1_8⟩ := u
  have hu : r_6 = coR v1 v2 v3 v4 v5 v6 v7 := hu
  have g842_0 := hu
  have g842_0 := g842_0.symm
  subst g842_0
  have hz : zH D A H0 [(hc, .inr (8, [.ref on, .ref of, .ref os, .ref kp, .ref pd, .ref ys, .ref tu, .ref as, .ref tk, .ref ck])), (on, .inr (2, [.ref ain, .ref adn, .ref amn, .ref ahn, .ref chn, .int (zI Tn), .int (zI tmn), .int (zI yrn)])), (ain, .inl (cI, 9, .inl (zA incn))), (adn, .inl (cI, 9, .inl (zA drin))), (amn, .inl (cI, 9, .inl (zA matn))), (ahn, .inl (cI, 9, .inl (zA ahen))), (chn, .inr (1, [.ref iyn, .ref mkn, .int (zI cnn)])), (iyn, .inl (cI, 8, .inl (zA iyfn))), (mkn, .inl (cI, 8, .inl (zA mkfn))), (of, .inr (2, [.ref aif, .ref adf, .ref amf, .ref ahf, .ref chf, .int (zI Tf), .int (zI tmf), .int (zI yrf)])), (aif, .inl (cI, 9, .inl (zA incf))), (adf, .inl (cI, 9, .inl (zA drif))), (amf, .inl (cI, 9, .inl (zA matf))), (ahf, .inl (cI, 9, .inl (zA ahef))), (chf, .inr (1, [.ref iyf, .ref mkf, .int (zI cnf)])), (iyf, .inl (cI, 8, .inl (zA iyff))), (mkf, .inl (cI, 8, .inl (zA mkff))), (os, .inr (2, [.ref ais, .ref ads, .ref ams, .ref ahs, .ref chs, .int (zI Ts), .int (zI tms), .int (zI yrs)])), (ais, .inl (cI, 9, .inl (zA incs))), (ads, .inl (cI, 9, .inl (zA dris))), (ams, .inl (cI, 9, .inl (zA mats))), (ahs, .inl (cI, 9, .inl (zA ahes))), (chs, .inr (1, [.ref iys, .ref mks, .int (zI cns)])), (iys, .inl (cI, 8, .inl (zA iyfs))), (mks, .inl (cI, 8, .inl (zA mkfs))), (kp, .inl (cZ, 2, .inl (zA kpf))), (pd, .inr (3, [.ref sg, .int (zI ln)])), (sg, .inl (cI, 60, .inl (zA sgn))), (ys, .inr (7, [.ref o, .ref kd, .int (zI acs), .int (zI why), .int (zI wac), .int (zI won)])), (o, .inr (2, [.ref ai, .ref ad, .ref am, .ref ah, .ref ch, .int (zI T), .int (zI tm), .int (zI yr)])), (ai, .inl (cI, 9, .inl (zA inc))), (ad, .inl (cI, 9, .inl (zA dri))), (am, .inl (cI, 9, .inl (zA mat))), (ah, .inl (cI, 9, .inl (zA ahe))), (ch, .inr (1, [.ref iy, .ref mk, .int (zI cn)])), (iy, .inl (cI, 8, .inl (zA iyz))), (mk, .inl (cI, 8, .inl (zA mkz))), (kd, .inl (cI, 9, .inl (zA kdf))), (tu, .inr (5, [.ref fa, .ref wt, .ref dg])), (fa, .inl (cI, 180, .inl (zA faf))), (wt, .inl (cI, 180, .inl (zA wtf))), (dg, .inl (cI, 6, .inl (zA dgf))), (as, .inr (0, [.ref al, .int (zI by0), .int (zI bm0)])), (al, .inl (cI, 180, .inl (zA alf))), (tk, .inr (4, [.ref wn])), (wn, .inl (cZ, 180, .inl (zA wnf))), (ck, .inr (6, [.ref wy, .ref nx, .int (zI p1_4), .long (zL a1_5)])), (wy, .inl (cJ, 12, .inr (.inl (zAL w1_2)))), (nx, .inl (cJ, 12, .inr (.inl (zAL n1_3)))), (md, .inr (9, [.ref bk, .ref nw, .ref nt, .int (zI Tn), .ref df, .int (zI cnn), .ref chk, .int (zI ln), .ref pa, .int (zI wat), .int (zI who), .int (zI rs), .int (zI act), .int (zI fse), .ref rc, .ref qu, .ref ct, .ref ft, .ref wn2, .ref wy2, .ref nx2, .ref im, .ref ik])), (bk, .inl (cI, 29, .inl (zA (nwS incn matn kdb tmn yrn)))), (nw, .inl (cI, 29, .inl (zA nwf))), (nt, .inl (cI, 9, .inl (zA ntf))), (df, .inl (cI, 9, .inl (zA drin))), (chk, .inl (cI, 16, .inl (zA (chS iyfn mkfn)))), (pa, .inl (cI, 60, .inl (zA sgn))), (rc, .inl (cI, 180, .inl (zA rcf))), (qu, .inl (cI, 180, .inl (zA quf))), (ct, .inl (cI, 180, .inl (zA ctf))), (ft, .inl (cI, 3600, .inl (zA ftf))), (wn2, .inl (cZ, 180, .inl (zA wnm))), (wy2, .inl (cJ, 12, .inr (.inl (zAL w1_7)))), (nx2, .inl (cJ, 12, .inr (.inl (zAL n1_8)))), (im, .inl (cI, 120, .inl (zA imf))), (ik, .inl (cZ, 2, .inl (zA kpf)))] H locs := hz
  refine z_lcmp hx hb dL_law_845 ?_
  refine lv_if_eq (tgt := 963) hx hb dL_law_846 (by decide) (fun _ => ?_) (fun h => absurd ((lg_cmp_eq _ _).mpr rfl) h)
  exact hk incn drin matn ahen iyfn mkfn incf drif matf ahef iyff mkff incs dris mats ahes iyfs mkfs kpf sgn inc dri mat ahe iyz mkz kdf faf wtf dgf alf wnf w1_2 n1_3 kdb nwf ntf rcf quf ctf ftf wnm w1_7 n1_8 imf Tn tmn yrn cnn Tf tmf yrf cnf Ts tms yrs cns ln acs why wac won T tm yr cn by0 bm0 p1_4 a1_5 wat who rs act fse H locs ls (show lwI Tn incn drin matn tmn yrn iyfn mkfn cnn ln sgn kpf imf Tf incf drif matf tmf yrf iyff mkff cnf Ts incs dris mats tms yrs iyfs mkfs cns wnf wnm from ⟨hok, hpad, hkp, hif, his, htk, htm⟩) hz (lv_sub hl [0, 1, 2, 3] rfl)

set_option maxHeartbeats 8000000 in
set_option maxRecDepth 100000 in
theorem law_c22 {p : Program} {l : Launch} {e : Env} {s : State} {m : MethodId} {args : Array Value} {below : List Frame} {meth : Method} {c : Code} {Q : State → Prop} {D : va_G} {cI cJ cZ : ClassId} {A : Nat → Prop} {H0 : Heap} {b L : Nat} {xs : Nat → Int32} (hc on ain adn amn ahn chn iyn mkn of aif adf amf ahf chf iyf mkf os ais ads ams ahs chs iys mks kp pd sg ys o ai ad am ah ch iy mk kd tu fa wt dg as al tk wn ck wy nx md bk nw nt df chk pa rc qu ct ft wn2 wy2 nx2 im ik : Nat) {i : Int} (F : CallFix p m c cL_law 4 s args wsL_law RL) (hK : zK D cI cJ cZ s) (hX : va_X b L xs s H0) (hbl : b < H0.size) (hbA : ¬ A b) (hL : L ≤ 4096) (hi : 0 ≤ i ∧ i + 8 ≤ (L : Int))  (hk : lwK p l e s m args below meth c Q D cI cJ cZ A H0 b hc on ain adn amn ahn chn iyn mkn of aif adf amf ahf chf iyf mkf os ais ads ams ahs chs iys mks kp pd sg ys o ai ad am ah ch iy mk kd tu fa wt dg as al tk wn ck wy nx md bk nw nt df chk pa rc qu ct ft wn2 wy2 nx2 im ik i 963) : lwK p l e s m args below meth c Q D cI cJ cZ A H0 b hc on ain adn amn ahn chn iyn mkn of aif adf amf ahf chf iyf mkf os ais ads ams ahs chs iys mks kp pd sg ys o ai ad am ah ch iy mk kd tu fa wt dg as al tk wn ck wy nx md bk nw nt df chk pa rc qu ct ft wn2 wy2 nx2 im ik i 851 := by
  intro incn drin matn ahen iyfn mkfn incf drif matf ahef iyff mkff incs dris mats ahes iyfs mkfs kpf sgn inc dri mat ahe iyz mkz kdf faf wtf dgf alf wnf wyf nxf kdb nwf ntf rcf quf ctf ftf wnm wym nxm imf Tn tmn yrn cnn Tf tmf yrf cnf Ts tms yrs cns ln acs why wac won T tm yr cn by0 bm0 pts all0 wat who rs act fse H locs ls hI hz hl
  obtain ⟨hx, hb, hml, hown0, hts⟩ := id F
  have hown : s.vm.findClass RL = some m.cls := hown0
  obtain ⟨hok, hpad, hkp, hif, his, htk, htm⟩ := hI
  obtain ⟨hT, hbi, hbd, hmo, hty, hcn, hby, hbk⟩ := id hok
  have hbm := mOk_bd hmo
  obtain ⟨hln, hbs⟩ := id hpad
  obtain ⟨hwb, hwz⟩ := id htk
  have hz : zH D A H0 [(hc, .inr (8, [.ref on, .ref of, .ref os, .ref kp, .ref pd, .ref ys, .ref tu, .ref as, .ref tk, .ref ck])), (on, .inr (2, [.ref ain, .ref adn, .ref amn, .ref ahn, .ref chn, .int (zI Tn), .int (zI tmn), .int (zI yrn)])), (ain, .inl (cI, 9, .inl (zA incn))), (adn, .inl (cI, 9, .inl (zA drin))), (amn, .inl (cI, 9, .inl (zA matn))), (ahn, .inl (cI, 9, .inl (zA ahen))), (chn, .inr (1, [.ref iyn, .ref mkn, .int (zI cnn)])), (iyn, .inl (cI, 8, .inl (zA iyfn))), (mkn, .inl (cI, 8, .inl (zA mkfn))), (of, .inr (2, [.ref aif, .ref adf, .ref amf, .ref ahf, .ref chf, .int (zI Tf), .int (zI tmf), .int (zI yrf)])), (aif, .inl (cI, 9, .inl (zA incf))), (adf, .inl (cI, 9, .inl (zA drif))), (amf, .inl (cI, 9, .inl (zA matf))), (ahf, .inl (cI, 9, .inl (zA ahef))), (chf, .inr (1, [.ref iyf, .ref mkf, .int (zI cnf)])), (iyf, .inl (cI, 8, .inl (zA iyff))), (mkf, .inl (cI, 8, .inl (zA mkff))), (os, .inr (2, [.ref ais, .ref ads, .ref ams, .ref ahs, .ref chs, .int (zI Ts), .int (zI tms), .int (zI yrs)])), (ais, .inl (cI, 9, .inl (zA incs))), (ads, .inl (cI, 9, .inl (zA dris))), (ams, .inl (cI, 9, .inl (zA mats))), (ahs, .inl (cI, 9, .inl (zA ahes))), (chs, .inr (1, [.ref iys, .ref mks, .int (zI cns)])), (iys, .inl (cI, 8, .inl (zA iyfs))), (mks, .inl (cI, 8, .inl (zA mkfs))), (kp, .inl (cZ, 2, .inl (zA kpf))), (pd, .inr (3, [.ref sg, .int (zI ln)])), (sg, .inl (cI, 60, .inl (zA sgn))), (ys, .inr (7, [.ref o, .ref kd, .int (zI acs), .int (zI why), .int (zI wac), .int (zI won)])), (o, .inr (2, [.ref ai, .ref ad, .ref am, .ref ah, .ref ch, .int (zI T), .int (zI tm), .int (zI yr)])), (ai, .inl (cI, 9, .inl (zA inc))), (ad, .inl (cI, 9, .inl (zA dri))), (am, .inl (cI, 9, .inl (zA mat))), (ah, .inl (cI, 9, .inl (zA ahe))), (ch, .inr (1, [.ref iy, .ref mk, .int (zI cn)])), (iy, .inl (cI, 8, .inl (zA iyz))), (mk, .inl (cI, 8, .inl (zA mkz))), (kd, .inl (cI, 9, .inl (zA kdf))), (tu, .inr (5, [.ref fa, .ref wt, .ref dg])), (fa, .inl (cI, 180, .inl (zA faf))), (wt, .inl (cI, 180, .inl (zA wtf))), (dg, .inl (cI, 6, .inl (zA dgf))), (as, .inr (0, [.ref al, .int (zI by0), .int (zI bm0)])), (al, .inl (cI, 180, .inl (zA alf))), (tk, .inr (4, [.ref wn])), (wn, .inl (cZ, 180, .inl (zA wnf))), (ck, .inr (6, [.ref wy, .ref nx, .int (zI pts), .long (zL all0)])), (wy, .inl (cJ, 12, .inr (.inl (zAL wyf)))), (nx, .inl (cJ, 12, .inr (.inl (zAL nxf)))), (md, .inr (9, [.ref bk, .ref nw, .ref nt, .int (zI Tn), .ref df, .int (zI cnn), .ref chk, .int (zI ln), .ref pa, .int (zI wat), .int (zI who), .int (zI rs), .int (zI act), .int (zI fse), .ref rc, .ref qu, .ref ct, .ref ft, .ref wn2, .ref wy2, .ref nx2, .ref im, .ref ik])), (bk, .inl (cI, 29, .inl (zA (nwS incn matn kdb tmn yrn)))), (nw, .inl (cI, 29, .inl (zA nwf))), (nt, .inl (cI, 9, .inl (zA ntf))), (df, .inl (cI, 9, .inl (zA drin))), (chk, .inl (cI, 16, .inl (zA (chS iyfn mkfn)))), (pa, .inl (cI, 60, .inl (zA sgn))), (rc, .inl (cI, 180, .inl (zA rcf))), (qu, .inl (cI, 180, .inl (zA quf))), (ct, .inl (cI, 180, .inl (zA ctf))), (ft, .inl (cI, 3600, .inl (zA ftf))), (wn2, .inl (cZ, 180, .inl (zA wnm))), (wy2, .inl (cJ, 12, .inr (.inl (zAL wym)))), (nx2, .inl (cJ, 12, .inr (.inl (zAL nxm)))), (im, .inl (cI, 120, .inl (zA imf))), (ik, .inl (cZ, 2, .inl (zA kpf)))] H locs := hz
  have hl : lv_has ls 4 [(3, .int (zI i)), (2, .ref md), (1, .ref hc), (0, .ref b)] := hl
  obtain ⟨v1, hv1⟩ : ∃ v, xsZ xs (i + 1) = v := ⟨_, rfl⟩
  have hr1 := xsZ_rng xs (i + 1)
  rw [hv1] at hr1
  obtain ⟨v2, hv2⟩ : ∃ v, xsZ xs (i + 2) = v := ⟨_, rfl⟩
  have hr2 := xsZ_rng xs (i + 2)
  rw [hv2] at hr2
  obtain ⟨v3, hv3⟩ : ∃ v, xsZ xs (i + 3) = v := ⟨_, rfl⟩
  have hr3 := xsZ_rng xs (i + 3)
  rw [hv3] at hr3
  obtain ⟨v4, hv4⟩ : ∃ v, xsZ xs (i + 4) = v := ⟨_, rfl⟩
  have hr4 := xsZ_rng xs (i + 4)
  rw [hv4] at hr4
  obtain ⟨v5, hv5⟩ : ∃ v, xsZ xs (i + 5) = v := ⟨_, rfl⟩
  have hr5 := xsZ_rng xs (i + 5)
  rw [hv5] at hr5
  obtain ⟨v6, hv6⟩ : ∃ v, xsZ xs (i + 6) = v := ⟨_, rfl⟩
  have hr6 := xsZ_rng xs (i + 6)
  rw [hv6] at hr6
  obtain ⟨v7, hv7⟩ : ∃ v, xsZ xs (i + 7) = v := ⟨_, rfl⟩
  have hr7 := xsZ_rng xs (i + 7)
  rw [hv7] at hr7
  refine lv_aload_n hx hb dL_law_851 rfl (lv_at hl 2 rfl) ?_
  refine lv_aload_n hx hb dL_law_852 rfl (lv_at hl 3 rfl) ?_
  refine lv_iload_n hx hb dL_law_853 rfl (lv_at hl 0 rfl) ?_
  refine z_iconst hx hb dL_law_854 ?_
  refine z_iadd hx hb dL_law_855 ?_
  refine z_sld hx hb hX hbl hbA hz (by omega) hL dL_law_856 hv1 ?_
  refine lv_aload_n hx hb dL_law_857 rfl (lv_at hl 3 rfl) ?_
  refine lv_iload_n hx hb dL_law_858 rfl (lv_at hl 0 rfl) ?_
  refine z_iconst hx hb dL_law_859 ?_
  refine z_iadd hx hb dL_law_860 ?_
  refine z_sld hx hb hX hbl hbA hz (by omega) hL dL_law_861 hv2 ?_
  refine lv_aload_n hx hb dL_law_862 rfl (lv_at hl 3 rfl) ?_
  refine lv_iload_n hx hb dL_law_863 rfl (lv_at hl 0 rfl) ?_
  refine z_iconst hx hb dL_law_864 ?_
  refine z_iadd hx hb dL_law_865 ?_
  refine z_sld hx hb hX hbl hbA hz (by omega) hL dL_law_866 hv3 ?_
  refine z_callVw (As := [.int (zI v1), .int (zI v2), .int (zI v3)]) (rest := []) (C := RX10) (T := TX10) (N := 10) F hK hz hl (c_X10_book l D cI cJ cZ hc on of os kp pd ys tu as tk ck o kd ai ad am ah ch iy mk ain adn amn ahn chn iyn mkn kdf inc dri mat ahe iyz mkz incn drin matn iyfn mkfn acs why wac won T tm yr cn Tn tmn yrn cnn v1 v2 v3 (by omega) (by first | assumption | omega) (by assumption) (by assumption) (by assumption) (by omega)) (cwV 3 hts gL_law_X10_book rfl rfl rfl (by decide +kernel) ⟨Nat.le_of_ble_eq_true rfl, Nat.le_of_ble_eq_true rfl⟩) rfl 0 rfl [0, 28, 37, 29, 30, 31, 32, 33, 34, 35, 36, 1, 2, 3, 4, 6, 7, 8] rfl rfl (by decide +kernel) rfl rfl (Nat.le_of_ble_eq_true rfl) ⟨Nat.le_of_ble_eq_true rfl, Nat.le_of_ble_eq_true rfl⟩ dL_law_867 (fun u H locs hu hz => ?_)
  obtain ⟨r_1, inc1_2, dri1_3, mat1_4, T1_5, tm1_6, yr1_7, ah1_8, y1_9, m1_10, c1_11, kd1_12, a1_13, w1_14, wa1_15, wo1_16⟩ := u
  have hu : r_1 = boR Tn drin incn matn tmn yrn v1 v2 v3 := hu
  have g867_0 := hu
  have g867_0 := g867_0.symm
  subst g867_0
  have hz : zH D A H0 [(hc, .inr (8, [.ref on, .ref of, .ref os, .ref kp, .ref pd, .ref ys, .ref tu, .ref as, .ref tk, .ref ck])), (on, .inr (2, [.ref ain, .ref adn, .ref amn, .ref ahn, .ref chn, .int (zI Tn), .int (zI tmn), .int (zI yrn)])), (ain, .inl (cI, 9, .inl (zA incn))), (adn, .inl (cI, 9, .inl (zA drin))), (amn, .inl (cI, 9, .inl (zA matn))), (ahn, .inl (cI, 9, .inl (zA ahen))), (chn, .inr (1, [.ref iyn, .ref mkn, .int (zI cnn)])), (iyn, .inl (cI, 8, .inl (zA iyfn))), (mkn, .inl (cI, 8, .inl (zA mkfn))), (of, .inr (2, [.ref aif, .ref adf, .ref amf, .ref ahf, .ref chf, .int (zI Tf), .int (zI tmf), .int (zI yrf)])), (aif, .inl (cI, 9, .inl (zA incf))), (adf, .inl (cI, 9, .inl (zA drif))), (amf, .inl (cI, 9, .inl (zA matf))), (ahf, .inl (cI, 9, .inl (zA ahef))), (chf, .inr (1, [.ref iyf, .ref mkf, .int (zI cnf)])), (iyf, .inl (cI, 8, .inl (zA iyff))), (mkf, .inl (cI, 8, .inl (zA mkff))), (os, .inr (2, [.ref ais, .ref ads, .ref ams, .ref ahs, .ref chs, .int (zI Ts), .int (zI tms), .int (zI yrs)])), (ais, .inl (cI, 9, .inl (zA incs))), (ads, .inl (cI, 9, .inl (zA dris))), (ams, .inl (cI, 9, .inl (zA mats))), (ahs, .inl (cI, 9, .inl (zA ahes))), (chs, .inr (1, [.ref iys, .ref mks, .int (zI cns)])), (iys, .inl (cI, 8, .inl (zA iyfs))), (mks, .inl (cI, 8, .inl (zA mkfs))), (kp, .inl (cZ, 2, .inl (zA kpf))), (pd, .inr (3, [.ref sg, .int (zI ln)])), (sg, .inl (cI, 60, .inl (zA sgn))), (ys, .inr (7, [.ref o, .ref kd, .int (zI a1_13), .int (zI w1_14), .int (zI wa1_15), .int (zI wo1_16)])), (o, .inr (2, [.ref ai, .ref ad, .ref am, .ref ah, .ref ch, .int (zI T1_5), .int (zI tm1_6), .int (zI yr1_7)])), (ai, .inl (cI, 9, .inl (zA inc1_2))), (ad, .inl (cI, 9, .inl (zA dri1_3))), (am, .inl (cI, 9, .inl (zA mat1_4))), (ah, .inl (cI, 9, .inl (zA ah1_8))), (ch, .inr (1, [.ref iy, .ref mk, .int (zI c1_11)])), (iy, .inl (cI, 8, .inl (zA y1_9))), (mk, .inl (cI, 8, .inl (zA m1_10))), (kd, .inl (cI, 9, .inl (zA kd1_12))), (tu, .inr (5, [.ref fa, .ref wt, .ref dg])), (fa, .inl (cI, 180, .inl (zA faf))), (wt, .inl (cI, 180, .inl (zA wtf))), (dg, .inl (cI, 6, .inl (zA dgf))), (as, .inr (0, [.ref al, .int (zI by0), .int (zI bm0)])), (al, .inl (cI, 180, .inl (zA alf))), (tk, .inr (4, [.ref wn])), (wn, .inl (cZ, 180, .inl (zA wnf))), (ck, .inr (6, [.ref wy, .ref nx, .int (zI pts), .long (zL all0)])), (wy, .inl (cJ, 12, .inr (.inl (zAL wyf)))), (nx, .inl (cJ, 12, .inr (.inl (zAL nxf)))), (md, .inr (9, [.ref bk, .ref nw, .ref nt, .int (zI Tn), .ref df, .int (zI cnn), .ref chk, .int (zI ln), .ref pa, .int (zI wat), .int (zI who), .int (zI rs), .int (zI act), .int (zI fse), .ref rc, .ref qu, .ref ct, .ref ft, .ref wn2, .ref wy2, .ref nx2, .ref im, .ref ik])), (bk, .inl (cI, 29, .inl (zA (nwS incn matn kdb tmn yrn)))), (nw, .inl (cI, 29, .inl (zA nwf))), (nt, .inl (cI, 9, .inl (zA ntf))), (df, .inl (cI, 9, .inl (zA drin))), (chk, .inl (cI, 16, .inl (zA (chS iyfn mkfn)))), (pa, .inl (cI, 60, .inl (zA sgn))), (rc, .inl (cI, 180, .inl (zA rcf))), (qu, .inl (cI, 180, .inl (zA quf))), (ct, .inl (cI, 180, .inl (zA ctf))), (ft, .inl (cI, 3600, .inl (zA ftf))), (wn2, .inl (cZ, 180, .inl (zA wnm))), (wy2, .inl (cJ, 12, .inr (.inl (zAL wym)))), (nx2, .inl (cJ, 12, .inr (.inl (zAL nxm)))), (im, .inl (cI, 120, .inl (zA imf))), (ik, .inl (cZ, 2, .inl (zA kpf)))] H locs := hz
  refine lv_aload_n hx hb dL_law_870 rfl (lv_at hl 1 rfl) ?_
  refine lv_aload_n hx hb dL_law_871 rfl (lv_at hl 3 rfl) ?_
  refine lv_iload_n hx hb dL_law_872 rfl (lv_at hl 0 rfl) ?_
  refine z_iconst hx hb dL_law_873 ?_
  refine z_iadd hx hb dL_law_874 ?_
  refine z_sld hx hb hX hbl hbA hz (by omega) hL dL_law_875 hv1 ?_
  refine lv_aload_n hx hb dL_law_876 rfl (lv_at hl 3 rfl) ?_
  refine lv_iload_n hx hb dL_law_877 rfl (lv_at hl 0 rfl) ?_
  refine z_iconst hx hb dL_law_878 ?_
  refine z_iadd hx hb dL_law_879 ?_
  refine z_sld hx hb hX hbl hbA hz (by omega) hL dL_law_880 hv2 ?_
  refine lv_aload_n hx hb dL_law_881 rfl (lv_at hl 3 rfl) ?_
  refine lv_iload_n hx hb dL_law_882 rfl (lv_at hl 0 rfl) ?_
  refine z_iconst hx hb dL_law_883 ?_
  refine z_iadd hx hb dL_law_884 ?_
  refine z_sld hx hb hX hbl hbA hz (by omega) hL dL_law_885 hv3 ?_
  refine z_callVw (As := [.int (zI v1), .int (zI v2), .int (zI v3)]) (rest := [.int (zI (boR Tn drin incn matn tmn yrn v1 v2 v3))]) (C := RX11) (T := TX11) (N := 23) F hK hz hl (c_X11_book l D cI cJ cZ md bk nw nt df chk pa rc qu ct ft wn2 wy2 nx2 im ik incn matn kdb nwf ntf drin Tn cnn ln wat who rs act fse tmn yrn v1 v2 v3 (by omega) (by first | assumption | omega) (by assumption) (by assumption) (by assumption) (by omega)) (cwV 3 hts gL_law_X11_book rfl rfl rfl (by decide +kernel) ⟨Nat.le_of_ble_eq_true rfl, Nat.le_of_ble_eq_true rfl⟩) rfl 49 rfl [49, 50, 51, 52, 53] rfl rfl (by decide +kernel) rfl rfl (Nat.le_of_ble_eq_true rfl) ⟨Nat.le_of_ble_eq_true rfl, Nat.le_of_ble_eq_true rfl⟩ dL_law_886 (fun u H locs hu hz => ?_)
  obtain ⟨r_17, n1_18, nt1_19, wa1_20, wo1_21, rs1_22, fs1_23⟩ := u
  have hu : r_17 = boR Tn drin incn matn tmn yrn v1 v2 v3 := hu
  have g886_0 := hu
  have g886_0 := g886_0.symm
  subst g886_0
  have hz : zH D A H0 [(hc, .inr (8, [.ref on, .ref of, .ref os, .ref kp, .ref pd, .ref ys, .ref tu, .ref as, .ref tk, .ref ck])), (on, .inr (2, [.ref ain, .ref adn, .ref amn, .ref ahn, .ref chn, .int (zI Tn), .int (zI tmn), .int (zI yrn)])), (ain, .inl (cI, 9, .inl (zA incn))), (adn, .inl (cI, 9, .inl (zA drin))), (amn, .inl (cI, 9, .inl (zA matn))), (ahn, .inl (cI, 9, .inl (zA ahen))), (chn, .inr (1, [.ref iyn, .ref mkn, .int (zI cnn)])), (iyn, .inl (cI, 8, .inl (zA iyfn))), (mkn, .inl (cI, 8, .inl (zA mkfn))), (of, .inr (2, [.ref aif, .ref adf, .ref amf, .ref ahf, .ref chf, .int (zI Tf), .int (zI tmf), .int (zI yrf)])), (aif, .inl (cI, 9, .inl (zA incf))), (adf, .inl (cI, 9, .inl (zA drif))), (amf, .inl (cI, 9, .inl (zA matf))), (ahf, .inl (cI, 9, .inl (zA ahef))), (chf, .inr (1, [.ref iyf, .ref mkf, .int (zI cnf)])), (iyf, .inl (cI, 8, .inl (zA iyff))), (mkf, .inl (cI, 8, .inl (zA mkff))), (os, .inr (2, [.ref ais, .ref ads, .ref ams, .ref ahs, .ref chs, .int (zI Ts), .int (zI tms), .int (zI yrs)])), (ais, .inl (cI, 9, .inl (zA incs))), (ads, .inl (cI, 9, .inl (zA dris))), (ams, .inl (cI, 9, .inl (zA mats))), (ahs, .inl (cI, 9, .inl (zA ahes))), (chs, .inr (1, [.ref iys, .ref mks, .int (zI cns)])), (iys, .inl (cI, 8, .inl (zA iyfs))), (mks, .inl (cI, 8, .inl (zA mkfs))), (kp, .inl (cZ, 2, .inl (zA kpf))), (pd, .inr (3, [.ref sg, .int (zI ln)])), (sg, .inl (cI, 60, .inl (zA sgn))), (ys, .inr (7, [.ref o, .ref kd, .int (zI a1_13), .int (zI w1_14), .int (zI wa1_15), .int (zI wo1_16)])), (o, .inr (2, [.ref ai, .ref ad, .ref am, .ref ah, .ref ch, .int (zI T1_5), .int (zI tm1_6), .int (zI yr1_7)])), (ai, .inl (cI, 9, .inl (zA inc1_2))), (ad, .inl (cI, 9, .inl (zA dri1_3))), (am, .inl (cI, 9, .inl (zA mat1_4))), (ah, .inl (cI, 9, .inl (zA ah1_8))), (ch, .inr (1, [.ref iy, .ref mk, .int (zI c1_11)])), (iy, .inl (cI, 8, .inl (zA y1_9))), (mk, .inl (cI, 8, .inl (zA m1_10))), (kd, .inl (cI, 9, .inl (zA kd1_12))), (tu, .inr (5, [.ref fa, .ref wt, .ref dg])), (fa, .inl (cI, 180, .inl (zA faf))), (wt, .inl (cI, 180, .inl (zA wtf))), (dg, .inl (cI, 6, .inl (zA dgf))), (as, .inr (0, [.ref al, .int (zI by0), .int (zI bm0)])), (al, .inl (cI, 180, .inl (zA alf))), (tk, .inr (4, [.ref wn])), (wn, .inl (cZ, 180, .inl (zA wnf))), (ck, .inr (6, [.ref wy, .ref nx, .int (zI pts), .long (zL all0)])), (wy, .inl (cJ, 12, .inr (.inl (zAL wyf)))), (nx, .inl (cJ, 12, .inr (.inl (zAL nxf)))), (md, .inr (9, [.ref bk, .ref nw, .ref nt, .int (zI Tn), .ref df, .int (zI cnn), .ref chk, .int (zI ln), .ref pa, .int (zI wa1_20), .int (zI wo1_21), .int (zI rs1_22), .int (zI act), .int (zI fs1_23), .ref rc, .ref qu, .ref ct, .ref ft, .ref wn2, .ref wy2, .ref nx2, .ref im, .ref ik])), (bk, .inl (cI, 29, .inl (zA (nwS incn matn kdb tmn yrn)))), (nw, .inl (cI, 29, .inl (zA n1_18))), (nt, .inl (cI, 9, .inl (zA nt1_19))), (df, .inl (cI, 9, .inl (zA drin))), (chk, .inl (cI, 16, .inl (zA (chS iyfn mkfn)))), (pa, .inl (cI, 60, .inl (zA sgn))), (rc, .inl (cI, 180, .inl (zA rcf))), (qu, .inl (cI, 180, .inl (zA quf))), (ct, .inl (cI, 180, .inl (zA ctf))), (ft, .inl (cI, 3600, .inl (zA ftf))), (wn2, .inl (cZ, 180, .inl (zA wnm))), (wy2, .inl (cJ, 12, .inr (.inl (zAL wym)))), (nx2, .inl (cJ, 12, .inr (.inl (zAL nxm)))), (im, .inl (cI, 120, .inl (zA imf))), (ik, .inl (cZ, 2, .inl (zA kpf)))] H locs := hz
  refine lv_icmp_eq (tgt := 963) hx hb dL_law_889 (by decide) (fun _ => ?_) (fun h => absurd rfl h)
  exact hk incn drin matn ahen iyfn mkfn incf drif matf ahef iyff mkff incs dris mats ahes iyfs mkfs kpf sgn inc1_2 dri1_3 mat1_4 ah1_8 y1_9 m1_10 kd1_12 faf wtf dgf alf wnf wyf nxf kdb n1_18 nt1_19 rcf quf ctf ftf wnm wym nxm imf Tn tmn yrn cnn Tf tmf yrf cnf Ts tms yrs cns ln a1_13 w1_14 wa1_15 wo1_16 T1_5 tm1_6 yr1_7 c1_11 by0 bm0 pts all0 wa1_20 wo1_21 rs1_22 act fs1_23 H locs ls (show lwI Tn incn drin matn tmn yrn iyfn mkfn cnn ln sgn kpf imf Tf incf drif matf tmf yrf iyff mkff cnf Ts incs dris mats tms yrs iyfs mkfs cns wnf wnm from ⟨hok, hpad, hkp, hif, his, htk, htm⟩) hz (lv_sub hl [0, 1, 2, 3] rfl)
