theorem thnS_bd (yr c : Int) : 0 ≤ thnS yr c ∧ thnS yr c < 180 := by unfold thnS; omega
theorem cntS_le {iy mk : Int → Int} {cn w : Int} (k n : Nat) : cntS iy mk cn w n ≤ cntS iy mk cn w (n + k) := sumZ_mono (fun j => by split <;> decide) k n
theorem cnt_lt {iy mk : Int → Int} {cn w c x i : Int} (hc : cntS iy mk cn w c.toNat = i) (hx : cntS iy mk cn w x.toNat = i) (hf : fitC iy mk cn w x = true) (h0 : 0 ≤ x) (h1 : 0 ≤ c) : c ≤ x := by
  rcases (by omega : c ≤ x ∨ x + 1 ≤ c) with h | h
  · exact h
  · have h2 := cntS_s (iy := iy) (mk := mk) (cn := cn) (w := w) h0
    rw [if_pos hf] at h2
    have h3 := cntS_le (iy := iy) (mk := mk) (cn := cn) (w := w) (c.toNat - (x + 1).toNat) (x + 1).toNat
    rw [show (x + 1).toNat + (c.toNat - (x + 1).toNat) = c.toNat by omega] at h3
    omega
theorem mos_same {iy mk : Int → Int} {cn yr : Int} : ∀ (k n : Nat), cntS iy mk cn 0 (n + k) = cntS iy mk cn 0 n → mosS iy mk cn yr (n + k) = mosS iy mk cn yr n ∧ ∀ v, alkS iy mk cn yr v (n + k) = alkS iy mk cn yr v n
  | 0, n, _ => ⟨rfl, fun _ => rfl⟩
  | k + 1, n, h => by
    have h1 := cntS_le (iy := iy) (mk := mk) (cn := cn) (w := 0) k n
    have e2 : cntS iy mk cn 0 (n + (k + 1)) = cntS iy mk cn 0 (n + k) + (if fitC iy mk cn 0 ((n + k : Nat) : Int) = true then 1 else 0) := rfl
    rw [e2] at h
    have hf : ¬ fitC iy mk cn 0 ((n + k : Nat) : Int) = true := fun q => by rw [if_pos q] at h; omega
    rw [if_neg hf] at h
    have ih := mos_same (iy := iy) (mk := mk) (cn := cn) (yr := yr) k n (by omega)
    refine ⟨?_, fun v => ?_⟩
    · have e3 : mosS iy mk cn yr (n + (k + 1)) = if fitC iy mk cn 0 ((n + k : Nat) : Int) = true then max (mosS iy mk cn yr (n + k)) (alkS iy mk cn yr (thnS yr ((n + k : Nat) : Int)) (n + k + 1)) else mosS iy mk cn yr (n + k) := rfl
      rw [e3, if_neg hf]; exact ih.1
    · have e4 : alkS iy mk cn yr v (n + (k + 1)) = alkS iy mk cn yr v (n + k) + (if fitC iy mk cn 0 ((n + k : Nat) : Int) = true ∧ thnS yr ((n + k : Nat) : Int) = v then 1 else 0) := rfl
      rw [e4, if_neg (fun q => hf q.1), ih.2 v]; omega
theorem mos_to {iy mk : Int → Int} {cn yr c x : Int} (h : 0 ≤ c ∧ c ≤ x) (hc : cntS iy mk cn 0 c.toNat = cntS iy mk cn 0 x.toNat) : mosS iy mk cn yr x.toNat = mosS iy mk cn yr c.toNat ∧ ∀ v, alkS iy mk cn yr v x.toNat = alkS iy mk cn yr v c.toNat := by
  have := mos_same (iy := iy) (mk := mk) (cn := cn) (yr := yr) (x.toNat - c.toNat) c.toNat (by rw [show c.toNat + (x.toNat - c.toNat) = x.toNat by omega, hc])
  rwa [show c.toNat + (x.toNat - c.toNat) = x.toNat by omega] at this
theorem fitC_no {iy mk : Int → Int} {cn w c : Int} (h : fitS iy mk cn (c / 20) (c % 20 - 9) w = false) : fitC iy mk cn w c = false := by unfold fitC; rw [h]; simp

set_option maxHeartbeats 4000000 in
set_option maxRecDepth 100000 in
theorem c_X11_wasAt (l : Launch) (D : va_G) (cI cJ cZ : ClassId) (c0 yr : Int) (hcy : (0 ≤ c0 ∧ c0 < 3600) ∧ 0 ≤ yr ∧ yr ≤ 60) : zMp l yX11_wasAt wsX11_wasAt (zRm 1) D cI cJ cZ [.int (zI c0), .int (zI yr)] [] (some (.int (zI (thnS yr c0)))) := by
  refine zMp_i (cc := cX11_wasAt) (maxL := 2) (by decide +kernel) rfl (Nat.le_of_ble_eq_true rfl) rfl ?_
  intro p e s m args below meth c Q H ls F hK hz hl hret
  obtain ⟨hx, hb, hml, hown0, hts⟩ := id F
  have hown : s.vm.findClass RX11 = some m.cls := hown0
  obtain ⟨ws0, hw0⟩ : ∃ w : va_W, w = [] := ⟨_, rfl⟩
  have hz : zH D (zF ws0) H [] H [] := by rw [hw0]; exact hz
  have hl : lv_has ls 2 [(0, .int (zI c0)), (1, .int (zI yr))] := hl
  refine lv_iload_n hx hb dX11_wasAt_0 rfl (lv_at hl 0 rfl) ?_
  refine z_bipush hx hb dX11_wasAt_1 (by decide) ?_
  refine z_idiv hx hb dX11_wasAt_3 (by omega) (by omega) ?_
  refine lv_iload_n hx hb dX11_wasAt_4 rfl (lv_at hl 0 rfl) ?_
  refine z_bipush hx hb dX11_wasAt_5 (by decide) ?_
  refine z_irem hx hb dX11_wasAt_7 (by omega) (by omega) ?_
  refine z_bipush hx hb dX11_wasAt_8 (by decide) ?_
  refine z_isub hx hb dX11_wasAt_10 ?_
  refine lv_iload_n hx hb dX11_wasAt_11 rfl (lv_at hl 1 rfl) ?_
  refine z_imul hx hb dX11_wasAt_12 ?_
  have hmz : -20000 ≤ (c0 % 20 - 9) * yr ∧ (c0 % 20 - 9) * yr ≤ 20000 := by have h1 : (c0 % 20 - 9) * yr ≤ 10 * yr := Int.mul_le_mul_of_nonneg_right (by omega) (by omega); have h2 : -9 * yr ≤ (c0 % 20 - 9) * yr := Int.mul_le_mul_of_nonneg_right (by omega) (by omega); omega
  refine z_iadd hx hb dX11_wasAt_13 ?_
  refine z_callSp (As := [.int (zI ((c0 / 20) + (((c0 % 20) - 9) * yr)))]) (rest := []) F hK hz hl (c_X11_over l D cI cJ cZ ((c0 / 20) + (((c0 % 20) - 9) * yr)) (by omega)) (va_cwS 1 hts gX11_wasAt_X11_over rfl rfl rfl (by decide +kernel) ⟨Nat.le_of_ble_eq_true rfl, Nat.le_of_ble_eq_true rfl⟩) [] rfl rfl rfl rfl (Nat.le_of_ble_eq_true rfl) ⟨Nat.le_of_ble_eq_true rfl, Nat.le_of_ble_eq_true rfl⟩ dX11_wasAt_14 ?_
  exact hret dX11_wasAt_17 (congrArg (fun z => some (Value.int (zI z))) (show ((((c0 / 20) + (((c0 % 20) - 9) * yr)) % 180) : Int) = (thnS yr c0) by rfl))

set_option maxRecDepth 20000 in
theorem hin_X11_isFit_X11 : ∀ w ∈ u_ws RX11 TX11 23, w ∈ wsX11_isFit := by decide +kernel
set_option maxRecDepth 20000 in
theorem fl_X11_isFit_142 : Cond.fieldLink RX11 142 "HornCityModel" "chalks" "I" ∈ wsX11_isFit := by decide +kernel
set_option maxRecDepth 20000 in
theorem fl_X11_isFit_22 : Cond.fieldLink RX11 22 "HornCityModel" "chalk" "[I" ∈ wsX11_isFit := by decide +kernel
set_option maxHeartbeats 4000000 in
set_option maxRecDepth 100000 in
theorem c_X11_isFit (l : Launch) (D : va_G) (cI cJ cZ : ClassId) (md bk nw nt df chk pa rc qu ct ft wn wy nx im ik : Nat) (iyf mkf : Int → Int) (T cn ln wat who rs act fse c0 w : Int) (hcw : (0 ≤ c0 ∧ c0 < 3600) ∧ 0 ≤ w ∧ w ≤ 2) (hcn : 0 ≤ cn ∧ cn ≤ 8) (hby : zBd iyf 8 0 60) (hbk : zBd mkf 8 0 179) : zMp l yX11_isFit wsX11_isFit (zRm 2) D cI cJ cZ [.ref md, .int (zI c0), .int (zI w)] [(md, .inr (9, [.ref bk, .ref nw, .ref nt, .int (zI T), .ref df, .int (zI cn), .ref chk, .int (zI ln), .ref pa, .int (zI wat), .int (zI who), .int (zI rs), .int (zI act), .int (zI fse), .ref rc, .ref qu, .ref ct, .ref ft, .ref wn, .ref wy, .ref nx, .ref im, .ref ik])), (chk, .inl (cI, 16, .inl (zA (chS iyf mkf))))] (some (.int (zI (if fitC iyf mkf cn w c0 = true then 1 else 0)))) := by
  refine zMp_z (cc := cX11_isFit) (maxL := 8) (by decide +kernel) rfl (Nat.le_of_ble_eq_true rfl) rfl ?_
  intro p e s m args below meth c Q H ls F hK hz hl hret
  obtain ⟨hx, hb, hml, hown0, hts⟩ := id F
  have hown : s.vm.findClass RX11 = some m.cls := hown0
  obtain ⟨ws0, hw0⟩ : ∃ w : va_W, w = [(md, .inr (9, [.ref bk, .ref nw, .ref nt, .int (zI T), .ref df, .int (zI cn), .ref chk, .int (zI ln), .ref pa, .int (zI wat), .int (zI who), .int (zI rs), .int (zI act), .int (zI fse), .ref rc, .ref qu, .ref ct, .ref ft, .ref wn, .ref wy, .ref nx, .ref im, .ref ik])), (chk, .inl (cI, 16, .inl (zA (chS iyf mkf))))] := ⟨_, rfl⟩
  have hz : zH D (zF ws0) H [(md, .inr (9, [.ref bk, .ref nw, .ref nt, .int (zI T), .ref df, .int (zI cn), .ref chk, .int (zI ln), .ref pa, .int (zI wat), .int (zI who), .int (zI rs), .int (zI act), .int (zI fse), .ref rc, .ref qu, .ref ct, .ref ft, .ref wn, .ref wy, .ref nx, .ref im, .ref ik])), (chk, .inl (cI, 16, .inl (zA (chS iyf mkf))))] H [] := by rw [hw0]; exact hz
  have hl : lv_has ls 8 [(0, .ref md), (1, .int (zI c0)), (2, .int (zI w))] := hl
  refine z_iconst hx hb dX11_isFit_0 ?_
  refine lv_istore_n (lv' := [(3, .int (zI 0)), (0, .ref md), (1, .int (zI c0)), (2, .int (zI w))]) hx hb dX11_isFit_1 rfl hl (Nat.le_of_ble_eq_true rfl) rfl (fun ls hl => ?_)
  refine lv_iload_n hx hb dX11_isFit_2 rfl (lv_at hl 2 rfl) ?_
  refine z_bipush hx hb dX11_isFit_3 (by decide) ?_
  refine z_irem hx hb dX11_isFit_5 (by omega) (by omega) ?_
  refine z_bipush hx hb dX11_isFit_6 (by decide) ?_
  refine z_icmp_ge (tgt := 15) hx hb dX11_isFit_8 (by decide) (by omega) (by decide) (fun h8 => ?_) (fun h8 => ?_)
  ·
    refine z_iconst hx hb dX11_isFit_15 ?_
    refine lv_istore (lv' := [(4, .int (zI 0)), (3, .int (zI 0)), (0, .ref md), (1, .int (zI c0)), (2, .int (zI w))]) hx hb dX11_isFit_16 hl (Nat.le_of_ble_eq_true rfl) rfl (fun ls hl => ?_)
    refine z_iconst hx hb dX11_isFit_18 ?_
    refine lv_istore (lv' := [(5, .int (zI 0)), (4, .int (zI 0)), (3, .int (zI 0)), (0, .ref md), (1, .int (zI c0)), (2, .int (zI w))]) hx hb dX11_isFit_19 hl (Nat.le_of_ble_eq_true rfl) rfl (fun ls hl => ?_)
    have L21 : ∀ (n : Nat) (i al wr : Int) (ls : Array Slot), ((8 - i).toNat = n) → (0 ≤ i ∧ i ≤ cn) → (0 ≤ wr ∧ wr ≤ i) → (al = 0 ∨ al = 1) → ((al = 1 ∧ c0 % 20 < 19 ∧ allB (okS iyf mkf (c0 / 20) (c0 % 20 - 9)) i.toNat = true ∧ wr = sumZ (misS iyf mkf (c0 / 20) (c0 % 20 - 9)) i.toNat ∧ wr ≤ w) ∨ (al = 0 ∧ fitC iyf mkf cn w c0 = false)) → lv_has ls 8 [(5, .int (zI i)), (4, .int (zI al)), (3, .int (zI wr)), (0, .ref md), (1, .int (zI c0)), (2, .int (zI w))] → W p l e (zRm 2) s m args below meth c H [] 0 0 Q (F0 m 21 ls []) := by
      intro n
      refine Nat.strongRecOn n ?_
      intro n ih21 i al wr ls hn21 h0 hw hal hfi hl
      refine lv_iload hx hb dX11_isFit_21 (lv_at hl 0 rfl) ?_
      refine lv_aload_n hx hb dX11_isFit_23 rfl (lv_at hl 3 rfl) ?_
      refine z_get (C := RX11) (T := TX11) (N := 23) (ref := "HornCityModel") hx hb hts hin_X11_isFit_X11 hown hK hz 0 rfl rfl 5 (by decide) (hts _ fl_X11_isFit_142) rfl rfl dX11_isFit_24 ?_
      refine z_icmp_ge (tgt := 117) hx hb dX11_isFit_27 (by decide) (by omega) (by omega) (fun h27 => ?_) (fun h27 => ?_)
      ·
        refine lv_iload hx hb dX11_isFit_117 (lv_at hl 1 rfl) ?_
        exact hret dX11_isFit_119 (by first | decide | omega | (split <;> decide)) (congrArg (fun z => some (Value.int (zI z))) (show (al : Int) = (if fitC iyf mkf cn w c0 = true then 1 else 0) by exact hfi.elim (fun q => by (have e : i = cn := (by omega)); subst e; rw [if_pos (show fitC iyf mkf i w c0 = true by unfold fitC fitS; rw [decide_eq_true q.2.1, q.2.2.1, ← q.2.2.2.1, decide_eq_true q.2.2.2.2]; rfl)]; exact q.1) (fun q => by rw [if_neg (by rw [q.2]; decide)]; exact q.1)))
      ·
        refine lv_iload hx hb dX11_isFit_30 (lv_at hl 1 rfl) ?_
        refine z_if_eq (tgt := 117) hx hb dX11_isFit_32 (by decide) (by omega) (fun h32 => ?_) (fun h32 => ?_)
        ·
          refine lv_iload hx hb dX11_isFit_117 (lv_at hl 1 rfl) ?_
          exact hret dX11_isFit_119 (by first | decide | omega | (split <;> decide)) (congrArg (fun z => some (Value.int (zI z))) (show (al : Int) = (if fitC iyf mkf cn w c0 = true then 1 else 0) by exact hfi.elim (fun q => by (have e : i = cn := (by omega)); subst e; rw [if_pos (show fitC iyf mkf i w c0 = true by unfold fitC fitS; rw [decide_eq_true q.2.1, q.2.2.1, ← q.2.2.2.1, decide_eq_true q.2.2.2.2]; rfl)]; exact q.1) (fun q => by rw [if_neg (by rw [q.2]; decide)]; exact q.1)))
        ·
          refine lv_iload_n hx hb dX11_isFit_35 rfl (lv_at hl 4 rfl) ?_
          refine lv_aload_n hx hb dX11_isFit_36 rfl (lv_at hl 3 rfl) ?_
          refine z_get (C := RX11) (T := TX11) (N := 23) (ref := "HornCityModel") hx hb hts hin_X11_isFit_X11 hown hK hz 0 rfl rfl 6 (by decide) (hts _ fl_X11_isFit_22) rfl rfl dX11_isFit_37 ?_
          refine z_iconst hx hb dX11_isFit_40 ?_
          refine lv_iload hx hb dX11_isFit_41 (lv_at hl 0 rfl) ?_
          refine z_imul hx hb dX11_isFit_43 ?_
          refine z_iald hx hb hK hz 1 rfl (by omega) (by decide) dX11_isFit_44 ?_
          rw [chS_y]
          have hv44 := (hby).ax i (by omega)
          refine z_callSp (As := [.int (zI c0), .int (zI (iyf i))]) (rest := []) F hK hz hl (c_X11_wasAt l D cI cJ cZ c0 (iyf i) (by omega)) (va_cwS 2 hts gX11_isFit_X11_wasAt rfl rfl rfl (by decide +kernel) ⟨Nat.le_of_ble_eq_true rfl, Nat.le_of_ble_eq_true rfl⟩) [] rfl rfl rfl rfl (Nat.le_of_ble_eq_true rfl) ⟨Nat.le_of_ble_eq_true rfl, Nat.le_of_ble_eq_true rfl⟩ dX11_isFit_45 ?_
          have htb := thnS_bd (iyf i) c0
          refine lv_istore (lv' := [(6, .int (zI (thnS (iyf i) c0))), (5, .int (zI i)), (4, .int (zI al)), (3, .int (zI wr)), (0, .ref md), (1, .int (zI c0)), (2, .int (zI w))]) hx hb dX11_isFit_48 hl (Nat.le_of_ble_eq_true rfl) rfl (fun ls hl => ?_)
          refine lv_aload_n hx hb dX11_isFit_50 rfl (lv_at hl 4 rfl) ?_
          refine z_get (C := RX11) (T := TX11) (N := 23) (ref := "HornCityModel") hx hb hts hin_X11_isFit_X11 hown hK hz 0 rfl rfl 6 (by decide) (hts _ fl_X11_isFit_22) rfl rfl dX11_isFit_51 ?_
          refine z_iconst hx hb dX11_isFit_54 ?_
          refine lv_iload hx hb dX11_isFit_55 (lv_at hl 1 rfl) ?_
          refine z_imul hx hb dX11_isFit_57 ?_
          refine z_iconst hx hb dX11_isFit_58 ?_
          refine z_iadd hx hb dX11_isFit_59 ?_
          refine z_iald hx hb hK hz 1 rfl (by omega) (by decide) dX11_isFit_60 ?_
          rw [chS_c]
          have hv60 := (hbk).ax i (by omega)
          refine lv_istore (lv' := [(7, .int (zI (mkf i))), (6, .int (zI (thnS (iyf i) c0))), (5, .int (zI i)), (4, .int (zI al)), (3, .int (zI wr)), (0, .ref md), (1, .int (zI c0)), (2, .int (zI w))]) hx hb dX11_isFit_61 hl (Nat.le_of_ble_eq_true rfl) rfl (fun ls hl => ?_)
          refine lv_iload_n hx hb dX11_isFit_63 rfl (lv_at hl 4 rfl) ?_
          refine lv_iload hx hb dX11_isFit_64 (lv_at hl 1 rfl) ?_
          refine lv_iload hx hb dX11_isFit_66 (lv_at hl 0 rfl) ?_
          refine z_icmp_ne (tgt := 75) hx hb dX11_isFit_68 (by decide) (by omega) (by omega) (fun h68 => ?_) (fun h68 => ?_)
          ·
            refine z_iconst hx hb dX11_isFit_75 ?_
            refine z_iadd hx hb dX11_isFit_76 ?_
            refine lv_istore_n (lv' := [(3, .int (zI (wr + 1))), (7, .int (zI (mkf i))), (6, .int (zI (thnS (iyf i) c0))), (5, .int (zI i)), (4, .int (zI al)), (0, .ref md), (1, .int (zI c0)), (2, .int (zI w))]) hx hb dX11_isFit_77 rfl hl (Nat.le_of_ble_eq_true rfl) rfl (fun ls hl => ?_)
            refine lv_iload hx hb dX11_isFit_78 (lv_at hl 2 rfl) ?_
            refine lv_iload hx hb dX11_isFit_80 (lv_at hl 1 rfl) ?_
            refine z_icmp_eq (tgt := 99) hx hb dX11_isFit_82 (by decide) (by omega) (by omega) (fun h82 => ?_) (fun h82 => ?_)
            ·
              exfalso
              first | omega | (revert h82; simp_all; done) | simp_all
            ·
              refine lv_iload hx hb dX11_isFit_85 (lv_at hl 2 rfl) ?_
              refine z_sipush hx hb dX11_isFit_87 (by decide) ?_
              refine lv_iload hx hb dX11_isFit_90 (lv_at hl 1 rfl) ?_
              refine z_isub hx hb dX11_isFit_92 ?_
              refine z_callSp (As := [.int (zI (180 - (mkf i)))]) (rest := [.int (zI (thnS (iyf i) c0))]) F hK hz hl (c_X11_over l D cI cJ cZ (180 - (mkf i)) (by omega)) (va_cwS 1 hts gX11_isFit_X11_over rfl rfl rfl (by decide +kernel) ⟨Nat.le_of_ble_eq_true rfl, Nat.le_of_ble_eq_true rfl⟩) [] rfl rfl rfl rfl (Nat.le_of_ble_eq_true rfl) ⟨Nat.le_of_ble_eq_true rfl, Nat.le_of_ble_eq_true rfl⟩ dX11_isFit_93 ?_
              refine z_icmp_ne (tgt := 108) hx hb dX11_isFit_96 (by decide) (by omega) (by omega) (fun h96 => ?_) (fun h96 => ?_)
              ·
                refine z_iconst hx hb dX11_isFit_108 ?_
                refine lv_istore (lv' := [(4, .int (zI 0)), (3, .int (zI (wr + 1))), (7, .int (zI (mkf i))), (6, .int (zI (thnS (iyf i) c0))), (5, .int (zI i)), (0, .ref md), (1, .int (zI c0)), (2, .int (zI w))]) hx hb dX11_isFit_109 hl (Nat.le_of_ble_eq_true rfl) rfl (fun ls hl => ?_)
                refine z_iinc (lv' := [(5, .int (zI (i + 1))), (4, .int (zI 0)), (3, .int (zI (wr + 1))), (7, .int (zI (mkf i))), (6, .int (zI (thnS (iyf i) c0))), (0, .ref md), (1, .int (zI c0)), (2, .int (zI w))]) hx hb dX11_isFit_111 hl (k := 4) rfl (Nat.le_of_ble_eq_true rfl) rfl (fun ls hl => ?_)
                refine lv_goto (tgt := 21) hx hb dX11_isFit_114 (by decide) ?_
                exact ih21 _ (by omega) (i + 1) 0 (wr + 1) ls rfl (by omega) (by omega) (by omega) (by have hth : thnS (iyf i) c0 = (c0 / 20 + (c0 % 20 - 9) * iyf i) % 180 := rfl; have hsz := sumZ_s (f := misS iyf mkf (c0 / 20) (c0 % 20 - 9)) h0.1; have haz := allB_s (f := okS iyf mkf (c0 / 20) (c0 % 20 - 9)) h0.1; exact Or.inr ⟨rfl, fitC_no (fitS_bad h0.1 (i := i) (by omega) (decide_eq_false (by omega)))⟩) (lv_sub hl [0, 1, 2, 5, 6, 7] rfl)
              ·
                refine lv_iload_n hx hb dX11_isFit_99 rfl (lv_at hl 0 rfl) ?_
                refine lv_iload_n hx hb dX11_isFit_100 rfl (lv_at hl 7 rfl) ?_
                refine z_icmp_gt (tgt := 108) hx hb dX11_isFit_101 (by decide) (by omega) (by omega) (fun h101 => ?_) (fun h101 => ?_)
                ·
                  refine z_iconst hx hb dX11_isFit_108 ?_
                  refine lv_istore (lv' := [(4, .int (zI 0)), (3, .int (zI (wr + 1))), (7, .int (zI (mkf i))), (6, .int (zI (thnS (iyf i) c0))), (5, .int (zI i)), (0, .ref md), (1, .int (zI c0)), (2, .int (zI w))]) hx hb dX11_isFit_109 hl (Nat.le_of_ble_eq_true rfl) rfl (fun ls hl => ?_)
                  refine z_iinc (lv' := [(5, .int (zI (i + 1))), (4, .int (zI 0)), (3, .int (zI (wr + 1))), (7, .int (zI (mkf i))), (6, .int (zI (thnS (iyf i) c0))), (0, .ref md), (1, .int (zI c0)), (2, .int (zI w))]) hx hb dX11_isFit_111 hl (k := 4) rfl (Nat.le_of_ble_eq_true rfl) rfl (fun ls hl => ?_)
                  refine lv_goto (tgt := 21) hx hb dX11_isFit_114 (by decide) ?_
                  exact ih21 _ (by omega) (i + 1) 0 (wr + 1) ls rfl (by omega) (by omega) (by omega) (by have hth : thnS (iyf i) c0 = (c0 / 20 + (c0 % 20 - 9) * iyf i) % 180 := rfl; have hsz := sumZ_s (f := misS iyf mkf (c0 / 20) (c0 % 20 - 9)) h0.1; have haz := allB_s (f := okS iyf mkf (c0 / 20) (c0 % 20 - 9)) h0.1; rw [misS_1 (by omega)] at hsz; exact Or.inr ⟨rfl, fitC_no (fitS_many h0.1 (i := i) (by omega) (by rw [misS_1 (by omega)]; omega))⟩) (lv_sub hl [0, 1, 2, 5, 6, 7] rfl)
                ·
                  refine z_iconst hx hb dX11_isFit_104 ?_
                  refine lv_goto (tgt := 109) hx hb dX11_isFit_105 (by decide) ?_
                  refine lv_istore (lv' := [(4, .int (zI 1)), (3, .int (zI (wr + 1))), (7, .int (zI (mkf i))), (6, .int (zI (thnS (iyf i) c0))), (5, .int (zI i)), (0, .ref md), (1, .int (zI c0)), (2, .int (zI w))]) hx hb dX11_isFit_109 hl (Nat.le_of_ble_eq_true rfl) rfl (fun ls hl => ?_)
                  refine z_iinc (lv' := [(5, .int (zI (i + 1))), (4, .int (zI 1)), (3, .int (zI (wr + 1))), (7, .int (zI (mkf i))), (6, .int (zI (thnS (iyf i) c0))), (0, .ref md), (1, .int (zI c0)), (2, .int (zI w))]) hx hb dX11_isFit_111 hl (k := 4) rfl (Nat.le_of_ble_eq_true rfl) rfl (fun ls hl => ?_)
                  refine lv_goto (tgt := 21) hx hb dX11_isFit_114 (by decide) ?_
                  exact ih21 _ (by omega) (i + 1) 1 (wr + 1) ls rfl (by omega) (by omega) (by omega) (by have hth : thnS (iyf i) c0 = (c0 / 20 + (c0 % 20 - 9) * iyf i) % 180 := rfl; have hsz := sumZ_s (f := misS iyf mkf (c0 / 20) (c0 % 20 - 9)) h0.1; have haz := allB_s (f := okS iyf mkf (c0 / 20) (c0 % 20 - 9)) h0.1; rw [misS_1 (by omega)] at hsz; exact Or.inl ⟨rfl, hfi.elim (fun q => q.2.1) (fun q => by omega), by rw [haz, hfi.elim (fun q => q.2.2.1) (fun q => by omega), Bool.true_and]; exact decide_eq_true (by omega), by omega, by omega⟩) (lv_sub hl [0, 1, 2, 5, 6, 7] rfl)
          ·
            refine z_iconst hx hb dX11_isFit_71 ?_
            refine lv_goto (tgt := 76) hx hb dX11_isFit_72 (by decide) ?_
            refine z_iadd hx hb dX11_isFit_76 ?_
            refine lv_istore_n (lv' := [(3, .int (zI (wr + 0))), (7, .int (zI (mkf i))), (6, .int (zI (thnS (iyf i) c0))), (5, .int (zI i)), (4, .int (zI al)), (0, .ref md), (1, .int (zI c0)), (2, .int (zI w))]) hx hb dX11_isFit_77 rfl hl (Nat.le_of_ble_eq_true rfl) rfl (fun ls hl => ?_)
            refine lv_iload hx hb dX11_isFit_78 (lv_at hl 2 rfl) ?_
            refine lv_iload hx hb dX11_isFit_80 (lv_at hl 1 rfl) ?_
            refine z_icmp_eq (tgt := 99) hx hb dX11_isFit_82 (by decide) (by omega) (by omega) (fun h82 => ?_) (fun h82 => ?_)
            ·
              refine lv_iload_n hx hb dX11_isFit_99 rfl (lv_at hl 0 rfl) ?_
              refine lv_iload_n hx hb dX11_isFit_100 rfl (lv_at hl 7 rfl) ?_
              refine z_icmp_gt (tgt := 108) hx hb dX11_isFit_101 (by decide) (by omega) (by omega) (fun h101 => ?_) (fun h101 => ?_)
              ·
                refine z_iconst hx hb dX11_isFit_108 ?_
                refine lv_istore (lv' := [(4, .int (zI 0)), (3, .int (zI (wr + 0))), (7, .int (zI (mkf i))), (6, .int (zI (thnS (iyf i) c0))), (5, .int (zI i)), (0, .ref md), (1, .int (zI c0)), (2, .int (zI w))]) hx hb dX11_isFit_109 hl (Nat.le_of_ble_eq_true rfl) rfl (fun ls hl => ?_)
                refine z_iinc (lv' := [(5, .int (zI (i + 1))), (4, .int (zI 0)), (3, .int (zI (wr + 0))), (7, .int (zI (mkf i))), (6, .int (zI (thnS (iyf i) c0))), (0, .ref md), (1, .int (zI c0)), (2, .int (zI w))]) hx hb dX11_isFit_111 hl (k := 4) rfl (Nat.le_of_ble_eq_true rfl) rfl (fun ls hl => ?_)
                refine lv_goto (tgt := 21) hx hb dX11_isFit_114 (by decide) ?_
                exact ih21 _ (by omega) (i + 1) 0 (wr + 0) ls rfl (by omega) (by omega) (by omega) (by have hth : thnS (iyf i) c0 = (c0 / 20 + (c0 % 20 - 9) * iyf i) % 180 := rfl; have hsz := sumZ_s (f := misS iyf mkf (c0 / 20) (c0 % 20 - 9)) h0.1; have haz := allB_s (f := okS iyf mkf (c0 / 20) (c0 % 20 - 9)) h0.1; rw [misS_0 (by omega)] at hsz; exact Or.inr ⟨rfl, fitC_no (fitS_many h0.1 (i := i) (by omega) (by rw [misS_0 (by omega)]; omega))⟩) (lv_sub hl [0, 1, 2, 5, 6, 7] rfl)
              ·
                refine z_iconst hx hb dX11_isFit_104 ?_
                refine lv_goto (tgt := 109) hx hb dX11_isFit_105 (by decide) ?_
                refine lv_istore (lv' := [(4, .int (zI 1)), (3, .int (zI (wr + 0))), (7, .int (zI (mkf i))), (6, .int (zI (thnS (iyf i) c0))), (5, .int (zI i)), (0, .ref md), (1, .int (zI c0)), (2, .int (zI w))]) hx hb dX11_isFit_109 hl (Nat.le_of_ble_eq_true rfl) rfl (fun ls hl => ?_)
                refine z_iinc (lv' := [(5, .int (zI (i + 1))), (4, .int (zI 1)), (3, .int (zI (wr + 0))), (7, .int (zI (mkf i))), (6, .int (zI (thnS (iyf i) c0))), (0, .ref md), (1, .int (zI c0)), (2, .int (zI w))]) hx hb dX11_isFit_111 hl (k := 4) rfl (Nat.le_of_ble_eq_true rfl) rfl (fun ls hl => ?_)
                refine lv_goto (tgt := 21) hx hb dX11_isFit_114 (by decide) ?_
                exact ih21 _ (by omega) (i + 1) 1 (wr + 0) ls rfl (by omega) (by omega) (by omega) (by have hth : thnS (iyf i) c0 = (c0 / 20 + (c0 % 20 - 9) * iyf i) % 180 := rfl; have hsz := sumZ_s (f := misS iyf mkf (c0 / 20) (c0 % 20 - 9)) h0.1; have haz := allB_s (f := okS iyf mkf (c0 / 20) (c0 % 20 - 9)) h0.1; rw [misS_0 (by omega)] at hsz; exact Or.inl ⟨rfl, hfi.elim (fun q => q.2.1) (fun q => by omega), by rw [haz, hfi.elim (fun q => q.2.2.1) (fun q => by omega), Bool.true_and]; exact decide_eq_true (by omega), by omega, by omega⟩) (lv_sub hl [0, 1, 2, 5, 6, 7] rfl)
            ·
              exfalso
              first | omega | (revert h82; simp_all; done) | simp_all
    exact L21 _ 0 0 0 ls rfl (by omega) (by omega) (by omega) (by exact Or.inr ⟨rfl, by unfold fitC; rw [decide_eq_false (by omega)]; rfl⟩) (lv_sub hl [0, 1, 2, 3, 4, 5] rfl)
  ·
    refine z_iconst hx hb dX11_isFit_11 ?_
    refine lv_goto (tgt := 16) hx hb dX11_isFit_12 (by decide) ?_
    refine lv_istore (lv' := [(4, .int (zI 1)), (3, .int (zI 0)), (0, .ref md), (1, .int (zI c0)), (2, .int (zI w))]) hx hb dX11_isFit_16 hl (Nat.le_of_ble_eq_true rfl) rfl (fun ls hl => ?_)
    refine z_iconst hx hb dX11_isFit_18 ?_
    refine lv_istore (lv' := [(5, .int (zI 0)), (4, .int (zI 1)), (3, .int (zI 0)), (0, .ref md), (1, .int (zI c0)), (2, .int (zI w))]) hx hb dX11_isFit_19 hl (Nat.le_of_ble_eq_true rfl) rfl (fun ls hl => ?_)
    have L21 : ∀ (n : Nat) (i al wr : Int) (ls : Array Slot), ((8 - i).toNat = n) → (0 ≤ i ∧ i ≤ cn) → (0 ≤ wr ∧ wr ≤ i) → (al = 0 ∨ al = 1) → ((al = 1 ∧ c0 % 20 < 19 ∧ allB (okS iyf mkf (c0 / 20) (c0 % 20 - 9)) i.toNat = true ∧ wr = sumZ (misS iyf mkf (c0 / 20) (c0 % 20 - 9)) i.toNat ∧ wr ≤ w) ∨ (al = 0 ∧ fitC iyf mkf cn w c0 = false)) → lv_has ls 8 [(5, .int (zI i)), (4, .int (zI al)), (3, .int (zI wr)), (0, .ref md), (1, .int (zI c0)), (2, .int (zI w))] → W p l e (zRm 2) s m args below meth c H [] 0 0 Q (F0 m 21 ls []) := by
      intro n
      refine Nat.strongRecOn n ?_
      intro n ih21 i al wr ls hn21 h0 hw hal hfi hl
      refine lv_iload hx hb dX11_isFit_21 (lv_at hl 0 rfl) ?_
      refine lv_aload_n hx hb dX11_isFit_23 rfl (lv_at hl 3 rfl) ?_
      refine z_get (C := RX11) (T := TX11) (N := 23) (ref := "HornCityModel") hx hb hts hin_X11_isFit_X11 hown hK hz 0 rfl rfl 5 (by decide) (hts _ fl_X11_isFit_142) rfl rfl dX11_isFit_24 ?_
      refine z_icmp_ge (tgt := 117) hx hb dX11_isFit_27 (by decide) (by omega) (by omega) (fun h27 => ?_) (fun h27 => ?_)
      ·
        refine lv_iload hx hb dX11_isFit_117 (lv_at hl 1 rfl) ?_
        exact hret dX11_isFit_119 (by first | decide | omega | (split <;> decide)) (congrArg (fun z => some (Value.int (zI z))) (show (al : Int) = (if fitC iyf mkf cn w c0 = true then 1 else 0) by exact hfi.elim (fun q => by (have e : i = cn := (by omega)); subst e; rw [if_pos (show fitC iyf mkf i w c0 = true by unfold fitC fitS; rw [decide_eq_true q.2.1, q.2.2.1, ← q.2.2.2.1, decide_eq_true q.2.2.2.2]; rfl)]; exact q.1) (fun q => by rw [if_neg (by rw [q.2]; decide)]; exact q.1)))
      ·
        refine lv_iload hx hb dX11_isFit_30 (lv_at hl 1 rfl) ?_
        refine z_if_eq (tgt := 117) hx hb dX11_isFit_32 (by decide) (by omega) (fun h32 => ?_) (fun h32 => ?_)
        ·
          refine lv_iload hx hb dX11_isFit_117 (lv_at hl 1 rfl) ?_
          exact hret dX11_isFit_119 (by first | decide | omega | (split <;> decide)) (congrArg (fun z => some (Value.int (zI z))) (show (al : Int) = (if fitC iyf mkf cn w c0 = true then 1 else 0) by exact hfi.elim (fun q => by (have e : i = cn := (by omega)); subst e; rw [if_pos (show fitC iyf mkf i w c0 = true by unfold fitC fitS; rw [decide_eq_true q.2.1, q.2.2.1, ← q.2.2.2.1, decide_eq_true q.2.2.2.2]; rfl)]; exact q.1) (fun q => by rw [if_neg (by rw [q.2]; decide)]; exact q.1)))
        ·
          refine lv_iload_n hx hb dX11_isFit_35 rfl (lv_at hl 4 rfl) ?_
          refine lv_aload_n hx hb dX11_isFit_36 rfl (lv_at hl 3 rfl) ?_
          refine z_get (C := RX11) (T := TX11) (N := 23) (ref := "HornCityModel") hx hb hts hin_X11_isFit_X11 hown hK hz 0 rfl rfl 6 (by decide) (hts _ fl_X11_isFit_22) rfl rfl dX11_isFit_37 ?_
          refine z_iconst hx hb dX11_isFit_40 ?_
          refine lv_iload hx hb dX11_isFit_41 (lv_at hl 0 rfl) ?_
          refine z_imul hx hb dX11_isFit_43 ?_
          refine z_iald hx hb hK hz 1 rfl (by omega) (by decide) dX11_isFit_44 ?_
          rw [chS_y]
          have hv44 := (hby).ax i (by omega)
          refine z_callSp (As := [.int (zI c0), .int (zI (iyf i))]) (rest := []) F hK hz hl (c_X11_wasAt l D cI cJ cZ c0 (iyf i) (by omega)) (va_cwS 2 hts gX11_isFit_X11_wasAt rfl rfl rfl (by decide +kernel) ⟨Nat.le_of_ble_eq_true rfl, Nat.le_of_ble_eq_true rfl⟩) [] rfl rfl rfl rfl (Nat.le_of_ble_eq_true rfl) ⟨Nat.le_of_ble_eq_true rfl, Nat.le_of_ble_eq_true rfl⟩ dX11_isFit_45 ?_
          have htb := thnS_bd (iyf i) c0
          refine lv_istore (lv' := [(6, .int (zI (thnS (iyf i) c0))), (5, .int (zI i)), (4, .int (zI al)), (3, .int (zI wr)), (0, .ref md), (1, .int (zI c0)), (2, .int (zI w))]) hx hb dX11_isFit_48 hl (Nat.le_of_ble_eq_true rfl) rfl (fun ls hl => ?_)
          refine lv_aload_n hx hb dX11_isFit_50 rfl (lv_at hl 4 rfl) ?_
          refine z_get (C := RX11) (T := TX11) (N := 23) (ref := "HornCityModel") hx hb hts hin_X11_isFit_X11 hown hK hz 0 rfl rfl 6 (by decide) (hts _ fl_X11_isFit_22) rfl rfl dX11_isFit_51 ?_
          refine z_iconst hx hb dX11_isFit_54 ?_
          refine lv_iload hx hb dX11_isFit_55 (lv_at hl 1 rfl) ?_
          refine z_imul hx hb dX11_isFit_57 ?_
          refine z_iconst hx hb dX11_isFit_58 ?_
          refine z_iadd hx hb dX11_isFit_59 ?_
          refine z_iald hx hb hK hz 1 rfl (by omega) (by decide) dX11_isFit_60 ?_
          rw [chS_c]
          have hv60 := (hbk).ax i (by omega)
          refine lv_istore (lv' := [(7, .int (zI (mkf i))), (6, .int (zI (thnS (iyf i) c0))), (5, .int (zI i)), (4, .int (zI al)), (3, .int (zI wr)), (0, .ref md), (1, .int (zI c0)), (2, .int (zI w))]) hx hb dX11_isFit_61 hl (Nat.le_of_ble_eq_true rfl) rfl (fun ls hl => ?_)
          refine lv_iload_n hx hb dX11_isFit_63 rfl (lv_at hl 4 rfl) ?_
          refine lv_iload hx hb dX11_isFit_64 (lv_at hl 1 rfl) ?_
          refine lv_iload hx hb dX11_isFit_66 (lv_at hl 0 rfl) ?_
          refine z_icmp_ne (tgt := 75) hx hb dX11_isFit_68 (by decide) (by omega) (by omega) (fun h68 => ?_) (fun h68 => ?_)
          ·
            refine z_iconst hx hb dX11_isFit_75 ?_
            refine z_iadd hx hb dX11_isFit_76 ?_
            refine lv_istore_n (lv' := [(3, .int (zI (wr + 1))), (7, .int (zI (mkf i))), (6, .int (zI (thnS (iyf i) c0))), (5, .int (zI i)), (4, .int (zI al)), (0, .ref md), (1, .int (zI c0)), (2, .int (zI w))]) hx hb dX11_isFit_77 rfl hl (Nat.le_of_ble_eq_true rfl) rfl (fun ls hl => ?_)
            refine lv_iload hx hb dX11_isFit_78 (lv_at hl 2 rfl) ?_
            refine lv_iload hx hb dX11_isFit_80 (lv_at hl 1 rfl) ?_
            refine z_icmp_eq (tgt := 99) hx hb dX11_isFit_82 (by decide) (by omega) (by omega) (fun h82 => ?_) (fun h82 => ?_)
            ·
              exfalso
              first | omega | (revert h82; simp_all; done) | simp_all
            ·
              refine lv_iload hx hb dX11_isFit_85 (lv_at hl 2 rfl) ?_
              refine z_sipush hx hb dX11_isFit_87 (by decide) ?_
              refine lv_iload hx hb dX11_isFit_90 (lv_at hl 1 rfl) ?_
              refine z_isub hx hb dX11_isFit_92 ?_
              refine z_callSp (As := [.int (zI (180 - (mkf i)))]) (rest := [.int (zI (thnS (iyf i) c0))]) F hK hz hl (c_X11_over l D cI cJ cZ (180 - (mkf i)) (by omega)) (va_cwS 1 hts gX11_isFit_X11_over rfl rfl rfl (by decide +kernel) ⟨Nat.le_of_ble_eq_true rfl, Nat.le_of_ble_eq_true rfl⟩) [] rfl rfl rfl rfl (Nat.le_of_ble_eq_true rfl) ⟨Nat.le_of_ble_eq_true rfl, Nat.le_of_ble_eq_true rfl⟩ dX11_isFit_93 ?_
              refine z_icmp_ne (tgt := 108) hx hb dX11_isFit_96 (by decide) (by omega) (by omega) (fun h96 => ?_) (fun h96 => ?_)
              ·
                refine z_iconst hx hb dX11_isFit_108 ?_
                refine lv_istore (lv' := [(4, .int (zI 0)), (3, .int (zI (wr + 1))), (7, .int (zI (mkf i))), (6, .int (zI (thnS (iyf i) c0))), (5, .int (zI i)), (0, .ref md), (1, .int (zI c0)), (2, .int (zI w))]) hx hb dX11_isFit_109 hl (Nat.le_of_ble_eq_true rfl) rfl (fun ls hl => ?_)
                refine z_iinc (lv' := [(5, .int (zI (i + 1))), (4, .int (zI 0)), (3, .int (zI (wr + 1))), (7, .int (zI (mkf i))), (6, .int (zI (thnS (iyf i) c0))), (0, .ref md), (1, .int (zI c0)), (2, .int (zI w))]) hx hb dX11_isFit_111 hl (k := 4) rfl (Nat.le_of_ble_eq_true rfl) rfl (fun ls hl => ?_)
                refine lv_goto (tgt := 21) hx hb dX11_isFit_114 (by decide) ?_
                exact ih21 _ (by omega) (i + 1) 0 (wr + 1) ls rfl (by omega) (by omega) (by omega) (by have hth : thnS (iyf i) c0 = (c0 / 20 + (c0 % 20 - 9) * iyf i) % 180 := rfl; have hsz := sumZ_s (f := misS iyf mkf (c0 / 20) (c0 % 20 - 9)) h0.1; have haz := allB_s (f := okS iyf mkf (c0 / 20) (c0 % 20 - 9)) h0.1; exact Or.inr ⟨rfl, fitC_no (fitS_bad h0.1 (i := i) (by omega) (decide_eq_false (by omega)))⟩) (lv_sub hl [0, 1, 2, 5, 6, 7] rfl)
              ·
                refine lv_iload_n hx hb dX11_isFit_99 rfl (lv_at hl 0 rfl) ?_
                refine lv_iload_n hx hb dX11_isFit_100 rfl (lv_at hl 7 rfl) ?_
                refine z_icmp_gt (tgt := 108) hx hb dX11_isFit_101 (by decide) (by omega) (by omega) (fun h101 => ?_) (fun h101 => ?_)
                ·
                  refine z_iconst hx hb dX11_isFit_108 ?_
                  refine lv_istore (lv' := [(4, .int (zI 0)), (3, .int (zI (wr + 1))), (7, .int (zI (mkf i))), (6, .int (zI (thnS (iyf i) c0))), (5, .int (zI i)), (0, .ref md), (1, .int (zI c0)), (2, .int (zI w))]) hx hb dX11_isFit_109 hl (Nat.le_of_ble_eq_true rfl) rfl (fun ls hl => ?_)
                  refine z_iinc (lv' := [(5, .int (zI (i + 1))), (4, .int (zI 0)), (3, .int (zI (wr + 1))), (7, .int (zI (mkf i))), (6, .int (zI (thnS (iyf i) c0))), (0, .ref md), (1, .int (zI c0)), (2, .int (zI w))]) hx hb dX11_isFit_111 hl (k := 4) rfl (Nat.le_of_ble_eq_true rfl) rfl (fun ls hl => ?_)
                  refine lv_goto (tgt := 21) hx hb dX11_isFit_114 (by decide) ?_
                  exact ih21 _ (by omega) (i + 1) 0 (wr + 1) ls rfl (by omega) (by omega) (by omega) (by have hth : thnS (iyf i) c0 = (c0 / 20 + (c0 % 20 - 9) * iyf i) % 180 := rfl; have hsz := sumZ_s (f := misS iyf mkf (c0 / 20) (c0 % 20 - 9)) h0.1; have haz := allB_s (f := okS iyf mkf (c0 / 20) (c0 % 20 - 9)) h0.1; rw [misS_1 (by omega)] at hsz; exact Or.inr ⟨rfl, fitC_no (fitS_many h0.1 (i := i) (by omega) (by rw [misS_1 (by omega)]; omega))⟩) (lv_sub hl [0, 1, 2, 5, 6, 7] rfl)
                ·
                  refine z_iconst hx hb dX11_isFit_104 ?_
                  refine lv_goto (tgt := 109) hx hb dX11_isFit_105 (by decide) ?_
                  refine lv_istore (lv' := [(4, .int (zI 1)), (3, .int (zI (wr + 1))), (7, .int (zI (mkf i))), (6, .int (zI (thnS (iyf i) c0))), (5, .int (zI i)), (0, .ref md), (1, .int (zI c0)), (2, .int (zI w))]) hx hb dX11_isFit_109 hl (Nat.le_of_ble_eq_true rfl) rfl (fun ls hl => ?_)
                  refine z_iinc (lv' := [(5, .int (zI (i + 1))), (4, .int (zI 1)), (3, .int (zI (wr + 1))), (7, .int (zI (mkf i))), (6, .int (zI (thnS (iyf i) c0))), (0, .ref md), (1, .int (zI c0)), (2, .int (zI w))]) hx hb dX11_isFit_111 hl (k := 4) rfl (Nat.le_of_ble_eq_true rfl) rfl (fun ls hl => ?_)
                  refine lv_goto (tgt := 21) hx hb dX11_isFit_114 (by decide) ?_
                  exact ih21 _ (by omega) (i + 1) 1 (wr + 1) ls rfl (by omega) (by omega) (by omega) (by have hth : thnS (iyf i) c0 = (c0 / 20 + (c0 % 20 - 9) * iyf i) % 180 := rfl; have hsz := sumZ_s (f := misS iyf mkf (c0 / 20) (c0 % 20 - 9)) h0.1; have haz := allB_s (f := okS iyf mkf (c0 / 20) (c0 % 20 - 9)) h0.1; rw [misS_1 (by omega)] at hsz; exact Or.inl ⟨rfl, hfi.elim (fun q => q.2.1) (fun q => by omega), by rw [haz, hfi.elim (fun q => q.2.2.1) (fun q => by omega), Bool.true_and]; exact decide_eq_true (by omega), by omega, by omega⟩) (lv_sub hl [0, 1, 2, 5, 6, 7] rfl)
          ·
            refine z_iconst hx hb dX11_isFit_71 ?_
            refine lv_goto (tgt := 76) hx hb dX11_isFit_72 (by decide) ?_
            refine z_iadd hx hb dX11_isFit_76 ?_
            refine lv_istore_n (lv' := [(3, .int (zI (wr + 0))), (7, .int (zI (mkf i))), (6, .int (zI (thnS (iyf i) c0))), (5, .int (zI i)), (4, .int (zI al)), (0, .ref md), (1, .int (zI c0)), (2, .int (zI w))]) hx hb dX11_isFit_77 rfl hl (Nat.le_of_ble_eq_true rfl) rfl (fun ls hl => ?_)
            refine lv_iload hx hb dX11_isFit_78 (lv_at hl 2 rfl) ?_
            refine lv_iload hx hb dX11_isFit_80 (lv_at hl 1 rfl) ?_
            refine z_icmp_eq (tgt := 99) hx hb dX11_isFit_82 (by decide) (by omega) (by omega) (fun h82 => ?_) (fun h82 => ?_)
            ·
              refine lv_iload_n hx hb dX11_isFit_99 rfl (lv_at hl 0 rfl) ?_
              refine lv_iload_n hx hb dX11_isFit_100 rfl (lv_at hl 7 rfl) ?_
              refine z_icmp_gt (tgt := 108) hx hb dX11_isFit_101 (by decide) (by omega) (by omega) (fun h101 => ?_) (fun h101 => ?_)
              ·
                refine z_iconst hx hb dX11_isFit_108 ?_
                refine lv_istore (lv' := [(4, .int (zI 0)), (3, .int (zI (wr + 0))), (7, .int (zI (mkf i))), (6, .int (zI (thnS (iyf i) c0))), (5, .int (zI i)), (0, .ref md), (1, .int (zI c0)), (2, .int (zI w))]) hx hb dX11_isFit_109 hl (Nat.le_of_ble_eq_true rfl) rfl (fun ls hl => ?_)
                refine z_iinc (lv' := [(5, .int (zI (i + 1))), (4, .int (zI 0)), (3, .int (zI (wr + 0))), (7, .int (zI (mkf i))), (6, .int (zI (thnS (iyf i) c0))), (0, .ref md), (1, .int (zI c0)), (2, .int (zI w))]) hx hb dX11_isFit_111 hl (k := 4) rfl (Nat.le_of_ble_eq_true rfl) rfl (fun ls hl => ?_)
                refine lv_goto (tgt := 21) hx hb dX11_isFit_114 (by decide) ?_
                exact ih21 _ (by omega) (i + 1) 0 (wr + 0) ls rfl (by omega) (by omega) (by omega) (by have hth : thnS (iyf i) c0 = (c0 / 20 + (c0 % 20 - 9) * iyf i) % 180 := rfl; have hsz := sumZ_s (f := misS iyf mkf (c0 / 20) (c0 % 20 - 9)) h0.1; have haz := allB_s (f := okS iyf mkf (c0 / 20) (c0 % 20 - 9)) h0.1; rw [misS_0 (by omega)] at hsz; exact Or.inr ⟨rfl, fitC_no (fitS_many h0.1 (i := i) (by omega) (by rw [misS_0 (by omega)]; omega))⟩) (lv_sub hl [0, 1, 2, 5, 6, 7] rfl)
              ·
                refine z_iconst hx hb dX11_isFit_104 ?_
                refine lv_goto (tgt := 109) hx hb dX11_isFit_105 (by decide) ?_
                refine lv_istore (lv' := [(4, .int (zI 1)), (3, .int (zI (wr + 0))), (7, .int (zI (mkf i))), (6, .int (zI (thnS (iyf i) c0))), (5, .int (zI i)), (0, .ref md), (1, .int (zI c0)), (2, .int (zI w))]) hx hb dX11_isFit_109 hl (Nat.le_of_ble_eq_true rfl) rfl (fun ls hl => ?_)
                refine z_iinc (lv' := [(5, .int (zI (i + 1))), (4, .int (zI 1)), (3, .int (zI (wr + 0))), (7, .int (zI (mkf i))), (6, .int (zI (thnS (iyf i) c0))), (0, .ref md), (1, .int (zI c0)), (2, .int (zI w))]) hx hb dX11_isFit_111 hl (k := 4) rfl (Nat.le_of_ble_eq_true rfl) rfl (fun ls hl => ?_)
                refine lv_goto (tgt := 21) hx hb dX11_isFit_114 (by decide) ?_
                exact ih21 _ (by omega) (i + 1) 1 (wr + 0) ls rfl (by omega) (by omega) (by omega) (by have hth : thnS (iyf i) c0 = (c0 / 20 + (c0 % 20 - 9) * iyf i) % 180 := rfl; have hsz := sumZ_s (f := misS iyf mkf (c0 / 20) (c0 % 20 - 9)) h0.1; have haz := allB_s (f := okS iyf mkf (c0 / 20) (c0 % 20 - 9)) h0.1; rw [misS_0 (by omega)] at hsz; exact Or.inl ⟨rfl, hfi.elim (fun q => q.2.1) (fun q => by omega), by rw [haz, hfi.elim (fun q => q.2.2.1) (fun q => by omega), Bool.true_and]; exact decide_eq_true (by omega), by omega, by omega⟩) (lv_sub hl [0, 1, 2, 5, 6, 7] rfl)
            ·
              exfalso
              first | omega | (revert h82; simp_all; done) | simp_all
    exact L21 _ 0 1 0 ls rfl (by omega) (by omega) (by omega) (by exact Or.inl ⟨rfl, by omega, rfl, rfl, by omega⟩) (lv_sub hl [0, 1, 2, 3, 4, 5] rfl)

set_option maxHeartbeats 4000000 in
set_option maxRecDepth 100000 in
theorem c_X11_was (l : Launch) (D : va_G) (cI cJ cZ : ClassId) (md bk nw nt df chk pa rc qu ct ft wn wy nx im ik : Nat) (iyf mkf : Int → Int) (T cn ln wat who rs act fse w i0 : Int) (hr : (-2147483648 ≤ w ∧ w ≤ 2147483647) ∧ (-2147483648 ≤ i0 ∧ i0 ≤ 2147483647)) (hcn : 0 ≤ cn ∧ cn ≤ 8) (hby : zBd iyf 8 0 60) (hbk : zBd mkf 8 0 179) : zMp l yX11_was wsX11_was (zRm 3) D cI cJ cZ [.ref md, .int (zI w), .int (zI i0)] [(md, .inr (9, [.ref bk, .ref nw, .ref nt, .int (zI T), .ref df, .int (zI cn), .ref chk, .int (zI ln), .ref pa, .int (zI wat), .int (zI who), .int (zI rs), .int (zI act), .int (zI fse), .ref rc, .ref qu, .ref ct, .ref ft, .ref wn, .ref wy, .ref nx, .ref im, .ref ik])), (chk, .inl (cI, 16, .inl (zA (chS iyf mkf))))] (some (.int (zI (waR iyf mkf cn w i0)))) := by
  refine zMp_i (cc := cX11_was) (maxL := 5) (by decide +kernel) rfl (Nat.le_of_ble_eq_true rfl) rfl ?_
  intro p e s m args below meth c Q H ls F hK hz hl hret
  obtain ⟨hx, hb, hml, hown0, hts⟩ := id F
  have hown : s.vm.findClass RX11 = some m.cls := hown0
  obtain ⟨ws0, hw0⟩ : ∃ w : va_W, w = [(md, .inr (9, [.ref bk, .ref nw, .ref nt, .int (zI T), .ref df, .int (zI cn), .ref chk, .int (zI ln), .ref pa, .int (zI wat), .int (zI who), .int (zI rs), .int (zI act), .int (zI fse), .ref rc, .ref qu, .ref ct, .ref ft, .ref wn, .ref wy, .ref nx, .ref im, .ref ik])), (chk, .inl (cI, 16, .inl (zA (chS iyf mkf))))] := ⟨_, rfl⟩
  have hz : zH D (zF ws0) H [(md, .inr (9, [.ref bk, .ref nw, .ref nt, .int (zI T), .ref df, .int (zI cn), .ref chk, .int (zI ln), .ref pa, .int (zI wat), .int (zI who), .int (zI rs), .int (zI act), .int (zI fse), .ref rc, .ref qu, .ref ct, .ref ft, .ref wn, .ref wy, .ref nx, .ref im, .ref ik])), (chk, .inl (cI, 16, .inl (zA (chS iyf mkf))))] H [] := by rw [hw0]; exact hz
  have hl : lv_has ls 5 [(0, .ref md), (1, .int (zI w)), (2, .int (zI i0))] := hl
  refine lv_iload_n hx hb dX11_was_0 rfl (lv_at hl 1 rfl) ?_
  refine z_iconst hx hb dX11_was_1 ?_
  refine z_iconst hx hb dX11_was_2 ?_
  refine z_callSp (As := [.int (zI w), .int (zI 0), .int (zI 2)]) (rest := []) F hK hz hl (c_X11_in l D cI cJ cZ w 0 2 (by omega)) (va_cwS 3 hts gX11_was_X11_in rfl rfl rfl (by decide +kernel) ⟨Nat.le_of_ble_eq_true rfl, Nat.le_of_ble_eq_true rfl⟩) [] rfl rfl rfl rfl (Nat.le_of_ble_eq_true rfl) ⟨Nat.le_of_ble_eq_true rfl, Nat.le_of_ble_eq_true rfl⟩ dX11_was_3 ?_
  refine z_ifb_ne (tgt := 12) hx hb dX11_was_6 (by decide) (fun h6 => ?_) (fun h6 => ?_)
  ·
    refine z_iconst hx hb dX11_was_12 ?_
    refine lv_istore_n (lv' := [(3, .int (zI 0)), (0, .ref md), (1, .int (zI w)), (2, .int (zI i0))]) hx hb dX11_was_13 rfl hl (Nat.le_of_ble_eq_true rfl) rfl (fun ls hl => ?_)
    refine z_iconst hx hb dX11_was_14 ?_
    refine lv_istore (lv' := [(4, .int (zI 0)), (3, .int (zI 0)), (0, .ref md), (1, .int (zI w)), (2, .int (zI i0))]) hx hb dX11_was_15 hl (Nat.le_of_ble_eq_true rfl) rfl (fun ls hl => ?_)
    have L17 : ∀ (n : Nat) (co nn : Int) (ls : Array Slot), ((3600 - co).toNat = n) → (0 ≤ co ∧ co ≤ 3600) → (0 ≤ nn ∧ nn ≤ co) → (nn = cntS iyf mkf cn w co.toNat) → (fndS iyf mkf cn w i0 3600 0 0 = fndS iyf mkf cn w i0 (3600 - co).toNat co nn) → lv_has ls 5 [(4, .int (zI co)), (3, .int (zI nn)), (0, .ref md), (1, .int (zI w)), (2, .int (zI i0))] → W p l e (zRm 3) s m args below meth c H [] 0 0 Q (F0 m 17 ls []) := by
      intro n
      refine Nat.strongRecOn n ?_
      intro n ih17 co nn ls hn17 h0 hn0 hn1 hfd hl
      refine lv_iload hx hb dX11_was_17 (lv_at hl 0 rfl) ?_
      refine z_sipush hx hb dX11_was_19 (by decide) ?_
      refine z_icmp_ge (tgt := 52) hx hb dX11_was_22 (by decide) (by omega) (by decide) (fun h22 => ?_) (fun h22 => ?_)
      ·
        refine lv_iload_n hx hb dX11_was_52 rfl (lv_at hl 4 rfl) ?_
        refine z_iconst hx hb dX11_was_53 ?_
        refine z_icmp_ne (tgt := 61) hx hb dX11_was_54 (by decide) (by omega) (by decide) (fun h54 => ?_) (fun h54 => ?_)
        ·
          refine z_bipush hx hb dX11_was_61 (by decide) ?_
          exact hret dX11_was_63 (congrArg (fun z => some (Value.int (zI z))) (show ((-6) : Int) = (waR iyf mkf cn w i0) by unfold waR; rw [if_pos h6]; have e : co = 3600 := (by omega); subst e; rw [if_neg h54, hfd]; rfl))
        ·
          refine lv_iload_n hx hb dX11_was_57 rfl (lv_at hl 1 rfl) ?_
          refine lv_goto (tgt := 63) hx hb dX11_was_58 (by decide) ?_
          exact hret dX11_was_63 (congrArg (fun z => some (Value.int (zI z))) (show (nn : Int) = (waR iyf mkf cn w i0) by unfold waR; rw [if_pos h6]; have e : co = 3600 := (by omega); subst e; rw [if_pos h54]; exact hn1))
      ·
        refine lv_aload_n hx hb dX11_was_25 rfl (lv_at hl 2 rfl) ?_
        refine lv_iload hx hb dX11_was_26 (lv_at hl 0 rfl) ?_
        refine lv_iload_n hx hb dX11_was_28 rfl (lv_at hl 3 rfl) ?_
        refine z_callVp (As := [.int (zI co), .int (zI w)]) (rest := []) (C := RX11) (T := TX11) (N := 23) F hK hz hl (c_X11_isFit l D cI cJ cZ md bk nw nt df chk pa rc qu ct ft wn wy nx im ik iyf mkf T cn ln wat who rs act fse co w (by omega) (by omega) (hby) (hbk)) (cwV 2 hts gX11_was_X11_isFit rfl rfl rfl (by decide +kernel) ⟨Nat.le_of_ble_eq_true rfl, Nat.le_of_ble_eq_true rfl⟩) rfl 0 rfl [0, 1] rfl rfl rfl rfl (Nat.le_of_ble_eq_true rfl) ⟨Nat.le_of_ble_eq_true rfl, Nat.le_of_ble_eq_true rfl⟩ dX11_was_29 ?_
        refine z_ifb_eq (tgt := 46) hx hb dX11_was_32 (by decide) (fun h32 => ?_) (fun h32 => ?_)
        ·
          refine z_iinc (lv' := [(4, .int (zI (co + 1))), (3, .int (zI nn)), (0, .ref md), (1, .int (zI w)), (2, .int (zI i0))]) hx hb dX11_was_46 hl (k := 0) rfl (Nat.le_of_ble_eq_true rfl) rfl (fun ls hl => ?_)
          refine lv_goto (tgt := 17) hx hb dX11_was_49 (by decide) ?_
          exact ih17 _ (by omega) (co + 1) nn ls rfl (by omega) (by omega) (by rw [cntS_s h0.1, ← hn1]; rw [if_neg h32, Int.add_zero]) (by rw [hfd, fndS_at (by omega)]; rw [if_neg h32]) (lv_sub hl [0, 1, 2, 3, 4] rfl)
        ·
          refine lv_iload_n hx hb dX11_was_35 rfl (lv_at hl 1 rfl) ?_
          refine lv_iload_n hx hb dX11_was_36 rfl (lv_at hl 4 rfl) ?_
          refine z_icmp_ne (tgt := 43) hx hb dX11_was_37 (by decide) (by omega) (by omega) (fun h37 => ?_) (fun h37 => ?_)
          ·
            refine z_iinc (lv' := [(3, .int (zI (nn + 1))), (4, .int (zI co)), (0, .ref md), (1, .int (zI w)), (2, .int (zI i0))]) hx hb dX11_was_43 hl (k := 1) rfl (Nat.le_of_ble_eq_true rfl) rfl (fun ls hl => ?_)
            refine z_iinc (lv' := [(4, .int (zI (co + 1))), (3, .int (zI (nn + 1))), (0, .ref md), (1, .int (zI w)), (2, .int (zI i0))]) hx hb dX11_was_46 hl (k := 1) rfl (Nat.le_of_ble_eq_true rfl) rfl (fun ls hl => ?_)
            refine lv_goto (tgt := 17) hx hb dX11_was_49 (by decide) ?_
            exact ih17 _ (by omega) (co + 1) (nn + 1) ls rfl (by omega) (by omega) (by rw [cntS_s h0.1, ← hn1]; rw [if_pos h32]) (by rw [hfd, fndS_at (by omega)]; rw [if_pos h32, if_neg h37]) (lv_sub hl [0, 1, 2, 3, 4] rfl)
          ·
            refine lv_iload hx hb dX11_was_40 (lv_at hl 0 rfl) ?_
            exact hret dX11_was_42 (congrArg (fun z => some (Value.int (zI z))) (show (co : Int) = (waR iyf mkf cn w i0) by unfold waR; rw [if_pos h6, if_neg (by omega), hfd, fndS_at (by omega), if_pos h32, if_pos h37]))
    exact L17 _ 0 0 ls rfl (by decide) (by decide) (rfl) (rfl) (lv_sub hl [0, 1, 2, 3, 4] rfl)
  ·
    refine z_bipush hx hb dX11_was_9 (by decide) ?_
    exact hret dX11_was_11 (congrArg (fun z => some (Value.int (zI z))) (show ((-2) : Int) = (waR iyf mkf cn w i0) by unfold waR; rw [if_neg h6]))

set_option maxRecDepth 20000 in
theorem hin_X11_ask_X11 : ∀ w ∈ u_ws RX11 TX11 23, w ∈ wsX11_ask := by decide +kernel
set_option maxRecDepth 20000 in
theorem fl_X11_ask_37 : Cond.fieldLink RX11 37 "HornCityModel" "fitting" "[I" ∈ wsX11_ask := by decide +kernel
set_option maxRecDepth 20000 in
theorem fl_X11_ask_34 : Cond.fieldLink RX11 34 "HornCityModel" "counts" "[I" ∈ wsX11_ask := by decide +kernel
set_option maxHeartbeats 4000000 in
set_option maxRecDepth 100000 in
theorem c_X11_ask (l : Launch) (D : va_G) (cI cJ cZ : ClassId) (md bk nw nt df chk pa rc qu ct ft wn wy nx im ik : Nat) (iyf mkf ctf ftf : Int → Int) (T cn ln wat who rs act fse what : Int) (hr : (-2147483648 ≤ what ∧ what ≤ 2147483647)) (hcn : 0 ≤ cn ∧ cn ≤ 8) (hby : zBd iyf 8 0 60) (hbk : zBd mkf 8 0 179) : zMw l yX11_ask wsX11_ask (zRm 3) D cI cJ cZ [.ref md, .int (zI what)] [(md, .inr (9, [.ref bk, .ref nw, .ref nt, .int (zI T), .ref df, .int (zI cn), .ref chk, .int (zI ln), .ref pa, .int (zI wat), .int (zI who), .int (zI rs), .int (zI act), .int (zI fse), .ref rc, .ref qu, .ref ct, .ref ft, .ref wn, .ref wy, .ref nx, .ref im, .ref ik])), (chk, .inl (cI, 16, .inl (zA (chS iyf mkf)))), (ct, .inl (cI, 180, .inl (zA ctf))), (ft, .inl (cI, 3600, .inl (zA ftf)))] (S := Int × (Int → Int) × (Int → Int)) (fun u => u.1 = asR iyf mkf cn what) (fun u => some (.int (zI u.1))) (fun u => [(md, .inr (9, [.ref bk, .ref nw, .ref nt, .int (zI T), .ref df, .int (zI cn), .ref chk, .int (zI ln), .ref pa, .int (zI wat), .int (zI who), .int (zI rs), .int (zI act), .int (zI fse), .ref rc, .ref qu, .ref ct, .ref ft, .ref wn, .ref wy, .ref nx, .ref im, .ref ik])), (chk, .inl (cI, 16, .inl (zA (chS iyf mkf)))), (ct, .inl (cI, 180, .inl (zA u.2.1))), (ft, .inl (cI, 3600, .inl (zA u.2.2)))]) := by
  refine zMw_i (cc := cX11_ask) (maxL := 9) (by decide +kernel) rfl (Nat.le_of_ble_eq_true rfl) rfl (fun _ => rfl) ?_
  intro p e s m args below meth c Q H0 ls F hK hz hl hret
  obtain ⟨hx, hb, hml, hown0, hts⟩ := id F
  have hown : s.vm.findClass RX11 = some m.cls := hown0
  obtain ⟨ws0, hw0⟩ : ∃ w : va_W, w = [(md, .inr (9, [.ref bk, .ref nw, .ref nt, .int (zI T), .ref df, .int (zI cn), .ref chk, .int (zI ln), .ref pa, .int (zI wat), .int (zI who), .int (zI rs), .int (zI act), .int (zI fse), .ref rc, .ref qu, .ref ct, .ref ft, .ref wn, .ref wy, .ref nx, .ref im, .ref ik])), (chk, .inl (cI, 16, .inl (zA (chS iyf mkf)))), (ct, .inl (cI, 180, .inl (zA ctf))), (ft, .inl (cI, 3600, .inl (zA ftf)))] := ⟨_, rfl⟩
  rw [← hw0] at hret
  have hz : zH D (zF ws0) H0 [(md, .inr (9, [.ref bk, .ref nw, .ref nt, .int (zI T), .ref df, .int (zI cn), .ref chk, .int (zI ln), .ref pa, .int (zI wat), .int (zI who), .int (zI rs), .int (zI act), .int (zI fse), .ref rc, .ref qu, .ref ct, .ref ft, .ref wn, .ref wy, .ref nx, .ref im, .ref ik])), (chk, .inl (cI, 16, .inl (zA (chS iyf mkf)))), (ct, .inl (cI, 180, .inl (zA ctf))), (ft, .inl (cI, 3600, .inl (zA ftf)))] H0 [] := by rw [hw0]; exact hz
  have hl : lv_has ls 9 [(0, .ref md), (1, .int (zI what))] := hl
  refine lv_iload_n hx hb dX11_ask_0 rfl (lv_at hl 1 rfl) ?_
  refine z_iconst hx hb dX11_ask_1 ?_
  refine z_iconst hx hb dX11_ask_2 ?_
  refine z_callSp (As := [.int (zI what), .int (zI 0), .int (zI 1)]) (rest := []) F hK hz hl (c_X11_in l D cI cJ cZ what 0 1 (by omega)) (va_cwS 3 hts gX11_ask_X11_in rfl rfl rfl (by decide +kernel) ⟨Nat.le_of_ble_eq_true rfl, Nat.le_of_ble_eq_true rfl⟩) [] rfl rfl rfl rfl (Nat.le_of_ble_eq_true rfl) ⟨Nat.le_of_ble_eq_true rfl, Nat.le_of_ble_eq_true rfl⟩ dX11_ask_3 ?_
  refine z_ifb_ne (tgt := 12) hx hb dX11_ask_6 (by decide) (fun h6 => ?_) (fun h6 => ?_)
  ·
    refine z_iconst hx hb dX11_ask_12 ?_
    refine lv_istore_n (lv' := [(2, .int (zI 0)), (0, .ref md), (1, .int (zI what))]) hx hb dX11_ask_13 rfl hl (Nat.le_of_ble_eq_true rfl) rfl (fun ls hl => ?_)
    refine z_iconst hx hb dX11_ask_14 ?_
    refine lv_istore_n (lv' := [(3, .int (zI 0)), (2, .int (zI 0)), (0, .ref md), (1, .int (zI what))]) hx hb dX11_ask_15 rfl hl (Nat.le_of_ble_eq_true rfl) rfl (fun ls hl => ?_)
    have L16 : ∀ (n : Nat) (co nn : Int) (ftx : Int → Int) (H : Heap) (locs : List Loc) (ls : Array Slot), ((3600 - co).toNat = n) → (0 ≤ co ∧ co ≤ 3600) → (0 ≤ nn ∧ nn ≤ co) → (nn = cntS iyf mkf cn 0 co.toNat) → (∀ k, 0 ≤ k → k < nn → (0 ≤ ftx k ∧ ftx k < 3600) ∧ fitC iyf mkf cn 0 (ftx k) = true ∧ cntS iyf mkf cn 0 (ftx k).toNat = k) → zH D (zF ws0) H0 [(md, .inr (9, [.ref bk, .ref nw, .ref nt, .int (zI T), .ref df, .int (zI cn), .ref chk, .int (zI ln), .ref pa, .int (zI wat), .int (zI who), .int (zI rs), .int (zI act), .int (zI fse), .ref rc, .ref qu, .ref ct, .ref ft, .ref wn, .ref wy, .ref nx, .ref im, .ref ik])), (chk, .inl (cI, 16, .inl (zA (chS iyf mkf)))), (ct, .inl (cI, 180, .inl (zA ctf))), (ft, .inl (cI, 3600, .inl (zA ftx)))] H locs → lv_has ls 9 [(3, .int (zI co)), (2, .int (zI nn)), (0, .ref md), (1, .int (zI what))] → W p l e (zRm 3) s m args below meth c H locs 0 0 Q (F0 m 16 ls []) := by
      intro n
      refine Nat.strongRecOn n ?_
      intro n ih16 co nn ftx H locs ls hn16 h0 hn0 hn1 hls hz hl
      refine lv_iload_n hx hb dX11_ask_16 rfl (lv_at hl 0 rfl) ?_
      refine z_sipush hx hb dX11_ask_17 (by decide) ?_
      refine z_icmp_ge (tgt := 48) hx hb dX11_ask_20 (by decide) (by omega) (by decide) (fun h20 => ?_) (fun h20 => ?_)
      ·
        have hcn := cnt_bd iyf mkf cn 0
        have e3600 : co = 3600 := by omega
        have hn2 : nn = cntS iyf mkf cn 0 3600 := by rw [hn1, e3600]; rfl
        refine z_bipush hx hb dX11_ask_48 (by decide) ?_
        refine lv_istore_n (lv' := [(3, .int (zI (-6))), (2, .int (zI nn)), (0, .ref md), (1, .int (zI what))]) hx hb dX11_ask_50 rfl hl (Nat.le_of_ble_eq_true rfl) rfl (fun ls hl => ?_)
        refine z_ldc (n := 1000000) hx hb hown (hts (.constant RX11 141 1000000) (by decide +kernel)) (by decide +kernel) dX11_ask_51 ?_
        refine lv_istore (lv' := [(4, .int (zI 1000000)), (3, .int (zI (-6))), (2, .int (zI nn)), (0, .ref md), (1, .int (zI what))]) hx hb dX11_ask_53 hl (Nat.le_of_ble_eq_true rfl) rfl (fun ls hl => ?_)
        refine z_iconst hx hb dX11_ask_55 ?_
        refine lv_istore (lv' := [(5, .int (zI 0)), (4, .int (zI 1000000)), (3, .int (zI (-6))), (2, .int (zI nn)), (0, .ref md), (1, .int (zI what))]) hx hb dX11_ask_56 hl (Nat.le_of_ble_eq_true rfl) rfl (fun ls hl => ?_)
        have L58 : ∀ (n : Nat) (y le fo : Int) (cx : Int → Int) (H : Heap) (locs : List Loc) (ls : Array Slot), ((61 - y).toNat = n) → (0 ≤ y ∧ y ≤ 61) → ((0 ≤ le ∧ le ≤ 1000000) ∧ -6 ≤ fo ∧ fo ≤ 60) → ((y = 0 ∧ fo = -6 ∧ le = 1000000) ∨ (1 ≤ y ∧ 0 ≤ fo ∧ (fo, le) = askS iyf mkf cn y.toNat)) → (nn = 0 → y = 0 ∧ fo = -6) → zH D (zF ws0) H0 [(md, .inr (9, [.ref bk, .ref nw, .ref nt, .int (zI T), .ref df, .int (zI cn), .ref chk, .int (zI ln), .ref pa, .int (zI wat), .int (zI who), .int (zI rs), .int (zI act), .int (zI fse), .ref rc, .ref qu, .ref ct, .ref ft, .ref wn, .ref wy, .ref nx, .ref im, .ref ik])), (chk, .inl (cI, 16, .inl (zA (chS iyf mkf)))), (ct, .inl (cI, 180, .inl (zA cx))), (ft, .inl (cI, 3600, .inl (zA ftx)))] H locs → lv_has ls 9 [(5, .int (zI y)), (4, .int (zI le)), (3, .int (zI fo)), (2, .int (zI nn)), (0, .ref md), (1, .int (zI what))] → W p l e (zRm 3) s m args below meth c H locs 0 0 Q (F0 m 58 ls []) := by
          intro n
          refine Nat.strongRecOn n ?_
          intro n ih58 y le fo cx H locs ls hn58 h0y hle has hz0 hz hl
          refine lv_iload hx hb dX11_ask_58 (lv_at hl 0 rfl) ?_
          refine z_bipush hx hb dX11_ask_60 (by decide) ?_
          refine z_icmp_ge (tgt := 199) hx hb dX11_ask_62 (by decide) (by omega) (by decide) (fun h62 => ?_) (fun h62 => ?_)
          ·
            refine lv_iload_n hx hb dX11_ask_199 rfl (lv_at hl 2 rfl) ?_
            refine z_if_lt (tgt := 207) hx hb dX11_ask_200 (by decide) (by omega) (fun h200 => ?_) (fun h200 => ?_)
            ·
              refine lv_iload_n hx hb dX11_ask_207 rfl (lv_at hl 2 rfl) ?_
              refine lv_goto (tgt := 213) hx hb dX11_ask_208 (by decide) ?_
              exact hret ((fo : Int), (cx : Int → Int), (ftx : Int → Int)) dX11_ask_213 (show fo = asR iyf mkf cn what from (by unfold asR asQ; rw [if_pos h6, ← hn2, if_neg (show ¬ nn = 0 by omega)]; have hq : (fo, le) = askS iyf mkf cn 61 := has.elim (fun q => by omega) (fun q => by rw [q.2.2, show y = 61 by omega]; rfl); rw [← hq]; exfalso; exact has.elim (fun q => by omega) (fun q => by omega))) hz
            ·
              refine lv_iload_n hx hb dX11_ask_203 rfl (lv_at hl 5 rfl) ?_
              refine z_if_ne (tgt := 211) hx hb dX11_ask_204 (by decide) (by omega) (fun h204 => ?_) (fun h204 => ?_)
              ·
                refine lv_iload hx hb dX11_ask_211 (lv_at hl 1 rfl) ?_
                exact hret ((le : Int), (cx : Int → Int), (ftx : Int → Int)) dX11_ask_213 (show le = asR iyf mkf cn what from (by unfold asR asQ; rw [if_pos h6, ← hn2, if_neg (show ¬ nn = 0 by omega)]; have hq : (fo, le) = askS iyf mkf cn 61 := has.elim (fun q => by omega) (fun q => by rw [q.2.2, show y = 61 by omega]; rfl); rw [← hq]; exact (if_neg h204).symm)) hz
              ·
                refine lv_iload_n hx hb dX11_ask_207 rfl (lv_at hl 2 rfl) ?_
                refine lv_goto (tgt := 213) hx hb dX11_ask_208 (by decide) ?_
                exact hret ((fo : Int), (cx : Int → Int), (ftx : Int → Int)) dX11_ask_213 (show fo = asR iyf mkf cn what from (by unfold asR asQ; rw [if_pos h6, ← hn2, if_neg (show ¬ nn = 0 by omega)]; have hq : (fo, le) = askS iyf mkf cn 61 := has.elim (fun q => by omega) (fun q => by rw [q.2.2, show y = 61 by omega]; rfl); rw [← hq]; exact (if_pos h204).symm)) hz
          ·
            refine lv_iload_n hx hb dX11_ask_65 rfl (lv_at hl 3 rfl) ?_
            refine z_if_le (tgt := 199) hx hb dX11_ask_66 (by decide) (by omega) (fun h66 => ?_) (fun h66 => ?_)
            ·
              refine lv_iload_n hx hb dX11_ask_199 rfl (lv_at hl 2 rfl) ?_
              refine z_if_lt (tgt := 207) hx hb dX11_ask_200 (by decide) (by omega) (fun h200 => ?_) (fun h200 => ?_)
              ·
                refine lv_iload_n hx hb dX11_ask_207 rfl (lv_at hl 2 rfl) ?_
                refine lv_goto (tgt := 213) hx hb dX11_ask_208 (by decide) ?_
                exact hret ((fo : Int), (cx : Int → Int), (ftx : Int → Int)) dX11_ask_213 (show fo = asR iyf mkf cn what from (by unfold asR asQ; rw [if_pos h6, ← hn2, if_pos (show nn = 0 by omega)]; have hq : y = 0 ∧ fo = -6 := hz0 (by omega); split <;> omega)) hz
              ·
                refine lv_iload_n hx hb dX11_ask_203 rfl (lv_at hl 5 rfl) ?_
                refine z_if_ne (tgt := 211) hx hb dX11_ask_204 (by decide) (by omega) (fun h204 => ?_) (fun h204 => ?_)
                ·
                  refine lv_iload hx hb dX11_ask_211 (lv_at hl 1 rfl) ?_
                  exact hret ((le : Int), (cx : Int → Int), (ftx : Int → Int)) dX11_ask_213 (show le = asR iyf mkf cn what from (by unfold asR asQ; rw [if_pos h6, ← hn2, if_pos (show nn = 0 by omega)]; have hq : y = 0 ∧ fo = -6 := hz0 (by omega); split <;> omega)) hz
                ·
                  refine lv_iload_n hx hb dX11_ask_207 rfl (lv_at hl 2 rfl) ?_
                  refine lv_goto (tgt := 213) hx hb dX11_ask_208 (by decide) ?_
                  exact hret ((fo : Int), (cx : Int → Int), (ftx : Int → Int)) dX11_ask_213 (show fo = asR iyf mkf cn what from (by unfold asR asQ; rw [if_pos h6, ← hn2, if_pos (show nn = 0 by omega)]; have hq : y = 0 ∧ fo = -6 := hz0 (by omega); split <;> omega)) hz
            ·
              refine z_iconst hx hb dX11_ask_69 ?_
              refine lv_istore (lv' := [(6, .int (zI 0)), (5, .int (zI y)), (4, .int (zI le)), (3, .int (zI fo)), (2, .int (zI nn)), (0, .ref md), (1, .int (zI what))]) hx hb dX11_ask_70 hl (Nat.le_of_ble_eq_true rfl) rfl (fun ls hl => ?_)
              refine z_iconst hx hb dX11_ask_72 ?_
              refine lv_istore (lv' := [(7, .int (zI 0)), (6, .int (zI 0)), (5, .int (zI y)), (4, .int (zI le)), (3, .int (zI fo)), (2, .int (zI nn)), (0, .ref md), (1, .int (zI what))]) hx hb dX11_ask_73 hl (Nat.le_of_ble_eq_true rfl) rfl (fun ls hl => ?_)
              have L75 : ∀ (n : Nat) (i : Int) (cx2 : Int → Int) (H : Heap) (locs : List Loc) (ls : Array Slot), ((180 - i).toNat = n) → (0 ≤ i ∧ i ≤ 180) → (∀ j, 0 ≤ j → j < i → cx2 j = (fun _ => 0 : Int → Int) j) → zH D (zF ws0) H0 [(md, .inr (9, [.ref bk, .ref nw, .ref nt, .int (zI T), .ref df, .int (zI cn), .ref chk, .int (zI ln), .ref pa, .int (zI wat), .int (zI who), .int (zI rs), .int (zI act), .int (zI fse), .ref rc, .ref qu, .ref ct, .ref ft, .ref wn, .ref wy, .ref nx, .ref im, .ref ik])), (chk, .inl (cI, 16, .inl (zA (chS iyf mkf)))), (ct, .inl (cI, 180, .inl (zA cx2))), (ft, .inl (cI, 3600, .inl (zA ftx)))] H locs → lv_has ls 9 [(7, .int (zI i)), (6, .int (zI 0)), (5, .int (zI y)), (4, .int (zI le)), (3, .int (zI fo)), (2, .int (zI nn)), (0, .ref md), (1, .int (zI what))] → W p l e (zRm 3) s m args below meth c H locs 0 0 Q (F0 m 75 ls []) := by
                intro n
                refine Nat.strongRecOn n ?_
                intro n ih75 i cx2 H locs ls hn75 h0i hcx hz hl
                refine lv_iload hx hb dX11_ask_75 (lv_at hl 0 rfl) ?_
                refine z_sipush hx hb dX11_ask_77 (by decide) ?_
                refine z_icmp_ge (tgt := 97) hx hb dX11_ask_80 (by decide) (by omega) (by decide) (fun h80 => ?_) (fun h80 => ?_)
                ·
                  have hz := zH_ext hz 2 (fun _ => 0) rfl (fun j h1 h2 => hcx j h1 (by omega))
                  have hz : zH D (zF ws0) H0 [(md, .inr (9, [.ref bk, .ref nw, .ref nt, .int (zI T), .ref df, .int (zI cn), .ref chk, .int (zI ln), .ref pa, .int (zI wat), .int (zI who), .int (zI rs), .int (zI act), .int (zI fse), .ref rc, .ref qu, .ref ct, .ref ft, .ref wn, .ref wy, .ref nx, .ref im, .ref ik])), (chk, .inl (cI, 16, .inl (zA (chS iyf mkf)))), (ct, .inl (cI, 180, .inl (zA (fun _ => 0)))), (ft, .inl (cI, 3600, .inl (zA ftx)))] H locs := hz
                  refine z_iconst hx hb dX11_ask_97 ?_
                  refine lv_istore (lv' := [(7, .int (zI 0)), (6, .int (zI 0)), (5, .int (zI y)), (4, .int (zI le)), (3, .int (zI fo)), (2, .int (zI nn)), (0, .ref md), (1, .int (zI what))]) hx hb dX11_ask_98 hl (Nat.le_of_ble_eq_true rfl) rfl (fun ls hl => ?_)
                  have L100 : ∀ (n : Nat) (i wo2 : Int) (cx3 : Int → Int) (gc : Int) (H : Heap) (locs : List Loc) (ls : Array Slot), ((nn - i).toNat = n) → (0 ≤ i ∧ i ≤ nn) → (0 ≤ gc ∧ gc ≤ 3600) → (cntS iyf mkf cn 0 gc.toNat = i) → (alkI iyf mkf cn y cx3 gc.toNat) → (wo2 = mosS iyf mkf cn y gc.toNat) → zH D (zF ws0) H0 [(md, .inr (9, [.ref bk, .ref nw, .ref nt, .int (zI T), .ref df, .int (zI cn), .ref chk, .int (zI ln), .ref pa, .int (zI wat), .int (zI who), .int (zI rs), .int (zI act), .int (zI fse), .ref rc, .ref qu, .ref ct, .ref ft, .ref wn, .ref wy, .ref nx, .ref im, .ref ik])), (chk, .inl (cI, 16, .inl (zA (chS iyf mkf)))), (ct, .inl (cI, 180, .inl (zA cx3))), (ft, .inl (cI, 3600, .inl (zA ftx)))] H locs → lv_has ls 9 [(7, .int (zI i)), (6, .int (zI wo2)), (5, .int (zI y)), (4, .int (zI le)), (3, .int (zI fo)), (2, .int (zI nn)), (0, .ref md), (1, .int (zI what))] → W p l e (zRm 3) s m args below meth c H locs 0 0 Q (F0 m 100 ls []) := by
                    intro n
                    refine Nat.strongRecOn n ?_
                    intro n ih100 i wo2 cx3 gc H locs ls hn100 h0k hgc hgn hak hmo hz hl
                    refine lv_iload hx hb dX11_ask_100 (lv_at hl 0 rfl) ?_
                    refine lv_iload_n hx hb dX11_ask_102 rfl (lv_at hl 5 rfl) ?_
                    refine z_icmp_ge (tgt := 163) hx hb dX11_ask_103 (by decide) (by omega) (by omega) (fun h103 => ?_) (fun h103 => ?_)
                    ·
                      have hmt : wo2 = mosS iyf mkf cn y 3600 := by rw [hmo]; exact ((mos_to (yr := y) (c := gc) (x := 3600) ⟨hgc.1, hgc.2⟩ (by rw [hgn, show i = nn by omega]; exact hn2)).1).symm
                      have hv4 := mosS_bd iyf mkf cn y 3600
                      refine lv_iload hx hb dX11_ask_163 (lv_at hl 1 rfl) ?_
                      refine lv_iload hx hb dX11_ask_165 (lv_at hl 3 rfl) ?_
                      refine z_icmp_ge (tgt := 175) hx hb dX11_ask_167 (by decide) (by omega) (by omega) (fun h167 => ?_) (fun h167 => ?_)
                      ·
                        refine lv_iload_n hx hb dX11_ask_175 rfl (lv_at hl 4 rfl) ?_
                        refine lv_istore_n (lv' := [(3, .int (zI fo)), (7, .int (zI i)), (6, .int (zI wo2)), (5, .int (zI y)), (4, .int (zI le)), (2, .int (zI nn)), (0, .ref md), (1, .int (zI what))]) hx hb dX11_ask_176 rfl hl (Nat.le_of_ble_eq_true rfl) rfl (fun ls hl => ?_)
                        refine lv_iload hx hb dX11_ask_177 (lv_at hl 2 rfl) ?_
                        refine lv_iload hx hb dX11_ask_179 (lv_at hl 4 rfl) ?_
                        refine z_icmp_ge (tgt := 189) hx hb dX11_ask_181 (by decide) (by omega) (by omega) (fun h181 => ?_) (fun h181 => ?_)
                        ·
                          refine lv_iload hx hb dX11_ask_189 (lv_at hl 4 rfl) ?_
                          refine lv_istore (lv' := [(4, .int (zI le)), (3, .int (zI fo)), (7, .int (zI i)), (6, .int (zI wo2)), (5, .int (zI y)), (2, .int (zI nn)), (0, .ref md), (1, .int (zI what))]) hx hb dX11_ask_191 hl (Nat.le_of_ble_eq_true rfl) rfl (fun ls hl => ?_)
                          refine z_iinc (lv' := [(5, .int (zI (y + 1))), (4, .int (zI le)), (3, .int (zI fo)), (7, .int (zI i)), (6, .int (zI wo2)), (2, .int (zI nn)), (0, .ref md), (1, .int (zI what))]) hx hb dX11_ask_193 hl (k := 4) rfl (Nat.le_of_ble_eq_true rfl) rfl (fun ls hl => ?_)
                          refine lv_goto (tgt := 58) hx hb dX11_ask_196 (by decide) ?_
                          exact ih58 _ (by omega) (y + 1) le fo cx3 H locs ls rfl (by omega) (by omega) (by exact Or.inr ⟨by omega, has.elim (fun q => by omega) (fun q => q.2.1), has.elim (fun q => by omega) (fun q => by rw [← ask_s h0y.1 q.2.2, if_neg (by omega)])⟩) (fun q => absurd q (by omega)) hz (lv_sub hl [0, 1, 2, 5, 6, 7] rfl)
                        ·
                          exfalso
                          first | omega | (revert h181; simp_all; done) | simp_all
                      ·
                        refine lv_iload hx hb dX11_ask_170 (lv_at hl 2 rfl) ?_
                        refine lv_goto (tgt := 176) hx hb dX11_ask_172 (by decide) ?_
                        refine lv_istore_n (lv' := [(3, .int (zI y)), (7, .int (zI i)), (6, .int (zI wo2)), (5, .int (zI y)), (4, .int (zI le)), (2, .int (zI nn)), (0, .ref md), (1, .int (zI what))]) hx hb dX11_ask_176 rfl hl (Nat.le_of_ble_eq_true rfl) rfl (fun ls hl => ?_)
                        refine lv_iload hx hb dX11_ask_177 (lv_at hl 2 rfl) ?_
                        refine lv_iload hx hb dX11_ask_179 (lv_at hl 4 rfl) ?_
                        refine z_icmp_ge (tgt := 189) hx hb dX11_ask_181 (by decide) (by omega) (by omega) (fun h181 => ?_) (fun h181 => ?_)
                        ·
                          exfalso
                          first | omega | (revert h181; simp_all; done) | simp_all
                        ·
                          refine lv_iload hx hb dX11_ask_184 (lv_at hl 2 rfl) ?_
                          refine lv_goto (tgt := 191) hx hb dX11_ask_186 (by decide) ?_
                          refine lv_istore (lv' := [(4, .int (zI wo2)), (3, .int (zI y)), (7, .int (zI i)), (6, .int (zI wo2)), (5, .int (zI y)), (2, .int (zI nn)), (0, .ref md), (1, .int (zI what))]) hx hb dX11_ask_191 hl (Nat.le_of_ble_eq_true rfl) rfl (fun ls hl => ?_)
                          refine z_iinc (lv' := [(5, .int (zI (y + 1))), (4, .int (zI wo2)), (3, .int (zI y)), (7, .int (zI i)), (6, .int (zI wo2)), (2, .int (zI nn)), (0, .ref md), (1, .int (zI what))]) hx hb dX11_ask_193 hl (k := 4) rfl (Nat.le_of_ble_eq_true rfl) rfl (fun ls hl => ?_)
                          refine lv_goto (tgt := 58) hx hb dX11_ask_196 (by decide) ?_
                          exact ih58 _ (by omega) (y + 1) wo2 y cx3 H locs ls rfl (by omega) (by omega) (by exact Or.inr ⟨by omega, by omega, has.elim (fun q => by rw [q.1]; show (0, wo2) = askS iyf mkf cn 1; rw [hmt, q.1]; rfl) (fun q => by rw [← ask_s h0y.1 q.2.2, if_pos (by omega), hmt])⟩) (fun q => absurd q (by omega)) hz (lv_sub hl [0, 1, 2, 5, 6, 7] rfl)
                    ·
                      refine lv_aload_n hx hb dX11_ask_106 rfl (lv_at hl 6 rfl) ?_
                      refine z_get (C := RX11) (T := TX11) (N := 23) (ref := "HornCityModel") hx hb hts hin_X11_ask_X11 hown hK hz 0 rfl rfl 17 (by decide) (hts _ fl_X11_ask_37) rfl rfl dX11_ask_107 ?_
                      refine lv_iload hx hb dX11_ask_110 (lv_at hl 0 rfl) ?_
                      refine z_iald hx hb hK hz 3 rfl (by omega) (by decide) dX11_ask_112 ?_
                      have hL := hls i h0k.1 (by omega)
                      have hgl := cnt_lt hgn hL.2.2 hL.2.1 hL.1.1 hgc.1
                      have hto := mos_to (yr := y) (c := gc) (x := ftx i) ⟨hgc.1, hgl⟩ (by rw [hgn, hL.2.2])
                      refine lv_iload hx hb dX11_ask_113 (lv_at hl 2 rfl) ?_
                      refine z_callSp (As := [.int (zI (ftx i)), .int (zI y)]) (rest := []) F hK hz hl (c_X11_wasAt l D cI cJ cZ (ftx i) y (by omega)) (va_cwS 2 hts gX11_ask_X11_wasAt rfl rfl rfl (by decide +kernel) ⟨Nat.le_of_ble_eq_true rfl, Nat.le_of_ble_eq_true rfl⟩) [] rfl rfl rfl rfl (Nat.le_of_ble_eq_true rfl) ⟨Nat.le_of_ble_eq_true rfl, Nat.le_of_ble_eq_true rfl⟩ dX11_ask_115 ?_
                      have htb := thnS_bd y (ftx i)
                      refine lv_istore (lv' := [(8, .int (zI (thnS y (ftx i)))), (7, .int (zI i)), (6, .int (zI wo2)), (5, .int (zI y)), (4, .int (zI le)), (3, .int (zI fo)), (2, .int (zI nn)), (0, .ref md), (1, .int (zI what))]) hx hb dX11_ask_118 hl (Nat.le_of_ble_eq_true rfl) rfl (fun ls hl => ?_)
                      refine lv_aload_n hx hb dX11_ask_120 rfl (lv_at hl 7 rfl) ?_
                      refine z_get (C := RX11) (T := TX11) (N := 23) (ref := "HornCityModel") hx hb hts hin_X11_ask_X11 hown hK hz 0 rfl rfl 16 (by decide) (hts _ fl_X11_ask_34) rfl rfl dX11_ask_121 ?_
                      refine lv_iload hx hb dX11_ask_124 (lv_at hl 0 rfl) ?_
                      refine lv_dup2_11 hx hb dX11_ask_126 rfl rfl ?_
                      refine z_iald hx hb hK hz 2 rfl (by omega) (by decide) dX11_ask_127 ?_
                      have hv1 := hak (thnS y (ftx i)) htb.1 htb.2
                      have hv2 := alkS_bd iyf mkf cn y (thnS y (ftx i)) gc.toNat
                      have hv3 := mosS_bd iyf mkf cn y gc.toNat
                      refine z_iconst hx hb dX11_ask_128 ?_
                      refine z_iadd hx hb dX11_ask_129 ?_
                      refine z_iast hx hb hK hz 2 rfl (by omega) (by decide) dX11_ask_130 (fun H locs hz => ?_)
                      have hz : zH D (zF ws0) H0 [(md, .inr (9, [.ref bk, .ref nw, .ref nt, .int (zI T), .ref df, .int (zI cn), .ref chk, .int (zI ln), .ref pa, .int (zI wat), .int (zI who), .int (zI rs), .int (zI act), .int (zI fse), .ref rc, .ref qu, .ref ct, .ref ft, .ref wn, .ref wy, .ref nx, .ref im, .ref ik])), (chk, .inl (cI, 16, .inl (zA (chS iyf mkf)))), (ct, .inl (cI, 180, .inl (zA (zU cx3 (thnS y (ftx i)) ((cx3 (thnS y (ftx i))) + 1))))), (ft, .inl (cI, 3600, .inl (zA ftx)))] H locs := hz
                      refine lv_aload_n hx hb dX11_ask_131 rfl (lv_at hl 7 rfl) ?_
                      refine z_get (C := RX11) (T := TX11) (N := 23) (ref := "HornCityModel") hx hb hts hin_X11_ask_X11 hown hK hz 0 rfl rfl 16 (by decide) (hts _ fl_X11_ask_34) rfl rfl dX11_ask_132 ?_
                      refine lv_iload hx hb dX11_ask_135 (lv_at hl 0 rfl) ?_
                      refine z_iald hx hb hK hz 2 rfl (by omega) (by decide) dX11_ask_137 ?_
                      rw [zU_same]
                      refine lv_iload hx hb dX11_ask_138 (lv_at hl 2 rfl) ?_
                      refine z_icmp_le (tgt := 153) hx hb dX11_ask_140 (by decide) (by omega) (by omega) (fun h140 => ?_) (fun h140 => ?_)
                      ·
                        refine lv_iload hx hb dX11_ask_153 (lv_at hl 2 rfl) ?_
                        refine lv_istore (lv' := [(6, .int (zI wo2)), (8, .int (zI (thnS y (ftx i)))), (7, .int (zI i)), (5, .int (zI y)), (4, .int (zI le)), (3, .int (zI fo)), (2, .int (zI nn)), (0, .ref md), (1, .int (zI what))]) hx hb dX11_ask_155 hl (Nat.le_of_ble_eq_true rfl) rfl (fun ls hl => ?_)
                        refine z_iinc (lv' := [(7, .int (zI (i + 1))), (6, .int (zI wo2)), (8, .int (zI (thnS y (ftx i)))), (5, .int (zI y)), (4, .int (zI le)), (3, .int (zI fo)), (2, .int (zI nn)), (0, .ref md), (1, .int (zI what))]) hx hb dX11_ask_157 hl (k := 2) rfl (Nat.le_of_ble_eq_true rfl) rfl (fun ls hl => ?_)
                        refine lv_goto (tgt := 100) hx hb dX11_ask_160 (by decide) ?_
                        exact ih100 _ (by omega) (i + 1) wo2 (zU cx3 (thnS y (ftx i)) ((cx3 (thnS y (ftx i))) + 1)) ((ftx i) + 1) H locs ls rfl (by omega) (by have h7 := (hls i h0k.1 (by omega)).1; omega) (by have h7 := hls i h0k.1 (by omega); rw [cntS_s h7.1.1, if_pos h7.2.1, h7.2.2]) (by have h8 : alkI iyf mkf cn y cx3 (ftx i).toNat := (fun v h1 h2 => by rw [hak v h1 h2, hto.2 v]); exact alkI_in h8 hL.1.1 hL.2.1) (by have h8 : alkI iyf mkf cn y cx3 (ftx i).toNat := (fun v h1 h2 => by rw [hak v h1 h2, hto.2 v]); have h9 := mos_in (m := wo2) h8 (by rw [hmo, hto.1]) hL.1.1 hL.2.1 rfl; rw [← h9]; omega) hz (lv_sub hl [0, 1, 3, 4, 5, 6, 7, 8] rfl)
                      ·
                        refine lv_aload_n hx hb dX11_ask_143 rfl (lv_at hl 7 rfl) ?_
                        refine z_get (C := RX11) (T := TX11) (N := 23) (ref := "HornCityModel") hx hb hts hin_X11_ask_X11 hown hK hz 0 rfl rfl 16 (by decide) (hts _ fl_X11_ask_34) rfl rfl dX11_ask_144 ?_
                        refine lv_iload hx hb dX11_ask_147 (lv_at hl 0 rfl) ?_
                        refine z_iald hx hb hK hz 2 rfl (by omega) (by decide) dX11_ask_149 ?_
                        rw [zU_same]
                        refine lv_goto (tgt := 155) hx hb dX11_ask_150 (by decide) ?_
                        refine lv_istore (lv' := [(6, .int (zI ((cx3 (thnS y (ftx i))) + 1))), (8, .int (zI (thnS y (ftx i)))), (7, .int (zI i)), (5, .int (zI y)), (4, .int (zI le)), (3, .int (zI fo)), (2, .int (zI nn)), (0, .ref md), (1, .int (zI what))]) hx hb dX11_ask_155 hl (Nat.le_of_ble_eq_true rfl) rfl (fun ls hl => ?_)
                        refine z_iinc (lv' := [(7, .int (zI (i + 1))), (6, .int (zI ((cx3 (thnS y (ftx i))) + 1))), (8, .int (zI (thnS y (ftx i)))), (5, .int (zI y)), (4, .int (zI le)), (3, .int (zI fo)), (2, .int (zI nn)), (0, .ref md), (1, .int (zI what))]) hx hb dX11_ask_157 hl (k := 2) rfl (Nat.le_of_ble_eq_true rfl) rfl (fun ls hl => ?_)
                        refine lv_goto (tgt := 100) hx hb dX11_ask_160 (by decide) ?_
                        exact ih100 _ (by omega) (i + 1) ((cx3 (thnS y (ftx i))) + 1) (zU cx3 (thnS y (ftx i)) ((cx3 (thnS y (ftx i))) + 1)) ((ftx i) + 1) H locs ls rfl (by omega) (by have h7 := (hls i h0k.1 (by omega)).1; omega) (by have h7 := hls i h0k.1 (by omega); rw [cntS_s h7.1.1, if_pos h7.2.1, h7.2.2]) (by have h8 : alkI iyf mkf cn y cx3 (ftx i).toNat := (fun v h1 h2 => by rw [hak v h1 h2, hto.2 v]); exact alkI_in h8 hL.1.1 hL.2.1) (by have h8 : alkI iyf mkf cn y cx3 (ftx i).toNat := (fun v h1 h2 => by rw [hak v h1 h2, hto.2 v]); have h9 := mos_in (m := wo2) h8 (by rw [hmo, hto.1]) hL.1.1 hL.2.1 rfl; rw [← h9]; omega) hz (lv_sub hl [0, 1, 3, 4, 5, 6, 7, 8] rfl)
                  exact L100 _ 0 0 (fun _ => 0) 0 H locs ls rfl (by omega) (by decide) (rfl) (fun v h1 h2 => rfl) (rfl) hz (lv_sub hl [0, 1, 2, 3, 4, 5, 6, 7] rfl)
                ·
                  refine lv_aload_n hx hb dX11_ask_83 rfl (lv_at hl 6 rfl) ?_
                  refine z_get (C := RX11) (T := TX11) (N := 23) (ref := "HornCityModel") hx hb hts hin_X11_ask_X11 hown hK hz 0 rfl rfl 16 (by decide) (hts _ fl_X11_ask_34) rfl rfl dX11_ask_84 ?_
                  refine lv_iload hx hb dX11_ask_87 (lv_at hl 0 rfl) ?_
                  refine z_iconst hx hb dX11_ask_89 ?_
                  refine z_iast hx hb hK hz 2 rfl (by omega) (by decide) dX11_ask_90 (fun H locs hz => ?_)
                  have hz : zH D (zF ws0) H0 [(md, .inr (9, [.ref bk, .ref nw, .ref nt, .int (zI T), .ref df, .int (zI cn), .ref chk, .int (zI ln), .ref pa, .int (zI wat), .int (zI who), .int (zI rs), .int (zI act), .int (zI fse), .ref rc, .ref qu, .ref ct, .ref ft, .ref wn, .ref wy, .ref nx, .ref im, .ref ik])), (chk, .inl (cI, 16, .inl (zA (chS iyf mkf)))), (ct, .inl (cI, 180, .inl (zA (zU cx2 i 0)))), (ft, .inl (cI, 3600, .inl (zA ftx)))] H locs := hz
                  refine z_iinc (lv' := [(7, .int (zI (i + 1))), (6, .int (zI 0)), (5, .int (zI y)), (4, .int (zI le)), (3, .int (zI fo)), (2, .int (zI nn)), (0, .ref md), (1, .int (zI what))]) hx hb dX11_ask_91 hl (k := 0) rfl (Nat.le_of_ble_eq_true rfl) rfl (fun ls hl => ?_)
                  refine lv_goto (tgt := 75) hx hb dX11_ask_94 (by decide) ?_
                  exact ih75 _ (by omega) (i + 1) (zU cx2 i 0) H locs ls rfl (by omega) (zU_cp hcx) hz (lv_sub hl [0, 1, 2, 3, 4, 5, 6, 7] rfl)
              exact L75 _ 0 cx H locs ls rfl (by decide) (fun j h1 h2 => absurd h1 (by omega)) hz (lv_sub hl [0, 1, 2, 3, 4, 5, 6, 7] rfl)
        exact L58 _ 0 1000000 (-6) ctf H locs ls rfl (by decide) (by omega) (Or.inl ⟨rfl, rfl, rfl⟩) (fun _ => ⟨rfl, rfl⟩) hz (lv_sub hl [0, 1, 2, 3, 4, 5] rfl)
      ·
        refine lv_aload_n hx hb dX11_ask_23 rfl (lv_at hl 2 rfl) ?_
        refine lv_iload_n hx hb dX11_ask_24 rfl (lv_at hl 0 rfl) ?_
        refine z_iconst hx hb dX11_ask_25 ?_
        refine z_callVp (As := [.int (zI co), .int (zI 0)]) (rest := []) (C := RX11) (T := TX11) (N := 23) F hK hz hl (c_X11_isFit l D cI cJ cZ md bk nw nt df chk pa rc qu ct ft wn wy nx im ik iyf mkf T cn ln wat who rs act fse co 0 (by omega) (by omega) (hby) (hbk)) (cwV 2 hts gX11_ask_X11_isFit rfl rfl rfl (by decide +kernel) ⟨Nat.le_of_ble_eq_true rfl, Nat.le_of_ble_eq_true rfl⟩) rfl 0 rfl [0, 1] rfl rfl rfl rfl (Nat.le_of_ble_eq_true rfl) ⟨Nat.le_of_ble_eq_true rfl, Nat.le_of_ble_eq_true rfl⟩ dX11_ask_26 ?_
        refine z_ifb_eq (tgt := 42) hx hb dX11_ask_29 (by decide) (fun h29 => ?_) (fun h29 => ?_)
        ·
          refine z_iinc (lv' := [(3, .int (zI (co + 1))), (2, .int (zI nn)), (0, .ref md), (1, .int (zI what))]) hx hb dX11_ask_42 hl (k := 0) rfl (Nat.le_of_ble_eq_true rfl) rfl (fun ls hl => ?_)
          refine lv_goto (tgt := 16) hx hb dX11_ask_45 (by decide) ?_
          exact ih16 _ (by omega) (co + 1) nn ftx H locs ls rfl (by omega) (by omega) (by rw [cntS_s h0.1, ← hn1]; rw [if_neg h29, Int.add_zero]) (hls) hz (lv_sub hl [0, 1, 2, 3] rfl)
        ·
          refine lv_aload_n hx hb dX11_ask_32 rfl (lv_at hl 2 rfl) ?_
          refine z_get (C := RX11) (T := TX11) (N := 23) (ref := "HornCityModel") hx hb hts hin_X11_ask_X11 hown hK hz 0 rfl rfl 17 (by decide) (hts _ fl_X11_ask_37) rfl rfl dX11_ask_33 ?_
          refine lv_iload_n hx hb dX11_ask_36 rfl (lv_at hl 1 rfl) ?_
          refine lv_iload_n hx hb dX11_ask_37 rfl (lv_at hl 0 rfl) ?_
          refine z_iast hx hb hK hz 3 rfl (by omega) (by decide) dX11_ask_38 (fun H locs hz => ?_)
          have hz : zH D (zF ws0) H0 [(md, .inr (9, [.ref bk, .ref nw, .ref nt, .int (zI T), .ref df, .int (zI cn), .ref chk, .int (zI ln), .ref pa, .int (zI wat), .int (zI who), .int (zI rs), .int (zI act), .int (zI fse), .ref rc, .ref qu, .ref ct, .ref ft, .ref wn, .ref wy, .ref nx, .ref im, .ref ik])), (chk, .inl (cI, 16, .inl (zA (chS iyf mkf)))), (ct, .inl (cI, 180, .inl (zA ctf))), (ft, .inl (cI, 3600, .inl (zA (zU ftx nn co))))] H locs := hz
          refine z_iinc (lv' := [(2, .int (zI (nn + 1))), (3, .int (zI co)), (0, .ref md), (1, .int (zI what))]) hx hb dX11_ask_39 hl (k := 1) rfl (Nat.le_of_ble_eq_true rfl) rfl (fun ls hl => ?_)
          refine z_iinc (lv' := [(3, .int (zI (co + 1))), (2, .int (zI (nn + 1))), (0, .ref md), (1, .int (zI what))]) hx hb dX11_ask_42 hl (k := 1) rfl (Nat.le_of_ble_eq_true rfl) rfl (fun ls hl => ?_)
          refine lv_goto (tgt := 16) hx hb dX11_ask_45 (by decide) ?_
          exact ih16 _ (by omega) (co + 1) (nn + 1) (zU ftx nn co) H locs ls rfl (by omega) (by omega) (by rw [cntS_s h0.1, ← hn1]; rw [if_pos h29]) (fun k h1 h2 => by unfold zU; exact if hk : k = nn then by (rw [if_pos hk, hk]; exact ⟨by omega, h29, hn1.symm⟩) else by (rw [if_neg hk]; exact hls k h1 (by omega))) hz (lv_sub hl [0, 1, 2, 3] rfl)
    exact L16 _ 0 0 ftf H0 [] ls rfl (by decide) (by decide) (rfl) (fun k h1 h2 => absurd h1 (by omega)) hz (lv_sub hl [0, 1, 2, 3] rfl)
  ·
    refine z_bipush hx hb dX11_ask_9 (by decide) ?_
    exact hret (((-2) : Int), (ctf : Int → Int), (ftf : Int → Int)) dX11_ask_11 (show (-2) = asR iyf mkf cn what from (by unfold asR; rw [if_neg h6])) hz
