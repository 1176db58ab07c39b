def stF (st s : Int) : Int :=
  if st = 0 then (if 65 ≤ s ∧ s ≤ 73 then 1 else if s = 46 then 0 else -1)
  else if st = 1 then (if s = 43 ∨ s = 45 then 2 else if s = 38 then 3 else if s = 47 ∨ s = 58 ∨ s = 63 then 0 else -1)
  else if st = 2 then (if 49 ≤ s ∧ s ≤ 57 then 0 else -1)
  else (if 65 ≤ s ∧ s ≤ 73 then 0 else -1)
def fqS (ln : Int) (sgn : Int → Int) : Nat → Int → Int → Int
  | 0, _, st => if st = 0 then -6 else ln
  | n + 1, k, st => if stF st (sgn k) = -1 then k else fqS ln sgn n (k + 1) (stF st (sgn k))
theorem fqS_at {ln k st : Int} {sgn : Int → Int} (h : 0 ≤ k ∧ k < ln) : fqS ln sgn (ln - k).toNat k st = if stF st (sgn k) = -1 then k else fqS ln sgn (ln - (k + 1)).toNat (k + 1) (stF st (sgn k)) := by
  have e : (ln - k).toNat = (ln - (k + 1)).toNat + 1 := by omega
  rw [e]; rfl

set_option maxRecDepth 20000 in
theorem hin_X11_faultOf_X11 : ∀ w ∈ u_ws RX11 TX11 23, w ∈ wsX11_faultOf := by decide +kernel
set_option maxRecDepth 20000 in
theorem fl_X11_faultOf_87 : Cond.fieldLink RX11 87 "HornCityModel" "signs" "I" ∈ wsX11_faultOf := by decide +kernel
set_option maxRecDepth 20000 in
theorem fl_X11_faultOf_25 : Cond.fieldLink RX11 25 "HornCityModel" "pad" "[I" ∈ wsX11_faultOf := by decide +kernel
set_option maxHeartbeats 4000000 in
set_option maxRecDepth 100000 in
theorem c_X11_faultOf (l : Launch) (D : va_G) (cI cJ cZ : ClassId) (md bk nw nt df chk pa rc qu ct ft wn wy nx im ik : Nat) (sgn : Int → Int) (T cn ln wat who rs act fse : Int) (hln : 0 ≤ ln ∧ ln ≤ 60) (hbs : zBd sgn 60 0 126) : zMp l yX11_faultOf wsX11_faultOf (zRm 1) D cI cJ cZ [.ref md] [(md, .inr (9, [.ref bk, .ref nw, .ref nt, .int (zI T), .ref df, .int (zI cn), .ref chk, .int (zI ln), .ref pa, .int (zI wat), .int (zI who), .int (zI rs), .int (zI act), .int (zI fse), .ref rc, .ref qu, .ref ct, .ref ft, .ref wn, .ref wy, .ref nx, .ref im, .ref ik])), (pa, .inl (cI, 60, .inl (zA sgn)))] (some (.int (zI (fqS ln sgn ln.toNat 0 0)))) := by
  refine zMp_i (cc := cX11_faultOf) (maxL := 7) (by decide +kernel) rfl (Nat.le_of_ble_eq_true rfl) rfl ?_
  intro p e s m args below meth c Q H ls F hK hz hl hret
  obtain ⟨hx, hb, hml, hown0, hts⟩ := id F
  have hown : s.vm.findClass RX11 = some m.cls := hown0
  obtain ⟨ws0, hw0⟩ : ∃ w : va_W, w = [(md, .inr (9, [.ref bk, .ref nw, .ref nt, .int (zI T), .ref df, .int (zI cn), .ref chk, .int (zI ln), .ref pa, .int (zI wat), .int (zI who), .int (zI rs), .int (zI act), .int (zI fse), .ref rc, .ref qu, .ref ct, .ref ft, .ref wn, .ref wy, .ref nx, .ref im, .ref ik])), (pa, .inl (cI, 60, .inl (zA sgn)))] := ⟨_, rfl⟩
  have hz : zH D (zF ws0) H [(md, .inr (9, [.ref bk, .ref nw, .ref nt, .int (zI T), .ref df, .int (zI cn), .ref chk, .int (zI ln), .ref pa, .int (zI wat), .int (zI who), .int (zI rs), .int (zI act), .int (zI fse), .ref rc, .ref qu, .ref ct, .ref ft, .ref wn, .ref wy, .ref nx, .ref im, .ref ik])), (pa, .inl (cI, 60, .inl (zA sgn)))] H [] := by rw [hw0]; exact hz
  have hl : lv_has ls 7 [(0, .ref md)] := hl
  refine z_iconst hx hb dX11_faultOf_0 ?_
  refine lv_istore_n (lv' := [(1, .int (zI 0)), (0, .ref md)]) hx hb dX11_faultOf_1 rfl hl (Nat.le_of_ble_eq_true rfl) rfl (fun ls hl => ?_)
  refine z_iconst hx hb dX11_faultOf_2 ?_
  refine lv_istore_n (lv' := [(2, .int (zI 0)), (1, .int (zI 0)), (0, .ref md)]) hx hb dX11_faultOf_3 rfl hl (Nat.le_of_ble_eq_true rfl) rfl (fun ls hl => ?_)
  have L4 : ∀ (n : Nat) (k st : Int) (ls : Array Slot), ((60 - k).toNat = n) → (0 ≤ k ∧ k ≤ ln) → (0 ≤ st ∧ st ≤ 3) → (fqS ln sgn ln.toNat 0 0 = fqS ln sgn (ln - k).toNat k st) → lv_has ls 7 [(2, .int (zI k)), (1, .int (zI st)), (0, .ref md)] → W p l e (zRm 1) s m args below meth c H [] 0 0 Q (F0 m 4 ls []) := by
    intro n
    refine Nat.strongRecOn n ?_
    intro n ih4 k st ls hn4 h0 hst hq hl
    refine lv_iload_n hx hb dX11_faultOf_4 rfl (lv_at hl 0 rfl) ?_
    refine lv_aload_n hx hb dX11_faultOf_5 rfl (lv_at hl 2 rfl) ?_
    refine z_get (C := RX11) (T := TX11) (N := 23) (ref := "HornCityModel") hx hb hts hin_X11_faultOf_X11 hown hK hz 0 rfl rfl 7 (by decide) (hts _ fl_X11_faultOf_87) rfl rfl dX11_faultOf_6 ?_
    refine z_icmp_ge (tgt := 185) hx hb dX11_faultOf_9 (by decide) (by omega) (by omega) (fun h9 => ?_) (fun h9 => ?_)
    ·
      refine lv_iload_n hx hb dX11_faultOf_185 rfl (lv_at hl 1 rfl) ?_
      refine z_if_ne (tgt := 194) hx hb dX11_faultOf_186 (by decide) (by omega) (fun h186 => ?_) (fun h186 => ?_)
      ·
        refine lv_aload_n hx hb dX11_faultOf_194 rfl (lv_at hl 2 rfl) ?_
        refine z_get (C := RX11) (T := TX11) (N := 23) (ref := "HornCityModel") hx hb hts hin_X11_faultOf_X11 hown hK hz 0 rfl rfl 7 (by decide) (hts _ fl_X11_faultOf_87) rfl rfl dX11_faultOf_195 ?_
        exact hret dX11_faultOf_198 (congrArg (fun z => some (Value.int (zI z))) (show (ln : Int) = (fqS ln sgn ln.toNat 0 0) by rw [hq, show k = ln by omega, Int.sub_self]; exact (if_neg (by omega)).symm))
      ·
        refine z_bipush hx hb dX11_faultOf_189 (by decide) ?_
        refine lv_goto (tgt := 198) hx hb dX11_faultOf_191 (by decide) ?_
        exact hret dX11_faultOf_198 (congrArg (fun z => some (Value.int (zI z))) (show ((-6) : Int) = (fqS ln sgn ln.toNat 0 0) by rw [hq, show k = ln by omega, Int.sub_self]; exact (if_pos (by omega)).symm))
    ·
      refine lv_aload_n hx hb dX11_faultOf_12 rfl (lv_at hl 2 rfl) ?_
      refine z_get (C := RX11) (T := TX11) (N := 23) (ref := "HornCityModel") hx hb hts hin_X11_faultOf_X11 hown hK hz 0 rfl rfl 8 (by decide) (hts _ fl_X11_faultOf_25) rfl rfl dX11_faultOf_13 ?_
      refine lv_iload_n hx hb dX11_faultOf_16 rfl (lv_at hl 0 rfl) ?_
      refine z_iald hx hb hK hz 1 rfl (by omega) (by decide) dX11_faultOf_17 ?_
      have hv17 := (hbs).ax k (by omega)
      refine lv_istore_n (lv' := [(3, .int (zI (sgn k))), (2, .int (zI k)), (1, .int (zI st)), (0, .ref md)]) hx hb dX11_faultOf_18 rfl hl (Nat.le_of_ble_eq_true rfl) rfl (fun ls hl => ?_)
      refine lv_iload_n hx hb dX11_faultOf_19 rfl (lv_at hl 0 rfl) ?_
      refine z_bipush hx hb dX11_faultOf_20 (by decide) ?_
      refine z_bipush hx hb dX11_faultOf_22 (by decide) ?_
      refine z_callSp (As := [.int (zI (sgn k)), .int (zI 65), .int (zI 73)]) (rest := []) F hK hz hl (c_X11_in l D cI cJ cZ (sgn k) 65 73 (by omega)) (va_cwS 3 hts gX11_faultOf_X11_in rfl rfl rfl (by decide +kernel) ⟨Nat.le_of_ble_eq_true rfl, Nat.le_of_ble_eq_true rfl⟩) [] rfl rfl rfl rfl (Nat.le_of_ble_eq_true rfl) ⟨Nat.le_of_ble_eq_true rfl, Nat.le_of_ble_eq_true rfl⟩ dX11_faultOf_24 ?_
      refine lv_istore (lv' := [(4, .int (zI (if (65 ≤ (sgn k) ∧ (sgn k) ≤ 73) then 1 else 0))), (3, .int (zI (sgn k))), (2, .int (zI k)), (1, .int (zI st)), (0, .ref md)]) hx hb dX11_faultOf_27 hl (Nat.le_of_ble_eq_true rfl) rfl (fun ls hl => ?_)
      refine z_iconst hx hb dX11_faultOf_29 ?_
      refine lv_istore (lv' := [(5, .int (zI 0)), (4, .int (zI (if (65 ≤ (sgn k) ∧ (sgn k) ≤ 73) then 1 else 0))), (3, .int (zI (sgn k))), (2, .int (zI k)), (1, .int (zI st)), (0, .ref md)]) hx hb dX11_faultOf_30 hl (Nat.le_of_ble_eq_true rfl) rfl (fun ls hl => ?_)
      refine lv_iload_n hx hb dX11_faultOf_32 rfl (lv_at hl 4 rfl) ?_
      refine z_if_ne (tgt := 69) hx hb dX11_faultOf_33 (by decide) (by omega) (fun h33 => ?_) (fun h33 => ?_)
      ·
        refine lv_iload_n hx hb dX11_faultOf_69 rfl (lv_at hl 4 rfl) ?_
        refine z_iconst hx hb dX11_faultOf_70 ?_
        refine z_icmp_ne (tgt := 149) hx hb dX11_faultOf_71 (by decide) (by omega) (by decide) (fun h71 => ?_) (fun h71 => ?_)
        ·
          refine lv_iload_n hx hb dX11_faultOf_149 rfl (lv_at hl 4 rfl) ?_
          refine z_iconst hx hb dX11_faultOf_150 ?_
          refine z_icmp_ne (tgt := 165) hx hb dX11_faultOf_151 (by decide) (by omega) (by decide) (fun h151 => ?_) (fun h151 => ?_)
          ·
            refine lv_iload hx hb dX11_faultOf_165 (lv_at hl 1 rfl) ?_
            refine lv_istore (lv' := [(6, .int (zI (if (65 ≤ (sgn k) ∧ (sgn k) ≤ 73) then 1 else 0))), (5, .int (zI 0)), (4, .int (zI (if (65 ≤ (sgn k) ∧ (sgn k) ≤ 73) then 1 else 0))), (3, .int (zI (sgn k))), (2, .int (zI k)), (1, .int (zI st)), (0, .ref md)]) hx hb dX11_faultOf_167 hl (Nat.le_of_ble_eq_true rfl) rfl (fun ls hl => ?_)
            refine lv_iload hx hb dX11_faultOf_169 (lv_at hl 0 rfl) ?_
            refine z_ifb_ne (tgt := 176) hx hb dX11_faultOf_171 (by decide) (fun h171 => ?_) (fun h171 => ?_)
            ·
              refine lv_iload hx hb dX11_faultOf_176 (lv_at hl 1 rfl) ?_
              refine lv_istore_n (lv' := [(1, .int (zI 0)), (6, .int (zI (if (65 ≤ (sgn k) ∧ (sgn k) ≤ 73) then 1 else 0))), (5, .int (zI 0)), (4, .int (zI (if (65 ≤ (sgn k) ∧ (sgn k) ≤ 73) then 1 else 0))), (3, .int (zI (sgn k))), (2, .int (zI k)), (0, .ref md)]) hx hb dX11_faultOf_178 rfl hl (Nat.le_of_ble_eq_true rfl) rfl (fun ls hl => ?_)
              refine z_iinc (lv' := [(2, .int (zI (k + 1))), (1, .int (zI 0)), (6, .int (zI (if (65 ≤ (sgn k) ∧ (sgn k) ≤ 73) then 1 else 0))), (5, .int (zI 0)), (4, .int (zI (if (65 ≤ (sgn k) ∧ (sgn k) ≤ 73) then 1 else 0))), (3, .int (zI (sgn k))), (0, .ref md)]) hx hb dX11_faultOf_179 hl (k := 5) rfl (Nat.le_of_ble_eq_true rfl) rfl (fun ls hl => ?_)
              refine lv_goto (tgt := 4) hx hb dX11_faultOf_182 (by decide) ?_
              exact ih4 _ (by omega) (k + 1) 0 ls rfl (by omega) (by omega) (by rw [hq, fqS_at (by omega), show stF st (sgn k) = 0 from by unfold stF; (repeat' split) <;> omega]; exact if_neg (by omega)) (lv_sub hl [0, 1, 6] rfl)
            ·
              refine lv_iload_n hx hb dX11_faultOf_174 rfl (lv_at hl 4 rfl) ?_
              exact hret dX11_faultOf_175 (congrArg (fun z => some (Value.int (zI z))) (show (k : Int) = (fqS ln sgn ln.toNat 0 0) by rw [hq, fqS_at (by omega)]; exact (if_pos (by unfold stF; (repeat' split) <;> omega)).symm))
          ·
            refine lv_iload_n hx hb dX11_faultOf_154 rfl (lv_at hl 2 rfl) ?_
            refine z_bipush hx hb dX11_faultOf_155 (by decide) ?_
            refine z_bipush hx hb dX11_faultOf_157 (by decide) ?_
            refine z_callSp (As := [.int (zI (sgn k)), .int (zI 49), .int (zI 57)]) (rest := []) F hK hz hl (c_X11_in l D cI cJ cZ (sgn k) 49 57 (by omega)) (va_cwS 3 hts gX11_faultOf_X11_in rfl rfl rfl (by decide +kernel) ⟨Nat.le_of_ble_eq_true rfl, Nat.le_of_ble_eq_true rfl⟩) [] rfl rfl rfl rfl (Nat.le_of_ble_eq_true rfl) ⟨Nat.le_of_ble_eq_true rfl, Nat.le_of_ble_eq_true rfl⟩ dX11_faultOf_159 ?_
            refine lv_goto (tgt := 167) hx hb dX11_faultOf_162 (by decide) ?_
            refine lv_istore (lv' := [(6, .int (zI (if (49 ≤ (sgn k) ∧ (sgn k) ≤ 57) then 1 else 0))), (5, .int (zI 0)), (4, .int (zI (if (65 ≤ (sgn k) ∧ (sgn k) ≤ 73) then 1 else 0))), (3, .int (zI (sgn k))), (2, .int (zI k)), (1, .int (zI st)), (0, .ref md)]) hx hb dX11_faultOf_167 hl (Nat.le_of_ble_eq_true rfl) rfl (fun ls hl => ?_)
            refine lv_iload hx hb dX11_faultOf_169 (lv_at hl 0 rfl) ?_
            refine z_ifb_ne (tgt := 176) hx hb dX11_faultOf_171 (by decide) (fun h171 => ?_) (fun h171 => ?_)
            ·
              refine lv_iload hx hb dX11_faultOf_176 (lv_at hl 1 rfl) ?_
              refine lv_istore_n (lv' := [(1, .int (zI 0)), (6, .int (zI (if (49 ≤ (sgn k) ∧ (sgn k) ≤ 57) then 1 else 0))), (5, .int (zI 0)), (4, .int (zI (if (65 ≤ (sgn k) ∧ (sgn k) ≤ 73) then 1 else 0))), (3, .int (zI (sgn k))), (2, .int (zI k)), (0, .ref md)]) hx hb dX11_faultOf_178 rfl hl (Nat.le_of_ble_eq_true rfl) rfl (fun ls hl => ?_)
              refine z_iinc (lv' := [(2, .int (zI (k + 1))), (1, .int (zI 0)), (6, .int (zI (if (49 ≤ (sgn k) ∧ (sgn k) ≤ 57) then 1 else 0))), (5, .int (zI 0)), (4, .int (zI (if (65 ≤ (sgn k) ∧ (sgn k) ≤ 73) then 1 else 0))), (3, .int (zI (sgn k))), (0, .ref md)]) hx hb dX11_faultOf_179 hl (k := 5) rfl (Nat.le_of_ble_eq_true rfl) rfl (fun ls hl => ?_)
              refine lv_goto (tgt := 4) hx hb dX11_faultOf_182 (by decide) ?_
              exact ih4 _ (by omega) (k + 1) 0 ls rfl (by omega) (by omega) (by rw [hq, fqS_at (by omega), show stF st (sgn k) = 0 from by unfold stF; (repeat' split) <;> omega]; exact if_neg (by omega)) (lv_sub hl [0, 1, 6] rfl)
            ·
              refine lv_iload_n hx hb dX11_faultOf_174 rfl (lv_at hl 4 rfl) ?_
              exact hret dX11_faultOf_175 (congrArg (fun z => some (Value.int (zI z))) (show (k : Int) = (fqS ln sgn ln.toNat 0 0) by rw [hq, fqS_at (by omega)]; exact (if_pos (by unfold stF; (repeat' split) <;> omega)).symm))
        ·
          refine lv_iload_n hx hb dX11_faultOf_74 rfl (lv_at hl 2 rfl) ?_
          refine z_bipush hx hb dX11_faultOf_75 (by decide) ?_
          refine z_icmp_eq (tgt := 110) hx hb dX11_faultOf_77 (by decide) (by omega) (by decide) (fun h77 => ?_) (fun h77 => ?_)
          ·
            refine z_iconst hx hb dX11_faultOf_110 ?_
            refine lv_goto (tgt := 115) hx hb dX11_faultOf_111 (by decide) ?_
            refine lv_istore (lv' := [(6, .int (zI 1)), (5, .int (zI 0)), (4, .int (zI (if (65 ≤ (sgn k) ∧ (sgn k) ≤ 73) then 1 else 0))), (3, .int (zI (sgn k))), (2, .int (zI k)), (1, .int (zI st)), (0, .ref md)]) hx hb dX11_faultOf_115 hl (Nat.le_of_ble_eq_true rfl) rfl (fun ls hl => ?_)
            refine lv_iload_n hx hb dX11_faultOf_117 rfl (lv_at hl 3 rfl) ?_
            refine z_bipush hx hb dX11_faultOf_118 (by decide) ?_
            refine z_icmp_eq (tgt := 129) hx hb dX11_faultOf_120 (by decide) (by omega) (by decide) (fun h120 => ?_) (fun h120 => ?_)
            ·
              refine z_iconst hx hb dX11_faultOf_129 ?_
              refine lv_goto (tgt := 144) hx hb dX11_faultOf_130 (by decide) ?_
              refine lv_istore (lv' := [(5, .int (zI 2)), (6, .int (zI 1)), (4, .int (zI (if (65 ≤ (sgn k) ∧ (sgn k) ≤ 73) then 1 else 0))), (3, .int (zI (sgn k))), (2, .int (zI k)), (1, .int (zI st)), (0, .ref md)]) hx hb dX11_faultOf_144 hl (Nat.le_of_ble_eq_true rfl) rfl (fun ls hl => ?_)
              refine lv_goto (tgt := 169) hx hb dX11_faultOf_146 (by decide) ?_
              refine lv_iload hx hb dX11_faultOf_169 (lv_at hl 1 rfl) ?_
              refine z_if_ne (tgt := 176) hx hb dX11_faultOf_171 (by decide) (by decide) (fun h171 => ?_) (fun h171 => ?_)
              ·
                refine lv_iload hx hb dX11_faultOf_176 (lv_at hl 0 rfl) ?_
                refine lv_istore_n (lv' := [(1, .int (zI 2)), (5, .int (zI 2)), (6, .int (zI 1)), (4, .int (zI (if (65 ≤ (sgn k) ∧ (sgn k) ≤ 73) then 1 else 0))), (3, .int (zI (sgn k))), (2, .int (zI k)), (0, .ref md)]) hx hb dX11_faultOf_178 rfl hl (Nat.le_of_ble_eq_true rfl) rfl (fun ls hl => ?_)
                refine z_iinc (lv' := [(2, .int (zI (k + 1))), (1, .int (zI 2)), (5, .int (zI 2)), (6, .int (zI 1)), (4, .int (zI (if (65 ≤ (sgn k) ∧ (sgn k) ≤ 73) then 1 else 0))), (3, .int (zI (sgn k))), (0, .ref md)]) hx hb dX11_faultOf_179 hl (k := 5) rfl (Nat.le_of_ble_eq_true rfl) rfl (fun ls hl => ?_)
                refine lv_goto (tgt := 4) hx hb dX11_faultOf_182 (by decide) ?_
                exact ih4 _ (by omega) (k + 1) 2 ls rfl (by omega) (by omega) (by rw [hq, fqS_at (by omega), show stF st (sgn k) = 2 from by unfold stF; (repeat' split) <;> omega]; exact if_neg (by omega)) (lv_sub hl [0, 1, 6] rfl)
              ·
                exfalso
                first | omega | (revert h171; simp_all; done) | simp_all
            ·
              exfalso
              first | omega | (revert h120; simp_all; done) | simp_all
          ·
            refine lv_iload_n hx hb dX11_faultOf_80 rfl (lv_at hl 2 rfl) ?_
            refine z_bipush hx hb dX11_faultOf_81 (by decide) ?_
            refine z_icmp_eq (tgt := 110) hx hb dX11_faultOf_83 (by decide) (by omega) (by decide) (fun h83 => ?_) (fun h83 => ?_)
            ·
              refine z_iconst hx hb dX11_faultOf_110 ?_
              refine lv_goto (tgt := 115) hx hb dX11_faultOf_111 (by decide) ?_
              refine lv_istore (lv' := [(6, .int (zI 1)), (5, .int (zI 0)), (4, .int (zI (if (65 ≤ (sgn k) ∧ (sgn k) ≤ 73) then 1 else 0))), (3, .int (zI (sgn k))), (2, .int (zI k)), (1, .int (zI st)), (0, .ref md)]) hx hb dX11_faultOf_115 hl (Nat.le_of_ble_eq_true rfl) rfl (fun ls hl => ?_)
              refine lv_iload_n hx hb dX11_faultOf_117 rfl (lv_at hl 3 rfl) ?_
              refine z_bipush hx hb dX11_faultOf_118 (by decide) ?_
              refine z_icmp_eq (tgt := 129) hx hb dX11_faultOf_120 (by decide) (by omega) (by decide) (fun h120 => ?_) (fun h120 => ?_)
              ·
                exfalso
                first | omega | (revert h120; simp_all; done) | simp_all
              ·
                refine lv_iload_n hx hb dX11_faultOf_123 rfl (lv_at hl 3 rfl) ?_
                refine z_bipush hx hb dX11_faultOf_124 (by decide) ?_
                refine z_icmp_ne (tgt := 133) hx hb dX11_faultOf_126 (by decide) (by omega) (by decide) (fun h126 => ?_) (fun h126 => ?_)
                ·
                  exfalso
                  first | omega | (revert h126; simp_all; done) | simp_all
                ·
                  refine z_iconst hx hb dX11_faultOf_129 ?_
                  refine lv_goto (tgt := 144) hx hb dX11_faultOf_130 (by decide) ?_
                  refine lv_istore (lv' := [(5, .int (zI 2)), (6, .int (zI 1)), (4, .int (zI (if (65 ≤ (sgn k) ∧ (sgn k) ≤ 73) then 1 else 0))), (3, .int (zI (sgn k))), (2, .int (zI k)), (1, .int (zI st)), (0, .ref md)]) hx hb dX11_faultOf_144 hl (Nat.le_of_ble_eq_true rfl) rfl (fun ls hl => ?_)
                  refine lv_goto (tgt := 169) hx hb dX11_faultOf_146 (by decide) ?_
                  refine lv_iload hx hb dX11_faultOf_169 (lv_at hl 1 rfl) ?_
                  refine z_if_ne (tgt := 176) hx hb dX11_faultOf_171 (by decide) (by decide) (fun h171 => ?_) (fun h171 => ?_)
                  ·
                    refine lv_iload hx hb dX11_faultOf_176 (lv_at hl 0 rfl) ?_
                    refine lv_istore_n (lv' := [(1, .int (zI 2)), (5, .int (zI 2)), (6, .int (zI 1)), (4, .int (zI (if (65 ≤ (sgn k) ∧ (sgn k) ≤ 73) then 1 else 0))), (3, .int (zI (sgn k))), (2, .int (zI k)), (0, .ref md)]) hx hb dX11_faultOf_178 rfl hl (Nat.le_of_ble_eq_true rfl) rfl (fun ls hl => ?_)
                    refine z_iinc (lv' := [(2, .int (zI (k + 1))), (1, .int (zI 2)), (5, .int (zI 2)), (6, .int (zI 1)), (4, .int (zI (if (65 ≤ (sgn k) ∧ (sgn k) ≤ 73) then 1 else 0))), (3, .int (zI (sgn k))), (0, .ref md)]) hx hb dX11_faultOf_179 hl (k := 5) rfl (Nat.le_of_ble_eq_true rfl) rfl (fun ls hl => ?_)
                    refine lv_goto (tgt := 4) hx hb dX11_faultOf_182 (by decide) ?_
                    exact ih4 _ (by omega) (k + 1) 2 ls rfl (by omega) (by omega) (by rw [hq, fqS_at (by omega), show stF st (sgn k) = 2 from by unfold stF; (repeat' split) <;> omega]; exact if_neg (by omega)) (lv_sub hl [0, 1, 6] rfl)
                  ·
                    exfalso
                    first | omega | (revert h171; simp_all; done) | simp_all
            ·
              refine lv_iload_n hx hb dX11_faultOf_86 rfl (lv_at hl 2 rfl) ?_
              refine z_bipush hx hb dX11_faultOf_87 (by decide) ?_
              refine z_icmp_eq (tgt := 110) hx hb dX11_faultOf_89 (by decide) (by omega) (by decide) (fun h89 => ?_) (fun h89 => ?_)
              ·
                refine z_iconst hx hb dX11_faultOf_110 ?_
                refine lv_goto (tgt := 115) hx hb dX11_faultOf_111 (by decide) ?_
                refine lv_istore (lv' := [(6, .int (zI 1)), (5, .int (zI 0)), (4, .int (zI (if (65 ≤ (sgn k) ∧ (sgn k) ≤ 73) then 1 else 0))), (3, .int (zI (sgn k))), (2, .int (zI k)), (1, .int (zI st)), (0, .ref md)]) hx hb dX11_faultOf_115 hl (Nat.le_of_ble_eq_true rfl) rfl (fun ls hl => ?_)
                refine lv_iload_n hx hb dX11_faultOf_117 rfl (lv_at hl 3 rfl) ?_
                refine z_bipush hx hb dX11_faultOf_118 (by decide) ?_
                refine z_icmp_eq (tgt := 129) hx hb dX11_faultOf_120 (by decide) (by omega) (by decide) (fun h120 => ?_) (fun h120 => ?_)
                ·
                  exfalso
                  first | omega | (revert h120; simp_all; done) | simp_all
                ·
                  refine lv_iload_n hx hb dX11_faultOf_123 rfl (lv_at hl 3 rfl) ?_
                  refine z_bipush hx hb dX11_faultOf_124 (by decide) ?_
                  refine z_icmp_ne (tgt := 133) hx hb dX11_faultOf_126 (by decide) (by omega) (by decide) (fun h126 => ?_) (fun h126 => ?_)
                  ·
                    refine lv_iload_n hx hb dX11_faultOf_133 rfl (lv_at hl 3 rfl) ?_
                    refine z_bipush hx hb dX11_faultOf_134 (by decide) ?_
                    refine z_icmp_ne (tgt := 143) hx hb dX11_faultOf_136 (by decide) (by omega) (by decide) (fun h136 => ?_) (fun h136 => ?_)
                    ·
                      exfalso
                      first | omega | (revert h136; simp_all; done) | simp_all
                    ·
                      refine z_iconst hx hb dX11_faultOf_139 ?_
                      refine lv_goto (tgt := 144) hx hb dX11_faultOf_140 (by decide) ?_
                      refine lv_istore (lv' := [(5, .int (zI 3)), (6, .int (zI 1)), (4, .int (zI (if (65 ≤ (sgn k) ∧ (sgn k) ≤ 73) then 1 else 0))), (3, .int (zI (sgn k))), (2, .int (zI k)), (1, .int (zI st)), (0, .ref md)]) hx hb dX11_faultOf_144 hl (Nat.le_of_ble_eq_true rfl) rfl (fun ls hl => ?_)
                      refine lv_goto (tgt := 169) hx hb dX11_faultOf_146 (by decide) ?_
                      refine lv_iload hx hb dX11_faultOf_169 (lv_at hl 1 rfl) ?_
                      refine z_if_ne (tgt := 176) hx hb dX11_faultOf_171 (by decide) (by decide) (fun h171 => ?_) (fun h171 => ?_)
                      ·
                        refine lv_iload hx hb dX11_faultOf_176 (lv_at hl 0 rfl) ?_
                        refine lv_istore_n (lv' := [(1, .int (zI 3)), (5, .int (zI 3)), (6, .int (zI 1)), (4, .int (zI (if (65 ≤ (sgn k) ∧ (sgn k) ≤ 73) then 1 else 0))), (3, .int (zI (sgn k))), (2, .int (zI k)), (0, .ref md)]) hx hb dX11_faultOf_178 rfl hl (Nat.le_of_ble_eq_true rfl) rfl (fun ls hl => ?_)
                        refine z_iinc (lv' := [(2, .int (zI (k + 1))), (1, .int (zI 3)), (5, .int (zI 3)), (6, .int (zI 1)), (4, .int (zI (if (65 ≤ (sgn k) ∧ (sgn k) ≤ 73) then 1 else 0))), (3, .int (zI (sgn k))), (0, .ref md)]) hx hb dX11_faultOf_179 hl (k := 5) rfl (Nat.le_of_ble_eq_true rfl) rfl (fun ls hl => ?_)
                        refine lv_goto (tgt := 4) hx hb dX11_faultOf_182 (by decide) ?_
                        exact ih4 _ (by omega) (k + 1) 3 ls rfl (by omega) (by omega) (by rw [hq, fqS_at (by omega), show stF st (sgn k) = 3 from by unfold stF; (repeat' split) <;> omega]; exact if_neg (by omega)) (lv_sub hl [0, 1, 6] rfl)
                      ·
                        exfalso
                        first | omega | (revert h171; simp_all; done) | simp_all
                  ·
                    exfalso
                    first | omega | (revert h126; simp_all; done) | simp_all
              ·
                refine lv_iload_n hx hb dX11_faultOf_92 rfl (lv_at hl 2 rfl) ?_
                refine z_bipush hx hb dX11_faultOf_93 (by decide) ?_
                refine z_icmp_eq (tgt := 110) hx hb dX11_faultOf_95 (by decide) (by omega) (by decide) (fun h95 => ?_) (fun h95 => ?_)
                ·
                  refine z_iconst hx hb dX11_faultOf_110 ?_
                  refine lv_goto (tgt := 115) hx hb dX11_faultOf_111 (by decide) ?_
                  refine lv_istore (lv' := [(6, .int (zI 1)), (5, .int (zI 0)), (4, .int (zI (if (65 ≤ (sgn k) ∧ (sgn k) ≤ 73) then 1 else 0))), (3, .int (zI (sgn k))), (2, .int (zI k)), (1, .int (zI st)), (0, .ref md)]) hx hb dX11_faultOf_115 hl (Nat.le_of_ble_eq_true rfl) rfl (fun ls hl => ?_)
                  refine lv_iload_n hx hb dX11_faultOf_117 rfl (lv_at hl 3 rfl) ?_
                  refine z_bipush hx hb dX11_faultOf_118 (by decide) ?_
                  refine z_icmp_eq (tgt := 129) hx hb dX11_faultOf_120 (by decide) (by omega) (by decide) (fun h120 => ?_) (fun h120 => ?_)
                  ·
                    exfalso
                    first | omega | (revert h120; simp_all; done) | simp_all
                  ·
                    refine lv_iload_n hx hb dX11_faultOf_123 rfl (lv_at hl 3 rfl) ?_
                    refine z_bipush hx hb dX11_faultOf_124 (by decide) ?_
                    refine z_icmp_ne (tgt := 133) hx hb dX11_faultOf_126 (by decide) (by omega) (by decide) (fun h126 => ?_) (fun h126 => ?_)
                    ·
                      refine lv_iload_n hx hb dX11_faultOf_133 rfl (lv_at hl 3 rfl) ?_
                      refine z_bipush hx hb dX11_faultOf_134 (by decide) ?_
                      refine z_icmp_ne (tgt := 143) hx hb dX11_faultOf_136 (by decide) (by omega) (by decide) (fun h136 => ?_) (fun h136 => ?_)
                      ·
                        refine z_iconst hx hb dX11_faultOf_143 ?_
                        refine lv_istore (lv' := [(5, .int (zI 0)), (6, .int (zI 1)), (4, .int (zI (if (65 ≤ (sgn k) ∧ (sgn k) ≤ 73) then 1 else 0))), (3, .int (zI (sgn k))), (2, .int (zI k)), (1, .int (zI st)), (0, .ref md)]) hx hb dX11_faultOf_144 hl (Nat.le_of_ble_eq_true rfl) rfl (fun ls hl => ?_)
                        refine lv_goto (tgt := 169) hx hb dX11_faultOf_146 (by decide) ?_
                        refine lv_iload hx hb dX11_faultOf_169 (lv_at hl 1 rfl) ?_
                        refine z_if_ne (tgt := 176) hx hb dX11_faultOf_171 (by decide) (by decide) (fun h171 => ?_) (fun h171 => ?_)
                        ·
                          refine lv_iload hx hb dX11_faultOf_176 (lv_at hl 0 rfl) ?_
                          refine lv_istore_n (lv' := [(1, .int (zI 0)), (5, .int (zI 0)), (6, .int (zI 1)), (4, .int (zI (if (65 ≤ (sgn k) ∧ (sgn k) ≤ 73) then 1 else 0))), (3, .int (zI (sgn k))), (2, .int (zI k)), (0, .ref md)]) hx hb dX11_faultOf_178 rfl hl (Nat.le_of_ble_eq_true rfl) rfl (fun ls hl => ?_)
                          refine z_iinc (lv' := [(2, .int (zI (k + 1))), (1, .int (zI 0)), (5, .int (zI 0)), (6, .int (zI 1)), (4, .int (zI (if (65 ≤ (sgn k) ∧ (sgn k) ≤ 73) then 1 else 0))), (3, .int (zI (sgn k))), (0, .ref md)]) hx hb dX11_faultOf_179 hl (k := 5) rfl (Nat.le_of_ble_eq_true rfl) rfl (fun ls hl => ?_)
                          refine lv_goto (tgt := 4) hx hb dX11_faultOf_182 (by decide) ?_
                          exact ih4 _ (by omega) (k + 1) 0 ls rfl (by omega) (by omega) (by rw [hq, fqS_at (by omega), show stF st (sgn k) = 0 from by unfold stF; (repeat' split) <;> omega]; exact if_neg (by omega)) (lv_sub hl [0, 1, 6] rfl)
                        ·
                          exfalso
                          first | omega | (revert h171; simp_all; done) | simp_all
                      ·
                        exfalso
                        first | omega | (revert h136; simp_all; done) | simp_all
                    ·
                      exfalso
                      first | omega | (revert h126; simp_all; done) | simp_all
                ·
                  refine lv_iload_n hx hb dX11_faultOf_98 rfl (lv_at hl 2 rfl) ?_
                  refine z_bipush hx hb dX11_faultOf_99 (by decide) ?_
                  refine z_icmp_eq (tgt := 110) hx hb dX11_faultOf_101 (by decide) (by omega) (by decide) (fun h101 => ?_) (fun h101 => ?_)
                  ·
                    refine z_iconst hx hb dX11_faultOf_110 ?_
                    refine lv_goto (tgt := 115) hx hb dX11_faultOf_111 (by decide) ?_
                    refine lv_istore (lv' := [(6, .int (zI 1)), (5, .int (zI 0)), (4, .int (zI (if (65 ≤ (sgn k) ∧ (sgn k) ≤ 73) then 1 else 0))), (3, .int (zI (sgn k))), (2, .int (zI k)), (1, .int (zI st)), (0, .ref md)]) hx hb dX11_faultOf_115 hl (Nat.le_of_ble_eq_true rfl) rfl (fun ls hl => ?_)
                    refine lv_iload_n hx hb dX11_faultOf_117 rfl (lv_at hl 3 rfl) ?_
                    refine z_bipush hx hb dX11_faultOf_118 (by decide) ?_
                    refine z_icmp_eq (tgt := 129) hx hb dX11_faultOf_120 (by decide) (by omega) (by decide) (fun h120 => ?_) (fun h120 => ?_)
                    ·
                      exfalso
                      first | omega | (revert h120; simp_all; done) | simp_all
                    ·
                      refine lv_iload_n hx hb dX11_faultOf_123 rfl (lv_at hl 3 rfl) ?_
                      refine z_bipush hx hb dX11_faultOf_124 (by decide) ?_
                      refine z_icmp_ne (tgt := 133) hx hb dX11_faultOf_126 (by decide) (by omega) (by decide) (fun h126 => ?_) (fun h126 => ?_)
                      ·
                        refine lv_iload_n hx hb dX11_faultOf_133 rfl (lv_at hl 3 rfl) ?_
                        refine z_bipush hx hb dX11_faultOf_134 (by decide) ?_
                        refine z_icmp_ne (tgt := 143) hx hb dX11_faultOf_136 (by decide) (by omega) (by decide) (fun h136 => ?_) (fun h136 => ?_)
                        ·
                          refine z_iconst hx hb dX11_faultOf_143 ?_
                          refine lv_istore (lv' := [(5, .int (zI 0)), (6, .int (zI 1)), (4, .int (zI (if (65 ≤ (sgn k) ∧ (sgn k) ≤ 73) then 1 else 0))), (3, .int (zI (sgn k))), (2, .int (zI k)), (1, .int (zI st)), (0, .ref md)]) hx hb dX11_faultOf_144 hl (Nat.le_of_ble_eq_true rfl) rfl (fun ls hl => ?_)
                          refine lv_goto (tgt := 169) hx hb dX11_faultOf_146 (by decide) ?_
                          refine lv_iload hx hb dX11_faultOf_169 (lv_at hl 1 rfl) ?_
                          refine z_if_ne (tgt := 176) hx hb dX11_faultOf_171 (by decide) (by decide) (fun h171 => ?_) (fun h171 => ?_)
                          ·
                            refine lv_iload hx hb dX11_faultOf_176 (lv_at hl 0 rfl) ?_
                            refine lv_istore_n (lv' := [(1, .int (zI 0)), (5, .int (zI 0)), (6, .int (zI 1)), (4, .int (zI (if (65 ≤ (sgn k) ∧ (sgn k) ≤ 73) then 1 else 0))), (3, .int (zI (sgn k))), (2, .int (zI k)), (0, .ref md)]) hx hb dX11_faultOf_178 rfl hl (Nat.le_of_ble_eq_true rfl) rfl (fun ls hl => ?_)
                            refine z_iinc (lv' := [(2, .int (zI (k + 1))), (1, .int (zI 0)), (5, .int (zI 0)), (6, .int (zI 1)), (4, .int (zI (if (65 ≤ (sgn k) ∧ (sgn k) ≤ 73) then 1 else 0))), (3, .int (zI (sgn k))), (0, .ref md)]) hx hb dX11_faultOf_179 hl (k := 5) rfl (Nat.le_of_ble_eq_true rfl) rfl (fun ls hl => ?_)
                            refine lv_goto (tgt := 4) hx hb dX11_faultOf_182 (by decide) ?_
                            exact ih4 _ (by omega) (k + 1) 0 ls rfl (by omega) (by omega) (by rw [hq, fqS_at (by omega), show stF st (sgn k) = 0 from by unfold stF; (repeat' split) <;> omega]; exact if_neg (by omega)) (lv_sub hl [0, 1, 6] rfl)
                          ·
                            exfalso
                            first | omega | (revert h171; simp_all; done) | simp_all
                        ·
                          exfalso
                          first | omega | (revert h136; simp_all; done) | simp_all
                      ·
                        exfalso
                        first | omega | (revert h126; simp_all; done) | simp_all
                  ·
                    refine lv_iload_n hx hb dX11_faultOf_104 rfl (lv_at hl 2 rfl) ?_
                    refine z_bipush hx hb dX11_faultOf_105 (by decide) ?_
                    refine z_icmp_ne (tgt := 114) hx hb dX11_faultOf_107 (by decide) (by omega) (by decide) (fun h107 => ?_) (fun h107 => ?_)
                    ·
                      refine z_iconst hx hb dX11_faultOf_114 ?_
                      refine lv_istore (lv' := [(6, .int (zI 0)), (5, .int (zI 0)), (4, .int (zI (if (65 ≤ (sgn k) ∧ (sgn k) ≤ 73) then 1 else 0))), (3, .int (zI (sgn k))), (2, .int (zI k)), (1, .int (zI st)), (0, .ref md)]) hx hb dX11_faultOf_115 hl (Nat.le_of_ble_eq_true rfl) rfl (fun ls hl => ?_)
                      refine lv_iload_n hx hb dX11_faultOf_117 rfl (lv_at hl 3 rfl) ?_
                      refine z_bipush hx hb dX11_faultOf_118 (by decide) ?_
                      refine z_icmp_eq (tgt := 129) hx hb dX11_faultOf_120 (by decide) (by omega) (by decide) (fun h120 => ?_) (fun h120 => ?_)
                      ·
                        exfalso
                        first | omega | (revert h120; simp_all; done) | simp_all
                      ·
                        refine lv_iload_n hx hb dX11_faultOf_123 rfl (lv_at hl 3 rfl) ?_
                        refine z_bipush hx hb dX11_faultOf_124 (by decide) ?_
                        refine z_icmp_ne (tgt := 133) hx hb dX11_faultOf_126 (by decide) (by omega) (by decide) (fun h126 => ?_) (fun h126 => ?_)
                        ·
                          refine lv_iload_n hx hb dX11_faultOf_133 rfl (lv_at hl 3 rfl) ?_
                          refine z_bipush hx hb dX11_faultOf_134 (by decide) ?_
                          refine z_icmp_ne (tgt := 143) hx hb dX11_faultOf_136 (by decide) (by omega) (by decide) (fun h136 => ?_) (fun h136 => ?_)
                          ·
                            refine z_iconst hx hb dX11_faultOf_143 ?_
                            refine lv_istore (lv' := [(5, .int (zI 0)), (6, .int (zI 0)), (4, .int (zI (if (65 ≤ (sgn k) ∧ (sgn k) ≤ 73) then 1 else 0))), (3, .int (zI (sgn k))), (2, .int (zI k)), (1, .int (zI st)), (0, .ref md)]) hx hb dX11_faultOf_144 hl (Nat.le_of_ble_eq_true rfl) rfl (fun ls hl => ?_)
                            refine lv_goto (tgt := 169) hx hb dX11_faultOf_146 (by decide) ?_
                            refine lv_iload hx hb dX11_faultOf_169 (lv_at hl 1 rfl) ?_
                            refine z_if_ne (tgt := 176) hx hb dX11_faultOf_171 (by decide) (by decide) (fun h171 => ?_) (fun h171 => ?_)
                            ·
                              exfalso
                              first | omega | (revert h171; simp_all; done) | simp_all
                            ·
                              refine lv_iload_n hx hb dX11_faultOf_174 rfl (lv_at hl 4 rfl) ?_
                              exact hret dX11_faultOf_175 (congrArg (fun z => some (Value.int (zI z))) (show (k : Int) = (fqS ln sgn ln.toNat 0 0) by rw [hq, fqS_at (by omega)]; exact (if_pos (by unfold stF; (repeat' split) <;> omega)).symm))
                          ·
                            exfalso
                            first | omega | (revert h136; simp_all; done) | simp_all
                        ·
                          exfalso
                          first | omega | (revert h126; simp_all; done) | simp_all
                    ·
                      refine z_iconst hx hb dX11_faultOf_110 ?_
                      refine lv_goto (tgt := 115) hx hb dX11_faultOf_111 (by decide) ?_
                      refine lv_istore (lv' := [(6, .int (zI 1)), (5, .int (zI 0)), (4, .int (zI (if (65 ≤ (sgn k) ∧ (sgn k) ≤ 73) then 1 else 0))), (3, .int (zI (sgn k))), (2, .int (zI k)), (1, .int (zI st)), (0, .ref md)]) hx hb dX11_faultOf_115 hl (Nat.le_of_ble_eq_true rfl) rfl (fun ls hl => ?_)
                      refine lv_iload_n hx hb dX11_faultOf_117 rfl (lv_at hl 3 rfl) ?_
                      refine z_bipush hx hb dX11_faultOf_118 (by decide) ?_
                      refine z_icmp_eq (tgt := 129) hx hb dX11_faultOf_120 (by decide) (by omega) (by decide) (fun h120 => ?_) (fun h120 => ?_)
                      ·
                        exfalso
                        first | omega | (revert h120; simp_all; done) | simp_all
                      ·
                        refine lv_iload_n hx hb dX11_faultOf_123 rfl (lv_at hl 3 rfl) ?_
                        refine z_bipush hx hb dX11_faultOf_124 (by decide) ?_
                        refine z_icmp_ne (tgt := 133) hx hb dX11_faultOf_126 (by decide) (by omega) (by decide) (fun h126 => ?_) (fun h126 => ?_)
                        ·
                          refine lv_iload_n hx hb dX11_faultOf_133 rfl (lv_at hl 3 rfl) ?_
                          refine z_bipush hx hb dX11_faultOf_134 (by decide) ?_
                          refine z_icmp_ne (tgt := 143) hx hb dX11_faultOf_136 (by decide) (by omega) (by decide) (fun h136 => ?_) (fun h136 => ?_)
                          ·
                            refine z_iconst hx hb dX11_faultOf_143 ?_
                            refine lv_istore (lv' := [(5, .int (zI 0)), (6, .int (zI 1)), (4, .int (zI (if (65 ≤ (sgn k) ∧ (sgn k) ≤ 73) then 1 else 0))), (3, .int (zI (sgn k))), (2, .int (zI k)), (1, .int (zI st)), (0, .ref md)]) hx hb dX11_faultOf_144 hl (Nat.le_of_ble_eq_true rfl) rfl (fun ls hl => ?_)
                            refine lv_goto (tgt := 169) hx hb dX11_faultOf_146 (by decide) ?_
                            refine lv_iload hx hb dX11_faultOf_169 (lv_at hl 1 rfl) ?_
                            refine z_if_ne (tgt := 176) hx hb dX11_faultOf_171 (by decide) (by decide) (fun h171 => ?_) (fun h171 => ?_)
                            ·
                              refine lv_iload hx hb dX11_faultOf_176 (lv_at hl 0 rfl) ?_
                              refine lv_istore_n (lv' := [(1, .int (zI 0)), (5, .int (zI 0)), (6, .int (zI 1)), (4, .int (zI (if (65 ≤ (sgn k) ∧ (sgn k) ≤ 73) then 1 else 0))), (3, .int (zI (sgn k))), (2, .int (zI k)), (0, .ref md)]) hx hb dX11_faultOf_178 rfl hl (Nat.le_of_ble_eq_true rfl) rfl (fun ls hl => ?_)
                              refine z_iinc (lv' := [(2, .int (zI (k + 1))), (1, .int (zI 0)), (5, .int (zI 0)), (6, .int (zI 1)), (4, .int (zI (if (65 ≤ (sgn k) ∧ (sgn k) ≤ 73) then 1 else 0))), (3, .int (zI (sgn k))), (0, .ref md)]) hx hb dX11_faultOf_179 hl (k := 5) rfl (Nat.le_of_ble_eq_true rfl) rfl (fun ls hl => ?_)
                              refine lv_goto (tgt := 4) hx hb dX11_faultOf_182 (by decide) ?_
                              exact ih4 _ (by omega) (k + 1) 0 ls rfl (by omega) (by omega) (by rw [hq, fqS_at (by omega), show stF st (sgn k) = 0 from by unfold stF; (repeat' split) <;> omega]; exact if_neg (by omega)) (lv_sub hl [0, 1, 6] rfl)
                            ·
                              exfalso
                              first | omega | (revert h171; simp_all; done) | simp_all
                          ·
                            exfalso
                            first | omega | (revert h136; simp_all; done) | simp_all
                        ·
                          exfalso
                          first | omega | (revert h126; simp_all; done) | simp_all
      ·
        refine lv_iload hx hb dX11_faultOf_36 (lv_at hl 1 rfl) ?_
        refine z_ifb_ne (tgt := 47) hx hb dX11_faultOf_38 (by decide) (fun h38 => ?_) (fun h38 => ?_)
        ·
          refine z_iconst hx hb dX11_faultOf_47 ?_
          refine lv_goto (tgt := 52) hx hb dX11_faultOf_48 (by decide) ?_
          refine lv_istore (lv' := [(6, .int (zI 1)), (5, .int (zI 0)), (4, .int (zI (if (65 ≤ (sgn k) ∧ (sgn k) ≤ 73) then 1 else 0))), (3, .int (zI (sgn k))), (2, .int (zI k)), (1, .int (zI st)), (0, .ref md)]) hx hb dX11_faultOf_52 hl (Nat.le_of_ble_eq_true rfl) rfl (fun ls hl => ?_)
          refine lv_iload hx hb dX11_faultOf_54 (lv_at hl 2 rfl) ?_
          refine z_ifb_eq (tgt := 63) hx hb dX11_faultOf_56 (by decide) (fun h56 => ?_) (fun h56 => ?_)
          ·
            exfalso
            first | omega | (revert h56; simp_all; done) | simp_all
          ·
            refine z_iconst hx hb dX11_faultOf_59 ?_
            refine lv_goto (tgt := 64) hx hb dX11_faultOf_60 (by decide) ?_
            refine lv_istore (lv' := [(5, .int (zI 1)), (6, .int (zI 1)), (4, .int (zI (if (65 ≤ (sgn k) ∧ (sgn k) ≤ 73) then 1 else 0))), (3, .int (zI (sgn k))), (2, .int (zI k)), (1, .int (zI st)), (0, .ref md)]) hx hb dX11_faultOf_64 hl (Nat.le_of_ble_eq_true rfl) rfl (fun ls hl => ?_)
            refine lv_goto (tgt := 169) hx hb dX11_faultOf_66 (by decide) ?_
            refine lv_iload hx hb dX11_faultOf_169 (lv_at hl 1 rfl) ?_
            refine z_if_ne (tgt := 176) hx hb dX11_faultOf_171 (by decide) (by decide) (fun h171 => ?_) (fun h171 => ?_)
            ·
              refine lv_iload hx hb dX11_faultOf_176 (lv_at hl 0 rfl) ?_
              refine lv_istore_n (lv' := [(1, .int (zI 1)), (5, .int (zI 1)), (6, .int (zI 1)), (4, .int (zI (if (65 ≤ (sgn k) ∧ (sgn k) ≤ 73) then 1 else 0))), (3, .int (zI (sgn k))), (2, .int (zI k)), (0, .ref md)]) hx hb dX11_faultOf_178 rfl hl (Nat.le_of_ble_eq_true rfl) rfl (fun ls hl => ?_)
              refine z_iinc (lv' := [(2, .int (zI (k + 1))), (1, .int (zI 1)), (5, .int (zI 1)), (6, .int (zI 1)), (4, .int (zI (if (65 ≤ (sgn k) ∧ (sgn k) ≤ 73) then 1 else 0))), (3, .int (zI (sgn k))), (0, .ref md)]) hx hb dX11_faultOf_179 hl (k := 5) rfl (Nat.le_of_ble_eq_true rfl) rfl (fun ls hl => ?_)
              refine lv_goto (tgt := 4) hx hb dX11_faultOf_182 (by decide) ?_
              exact ih4 _ (by omega) (k + 1) 1 ls rfl (by omega) (by omega) (by rw [hq, fqS_at (by omega), show stF st (sgn k) = 1 from by unfold stF; (repeat' split) <;> omega]; exact if_neg (by omega)) (lv_sub hl [0, 1, 6] rfl)
            ·
              exfalso
              first | omega | (revert h171; simp_all; done) | simp_all
        ·
          refine lv_iload_n hx hb dX11_faultOf_41 rfl (lv_at hl 2 rfl) ?_
          refine z_bipush hx hb dX11_faultOf_42 (by decide) ?_
          refine z_icmp_ne (tgt := 51) hx hb dX11_faultOf_44 (by decide) (by omega) (by decide) (fun h44 => ?_) (fun h44 => ?_)
          ·
            refine z_iconst hx hb dX11_faultOf_51 ?_
            refine lv_istore (lv' := [(6, .int (zI 0)), (5, .int (zI 0)), (4, .int (zI (if (65 ≤ (sgn k) ∧ (sgn k) ≤ 73) then 1 else 0))), (3, .int (zI (sgn k))), (2, .int (zI k)), (1, .int (zI st)), (0, .ref md)]) hx hb dX11_faultOf_52 hl (Nat.le_of_ble_eq_true rfl) rfl (fun ls hl => ?_)
            refine lv_iload hx hb dX11_faultOf_54 (lv_at hl 2 rfl) ?_
            refine z_ifb_eq (tgt := 63) hx hb dX11_faultOf_56 (by decide) (fun h56 => ?_) (fun h56 => ?_)
            ·
              refine z_iconst hx hb dX11_faultOf_63 ?_
              refine lv_istore (lv' := [(5, .int (zI 0)), (6, .int (zI 0)), (4, .int (zI (if (65 ≤ (sgn k) ∧ (sgn k) ≤ 73) then 1 else 0))), (3, .int (zI (sgn k))), (2, .int (zI k)), (1, .int (zI st)), (0, .ref md)]) hx hb dX11_faultOf_64 hl (Nat.le_of_ble_eq_true rfl) rfl (fun ls hl => ?_)
              refine lv_goto (tgt := 169) hx hb dX11_faultOf_66 (by decide) ?_
              refine lv_iload hx hb dX11_faultOf_169 (lv_at hl 1 rfl) ?_
              refine z_if_ne (tgt := 176) hx hb dX11_faultOf_171 (by decide) (by decide) (fun h171 => ?_) (fun h171 => ?_)
              ·
                exfalso
                first | omega | (revert h171; simp_all; done) | simp_all
              ·
                refine lv_iload_n hx hb dX11_faultOf_174 rfl (lv_at hl 4 rfl) ?_
                exact hret dX11_faultOf_175 (congrArg (fun z => some (Value.int (zI z))) (show (k : Int) = (fqS ln sgn ln.toNat 0 0) by rw [hq, fqS_at (by omega)]; exact (if_pos (by unfold stF; (repeat' split) <;> omega)).symm))
            ·
              exfalso
              first | omega | (revert h56; simp_all; done) | simp_all
          ·
            refine z_iconst hx hb dX11_faultOf_47 ?_
            refine lv_goto (tgt := 52) hx hb dX11_faultOf_48 (by decide) ?_
            refine lv_istore (lv' := [(6, .int (zI 1)), (5, .int (zI 0)), (4, .int (zI (if (65 ≤ (sgn k) ∧ (sgn k) ≤ 73) then 1 else 0))), (3, .int (zI (sgn k))), (2, .int (zI k)), (1, .int (zI st)), (0, .ref md)]) hx hb dX11_faultOf_52 hl (Nat.le_of_ble_eq_true rfl) rfl (fun ls hl => ?_)
            refine lv_iload hx hb dX11_faultOf_54 (lv_at hl 2 rfl) ?_
            refine z_ifb_eq (tgt := 63) hx hb dX11_faultOf_56 (by decide) (fun h56 => ?_) (fun h56 => ?_)
            ·
              refine z_iconst hx hb dX11_faultOf_63 ?_
              refine lv_istore (lv' := [(5, .int (zI 0)), (6, .int (zI 1)), (4, .int (zI (if (65 ≤ (sgn k) ∧ (sgn k) ≤ 73) then 1 else 0))), (3, .int (zI (sgn k))), (2, .int (zI k)), (1, .int (zI st)), (0, .ref md)]) hx hb dX11_faultOf_64 hl (Nat.le_of_ble_eq_true rfl) rfl (fun ls hl => ?_)
              refine lv_goto (tgt := 169) hx hb dX11_faultOf_66 (by decide) ?_
              refine lv_iload hx hb dX11_faultOf_169 (lv_at hl 1 rfl) ?_
              refine z_if_ne (tgt := 176) hx hb dX11_faultOf_171 (by decide) (by decide) (fun h171 => ?_) (fun h171 => ?_)
              ·
                refine lv_iload hx hb dX11_faultOf_176 (lv_at hl 0 rfl) ?_
                refine lv_istore_n (lv' := [(1, .int (zI 0)), (5, .int (zI 0)), (6, .int (zI 1)), (4, .int (zI (if (65 ≤ (sgn k) ∧ (sgn k) ≤ 73) then 1 else 0))), (3, .int (zI (sgn k))), (2, .int (zI k)), (0, .ref md)]) hx hb dX11_faultOf_178 rfl hl (Nat.le_of_ble_eq_true rfl) rfl (fun ls hl => ?_)
                refine z_iinc (lv' := [(2, .int (zI (k + 1))), (1, .int (zI 0)), (5, .int (zI 0)), (6, .int (zI 1)), (4, .int (zI (if (65 ≤ (sgn k) ∧ (sgn k) ≤ 73) then 1 else 0))), (3, .int (zI (sgn k))), (0, .ref md)]) hx hb dX11_faultOf_179 hl (k := 5) rfl (Nat.le_of_ble_eq_true rfl) rfl (fun ls hl => ?_)
                refine lv_goto (tgt := 4) hx hb dX11_faultOf_182 (by decide) ?_
                exact ih4 _ (by omega) (k + 1) 0 ls rfl (by omega) (by omega) (by rw [hq, fqS_at (by omega), show stF st (sgn k) = 0 from by unfold stF; (repeat' split) <;> omega]; exact if_neg (by omega)) (lv_sub hl [0, 1, 6] rfl)
              ·
                exfalso
                first | omega | (revert h171; simp_all; done) | simp_all
            ·
              exfalso
              first | omega | (revert h56; simp_all; done) | simp_all
  exact L4 _ 0 0 ls rfl (by omega) (by decide) (by rw [Int.sub_zero]) (lv_sub hl [0, 1, 2] rfl)
