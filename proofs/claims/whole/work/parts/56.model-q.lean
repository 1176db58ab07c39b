set_option maxRecDepth 20000 in
theorem hin_X11_bisect_X11 : ∀ w ∈ u_ws RX11 TX11 23, w ∈ wsX11_bisect := by decide +kernel
set_option maxRecDepth 20000 in
theorem fl_X11_bisect_65 : Cond.fieldLink RX11 65 "HornCityModel" "there" "I" ∈ wsX11_bisect := by decide +kernel
set_option maxRecDepth 20000 in
theorem fl_X11_bisect_7 : Cond.fieldLink RX11 7 "HornCityModel" "book" "[I" ∈ wsX11_bisect := by decide +kernel
set_option maxHeartbeats 4000000 in
set_option maxRecDepth 100000 in
theorem c_X11_bisect (l : Launch) (D : va_G) (cI cJ cZ : ClassId) (md bk nw nt df chk pa rc qu ct ft wn wy nx im ik : Nat) (inc mat kd : Int → Int) (T cn ln wat who rs act fse tm yr what : Int) (hr : (-2147483648 ≤ what ∧ what ≤ 2147483647)) (hT : 0 ≤ T ∧ T < 512) (hbi : zBd inc 9 0 179) : zMp l yX11_bisect wsX11_bisect (zRm 2) D cI cJ cZ [.ref md, .int (zI what)] [(md, .inr (9, [.ref bk, .ref nw, .ref nt, .int (zI T), .ref df, .int (zI cn), .ref chk, .int (zI ln), .ref pa, .int (zI wat), .int (zI who), .int (zI rs), .int (zI act), .int (zI fse), .ref rc, .ref qu, .ref ct, .ref ft, .ref wn, .ref wy, .ref nx, .ref im, .ref ik])), (bk, .inl (cI, 29, .inl (zA (nwS inc mat kd tm yr))))] (some (.int (zI (biR T inc what)))) := by
  refine zMp_i (cc := cX11_bisect) (maxL := 10) (by decide +kernel) rfl (Nat.le_of_ble_eq_true rfl) rfl ?_
  intro p e s m args below meth c Q H ls F hK hz hl hret
  obtain ⟨hx, hb, hml, hown0, hts⟩ := id F
  have hown : s.vm.findClass RX11 = some m.cls := hown0
  obtain ⟨ws0, hw0⟩ : ∃ w : va_W, w = [(md, .inr (9, [.ref bk, .ref nw, .ref nt, .int (zI T), .ref df, .int (zI cn), .ref chk, .int (zI ln), .ref pa, .int (zI wat), .int (zI who), .int (zI rs), .int (zI act), .int (zI fse), .ref rc, .ref qu, .ref ct, .ref ft, .ref wn, .ref wy, .ref nx, .ref im, .ref ik])), (bk, .inl (cI, 29, .inl (zA (nwS inc mat kd tm yr))))] := ⟨_, rfl⟩
  have hz : zH D (zF ws0) H [(md, .inr (9, [.ref bk, .ref nw, .ref nt, .int (zI T), .ref df, .int (zI cn), .ref chk, .int (zI ln), .ref pa, .int (zI wat), .int (zI who), .int (zI rs), .int (zI act), .int (zI fse), .ref rc, .ref qu, .ref ct, .ref ft, .ref wn, .ref wy, .ref nx, .ref im, .ref ik])), (bk, .inl (cI, 29, .inl (zA (nwS inc mat kd tm yr))))] H [] := by rw [hw0]; exact hz
  have hl : lv_has ls 10 [(0, .ref md), (1, .int (zI what))] := hl
  refine lv_iload_n hx hb dX11_bisect_0 rfl (lv_at hl 1 rfl) ?_
  refine z_iconst hx hb dX11_bisect_1 ?_
  refine z_iconst hx hb dX11_bisect_2 ?_
  refine z_callSp (As := [.int (zI what), .int (zI 0), .int (zI 1)]) (rest := []) F hK hz hl (c_X11_in l D cI cJ cZ what 0 1 (by omega)) (va_cwS 3 hts gX11_bisect_X11_in rfl rfl rfl (by decide +kernel) ⟨Nat.le_of_ble_eq_true rfl, Nat.le_of_ble_eq_true rfl⟩) [] rfl rfl rfl rfl (Nat.le_of_ble_eq_true rfl) ⟨Nat.le_of_ble_eq_true rfl, Nat.le_of_ble_eq_true rfl⟩ dX11_bisect_3 ?_
  refine z_ifb_ne (tgt := 12) hx hb dX11_bisect_6 (by decide) (fun h6 => ?_) (fun h6 => ?_)
  ·
    refine z_iconst hx hb dX11_bisect_12 ?_
    refine lv_istore_n (lv' := [(2, .int (zI 0)), (0, .ref md), (1, .int (zI what))]) hx hb dX11_bisect_13 rfl hl (Nat.le_of_ble_eq_true rfl) rfl (fun ls hl => ?_)
    have L14 : ∀ (n : Nat) (lo : Int) (ls : Array Slot), ((9 - lo).toNat = n) → (0 ≤ lo ∧ lo ≤ 9) → (∀ j, 0 ≤ j → j < lo → inS T j = false) → lv_has ls 10 [(2, .int (zI lo)), (0, .ref md), (1, .int (zI what))] → W p l e (zRm 2) s m args below meth c H [] 0 0 Q (F0 m 14 ls []) := by
      intro n
      refine Nat.strongRecOn n ?_
      intro n ih14 lo ls hn14 hl0 hl1 hl
      refine lv_iload_n hx hb dX11_bisect_14 rfl (lv_at hl 0 rfl) ?_
      refine z_bipush hx hb dX11_bisect_15 (by decide) ?_
      refine z_icmp_ge (tgt := 34) hx hb dX11_bisect_17 (by decide) (by omega) (by decide) (fun h17 => ?_) (fun h17 => ?_)
      ·
        have hlow : ¬ T = 0 → inS T lo = true ∧ ∀ j, 0 ≤ j → j < lo → inS T j = false := fun q => absurd (T0_of hT (fun j a b => hl1 j a (by omega))) q
        refine lv_aload_n hx hb dX11_bisect_34 rfl (lv_at hl 1 rfl) ?_
        refine z_get (C := RX11) (T := TX11) (N := 23) (ref := "HornCityModel") hx hb hts hin_X11_bisect_X11 hown hK hz 0 rfl rfl 3 (by decide) (hts _ fl_X11_bisect_65) rfl rfl dX11_bisect_35 ?_
        refine z_if_ne (tgt := 45) hx hb dX11_bisect_38 (by decide) (by omega) (fun h38 => ?_) (fun h38 => ?_)
        ·
          refine z_ldc (n := 1000000) hx hb hown (hts (.constant RX11 141 1000000) (by decide +kernel)) (by decide +kernel) dX11_bisect_45 ?_
          refine lv_istore_n (lv' := [(3, .int (zI 1000000)), (2, .int (zI lo)), (0, .ref md), (1, .int (zI what))]) hx hb dX11_bisect_47 rfl hl (Nat.le_of_ble_eq_true rfl) rfl (fun ls hl => ?_)
          refine z_iconst hx hb dX11_bisect_48 ?_
          refine lv_istore (lv' := [(4, .int (zI 0)), (3, .int (zI 1000000)), (2, .int (zI lo)), (0, .ref md), (1, .int (zI what))]) hx hb dX11_bisect_49 hl (Nat.le_of_ble_eq_true rfl) rfl (fun ls hl => ?_)
          refine z_iconst hx hb dX11_bisect_51 ?_
          refine lv_istore (lv' := [(5, .int (zI 0)), (4, .int (zI 0)), (3, .int (zI 1000000)), (2, .int (zI lo)), (0, .ref md), (1, .int (zI what))]) hx hb dX11_bisect_52 hl (Nat.le_of_ble_eq_true rfl) rfl (fun ls hl => ?_)
          have L54 : ∀ (n : Nat) (hf fo le : Int) (ls : Array Slot), ((512 - hf).toNat = n) → (0 ≤ hf ∧ hf ≤ 512) → (0 ≤ le ∧ le ≤ 1000000) → (T = 0 → le = 0 ∧ fo = 0) → (¬ T = 0 → biI T inc hf fo le) → lv_has ls 10 [(5, .int (zI hf)), (4, .int (zI fo)), (3, .int (zI le)), (2, .int (zI lo)), (0, .ref md), (1, .int (zI what))] → W p l e (zRm 2) s m args below meth c H [] 0 0 Q (F0 m 54 ls []) := by
            intro n
            refine Nat.strongRecOn n ?_
            intro n ih54 hf fo le ls hn54 h0 hle hz54 hbi1 hl
            refine lv_iload hx hb dX11_bisect_54 (lv_at hl 0 rfl) ?_
            refine z_sipush hx hb dX11_bisect_56 (by decide) ?_
            refine z_icmp_ge (tgt := 250) hx hb dX11_bisect_59 (by decide) (by omega) (by decide) (fun h59 => ?_) (fun h59 => ?_)
            ·
              refine lv_iload_n hx hb dX11_bisect_250 rfl (lv_at hl 5 rfl) ?_
              refine z_if_ne (tgt := 258) hx hb dX11_bisect_251 (by decide) (by omega) (fun h251 => ?_) (fun h251 => ?_)
              ·
                refine lv_iload hx hb dX11_bisect_258 (lv_at hl 1 rfl) ?_
                exact hret dX11_bisect_260 (congrArg (fun z => some (Value.int (zI z))) (show (fo : Int) = (biR T inc what) by exact if hT0 : T = 0 then (by have e9 := hz54 hT0; rw [e9.2, hT0]; exact bi_end0 h6) else (by have e9 := bi_end (what := what) hT hT0 (by have h8 := hbi1 hT0; rwa [show hf = 512 by omega] at h8) h6; rw [if_neg h251] at e9; exact e9)))
              ·
                refine lv_iload_n hx hb dX11_bisect_254 rfl (lv_at hl 2 rfl) ?_
                refine lv_goto (tgt := 260) hx hb dX11_bisect_255 (by decide) ?_
                exact hret dX11_bisect_260 (congrArg (fun z => some (Value.int (zI z))) (show (le : Int) = (biR T inc what) by exact if hT0 : T = 0 then (by have e9 := hz54 hT0; rw [e9.1, hT0]; exact bi_end0 h6) else (by have e9 := bi_end (what := what) hT hT0 (by have h8 := hbi1 hT0; rwa [show hf = 512 by omega] at h8) h6; rw [if_pos h251] at e9; exact e9)))
            ·
              refine lv_aload_n hx hb dX11_bisect_62 rfl (lv_at hl 4 rfl) ?_
              refine z_get (C := RX11) (T := TX11) (N := 23) (ref := "HornCityModel") hx hb hts hin_X11_bisect_X11 hown hK hz 0 rfl rfl 3 (by decide) (hts _ fl_X11_bisect_65) rfl rfl dX11_bisect_63 ?_
              refine z_if_eq (tgt := 250) hx hb dX11_bisect_66 (by decide) (by omega) (fun h66 => ?_) (fun h66 => ?_)
              ·
                refine lv_iload_n hx hb dX11_bisect_250 rfl (lv_at hl 5 rfl) ?_
                refine z_if_ne (tgt := 258) hx hb dX11_bisect_251 (by decide) (by omega) (fun h251 => ?_) (fun h251 => ?_)
                ·
                  refine lv_iload hx hb dX11_bisect_258 (lv_at hl 1 rfl) ?_
                  exact hret dX11_bisect_260 (congrArg (fun z => some (Value.int (zI z))) (show (fo : Int) = (biR T inc what) by have e9 := hz54 h66; rw [e9.2, h66]; exact bi_end0 h6))
                ·
                  refine lv_iload_n hx hb dX11_bisect_254 rfl (lv_at hl 2 rfl) ?_
                  refine lv_goto (tgt := 260) hx hb dX11_bisect_255 (by decide) ?_
                  exact hret dX11_bisect_260 (congrArg (fun z => some (Value.int (zI z))) (show (le : Int) = (biR T inc what) by have e9 := hz54 h66; rw [e9.1, h66]; exact bi_end0 h6))
              ·
                refine lv_iload hx hb dX11_bisect_69 (lv_at hl 0 rfl) ?_
                have hhf : 0 ≤ hf ∧ hf < 512 := by omega
                have hlw : inS T lo = true ∧ ∀ j, 0 ≤ j → j < lo → inS T j = false := hlow h66
                refine z_callSp (As := [.int (zI hf)]) (rest := []) F hK hz hl (c_X11_bits l D cI cJ cZ hf (by omega)) (va_cwS 1 hts gX11_bisect_X11_bits rfl rfl rfl (by decide +kernel) ⟨Nat.le_of_ble_eq_true rfl, Nat.le_of_ble_eq_true rfl⟩) [] rfl rfl rfl rfl (Nat.le_of_ble_eq_true rfl) ⟨Nat.le_of_ble_eq_true rfl, Nat.le_of_ble_eq_true rfl⟩ dX11_bisect_71 ?_
                refine lv_aload_n hx hb dX11_bisect_74 rfl (lv_at hl 4 rfl) ?_
                refine z_get (C := RX11) (T := TX11) (N := 23) (ref := "HornCityModel") hx hb hts hin_X11_bisect_X11 hown hK hz 0 rfl rfl 3 (by decide) (hts _ fl_X11_bisect_65) rfl rfl dX11_bisect_75 ?_
                refine lv_iload hx hb dX11_bisect_78 (lv_at hl 0 rfl) ?_
                refine z_iconst hx hb dX11_bisect_80 ?_
                refine z_inot hx hb dX11_bisect_81 ?_
                refine z_iandn hx hb dX11_bisect_82 (by omega) (by omega) ?_
                have hz2 := zAndn_bd (b := hf) hT
                refine z_callSp (As := [.int (zI (zAndn T hf))]) (rest := [.int (zI (cnt9 hf))]) F hK hz hl (c_X11_bits l D cI cJ cZ (zAndn T hf) (by omega)) (va_cwS 1 hts gX11_bisect_X11_bits rfl rfl rfl (by decide +kernel) ⟨Nat.le_of_ble_eq_true rfl, Nat.le_of_ble_eq_true rfl⟩) [] rfl rfl rfl rfl (Nat.le_of_ble_eq_true rfl) ⟨Nat.le_of_ble_eq_true rfl, Nat.le_of_ble_eq_true rfl⟩ dX11_bisect_83 ?_
                have hcb1 := cnt9_bd hf
                have hcb2 := cnt9_bd (zAndn T hf)
                refine z_isub hx hb dX11_bisect_86 ?_
                refine lv_istore (lv' := [(6, .int (zI ((cnt9 hf) - (cnt9 (zAndn T hf))))), (5, .int (zI hf)), (4, .int (zI fo)), (3, .int (zI le)), (2, .int (zI lo)), (0, .ref md), (1, .int (zI what))]) hx hb dX11_bisect_87 hl (Nat.le_of_ble_eq_true rfl) rfl (fun ls hl => ?_)
                refine lv_iload hx hb dX11_bisect_89 (lv_at hl 1 rfl) ?_
                refine lv_aload_n hx hb dX11_bisect_91 rfl (lv_at hl 5 rfl) ?_
                refine z_get (C := RX11) (T := TX11) (N := 23) (ref := "HornCityModel") hx hb hts hin_X11_bisect_X11 hown hK hz 0 rfl rfl 3 (by decide) (hts _ fl_X11_bisect_65) rfl rfl dX11_bisect_92 ?_
                refine z_iconst hx hb dX11_bisect_95 ?_
                refine z_inot hx hb dX11_bisect_96 ?_
                refine z_iandn hx hb dX11_bisect_97 (by omega) (by omega) ?_
                have hz3 := zAndn_bd (b := T) hhf
                refine z_if_ne (tgt := 244) hx hb dX11_bisect_98 (by decide) (by omega) (fun h98 => ?_) (fun h98 => ?_)
                ·
                  refine z_iinc (lv' := [(5, .int (zI (hf + 1))), (6, .int (zI ((cnt9 hf) - (cnt9 (zAndn T hf))))), (4, .int (zI fo)), (3, .int (zI le)), (2, .int (zI lo)), (0, .ref md), (1, .int (zI what))]) hx hb dX11_bisect_244 hl (k := 1) rfl (Nat.le_of_ble_eq_true rfl) rfl (fun ls hl => ?_)
                  refine lv_goto (tgt := 54) hx hb dX11_bisect_247 (by decide) ?_
                  exact ih54 _ (by omega) (hf + 1) fo le ls rfl (by omega) (by omega) (fun q => absurd q h66) (fun _ => bi_no (hbi1 h66) h0.1 (Bool.eq_false_iff.mpr (fun q => by have h9 := (hf_is hT ⟨h0.1, by omega⟩ hlw.1 hlw.2).mp q; exact h98 h9.1))) (lv_sub hl [0, 2, 3, 4, 5, 6] rfl)
                ·
                  refine lv_iload hx hb dX11_bisect_101 (lv_at hl 1 rfl) ?_
                  refine lv_iload_n hx hb dX11_bisect_103 rfl (lv_at hl 4 rfl) ?_
                  refine z_callSp (As := [.int (zI hf), .int (zI lo)]) (rest := []) F hK hz hl (c_X11_has l D cI cJ cZ hf lo (by omega)) (va_cwS 2 hts gX11_bisect_X11_has rfl rfl rfl (by decide +kernel) ⟨Nat.le_of_ble_eq_true rfl, Nat.le_of_ble_eq_true rfl⟩) [] rfl rfl rfl rfl (Nat.le_of_ble_eq_true rfl) ⟨Nat.le_of_ble_eq_true rfl, Nat.le_of_ble_eq_true rfl⟩ dX11_bisect_104 ?_
                  refine z_ifb_eq (tgt := 244) hx hb dX11_bisect_107 (by decide) (fun h107 => ?_) (fun h107 => ?_)
                  ·
                    refine z_iinc (lv' := [(5, .int (zI (hf + 1))), (6, .int (zI ((cnt9 hf) - (cnt9 (zAndn T hf))))), (4, .int (zI fo)), (3, .int (zI le)), (2, .int (zI lo)), (0, .ref md), (1, .int (zI what))]) hx hb dX11_bisect_244 hl (k := 1) rfl (Nat.le_of_ble_eq_true rfl) rfl (fun ls hl => ?_)
                    refine lv_goto (tgt := 54) hx hb dX11_bisect_247 (by decide) ?_
                    exact ih54 _ (by omega) (hf + 1) fo le ls rfl (by omega) (by omega) (fun q => absurd q h66) (fun _ => bi_no (hbi1 h66) h0.1 (Bool.eq_false_iff.mpr (fun q => by have h9 := (hf_is hT ⟨h0.1, by omega⟩ hlw.1 hlw.2).mp q; exact h107 h9.2.1))) (lv_sub hl [0, 2, 3, 4, 5, 6] rfl)
                  ·
                    refine lv_iload hx hb dX11_bisect_110 (lv_at hl 0 rfl) ?_
                    refine z_iconst hx hb dX11_bisect_112 ?_
                    refine z_iconst hx hb dX11_bisect_113 ?_
                    refine z_callSp (As := [.int (zI ((cnt9 hf) - (cnt9 (zAndn T hf)))), .int (zI (-1)), .int (zI 1)]) (rest := []) F hK hz hl (c_X11_in l D cI cJ cZ ((cnt9 hf) - (cnt9 (zAndn T hf))) (-1) 1 (by omega)) (va_cwS 3 hts gX11_bisect_X11_in rfl rfl rfl (by decide +kernel) ⟨Nat.le_of_ble_eq_true rfl, Nat.le_of_ble_eq_true rfl⟩) [] rfl rfl rfl rfl (Nat.le_of_ble_eq_true rfl) ⟨Nat.le_of_ble_eq_true rfl, Nat.le_of_ble_eq_true rfl⟩ dX11_bisect_114 ?_
                    refine z_ifb_eq (tgt := 244) hx hb dX11_bisect_117 (by decide) (fun h117 => ?_) (fun h117 => ?_)
                    ·
                      refine z_iinc (lv' := [(5, .int (zI (hf + 1))), (6, .int (zI ((cnt9 hf) - (cnt9 (zAndn T hf))))), (4, .int (zI fo)), (3, .int (zI le)), (2, .int (zI lo)), (0, .ref md), (1, .int (zI what))]) hx hb dX11_bisect_244 hl (k := 1) rfl (Nat.le_of_ble_eq_true rfl) rfl (fun ls hl => ?_)
                      refine lv_goto (tgt := 54) hx hb dX11_bisect_247 (by decide) ?_
                      exact ih54 _ (by omega) (hf + 1) fo le ls rfl (by omega) (by omega) (fun q => absurd q h66) (fun _ => bi_no (hbi1 h66) h0.1 (Bool.eq_false_iff.mpr (fun q => by have h9 := (hf_is hT ⟨h0.1, by omega⟩ hlw.1 hlw.2).mp q; omega))) (lv_sub hl [0, 2, 3, 4, 5, 6] rfl)
                    ·
                      refine z_iconst hx hb dX11_bisect_120 ?_
                      refine lv_istore (lv' := [(7, .int (zI 0)), (6, .int (zI ((cnt9 hf) - (cnt9 (zAndn T hf))))), (5, .int (zI hf)), (4, .int (zI fo)), (3, .int (zI le)), (2, .int (zI lo)), (0, .ref md), (1, .int (zI what))]) hx hb dX11_bisect_121 hl (Nat.le_of_ble_eq_true rfl) rfl (fun ls hl => ?_)
                      refine z_iconst hx hb dX11_bisect_123 ?_
                      refine lv_istore (lv' := [(8, .int (zI 0)), (7, .int (zI 0)), (6, .int (zI ((cnt9 hf) - (cnt9 (zAndn T hf))))), (5, .int (zI hf)), (4, .int (zI fo)), (3, .int (zI le)), (2, .int (zI lo)), (0, .ref md), (1, .int (zI what))]) hx hb dX11_bisect_124 hl (Nat.le_of_ble_eq_true rfl) rfl (fun ls hl => ?_)
                      have L126 : ∀ (n : Nat) (i su : Int) (ls : Array Slot), ((9 - i).toNat = n) → (0 ≤ i ∧ i ≤ 9) → (0 ≤ su ∧ su ≤ 810 * i) → (su = sumZ (fun i => sumZ (fun j => biP T inc hf i j) i.toNat) i.toNat) → lv_has ls 10 [(8, .int (zI i)), (7, .int (zI su)), (6, .int (zI ((cnt9 hf) - (cnt9 (zAndn T hf))))), (5, .int (zI hf)), (4, .int (zI fo)), (3, .int (zI le)), (2, .int (zI lo)), (0, .ref md), (1, .int (zI what))] → W p l e (zRm 2) s m args below meth c H [] 0 0 Q (F0 m 126 ls []) := by
                        intro n
                        refine Nat.strongRecOn n ?_
                        intro n ih126 i su ls hn126 h01 hs0 hs hl
                        refine lv_iload hx hb dX11_bisect_126 (lv_at hl 0 rfl) ?_
                        refine z_bipush hx hb dX11_bisect_128 (by decide) ?_
                        refine z_icmp_ge (tgt := 216) hx hb dX11_bisect_130 (by decide) (by omega) (by decide) (fun h130 => ?_) (fun h130 => ?_)
                        ·
                          have hf1 : 1 ≤ hf := by (have h0z : ¬ hf = 0 := fun q => by (rw [q, Int.zero_ediv] at h107; omega)); omega
                          have hsu : su = ahS T inc hf := by rw [hs, show i = 9 by omega]; exact bi_ah hT hhf h98
                          have hyes : hfS T hf = true := (hf_is hT hhf hlw.1 hlw.2).mpr ⟨h98, h107, by omega⟩
                          refine lv_iload hx hb dX11_bisect_216 (lv_at hl 1 rfl) ?_
                          refine lv_iload_n hx hb dX11_bisect_218 rfl (lv_at hl 5 rfl) ?_
                          refine z_icmp_ge (tgt := 227) hx hb dX11_bisect_219 (by decide) (by omega) (by omega) (fun h219 => ?_) (fun h219 => ?_)
                          ·
                            refine lv_iload hx hb dX11_bisect_227 (lv_at hl 4 rfl) ?_
                            refine lv_istore (lv' := [(4, .int (zI fo)), (8, .int (zI i)), (7, .int (zI su)), (6, .int (zI ((cnt9 hf) - (cnt9 (zAndn T hf))))), (5, .int (zI hf)), (3, .int (zI le)), (2, .int (zI lo)), (0, .ref md), (1, .int (zI what))]) hx hb dX11_bisect_229 hl (Nat.le_of_ble_eq_true rfl) rfl (fun ls hl => ?_)
                            refine lv_iload hx hb dX11_bisect_231 (lv_at hl 2 rfl) ?_
                            refine lv_iload_n hx hb dX11_bisect_233 rfl (lv_at hl 5 rfl) ?_
                            refine z_icmp_ge (tgt := 242) hx hb dX11_bisect_234 (by decide) (by omega) (by omega) (fun h234 => ?_) (fun h234 => ?_)
                            ·
                              refine lv_iload_n hx hb dX11_bisect_242 rfl (lv_at hl 5 rfl) ?_
                              refine lv_istore_n (lv' := [(3, .int (zI le)), (4, .int (zI fo)), (8, .int (zI i)), (7, .int (zI su)), (6, .int (zI ((cnt9 hf) - (cnt9 (zAndn T hf))))), (5, .int (zI hf)), (2, .int (zI lo)), (0, .ref md), (1, .int (zI what))]) hx hb dX11_bisect_243 rfl hl (Nat.le_of_ble_eq_true rfl) rfl (fun ls hl => ?_)
                              refine z_iinc (lv' := [(5, .int (zI (hf + 1))), (3, .int (zI le)), (4, .int (zI fo)), (8, .int (zI i)), (7, .int (zI su)), (6, .int (zI ((cnt9 hf) - (cnt9 (zAndn T hf))))), (2, .int (zI lo)), (0, .ref md), (1, .int (zI what))]) hx hb dX11_bisect_244 hl (k := 5) rfl (Nat.le_of_ble_eq_true rfl) rfl (fun ls hl => ?_)
                              refine lv_goto (tgt := 54) hx hb dX11_bisect_247 (by decide) ?_
                              exact ih54 _ (by omega) (hf + 1) fo le ls rfl (by omega) (by omega) (fun q => absurd q h66) (fun _ => by have h9 := bi_yes (hbi1 h66) (by omega) hyes; rw [← hsu, if_neg (by omega), if_neg (by omega)] at h9; exact h9) (lv_sub hl [0, 2, 1, 6, 7, 8] rfl)
                            ·
                              exfalso
                              first | omega | (revert h234; simp_all; done) | simp_all
                          ·
                            refine lv_iload hx hb dX11_bisect_222 (lv_at hl 3 rfl) ?_
                            refine lv_goto (tgt := 229) hx hb dX11_bisect_224 (by decide) ?_
                            refine lv_istore (lv' := [(4, .int (zI hf)), (8, .int (zI i)), (7, .int (zI su)), (6, .int (zI ((cnt9 hf) - (cnt9 (zAndn T hf))))), (5, .int (zI hf)), (3, .int (zI le)), (2, .int (zI lo)), (0, .ref md), (1, .int (zI what))]) hx hb dX11_bisect_229 hl (Nat.le_of_ble_eq_true rfl) rfl (fun ls hl => ?_)
                            refine lv_iload hx hb dX11_bisect_231 (lv_at hl 2 rfl) ?_
                            refine lv_iload_n hx hb dX11_bisect_233 rfl (lv_at hl 5 rfl) ?_
                            refine z_icmp_ge (tgt := 242) hx hb dX11_bisect_234 (by decide) (by omega) (by omega) (fun h234 => ?_) (fun h234 => ?_)
                            ·
                              exfalso
                              first | omega | (revert h234; simp_all; done) | simp_all
                            ·
                              refine lv_iload hx hb dX11_bisect_237 (lv_at hl 2 rfl) ?_
                              refine lv_goto (tgt := 243) hx hb dX11_bisect_239 (by decide) ?_
                              refine lv_istore_n (lv' := [(3, .int (zI su)), (4, .int (zI hf)), (8, .int (zI i)), (7, .int (zI su)), (6, .int (zI ((cnt9 hf) - (cnt9 (zAndn T hf))))), (5, .int (zI hf)), (2, .int (zI lo)), (0, .ref md), (1, .int (zI what))]) hx hb dX11_bisect_243 rfl hl (Nat.le_of_ble_eq_true rfl) rfl (fun ls hl => ?_)
                              refine z_iinc (lv' := [(5, .int (zI (hf + 1))), (3, .int (zI su)), (4, .int (zI hf)), (8, .int (zI i)), (7, .int (zI su)), (6, .int (zI ((cnt9 hf) - (cnt9 (zAndn T hf))))), (2, .int (zI lo)), (0, .ref md), (1, .int (zI what))]) hx hb dX11_bisect_244 hl (k := 5) rfl (Nat.le_of_ble_eq_true rfl) rfl (fun ls hl => ?_)
                              refine lv_goto (tgt := 54) hx hb dX11_bisect_247 (by decide) ?_
                              exact ih54 _ (by omega) (hf + 1) hf su ls rfl (by omega) (by omega) (fun q => absurd q h66) (fun _ => by have h9 := bi_yes (hbi1 h66) (by omega) hyes; rw [← hsu, if_pos (by omega), if_pos (by omega)] at h9; exact h9) (lv_sub hl [0, 2, 1, 6, 7, 8] rfl)
                        ·
                          refine z_iconst hx hb dX11_bisect_133 ?_
                          refine lv_istore (lv' := [(9, .int (zI 0)), (8, .int (zI i)), (7, .int (zI su)), (6, .int (zI ((cnt9 hf) - (cnt9 (zAndn T hf))))), (5, .int (zI hf)), (4, .int (zI fo)), (3, .int (zI le)), (2, .int (zI lo)), (0, .ref md), (1, .int (zI what))]) hx hb dX11_bisect_134 hl (Nat.le_of_ble_eq_true rfl) rfl (fun ls hl => ?_)
                          have L136 : ∀ (n : Nat) (j sv : Int) (ls : Array Slot), ((i - j).toNat = n) → (0 ≤ j ∧ j ≤ i) → (su ≤ sv ∧ sv ≤ su + 90 * j) → (sv = su + sumZ (fun j => biP T inc hf i j) j.toNat) → lv_has ls 10 [(9, .int (zI j)), (8, .int (zI i)), (7, .int (zI sv)), (6, .int (zI ((cnt9 hf) - (cnt9 (zAndn T hf))))), (5, .int (zI hf)), (4, .int (zI fo)), (3, .int (zI le)), (2, .int (zI lo)), (0, .ref md), (1, .int (zI what))] → W p l e (zRm 2) s m args below meth c H [] 0 0 Q (F0 m 136 ls []) := by
                            intro n
                            refine Nat.strongRecOn n ?_
                            intro n ih136 j sv ls hn136 h2 hv0 hv hl
                            refine lv_iload hx hb dX11_bisect_136 (lv_at hl 0 rfl) ?_
                            refine lv_iload hx hb dX11_bisect_138 (lv_at hl 1 rfl) ?_
                            refine z_icmp_ge (tgt := 210) hx hb dX11_bisect_140 (by decide) (by omega) (by omega) (fun h140 => ?_) (fun h140 => ?_)
                            ·
                              refine z_iinc (lv' := [(8, .int (zI (i + 1))), (9, .int (zI j)), (7, .int (zI sv)), (6, .int (zI ((cnt9 hf) - (cnt9 (zAndn T hf))))), (5, .int (zI hf)), (4, .int (zI fo)), (3, .int (zI le)), (2, .int (zI lo)), (0, .ref md), (1, .int (zI what))]) hx hb dX11_bisect_210 hl (k := 1) rfl (Nat.le_of_ble_eq_true rfl) rfl (fun ls hl => ?_)
                              refine lv_goto (tgt := 126) hx hb dX11_bisect_213 (by decide) ?_
                              exact ih126 _ (by omega) (i + 1) sv ls rfl (by omega) (by omega) (by rw [sumZ_s h01.1, ← hs]; rw [show j = i by omega] at hv; exact hv) (lv_sub hl [0, 2, 3, 4, 5, 6, 7, 8, 9] rfl)
                            ·
                              refine lv_iload hx hb dX11_bisect_143 (lv_at hl 2 rfl) ?_
                              refine lv_aload_n hx hb dX11_bisect_145 rfl (lv_at hl 8 rfl) ?_
                              refine lv_iload hx hb dX11_bisect_146 (lv_at hl 1 rfl) ?_
                              refine z_callVp (As := [.int (zI i)]) (rest := [.int (zI sv)]) (C := RX11) (T := TX11) (N := 23) F hK hz hl (c_X11_isThere l D cI cJ cZ md bk nw nt df chk pa rc qu ct ft wn wy nx im ik T cn ln wat who rs act fse i (by omega) (by first | assumption | omega)) (cwV 1 hts gX11_bisect_X11_isThere rfl rfl rfl (by decide +kernel) ⟨Nat.le_of_ble_eq_true rfl, Nat.le_of_ble_eq_true rfl⟩) rfl 0 rfl [0] rfl rfl rfl rfl (Nat.le_of_ble_eq_true rfl) ⟨Nat.le_of_ble_eq_true rfl, Nat.le_of_ble_eq_true rfl⟩ dX11_bisect_148 ?_
                              refine z_ifb_eq (tgt := 200) hx hb dX11_bisect_151 (by decide) (fun h151 => ?_) (fun h151 => ?_)
                              ·
                                refine z_iconst hx hb dX11_bisect_200 ?_
                                refine z_iadd hx hb dX11_bisect_201 ?_
                                refine lv_istore (lv' := [(7, .int (zI (sv + 0))), (9, .int (zI j)), (8, .int (zI i)), (6, .int (zI ((cnt9 hf) - (cnt9 (zAndn T hf))))), (5, .int (zI hf)), (4, .int (zI fo)), (3, .int (zI le)), (2, .int (zI lo)), (0, .ref md), (1, .int (zI what))]) hx hb dX11_bisect_202 hl (Nat.le_of_ble_eq_true rfl) rfl (fun ls hl => ?_)
                                have hap := apS_bd (inc i) (inc j)
                                refine z_iinc (lv' := [(9, .int (zI (j + 1))), (7, .int (zI (sv + 0))), (8, .int (zI i)), (6, .int (zI ((cnt9 hf) - (cnt9 (zAndn T hf))))), (5, .int (zI hf)), (4, .int (zI fo)), (3, .int (zI le)), (2, .int (zI lo)), (0, .ref md), (1, .int (zI what))]) hx hb dX11_bisect_204 hl (k := 1) rfl (Nat.le_of_ble_eq_true rfl) rfl (fun ls hl => ?_)
                                refine lv_goto (tgt := 136) hx hb dX11_bisect_207 (by decide) ?_
                                exact ih136 _ (by omega) (j + 1) (sv + 0) ls rfl (by omega) (by omega) (by rw [sumZ_s h2.1]; have hp : biP T inc hf i j = 0 := if_neg (fun q => h151 q.1.1); rw [hp]; omega) (lv_sub hl [0, 2, 1, 3, 4, 5, 6, 7, 8, 9] rfl)
                              ·
                                refine lv_aload_n hx hb dX11_bisect_154 rfl (lv_at hl 8 rfl) ?_
                                refine lv_iload hx hb dX11_bisect_155 (lv_at hl 0 rfl) ?_
                                refine z_callVp (As := [.int (zI j)]) (rest := [.int (zI sv)]) (C := RX11) (T := TX11) (N := 23) F hK hz hl (c_X11_isThere l D cI cJ cZ md bk nw nt df chk pa rc qu ct ft wn wy nx im ik T cn ln wat who rs act fse j (by omega) (by first | assumption | omega)) (cwV 1 hts gX11_bisect_X11_isThere rfl rfl rfl (by decide +kernel) ⟨Nat.le_of_ble_eq_true rfl, Nat.le_of_ble_eq_true rfl⟩) rfl 0 rfl [0] rfl rfl rfl rfl (Nat.le_of_ble_eq_true rfl) ⟨Nat.le_of_ble_eq_true rfl, Nat.le_of_ble_eq_true rfl⟩ dX11_bisect_157 ?_
                                refine z_ifb_eq (tgt := 200) hx hb dX11_bisect_160 (by decide) (fun h160 => ?_) (fun h160 => ?_)
                                ·
                                  refine z_iconst hx hb dX11_bisect_200 ?_
                                  refine z_iadd hx hb dX11_bisect_201 ?_
                                  refine lv_istore (lv' := [(7, .int (zI (sv + 0))), (9, .int (zI j)), (8, .int (zI i)), (6, .int (zI ((cnt9 hf) - (cnt9 (zAndn T hf))))), (5, .int (zI hf)), (4, .int (zI fo)), (3, .int (zI le)), (2, .int (zI lo)), (0, .ref md), (1, .int (zI what))]) hx hb dX11_bisect_202 hl (Nat.le_of_ble_eq_true rfl) rfl (fun ls hl => ?_)
                                  have hap := apS_bd (inc i) (inc j)
                                  refine z_iinc (lv' := [(9, .int (zI (j + 1))), (7, .int (zI (sv + 0))), (8, .int (zI i)), (6, .int (zI ((cnt9 hf) - (cnt9 (zAndn T hf))))), (5, .int (zI hf)), (4, .int (zI fo)), (3, .int (zI le)), (2, .int (zI lo)), (0, .ref md), (1, .int (zI what))]) hx hb dX11_bisect_204 hl (k := 1) rfl (Nat.le_of_ble_eq_true rfl) rfl (fun ls hl => ?_)
                                  refine lv_goto (tgt := 136) hx hb dX11_bisect_207 (by decide) ?_
                                  exact ih136 _ (by omega) (j + 1) (sv + 0) ls rfl (by omega) (by omega) (by rw [sumZ_s h2.1]; have hp : biP T inc hf i j = 0 := if_neg (fun q => h160 q.1.2); rw [hp]; omega) (lv_sub hl [0, 2, 1, 3, 4, 5, 6, 7, 8, 9] rfl)
                                ·
                                  refine lv_iload hx hb dX11_bisect_163 (lv_at hl 4 rfl) ?_
                                  refine lv_iload hx hb dX11_bisect_165 (lv_at hl 1 rfl) ?_
                                  refine z_callSp (As := [.int (zI hf), .int (zI i)]) (rest := [.int (zI sv)]) F hK hz hl (c_X11_has l D cI cJ cZ hf i (by omega)) (va_cwS 2 hts gX11_bisect_X11_has rfl rfl rfl (by decide +kernel) ⟨Nat.le_of_ble_eq_true rfl, Nat.le_of_ble_eq_true rfl⟩) [] rfl rfl rfl rfl (Nat.le_of_ble_eq_true rfl) ⟨Nat.le_of_ble_eq_true rfl, Nat.le_of_ble_eq_true rfl⟩ dX11_bisect_167 ?_
                                  refine lv_iload hx hb dX11_bisect_170 (lv_at hl 4 rfl) ?_
                                  refine lv_iload hx hb dX11_bisect_172 (lv_at hl 0 rfl) ?_
                                  refine z_callSp (As := [.int (zI hf), .int (zI j)]) (rest := [.int (zI (if (hf / 2 ^ i.toNat % 2 = 1) then 1 else 0)), .int (zI sv)]) F hK hz hl (c_X11_has l D cI cJ cZ hf j (by omega)) (va_cwS 2 hts gX11_bisect_X11_has rfl rfl rfl (by decide +kernel) ⟨Nat.le_of_ble_eq_true rfl, Nat.le_of_ble_eq_true rfl⟩) [] rfl rfl rfl rfl (Nat.le_of_ble_eq_true rfl) ⟨Nat.le_of_ble_eq_true rfl, Nat.le_of_ble_eq_true rfl⟩ dX11_bisect_174 ?_
                                  refine z_icmp_ne (tgt := 200) hx hb dX11_bisect_177 (by decide) (by omega) (by omega) (fun h177 => ?_) (fun h177 => ?_)
                                  ·
                                    refine z_iconst hx hb dX11_bisect_200 ?_
                                    refine z_iadd hx hb dX11_bisect_201 ?_
                                    refine lv_istore (lv' := [(7, .int (zI (sv + 0))), (9, .int (zI j)), (8, .int (zI i)), (6, .int (zI ((cnt9 hf) - (cnt9 (zAndn T hf))))), (5, .int (zI hf)), (4, .int (zI fo)), (3, .int (zI le)), (2, .int (zI lo)), (0, .ref md), (1, .int (zI what))]) hx hb dX11_bisect_202 hl (Nat.le_of_ble_eq_true rfl) rfl (fun ls hl => ?_)
                                    have hap := apS_bd (inc i) (inc j)
                                    refine z_iinc (lv' := [(9, .int (zI (j + 1))), (7, .int (zI (sv + 0))), (8, .int (zI i)), (6, .int (zI ((cnt9 hf) - (cnt9 (zAndn T hf))))), (5, .int (zI hf)), (4, .int (zI fo)), (3, .int (zI le)), (2, .int (zI lo)), (0, .ref md), (1, .int (zI what))]) hx hb dX11_bisect_204 hl (k := 1) rfl (Nat.le_of_ble_eq_true rfl) rfl (fun ls hl => ?_)
                                    refine lv_goto (tgt := 136) hx hb dX11_bisect_207 (by decide) ?_
                                    exact ih136 _ (by omega) (j + 1) (sv + 0) ls rfl (by omega) (by omega) (by rw [sumZ_s h2.1]; have hp : biP T inc hf i j = 0 := if_neg (fun q => h177 q.2); rw [hp]; omega) (lv_sub hl [0, 2, 1, 3, 4, 5, 6, 7, 8, 9] rfl)
                                  ·
                                    refine lv_aload_n hx hb dX11_bisect_180 rfl (lv_at hl 8 rfl) ?_
                                    refine z_get (C := RX11) (T := TX11) (N := 23) (ref := "HornCityModel") hx hb hts hin_X11_bisect_X11 hown hK hz 0 rfl rfl 0 (by decide) (hts _ fl_X11_bisect_7) rfl rfl dX11_bisect_181 ?_
                                    refine lv_iload hx hb dX11_bisect_184 (lv_at hl 1 rfl) ?_
                                    refine z_iald hx hb hK hz 1 rfl (by omega) (by decide) dX11_bisect_186 ?_
                                    rw [nwS_i (k := i) (by omega)]
                                    have hv186 := (hbi).ax i (by omega)
                                    refine lv_aload_n hx hb dX11_bisect_187 rfl (lv_at hl 8 rfl) ?_
                                    refine z_get (C := RX11) (T := TX11) (N := 23) (ref := "HornCityModel") hx hb hts hin_X11_bisect_X11 hown hK hz 0 rfl rfl 0 (by decide) (hts _ fl_X11_bisect_7) rfl rfl dX11_bisect_188 ?_
                                    refine lv_iload hx hb dX11_bisect_191 (lv_at hl 0 rfl) ?_
                                    refine z_iald hx hb hK hz 1 rfl (by omega) (by decide) dX11_bisect_193 ?_
                                    rw [nwS_i (k := j) (by omega)]
                                    have hv193 := (hbi).ax j (by omega)
                                    refine z_callSp (As := [.int (zI (inc i)), .int (zI (inc j))]) (rest := [.int (zI sv)]) F hK hz hl (c_X11_apartOf l D cI cJ cZ (inc i) (inc j) (by omega)) (va_cwS 2 hts gX11_bisect_X11_apartOf rfl rfl rfl (by decide +kernel) ⟨Nat.le_of_ble_eq_true rfl, Nat.le_of_ble_eq_true rfl⟩) [] rfl rfl rfl rfl (Nat.le_of_ble_eq_true rfl) ⟨Nat.le_of_ble_eq_true rfl, Nat.le_of_ble_eq_true rfl⟩ dX11_bisect_194 ?_
                                    refine lv_goto (tgt := 201) hx hb dX11_bisect_197 (by decide) ?_
                                    refine z_iadd hx hb dX11_bisect_201 ?_
                                    refine lv_istore (lv' := [(7, .int (zI (sv + (apS (inc i) (inc j))))), (9, .int (zI j)), (8, .int (zI i)), (6, .int (zI ((cnt9 hf) - (cnt9 (zAndn T hf))))), (5, .int (zI hf)), (4, .int (zI fo)), (3, .int (zI le)), (2, .int (zI lo)), (0, .ref md), (1, .int (zI what))]) hx hb dX11_bisect_202 hl (Nat.le_of_ble_eq_true rfl) rfl (fun ls hl => ?_)
                                    have hap := apS_bd (inc i) (inc j)
                                    refine z_iinc (lv' := [(9, .int (zI (j + 1))), (7, .int (zI (sv + (apS (inc i) (inc j))))), (8, .int (zI i)), (6, .int (zI ((cnt9 hf) - (cnt9 (zAndn T hf))))), (5, .int (zI hf)), (4, .int (zI fo)), (3, .int (zI le)), (2, .int (zI lo)), (0, .ref md), (1, .int (zI what))]) hx hb dX11_bisect_204 hl (k := 1) rfl (Nat.le_of_ble_eq_true rfl) rfl (fun ls hl => ?_)
                                    refine lv_goto (tgt := 136) hx hb dX11_bisect_207 (by decide) ?_
                                    exact ih136 _ (by omega) (j + 1) (sv + (apS (inc i) (inc j))) ls rfl (by omega) (by omega) (by rw [sumZ_s h2.1]; have hp : biP T inc hf i j = apS (inc i) (inc j) := if_pos ⟨⟨h151, h160⟩, h177⟩; rw [hp]; omega) (lv_sub hl [0, 2, 1, 3, 4, 5, 6, 7, 8, 9] rfl)
                          exact L136 _ 0 su ls rfl (by omega) (by omega) (by show su = su + 0; omega) (lv_sub hl [0, 1, 2, 3, 4, 5, 6, 7, 8, 9] rfl)
                      exact L126 _ 0 0 ls rfl (by decide) (by decide) (rfl) (lv_sub hl [0, 1, 2, 3, 4, 5, 6, 7, 8] rfl)
          exact L54 _ 0 0 1000000 ls rfl (by decide) (by omega) (fun q => absurd q h38) (fun q => Or.inl ⟨rfl, rfl, rfl⟩) (lv_sub hl [0, 1, 2, 3, 4, 5] rfl)
        ·
          refine z_iconst hx hb dX11_bisect_41 ?_
          refine lv_goto (tgt := 47) hx hb dX11_bisect_42 (by decide) ?_
          refine lv_istore_n (lv' := [(3, .int (zI 0)), (2, .int (zI lo)), (0, .ref md), (1, .int (zI what))]) hx hb dX11_bisect_47 rfl hl (Nat.le_of_ble_eq_true rfl) rfl (fun ls hl => ?_)
          refine z_iconst hx hb dX11_bisect_48 ?_
          refine lv_istore (lv' := [(4, .int (zI 0)), (3, .int (zI 0)), (2, .int (zI lo)), (0, .ref md), (1, .int (zI what))]) hx hb dX11_bisect_49 hl (Nat.le_of_ble_eq_true rfl) rfl (fun ls hl => ?_)
          refine z_iconst hx hb dX11_bisect_51 ?_
          refine lv_istore (lv' := [(5, .int (zI 0)), (4, .int (zI 0)), (3, .int (zI 0)), (2, .int (zI lo)), (0, .ref md), (1, .int (zI what))]) hx hb dX11_bisect_52 hl (Nat.le_of_ble_eq_true rfl) rfl (fun ls hl => ?_)
          have L54 : ∀ (n : Nat) (hf fo le : Int) (ls : Array Slot), ((512 - hf).toNat = n) → (0 ≤ hf ∧ hf ≤ 512) → (0 ≤ le ∧ le ≤ 1000000) → (T = 0 → le = 0 ∧ fo = 0) → (¬ T = 0 → biI T inc hf fo le) → lv_has ls 10 [(5, .int (zI hf)), (4, .int (zI fo)), (3, .int (zI le)), (2, .int (zI lo)), (0, .ref md), (1, .int (zI what))] → W p l e (zRm 2) s m args below meth c H [] 0 0 Q (F0 m 54 ls []) := by
            intro n
            refine Nat.strongRecOn n ?_
            intro n ih54 hf fo le ls hn54 h0 hle hz54 hbi1 hl
            refine lv_iload hx hb dX11_bisect_54 (lv_at hl 0 rfl) ?_
            refine z_sipush hx hb dX11_bisect_56 (by decide) ?_
            refine z_icmp_ge (tgt := 250) hx hb dX11_bisect_59 (by decide) (by omega) (by decide) (fun h59 => ?_) (fun h59 => ?_)
            ·
              refine lv_iload_n hx hb dX11_bisect_250 rfl (lv_at hl 5 rfl) ?_
              refine z_if_ne (tgt := 258) hx hb dX11_bisect_251 (by decide) (by omega) (fun h251 => ?_) (fun h251 => ?_)
              ·
                refine lv_iload hx hb dX11_bisect_258 (lv_at hl 1 rfl) ?_
                exact hret dX11_bisect_260 (congrArg (fun z => some (Value.int (zI z))) (show (fo : Int) = (biR T inc what) by exact if hT0 : T = 0 then (by have e9 := hz54 hT0; rw [e9.2, hT0]; exact bi_end0 h6) else (by have e9 := bi_end (what := what) hT hT0 (by have h8 := hbi1 hT0; rwa [show hf = 512 by omega] at h8) h6; rw [if_neg h251] at e9; exact e9)))
              ·
                refine lv_iload_n hx hb dX11_bisect_254 rfl (lv_at hl 2 rfl) ?_
                refine lv_goto (tgt := 260) hx hb dX11_bisect_255 (by decide) ?_
                exact hret dX11_bisect_260 (congrArg (fun z => some (Value.int (zI z))) (show (le : Int) = (biR T inc what) by exact if hT0 : T = 0 then (by have e9 := hz54 hT0; rw [e9.1, hT0]; exact bi_end0 h6) else (by have e9 := bi_end (what := what) hT hT0 (by have h8 := hbi1 hT0; rwa [show hf = 512 by omega] at h8) h6; rw [if_pos h251] at e9; exact e9)))
            ·
              refine lv_aload_n hx hb dX11_bisect_62 rfl (lv_at hl 4 rfl) ?_
              refine z_get (C := RX11) (T := TX11) (N := 23) (ref := "HornCityModel") hx hb hts hin_X11_bisect_X11 hown hK hz 0 rfl rfl 3 (by decide) (hts _ fl_X11_bisect_65) rfl rfl dX11_bisect_63 ?_
              refine z_if_eq (tgt := 250) hx hb dX11_bisect_66 (by decide) (by omega) (fun h66 => ?_) (fun h66 => ?_)
              ·
                refine lv_iload_n hx hb dX11_bisect_250 rfl (lv_at hl 5 rfl) ?_
                refine z_if_ne (tgt := 258) hx hb dX11_bisect_251 (by decide) (by omega) (fun h251 => ?_) (fun h251 => ?_)
                ·
                  refine lv_iload hx hb dX11_bisect_258 (lv_at hl 1 rfl) ?_
                  exact hret dX11_bisect_260 (congrArg (fun z => some (Value.int (zI z))) (show (fo : Int) = (biR T inc what) by have e9 := hz54 h66; rw [e9.2, h66]; exact bi_end0 h6))
                ·
                  refine lv_iload_n hx hb dX11_bisect_254 rfl (lv_at hl 2 rfl) ?_
                  refine lv_goto (tgt := 260) hx hb dX11_bisect_255 (by decide) ?_
                  exact hret dX11_bisect_260 (congrArg (fun z => some (Value.int (zI z))) (show (le : Int) = (biR T inc what) by have e9 := hz54 h66; rw [e9.1, h66]; exact bi_end0 h6))
              ·
                refine lv_iload hx hb dX11_bisect_69 (lv_at hl 0 rfl) ?_
                have hhf : 0 ≤ hf ∧ hf < 512 := by omega
                have hlw : inS T lo = true ∧ ∀ j, 0 ≤ j → j < lo → inS T j = false := hlow h66
                refine z_callSp (As := [.int (zI hf)]) (rest := []) F hK hz hl (c_X11_bits l D cI cJ cZ hf (by omega)) (va_cwS 1 hts gX11_bisect_X11_bits rfl rfl rfl (by decide +kernel) ⟨Nat.le_of_ble_eq_true rfl, Nat.le_of_ble_eq_true rfl⟩) [] rfl rfl rfl rfl (Nat.le_of_ble_eq_true rfl) ⟨Nat.le_of_ble_eq_true rfl, Nat.le_of_ble_eq_true rfl⟩ dX11_bisect_71 ?_
                refine lv_aload_n hx hb dX11_bisect_74 rfl (lv_at hl 4 rfl) ?_
                refine z_get (C := RX11) (T := TX11) (N := 23) (ref := "HornCityModel") hx hb hts hin_X11_bisect_X11 hown hK hz 0 rfl rfl 3 (by decide) (hts _ fl_X11_bisect_65) rfl rfl dX11_bisect_75 ?_
                refine lv_iload hx hb dX11_bisect_78 (lv_at hl 0 rfl) ?_
                refine z_iconst hx hb dX11_bisect_80 ?_
                refine z_inot hx hb dX11_bisect_81 ?_
                refine z_iandn hx hb dX11_bisect_82 (by omega) (by omega) ?_
                have hz2 := zAndn_bd (b := hf) hT
                refine z_callSp (As := [.int (zI (zAndn T hf))]) (rest := [.int (zI (cnt9 hf))]) F hK hz hl (c_X11_bits l D cI cJ cZ (zAndn T hf) (by omega)) (va_cwS 1 hts gX11_bisect_X11_bits rfl rfl rfl (by decide +kernel) ⟨Nat.le_of_ble_eq_true rfl, Nat.le_of_ble_eq_true rfl⟩) [] rfl rfl rfl rfl (Nat.le_of_ble_eq_true rfl) ⟨Nat.le_of_ble_eq_true rfl, Nat.le_of_ble_eq_true rfl⟩ dX11_bisect_83 ?_
                have hcb1 := cnt9_bd hf
                have hcb2 := cnt9_bd (zAndn T hf)
                refine z_isub hx hb dX11_bisect_86 ?_
                refine lv_istore (lv' := [(6, .int (zI ((cnt9 hf) - (cnt9 (zAndn T hf))))), (5, .int (zI hf)), (4, .int (zI fo)), (3, .int (zI le)), (2, .int (zI lo)), (0, .ref md), (1, .int (zI what))]) hx hb dX11_bisect_87 hl (Nat.le_of_ble_eq_true rfl) rfl (fun ls hl => ?_)
                refine lv_iload hx hb dX11_bisect_89 (lv_at hl 1 rfl) ?_
                refine lv_aload_n hx hb dX11_bisect_91 rfl (lv_at hl 5 rfl) ?_
                refine z_get (C := RX11) (T := TX11) (N := 23) (ref := "HornCityModel") hx hb hts hin_X11_bisect_X11 hown hK hz 0 rfl rfl 3 (by decide) (hts _ fl_X11_bisect_65) rfl rfl dX11_bisect_92 ?_
                refine z_iconst hx hb dX11_bisect_95 ?_
                refine z_inot hx hb dX11_bisect_96 ?_
                refine z_iandn hx hb dX11_bisect_97 (by omega) (by omega) ?_
                have hz3 := zAndn_bd (b := T) hhf
                refine z_if_ne (tgt := 244) hx hb dX11_bisect_98 (by decide) (by omega) (fun h98 => ?_) (fun h98 => ?_)
                ·
                  refine z_iinc (lv' := [(5, .int (zI (hf + 1))), (6, .int (zI ((cnt9 hf) - (cnt9 (zAndn T hf))))), (4, .int (zI fo)), (3, .int (zI le)), (2, .int (zI lo)), (0, .ref md), (1, .int (zI what))]) hx hb dX11_bisect_244 hl (k := 1) rfl (Nat.le_of_ble_eq_true rfl) rfl (fun ls hl => ?_)
                  refine lv_goto (tgt := 54) hx hb dX11_bisect_247 (by decide) ?_
                  exact ih54 _ (by omega) (hf + 1) fo le ls rfl (by omega) (by omega) (fun q => absurd q h66) (fun _ => bi_no (hbi1 h66) h0.1 (Bool.eq_false_iff.mpr (fun q => by have h9 := (hf_is hT ⟨h0.1, by omega⟩ hlw.1 hlw.2).mp q; exact h98 h9.1))) (lv_sub hl [0, 2, 3, 4, 5, 6] rfl)
                ·
                  refine lv_iload hx hb dX11_bisect_101 (lv_at hl 1 rfl) ?_
                  refine lv_iload_n hx hb dX11_bisect_103 rfl (lv_at hl 4 rfl) ?_
                  refine z_callSp (As := [.int (zI hf), .int (zI lo)]) (rest := []) F hK hz hl (c_X11_has l D cI cJ cZ hf lo (by omega)) (va_cwS 2 hts gX11_bisect_X11_has rfl rfl rfl (by decide +kernel) ⟨Nat.le_of_ble_eq_true rfl, Nat.le_of_ble_eq_true rfl⟩) [] rfl rfl rfl rfl (Nat.le_of_ble_eq_true rfl) ⟨Nat.le_of_ble_eq_true rfl, Nat.le_of_ble_eq_true rfl⟩ dX11_bisect_104 ?_
                  refine z_ifb_eq (tgt := 244) hx hb dX11_bisect_107 (by decide) (fun h107 => ?_) (fun h107 => ?_)
                  ·
                    refine z_iinc (lv' := [(5, .int (zI (hf + 1))), (6, .int (zI ((cnt9 hf) - (cnt9 (zAndn T hf))))), (4, .int (zI fo)), (3, .int (zI le)), (2, .int (zI lo)), (0, .ref md), (1, .int (zI what))]) hx hb dX11_bisect_244 hl (k := 1) rfl (Nat.le_of_ble_eq_true rfl) rfl (fun ls hl => ?_)
                    refine lv_goto (tgt := 54) hx hb dX11_bisect_247 (by decide) ?_
                    exact ih54 _ (by omega) (hf + 1) fo le ls rfl (by omega) (by omega) (fun q => absurd q h66) (fun _ => bi_no (hbi1 h66) h0.1 (Bool.eq_false_iff.mpr (fun q => by have h9 := (hf_is hT ⟨h0.1, by omega⟩ hlw.1 hlw.2).mp q; exact h107 h9.2.1))) (lv_sub hl [0, 2, 3, 4, 5, 6] rfl)
                  ·
                    refine lv_iload hx hb dX11_bisect_110 (lv_at hl 0 rfl) ?_
                    refine z_iconst hx hb dX11_bisect_112 ?_
                    refine z_iconst hx hb dX11_bisect_113 ?_
                    refine z_callSp (As := [.int (zI ((cnt9 hf) - (cnt9 (zAndn T hf)))), .int (zI (-1)), .int (zI 1)]) (rest := []) F hK hz hl (c_X11_in l D cI cJ cZ ((cnt9 hf) - (cnt9 (zAndn T hf))) (-1) 1 (by omega)) (va_cwS 3 hts gX11_bisect_X11_in rfl rfl rfl (by decide +kernel) ⟨Nat.le_of_ble_eq_true rfl, Nat.le_of_ble_eq_true rfl⟩) [] rfl rfl rfl rfl (Nat.le_of_ble_eq_true rfl) ⟨Nat.le_of_ble_eq_true rfl, Nat.le_of_ble_eq_true rfl⟩ dX11_bisect_114 ?_
                    refine z_ifb_eq (tgt := 244) hx hb dX11_bisect_117 (by decide) (fun h117 => ?_) (fun h117 => ?_)
                    ·
                      refine z_iinc (lv' := [(5, .int (zI (hf + 1))), (6, .int (zI ((cnt9 hf) - (cnt9 (zAndn T hf))))), (4, .int (zI fo)), (3, .int (zI le)), (2, .int (zI lo)), (0, .ref md), (1, .int (zI what))]) hx hb dX11_bisect_244 hl (k := 1) rfl (Nat.le_of_ble_eq_true rfl) rfl (fun ls hl => ?_)
                      refine lv_goto (tgt := 54) hx hb dX11_bisect_247 (by decide) ?_
                      exact ih54 _ (by omega) (hf + 1) fo le ls rfl (by omega) (by omega) (fun q => absurd q h66) (fun _ => bi_no (hbi1 h66) h0.1 (Bool.eq_false_iff.mpr (fun q => by have h9 := (hf_is hT ⟨h0.1, by omega⟩ hlw.1 hlw.2).mp q; omega))) (lv_sub hl [0, 2, 3, 4, 5, 6] rfl)
                    ·
                      refine z_iconst hx hb dX11_bisect_120 ?_
                      refine lv_istore (lv' := [(7, .int (zI 0)), (6, .int (zI ((cnt9 hf) - (cnt9 (zAndn T hf))))), (5, .int (zI hf)), (4, .int (zI fo)), (3, .int (zI le)), (2, .int (zI lo)), (0, .ref md), (1, .int (zI what))]) hx hb dX11_bisect_121 hl (Nat.le_of_ble_eq_true rfl) rfl (fun ls hl => ?_)
                      refine z_iconst hx hb dX11_bisect_123 ?_
                      refine lv_istore (lv' := [(8, .int (zI 0)), (7, .int (zI 0)), (6, .int (zI ((cnt9 hf) - (cnt9 (zAndn T hf))))), (5, .int (zI hf)), (4, .int (zI fo)), (3, .int (zI le)), (2, .int (zI lo)), (0, .ref md), (1, .int (zI what))]) hx hb dX11_bisect_124 hl (Nat.le_of_ble_eq_true rfl) rfl (fun ls hl => ?_)
                      have L126 : ∀ (n : Nat) (i su : Int) (ls : Array Slot), ((9 - i).toNat = n) → (0 ≤ i ∧ i ≤ 9) → (0 ≤ su ∧ su ≤ 810 * i) → (su = sumZ (fun i => sumZ (fun j => biP T inc hf i j) i.toNat) i.toNat) → lv_has ls 10 [(8, .int (zI i)), (7, .int (zI su)), (6, .int (zI ((cnt9 hf) - (cnt9 (zAndn T hf))))), (5, .int (zI hf)), (4, .int (zI fo)), (3, .int (zI le)), (2, .int (zI lo)), (0, .ref md), (1, .int (zI what))] → W p l e (zRm 2) s m args below meth c H [] 0 0 Q (F0 m 126 ls []) := by
                        intro n
                        refine Nat.strongRecOn n ?_
                        intro n ih126 i su ls hn126 h01 hs0 hs hl
                        refine lv_iload hx hb dX11_bisect_126 (lv_at hl 0 rfl) ?_
                        refine z_bipush hx hb dX11_bisect_128 (by decide) ?_
                        refine z_icmp_ge (tgt := 216) hx hb dX11_bisect_130 (by decide) (by omega) (by decide) (fun h130 => ?_) (fun h130 => ?_)
                        ·
                          have hf1 : 1 ≤ hf := by (have h0z : ¬ hf = 0 := fun q => by (rw [q, Int.zero_ediv] at h107; omega)); omega
                          have hsu : su = ahS T inc hf := by rw [hs, show i = 9 by omega]; exact bi_ah hT hhf h98
                          have hyes : hfS T hf = true := (hf_is hT hhf hlw.1 hlw.2).mpr ⟨h98, h107, by omega⟩
                          refine lv_iload hx hb dX11_bisect_216 (lv_at hl 1 rfl) ?_
                          refine lv_iload_n hx hb dX11_bisect_218 rfl (lv_at hl 5 rfl) ?_
                          refine z_icmp_ge (tgt := 227) hx hb dX11_bisect_219 (by decide) (by omega) (by omega) (fun h219 => ?_) (fun h219 => ?_)
                          ·
                            refine lv_iload hx hb dX11_bisect_227 (lv_at hl 4 rfl) ?_
                            refine lv_istore (lv' := [(4, .int (zI fo)), (8, .int (zI i)), (7, .int (zI su)), (6, .int (zI ((cnt9 hf) - (cnt9 (zAndn T hf))))), (5, .int (zI hf)), (3, .int (zI le)), (2, .int (zI lo)), (0, .ref md), (1, .int (zI what))]) hx hb dX11_bisect_229 hl (Nat.le_of_ble_eq_true rfl) rfl (fun ls hl => ?_)
                            refine lv_iload hx hb dX11_bisect_231 (lv_at hl 2 rfl) ?_
                            refine lv_iload_n hx hb dX11_bisect_233 rfl (lv_at hl 5 rfl) ?_
                            refine z_icmp_ge (tgt := 242) hx hb dX11_bisect_234 (by decide) (by omega) (by omega) (fun h234 => ?_) (fun h234 => ?_)
                            ·
                              refine lv_iload_n hx hb dX11_bisect_242 rfl (lv_at hl 5 rfl) ?_
                              refine lv_istore_n (lv' := [(3, .int (zI le)), (4, .int (zI fo)), (8, .int (zI i)), (7, .int (zI su)), (6, .int (zI ((cnt9 hf) - (cnt9 (zAndn T hf))))), (5, .int (zI hf)), (2, .int (zI lo)), (0, .ref md), (1, .int (zI what))]) hx hb dX11_bisect_243 rfl hl (Nat.le_of_ble_eq_true rfl) rfl (fun ls hl => ?_)
                              refine z_iinc (lv' := [(5, .int (zI (hf + 1))), (3, .int (zI le)), (4, .int (zI fo)), (8, .int (zI i)), (7, .int (zI su)), (6, .int (zI ((cnt9 hf) - (cnt9 (zAndn T hf))))), (2, .int (zI lo)), (0, .ref md), (1, .int (zI what))]) hx hb dX11_bisect_244 hl (k := 5) rfl (Nat.le_of_ble_eq_true rfl) rfl (fun ls hl => ?_)
                              refine lv_goto (tgt := 54) hx hb dX11_bisect_247 (by decide) ?_
                              exact ih54 _ (by omega) (hf + 1) fo le ls rfl (by omega) (by omega) (fun q => absurd q h66) (fun _ => by have h9 := bi_yes (hbi1 h66) (by omega) hyes; rw [← hsu, if_neg (by omega), if_neg (by omega)] at h9; exact h9) (lv_sub hl [0, 2, 1, 6, 7, 8] rfl)
                            ·
                              exfalso
                              first | omega | (revert h234; simp_all; done) | simp_all
                          ·
                            refine lv_iload hx hb dX11_bisect_222 (lv_at hl 3 rfl) ?_
                            refine lv_goto (tgt := 229) hx hb dX11_bisect_224 (by decide) ?_
                            refine lv_istore (lv' := [(4, .int (zI hf)), (8, .int (zI i)), (7, .int (zI su)), (6, .int (zI ((cnt9 hf) - (cnt9 (zAndn T hf))))), (5, .int (zI hf)), (3, .int (zI le)), (2, .int (zI lo)), (0, .ref md), (1, .int (zI what))]) hx hb dX11_bisect_229 hl (Nat.le_of_ble_eq_true rfl) rfl (fun ls hl => ?_)
                            refine lv_iload hx hb dX11_bisect_231 (lv_at hl 2 rfl) ?_
                            refine lv_iload_n hx hb dX11_bisect_233 rfl (lv_at hl 5 rfl) ?_
                            refine z_icmp_ge (tgt := 242) hx hb dX11_bisect_234 (by decide) (by omega) (by omega) (fun h234 => ?_) (fun h234 => ?_)
                            ·
                              exfalso
                              first | omega | (revert h234; simp_all; done) | simp_all
                            ·
                              refine lv_iload hx hb dX11_bisect_237 (lv_at hl 2 rfl) ?_
                              refine lv_goto (tgt := 243) hx hb dX11_bisect_239 (by decide) ?_
                              refine lv_istore_n (lv' := [(3, .int (zI su)), (4, .int (zI hf)), (8, .int (zI i)), (7, .int (zI su)), (6, .int (zI ((cnt9 hf) - (cnt9 (zAndn T hf))))), (5, .int (zI hf)), (2, .int (zI lo)), (0, .ref md), (1, .int (zI what))]) hx hb dX11_bisect_243 rfl hl (Nat.le_of_ble_eq_true rfl) rfl (fun ls hl => ?_)
                              refine z_iinc (lv' := [(5, .int (zI (hf + 1))), (3, .int (zI su)), (4, .int (zI hf)), (8, .int (zI i)), (7, .int (zI su)), (6, .int (zI ((cnt9 hf) - (cnt9 (zAndn T hf))))), (2, .int (zI lo)), (0, .ref md), (1, .int (zI what))]) hx hb dX11_bisect_244 hl (k := 5) rfl (Nat.le_of_ble_eq_true rfl) rfl (fun ls hl => ?_)
                              refine lv_goto (tgt := 54) hx hb dX11_bisect_247 (by decide) ?_
                              exact ih54 _ (by omega) (hf + 1) hf su ls rfl (by omega) (by omega) (fun q => absurd q h66) (fun _ => by have h9 := bi_yes (hbi1 h66) (by omega) hyes; rw [← hsu, if_pos (by omega), if_pos (by omega)] at h9; exact h9) (lv_sub hl [0, 2, 1, 6, 7, 8] rfl)
                        ·
                          refine z_iconst hx hb dX11_bisect_133 ?_
                          refine lv_istore (lv' := [(9, .int (zI 0)), (8, .int (zI i)), (7, .int (zI su)), (6, .int (zI ((cnt9 hf) - (cnt9 (zAndn T hf))))), (5, .int (zI hf)), (4, .int (zI fo)), (3, .int (zI le)), (2, .int (zI lo)), (0, .ref md), (1, .int (zI what))]) hx hb dX11_bisect_134 hl (Nat.le_of_ble_eq_true rfl) rfl (fun ls hl => ?_)
                          have L136 : ∀ (n : Nat) (j sv : Int) (ls : Array Slot), ((i - j).toNat = n) → (0 ≤ j ∧ j ≤ i) → (su ≤ sv ∧ sv ≤ su + 90 * j) → (sv = su + sumZ (fun j => biP T inc hf i j) j.toNat) → lv_has ls 10 [(9, .int (zI j)), (8, .int (zI i)), (7, .int (zI sv)), (6, .int (zI ((cnt9 hf) - (cnt9 (zAndn T hf))))), (5, .int (zI hf)), (4, .int (zI fo)), (3, .int (zI le)), (2, .int (zI lo)), (0, .ref md), (1, .int (zI what))] → W p l e (zRm 2) s m args below meth c H [] 0 0 Q (F0 m 136 ls []) := by
                            intro n
                            refine Nat.strongRecOn n ?_
                            intro n ih136 j sv ls hn136 h2 hv0 hv hl
                            refine lv_iload hx hb dX11_bisect_136 (lv_at hl 0 rfl) ?_
                            refine lv_iload hx hb dX11_bisect_138 (lv_at hl 1 rfl) ?_
                            refine z_icmp_ge (tgt := 210) hx hb dX11_bisect_140 (by decide) (by omega) (by omega) (fun h140 => ?_) (fun h140 => ?_)
                            ·
                              refine z_iinc (lv' := [(8, .int (zI (i + 1))), (9, .int (zI j)), (7, .int (zI sv)), (6, .int (zI ((cnt9 hf) - (cnt9 (zAndn T hf))))), (5, .int (zI hf)), (4, .int (zI fo)), (3, .int (zI le)), (2, .int (zI lo)), (0, .ref md), (1, .int (zI what))]) hx hb dX11_bisect_210 hl (k := 1) rfl (Nat.le_of_ble_eq_true rfl) rfl (fun ls hl => ?_)
                              refine lv_goto (tgt := 126) hx hb dX11_bisect_213 (by decide) ?_
                              exact ih126 _ (by omega) (i + 1) sv ls rfl (by omega) (by omega) (by rw [sumZ_s h01.1, ← hs]; rw [show j = i by omega] at hv; exact hv) (lv_sub hl [0, 2, 3, 4, 5, 6, 7, 8, 9] rfl)
                            ·
                              refine lv_iload hx hb dX11_bisect_143 (lv_at hl 2 rfl) ?_
                              refine lv_aload_n hx hb dX11_bisect_145 rfl (lv_at hl 8 rfl) ?_
                              refine lv_iload hx hb dX11_bisect_146 (lv_at hl 1 rfl) ?_
                              refine z_callVp (As := [.int (zI i)]) (rest := [.int (zI sv)]) (C := RX11) (T := TX11) (N := 23) F hK hz hl (c_X11_isThere l D cI cJ cZ md bk nw nt df chk pa rc qu ct ft wn wy nx im ik T cn ln wat who rs act fse i (by omega) (by first | assumption | omega)) (cwV 1 hts gX11_bisect_X11_isThere rfl rfl rfl (by decide +kernel) ⟨Nat.le_of_ble_eq_true rfl, Nat.le_of_ble_eq_true rfl⟩) rfl 0 rfl [0] rfl rfl rfl rfl (Nat.le_of_ble_eq_true rfl) ⟨Nat.le_of_ble_eq_true rfl, Nat.le_of_ble_eq_true rfl⟩ dX11_bisect_148 ?_
                              refine z_ifb_eq (tgt := 200) hx hb dX11_bisect_151 (by decide) (fun h151 => ?_) (fun h151 => ?_)
                              ·
                                refine z_iconst hx hb dX11_bisect_200 ?_
                                refine z_iadd hx hb dX11_bisect_201 ?_
                                refine lv_istore (lv' := [(7, .int (zI (sv + 0))), (9, .int (zI j)), (8, .int (zI i)), (6, .int (zI ((cnt9 hf) - (cnt9 (zAndn T hf))))), (5, .int (zI hf)), (4, .int (zI fo)), (3, .int (zI le)), (2, .int (zI lo)), (0, .ref md), (1, .int (zI what))]) hx hb dX11_bisect_202 hl (Nat.le_of_ble_eq_true rfl) rfl (fun ls hl => ?_)
                                have hap := apS_bd (inc i) (inc j)
                                refine z_iinc (lv' := [(9, .int (zI (j + 1))), (7, .int (zI (sv + 0))), (8, .int (zI i)), (6, .int (zI ((cnt9 hf) - (cnt9 (zAndn T hf))))), (5, .int (zI hf)), (4, .int (zI fo)), (3, .int (zI le)), (2, .int (zI lo)), (0, .ref md), (1, .int (zI what))]) hx hb dX11_bisect_204 hl (k := 1) rfl (Nat.le_of_ble_eq_true rfl) rfl (fun ls hl => ?_)
                                refine lv_goto (tgt := 136) hx hb dX11_bisect_207 (by decide) ?_
                                exact ih136 _ (by omega) (j + 1) (sv + 0) ls rfl (by omega) (by omega) (by rw [sumZ_s h2.1]; have hp : biP T inc hf i j = 0 := if_neg (fun q => h151 q.1.1); rw [hp]; omega) (lv_sub hl [0, 2, 1, 3, 4, 5, 6, 7, 8, 9] rfl)
                              ·
                                refine lv_aload_n hx hb dX11_bisect_154 rfl (lv_at hl 8 rfl) ?_
                                refine lv_iload hx hb dX11_bisect_155 (lv_at hl 0 rfl) ?_
                                refine z_callVp (As := [.int (zI j)]) (rest := [.int (zI sv)]) (C := RX11) (T := TX11) (N := 23) F hK hz hl (c_X11_isThere l D cI cJ cZ md bk nw nt df chk pa rc qu ct ft wn wy nx im ik T cn ln wat who rs act fse j (by omega) (by first | assumption | omega)) (cwV 1 hts gX11_bisect_X11_isThere rfl rfl rfl (by decide +kernel) ⟨Nat.le_of_ble_eq_true rfl, Nat.le_of_ble_eq_true rfl⟩) rfl 0 rfl [0] rfl rfl rfl rfl (Nat.le_of_ble_eq_true rfl) ⟨Nat.le_of_ble_eq_true rfl, Nat.le_of_ble_eq_true rfl⟩ dX11_bisect_157 ?_
                                refine z_ifb_eq (tgt := 200) hx hb dX11_bisect_160 (by decide) (fun h160 => ?_) (fun h160 => ?_)
                                ·
                                  refine z_iconst hx hb dX11_bisect_200 ?_
                                  refine z_iadd hx hb dX11_bisect_201 ?_
                                  refine lv_istore (lv' := [(7, .int (zI (sv + 0))), (9, .int (zI j)), (8, .int (zI i)), (6, .int (zI ((cnt9 hf) - (cnt9 (zAndn T hf))))), (5, .int (zI hf)), (4, .int (zI fo)), (3, .int (zI le)), (2, .int (zI lo)), (0, .ref md), (1, .int (zI what))]) hx hb dX11_bisect_202 hl (Nat.le_of_ble_eq_true rfl) rfl (fun ls hl => ?_)
                                  have hap := apS_bd (inc i) (inc j)
                                  refine z_iinc (lv' := [(9, .int (zI (j + 1))), (7, .int (zI (sv + 0))), (8, .int (zI i)), (6, .int (zI ((cnt9 hf) - (cnt9 (zAndn T hf))))), (5, .int (zI hf)), (4, .int (zI fo)), (3, .int (zI le)), (2, .int (zI lo)), (0, .ref md), (1, .int (zI what))]) hx hb dX11_bisect_204 hl (k := 1) rfl (Nat.le_of_ble_eq_true rfl) rfl (fun ls hl => ?_)
                                  refine lv_goto (tgt := 136) hx hb dX11_bisect_207 (by decide) ?_
                                  exact ih136 _ (by omega) (j + 1) (sv + 0) ls rfl (by omega) (by omega) (by rw [sumZ_s h2.1]; have hp : biP T inc hf i j = 0 := if_neg (fun q => h160 q.1.2); rw [hp]; omega) (lv_sub hl [0, 2, 1, 3, 4, 5, 6, 7, 8, 9] rfl)
                                ·
                                  refine lv_iload hx hb dX11_bisect_163 (lv_at hl 4 rfl) ?_
                                  refine lv_iload hx hb dX11_bisect_165 (lv_at hl 1 rfl) ?_
                                  refine z_callSp (As := [.int (zI hf), .int (zI i)]) (rest := [.int (zI sv)]) F hK hz hl (c_X11_has l D cI cJ cZ hf i (by omega)) (va_cwS 2 hts gX11_bisect_X11_has rfl rfl rfl (by decide +kernel) ⟨Nat.le_of_ble_eq_true rfl, Nat.le_of_ble_eq_true rfl⟩) [] rfl rfl rfl rfl (Nat.le_of_ble_eq_true rfl) ⟨Nat.le_of_ble_eq_true rfl, Nat.le_of_ble_eq_true rfl⟩ dX11_bisect_167 ?_
                                  refine lv_iload hx hb dX11_bisect_170 (lv_at hl 4 rfl) ?_
                                  refine lv_iload hx hb dX11_bisect_172 (lv_at hl 0 rfl) ?_
                                  refine z_callSp (As := [.int (zI hf), .int (zI j)]) (rest := [.int (zI (if (hf / 2 ^ i.toNat % 2 = 1) then 1 else 0)), .int (zI sv)]) F hK hz hl (c_X11_has l D cI cJ cZ hf j (by omega)) (va_cwS 2 hts gX11_bisect_X11_has rfl rfl rfl (by decide +kernel) ⟨Nat.le_of_ble_eq_true rfl, Nat.le_of_ble_eq_true rfl⟩) [] rfl rfl rfl rfl (Nat.le_of_ble_eq_true rfl) ⟨Nat.le_of_ble_eq_true rfl, Nat.le_of_ble_eq_true rfl⟩ dX11_bisect_174 ?_
                                  refine z_icmp_ne (tgt := 200) hx hb dX11_bisect_177 (by decide) (by omega) (by omega) (fun h177 => ?_) (fun h177 => ?_)
                                  ·
                                    refine z_iconst hx hb dX11_bisect_200 ?_
                                    refine z_iadd hx hb dX11_bisect_201 ?_
                                    refine lv_istore (lv' := [(7, .int (zI (sv + 0))), (9, .int (zI j)), (8, .int (zI i)), (6, .int (zI ((cnt9 hf) - (cnt9 (zAndn T hf))))), (5, .int (zI hf)), (4, .int (zI fo)), (3, .int (zI le)), (2, .int (zI lo)), (0, .ref md), (1, .int (zI what))]) hx hb dX11_bisect_202 hl (Nat.le_of_ble_eq_true rfl) rfl (fun ls hl => ?_)
                                    have hap := apS_bd (inc i) (inc j)
                                    refine z_iinc (lv' := [(9, .int (zI (j + 1))), (7, .int (zI (sv + 0))), (8, .int (zI i)), (6, .int (zI ((cnt9 hf) - (cnt9 (zAndn T hf))))), (5, .int (zI hf)), (4, .int (zI fo)), (3, .int (zI le)), (2, .int (zI lo)), (0, .ref md), (1, .int (zI what))]) hx hb dX11_bisect_204 hl (k := 1) rfl (Nat.le_of_ble_eq_true rfl) rfl (fun ls hl => ?_)
                                    refine lv_goto (tgt := 136) hx hb dX11_bisect_207 (by decide) ?_
                                    exact ih136 _ (by omega) (j + 1) (sv + 0) ls rfl (by omega) (by omega) (by rw [sumZ_s h2.1]; have hp : biP T inc hf i j = 0 := if_neg (fun q => h177 q.2); rw [hp]; omega) (lv_sub hl [0, 2, 1, 3, 4, 5, 6, 7, 8, 9] rfl)
                                  ·
                                    refine lv_aload_n hx hb dX11_bisect_180 rfl (lv_at hl 8 rfl) ?_
                                    refine z_get (C := RX11) (T := TX11) (N := 23) (ref := "HornCityModel") hx hb hts hin_X11_bisect_X11 hown hK hz 0 rfl rfl 0 (by decide) (hts _ fl_X11_bisect_7) rfl rfl dX11_bisect_181 ?_
                                    refine lv_iload hx hb dX11_bisect_184 (lv_at hl 1 rfl) ?_
                                    refine z_iald hx hb hK hz 1 rfl (by omega) (by decide) dX11_bisect_186 ?_
                                    rw [nwS_i (k := i) (by omega)]
                                    have hv186 := (hbi).ax i (by omega)
                                    refine lv_aload_n hx hb dX11_bisect_187 rfl (lv_at hl 8 rfl) ?_
                                    refine z_get (C := RX11) (T := TX11) (N := 23) (ref := "HornCityModel") hx hb hts hin_X11_bisect_X11 hown hK hz 0 rfl rfl 0 (by decide) (hts _ fl_X11_bisect_7) rfl rfl dX11_bisect_188 ?_
                                    refine lv_iload hx hb dX11_bisect_191 (lv_at hl 0 rfl) ?_
                                    refine z_iald hx hb hK hz 1 rfl (by omega) (by decide) dX11_bisect_193 ?_
                                    rw [nwS_i (k := j) (by omega)]
                                    have hv193 := (hbi).ax j (by omega)
                                    refine z_callSp (As := [.int (zI (inc i)), .int (zI (inc j))]) (rest := [.int (zI sv)]) F hK hz hl (c_X11_apartOf l D cI cJ cZ (inc i) (inc j) (by omega)) (va_cwS 2 hts gX11_bisect_X11_apartOf rfl rfl rfl (by decide +kernel) ⟨Nat.le_of_ble_eq_true rfl, Nat.le_of_ble_eq_true rfl⟩) [] rfl rfl rfl rfl (Nat.le_of_ble_eq_true rfl) ⟨Nat.le_of_ble_eq_true rfl, Nat.le_of_ble_eq_true rfl⟩ dX11_bisect_194 ?_
                                    refine lv_goto (tgt := 201) hx hb dX11_bisect_197 (by decide) ?_
                                    refine z_iadd hx hb dX11_bisect_201 ?_
                                    refine lv_istore (lv' := [(7, .int (zI (sv + (apS (inc i) (inc j))))), (9, .int (zI j)), (8, .int (zI i)), (6, .int (zI ((cnt9 hf) - (cnt9 (zAndn T hf))))), (5, .int (zI hf)), (4, .int (zI fo)), (3, .int (zI le)), (2, .int (zI lo)), (0, .ref md), (1, .int (zI what))]) hx hb dX11_bisect_202 hl (Nat.le_of_ble_eq_true rfl) rfl (fun ls hl => ?_)
                                    have hap := apS_bd (inc i) (inc j)
                                    refine z_iinc (lv' := [(9, .int (zI (j + 1))), (7, .int (zI (sv + (apS (inc i) (inc j))))), (8, .int (zI i)), (6, .int (zI ((cnt9 hf) - (cnt9 (zAndn T hf))))), (5, .int (zI hf)), (4, .int (zI fo)), (3, .int (zI le)), (2, .int (zI lo)), (0, .ref md), (1, .int (zI what))]) hx hb dX11_bisect_204 hl (k := 1) rfl (Nat.le_of_ble_eq_true rfl) rfl (fun ls hl => ?_)
                                    refine lv_goto (tgt := 136) hx hb dX11_bisect_207 (by decide) ?_
                                    exact ih136 _ (by omega) (j + 1) (sv + (apS (inc i) (inc j))) ls rfl (by omega) (by omega) (by rw [sumZ_s h2.1]; have hp : biP T inc hf i j = apS (inc i) (inc j) := if_pos ⟨⟨h151, h160⟩, h177⟩; rw [hp]; omega) (lv_sub hl [0, 2, 1, 3, 4, 5, 6, 7, 8, 9] rfl)
                          exact L136 _ 0 su ls rfl (by omega) (by omega) (by show su = su + 0; omega) (lv_sub hl [0, 1, 2, 3, 4, 5, 6, 7, 8, 9] rfl)
                      exact L126 _ 0 0 ls rfl (by decide) (by decide) (rfl) (lv_sub hl [0, 1, 2, 3, 4, 5, 6, 7, 8] rfl)
          exact L54 _ 0 0 0 ls rfl (by decide) (by omega) (fun q => ⟨rfl, rfl⟩) (fun q => absurd h38 q) (lv_sub hl [0, 1, 2, 3, 4, 5] rfl)
      ·
        refine lv_aload_n hx hb dX11_bisect_20 rfl (lv_at hl 1 rfl) ?_
        refine lv_iload_n hx hb dX11_bisect_21 rfl (lv_at hl 0 rfl) ?_
        refine z_callVp (As := [.int (zI lo)]) (rest := []) (C := RX11) (T := TX11) (N := 23) F hK hz hl (c_X11_isThere l D cI cJ cZ md bk nw nt df chk pa rc qu ct ft wn wy nx im ik T cn ln wat who rs act fse lo (by omega) (by first | assumption | omega)) (cwV 1 hts gX11_bisect_X11_isThere rfl rfl rfl (by decide +kernel) ⟨Nat.le_of_ble_eq_true rfl, Nat.le_of_ble_eq_true rfl⟩) rfl 0 rfl [0] rfl rfl rfl rfl (Nat.le_of_ble_eq_true rfl) ⟨Nat.le_of_ble_eq_true rfl, Nat.le_of_ble_eq_true rfl⟩ dX11_bisect_22 ?_
        refine z_ifb_ne (tgt := 34) hx hb dX11_bisect_25 (by decide) (fun h25 => ?_) (fun h25 => ?_)
        ·
          have hlow : ¬ T = 0 → inS T lo = true ∧ ∀ j, 0 ≤ j → j < lo → inS T j = false := fun _ => ⟨h25, hl1⟩
          refine lv_aload_n hx hb dX11_bisect_34 rfl (lv_at hl 1 rfl) ?_
          refine z_get (C := RX11) (T := TX11) (N := 23) (ref := "HornCityModel") hx hb hts hin_X11_bisect_X11 hown hK hz 0 rfl rfl 3 (by decide) (hts _ fl_X11_bisect_65) rfl rfl dX11_bisect_35 ?_
          refine z_if_ne (tgt := 45) hx hb dX11_bisect_38 (by decide) (by omega) (fun h38 => ?_) (fun h38 => ?_)
          ·
            refine z_ldc (n := 1000000) hx hb hown (hts (.constant RX11 141 1000000) (by decide +kernel)) (by decide +kernel) dX11_bisect_45 ?_
            refine lv_istore_n (lv' := [(3, .int (zI 1000000)), (2, .int (zI lo)), (0, .ref md), (1, .int (zI what))]) hx hb dX11_bisect_47 rfl hl (Nat.le_of_ble_eq_true rfl) rfl (fun ls hl => ?_)
            refine z_iconst hx hb dX11_bisect_48 ?_
            refine lv_istore (lv' := [(4, .int (zI 0)), (3, .int (zI 1000000)), (2, .int (zI lo)), (0, .ref md), (1, .int (zI what))]) hx hb dX11_bisect_49 hl (Nat.le_of_ble_eq_true rfl) rfl (fun ls hl => ?_)
            refine z_iconst hx hb dX11_bisect_51 ?_
            refine lv_istore (lv' := [(5, .int (zI 0)), (4, .int (zI 0)), (3, .int (zI 1000000)), (2, .int (zI lo)), (0, .ref md), (1, .int (zI what))]) hx hb dX11_bisect_52 hl (Nat.le_of_ble_eq_true rfl) rfl (fun ls hl => ?_)
            have L54 : ∀ (n : Nat) (hf fo le : Int) (ls : Array Slot), ((512 - hf).toNat = n) → (0 ≤ hf ∧ hf ≤ 512) → (0 ≤ le ∧ le ≤ 1000000) → (T = 0 → le = 0 ∧ fo = 0) → (¬ T = 0 → biI T inc hf fo le) → lv_has ls 10 [(5, .int (zI hf)), (4, .int (zI fo)), (3, .int (zI le)), (2, .int (zI lo)), (0, .ref md), (1, .int (zI what))] → W p l e (zRm 2) s m args below meth c H [] 0 0 Q (F0 m 54 ls []) := by
              intro n
              refine Nat.strongRecOn n ?_
              intro n ih54 hf fo le ls hn54 h0 hle hz54 hbi1 hl
              refine lv_iload hx hb dX11_bisect_54 (lv_at hl 0 rfl) ?_
              refine z_sipush hx hb dX11_bisect_56 (by decide) ?_
              refine z_icmp_ge (tgt := 250) hx hb dX11_bisect_59 (by decide) (by omega) (by decide) (fun h59 => ?_) (fun h59 => ?_)
              ·
                refine lv_iload_n hx hb dX11_bisect_250 rfl (lv_at hl 5 rfl) ?_
                refine z_if_ne (tgt := 258) hx hb dX11_bisect_251 (by decide) (by omega) (fun h251 => ?_) (fun h251 => ?_)
                ·
                  refine lv_iload hx hb dX11_bisect_258 (lv_at hl 1 rfl) ?_
                  exact hret dX11_bisect_260 (congrArg (fun z => some (Value.int (zI z))) (show (fo : Int) = (biR T inc what) by exact if hT0 : T = 0 then (by have e9 := hz54 hT0; rw [e9.2, hT0]; exact bi_end0 h6) else (by have e9 := bi_end (what := what) hT hT0 (by have h8 := hbi1 hT0; rwa [show hf = 512 by omega] at h8) h6; rw [if_neg h251] at e9; exact e9)))
                ·
                  refine lv_iload_n hx hb dX11_bisect_254 rfl (lv_at hl 2 rfl) ?_
                  refine lv_goto (tgt := 260) hx hb dX11_bisect_255 (by decide) ?_
                  exact hret dX11_bisect_260 (congrArg (fun z => some (Value.int (zI z))) (show (le : Int) = (biR T inc what) by exact if hT0 : T = 0 then (by have e9 := hz54 hT0; rw [e9.1, hT0]; exact bi_end0 h6) else (by have e9 := bi_end (what := what) hT hT0 (by have h8 := hbi1 hT0; rwa [show hf = 512 by omega] at h8) h6; rw [if_pos h251] at e9; exact e9)))
              ·
                refine lv_aload_n hx hb dX11_bisect_62 rfl (lv_at hl 4 rfl) ?_
                refine z_get (C := RX11) (T := TX11) (N := 23) (ref := "HornCityModel") hx hb hts hin_X11_bisect_X11 hown hK hz 0 rfl rfl 3 (by decide) (hts _ fl_X11_bisect_65) rfl rfl dX11_bisect_63 ?_
                refine z_if_eq (tgt := 250) hx hb dX11_bisect_66 (by decide) (by omega) (fun h66 => ?_) (fun h66 => ?_)
                ·
                  refine lv_iload_n hx hb dX11_bisect_250 rfl (lv_at hl 5 rfl) ?_
                  refine z_if_ne (tgt := 258) hx hb dX11_bisect_251 (by decide) (by omega) (fun h251 => ?_) (fun h251 => ?_)
                  ·
                    refine lv_iload hx hb dX11_bisect_258 (lv_at hl 1 rfl) ?_
                    exact hret dX11_bisect_260 (congrArg (fun z => some (Value.int (zI z))) (show (fo : Int) = (biR T inc what) by have e9 := hz54 h66; rw [e9.2, h66]; exact bi_end0 h6))
                  ·
                    refine lv_iload_n hx hb dX11_bisect_254 rfl (lv_at hl 2 rfl) ?_
                    refine lv_goto (tgt := 260) hx hb dX11_bisect_255 (by decide) ?_
                    exact hret dX11_bisect_260 (congrArg (fun z => some (Value.int (zI z))) (show (le : Int) = (biR T inc what) by have e9 := hz54 h66; rw [e9.1, h66]; exact bi_end0 h6))
                ·
                  refine lv_iload hx hb dX11_bisect_69 (lv_at hl 0 rfl) ?_
                  have hhf : 0 ≤ hf ∧ hf < 512 := by omega
                  have hlw : inS T lo = true ∧ ∀ j, 0 ≤ j → j < lo → inS T j = false := hlow h66
                  refine z_callSp (As := [.int (zI hf)]) (rest := []) F hK hz hl (c_X11_bits l D cI cJ cZ hf (by omega)) (va_cwS 1 hts gX11_bisect_X11_bits rfl rfl rfl (by decide +kernel) ⟨Nat.le_of_ble_eq_true rfl, Nat.le_of_ble_eq_true rfl⟩) [] rfl rfl rfl rfl (Nat.le_of_ble_eq_true rfl) ⟨Nat.le_of_ble_eq_true rfl, Nat.le_of_ble_eq_true rfl⟩ dX11_bisect_71 ?_
                  refine lv_aload_n hx hb dX11_bisect_74 rfl (lv_at hl 4 rfl) ?_
                  refine z_get (C := RX11) (T := TX11) (N := 23) (ref := "HornCityModel") hx hb hts hin_X11_bisect_X11 hown hK hz 0 rfl rfl 3 (by decide) (hts _ fl_X11_bisect_65) rfl rfl dX11_bisect_75 ?_
                  refine lv_iload hx hb dX11_bisect_78 (lv_at hl 0 rfl) ?_
                  refine z_iconst hx hb dX11_bisect_80 ?_
                  refine z_inot hx hb dX11_bisect_81 ?_
                  refine z_iandn hx hb dX11_bisect_82 (by omega) (by omega) ?_
                  have hz2 := zAndn_bd (b := hf) hT
                  refine z_callSp (As := [.int (zI (zAndn T hf))]) (rest := [.int (zI (cnt9 hf))]) F hK hz hl (c_X11_bits l D cI cJ cZ (zAndn T hf) (by omega)) (va_cwS 1 hts gX11_bisect_X11_bits rfl rfl rfl (by decide +kernel) ⟨Nat.le_of_ble_eq_true rfl, Nat.le_of_ble_eq_true rfl⟩) [] rfl rfl rfl rfl (Nat.le_of_ble_eq_true rfl) ⟨Nat.le_of_ble_eq_true rfl, Nat.le_of_ble_eq_true rfl⟩ dX11_bisect_83 ?_
                  have hcb1 := cnt9_bd hf
                  have hcb2 := cnt9_bd (zAndn T hf)
                  refine z_isub hx hb dX11_bisect_86 ?_
                  refine lv_istore (lv' := [(6, .int (zI ((cnt9 hf) - (cnt9 (zAndn T hf))))), (5, .int (zI hf)), (4, .int (zI fo)), (3, .int (zI le)), (2, .int (zI lo)), (0, .ref md), (1, .int (zI what))]) hx hb dX11_bisect_87 hl (Nat.le_of_ble_eq_true rfl) rfl (fun ls hl => ?_)
                  refine lv_iload hx hb dX11_bisect_89 (lv_at hl 1 rfl) ?_
                  refine lv_aload_n hx hb dX11_bisect_91 rfl (lv_at hl 5 rfl) ?_
                  refine z_get (C := RX11) (T := TX11) (N := 23) (ref := "HornCityModel") hx hb hts hin_X11_bisect_X11 hown hK hz 0 rfl rfl 3 (by decide) (hts _ fl_X11_bisect_65) rfl rfl dX11_bisect_92 ?_
                  refine z_iconst hx hb dX11_bisect_95 ?_
                  refine z_inot hx hb dX11_bisect_96 ?_
                  refine z_iandn hx hb dX11_bisect_97 (by omega) (by omega) ?_
                  have hz3 := zAndn_bd (b := T) hhf
                  refine z_if_ne (tgt := 244) hx hb dX11_bisect_98 (by decide) (by omega) (fun h98 => ?_) (fun h98 => ?_)
                  ·
                    refine z_iinc (lv' := [(5, .int (zI (hf + 1))), (6, .int (zI ((cnt9 hf) - (cnt9 (zAndn T hf))))), (4, .int (zI fo)), (3, .int (zI le)), (2, .int (zI lo)), (0, .ref md), (1, .int (zI what))]) hx hb dX11_bisect_244 hl (k := 1) rfl (Nat.le_of_ble_eq_true rfl) rfl (fun ls hl => ?_)
                    refine lv_goto (tgt := 54) hx hb dX11_bisect_247 (by decide) ?_
                    exact ih54 _ (by omega) (hf + 1) fo le ls rfl (by omega) (by omega) (fun q => absurd q h66) (fun _ => bi_no (hbi1 h66) h0.1 (Bool.eq_false_iff.mpr (fun q => by have h9 := (hf_is hT ⟨h0.1, by omega⟩ hlw.1 hlw.2).mp q; exact h98 h9.1))) (lv_sub hl [0, 2, 3, 4, 5, 6] rfl)
                  ·
                    refine lv_iload hx hb dX11_bisect_101 (lv_at hl 1 rfl) ?_
                    refine lv_iload_n hx hb dX11_bisect_103 rfl (lv_at hl 4 rfl) ?_
                    refine z_callSp (As := [.int (zI hf), .int (zI lo)]) (rest := []) F hK hz hl (c_X11_has l D cI cJ cZ hf lo (by omega)) (va_cwS 2 hts gX11_bisect_X11_has rfl rfl rfl (by decide +kernel) ⟨Nat.le_of_ble_eq_true rfl, Nat.le_of_ble_eq_true rfl⟩) [] rfl rfl rfl rfl (Nat.le_of_ble_eq_true rfl) ⟨Nat.le_of_ble_eq_true rfl, Nat.le_of_ble_eq_true rfl⟩ dX11_bisect_104 ?_
                    refine z_ifb_eq (tgt := 244) hx hb dX11_bisect_107 (by decide) (fun h107 => ?_) (fun h107 => ?_)
                    ·
                      refine z_iinc (lv' := [(5, .int (zI (hf + 1))), (6, .int (zI ((cnt9 hf) - (cnt9 (zAndn T hf))))), (4, .int (zI fo)), (3, .int (zI le)), (2, .int (zI lo)), (0, .ref md), (1, .int (zI what))]) hx hb dX11_bisect_244 hl (k := 1) rfl (Nat.le_of_ble_eq_true rfl) rfl (fun ls hl => ?_)
                      refine lv_goto (tgt := 54) hx hb dX11_bisect_247 (by decide) ?_
                      exact ih54 _ (by omega) (hf + 1) fo le ls rfl (by omega) (by omega) (fun q => absurd q h66) (fun _ => bi_no (hbi1 h66) h0.1 (Bool.eq_false_iff.mpr (fun q => by have h9 := (hf_is hT ⟨h0.1, by omega⟩ hlw.1 hlw.2).mp q; exact h107 h9.2.1))) (lv_sub hl [0, 2, 3, 4, 5, 6] rfl)
                    ·
                      refine lv_iload hx hb dX11_bisect_110 (lv_at hl 0 rfl) ?_
                      refine z_iconst hx hb dX11_bisect_112 ?_
                      refine z_iconst hx hb dX11_bisect_113 ?_
                      refine z_callSp (As := [.int (zI ((cnt9 hf) - (cnt9 (zAndn T hf)))), .int (zI (-1)), .int (zI 1)]) (rest := []) F hK hz hl (c_X11_in l D cI cJ cZ ((cnt9 hf) - (cnt9 (zAndn T hf))) (-1) 1 (by omega)) (va_cwS 3 hts gX11_bisect_X11_in rfl rfl rfl (by decide +kernel) ⟨Nat.le_of_ble_eq_true rfl, Nat.le_of_ble_eq_true rfl⟩) [] rfl rfl rfl rfl (Nat.le_of_ble_eq_true rfl) ⟨Nat.le_of_ble_eq_true rfl, Nat.le_of_ble_eq_true rfl⟩ dX11_bisect_114 ?_
                      refine z_ifb_eq (tgt := 244) hx hb dX11_bisect_117 (by decide) (fun h117 => ?_) (fun h117 => ?_)
                      ·
                        refine z_iinc (lv' := [(5, .int (zI (hf + 1))), (6, .int (zI ((cnt9 hf) - (cnt9 (zAndn T hf))))), (4, .int (zI fo)), (3, .int (zI le)), (2, .int (zI lo)), (0, .ref md), (1, .int (zI what))]) hx hb dX11_bisect_244 hl (k := 1) rfl (Nat.le_of_ble_eq_true rfl) rfl (fun ls hl => ?_)
                        refine lv_goto (tgt := 54) hx hb dX11_bisect_247 (by decide) ?_
                        exact ih54 _ (by omega) (hf + 1) fo le ls rfl (by omega) (by omega) (fun q => absurd q h66) (fun _ => bi_no (hbi1 h66) h0.1 (Bool.eq_false_iff.mpr (fun q => by have h9 := (hf_is hT ⟨h0.1, by omega⟩ hlw.1 hlw.2).mp q; omega))) (lv_sub hl [0, 2, 3, 4, 5, 6] rfl)
                      ·
                        refine z_iconst hx hb dX11_bisect_120 ?_
                        refine lv_istore (lv' := [(7, .int (zI 0)), (6, .int (zI ((cnt9 hf) - (cnt9 (zAndn T hf))))), (5, .int (zI hf)), (4, .int (zI fo)), (3, .int (zI le)), (2, .int (zI lo)), (0, .ref md), (1, .int (zI what))]) hx hb dX11_bisect_121 hl (Nat.le_of_ble_eq_true rfl) rfl (fun ls hl => ?_)
                        refine z_iconst hx hb dX11_bisect_123 ?_
                        refine lv_istore (lv' := [(8, .int (zI 0)), (7, .int (zI 0)), (6, .int (zI ((cnt9 hf) - (cnt9 (zAndn T hf))))), (5, .int (zI hf)), (4, .int (zI fo)), (3, .int (zI le)), (2, .int (zI lo)), (0, .ref md), (1, .int (zI what))]) hx hb dX11_bisect_124 hl (Nat.le_of_ble_eq_true rfl) rfl (fun ls hl => ?_)
                        have L126 : ∀ (n : Nat) (i su : Int) (ls : Array Slot), ((9 - i).toNat = n) → (0 ≤ i ∧ i ≤ 9) → (0 ≤ su ∧ su ≤ 810 * i) → (su = sumZ (fun i => sumZ (fun j => biP T inc hf i j) i.toNat) i.toNat) → lv_has ls 10 [(8, .int (zI i)), (7, .int (zI su)), (6, .int (zI ((cnt9 hf) - (cnt9 (zAndn T hf))))), (5, .int (zI hf)), (4, .int (zI fo)), (3, .int (zI le)), (2, .int (zI lo)), (0, .ref md), (1, .int (zI what))] → W p l e (zRm 2) s m args below meth c H [] 0 0 Q (F0 m 126 ls []) := by
                          intro n
                          refine Nat.strongRecOn n ?_
                          intro n ih126 i su ls hn126 h01 hs0 hs hl
                          refine lv_iload hx hb dX11_bisect_126 (lv_at hl 0 rfl) ?_
                          refine z_bipush hx hb dX11_bisect_128 (by decide) ?_
                          refine z_icmp_ge (tgt := 216) hx hb dX11_bisect_130 (by decide) (by omega) (by decide) (fun h130 => ?_) (fun h130 => ?_)
                          ·
                            have hf1 : 1 ≤ hf := by (have h0z : ¬ hf = 0 := fun q => by (rw [q, Int.zero_ediv] at h107; omega)); omega
                            have hsu : su = ahS T inc hf := by rw [hs, show i = 9 by omega]; exact bi_ah hT hhf h98
                            have hyes : hfS T hf = true := (hf_is hT hhf hlw.1 hlw.2).mpr ⟨h98, h107, by omega⟩
                            refine lv_iload hx hb dX11_bisect_216 (lv_at hl 1 rfl) ?_
                            refine lv_iload_n hx hb dX11_bisect_218 rfl (lv_at hl 5 rfl) ?_
                            refine z_icmp_ge (tgt := 227) hx hb dX11_bisect_219 (by decide) (by omega) (by omega) (fun h219 => ?_) (fun h219 => ?_)
                            ·
                              refine lv_iload hx hb dX11_bisect_227 (lv_at hl 4 rfl) ?_
                              refine lv_istore (lv' := [(4, .int (zI fo)), (8, .int (zI i)), (7, .int (zI su)), (6, .int (zI ((cnt9 hf) - (cnt9 (zAndn T hf))))), (5, .int (zI hf)), (3, .int (zI le)), (2, .int (zI lo)), (0, .ref md), (1, .int (zI what))]) hx hb dX11_bisect_229 hl (Nat.le_of_ble_eq_true rfl) rfl (fun ls hl => ?_)
                              refine lv_iload hx hb dX11_bisect_231 (lv_at hl 2 rfl) ?_
                              refine lv_iload_n hx hb dX11_bisect_233 rfl (lv_at hl 5 rfl) ?_
                              refine z_icmp_ge (tgt := 242) hx hb dX11_bisect_234 (by decide) (by omega) (by omega) (fun h234 => ?_) (fun h234 => ?_)
                              ·
                                refine lv_iload_n hx hb dX11_bisect_242 rfl (lv_at hl 5 rfl) ?_
                                refine lv_istore_n (lv' := [(3, .int (zI le)), (4, .int (zI fo)), (8, .int (zI i)), (7, .int (zI su)), (6, .int (zI ((cnt9 hf) - (cnt9 (zAndn T hf))))), (5, .int (zI hf)), (2, .int (zI lo)), (0, .ref md), (1, .int (zI what))]) hx hb dX11_bisect_243 rfl hl (Nat.le_of_ble_eq_true rfl) rfl (fun ls hl => ?_)
                                refine z_iinc (lv' := [(5, .int (zI (hf + 1))), (3, .int (zI le)), (4, .int (zI fo)), (8, .int (zI i)), (7, .int (zI su)), (6, .int (zI ((cnt9 hf) - (cnt9 (zAndn T hf))))), (2, .int (zI lo)), (0, .ref md), (1, .int (zI what))]) hx hb dX11_bisect_244 hl (k := 5) rfl (Nat.le_of_ble_eq_true rfl) rfl (fun ls hl => ?_)
                                refine lv_goto (tgt := 54) hx hb dX11_bisect_247 (by decide) ?_
                                exact ih54 _ (by omega) (hf + 1) fo le ls rfl (by omega) (by omega) (fun q => absurd q h66) (fun _ => by have h9 := bi_yes (hbi1 h66) (by omega) hyes; rw [← hsu, if_neg (by omega), if_neg (by omega)] at h9; exact h9) (lv_sub hl [0, 2, 1, 6, 7, 8] rfl)
                              ·
                                exfalso
                                first | omega | (revert h234; simp_all; done) | simp_all
                            ·
                              refine lv_iload hx hb dX11_bisect_222 (lv_at hl 3 rfl) ?_
                              refine lv_goto (tgt := 229) hx hb dX11_bisect_224 (by decide) ?_
                              refine lv_istore (lv' := [(4, .int (zI hf)), (8, .int (zI i)), (7, .int (zI su)), (6, .int (zI ((cnt9 hf) - (cnt9 (zAndn T hf))))), (5, .int (zI hf)), (3, .int (zI le)), (2, .int (zI lo)), (0, .ref md), (1, .int (zI what))]) hx hb dX11_bisect_229 hl (Nat.le_of_ble_eq_true rfl) rfl (fun ls hl => ?_)
                              refine lv_iload hx hb dX11_bisect_231 (lv_at hl 2 rfl) ?_
                              refine lv_iload_n hx hb dX11_bisect_233 rfl (lv_at hl 5 rfl) ?_
                              refine z_icmp_ge (tgt := 242) hx hb dX11_bisect_234 (by decide) (by omega) (by omega) (fun h234 => ?_) (fun h234 => ?_)
                              ·
                                exfalso
                                first | omega | (revert h234; simp_all; done) | simp_all
                              ·
                                refine lv_iload hx hb dX11_bisect_237 (lv_at hl 2 rfl) ?_
                                refine lv_goto (tgt := 243) hx hb dX11_bisect_239 (by decide) ?_
                                refine lv_istore_n (lv' := [(3, .int (zI su)), (4, .int (zI hf)), (8, .int (zI i)), (7, .int (zI su)), (6, .int (zI ((cnt9 hf) - (cnt9 (zAndn T hf))))), (5, .int (zI hf)), (2, .int (zI lo)), (0, .ref md), (1, .int (zI what))]) hx hb dX11_bisect_243 rfl hl (Nat.le_of_ble_eq_true rfl) rfl (fun ls hl => ?_)
                                refine z_iinc (lv' := [(5, .int (zI (hf + 1))), (3, .int (zI su)), (4, .int (zI hf)), (8, .int (zI i)), (7, .int (zI su)), (6, .int (zI ((cnt9 hf) - (cnt9 (zAndn T hf))))), (2, .int (zI lo)), (0, .ref md), (1, .int (zI what))]) hx hb dX11_bisect_244 hl (k := 5) rfl (Nat.le_of_ble_eq_true rfl) rfl (fun ls hl => ?_)
                                refine lv_goto (tgt := 54) hx hb dX11_bisect_247 (by decide) ?_
                                exact ih54 _ (by omega) (hf + 1) hf su ls rfl (by omega) (by omega) (fun q => absurd q h66) (fun _ => by have h9 := bi_yes (hbi1 h66) (by omega) hyes; rw [← hsu, if_pos (by omega), if_pos (by omega)] at h9; exact h9) (lv_sub hl [0, 2, 1, 6, 7, 8] rfl)
                          ·
                            refine z_iconst hx hb dX11_bisect_133 ?_
                            refine lv_istore (lv' := [(9, .int (zI 0)), (8, .int (zI i)), (7, .int (zI su)), (6, .int (zI ((cnt9 hf) - (cnt9 (zAndn T hf))))), (5, .int (zI hf)), (4, .int (zI fo)), (3, .int (zI le)), (2, .int (zI lo)), (0, .ref md), (1, .int (zI what))]) hx hb dX11_bisect_134 hl (Nat.le_of_ble_eq_true rfl) rfl (fun ls hl => ?_)
                            have L136 : ∀ (n : Nat) (j sv : Int) (ls : Array Slot), ((i - j).toNat = n) → (0 ≤ j ∧ j ≤ i) → (su ≤ sv ∧ sv ≤ su + 90 * j) → (sv = su + sumZ (fun j => biP T inc hf i j) j.toNat) → lv_has ls 10 [(9, .int (zI j)), (8, .int (zI i)), (7, .int (zI sv)), (6, .int (zI ((cnt9 hf) - (cnt9 (zAndn T hf))))), (5, .int (zI hf)), (4, .int (zI fo)), (3, .int (zI le)), (2, .int (zI lo)), (0, .ref md), (1, .int (zI what))] → W p l e (zRm 2) s m args below meth c H [] 0 0 Q (F0 m 136 ls []) := by
                              intro n
                              refine Nat.strongRecOn n ?_
                              intro n ih136 j sv ls hn136 h2 hv0 hv hl
                              refine lv_iload hx hb dX11_bisect_136 (lv_at hl 0 rfl) ?_
                              refine lv_iload hx hb dX11_bisect_138 (lv_at hl 1 rfl) ?_
                              refine z_icmp_ge (tgt := 210) hx hb dX11_bisect_140 (by decide) (by omega) (by omega) (fun h140 => ?_) (fun h140 => ?_)
                              ·
                                refine z_iinc (lv' := [(8, .int (zI (i + 1))), (9, .int (zI j)), (7, .int (zI sv)), (6, .int (zI ((cnt9 hf) - (cnt9 (zAndn T hf))))), (5, .int (zI hf)), (4, .int (zI fo)), (3, .int (zI le)), (2, .int (zI lo)), (0, .ref md), (1, .int (zI what))]) hx hb dX11_bisect_210 hl (k := 1) rfl (Nat.le_of_ble_eq_true rfl) rfl (fun ls hl => ?_)
                                refine lv_goto (tgt := 126) hx hb dX11_bisect_213 (by decide) ?_
                                exact ih126 _ (by omega) (i + 1) sv ls rfl (by omega) (by omega) (by rw [sumZ_s h01.1, ← hs]; rw [show j = i by omega] at hv; exact hv) (lv_sub hl [0, 2, 3, 4, 5, 6, 7, 8, 9] rfl)
                              ·
                                refine lv_iload hx hb dX11_bisect_143 (lv_at hl 2 rfl) ?_
                                refine lv_aload_n hx hb dX11_bisect_145 rfl (lv_at hl 8 rfl) ?_
                                refine lv_iload hx hb dX11_bisect_146 (lv_at hl 1 rfl) ?_
                                refine z_callVp (As := [.int (zI i)]) (rest := [.int (zI sv)]) (C := RX11) (T := TX11) (N := 23) F hK hz hl (c_X11_isThere l D cI cJ cZ md bk nw nt df chk pa rc qu ct ft wn wy nx im ik T cn ln wat who rs act fse i (by omega) (by first | assumption | omega)) (cwV 1 hts gX11_bisect_X11_isThere rfl rfl rfl (by decide +kernel) ⟨Nat.le_of_ble_eq_true rfl, Nat.le_of_ble_eq_true rfl⟩) rfl 0 rfl [0] rfl rfl rfl rfl (Nat.le_of_ble_eq_true rfl) ⟨Nat.le_of_ble_eq_true rfl, Nat.le_of_ble_eq_true rfl⟩ dX11_bisect_148 ?_
                                refine z_ifb_eq (tgt := 200) hx hb dX11_bisect_151 (by decide) (fun h151 => ?_) (fun h151 => ?_)
                                ·
                                  refine z_iconst hx hb dX11_bisect_200 ?_
                                  refine z_iadd hx hb dX11_bisect_201 ?_
                                  refine lv_istore (lv' := [(7, .int (zI (sv + 0))), (9, .int (zI j)), (8, .int (zI i)), (6, .int (zI ((cnt9 hf) - (cnt9 (zAndn T hf))))), (5, .int (zI hf)), (4, .int (zI fo)), (3, .int (zI le)), (2, .int (zI lo)), (0, .ref md), (1, .int (zI what))]) hx hb dX11_bisect_202 hl (Nat.le_of_ble_eq_true rfl) rfl (fun ls hl => ?_)
                                  have hap := apS_bd (inc i) (inc j)
                                  refine z_iinc (lv' := [(9, .int (zI (j + 1))), (7, .int (zI (sv + 0))), (8, .int (zI i)), (6, .int (zI ((cnt9 hf) - (cnt9 (zAndn T hf))))), (5, .int (zI hf)), (4, .int (zI fo)), (3, .int (zI le)), (2, .int (zI lo)), (0, .ref md), (1, .int (zI what))]) hx hb dX11_bisect_204 hl (k := 1) rfl (Nat.le_of_ble_eq_true rfl) rfl (fun ls hl => ?_)
                                  refine lv_goto (tgt := 136) hx hb dX11_bisect_207 (by decide) ?_
                                  exact ih136 _ (by omega) (j + 1) (sv + 0) ls rfl (by omega) (by omega) (by rw [sumZ_s h2.1]; have hp : biP T inc hf i j = 0 := if_neg (fun q => h151 q.1.1); rw [hp]; omega) (lv_sub hl [0, 2, 1, 3, 4, 5, 6, 7, 8, 9] rfl)
                                ·
                                  refine lv_aload_n hx hb dX11_bisect_154 rfl (lv_at hl 8 rfl) ?_
                                  refine lv_iload hx hb dX11_bisect_155 (lv_at hl 0 rfl) ?_
                                  refine z_callVp (As := [.int (zI j)]) (rest := [.int (zI sv)]) (C := RX11) (T := TX11) (N := 23) F hK hz hl (c_X11_isThere l D cI cJ cZ md bk nw nt df chk pa rc qu ct ft wn wy nx im ik T cn ln wat who rs act fse j (by omega) (by first | assumption | omega)) (cwV 1 hts gX11_bisect_X11_isThere rfl rfl rfl (by decide +kernel) ⟨Nat.le_of_ble_eq_true rfl, Nat.le_of_ble_eq_true rfl⟩) rfl 0 rfl [0] rfl rfl rfl rfl (Nat.le_of_ble_eq_true rfl) ⟨Nat.le_of_ble_eq_true rfl, Nat.le_of_ble_eq_true rfl⟩ dX11_bisect_157 ?_
                                  refine z_ifb_eq (tgt := 200) hx hb dX11_bisect_160 (by decide) (fun h160 => ?_) (fun h160 => ?_)
                                  ·
                                    refine z_iconst hx hb dX11_bisect_200 ?_
                                    refine z_iadd hx hb dX11_bisect_201 ?_
                                    refine lv_istore (lv' := [(7, .int (zI (sv + 0))), (9, .int (zI j)), (8, .int (zI i)), (6, .int (zI ((cnt9 hf) - (cnt9 (zAndn T hf))))), (5, .int (zI hf)), (4, .int (zI fo)), (3, .int (zI le)), (2, .int (zI lo)), (0, .ref md), (1, .int (zI what))]) hx hb dX11_bisect_202 hl (Nat.le_of_ble_eq_true rfl) rfl (fun ls hl => ?_)
                                    have hap := apS_bd (inc i) (inc j)
                                    refine z_iinc (lv' := [(9, .int (zI (j + 1))), (7, .int (zI (sv + 0))), (8, .int (zI i)), (6, .int (zI ((cnt9 hf) - (cnt9 (zAndn T hf))))), (5, .int (zI hf)), (4, .int (zI fo)), (3, .int (zI le)), (2, .int (zI lo)), (0, .ref md), (1, .int (zI what))]) hx hb dX11_bisect_204 hl (k := 1) rfl (Nat.le_of_ble_eq_true rfl) rfl (fun ls hl => ?_)
                                    refine lv_goto (tgt := 136) hx hb dX11_bisect_207 (by decide) ?_
                                    exact ih136 _ (by omega) (j + 1) (sv + 0) ls rfl (by omega) (by omega) (by rw [sumZ_s h2.1]; have hp : biP T inc hf i j = 0 := if_neg (fun q => h160 q.1.2); rw [hp]; omega) (lv_sub hl [0, 2, 1, 3, 4, 5, 6, 7, 8, 9] rfl)
                                  ·
                                    refine lv_iload hx hb dX11_bisect_163 (lv_at hl 4 rfl) ?_
                                    refine lv_iload hx hb dX11_bisect_165 (lv_at hl 1 rfl) ?_
                                    refine z_callSp (As := [.int (zI hf), .int (zI i)]) (rest := [.int (zI sv)]) F hK hz hl (c_X11_has l D cI cJ cZ hf i (by omega)) (va_cwS 2 hts gX11_bisect_X11_has rfl rfl rfl (by decide +kernel) ⟨Nat.le_of_ble_eq_true rfl, Nat.le_of_ble_eq_true rfl⟩) [] rfl rfl rfl rfl (Nat.le_of_ble_eq_true rfl) ⟨Nat.le_of_ble_eq_true rfl, Nat.le_of_ble_eq_true rfl⟩ dX11_bisect_167 ?_
                                    refine lv_iload hx hb dX11_bisect_170 (lv_at hl 4 rfl) ?_
                                    refine lv_iload hx hb dX11_bisect_172 (lv_at hl 0 rfl) ?_
                                    refine z_callSp (As := [.int (zI hf), .int (zI j)]) (rest := [.int (zI (if (hf / 2 ^ i.toNat % 2 = 1) then 1 else 0)), .int (zI sv)]) F hK hz hl (c_X11_has l D cI cJ cZ hf j (by omega)) (va_cwS 2 hts gX11_bisect_X11_has rfl rfl rfl (by decide +kernel) ⟨Nat.le_of_ble_eq_true rfl, Nat.le_of_ble_eq_true rfl⟩) [] rfl rfl rfl rfl (Nat.le_of_ble_eq_true rfl) ⟨Nat.le_of_ble_eq_true rfl, Nat.le_of_ble_eq_true rfl⟩ dX11_bisect_174 ?_
                                    refine z_icmp_ne (tgt := 200) hx hb dX11_bisect_177 (by decide) (by omega) (by omega) (fun h177 => ?_) (fun h177 => ?_)
                                    ·
                                      refine z_iconst hx hb dX11_bisect_200 ?_
                                      refine z_iadd hx hb dX11_bisect_201 ?_
                                      refine lv_istore (lv' := [(7, .int (zI (sv + 0))), (9, .int (zI j)), (8, .int (zI i)), (6, .int (zI ((cnt9 hf) - (cnt9 (zAndn T hf))))), (5, .int (zI hf)), (4, .int (zI fo)), (3, .int (zI le)), (2, .int (zI lo)), (0, .ref md), (1, .int (zI what))]) hx hb dX11_bisect_202 hl (Nat.le_of_ble_eq_true rfl) rfl (fun ls hl => ?_)
                                      have hap := apS_bd (inc i) (inc j)
                                      refine z_iinc (lv' := [(9, .int (zI (j + 1))), (7, .int (zI (sv + 0))), (8, .int (zI i)), (6, .int (zI ((cnt9 hf) - (cnt9 (zAndn T hf))))), (5, .int (zI hf)), (4, .int (zI fo)), (3, .int (zI le)), (2, .int (zI lo)), (0, .ref md), (1, .int (zI what))]) hx hb dX11_bisect_204 hl (k := 1) rfl (Nat.le_of_ble_eq_true rfl) rfl (fun ls hl => ?_)
                                      refine lv_goto (tgt := 136) hx hb dX11_bisect_207 (by decide) ?_
                                      exact ih136 _ (by omega) (j + 1) (sv + 0) ls rfl (by omega) (by omega) (by rw [sumZ_s h2.1]; have hp : biP T inc hf i j = 0 := if_neg (fun q => h177 q.2); rw [hp]; omega) (lv_sub hl [0, 2, 1, 3, 4, 5, 6, 7, 8, 9] rfl)
                                    ·
                                      refine lv_aload_n hx hb dX11_bisect_180 rfl (lv_at hl 8 rfl) ?_
                                      refine z_get (C := RX11) (T := TX11) (N := 23) (ref := "HornCityModel") hx hb hts hin_X11_bisect_X11 hown hK hz 0 rfl rfl 0 (by decide) (hts _ fl_X11_bisect_7) rfl rfl dX11_bisect_181 ?_
                                      refine lv_iload hx hb dX11_bisect_184 (lv_at hl 1 rfl) ?_
                                      refine z_iald hx hb hK hz 1 rfl (by omega) (by decide) dX11_bisect_186 ?_
                                      rw [nwS_i (k := i) (by omega)]
                                      have hv186 := (hbi).ax i (by omega)
                                      refine lv_aload_n hx hb dX11_bisect_187 rfl (lv_at hl 8 rfl) ?_
                                      refine z_get (C := RX11) (T := TX11) (N := 23) (ref := "HornCityModel") hx hb hts hin_X11_bisect_X11 hown hK hz 0 rfl rfl 0 (by decide) (hts _ fl_X11_bisect_7) rfl rfl dX11_bisect_188 ?_
                                      refine lv_iload hx hb dX11_bisect_191 (lv_at hl 0 rfl) ?_
                                      refine z_iald hx hb hK hz 1 rfl (by omega) (by decide) dX11_bisect_193 ?_
                                      rw [nwS_i (k := j) (by omega)]
                                      have hv193 := (hbi).ax j (by omega)
                                      refine z_callSp (As := [.int (zI (inc i)), .int (zI (inc j))]) (rest := [.int (zI sv)]) F hK hz hl (c_X11_apartOf l D cI cJ cZ (inc i) (inc j) (by omega)) (va_cwS 2 hts gX11_bisect_X11_apartOf rfl rfl rfl (by decide +kernel) ⟨Nat.le_of_ble_eq_true rfl, Nat.le_of_ble_eq_true rfl⟩) [] rfl rfl rfl rfl (Nat.le_of_ble_eq_true rfl) ⟨Nat.le_of_ble_eq_true rfl, Nat.le_of_ble_eq_true rfl⟩ dX11_bisect_194 ?_
                                      refine lv_goto (tgt := 201) hx hb dX11_bisect_197 (by decide) ?_
                                      refine z_iadd hx hb dX11_bisect_201 ?_
                                      refine lv_istore (lv' := [(7, .int (zI (sv + (apS (inc i) (inc j))))), (9, .int (zI j)), (8, .int (zI i)), (6, .int (zI ((cnt9 hf) - (cnt9 (zAndn T hf))))), (5, .int (zI hf)), (4, .int (zI fo)), (3, .int (zI le)), (2, .int (zI lo)), (0, .ref md), (1, .int (zI what))]) hx hb dX11_bisect_202 hl (Nat.le_of_ble_eq_true rfl) rfl (fun ls hl => ?_)
                                      have hap := apS_bd (inc i) (inc j)
                                      refine z_iinc (lv' := [(9, .int (zI (j + 1))), (7, .int (zI (sv + (apS (inc i) (inc j))))), (8, .int (zI i)), (6, .int (zI ((cnt9 hf) - (cnt9 (zAndn T hf))))), (5, .int (zI hf)), (4, .int (zI fo)), (3, .int (zI le)), (2, .int (zI lo)), (0, .ref md), (1, .int (zI what))]) hx hb dX11_bisect_204 hl (k := 1) rfl (Nat.le_of_ble_eq_true rfl) rfl (fun ls hl => ?_)
                                      refine lv_goto (tgt := 136) hx hb dX11_bisect_207 (by decide) ?_
                                      exact ih136 _ (by omega) (j + 1) (sv + (apS (inc i) (inc j))) ls rfl (by omega) (by omega) (by rw [sumZ_s h2.1]; have hp : biP T inc hf i j = apS (inc i) (inc j) := if_pos ⟨⟨h151, h160⟩, h177⟩; rw [hp]; omega) (lv_sub hl [0, 2, 1, 3, 4, 5, 6, 7, 8, 9] rfl)
                            exact L136 _ 0 su ls rfl (by omega) (by omega) (by show su = su + 0; omega) (lv_sub hl [0, 1, 2, 3, 4, 5, 6, 7, 8, 9] rfl)
                        exact L126 _ 0 0 ls rfl (by decide) (by decide) (rfl) (lv_sub hl [0, 1, 2, 3, 4, 5, 6, 7, 8] rfl)
            exact L54 _ 0 0 1000000 ls rfl (by decide) (by omega) (fun q => absurd q h38) (fun q => Or.inl ⟨rfl, rfl, rfl⟩) (lv_sub hl [0, 1, 2, 3, 4, 5] rfl)
          ·
            refine z_iconst hx hb dX11_bisect_41 ?_
            refine lv_goto (tgt := 47) hx hb dX11_bisect_42 (by decide) ?_
            refine lv_istore_n (lv' := [(3, .int (zI 0)), (2, .int (zI lo)), (0, .ref md), (1, .int (zI what))]) hx hb dX11_bisect_47 rfl hl (Nat.le_of_ble_eq_true rfl) rfl (fun ls hl => ?_)
            refine z_iconst hx hb dX11_bisect_48 ?_
            refine lv_istore (lv' := [(4, .int (zI 0)), (3, .int (zI 0)), (2, .int (zI lo)), (0, .ref md), (1, .int (zI what))]) hx hb dX11_bisect_49 hl (Nat.le_of_ble_eq_true rfl) rfl (fun ls hl => ?_)
            refine z_iconst hx hb dX11_bisect_51 ?_
            refine lv_istore (lv' := [(5, .int (zI 0)), (4, .int (zI 0)), (3, .int (zI 0)), (2, .int (zI lo)), (0, .ref md), (1, .int (zI what))]) hx hb dX11_bisect_52 hl (Nat.le_of_ble_eq_true rfl) rfl (fun ls hl => ?_)
            have L54 : ∀ (n : Nat) (hf fo le : Int) (ls : Array Slot), ((512 - hf).toNat = n) → (0 ≤ hf ∧ hf ≤ 512) → (0 ≤ le ∧ le ≤ 1000000) → (T = 0 → le = 0 ∧ fo = 0) → (¬ T = 0 → biI T inc hf fo le) → lv_has ls 10 [(5, .int (zI hf)), (4, .int (zI fo)), (3, .int (zI le)), (2, .int (zI lo)), (0, .ref md), (1, .int (zI what))] → W p l e (zRm 2) s m args below meth c H [] 0 0 Q (F0 m 54 ls []) := by
              intro n
              refine Nat.strongRecOn n ?_
              intro n ih54 hf fo le ls hn54 h0 hle hz54 hbi1 hl
              refine lv_iload hx hb dX11_bisect_54 (lv_at hl 0 rfl) ?_
              refine z_sipush hx hb dX11_bisect_56 (by decide) ?_
              refine z_icmp_ge (tgt := 250) hx hb dX11_bisect_59 (by decide) (by omega) (by decide) (fun h59 => ?_) (fun h59 => ?_)
              ·
                refine lv_iload_n hx hb dX11_bisect_250 rfl (lv_at hl 5 rfl) ?_
                refine z_if_ne (tgt := 258) hx hb dX11_bisect_251 (by decide) (by omega) (fun h251 => ?_) (fun h251 => ?_)
                ·
                  refine lv_iload hx hb dX11_bisect_258 (lv_at hl 1 rfl) ?_
                  exact hret dX11_bisect_260 (congrArg (fun z => some (Value.int (zI z))) (show (fo : Int) = (biR T inc what) by exact if hT0 : T = 0 then (by have e9 := hz54 hT0; rw [e9.2, hT0]; exact bi_end0 h6) else (by have e9 := bi_end (what := what) hT hT0 (by have h8 := hbi1 hT0; rwa [show hf = 512 by omega] at h8) h6; rw [if_neg h251] at e9; exact e9)))
                ·
                  refine lv_iload_n hx hb dX11_bisect_254 rfl (lv_at hl 2 rfl) ?_
                  refine lv_goto (tgt := 260) hx hb dX11_bisect_255 (by decide) ?_
                  exact hret dX11_bisect_260 (congrArg (fun z => some (Value.int (zI z))) (show (le : Int) = (biR T inc what) by exact if hT0 : T = 0 then (by have e9 := hz54 hT0; rw [e9.1, hT0]; exact bi_end0 h6) else (by have e9 := bi_end (what := what) hT hT0 (by have h8 := hbi1 hT0; rwa [show hf = 512 by omega] at h8) h6; rw [if_pos h251] at e9; exact e9)))
              ·
                refine lv_aload_n hx hb dX11_bisect_62 rfl (lv_at hl 4 rfl) ?_
                refine z_get (C := RX11) (T := TX11) (N := 23) (ref := "HornCityModel") hx hb hts hin_X11_bisect_X11 hown hK hz 0 rfl rfl 3 (by decide) (hts _ fl_X11_bisect_65) rfl rfl dX11_bisect_63 ?_
                refine z_if_eq (tgt := 250) hx hb dX11_bisect_66 (by decide) (by omega) (fun h66 => ?_) (fun h66 => ?_)
                ·
                  refine lv_iload_n hx hb dX11_bisect_250 rfl (lv_at hl 5 rfl) ?_
                  refine z_if_ne (tgt := 258) hx hb dX11_bisect_251 (by decide) (by omega) (fun h251 => ?_) (fun h251 => ?_)
                  ·
                    refine lv_iload hx hb dX11_bisect_258 (lv_at hl 1 rfl) ?_
                    exact hret dX11_bisect_260 (congrArg (fun z => some (Value.int (zI z))) (show (fo : Int) = (biR T inc what) by have e9 := hz54 h66; rw [e9.2, h66]; exact bi_end0 h6))
                  ·
                    refine lv_iload_n hx hb dX11_bisect_254 rfl (lv_at hl 2 rfl) ?_
                    refine lv_goto (tgt := 260) hx hb dX11_bisect_255 (by decide) ?_
                    exact hret dX11_bisect_260 (congrArg (fun z => some (Value.int (zI z))) (show (le : Int) = (biR T inc what) by have e9 := hz54 h66; rw [e9.1, h66]; exact bi_end0 h6))
                ·
                  refine lv_iload hx hb dX11_bisect_69 (lv_at hl 0 rfl) ?_
                  have hhf : 0 ≤ hf ∧ hf < 512 := by omega
                  have hlw : inS T lo = true ∧ ∀ j, 0 ≤ j → j < lo → inS T j = false := hlow h66
                  refine z_callSp (As := [.int (zI hf)]) (rest := []) F hK hz hl (c_X11_bits l D cI cJ cZ hf (by omega)) (va_cwS 1 hts gX11_bisect_X11_bits rfl rfl rfl (by decide +kernel) ⟨Nat.le_of_ble_eq_true rfl, Nat.le_of_ble_eq_true rfl⟩) [] rfl rfl rfl rfl (Nat.le_of_ble_eq_true rfl) ⟨Nat.le_of_ble_eq_true rfl, Nat.le_of_ble_eq_true rfl⟩ dX11_bisect_71 ?_
                  refine lv_aload_n hx hb dX11_bisect_74 rfl (lv_at hl 4 rfl) ?_
                  refine z_get (C := RX11) (T := TX11) (N := 23) (ref := "HornCityModel") hx hb hts hin_X11_bisect_X11 hown hK hz 0 rfl rfl 3 (by decide) (hts _ fl_X11_bisect_65) rfl rfl dX11_bisect_75 ?_
                  refine lv_iload hx hb dX11_bisect_78 (lv_at hl 0 rfl) ?_
                  refine z_iconst hx hb dX11_bisect_80 ?_
                  refine z_inot hx hb dX11_bisect_81 ?_
                  refine z_iandn hx hb dX11_bisect_82 (by omega) (by omega) ?_
                  have hz2 := zAndn_bd (b := hf) hT
                  refine z_callSp (As := [.int (zI (zAndn T hf))]) (rest := [.int (zI (cnt9 hf))]) F hK hz hl (c_X11_bits l D cI cJ cZ (zAndn T hf) (by omega)) (va_cwS 1 hts gX11_bisect_X11_bits rfl rfl rfl (by decide +kernel) ⟨Nat.le_of_ble_eq_true rfl, Nat.le_of_ble_eq_true rfl⟩) [] rfl rfl rfl rfl (Nat.le_of_ble_eq_true rfl) ⟨Nat.le_of_ble_eq_true rfl, Nat.le_of_ble_eq_true rfl⟩ dX11_bisect_83 ?_
                  have hcb1 := cnt9_bd hf
                  have hcb2 := cnt9_bd (zAndn T hf)
                  refine z_isub hx hb dX11_bisect_86 ?_
                  refine lv_istore (lv' := [(6, .int (zI ((cnt9 hf) - (cnt9 (zAndn T hf))))), (5, .int (zI hf)), (4, .int (zI fo)), (3, .int (zI le)), (2, .int (zI lo)), (0, .ref md), (1, .int (zI what))]) hx hb dX11_bisect_87 hl (Nat.le_of_ble_eq_true rfl) rfl (fun ls hl => ?_)
                  refine lv_iload hx hb dX11_bisect_89 (lv_at hl 1 rfl) ?_
                  refine lv_aload_n hx hb dX11_bisect_91 rfl (lv_at hl 5 rfl) ?_
                  refine z_get (C := RX11) (T := TX11) (N := 23) (ref := "HornCityModel") hx hb hts hin_X11_bisect_X11 hown hK hz 0 rfl rfl 3 (by decide) (hts _ fl_X11_bisect_65) rfl rfl dX11_bisect_92 ?_
                  refine z_iconst hx hb dX11_bisect_95 ?_
                  refine z_inot hx hb dX11_bisect_96 ?_
                  refine z_iandn hx hb dX11_bisect_97 (by omega) (by omega) ?_
                  have hz3 := zAndn_bd (b := T) hhf
                  refine z_if_ne (tgt := 244) hx hb dX11_bisect_98 (by decide) (by omega) (fun h98 => ?_) (fun h98 => ?_)
                  ·
                    refine z_iinc (lv' := [(5, .int (zI (hf + 1))), (6, .int (zI ((cnt9 hf) - (cnt9 (zAndn T hf))))), (4, .int (zI fo)), (3, .int (zI le)), (2, .int (zI lo)), (0, .ref md), (1, .int (zI what))]) hx hb dX11_bisect_244 hl (k := 1) rfl (Nat.le_of_ble_eq_true rfl) rfl (fun ls hl => ?_)
                    refine lv_goto (tgt := 54) hx hb dX11_bisect_247 (by decide) ?_
                    exact ih54 _ (by omega) (hf + 1) fo le ls rfl (by omega) (by omega) (fun q => absurd q h66) (fun _ => bi_no (hbi1 h66) h0.1 (Bool.eq_false_iff.mpr (fun q => by have h9 := (hf_is hT ⟨h0.1, by omega⟩ hlw.1 hlw.2).mp q; exact h98 h9.1))) (lv_sub hl [0, 2, 3, 4, 5, 6] rfl)
                  ·
                    refine lv_iload hx hb dX11_bisect_101 (lv_at hl 1 rfl) ?_
                    refine lv_iload_n hx hb dX11_bisect_103 rfl (lv_at hl 4 rfl) ?_
                    refine z_callSp (As := [.int (zI hf), .int (zI lo)]) (rest := []) F hK hz hl (c_X11_has l D cI cJ cZ hf lo (by omega)) (va_cwS 2 hts gX11_bisect_X11_has rfl rfl rfl (by decide +kernel) ⟨Nat.le_of_ble_eq_true rfl, Nat.le_of_ble_eq_true rfl⟩) [] rfl rfl rfl rfl (Nat.le_of_ble_eq_true rfl) ⟨Nat.le_of_ble_eq_true rfl, Nat.le_of_ble_eq_true rfl⟩ dX11_bisect_104 ?_
                    refine z_ifb_eq (tgt := 244) hx hb dX11_bisect_107 (by decide) (fun h107 => ?_) (fun h107 => ?_)
                    ·
                      refine z_iinc (lv' := [(5, .int (zI (hf + 1))), (6, .int (zI ((cnt9 hf) - (cnt9 (zAndn T hf))))), (4, .int (zI fo)), (3, .int (zI le)), (2, .int (zI lo)), (0, .ref md), (1, .int (zI what))]) hx hb dX11_bisect_244 hl (k := 1) rfl (Nat.le_of_ble_eq_true rfl) rfl (fun ls hl => ?_)
                      refine lv_goto (tgt := 54) hx hb dX11_bisect_247 (by decide) ?_
                      exact ih54 _ (by omega) (hf + 1) fo le ls rfl (by omega) (by omega) (fun q => absurd q h66) (fun _ => bi_no (hbi1 h66) h0.1 (Bool.eq_false_iff.mpr (fun q => by have h9 := (hf_is hT ⟨h0.1, by omega⟩ hlw.1 hlw.2).mp q; exact h107 h9.2.1))) (lv_sub hl [0, 2, 3, 4, 5, 6] rfl)
                    ·
                      refine lv_iload hx hb dX11_bisect_110 (lv_at hl 0 rfl) ?_
                      refine z_iconst hx hb dX11_bisect_112 ?_
                      refine z_iconst hx hb dX11_bisect_113 ?_
                      refine z_callSp (As := [.int (zI ((cnt9 hf) - (cnt9 (zAndn T hf)))), .int (zI (-1)), .int (zI 1)]) (rest := []) F hK hz hl (c_X11_in l D cI cJ cZ ((cnt9 hf) - (cnt9 (zAndn T hf))) (-1) 1 (by omega)) (va_cwS 3 hts gX11_bisect_X11_in rfl rfl rfl (by decide +kernel) ⟨Nat.le_of_ble_eq_true rfl, Nat.le_of_ble_eq_true rfl⟩) [] rfl rfl rfl rfl (Nat.le_of_ble_eq_true rfl) ⟨Nat.le_of_ble_eq_true rfl, Nat.le_of_ble_eq_true rfl⟩ dX11_bisect_114 ?_
                      refine z_ifb_eq (tgt := 244) hx hb dX11_bisect_117 (by decide) (fun h117 => ?_) (fun h117 => ?_)
                      ·
                        refine z_iinc (lv' := [(5, .int (zI (hf + 1))), (6, .int (zI ((cnt9 hf) - (cnt9 (zAndn T hf))))), (4, .int (zI fo)), (3, .int (zI le)), (2, .int (zI lo)), (0, .ref md), (1, .int (zI what))]) hx hb dX11_bisect_244 hl (k := 1) rfl (Nat.le_of_ble_eq_true rfl) rfl (fun ls hl => ?_)
                        refine lv_goto (tgt := 54) hx hb dX11_bisect_247 (by decide) ?_
                        exact ih54 _ (by omega) (hf + 1) fo le ls rfl (by omega) (by omega) (fun q => absurd q h66) (fun _ => bi_no (hbi1 h66) h0.1 (Bool.eq_false_iff.mpr (fun q => by have h9 := (hf_is hT ⟨h0.1, by omega⟩ hlw.1 hlw.2).mp q; omega))) (lv_sub hl [0, 2, 3, 4, 5, 6] rfl)
                      ·
                        refine z_iconst hx hb dX11_bisect_120 ?_
                        refine lv_istore (lv' := [(7, .int (zI 0)), (6, .int (zI ((cnt9 hf) - (cnt9 (zAndn T hf))))), (5, .int (zI hf)), (4, .int (zI fo)), (3, .int (zI le)), (2, .int (zI lo)), (0, .ref md), (1, .int (zI what))]) hx hb dX11_bisect_121 hl (Nat.le_of_ble_eq_true rfl) rfl (fun ls hl => ?_)
                        refine z_iconst hx hb dX11_bisect_123 ?_
                        refine lv_istore (lv' := [(8, .int (zI 0)), (7, .int (zI 0)), (6, .int (zI ((cnt9 hf) - (cnt9 (zAndn T hf))))), (5, .int (zI hf)), (4, .int (zI fo)), (3, .int (zI le)), (2, .int (zI lo)), (0, .ref md), (1, .int (zI what))]) hx hb dX11_bisect_124 hl (Nat.le_of_ble_eq_true rfl) rfl (fun ls hl => ?_)
                        have L126 : ∀ (n : Nat) (i su : Int) (ls : Array Slot), ((9 - i).toNat = n) → (0 ≤ i ∧ i ≤ 9) → (0 ≤ su ∧ su ≤ 810 * i) → (su = sumZ (fun i => sumZ (fun j => biP T inc hf i j) i.toNat) i.toNat) → lv_has ls 10 [(8, .int (zI i)), (7, .int (zI su)), (6, .int (zI ((cnt9 hf) - (cnt9 (zAndn T hf))))), (5, .int (zI hf)), (4, .int (zI fo)), (3, .int (zI le)), (2, .int (zI lo)), (0, .ref md), (1, .int (zI what))] → W p l e (zRm 2) s m args below meth c H [] 0 0 Q (F0 m 126 ls []) := by
                          intro n
                          refine Nat.strongRecOn n ?_
                          intro n ih126 i su ls hn126 h01 hs0 hs hl
                          refine lv_iload hx hb dX11_bisect_126 (lv_at hl 0 rfl) ?_
                          refine z_bipush hx hb dX11_bisect_128 (by decide) ?_
                          refine z_icmp_ge (tgt := 216) hx hb dX11_bisect_130 (by decide) (by omega) (by decide) (fun h130 => ?_) (fun h130 => ?_)
                          ·
                            have hf1 : 1 ≤ hf := by (have h0z : ¬ hf = 0 := fun q => by (rw [q, Int.zero_ediv] at h107; omega)); omega
                            have hsu : su = ahS T inc hf := by rw [hs, show i = 9 by omega]; exact bi_ah hT hhf h98
                            have hyes : hfS T hf = true := (hf_is hT hhf hlw.1 hlw.2).mpr ⟨h98, h107, by omega⟩
                            refine lv_iload hx hb dX11_bisect_216 (lv_at hl 1 rfl) ?_
                            refine lv_iload_n hx hb dX11_bisect_218 rfl (lv_at hl 5 rfl) ?_
                            refine z_icmp_ge (tgt := 227) hx hb dX11_bisect_219 (by decide) (by omega) (by omega) (fun h219 => ?_) (fun h219 => ?_)
                            ·
                              refine lv_iload hx hb dX11_bisect_227 (lv_at hl 4 rfl) ?_
                              refine lv_istore (lv' := [(4, .int (zI fo)), (8, .int (zI i)), (7, .int (zI su)), (6, .int (zI ((cnt9 hf) - (cnt9 (zAndn T hf))))), (5, .int (zI hf)), (3, .int (zI le)), (2, .int (zI lo)), (0, .ref md), (1, .int (zI what))]) hx hb dX11_bisect_229 hl (Nat.le_of_ble_eq_true rfl) rfl (fun ls hl => ?_)
                              refine lv_iload hx hb dX11_bisect_231 (lv_at hl 2 rfl) ?_
                              refine lv_iload_n hx hb dX11_bisect_233 rfl (lv_at hl 5 rfl) ?_
                              refine z_icmp_ge (tgt := 242) hx hb dX11_bisect_234 (by decide) (by omega) (by omega) (fun h234 => ?_) (fun h234 => ?_)
                              ·
                                refine lv_iload_n hx hb dX11_bisect_242 rfl (lv_at hl 5 rfl) ?_
                                refine lv_istore_n (lv' := [(3, .int (zI le)), (4, .int (zI fo)), (8, .int (zI i)), (7, .int (zI su)), (6, .int (zI ((cnt9 hf) - (cnt9 (zAndn T hf))))), (5, .int (zI hf)), (2, .int (zI lo)), (0, .ref md), (1, .int (zI what))]) hx hb dX11_bisect_243 rfl hl (Nat.le_of_ble_eq_true rfl) rfl (fun ls hl => ?_)
                                refine z_iinc (lv' := [(5, .int (zI (hf + 1))), (3, .int (zI le)), (4, .int (zI fo)), (8, .int (zI i)), (7, .int (zI su)), (6, .int (zI ((cnt9 hf) - (cnt9 (zAndn T hf))))), (2, .int (zI lo)), (0, .ref md), (1, .int (zI what))]) hx hb dX11_bisect_244 hl (k := 5) rfl (Nat.le_of_ble_eq_true rfl) rfl (fun ls hl => ?_)
                                refine lv_goto (tgt := 54) hx hb dX11_bisect_247 (by decide) ?_
                                exact ih54 _ (by omega) (hf + 1) fo le ls rfl (by omega) (by omega) (fun q => absurd q h66) (fun _ => by have h9 := bi_yes (hbi1 h66) (by omega) hyes; rw [← hsu, if_neg (by omega), if_neg (by omega)] at h9; exact h9) (lv_sub hl [0, 2, 1, 6, 7, 8] rfl)
                              ·
                                exfalso
                                first | omega | (revert h234; simp_all; done) | simp_all
                            ·
                              refine lv_iload hx hb dX11_bisect_222 (lv_at hl 3 rfl) ?_
                              refine lv_goto (tgt := 229) hx hb dX11_bisect_224 (by decide) ?_
                              refine lv_istore (lv' := [(4, .int (zI hf)), (8, .int (zI i)), (7, .int (zI su)), (6, .int (zI ((cnt9 hf) - (cnt9 (zAndn T hf))))), (5, .int (zI hf)), (3, .int (zI le)), (2, .int (zI lo)), (0, .ref md), (1, .int (zI what))]) hx hb dX11_bisect_229 hl (Nat.le_of_ble_eq_true rfl) rfl (fun ls hl => ?_)
                              refine lv_iload hx hb dX11_bisect_231 (lv_at hl 2 rfl) ?_
                              refine lv_iload_n hx hb dX11_bisect_233 rfl (lv_at hl 5 rfl) ?_
                              refine z_icmp_ge (tgt := 242) hx hb dX11_bisect_234 (by decide) (by omega) (by omega) (fun h234 => ?_) (fun h234 => ?_)
                              ·
                                exfalso
                                first | omega | (revert h234; simp_all; done) | simp_all
                              ·
                                refine lv_iload hx hb dX11_bisect_237 (lv_at hl 2 rfl) ?_
                                refine lv_goto (tgt := 243) hx hb dX11_bisect_239 (by decide) ?_
                                refine lv_istore_n (lv' := [(3, .int (zI su)), (4, .int (zI hf)), (8, .int (zI i)), (7, .int (zI su)), (6, .int (zI ((cnt9 hf) - (cnt9 (zAndn T hf))))), (5, .int (zI hf)), (2, .int (zI lo)), (0, .ref md), (1, .int (zI what))]) hx hb dX11_bisect_243 rfl hl (Nat.le_of_ble_eq_true rfl) rfl (fun ls hl => ?_)
                                refine z_iinc (lv' := [(5, .int (zI (hf + 1))), (3, .int (zI su)), (4, .int (zI hf)), (8, .int (zI i)), (7, .int (zI su)), (6, .int (zI ((cnt9 hf) - (cnt9 (zAndn T hf))))), (2, .int (zI lo)), (0, .ref md), (1, .int (zI what))]) hx hb dX11_bisect_244 hl (k := 5) rfl (Nat.le_of_ble_eq_true rfl) rfl (fun ls hl => ?_)
                                refine lv_goto (tgt := 54) hx hb dX11_bisect_247 (by decide) ?_
                                exact ih54 _ (by omega) (hf + 1) hf su ls rfl (by omega) (by omega) (fun q => absurd q h66) (fun _ => by have h9 := bi_yes (hbi1 h66) (by omega) hyes; rw [← hsu, if_pos (by omega), if_pos (by omega)] at h9; exact h9) (lv_sub hl [0, 2, 1, 6, 7, 8] rfl)
                          ·
                            refine z_iconst hx hb dX11_bisect_133 ?_
                            refine lv_istore (lv' := [(9, .int (zI 0)), (8, .int (zI i)), (7, .int (zI su)), (6, .int (zI ((cnt9 hf) - (cnt9 (zAndn T hf))))), (5, .int (zI hf)), (4, .int (zI fo)), (3, .int (zI le)), (2, .int (zI lo)), (0, .ref md), (1, .int (zI what))]) hx hb dX11_bisect_134 hl (Nat.le_of_ble_eq_true rfl) rfl (fun ls hl => ?_)
                            have L136 : ∀ (n : Nat) (j sv : Int) (ls : Array Slot), ((i - j).toNat = n) → (0 ≤ j ∧ j ≤ i) → (su ≤ sv ∧ sv ≤ su + 90 * j) → (sv = su + sumZ (fun j => biP T inc hf i j) j.toNat) → lv_has ls 10 [(9, .int (zI j)), (8, .int (zI i)), (7, .int (zI sv)), (6, .int (zI ((cnt9 hf) - (cnt9 (zAndn T hf))))), (5, .int (zI hf)), (4, .int (zI fo)), (3, .int (zI le)), (2, .int (zI lo)), (0, .ref md), (1, .int (zI what))] → W p l e (zRm 2) s m args below meth c H [] 0 0 Q (F0 m 136 ls []) := by
                              intro n
                              refine Nat.strongRecOn n ?_
                              intro n ih136 j sv ls hn136 h2 hv0 hv hl
                              refine lv_iload hx hb dX11_bisect_136 (lv_at hl 0 rfl) ?_
                              refine lv_iload hx hb dX11_bisect_138 (lv_at hl 1 rfl) ?_
                              refine z_icmp_ge (tgt := 210) hx hb dX11_bisect_140 (by decide) (by omega) (by omega) (fun h140 => ?_) (fun h140 => ?_)
                              ·
                                refine z_iinc (lv' := [(8, .int (zI (i + 1))), (9, .int (zI j)), (7, .int (zI sv)), (6, .int (zI ((cnt9 hf) - (cnt9 (zAndn T hf))))), (5, .int (zI hf)), (4, .int (zI fo)), (3, .int (zI le)), (2, .int (zI lo)), (0, .ref md), (1, .int (zI what))]) hx hb dX11_bisect_210 hl (k := 1) rfl (Nat.le_of_ble_eq_true rfl) rfl (fun ls hl => ?_)
                                refine lv_goto (tgt := 126) hx hb dX11_bisect_213 (by decide) ?_
                                exact ih126 _ (by omega) (i + 1) sv ls rfl (by omega) (by omega) (by rw [sumZ_s h01.1, ← hs]; rw [show j = i by omega] at hv; exact hv) (lv_sub hl [0, 2, 3, 4, 5, 6, 7, 8, 9] rfl)
                              ·
                                refine lv_iload hx hb dX11_bisect_143 (lv_at hl 2 rfl) ?_
                                refine lv_aload_n hx hb dX11_bisect_145 rfl (lv_at hl 8 rfl) ?_
                                refine lv_iload hx hb dX11_bisect_146 (lv_at hl 1 rfl) ?_
                                refine z_callVp (As := [.int (zI i)]) (rest := [.int (zI sv)]) (C := RX11) (T := TX11) (N := 23) F hK hz hl (c_X11_isThere l D cI cJ cZ md bk nw nt df chk pa rc qu ct ft wn wy nx im ik T cn ln wat who rs act fse i (by omega) (by first | assumption | omega)) (cwV 1 hts gX11_bisect_X11_isThere rfl rfl rfl (by decide +kernel) ⟨Nat.le_of_ble_eq_true rfl, Nat.le_of_ble_eq_true rfl⟩) rfl 0 rfl [0] rfl rfl rfl rfl (Nat.le_of_ble_eq_true rfl) ⟨Nat.le_of_ble_eq_true rfl, Nat.le_of_ble_eq_true rfl⟩ dX11_bisect_148 ?_
                                refine z_ifb_eq (tgt := 200) hx hb dX11_bisect_151 (by decide) (fun h151 => ?_) (fun h151 => ?_)
                                ·
                                  refine z_iconst hx hb dX11_bisect_200 ?_
                                  refine z_iadd hx hb dX11_bisect_201 ?_
                                  refine lv_istore (lv' := [(7, .int (zI (sv + 0))), (9, .int (zI j)), (8, .int (zI i)), (6, .int (zI ((cnt9 hf) - (cnt9 (zAndn T hf))))), (5, .int (zI hf)), (4, .int (zI fo)), (3, .int (zI le)), (2, .int (zI lo)), (0, .ref md), (1, .int (zI what))]) hx hb dX11_bisect_202 hl (Nat.le_of_ble_eq_true rfl) rfl (fun ls hl => ?_)
                                  have hap := apS_bd (inc i) (inc j)
                                  refine z_iinc (lv' := [(9, .int (zI (j + 1))), (7, .int (zI (sv + 0))), (8, .int (zI i)), (6, .int (zI ((cnt9 hf) - (cnt9 (zAndn T hf))))), (5, .int (zI hf)), (4, .int (zI fo)), (3, .int (zI le)), (2, .int (zI lo)), (0, .ref md), (1, .int (zI what))]) hx hb dX11_bisect_204 hl (k := 1) rfl (Nat.le_of_ble_eq_true rfl) rfl (fun ls hl => ?_)
                                  refine lv_goto (tgt := 136) hx hb dX11_bisect_207 (by decide) ?_
                                  exact ih136 _ (by omega) (j + 1) (sv + 0) ls rfl (by omega) (by omega) (by rw [sumZ_s h2.1]; have hp : biP T inc hf i j = 0 := if_neg (fun q => h151 q.1.1); rw [hp]; omega) (lv_sub hl [0, 2, 1, 3, 4, 5, 6, 7, 8, 9] rfl)
                                ·
                                  refine lv_aload_n hx hb dX11_bisect_154 rfl (lv_at hl 8 rfl) ?_
                                  refine lv_iload hx hb dX11_bisect_155 (lv_at hl 0 rfl) ?_
                                  refine z_callVp (As := [.int (zI j)]) (rest := [.int (zI sv)]) (C := RX11) (T := TX11) (N := 23) F hK hz hl (c_X11_isThere l D cI cJ cZ md bk nw nt df chk pa rc qu ct ft wn wy nx im ik T cn ln wat who rs act fse j (by omega) (by first | assumption | omega)) (cwV 1 hts gX11_bisect_X11_isThere rfl rfl rfl (by decide +kernel) ⟨Nat.le_of_ble_eq_true rfl, Nat.le_of_ble_eq_true rfl⟩) rfl 0 rfl [0] rfl rfl rfl rfl (Nat.le_of_ble_eq_true rfl) ⟨Nat.le_of_ble_eq_true rfl, Nat.le_of_ble_eq_true rfl⟩ dX11_bisect_157 ?_
                                  refine z_ifb_eq (tgt := 200) hx hb dX11_bisect_160 (by decide) (fun h160 => ?_) (fun h160 => ?_)
                                  ·
                                    refine z_iconst hx hb dX11_bisect_200 ?_
                                    refine z_iadd hx hb dX11_bisect_201 ?_
                                    refine lv_istore (lv' := [(7, .int (zI (sv + 0))), (9, .int (zI j)), (8, .int (zI i)), (6, .int (zI ((cnt9 hf) - (cnt9 (zAndn T hf))))), (5, .int (zI hf)), (4, .int (zI fo)), (3, .int (zI le)), (2, .int (zI lo)), (0, .ref md), (1, .int (zI what))]) hx hb dX11_bisect_202 hl (Nat.le_of_ble_eq_true rfl) rfl (fun ls hl => ?_)
                                    have hap := apS_bd (inc i) (inc j)
                                    refine z_iinc (lv' := [(9, .int (zI (j + 1))), (7, .int (zI (sv + 0))), (8, .int (zI i)), (6, .int (zI ((cnt9 hf) - (cnt9 (zAndn T hf))))), (5, .int (zI hf)), (4, .int (zI fo)), (3, .int (zI le)), (2, .int (zI lo)), (0, .ref md), (1, .int (zI what))]) hx hb dX11_bisect_204 hl (k := 1) rfl (Nat.le_of_ble_eq_true rfl) rfl (fun ls hl => ?_)
                                    refine lv_goto (tgt := 136) hx hb dX11_bisect_207 (by decide) ?_
                                    exact ih136 _ (by omega) (j + 1) (sv + 0) ls rfl (by omega) (by omega) (by rw [sumZ_s h2.1]; have hp : biP T inc hf i j = 0 := if_neg (fun q => h160 q.1.2); rw [hp]; omega) (lv_sub hl [0, 2, 1, 3, 4, 5, 6, 7, 8, 9] rfl)
                                  ·
                                    refine lv_iload hx hb dX11_bisect_163 (lv_at hl 4 rfl) ?_
                                    refine lv_iload hx hb dX11_bisect_165 (lv_at hl 1 rfl) ?_
                                    refine z_callSp (As := [.int (zI hf), .int (zI i)]) (rest := [.int (zI sv)]) F hK hz hl (c_X11_has l D cI cJ cZ hf i (by omega)) (va_cwS 2 hts gX11_bisect_X11_has rfl rfl rfl (by decide +kernel) ⟨Nat.le_of_ble_eq_true rfl, Nat.le_of_ble_eq_true rfl⟩) [] rfl rfl rfl rfl (Nat.le_of_ble_eq_true rfl) ⟨Nat.le_of_ble_eq_true rfl, Nat.le_of_ble_eq_true rfl⟩ dX11_bisect_167 ?_
                                    refine lv_iload hx hb dX11_bisect_170 (lv_at hl 4 rfl) ?_
                                    refine lv_iload hx hb dX11_bisect_172 (lv_at hl 0 rfl) ?_
                                    refine z_callSp (As := [.int (zI hf), .int (zI j)]) (rest := [.int (zI (if (hf / 2 ^ i.toNat % 2 = 1) then 1 else 0)), .int (zI sv)]) F hK hz hl (c_X11_has l D cI cJ cZ hf j (by omega)) (va_cwS 2 hts gX11_bisect_X11_has rfl rfl rfl (by decide +kernel) ⟨Nat.le_of_ble_eq_true rfl, Nat.le_of_ble_eq_true rfl⟩) [] rfl rfl rfl rfl (Nat.le_of_ble_eq_true rfl) ⟨Nat.le_of_ble_eq_true rfl, Nat.le_of_ble_eq_true rfl⟩ dX11_bisect_174 ?_
                                    refine z_icmp_ne (tgt := 200) hx hb dX11_bisect_177 (by decide) (by omega) (by omega) (fun h177 => ?_) (fun h177 => ?_)
                                    ·
                                      refine z_iconst hx hb dX11_bisect_200 ?_
                                      refine z_iadd hx hb dX11_bisect_201 ?_
                                      refine lv_istore (lv' := [(7, .int (zI (sv + 0))), (9, .int (zI j)), (8, .int (zI i)), (6, .int (zI ((cnt9 hf) - (cnt9 (zAndn T hf))))), (5, .int (zI hf)), (4, .int (zI fo)), (3, .int (zI le)), (2, .int (zI lo)), (0, .ref md), (1, .int (zI what))]) hx hb dX11_bisect_202 hl (Nat.le_of_ble_eq_true rfl) rfl (fun ls hl => ?_)
                                      have hap := apS_bd (inc i) (inc j)
                                      refine z_iinc (lv' := [(9, .int (zI (j + 1))), (7, .int (zI (sv + 0))), (8, .int (zI i)), (6, .int (zI ((cnt9 hf) - (cnt9 (zAndn T hf))))), (5, .int (zI hf)), (4, .int (zI fo)), (3, .int (zI le)), (2, .int (zI lo)), (0, .ref md), (1, .int (zI what))]) hx hb dX11_bisect_204 hl (k := 1) rfl (Nat.le_of_ble_eq_true rfl) rfl (fun ls hl => ?_)
                                      refine lv_goto (tgt := 136) hx hb dX11_bisect_207 (by decide) ?_
                                      exact ih136 _ (by omega) (j + 1) (sv + 0) ls rfl (by omega) (by omega) (by rw [sumZ_s h2.1]; have hp : biP T inc hf i j = 0 := if_neg (fun q => h177 q.2); rw [hp]; omega) (lv_sub hl [0, 2, 1, 3, 4, 5, 6, 7, 8, 9] rfl)
                                    ·
                                      refine lv_aload_n hx hb dX11_bisect_180 rfl (lv_at hl 8 rfl) ?_
                                      refine z_get (C := RX11) (T := TX11) (N := 23) (ref := "HornCityModel") hx hb hts hin_X11_bisect_X11 hown hK hz 0 rfl rfl 0 (by decide) (hts _ fl_X11_bisect_7) rfl rfl dX11_bisect_181 ?_
                                      refine lv_iload hx hb dX11_bisect_184 (lv_at hl 1 rfl) ?_
                                      refine z_iald hx hb hK hz 1 rfl (by omega) (by decide) dX11_bisect_186 ?_
                                      rw [nwS_i (k := i) (by omega)]
                                      have hv186 := (hbi).ax i (by omega)
                                      refine lv_aload_n hx hb dX11_bisect_187 rfl (lv_at hl 8 rfl) ?_
                                      refine z_get (C := RX11) (T := TX11) (N := 23) (ref := "HornCityModel") hx hb hts hin_X11_bisect_X11 hown hK hz 0 rfl rfl 0 (by decide) (hts _ fl_X11_bisect_7) rfl rfl dX11_bisect_188 ?_
                                      refine lv_iload hx hb dX11_bisect_191 (lv_at hl 0 rfl) ?_
                                      refine z_iald hx hb hK hz 1 rfl (by omega) (by decide) dX11_bisect_193 ?_
                                      rw [nwS_i (k := j) (by omega)]
                                      have hv193 := (hbi).ax j (by omega)
                                      refine z_callSp (As := [.int (zI (inc i)), .int (zI (inc j))]) (rest := [.int (zI sv)]) F hK hz hl (c_X11_apartOf l D cI cJ cZ (inc i) (inc j) (by omega)) (va_cwS 2 hts gX11_bisect_X11_apartOf rfl rfl rfl (by decide +kernel) ⟨Nat.le_of_ble_eq_true rfl, Nat.le_of_ble_eq_true rfl⟩) [] rfl rfl rfl rfl (Nat.le_of_ble_eq_true rfl) ⟨Nat.le_of_ble_eq_true rfl, Nat.le_of_ble_eq_true rfl⟩ dX11_bisect_194 ?_
                                      refine lv_goto (tgt := 201) hx hb dX11_bisect_197 (by decide) ?_
                                      refine z_iadd hx hb dX11_bisect_201 ?_
                                      refine lv_istore (lv' := [(7, .int (zI (sv + (apS (inc i) (inc j))))), (9, .int (zI j)), (8, .int (zI i)), (6, .int (zI ((cnt9 hf) - (cnt9 (zAndn T hf))))), (5, .int (zI hf)), (4, .int (zI fo)), (3, .int (zI le)), (2, .int (zI lo)), (0, .ref md), (1, .int (zI what))]) hx hb dX11_bisect_202 hl (Nat.le_of_ble_eq_true rfl) rfl (fun ls hl => ?_)
                                      have hap := apS_bd (inc i) (inc j)
                                      refine z_iinc (lv' := [(9, .int (zI (j + 1))), (7, .int (zI (sv + (apS (inc i) (inc j))))), (8, .int (zI i)), (6, .int (zI ((cnt9 hf) - (cnt9 (zAndn T hf))))), (5, .int (zI hf)), (4, .int (zI fo)), (3, .int (zI le)), (2, .int (zI lo)), (0, .ref md), (1, .int (zI what))]) hx hb dX11_bisect_204 hl (k := 1) rfl (Nat.le_of_ble_eq_true rfl) rfl (fun ls hl => ?_)
                                      refine lv_goto (tgt := 136) hx hb dX11_bisect_207 (by decide) ?_
                                      exact ih136 _ (by omega) (j + 1) (sv + (apS (inc i) (inc j))) ls rfl (by omega) (by omega) (by rw [sumZ_s h2.1]; have hp : biP T inc hf i j = apS (inc i) (inc j) := if_pos ⟨⟨h151, h160⟩, h177⟩; rw [hp]; omega) (lv_sub hl [0, 2, 1, 3, 4, 5, 6, 7, 8, 9] rfl)
                            exact L136 _ 0 su ls rfl (by omega) (by omega) (by show su = su + 0; omega) (lv_sub hl [0, 1, 2, 3, 4, 5, 6, 7, 8, 9] rfl)
                        exact L126 _ 0 0 ls rfl (by decide) (by decide) (rfl) (lv_sub hl [0, 1, 2, 3, 4, 5, 6, 7, 8] rfl)
            exact L54 _ 0 0 0 ls rfl (by decide) (by omega) (fun q => ⟨rfl, rfl⟩) (fun q => absurd h38 q) (lv_sub hl [0, 1, 2, 3, 4, 5] rfl)
        ·
          refine z_iinc (lv' := [(2, .int (zI (lo + 1))), (0, .ref md), (1, .int (zI what))]) hx hb dX11_bisect_28 hl (k := 0) rfl (Nat.le_of_ble_eq_true rfl) rfl (fun ls hl => ?_)
          refine lv_goto (tgt := 14) hx hb dX11_bisect_31 (by decide) ?_
          exact ih14 _ (by omega) (lo + 1) ls rfl (by omega) (fun j h1 h2 => if hj : j = lo then by (rw [hj]; exact Bool.eq_false_iff.mpr h25) else hl1 j h1 (by omega)) (lv_sub hl [0, 1, 2] rfl)
    exact L14 _ 0 ls rfl (by decide) (fun j h1 h2 => absurd h1 (by omega)) (lv_sub hl [0, 1, 2] rfl)
  ·
    refine z_bipush hx hb dX11_bisect_9 (by decide) ?_
    exact hret dX11_bisect_11 (congrArg (fun z => some (Value.int (zI z))) (show ((-2) : Int) = (biR T inc what) by unfold biR; rw [if_neg h6]))
