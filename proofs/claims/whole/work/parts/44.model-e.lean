def imS (inc dri mat kd : Int → Int) (T tm yr : Int) (iy mk : Int → Int) (cn : Int) : Int → Int := fun j =>
  if j < 29 then nwS inc mat kd tm yr j else if j < 38 then dri (j - 29) else if j < 54 then chS iy mk (j - 38) else if j = 55 then T else cn
def cpS (f g : Int → Int) (b n : Int) : Int → Int := fun q => if b ≤ q ∧ q < b + n then g (q - b) else f q
theorem cpS_0 {f g : Int → Int} {b : Int} : f = cpS f g b 0 := by
  funext q; unfold cpS; rw [if_neg (by omega)]
theorem cpS_s {f g : Int → Int} {b n v ix : Int} (hn : 0 ≤ n) (hv : v = g n) (hi : ix = b + n) : zU (cpS f g b n) ix v = cpS f g b (n + 1) := by
  funext q; unfold zU
  by_cases h : q = ix
  · rw [if_pos h, hv]; unfold cpS; rw [if_pos (by omega), show q - b = n by omega]
  · rw [if_neg h]; unfold cpS
    by_cases h2 : b ≤ q ∧ q < b + n
    · rw [if_pos h2, if_pos (by omega)]
    · rw [if_neg h2, if_neg (by omega)]
abbrev imI (im : Int → Int) (b : Int) (F : Int → Int) : Prop := ∀ j, 0 ≤ j → j < 57 → ¬ j = 54 → im (b + j) = F j

set_option maxRecDepth 20000 in
theorem hin_X11_cock_X11 : ∀ w ∈ u_ws RX11 TX11 23, w ∈ wsX11_cock := by decide +kernel
set_option maxRecDepth 20000 in
theorem fl_X11_cock_44 : Cond.fieldLink RX11 44 "HornCityModel" "ways" "[J" ∈ wsX11_cock := by decide +kernel
set_option maxRecDepth 20000 in
theorem fl_X11_cock_48 : Cond.fieldLink RX11 48 "HornCityModel" "nextWays" "[J" ∈ wsX11_cock := by decide +kernel
set_option maxHeartbeats 4000000 in
set_option maxRecDepth 100000 in
theorem c_X11_cock (l : Launch) (D : va_G) (cI cJ cZ : ClassId) (md bk nw nt df chk pa rc qu ct ft wn wy nx im ik : Nat) (wyf nxf : Int → Int) (T cn ln wat who rs act fse m0 p0 a b n0 q0 part : Int) (hr : (-2147483648 ≤ m0 ∧ m0 ≤ 2147483647) ∧ (-2147483648 ≤ p0 ∧ p0 ≤ 2147483647) ∧ (-2147483648 ≤ a ∧ a ≤ 2147483647) ∧ (-2147483648 ≤ b ∧ b ≤ 2147483647) ∧ (-2147483648 ≤ n0 ∧ n0 ≤ 2147483647) ∧ (-2147483648 ≤ q0 ∧ q0 ≤ 2147483647) ∧ (-2147483648 ≤ part ∧ part ≤ 2147483647)) : zMw l yX11_cock wsX11_cock (zRm 1) D cI cJ cZ [.ref md, .int (zI m0), .int (zI p0), .int (zI a), .int (zI b), .int (zI n0), .int (zI q0), .int (zI part)] [(md, .inr (9, [.ref bk, .ref nw, .ref nt, .int (zI T), .ref df, .int (zI cn), .ref chk, .int (zI ln), .ref pa, .int (zI wat), .int (zI who), .int (zI rs), .int (zI act), .int (zI fse), .ref rc, .ref qu, .ref ct, .ref ft, .ref wn, .ref wy, .ref nx, .ref im, .ref ik])), (wy, .inl (cJ, 12, .inr (.inl (zAL wyf)))), (nx, .inl (cJ, 12, .inr (.inl (zAL nxf))))] (S := Int × (Int → Int) × (Int → Int)) (fun u => u.1 = coR m0 p0 a b n0 q0 part) (fun u => some (.long (zL u.1))) (fun u => [(md, .inr (9, [.ref bk, .ref nw, .ref nt, .int (zI T), .ref df, .int (zI cn), .ref chk, .int (zI ln), .ref pa, .int (zI wat), .int (zI who), .int (zI rs), .int (zI act), .int (zI fse), .ref rc, .ref qu, .ref ct, .ref ft, .ref wn, .ref wy, .ref nx, .ref im, .ref ik])), (wy, .inl (cJ, 12, .inr (.inl (zAL u.2.1)))), (nx, .inl (cJ, 12, .inr (.inl (zAL u.2.2))))]) := by
  refine zMw_l (cc := cX11_cock) (maxL := 16) (by decide +kernel) rfl (Nat.le_of_ble_eq_true rfl) rfl (fun _ => rfl) ?_
  intro p e s m args below meth c Q H0 ls F hK hz hl hret
  obtain ⟨hx, hb, hml, hown0, hts⟩ := id F
  have hown : s.vm.findClass RX11 = some m.cls := hown0
  obtain ⟨ws0, hw0⟩ : ∃ w : va_W, w = [(md, .inr (9, [.ref bk, .ref nw, .ref nt, .int (zI T), .ref df, .int (zI cn), .ref chk, .int (zI ln), .ref pa, .int (zI wat), .int (zI who), .int (zI rs), .int (zI act), .int (zI fse), .ref rc, .ref qu, .ref ct, .ref ft, .ref wn, .ref wy, .ref nx, .ref im, .ref ik])), (wy, .inl (cJ, 12, .inr (.inl (zAL wyf)))), (nx, .inl (cJ, 12, .inr (.inl (zAL nxf))))] := ⟨_, rfl⟩
  rw [← hw0] at hret
  have hz : zH D (zF ws0) H0 [(md, .inr (9, [.ref bk, .ref nw, .ref nt, .int (zI T), .ref df, .int (zI cn), .ref chk, .int (zI ln), .ref pa, .int (zI wat), .int (zI who), .int (zI rs), .int (zI act), .int (zI fse), .ref rc, .ref qu, .ref ct, .ref ft, .ref wn, .ref wy, .ref nx, .ref im, .ref ik])), (wy, .inl (cJ, 12, .inr (.inl (zAL wyf)))), (nx, .inl (cJ, 12, .inr (.inl (zAL nxf))))] H0 [] := by rw [hw0]; exact hz
  have hl : lv_has ls 16 [(0, .ref md), (1, .int (zI m0)), (2, .int (zI p0)), (3, .int (zI a)), (4, .int (zI b)), (5, .int (zI n0)), (6, .int (zI q0)), (7, .int (zI part))] := hl
  refine lv_iload_n hx hb dX11_cock_0 rfl (lv_at hl 1 rfl) ?_
  refine z_iconst hx hb dX11_cock_1 ?_
  refine z_bipush hx hb dX11_cock_2 (by decide) ?_
  refine z_callSp (As := [.int (zI m0), .int (zI 2), .int (zI 12)]) (rest := []) F hK hz hl (c_X11_in l D cI cJ cZ m0 2 12 (by omega)) (va_cwS 3 hts gX11_cock_X11_in rfl rfl rfl (by decide +kernel) ⟨Nat.le_of_ble_eq_true rfl, Nat.le_of_ble_eq_true rfl⟩) [] rfl rfl rfl rfl (Nat.le_of_ble_eq_true rfl) ⟨Nat.le_of_ble_eq_true rfl, Nat.le_of_ble_eq_true rfl⟩ dX11_cock_4 ?_
  refine z_ifb_eq (tgt := 84) hx hb dX11_cock_7 (by decide) (fun h7 => ?_) (fun h7 => ?_)
  ·
    refine z_ldc2 (n := (-1000000000000000002)) hx hb hown (hts (.constantLong RX11 151 (-1000000000000000002)) (by decide +kernel)) (by decide +kernel) dX11_cock_84 ?_
    exact hret (((-1000000000000000002) : Int), (wyf : Int → Int), (nxf : Int → Int)) dX11_cock_87 (show (-1000000000000000002) = coR m0 p0 a b n0 q0 part from (by unfold coR; rw [if_neg (by omega)])) hz
  ·
    refine lv_iload_n hx hb dX11_cock_10 rfl (lv_at hl 2 rfl) ?_
    refine z_iconst hx hb dX11_cock_11 ?_
    refine lv_iload_n hx hb dX11_cock_12 rfl (lv_at hl 1 rfl) ?_
    refine z_iconst hx hb dX11_cock_13 ?_
    refine z_isub hx hb dX11_cock_14 ?_
    refine z_callSp (As := [.int (zI p0), .int (zI 0), .int (zI (m0 - 1))]) (rest := []) F hK hz hl (c_X11_in l D cI cJ cZ p0 0 (m0 - 1) (by omega)) (va_cwS 3 hts gX11_cock_X11_in rfl rfl rfl (by decide +kernel) ⟨Nat.le_of_ble_eq_true rfl, Nat.le_of_ble_eq_true rfl⟩) [] rfl rfl rfl rfl (Nat.le_of_ble_eq_true rfl) ⟨Nat.le_of_ble_eq_true rfl, Nat.le_of_ble_eq_true rfl⟩ dX11_cock_15 ?_
    refine z_ifb_eq (tgt := 84) hx hb dX11_cock_18 (by decide) (fun h18 => ?_) (fun h18 => ?_)
    ·
      refine z_ldc2 (n := (-1000000000000000002)) hx hb hown (hts (.constantLong RX11 151 (-1000000000000000002)) (by decide +kernel)) (by decide +kernel) dX11_cock_84 ?_
      exact hret (((-1000000000000000002) : Int), (wyf : Int → Int), (nxf : Int → Int)) dX11_cock_87 (show (-1000000000000000002) = coR m0 p0 a b n0 q0 part from (by unfold coR; rw [if_neg (by omega)])) hz
    ·
      refine lv_iload_n hx hb dX11_cock_21 rfl (lv_at hl 3 rfl) ?_
      refine z_iconst hx hb dX11_cock_22 ?_
      refine z_bipush hx hb dX11_cock_23 (by decide) ?_
      refine z_callSp (As := [.int (zI a), .int (zI 0), .int (zI 10)]) (rest := []) F hK hz hl (c_X11_in l D cI cJ cZ a 0 10 (by omega)) (va_cwS 3 hts gX11_cock_X11_in rfl rfl rfl (by decide +kernel) ⟨Nat.le_of_ble_eq_true rfl, Nat.le_of_ble_eq_true rfl⟩) [] rfl rfl rfl rfl (Nat.le_of_ble_eq_true rfl) ⟨Nat.le_of_ble_eq_true rfl, Nat.le_of_ble_eq_true rfl⟩ dX11_cock_25 ?_
      refine z_ifb_eq (tgt := 84) hx hb dX11_cock_28 (by decide) (fun h28 => ?_) (fun h28 => ?_)
      ·
        refine z_ldc2 (n := (-1000000000000000002)) hx hb hown (hts (.constantLong RX11 151 (-1000000000000000002)) (by decide +kernel)) (by decide +kernel) dX11_cock_84 ?_
        exact hret (((-1000000000000000002) : Int), (wyf : Int → Int), (nxf : Int → Int)) dX11_cock_87 (show (-1000000000000000002) = coR m0 p0 a b n0 q0 part from (by unfold coR; rw [if_neg (by omega)])) hz
      ·
        refine lv_iload hx hb dX11_cock_31 (lv_at hl 4 rfl) ?_
        refine z_iconst hx hb dX11_cock_33 ?_
        refine z_bipush hx hb dX11_cock_34 (by decide) ?_
        refine z_callSp (As := [.int (zI b), .int (zI 0), .int (zI 10)]) (rest := []) F hK hz hl (c_X11_in l D cI cJ cZ b 0 10 (by omega)) (va_cwS 3 hts gX11_cock_X11_in rfl rfl rfl (by decide +kernel) ⟨Nat.le_of_ble_eq_true rfl, Nat.le_of_ble_eq_true rfl⟩) [] rfl rfl rfl rfl (Nat.le_of_ble_eq_true rfl) ⟨Nat.le_of_ble_eq_true rfl, Nat.le_of_ble_eq_true rfl⟩ dX11_cock_36 ?_
        refine z_ifb_eq (tgt := 84) hx hb dX11_cock_39 (by decide) (fun h39 => ?_) (fun h39 => ?_)
        ·
          refine z_ldc2 (n := (-1000000000000000002)) hx hb hown (hts (.constantLong RX11 151 (-1000000000000000002)) (by decide +kernel)) (by decide +kernel) dX11_cock_84 ?_
          exact hret (((-1000000000000000002) : Int), (wyf : Int → Int), (nxf : Int → Int)) dX11_cock_87 (show (-1000000000000000002) = coR m0 p0 a b n0 q0 part from (by unfold coR; rw [if_neg (by omega)])) hz
        ·
          refine lv_iload_n hx hb dX11_cock_42 rfl (lv_at hl 3 rfl) ?_
          refine lv_iload hx hb dX11_cock_43 (lv_at hl 4 rfl) ?_
          refine z_iadd hx hb dX11_cock_45 ?_
          refine z_bipush hx hb dX11_cock_46 (by decide) ?_
          refine z_icmp_gt (tgt := 84) hx hb dX11_cock_48 (by decide) (by omega) (by decide) (fun h48 => ?_) (fun h48 => ?_)
          ·
            refine z_ldc2 (n := (-1000000000000000002)) hx hb hown (hts (.constantLong RX11 151 (-1000000000000000002)) (by decide +kernel)) (by decide +kernel) dX11_cock_84 ?_
            exact hret (((-1000000000000000002) : Int), (wyf : Int → Int), (nxf : Int → Int)) dX11_cock_87 (show (-1000000000000000002) = coR m0 p0 a b n0 q0 part from (by unfold coR; rw [if_neg (by omega)])) hz
          ·
            refine lv_iload hx hb dX11_cock_51 (lv_at hl 5 rfl) ?_
            refine z_iconst hx hb dX11_cock_53 ?_
            refine z_bipush hx hb dX11_cock_54 (by decide) ?_
            refine z_callSp (As := [.int (zI n0), .int (zI 0), .int (zI 16)]) (rest := []) F hK hz hl (c_X11_in l D cI cJ cZ n0 0 16 (by omega)) (va_cwS 3 hts gX11_cock_X11_in rfl rfl rfl (by decide +kernel) ⟨Nat.le_of_ble_eq_true rfl, Nat.le_of_ble_eq_true rfl⟩) [] rfl rfl rfl rfl (Nat.le_of_ble_eq_true rfl) ⟨Nat.le_of_ble_eq_true rfl, Nat.le_of_ble_eq_true rfl⟩ dX11_cock_56 ?_
            refine z_ifb_eq (tgt := 84) hx hb dX11_cock_59 (by decide) (fun h59 => ?_) (fun h59 => ?_)
            ·
              refine z_ldc2 (n := (-1000000000000000002)) hx hb hown (hts (.constantLong RX11 151 (-1000000000000000002)) (by decide +kernel)) (by decide +kernel) dX11_cock_84 ?_
              exact hret (((-1000000000000000002) : Int), (wyf : Int → Int), (nxf : Int → Int)) dX11_cock_87 (show (-1000000000000000002) = coR m0 p0 a b n0 q0 part from (by unfold coR; rw [if_neg (by omega)])) hz
            ·
              refine lv_iload hx hb dX11_cock_62 (lv_at hl 6 rfl) ?_
              refine z_iconst hx hb dX11_cock_64 ?_
              refine lv_iload_n hx hb dX11_cock_65 rfl (lv_at hl 1 rfl) ?_
              refine z_iconst hx hb dX11_cock_66 ?_
              refine z_isub hx hb dX11_cock_67 ?_
              refine z_callSp (As := [.int (zI q0), .int (zI 0), .int (zI (m0 - 1))]) (rest := []) F hK hz hl (c_X11_in l D cI cJ cZ q0 0 (m0 - 1) (by omega)) (va_cwS 3 hts gX11_cock_X11_in rfl rfl rfl (by decide +kernel) ⟨Nat.le_of_ble_eq_true rfl, Nat.le_of_ble_eq_true rfl⟩) [] rfl rfl rfl rfl (Nat.le_of_ble_eq_true rfl) ⟨Nat.le_of_ble_eq_true rfl, Nat.le_of_ble_eq_true rfl⟩ dX11_cock_68 ?_
              refine z_ifb_eq (tgt := 84) hx hb dX11_cock_71 (by decide) (fun h71 => ?_) (fun h71 => ?_)
              ·
                refine z_ldc2 (n := (-1000000000000000002)) hx hb hown (hts (.constantLong RX11 151 (-1000000000000000002)) (by decide +kernel)) (by decide +kernel) dX11_cock_84 ?_
                exact hret (((-1000000000000000002) : Int), (wyf : Int → Int), (nxf : Int → Int)) dX11_cock_87 (show (-1000000000000000002) = coR m0 p0 a b n0 q0 part from (by unfold coR; rw [if_neg (by omega)])) hz
              ·
                refine lv_iload hx hb dX11_cock_74 (lv_at hl 7 rfl) ?_
                refine z_iconst hx hb dX11_cock_76 ?_
                refine z_iconst hx hb dX11_cock_77 ?_
                refine z_callSp (As := [.int (zI part), .int (zI 0), .int (zI 1)]) (rest := []) F hK hz hl (c_X11_in l D cI cJ cZ part 0 1 (by omega)) (va_cwS 3 hts gX11_cock_X11_in rfl rfl rfl (by decide +kernel) ⟨Nat.le_of_ble_eq_true rfl, Nat.le_of_ble_eq_true rfl⟩) [] rfl rfl rfl rfl (Nat.le_of_ble_eq_true rfl) ⟨Nat.le_of_ble_eq_true rfl, Nat.le_of_ble_eq_true rfl⟩ dX11_cock_78 ?_
                refine z_ifb_ne (tgt := 88) hx hb dX11_cock_81 (by decide) (fun h81 => ?_) (fun h81 => ?_)
                ·
                  refine z_lconst hx hb (n := 1) dX11_cock_88 rfl ?_
                  refine lv_lstore (lv' := [(8, .long (zL 1)), (0, .ref md), (1, .int (zI m0)), (2, .int (zI p0)), (3, .int (zI a)), (4, .int (zI b)), (5, .int (zI n0)), (6, .int (zI q0)), (7, .int (zI part))]) hx hb dX11_cock_89 hl (Nat.le_of_ble_eq_true rfl) rfl (fun ls hl => ?_)
                  refine z_iconst hx hb dX11_cock_91 ?_
                  refine lv_istore (lv' := [(10, .int (zI 0)), (8, .long (zL 1)), (0, .ref md), (1, .int (zI m0)), (2, .int (zI p0)), (3, .int (zI a)), (4, .int (zI b)), (5, .int (zI n0)), (6, .int (zI q0)), (7, .int (zI part))]) hx hb dX11_cock_92 hl (Nat.le_of_ble_eq_true rfl) rfl (fun ls hl => ?_)
                  have L94 : ∀ (n : Nat) (k : Int) (wx : Int → Int) (H : Heap) (locs : List Loc) (ls : Array Slot), ((12 - k).toNat = n) → (0 ≤ k ∧ k ≤ 12) → (∀ j, 0 ≤ j → j < k → wx j = wysS m0 p0 a b 0 j) → zH D (zF ws0) H0 [(md, .inr (9, [.ref bk, .ref nw, .ref nt, .int (zI T), .ref df, .int (zI cn), .ref chk, .int (zI ln), .ref pa, .int (zI wat), .int (zI who), .int (zI rs), .int (zI act), .int (zI fse), .ref rc, .ref qu, .ref ct, .ref ft, .ref wn, .ref wy, .ref nx, .ref im, .ref ik])), (wy, .inl (cJ, 12, .inr (.inl (zAL wx)))), (nx, .inl (cJ, 12, .inr (.inl (zAL nxf))))] H locs → lv_has ls 16 [(10, .int (zI k)), (8, .long (zL 1)), (0, .ref md), (1, .int (zI m0)), (2, .int (zI p0)), (3, .int (zI a)), (4, .int (zI b)), (5, .int (zI n0)), (6, .int (zI q0)), (7, .int (zI part))] → W p l e (zRm 1) s m args below meth c H locs 0 0 Q (F0 m 94 ls []) := by
                    intro n
                    refine Nat.strongRecOn n ?_
                    intro n ih94 k wx H locs ls hn94 h0 hw0 hz hl
                    refine lv_iload hx hb dX11_cock_94 (lv_at hl 0 rfl) ?_
                    refine z_bipush hx hb dX11_cock_96 (by decide) ?_
                    refine z_icmp_ge (tgt := 125) hx hb dX11_cock_98 (by decide) (by omega) (by decide) (fun h98 => ?_) (fun h98 => ?_)
                    ·
                      refine z_iconst hx hb dX11_cock_125 ?_
                      refine lv_istore (lv' := [(10, .int (zI 0)), (8, .long (zL 1)), (0, .ref md), (1, .int (zI m0)), (2, .int (zI p0)), (3, .int (zI a)), (4, .int (zI b)), (5, .int (zI n0)), (6, .int (zI q0)), (7, .int (zI part))]) hx hb dX11_cock_126 hl (Nat.le_of_ble_eq_true rfl) rfl (fun ls hl => ?_)
                      have L128 : ∀ (n : Nat) (ho lo : Int) (wx nxx : Int → Int) (H : Heap) (locs : List Loc) (ls : Array Slot), ((n0 - ho).toNat = n) → (0 ≤ ho ∧ ho ≤ n0) → (lo = 10 ^ ho.toNat) → (∀ v, 0 ≤ v → v < m0 → wx v = wysS m0 p0 a b ho.toNat v) → zH D (zF ws0) H0 [(md, .inr (9, [.ref bk, .ref nw, .ref nt, .int (zI T), .ref df, .int (zI cn), .ref chk, .int (zI ln), .ref pa, .int (zI wat), .int (zI who), .int (zI rs), .int (zI act), .int (zI fse), .ref rc, .ref qu, .ref ct, .ref ft, .ref wn, .ref wy, .ref nx, .ref im, .ref ik])), (wy, .inl (cJ, 12, .inr (.inl (zAL wx)))), (nx, .inl (cJ, 12, .inr (.inl (zAL nxx))))] H locs → lv_has ls 16 [(10, .int (zI ho)), (8, .long (zL lo)), (0, .ref md), (1, .int (zI m0)), (2, .int (zI p0)), (3, .int (zI a)), (4, .int (zI b)), (5, .int (zI n0)), (6, .int (zI q0)), (7, .int (zI part))] → W p l e (zRm 1) s m args below meth c H locs 0 0 Q (F0 m 128 ls []) := by
                        intro n
                        refine Nat.strongRecOn n ?_
                        intro n ih128 ho lo wx nxx H locs ls hn128 h1 hlo hwx hz hl
                        refine lv_iload hx hb dX11_cock_128 (lv_at hl 0 rfl) ?_
                        refine lv_iload hx hb dX11_cock_130 (lv_at hl 7 rfl) ?_
                        refine z_icmp_ge (tgt := 249) hx hb dX11_cock_132 (by decide) (by omega) (by omega) (fun h132 => ?_) (fun h132 => ?_)
                        ·
                          have h16 := pow16 ho (by omega)
                          have hwq := hwx q0 (by omega) (by omega)
                          have hwb := wysS_bd (m := m0) (p := p0) (a := a) (b := b) (by omega) (by omega) (by omega) ho.toNat q0
                          refine lv_aload_n hx hb dX11_cock_249 rfl (lv_at hl 2 rfl) ?_
                          refine z_get (C := RX11) (T := TX11) (N := 23) (ref := "HornCityModel") hx hb hts hin_X11_cock_X11 hown hK hz 0 rfl rfl 19 (by decide) (hts _ fl_X11_cock_44) rfl rfl dX11_cock_250 ?_
                          refine lv_iload hx hb dX11_cock_253 (lv_at hl 8 rfl) ?_
                          refine z_lald hx hb hK hz 1 rfl (by omega) (by decide) dX11_cock_255 ?_
                          refine lv_lstore (lv' := [(10, .long (zL (wx q0))), (8, .long (zL lo)), (0, .ref md), (1, .int (zI m0)), (2, .int (zI p0)), (3, .int (zI a)), (4, .int (zI b)), (5, .int (zI n0)), (6, .int (zI q0)), (7, .int (zI part))]) hx hb dX11_cock_256 hl (Nat.le_of_ble_eq_true rfl) rfl (fun ls hl => ?_)
                          refine lv_lload hx hb dX11_cock_258 (lv_at hl 1 rfl) ?_
                          refine lv_lstore (lv' := [(12, .long (zL lo)), (10, .long (zL (wx q0))), (8, .long (zL lo)), (0, .ref md), (1, .int (zI m0)), (2, .int (zI p0)), (3, .int (zI a)), (4, .int (zI b)), (5, .int (zI n0)), (6, .int (zI q0)), (7, .int (zI part))]) hx hb dX11_cock_260 hl (Nat.le_of_ble_eq_true rfl) rfl (fun ls hl => ?_)
                          have L262 : ∀ (n : Nat) (y x : Int) (H : Heap) (locs : List Loc) (ls : Array Slot), (y.toNat = n) → ((0 ≤ x ∧ x ≤ 1000000000000000000) ∧ (0 ≤ y ∧ y ≤ 1000000000000000000) ∧ (0 < x ∨ 0 < y)) → (gcdZ (wx q0) lo = gcdZ x y) → zH D (zF ws0) H0 [(md, .inr (9, [.ref bk, .ref nw, .ref nt, .int (zI T), .ref df, .int (zI cn), .ref chk, .int (zI ln), .ref pa, .int (zI wat), .int (zI who), .int (zI rs), .int (zI act), .int (zI fse), .ref rc, .ref qu, .ref ct, .ref ft, .ref wn, .ref wy, .ref nx, .ref im, .ref ik])), (wy, .inl (cJ, 12, .inr (.inl (zAL wx)))), (nx, .inl (cJ, 12, .inr (.inl (zAL nxx))))] H locs → lv_has ls 16 [(12, .long (zL y)), (10, .long (zL x)), (8, .long (zL lo)), (0, .ref md), (1, .int (zI m0)), (2, .int (zI p0)), (3, .int (zI a)), (4, .int (zI b)), (5, .int (zI n0)), (6, .int (zI q0)), (7, .int (zI part))] → W p l e (zRm 1) s m args below meth c H locs 0 0 Q (F0 m 262 ls []) := by
                            intro n
                            refine Nat.strongRecOn n ?_
                            intro n ih262 y x H locs ls hn262 hxy hg hz hl
                            refine lv_lload hx hb dX11_cock_262 (lv_at hl 0 rfl) ?_
                            refine z_lconst hx hb (n := 0) dX11_cock_264 rfl ?_
                            refine z_lcmp hx hb dX11_cock_265 ?_
                            refine z_ifl_eq (tgt := 287) hx hb dX11_cock_266 (by decide) (by omega) (by omega) (fun h266 => ?_) (fun h266 => ?_)
                            ·
                              have hy0 : y = 0 := by omega
                              have hgx : gcdZ lo (wx q0) = x := by rw [gcdZ_comm, hg, hy0]; exact gcdZ_0 (by omega)
                              refine lv_iload hx hb dX11_cock_287 (lv_at hl 10 rfl) ?_
                              refine z_if_ne (tgt := 305) hx hb dX11_cock_289 (by decide) (by omega) (fun h289 => ?_) (fun h289 => ?_)
                              ·
                                refine lv_lload hx hb dX11_cock_305 (lv_at hl 2 rfl) ?_
                                refine lv_lload hx hb dX11_cock_307 (lv_at hl 1 rfl) ?_
                                refine z_ldiv hx hb dX11_cock_309 (by omega) (by omega) ?_
                                exact hret (((lo / x) : Int), (wx : Int → Int), (nxx : Int → Int)) dX11_cock_310 (show (lo / x) = coR m0 p0 a b n0 q0 part from (by unfold coR; rw [if_pos (by omega)]; unfold cocS; rw [show n0 = ho by omega, ← hwq, ← hlo, hgx]; exact (if_neg h289).symm)) hz
                              ·
                                refine lv_aload_n hx hb dX11_cock_292 rfl (lv_at hl 3 rfl) ?_
                                refine z_get (C := RX11) (T := TX11) (N := 23) (ref := "HornCityModel") hx hb hts hin_X11_cock_X11 hown hK hz 0 rfl rfl 19 (by decide) (hts _ fl_X11_cock_44) rfl rfl dX11_cock_293 ?_
                                refine lv_iload hx hb dX11_cock_296 (lv_at hl 9 rfl) ?_
                                refine z_lald hx hb hK hz 1 rfl (by omega) (by decide) dX11_cock_298 ?_
                                refine lv_lload hx hb dX11_cock_299 (lv_at hl 1 rfl) ?_
                                refine z_ldiv hx hb dX11_cock_301 (by omega) (by omega) ?_
                                refine lv_goto (tgt := 310) hx hb dX11_cock_302 (by decide) ?_
                                exact hret ((((wx q0) / x) : Int), (wx : Int → Int), (nxx : Int → Int)) dX11_cock_310 (show ((wx q0) / x) = coR m0 p0 a b n0 q0 part from (by unfold coR; rw [if_pos (by omega)]; unfold cocS; rw [show n0 = ho by omega, ← hwq, ← hlo, hgx]; exact (if_pos h289).symm)) hz
                            ·
                              refine lv_lload hx hb dX11_cock_269 (lv_at hl 1 rfl) ?_
                              refine lv_lload hx hb dX11_cock_271 (lv_at hl 0 rfl) ?_
                              refine z_lrem hx hb dX11_cock_273 (by omega) (by omega) ?_
                              refine lv_lstore (lv' := [(14, .long (zL (x % y))), (12, .long (zL y)), (10, .long (zL x)), (8, .long (zL lo)), (0, .ref md), (1, .int (zI m0)), (2, .int (zI p0)), (3, .int (zI a)), (4, .int (zI b)), (5, .int (zI n0)), (6, .int (zI q0)), (7, .int (zI part))]) hx hb dX11_cock_274 hl (Nat.le_of_ble_eq_true rfl) rfl (fun ls hl => ?_)
                              refine lv_lload hx hb dX11_cock_276 (lv_at hl 1 rfl) ?_
                              refine lv_lstore (lv' := [(10, .long (zL y)), (14, .long (zL (x % y))), (12, .long (zL y)), (8, .long (zL lo)), (0, .ref md), (1, .int (zI m0)), (2, .int (zI p0)), (3, .int (zI a)), (4, .int (zI b)), (5, .int (zI n0)), (6, .int (zI q0)), (7, .int (zI part))]) hx hb dX11_cock_278 hl (Nat.le_of_ble_eq_true rfl) rfl (fun ls hl => ?_)
                              refine lv_lload hx hb dX11_cock_280 (lv_at hl 1 rfl) ?_
                              refine lv_lstore (lv' := [(12, .long (zL (x % y))), (10, .long (zL y)), (14, .long (zL (x % y))), (8, .long (zL lo)), (0, .ref md), (1, .int (zI m0)), (2, .int (zI p0)), (3, .int (zI a)), (4, .int (zI b)), (5, .int (zI n0)), (6, .int (zI q0)), (7, .int (zI part))]) hx hb dX11_cock_282 hl (Nat.le_of_ble_eq_true rfl) rfl (fun ls hl => ?_)
                              refine lv_goto (tgt := 262) hx hb dX11_cock_284 (by decide) ?_
                              exact ih262 _ (by have h8 := Int.emod_nonneg x (show y ≠ 0 by omega); have h9 := Int.emod_lt_of_pos x (show 0 < y by omega); omega) (x % y) y H locs ls rfl (by have h8 := Int.emod_nonneg x (show y ≠ 0 by omega); have h9 := Int.emod_lt_of_pos x (show 0 < y by omega); omega) (by rw [hg]; exact gcdZ_s (by omega) (by omega)) hz (lv_sub hl [0, 1, 3, 4, 5, 6, 7, 8, 9, 10, 11] rfl)
                          exact L262 _ lo (wx q0) H locs ls rfl (by omega) (rfl) hz (lv_sub hl [0, 1, 2, 3, 4, 5, 6, 7, 8, 9, 10] rfl)
                        ·
                          refine lv_lload hx hb dX11_cock_135 (lv_at hl 1 rfl) ?_
                          refine z_ldc2 (n := 10) hx hb hown (hts (.constantLong RX11 153 10) (by decide +kernel)) (by decide +kernel) dX11_cock_137 ?_
                          refine z_lmul hx hb dX11_cock_140 ?_
                          refine lv_lstore (lv' := [(8, .long (zL (lo * 10))), (10, .int (zI ho)), (0, .ref md), (1, .int (zI m0)), (2, .int (zI p0)), (3, .int (zI a)), (4, .int (zI b)), (5, .int (zI n0)), (6, .int (zI q0)), (7, .int (zI part))]) hx hb dX11_cock_141 hl (Nat.le_of_ble_eq_true rfl) rfl (fun ls hl => ?_)
                          refine z_iconst hx hb dX11_cock_143 ?_
                          refine lv_istore (lv' := [(11, .int (zI 0)), (8, .long (zL (lo * 10))), (10, .int (zI ho)), (0, .ref md), (1, .int (zI m0)), (2, .int (zI p0)), (3, .int (zI a)), (4, .int (zI b)), (5, .int (zI n0)), (6, .int (zI q0)), (7, .int (zI part))]) hx hb dX11_cock_144 hl (Nat.le_of_ble_eq_true rfl) rfl (fun ls hl => ?_)
                          have L146 : ∀ (n : Nat) (k : Int) (nxy : Int → Int) (H : Heap) (locs : List Loc) (ls : Array Slot), ((m0 - k).toNat = n) → (0 ≤ k ∧ k ≤ m0) → (∀ j, 0 ≤ j → j < k → nxy j = nxtS m0 a b wx j) → zH D (zF ws0) H0 [(md, .inr (9, [.ref bk, .ref nw, .ref nt, .int (zI T), .ref df, .int (zI cn), .ref chk, .int (zI ln), .ref pa, .int (zI wat), .int (zI who), .int (zI rs), .int (zI act), .int (zI fse), .ref rc, .ref qu, .ref ct, .ref ft, .ref wn, .ref wy, .ref nx, .ref im, .ref ik])), (wy, .inl (cJ, 12, .inr (.inl (zAL wx)))), (nx, .inl (cJ, 12, .inr (.inl (zAL nxy))))] H locs → lv_has ls 16 [(11, .int (zI k)), (8, .long (zL (lo * 10))), (10, .int (zI ho)), (0, .ref md), (1, .int (zI m0)), (2, .int (zI p0)), (3, .int (zI a)), (4, .int (zI b)), (5, .int (zI n0)), (6, .int (zI q0)), (7, .int (zI part))] → W p l e (zRm 1) s m args below meth c H locs 0 0 Q (F0 m 146 ls []) := by
                            intro n
                            refine Nat.strongRecOn n ?_
                            intro n ih146 k nxy H locs ls hn146 h2 hny hz hl
                            refine lv_iload hx hb dX11_cock_146 (lv_at hl 0 rfl) ?_
                            refine lv_iload_n hx hb dX11_cock_148 rfl (lv_at hl 4 rfl) ?_
                            refine z_icmp_ge (tgt := 214) hx hb dX11_cock_149 (by decide) (by omega) (by omega) (fun h149 => ?_) (fun h149 => ?_)
                            ·
                              refine z_iconst hx hb dX11_cock_214 ?_
                              refine lv_istore (lv' := [(11, .int (zI 0)), (8, .long (zL (lo * 10))), (10, .int (zI ho)), (0, .ref md), (1, .int (zI m0)), (2, .int (zI p0)), (3, .int (zI a)), (4, .int (zI b)), (5, .int (zI n0)), (6, .int (zI q0)), (7, .int (zI part))]) hx hb dX11_cock_215 hl (Nat.le_of_ble_eq_true rfl) rfl (fun ls hl => ?_)
                              have L217 : ∀ (n : Nat) (k : Int) (wz : Int → Int) (H : Heap) (locs : List Loc) (ls : Array Slot), ((m0 - k).toNat = n) → (0 ≤ k ∧ k ≤ m0) → (∀ j, 0 ≤ j → j < k → wz j = nxtS m0 a b wx j) → zH D (zF ws0) H0 [(md, .inr (9, [.ref bk, .ref nw, .ref nt, .int (zI T), .ref df, .int (zI cn), .ref chk, .int (zI ln), .ref pa, .int (zI wat), .int (zI who), .int (zI rs), .int (zI act), .int (zI fse), .ref rc, .ref qu, .ref ct, .ref ft, .ref wn, .ref wy, .ref nx, .ref im, .ref ik])), (wy, .inl (cJ, 12, .inr (.inl (zAL wz)))), (nx, .inl (cJ, 12, .inr (.inl (zAL nxy))))] H locs → lv_has ls 16 [(11, .int (zI k)), (8, .long (zL (lo * 10))), (10, .int (zI ho)), (0, .ref md), (1, .int (zI m0)), (2, .int (zI p0)), (3, .int (zI a)), (4, .int (zI b)), (5, .int (zI n0)), (6, .int (zI q0)), (7, .int (zI part))] → W p l e (zRm 1) s m args below meth c H locs 0 0 Q (F0 m 217 ls []) := by
                                intro n
                                refine Nat.strongRecOn n ?_
                                intro n ih217 k wz H locs ls hn217 h3 hwz hz hl
                                refine lv_iload hx hb dX11_cock_217 (lv_at hl 0 rfl) ?_
                                refine lv_iload_n hx hb dX11_cock_219 rfl (lv_at hl 4 rfl) ?_
                                refine z_icmp_ge (tgt := 243) hx hb dX11_cock_220 (by decide) (by omega) (by omega) (fun h220 => ?_) (fun h220 => ?_)
                                ·
                                  refine z_iinc (lv' := [(10, .int (zI (ho + 1))), (11, .int (zI k)), (8, .long (zL (lo * 10))), (0, .ref md), (1, .int (zI m0)), (2, .int (zI p0)), (3, .int (zI a)), (4, .int (zI b)), (5, .int (zI n0)), (6, .int (zI q0)), (7, .int (zI part))]) hx hb dX11_cock_243 hl (k := 2) rfl (Nat.le_of_ble_eq_true rfl) rfl (fun ls hl => ?_)
                                  refine lv_goto (tgt := 128) hx hb dX11_cock_246 (by decide) ?_
                                  exact ih128 _ (by omega) (ho + 1) (lo * 10) wz nxy H locs ls rfl (by omega) (by rw [show (ho + 1).toNat = ho.toNat + 1 by omega, Int.pow_succ, ← hlo]) (fun v h1 h2 => by rw [show (ho + 1).toNat = ho.toNat + 1 by omega]; rw [hwz v h1 (by omega)]; exact nxtS_cg (by omega) hwx ⟨h1, h2⟩) hz (lv_sub hl [0, 2, 3, 4, 5, 6, 7, 8, 9, 10] rfl)
                                ·
                                  refine lv_aload_n hx hb dX11_cock_223 rfl (lv_at hl 3 rfl) ?_
                                  refine z_get (C := RX11) (T := TX11) (N := 23) (ref := "HornCityModel") hx hb hts hin_X11_cock_X11 hown hK hz 0 rfl rfl 19 (by decide) (hts _ fl_X11_cock_44) rfl rfl dX11_cock_224 ?_
                                  refine lv_iload hx hb dX11_cock_227 (lv_at hl 0 rfl) ?_
                                  refine lv_aload_n hx hb dX11_cock_229 rfl (lv_at hl 3 rfl) ?_
                                  refine z_get (C := RX11) (T := TX11) (N := 23) (ref := "HornCityModel") hx hb hts hin_X11_cock_X11 hown hK hz 0 rfl rfl 20 (by decide) (hts _ fl_X11_cock_48) rfl rfl dX11_cock_230 ?_
                                  refine lv_iload hx hb dX11_cock_233 (lv_at hl 0 rfl) ?_
                                  refine z_lald hx hb hK hz 2 rfl (by omega) (by decide) dX11_cock_235 ?_
                                  refine z_last hx hb hK hz 1 rfl (by omega) (by decide) dX11_cock_236 (fun H locs hz => ?_)
                                  have hz : zH D (zF ws0) H0 [(md, .inr (9, [.ref bk, .ref nw, .ref nt, .int (zI T), .ref df, .int (zI cn), .ref chk, .int (zI ln), .ref pa, .int (zI wat), .int (zI who), .int (zI rs), .int (zI act), .int (zI fse), .ref rc, .ref qu, .ref ct, .ref ft, .ref wn, .ref wy, .ref nx, .ref im, .ref ik])), (wy, .inl (cJ, 12, .inr (.inl (zAL (zU wz k (nxy k)))))), (nx, .inl (cJ, 12, .inr (.inl (zAL nxy))))] H locs := hz
                                  refine z_iinc (lv' := [(11, .int (zI (k + 1))), (8, .long (zL (lo * 10))), (10, .int (zI ho)), (0, .ref md), (1, .int (zI m0)), (2, .int (zI p0)), (3, .int (zI a)), (4, .int (zI b)), (5, .int (zI n0)), (6, .int (zI q0)), (7, .int (zI part))]) hx hb dX11_cock_237 hl (k := 0) rfl (Nat.le_of_ble_eq_true rfl) rfl (fun ls hl => ?_)
                                  refine lv_goto (tgt := 217) hx hb dX11_cock_240 (by decide) ?_
                                  exact ih217 _ (by omega) (k + 1) (zU wz k (nxy k)) H locs ls rfl (by omega) (by rw [hny k (by omega) (by omega)]; exact zU_cp hwz) hz (lv_sub hl [0, 1, 2, 3, 4, 5, 6, 7, 8, 9, 10] rfl)
                              exact L217 _ 0 wx H locs ls rfl (by omega) (fun j h1 h2 => absurd h1 (by omega)) hz (lv_sub hl [0, 1, 2, 3, 4, 5, 6, 7, 8, 9, 10] rfl)
                            ·
                              refine lv_aload_n hx hb dX11_cock_152 rfl (lv_at hl 3 rfl) ?_
                              refine z_get (C := RX11) (T := TX11) (N := 23) (ref := "HornCityModel") hx hb hts hin_X11_cock_X11 hown hK hz 0 rfl rfl 20 (by decide) (hts _ fl_X11_cock_48) rfl rfl dX11_cock_153 ?_
                              refine lv_iload hx hb dX11_cock_156 (lv_at hl 0 rfl) ?_
                              refine lv_aload_n hx hb dX11_cock_158 rfl (lv_at hl 3 rfl) ?_
                              refine z_get (C := RX11) (T := TX11) (N := 23) (ref := "HornCityModel") hx hb hts hin_X11_cock_X11 hown hK hz 0 rfl rfl 19 (by decide) (hts _ fl_X11_cock_44) rfl rfl dX11_cock_159 ?_
                              refine lv_iload hx hb dX11_cock_162 (lv_at hl 0 rfl) ?_
                              refine lv_iload_n hx hb dX11_cock_164 rfl (lv_at hl 4 rfl) ?_
                              refine z_iadd hx hb dX11_cock_165 ?_
                              refine z_iconst hx hb dX11_cock_166 ?_
                              refine z_isub hx hb dX11_cock_167 ?_
                              refine lv_iload_n hx hb dX11_cock_168 rfl (lv_at hl 4 rfl) ?_
                              refine z_irem hx hb dX11_cock_169 (by omega) (by omega) ?_
                              rw [wr_prev (k := k) (m := m0) (by omega)]
                              have hb1 := wrS_bd (m := m0) (v := k - 1) (by omega) (by omega)
                              refine z_lald hx hb hK hz 1 rfl (by omega) (by decide) dX11_cock_170 ?_
                              refine lv_iload_n hx hb dX11_cock_171 rfl (lv_at hl 6 rfl) ?_
                              refine z_i2l hx hb dX11_cock_172 (by omega) ?_
                              refine z_lmul hx hb dX11_cock_173 ?_
                              refine lv_aload_n hx hb dX11_cock_174 rfl (lv_at hl 3 rfl) ?_
                              refine z_get (C := RX11) (T := TX11) (N := 23) (ref := "HornCityModel") hx hb hts hin_X11_cock_X11 hown hK hz 0 rfl rfl 19 (by decide) (hts _ fl_X11_cock_44) rfl rfl dX11_cock_175 ?_
                              refine lv_iload hx hb dX11_cock_178 (lv_at hl 0 rfl) ?_
                              refine z_iconst hx hb dX11_cock_180 ?_
                              refine z_iadd hx hb dX11_cock_181 ?_
                              refine lv_iload_n hx hb dX11_cock_182 rfl (lv_at hl 4 rfl) ?_
                              refine z_irem hx hb dX11_cock_183 (by omega) (by omega) ?_
                              rw [wr_next (k := k) (m := m0) (by omega)]
                              have hb2 := wrS_bd (m := m0) (v := k + 1) (by omega) (by omega)
                              refine z_lald hx hb hK hz 1 rfl (by omega) (by decide) dX11_cock_184 ?_
                              refine lv_iload hx hb dX11_cock_185 (lv_at hl 7 rfl) ?_
                              refine z_i2l hx hb dX11_cock_187 (by omega) ?_
                              refine z_lmul hx hb dX11_cock_188 ?_
                              refine z_ladd hx hb dX11_cock_189 ?_
                              refine lv_aload_n hx hb dX11_cock_190 rfl (lv_at hl 3 rfl) ?_
                              refine z_get (C := RX11) (T := TX11) (N := 23) (ref := "HornCityModel") hx hb hts hin_X11_cock_X11 hown hK hz 0 rfl rfl 19 (by decide) (hts _ fl_X11_cock_44) rfl rfl dX11_cock_191 ?_
                              refine lv_iload hx hb dX11_cock_194 (lv_at hl 0 rfl) ?_
                              refine z_lald hx hb hK hz 1 rfl (by omega) (by decide) dX11_cock_196 ?_
                              refine z_bipush hx hb dX11_cock_197 (by decide) ?_
                              refine lv_iload_n hx hb dX11_cock_199 rfl (lv_at hl 6 rfl) ?_
                              refine z_isub hx hb dX11_cock_200 ?_
                              refine lv_iload hx hb dX11_cock_201 (lv_at hl 7 rfl) ?_
                              refine z_isub hx hb dX11_cock_203 ?_
                              refine z_i2l hx hb dX11_cock_204 (by omega) ?_
                              refine z_lmul hx hb dX11_cock_205 ?_
                              refine z_ladd hx hb dX11_cock_206 ?_
                              refine z_last hx hb hK hz 2 rfl (by omega) (by decide) dX11_cock_207 (fun H locs hz => ?_)
                              have hz : zH D (zF ws0) H0 [(md, .inr (9, [.ref bk, .ref nw, .ref nt, .int (zI T), .ref df, .int (zI cn), .ref chk, .int (zI ln), .ref pa, .int (zI wat), .int (zI who), .int (zI rs), .int (zI act), .int (zI fse), .ref rc, .ref qu, .ref ct, .ref ft, .ref wn, .ref wy, .ref nx, .ref im, .ref ik])), (wy, .inl (cJ, 12, .inr (.inl (zAL wx)))), (nx, .inl (cJ, 12, .inr (.inl (zAL (zU nxy k ((((wx (wrS m0 (k - 1))) * a) + ((wx (wrS m0 (k + 1))) * b)) + ((wx k) * ((10 - a) - b))))))))] H locs := hz
                              refine z_iinc (lv' := [(11, .int (zI (k + 1))), (8, .long (zL (lo * 10))), (10, .int (zI ho)), (0, .ref md), (1, .int (zI m0)), (2, .int (zI p0)), (3, .int (zI a)), (4, .int (zI b)), (5, .int (zI n0)), (6, .int (zI q0)), (7, .int (zI part))]) hx hb dX11_cock_208 hl (k := 0) rfl (Nat.le_of_ble_eq_true rfl) rfl (fun ls hl => ?_)
                              refine lv_goto (tgt := 146) hx hb dX11_cock_211 (by decide) ?_
                              exact ih146 _ (by omega) (k + 1) (zU nxy k ((((wx (wrS m0 (k - 1))) * a) + ((wx (wrS m0 (k + 1))) * b)) + ((wx k) * ((10 - a) - b)))) H locs ls rfl (by omega) (by have e9 : nxtS m0 a b wx k = ((((wx (wrS m0 (k - 1))) * a) + ((wx (wrS m0 (k + 1))) * b)) + ((wx k) * ((10 - a) - b))) := (by unfold nxtS; omega); have h9 := zU_cp hny; rw [e9] at h9; exact h9) hz (lv_sub hl [0, 1, 2, 3, 4, 5, 6, 7, 8, 9, 10] rfl)
                          exact L146 _ 0 nxx H locs ls rfl (by omega) (fun j h1 h2 => absurd h1 (by omega)) hz (lv_sub hl [0, 1, 2, 3, 4, 5, 6, 7, 8, 9, 10] rfl)
                      exact L128 _ 0 1 wx nxf H locs ls rfl (by omega) (rfl) (fun v h1 h2 => hw0 v h1 (by omega)) hz (lv_sub hl [0, 1, 2, 3, 4, 5, 6, 7, 8, 9] rfl)
                    ·
                      refine lv_aload_n hx hb dX11_cock_101 rfl (lv_at hl 2 rfl) ?_
                      refine z_get (C := RX11) (T := TX11) (N := 23) (ref := "HornCityModel") hx hb hts hin_X11_cock_X11 hown hK hz 0 rfl rfl 19 (by decide) (hts _ fl_X11_cock_44) rfl rfl dX11_cock_102 ?_
                      refine lv_iload hx hb dX11_cock_105 (lv_at hl 0 rfl) ?_
                      refine lv_iload hx hb dX11_cock_107 (lv_at hl 0 rfl) ?_
                      refine lv_iload_n hx hb dX11_cock_109 rfl (lv_at hl 4 rfl) ?_
                      refine z_icmp_ne (tgt := 117) hx hb dX11_cock_110 (by decide) (by omega) (by omega) (fun h110 => ?_) (fun h110 => ?_)
                      ·
                        refine z_lconst hx hb (n := 0) dX11_cock_117 rfl ?_
                        refine z_last hx hb hK hz 1 rfl (by omega) (by decide) dX11_cock_118 (fun H locs hz => ?_)
                        have hz : zH D (zF ws0) H0 [(md, .inr (9, [.ref bk, .ref nw, .ref nt, .int (zI T), .ref df, .int (zI cn), .ref chk, .int (zI ln), .ref pa, .int (zI wat), .int (zI who), .int (zI rs), .int (zI act), .int (zI fse), .ref rc, .ref qu, .ref ct, .ref ft, .ref wn, .ref wy, .ref nx, .ref im, .ref ik])), (wy, .inl (cJ, 12, .inr (.inl (zAL (zU wx k 0))))), (nx, .inl (cJ, 12, .inr (.inl (zAL nxf))))] H locs := hz
                        refine z_iinc (lv' := [(10, .int (zI (k + 1))), (8, .long (zL 1)), (0, .ref md), (1, .int (zI m0)), (2, .int (zI p0)), (3, .int (zI a)), (4, .int (zI b)), (5, .int (zI n0)), (6, .int (zI q0)), (7, .int (zI part))]) hx hb dX11_cock_119 hl (k := 0) rfl (Nat.le_of_ble_eq_true rfl) rfl (fun ls hl => ?_)
                        refine lv_goto (tgt := 94) hx hb dX11_cock_122 (by decide) ?_
                        exact ih94 _ (by omega) (k + 1) (zU wx k 0) H locs ls rfl (by omega) (by have e9 : wysS m0 p0 a b 0 k = 0 := if_neg h110; have h9 := zU_cp hw0; rw [e9] at h9; exact h9) hz (lv_sub hl [0, 1, 2, 3, 4, 5, 6, 7, 8, 9] rfl)
                      ·
                        refine z_lconst hx hb (n := 1) dX11_cock_113 rfl ?_
                        refine lv_goto (tgt := 118) hx hb dX11_cock_114 (by decide) ?_
                        refine z_last hx hb hK hz 1 rfl (by omega) (by decide) dX11_cock_118 (fun H locs hz => ?_)
                        have hz : zH D (zF ws0) H0 [(md, .inr (9, [.ref bk, .ref nw, .ref nt, .int (zI T), .ref df, .int (zI cn), .ref chk, .int (zI ln), .ref pa, .int (zI wat), .int (zI who), .int (zI rs), .int (zI act), .int (zI fse), .ref rc, .ref qu, .ref ct, .ref ft, .ref wn, .ref wy, .ref nx, .ref im, .ref ik])), (wy, .inl (cJ, 12, .inr (.inl (zAL (zU wx k 1))))), (nx, .inl (cJ, 12, .inr (.inl (zAL nxf))))] H locs := hz
                        refine z_iinc (lv' := [(10, .int (zI (k + 1))), (8, .long (zL 1)), (0, .ref md), (1, .int (zI m0)), (2, .int (zI p0)), (3, .int (zI a)), (4, .int (zI b)), (5, .int (zI n0)), (6, .int (zI q0)), (7, .int (zI part))]) hx hb dX11_cock_119 hl (k := 0) rfl (Nat.le_of_ble_eq_true rfl) rfl (fun ls hl => ?_)
                        refine lv_goto (tgt := 94) hx hb dX11_cock_122 (by decide) ?_
                        exact ih94 _ (by omega) (k + 1) (zU wx k 1) H locs ls rfl (by omega) (by have e9 : wysS m0 p0 a b 0 k = 1 := if_pos h110; have h9 := zU_cp hw0; rw [e9] at h9; exact h9) hz (lv_sub hl [0, 1, 2, 3, 4, 5, 6, 7, 8, 9] rfl)
                  exact L94 _ 0 wyf H0 [] ls rfl (by decide) (fun j h1 h2 => absurd h1 (by omega)) hz (lv_sub hl [0, 1, 2, 3, 4, 5, 6, 7, 8, 9] rfl)
                ·
                  refine z_ldc2 (n := (-1000000000000000002)) hx hb hown (hts (.constantLong RX11 151 (-1000000000000000002)) (by decide +kernel)) (by decide +kernel) dX11_cock_84 ?_
                  exact hret (((-1000000000000000002) : Int), (wyf : Int → Int), (nxf : Int → Int)) dX11_cock_87 (show (-1000000000000000002) = coR m0 p0 a b n0 q0 part from (by unfold coR; rw [if_neg (by omega)])) hz

set_option maxRecDepth 20000 in
theorem hin_X11_image_X11 : ∀ w ∈ u_ws RX11 TX11 23, w ∈ wsX11_image := by decide +kernel
set_option maxRecDepth 20000 in
theorem fl_X11_image_51 : Cond.fieldLink RX11 51 "HornCityModel" "image" "[I" ∈ wsX11_image := by decide +kernel
set_option maxRecDepth 20000 in
theorem fl_X11_image_65 : Cond.fieldLink RX11 65 "HornCityModel" "there" "I" ∈ wsX11_image := by decide +kernel
set_option maxRecDepth 20000 in
theorem fl_X11_image_142 : Cond.fieldLink RX11 142 "HornCityModel" "chalks" "I" ∈ wsX11_image := by decide +kernel
set_option maxRecDepth 20000 in
theorem fl_X11_image_54 : Cond.fieldLink RX11 54 "HornCityModel" "isKept" "[Z" ∈ wsX11_image := by decide +kernel
set_option maxRecDepth 20000 in
theorem fl_X11_image_22 : Cond.fieldLink RX11 22 "HornCityModel" "chalk" "[I" ∈ wsX11_image := by decide +kernel
set_option maxRecDepth 20000 in
theorem fl_X11_image_19 : Cond.fieldLink RX11 19 "HornCityModel" "drifts" "[I" ∈ wsX11_image := by decide +kernel
set_option maxRecDepth 20000 in
theorem fl_X11_image_7 : Cond.fieldLink RX11 7 "HornCityModel" "book" "[I" ∈ wsX11_image := by decide +kernel
set_option maxHeartbeats 4000000 in
set_option maxRecDepth 100000 in
theorem c_X11_image (l : Launch) (D : va_G) (cI cJ cZ : ClassId) (md bk nw nt df chk pa rc qu ct ft wn wy nx im ik : Nat) (inc mat kd dri iyf mkf imf ikf : Int → Int) (T cn ln wat who rs act fse tm yr n0 : Int) (hr : (-2147483648 ≤ n0 ∧ n0 ≤ 2147483647)) : zMw l yX11_image wsX11_image (zRm 1) D cI cJ cZ [.ref md, .int (zI n0)] [(md, .inr (9, [.ref bk, .ref nw, .ref nt, .int (zI T), .ref df, .int (zI cn), .ref chk, .int (zI ln), .ref pa, .int (zI wat), .int (zI who), .int (zI rs), .int (zI act), .int (zI fse), .ref rc, .ref qu, .ref ct, .ref ft, .ref wn, .ref wy, .ref nx, .ref im, .ref ik])), (bk, .inl (cI, 29, .inl (zA (nwS inc mat kd tm yr)))), (df, .inl (cI, 9, .inl (zA dri))), (chk, .inl (cI, 16, .inl (zA (chS iyf mkf)))), (im, .inl (cI, 120, .inl (zA imf))), (ik, .inl (cZ, 2, .inl (zA ikf)))] (S := Int × (Int → Int) × (Int → Int)) (fun u => u.1 = (if 0 ≤ n0 ∧ n0 ≤ 1 then 1 else -2) ∧ u.2.2 = (if 0 ≤ n0 ∧ n0 ≤ 1 then zU ikf n0 1 else ikf) ∧ ((0 ≤ n0 ∧ n0 ≤ 1) → imI u.2.1 (60 * n0) (imS inc dri mat kd T tm yr iyf mkf cn)) ∧ (∀ q, (q < 60 * n0 ∨ 60 * n0 + 60 ≤ q) → u.2.1 q = imf q) ∧ (¬ (0 ≤ n0 ∧ n0 ≤ 1) → u.2.1 = imf)) (fun u => some (.int (zI u.1))) (fun u => [(md, .inr (9, [.ref bk, .ref nw, .ref nt, .int (zI T), .ref df, .int (zI cn), .ref chk, .int (zI ln), .ref pa, .int (zI wat), .int (zI who), .int (zI rs), .int (zI act), .int (zI fse), .ref rc, .ref qu, .ref ct, .ref ft, .ref wn, .ref wy, .ref nx, .ref im, .ref ik])), (bk, .inl (cI, 29, .inl (zA (nwS inc mat kd tm yr)))), (df, .inl (cI, 9, .inl (zA dri))), (chk, .inl (cI, 16, .inl (zA (chS iyf mkf)))), (im, .inl (cI, 120, .inl (zA u.2.1))), (ik, .inl (cZ, 2, .inl (zA u.2.2)))]) := by
  refine zMw_i (cc := cX11_image) (maxL := 4) (by decide +kernel) rfl (Nat.le_of_ble_eq_true rfl) rfl (fun _ => rfl) ?_
  intro p e s m args below meth c Q H0 ls F hK hz hl hret
  obtain ⟨hx, hb, hml, hown0, hts⟩ := id F
  have hown : s.vm.findClass RX11 = some m.cls := hown0
  obtain ⟨ws0, hw0⟩ : ∃ w : va_W, w = [(md, .inr (9, [.ref bk, .ref nw, .ref nt, .int (zI T), .ref df, .int (zI cn), .ref chk, .int (zI ln), .ref pa, .int (zI wat), .int (zI who), .int (zI rs), .int (zI act), .int (zI fse), .ref rc, .ref qu, .ref ct, .ref ft, .ref wn, .ref wy, .ref nx, .ref im, .ref ik])), (bk, .inl (cI, 29, .inl (zA (nwS inc mat kd tm yr)))), (df, .inl (cI, 9, .inl (zA dri))), (chk, .inl (cI, 16, .inl (zA (chS iyf mkf)))), (im, .inl (cI, 120, .inl (zA imf))), (ik, .inl (cZ, 2, .inl (zA ikf)))] := ⟨_, rfl⟩
  rw [← hw0] at hret
  have hz : zH D (zF ws0) H0 [(md, .inr (9, [.ref bk, .ref nw, .ref nt, .int (zI T), .ref df, .int (zI cn), .ref chk, .int (zI ln), .ref pa, .int (zI wat), .int (zI who), .int (zI rs), .int (zI act), .int (zI fse), .ref rc, .ref qu, .ref ct, .ref ft, .ref wn, .ref wy, .ref nx, .ref im, .ref ik])), (bk, .inl (cI, 29, .inl (zA (nwS inc mat kd tm yr)))), (df, .inl (cI, 9, .inl (zA dri))), (chk, .inl (cI, 16, .inl (zA (chS iyf mkf)))), (im, .inl (cI, 120, .inl (zA imf))), (ik, .inl (cZ, 2, .inl (zA ikf)))] H0 [] := by rw [hw0]; exact hz
  have hl : lv_has ls 4 [(0, .ref md), (1, .int (zI n0))] := hl
  refine lv_iload_n hx hb dX11_image_0 rfl (lv_at hl 1 rfl) ?_
  refine z_iconst hx hb dX11_image_1 ?_
  refine z_iconst hx hb dX11_image_2 ?_
  refine z_callSp (As := [.int (zI n0), .int (zI 0), .int (zI 1)]) (rest := []) F hK hz hl (c_X11_in l D cI cJ cZ n0 0 1 (by omega)) (va_cwS 3 hts gX11_image_X11_in rfl rfl rfl (by decide +kernel) ⟨Nat.le_of_ble_eq_true rfl, Nat.le_of_ble_eq_true rfl⟩) [] rfl rfl rfl rfl (Nat.le_of_ble_eq_true rfl) ⟨Nat.le_of_ble_eq_true rfl, Nat.le_of_ble_eq_true rfl⟩ dX11_image_3 ?_
  refine z_ifb_ne (tgt := 12) hx hb dX11_image_6 (by decide) (fun h6 => ?_) (fun h6 => ?_)
  ·
    refine z_bipush hx hb dX11_image_12 (by decide) ?_
    refine lv_iload_n hx hb dX11_image_14 rfl (lv_at hl 1 rfl) ?_
    refine z_imul hx hb dX11_image_15 ?_
    refine lv_istore_n (lv' := [(2, .int (zI (60 * n0))), (0, .ref md), (1, .int (zI n0))]) hx hb dX11_image_16 rfl hl (Nat.le_of_ble_eq_true rfl) rfl (fun ls hl => ?_)
    refine z_iconst hx hb dX11_image_17 ?_
    refine lv_istore_n (lv' := [(3, .int (zI 0)), (2, .int (zI (60 * n0))), (0, .ref md), (1, .int (zI n0))]) hx hb dX11_image_18 rfl hl (Nat.le_of_ble_eq_true rfl) rfl (fun ls hl => ?_)
    have L19 : ∀ (n : Nat) (k : Int) (ix : Int → Int) (H : Heap) (locs : List Loc) (ls : Array Slot), ((29 - k).toNat = n) → (0 ≤ k ∧ k ≤ 29) → (ix = cpS imf (imS inc dri mat kd T tm yr iyf mkf cn) (60 * n0) k) → zH D (zF ws0) H0 [(md, .inr (9, [.ref bk, .ref nw, .ref nt, .int (zI T), .ref df, .int (zI cn), .ref chk, .int (zI ln), .ref pa, .int (zI wat), .int (zI who), .int (zI rs), .int (zI act), .int (zI fse), .ref rc, .ref qu, .ref ct, .ref ft, .ref wn, .ref wy, .ref nx, .ref im, .ref ik])), (bk, .inl (cI, 29, .inl (zA (nwS inc mat kd tm yr)))), (df, .inl (cI, 9, .inl (zA dri))), (chk, .inl (cI, 16, .inl (zA (chS iyf mkf)))), (im, .inl (cI, 120, .inl (zA ix))), (ik, .inl (cZ, 2, .inl (zA ikf)))] H locs → lv_has ls 4 [(3, .int (zI k)), (2, .int (zI (60 * n0))), (0, .ref md), (1, .int (zI n0))] → W p l e (zRm 1) s m args below meth c H locs 0 0 Q (F0 m 19 ls []) := by
      intro n
      refine Nat.strongRecOn n ?_
      intro n ih19 k ix H locs ls hn19 h0 hx9 hz hl
      refine lv_iload_n hx hb dX11_image_19 rfl (lv_at hl 0 rfl) ?_
      refine z_bipush hx hb dX11_image_20 (by decide) ?_
      refine z_icmp_ge (tgt := 45) hx hb dX11_image_22 (by decide) (by omega) (by decide) (fun h22 => ?_) (fun h22 => ?_)
      ·
        refine z_iconst hx hb dX11_image_45 ?_
        refine lv_istore_n (lv' := [(3, .int (zI 0)), (2, .int (zI (60 * n0))), (0, .ref md), (1, .int (zI n0))]) hx hb dX11_image_46 rfl hl (Nat.le_of_ble_eq_true rfl) rfl (fun ls hl => ?_)
        have L47 : ∀ (n : Nat) (k : Int) (ix : Int → Int) (H : Heap) (locs : List Loc) (ls : Array Slot), ((9 - k).toNat = n) → (0 ≤ k ∧ k ≤ 9) → (ix = cpS imf (imS inc dri mat kd T tm yr iyf mkf cn) (60 * n0) (29 + k)) → zH D (zF ws0) H0 [(md, .inr (9, [.ref bk, .ref nw, .ref nt, .int (zI T), .ref df, .int (zI cn), .ref chk, .int (zI ln), .ref pa, .int (zI wat), .int (zI who), .int (zI rs), .int (zI act), .int (zI fse), .ref rc, .ref qu, .ref ct, .ref ft, .ref wn, .ref wy, .ref nx, .ref im, .ref ik])), (bk, .inl (cI, 29, .inl (zA (nwS inc mat kd tm yr)))), (df, .inl (cI, 9, .inl (zA dri))), (chk, .inl (cI, 16, .inl (zA (chS iyf mkf)))), (im, .inl (cI, 120, .inl (zA ix))), (ik, .inl (cZ, 2, .inl (zA ikf)))] H locs → lv_has ls 4 [(3, .int (zI k)), (2, .int (zI (60 * n0))), (0, .ref md), (1, .int (zI n0))] → W p l e (zRm 1) s m args below meth c H locs 0 0 Q (F0 m 47 ls []) := by
          intro n
          refine Nat.strongRecOn n ?_
          intro n ih47 k ix H locs ls hn47 h0b hx8 hz hl
          refine lv_iload_n hx hb dX11_image_47 rfl (lv_at hl 0 rfl) ?_
          refine z_bipush hx hb dX11_image_48 (by decide) ?_
          refine z_icmp_ge (tgt := 76) hx hb dX11_image_50 (by decide) (by omega) (by decide) (fun h50 => ?_) (fun h50 => ?_)
          ·
            refine z_iconst hx hb dX11_image_76 ?_
            refine lv_istore_n (lv' := [(3, .int (zI 0)), (2, .int (zI (60 * n0))), (0, .ref md), (1, .int (zI n0))]) hx hb dX11_image_77 rfl hl (Nat.le_of_ble_eq_true rfl) rfl (fun ls hl => ?_)
            have L78 : ∀ (n : Nat) (k : Int) (ix : Int → Int) (H : Heap) (locs : List Loc) (ls : Array Slot), ((16 - k).toNat = n) → (0 ≤ k ∧ k ≤ 16) → (ix = cpS imf (imS inc dri mat kd T tm yr iyf mkf cn) (60 * n0) (38 + k)) → zH D (zF ws0) H0 [(md, .inr (9, [.ref bk, .ref nw, .ref nt, .int (zI T), .ref df, .int (zI cn), .ref chk, .int (zI ln), .ref pa, .int (zI wat), .int (zI who), .int (zI rs), .int (zI act), .int (zI fse), .ref rc, .ref qu, .ref ct, .ref ft, .ref wn, .ref wy, .ref nx, .ref im, .ref ik])), (bk, .inl (cI, 29, .inl (zA (nwS inc mat kd tm yr)))), (df, .inl (cI, 9, .inl (zA dri))), (chk, .inl (cI, 16, .inl (zA (chS iyf mkf)))), (im, .inl (cI, 120, .inl (zA ix))), (ik, .inl (cZ, 2, .inl (zA ikf)))] H locs → lv_has ls 4 [(3, .int (zI k)), (2, .int (zI (60 * n0))), (0, .ref md), (1, .int (zI n0))] → W p l e (zRm 1) s m args below meth c H locs 0 0 Q (F0 m 78 ls []) := by
              intro n
              refine Nat.strongRecOn n ?_
              intro n ih78 k ix H locs ls hn78 h0c hx7 hz hl
              refine lv_iload_n hx hb dX11_image_78 rfl (lv_at hl 0 rfl) ?_
              refine z_bipush hx hb dX11_image_79 (by decide) ?_
              refine z_icmp_ge (tgt := 107) hx hb dX11_image_81 (by decide) (by omega) (by decide) (fun h81 => ?_) (fun h81 => ?_)
              ·
                refine lv_aload_n hx hb dX11_image_107 rfl (lv_at hl 2 rfl) ?_
                refine z_get (C := RX11) (T := TX11) (N := 23) (ref := "HornCityModel") hx hb hts hin_X11_image_X11 hown hK hz 0 rfl rfl 21 (by decide) (hts _ fl_X11_image_51) rfl rfl dX11_image_108 ?_
                refine lv_iload_n hx hb dX11_image_111 rfl (lv_at hl 1 rfl) ?_
                refine z_bipush hx hb dX11_image_112 (by decide) ?_
                refine z_iadd hx hb dX11_image_114 ?_
                refine lv_aload_n hx hb dX11_image_115 rfl (lv_at hl 2 rfl) ?_
                refine z_get (C := RX11) (T := TX11) (N := 23) (ref := "HornCityModel") hx hb hts hin_X11_image_X11 hown hK hz 0 rfl rfl 3 (by decide) (hts _ fl_X11_image_65) rfl rfl dX11_image_116 ?_
                refine z_iast hx hb hK hz 4 rfl (by omega) (by decide) dX11_image_119 (fun H locs hz => ?_)
                have hz : zH D (zF ws0) H0 [(md, .inr (9, [.ref bk, .ref nw, .ref nt, .int (zI T), .ref df, .int (zI cn), .ref chk, .int (zI ln), .ref pa, .int (zI wat), .int (zI who), .int (zI rs), .int (zI act), .int (zI fse), .ref rc, .ref qu, .ref ct, .ref ft, .ref wn, .ref wy, .ref nx, .ref im, .ref ik])), (bk, .inl (cI, 29, .inl (zA (nwS inc mat kd tm yr)))), (df, .inl (cI, 9, .inl (zA dri))), (chk, .inl (cI, 16, .inl (zA (chS iyf mkf)))), (im, .inl (cI, 120, .inl (zA (zU ix ((60 * n0) + 55) T)))), (ik, .inl (cZ, 2, .inl (zA ikf)))] H locs := hz
                refine lv_aload_n hx hb dX11_image_120 rfl (lv_at hl 2 rfl) ?_
                refine z_get (C := RX11) (T := TX11) (N := 23) (ref := "HornCityModel") hx hb hts hin_X11_image_X11 hown hK hz 0 rfl rfl 21 (by decide) (hts _ fl_X11_image_51) rfl rfl dX11_image_121 ?_
                refine lv_iload_n hx hb dX11_image_124 rfl (lv_at hl 1 rfl) ?_
                refine z_bipush hx hb dX11_image_125 (by decide) ?_
                refine z_iadd hx hb dX11_image_127 ?_
                refine lv_aload_n hx hb dX11_image_128 rfl (lv_at hl 2 rfl) ?_
                refine z_get (C := RX11) (T := TX11) (N := 23) (ref := "HornCityModel") hx hb hts hin_X11_image_X11 hown hK hz 0 rfl rfl 5 (by decide) (hts _ fl_X11_image_142) rfl rfl dX11_image_129 ?_
                refine z_iast hx hb hK hz 4 rfl (by omega) (by decide) dX11_image_132 (fun H locs hz => ?_)
                have hz : zH D (zF ws0) H0 [(md, .inr (9, [.ref bk, .ref nw, .ref nt, .int (zI T), .ref df, .int (zI cn), .ref chk, .int (zI ln), .ref pa, .int (zI wat), .int (zI who), .int (zI rs), .int (zI act), .int (zI fse), .ref rc, .ref qu, .ref ct, .ref ft, .ref wn, .ref wy, .ref nx, .ref im, .ref ik])), (bk, .inl (cI, 29, .inl (zA (nwS inc mat kd tm yr)))), (df, .inl (cI, 9, .inl (zA dri))), (chk, .inl (cI, 16, .inl (zA (chS iyf mkf)))), (im, .inl (cI, 120, .inl (zA (zU (zU ix ((60 * n0) + 55) T) ((60 * n0) + 56) cn)))), (ik, .inl (cZ, 2, .inl (zA ikf)))] H locs := hz
                refine lv_aload_n hx hb dX11_image_133 rfl (lv_at hl 2 rfl) ?_
                refine z_get (C := RX11) (T := TX11) (N := 23) (ref := "HornCityModel") hx hb hts hin_X11_image_X11 hown hK hz 0 rfl rfl 22 (by decide) (hts _ fl_X11_image_54) rfl rfl dX11_image_134 ?_
                refine lv_iload_n hx hb dX11_image_137 rfl (lv_at hl 3 rfl) ?_
                refine z_iconst hx hb dX11_image_138 ?_
                refine z_zast hx hb hK hz 5 rfl (by omega) (by decide) (by first | decide | omega | (split <;> decide)) dX11_image_139 (fun H locs hz => ?_)
                have hz : zH D (zF ws0) H0 [(md, .inr (9, [.ref bk, .ref nw, .ref nt, .int (zI T), .ref df, .int (zI cn), .ref chk, .int (zI ln), .ref pa, .int (zI wat), .int (zI who), .int (zI rs), .int (zI act), .int (zI fse), .ref rc, .ref qu, .ref ct, .ref ft, .ref wn, .ref wy, .ref nx, .ref im, .ref ik])), (bk, .inl (cI, 29, .inl (zA (nwS inc mat kd tm yr)))), (df, .inl (cI, 9, .inl (zA dri))), (chk, .inl (cI, 16, .inl (zA (chS iyf mkf)))), (im, .inl (cI, 120, .inl (zA (zU (zU ix ((60 * n0) + 55) T) ((60 * n0) + 56) cn)))), (ik, .inl (cZ, 2, .inl (zA (zU ikf n0 1))))] H locs := hz
                refine z_iconst hx hb dX11_image_140 ?_
                exact hret ((1 : Int), (zU (zU ix ((60 * n0) + 55) T) ((60 * n0) + 56) cn : Int → Int), (zU ikf n0 1 : Int → Int)) dX11_image_141 (show 1 = (if 0 ≤ n0 ∧ n0 ≤ 1 then 1 else -2) ∧ (zU ikf n0 1) = (if 0 ≤ n0 ∧ n0 ≤ 1 then zU ikf n0 1 else ikf) ∧ ((0 ≤ n0 ∧ n0 ≤ 1) → imI (zU (zU ix ((60 * n0) + 55) T) ((60 * n0) + 56) cn) (60 * n0) (imS inc dri mat kd T tm yr iyf mkf cn)) ∧ (∀ q, (q < 60 * n0 ∨ 60 * n0 + 60 ≤ q) → (zU (zU ix ((60 * n0) + 55) T) ((60 * n0) + 56) cn) q = imf q) ∧ (¬ (0 ≤ n0 ∧ n0 ≤ 1) → (zU (zU ix ((60 * n0) + 55) T) ((60 * n0) + 56) cn) = imf) from ⟨by rw [if_pos h6], by rw [if_pos h6], fun _ j h1 h2 h3 => by (rw [hx7, show k = 16 by omega]; unfold zU cpS; exact if h56 : j = 56 then by (rw [if_pos (by omega), h56]; rfl) else if h55 : j = 55 then by (rw [if_neg (by omega), if_pos (by omega), h55]; rfl) else by (rw [if_neg (by omega), if_neg (by omega), if_pos (by omega), show 60 * n0 + j - 60 * n0 = j by omega])), fun q hq => by (rw [hx7, show k = 16 by omega]; unfold zU cpS; rw [if_neg (by omega), if_neg (by omega), if_neg (by omega)]), fun q => absurd h6 q⟩) hz
              ·
                refine lv_aload_n hx hb dX11_image_84 rfl (lv_at hl 2 rfl) ?_
                refine z_get (C := RX11) (T := TX11) (N := 23) (ref := "HornCityModel") hx hb hts hin_X11_image_X11 hown hK hz 0 rfl rfl 21 (by decide) (hts _ fl_X11_image_51) rfl rfl dX11_image_85 ?_
                refine lv_iload_n hx hb dX11_image_88 rfl (lv_at hl 1 rfl) ?_
                refine z_bipush hx hb dX11_image_89 (by decide) ?_
                refine z_iadd hx hb dX11_image_91 ?_
                refine lv_iload_n hx hb dX11_image_92 rfl (lv_at hl 0 rfl) ?_
                refine z_iadd hx hb dX11_image_93 ?_
                refine lv_aload_n hx hb dX11_image_94 rfl (lv_at hl 2 rfl) ?_
                refine z_get (C := RX11) (T := TX11) (N := 23) (ref := "HornCityModel") hx hb hts hin_X11_image_X11 hown hK hz 0 rfl rfl 6 (by decide) (hts _ fl_X11_image_22) rfl rfl dX11_image_95 ?_
                refine lv_iload_n hx hb dX11_image_98 rfl (lv_at hl 0 rfl) ?_
                refine z_iald hx hb hK hz 3 rfl (by omega) (by decide) dX11_image_99 ?_
                refine z_iast hx hb hK hz 4 rfl (by omega) (by decide) dX11_image_100 (fun H locs hz => ?_)
                have hz : zH D (zF ws0) H0 [(md, .inr (9, [.ref bk, .ref nw, .ref nt, .int (zI T), .ref df, .int (zI cn), .ref chk, .int (zI ln), .ref pa, .int (zI wat), .int (zI who), .int (zI rs), .int (zI act), .int (zI fse), .ref rc, .ref qu, .ref ct, .ref ft, .ref wn, .ref wy, .ref nx, .ref im, .ref ik])), (bk, .inl (cI, 29, .inl (zA (nwS inc mat kd tm yr)))), (df, .inl (cI, 9, .inl (zA dri))), (chk, .inl (cI, 16, .inl (zA (chS iyf mkf)))), (im, .inl (cI, 120, .inl (zA (zU ix (((60 * n0) + 38) + k) ((chS iyf mkf) k))))), (ik, .inl (cZ, 2, .inl (zA ikf)))] H locs := hz
                refine z_iinc (lv' := [(3, .int (zI (k + 1))), (2, .int (zI (60 * n0))), (0, .ref md), (1, .int (zI n0))]) hx hb dX11_image_101 hl (k := 0) rfl (Nat.le_of_ble_eq_true rfl) rfl (fun ls hl => ?_)
                refine lv_goto (tgt := 78) hx hb dX11_image_104 (by decide) ?_
                exact ih78 _ (by omega) (k + 1) (zU ix (((60 * n0) + 38) + k) ((chS iyf mkf) k)) H locs ls rfl (by omega) (by rw [hx7, show 38 + (k + 1) = 38 + k + 1 by omega]; exact cpS_s (by omega) (by unfold imS; rw [if_neg (by omega), if_neg (by omega), if_pos (by omega), show 38 + k - 38 = k by omega]) (by omega)) hz (lv_sub hl [0, 1, 2, 3] rfl)
            exact L78 _ 0 ix H locs ls rfl (by decide) (by rw [hx8, show k = 9 by omega]; rfl) hz (lv_sub hl [0, 1, 2, 3] rfl)
          ·
            refine lv_aload_n hx hb dX11_image_53 rfl (lv_at hl 2 rfl) ?_
            refine z_get (C := RX11) (T := TX11) (N := 23) (ref := "HornCityModel") hx hb hts hin_X11_image_X11 hown hK hz 0 rfl rfl 21 (by decide) (hts _ fl_X11_image_51) rfl rfl dX11_image_54 ?_
            refine lv_iload_n hx hb dX11_image_57 rfl (lv_at hl 1 rfl) ?_
            refine z_bipush hx hb dX11_image_58 (by decide) ?_
            refine z_iadd hx hb dX11_image_60 ?_
            refine lv_iload_n hx hb dX11_image_61 rfl (lv_at hl 0 rfl) ?_
            refine z_iadd hx hb dX11_image_62 ?_
            refine lv_aload_n hx hb dX11_image_63 rfl (lv_at hl 2 rfl) ?_
            refine z_get (C := RX11) (T := TX11) (N := 23) (ref := "HornCityModel") hx hb hts hin_X11_image_X11 hown hK hz 0 rfl rfl 4 (by decide) (hts _ fl_X11_image_19) rfl rfl dX11_image_64 ?_
            refine lv_iload_n hx hb dX11_image_67 rfl (lv_at hl 0 rfl) ?_
            refine z_iald hx hb hK hz 2 rfl (by omega) (by decide) dX11_image_68 ?_
            refine z_iast hx hb hK hz 4 rfl (by omega) (by decide) dX11_image_69 (fun H locs hz => ?_)
            have hz : zH D (zF ws0) H0 [(md, .inr (9, [.ref bk, .ref nw, .ref nt, .int (zI T), .ref df, .int (zI cn), .ref chk, .int (zI ln), .ref pa, .int (zI wat), .int (zI who), .int (zI rs), .int (zI act), .int (zI fse), .ref rc, .ref qu, .ref ct, .ref ft, .ref wn, .ref wy, .ref nx, .ref im, .ref ik])), (bk, .inl (cI, 29, .inl (zA (nwS inc mat kd tm yr)))), (df, .inl (cI, 9, .inl (zA dri))), (chk, .inl (cI, 16, .inl (zA (chS iyf mkf)))), (im, .inl (cI, 120, .inl (zA (zU ix (((60 * n0) + 29) + k) (dri k))))), (ik, .inl (cZ, 2, .inl (zA ikf)))] H locs := hz
            refine z_iinc (lv' := [(3, .int (zI (k + 1))), (2, .int (zI (60 * n0))), (0, .ref md), (1, .int (zI n0))]) hx hb dX11_image_70 hl (k := 0) rfl (Nat.le_of_ble_eq_true rfl) rfl (fun ls hl => ?_)
            refine lv_goto (tgt := 47) hx hb dX11_image_73 (by decide) ?_
            exact ih47 _ (by omega) (k + 1) (zU ix (((60 * n0) + 29) + k) (dri k)) H locs ls rfl (by omega) (by rw [hx8, show 29 + (k + 1) = 29 + k + 1 by omega]; exact cpS_s (by omega) (by unfold imS; rw [if_neg (by omega), if_pos (by omega), show 29 + k - 29 = k by omega]) (by omega)) hz (lv_sub hl [0, 1, 2, 3] rfl)
        exact L47 _ 0 ix H locs ls rfl (by decide) (by rw [hx9, show k = 29 by omega]; rfl) hz (lv_sub hl [0, 1, 2, 3] rfl)
      ·
        refine lv_aload_n hx hb dX11_image_25 rfl (lv_at hl 2 rfl) ?_
        refine z_get (C := RX11) (T := TX11) (N := 23) (ref := "HornCityModel") hx hb hts hin_X11_image_X11 hown hK hz 0 rfl rfl 21 (by decide) (hts _ fl_X11_image_51) rfl rfl dX11_image_26 ?_
        refine lv_iload_n hx hb dX11_image_29 rfl (lv_at hl 1 rfl) ?_
        refine lv_iload_n hx hb dX11_image_30 rfl (lv_at hl 0 rfl) ?_
        refine z_iadd hx hb dX11_image_31 ?_
        refine lv_aload_n hx hb dX11_image_32 rfl (lv_at hl 2 rfl) ?_
        refine z_get (C := RX11) (T := TX11) (N := 23) (ref := "HornCityModel") hx hb hts hin_X11_image_X11 hown hK hz 0 rfl rfl 0 (by decide) (hts _ fl_X11_image_7) rfl rfl dX11_image_33 ?_
        refine lv_iload_n hx hb dX11_image_36 rfl (lv_at hl 0 rfl) ?_
        refine z_iald hx hb hK hz 1 rfl (by omega) (by decide) dX11_image_37 ?_
        refine z_iast hx hb hK hz 4 rfl (by omega) (by decide) dX11_image_38 (fun H locs hz => ?_)
        have hz : zH D (zF ws0) H0 [(md, .inr (9, [.ref bk, .ref nw, .ref nt, .int (zI T), .ref df, .int (zI cn), .ref chk, .int (zI ln), .ref pa, .int (zI wat), .int (zI who), .int (zI rs), .int (zI act), .int (zI fse), .ref rc, .ref qu, .ref ct, .ref ft, .ref wn, .ref wy, .ref nx, .ref im, .ref ik])), (bk, .inl (cI, 29, .inl (zA (nwS inc mat kd tm yr)))), (df, .inl (cI, 9, .inl (zA dri))), (chk, .inl (cI, 16, .inl (zA (chS iyf mkf)))), (im, .inl (cI, 120, .inl (zA (zU ix ((60 * n0) + k) ((nwS inc mat kd tm yr) k))))), (ik, .inl (cZ, 2, .inl (zA ikf)))] H locs := hz
        refine z_iinc (lv' := [(3, .int (zI (k + 1))), (2, .int (zI (60 * n0))), (0, .ref md), (1, .int (zI n0))]) hx hb dX11_image_39 hl (k := 0) rfl (Nat.le_of_ble_eq_true rfl) rfl (fun ls hl => ?_)
        refine lv_goto (tgt := 19) hx hb dX11_image_42 (by decide) ?_
        exact ih19 _ (by omega) (k + 1) (zU ix ((60 * n0) + k) ((nwS inc mat kd tm yr) k)) H locs ls rfl (by omega) (by rw [hx9]; exact cpS_s (by omega) (by unfold imS; rw [if_pos (by omega)]) rfl) hz (lv_sub hl [0, 1, 2, 3] rfl)
    exact L19 _ 0 imf H0 [] ls rfl (by decide) (cpS_0) hz (lv_sub hl [0, 1, 2, 3] rfl)
  ·
    refine z_bipush hx hb dX11_image_9 (by decide) ?_
    exact hret (((-2) : Int), (imf : Int → Int), (ikf : Int → Int)) dX11_image_11 (show (-2) = (if 0 ≤ n0 ∧ n0 ≤ 1 then 1 else -2) ∧ ikf = (if 0 ≤ n0 ∧ n0 ≤ 1 then zU ikf n0 1 else ikf) ∧ ((0 ≤ n0 ∧ n0 ≤ 1) → imI imf (60 * n0) (imS inc dri mat kd T tm yr iyf mkf cn)) ∧ (∀ q, (q < 60 * n0 ∨ 60 * n0 + 60 ≤ q) → imf q = imf q) ∧ (¬ (0 ≤ n0 ∧ n0 ≤ 1) → imf = imf) from ⟨by rw [if_neg h6], by rw [if_neg h6], fun q => absurd q h6, fun _ _ => rfl, fun _ => rfl⟩) hz

set_option maxRecDepth 20000 in
theorem hin_X11_restore_X11 : ∀ w ∈ u_ws RX11 TX11 23, w ∈ wsX11_restore := by decide +kernel
set_option maxRecDepth 20000 in
theorem fl_X11_restore_54 : Cond.fieldLink RX11 54 "HornCityModel" "isKept" "[Z" ∈ wsX11_restore := by decide +kernel
set_option maxRecDepth 20000 in
theorem fl_X11_restore_51 : Cond.fieldLink RX11 51 "HornCityModel" "image" "[I" ∈ wsX11_restore := by decide +kernel
set_option maxRecDepth 20000 in
theorem fl_X11_restore_65 : Cond.fieldLink RX11 65 "HornCityModel" "there" "I" ∈ wsX11_restore := by decide +kernel
set_option maxRecDepth 20000 in
theorem fl_X11_restore_142 : Cond.fieldLink RX11 142 "HornCityModel" "chalks" "I" ∈ wsX11_restore := by decide +kernel
set_option maxRecDepth 20000 in
theorem fl_X11_restore_22 : Cond.fieldLink RX11 22 "HornCityModel" "chalk" "[I" ∈ wsX11_restore := by decide +kernel
set_option maxRecDepth 20000 in
theorem fl_X11_restore_19 : Cond.fieldLink RX11 19 "HornCityModel" "drifts" "[I" ∈ wsX11_restore := by decide +kernel
set_option maxRecDepth 20000 in
theorem fl_X11_restore_7 : Cond.fieldLink RX11 7 "HornCityModel" "book" "[I" ∈ wsX11_restore := by decide +kernel
set_option maxHeartbeats 4000000 in
set_option maxRecDepth 100000 in
theorem c_X11_restore (l : Launch) (D : va_G) (cI cJ cZ : ClassId) (md bk nw nt df chk pa rc qu ct ft wn wy nx im ik : Nat) (inc mat kd dri iyf mkf imf ikf : Int → Int) (T cn ln wat who rs act fse tm yr n0 : Int) (incq : Int → Int) (driq : Int → Int) (matq : Int → Int) (kdq : Int → Int) (iyfq : Int → Int) (mkfq : Int → Int) (Tq : Int) (tmq : Int) (yrq : Int) (cnq : Int) (hr : (-2147483648 ≤ n0 ∧ n0 ≤ 2147483647)) (hik : zBd ikf 2 0 1) (him : ((0 ≤ n0 ∧ n0 ≤ 1) ∧ ¬ ikf n0 = 0) → imI imf (60 * n0) (imS incq driq matq kdq Tq tmq yrq iyfq mkfq cnq)) : zMw l yX11_restore wsX11_restore (zRm 1) D cI cJ cZ [.ref md, .int (zI n0)] [(md, .inr (9, [.ref bk, .ref nw, .ref nt, .int (zI T), .ref df, .int (zI cn), .ref chk, .int (zI ln), .ref pa, .int (zI wat), .int (zI who), .int (zI rs), .int (zI act), .int (zI fse), .ref rc, .ref qu, .ref ct, .ref ft, .ref wn, .ref wy, .ref nx, .ref im, .ref ik])), (bk, .inl (cI, 29, .inl (zA (nwS inc mat kd tm yr)))), (df, .inl (cI, 9, .inl (zA dri))), (chk, .inl (cI, 16, .inl (zA (chS iyf mkf)))), (im, .inl (cI, 120, .inl (zA imf))), (ik, .inl (cZ, 2, .inl (zA ikf)))] (S := Int × (Int → Int) × (Int → Int) × (Int → Int) × Int × Int × (Int → Int) × (Int → Int) × (Int → Int) × Int × Int) (fun u => u.1 = (if 0 ≤ n0 ∧ n0 ≤ 1 then (if ikf n0 = 0 then -3 else 1) else -2) ∧ u.2.1 = (if (0 ≤ n0 ∧ n0 ≤ 1) ∧ ¬ ikf n0 = 0 then incq else inc) ∧ u.2.2.1 = (if (0 ≤ n0 ∧ n0 ≤ 1) ∧ ¬ ikf n0 = 0 then matq else mat) ∧ u.2.2.2.1 = (if (0 ≤ n0 ∧ n0 ≤ 1) ∧ ¬ ikf n0 = 0 then kdq else kd) ∧ u.2.2.2.2.1 = (if (0 ≤ n0 ∧ n0 ≤ 1) ∧ ¬ ikf n0 = 0 then tmq else tm) ∧ u.2.2.2.2.2.1 = (if (0 ≤ n0 ∧ n0 ≤ 1) ∧ ¬ ikf n0 = 0 then yrq else yr) ∧ u.2.2.2.2.2.2.1 = (if (0 ≤ n0 ∧ n0 ≤ 1) ∧ ¬ ikf n0 = 0 then driq else dri) ∧ u.2.2.2.2.2.2.2.1 = (if (0 ≤ n0 ∧ n0 ≤ 1) ∧ ¬ ikf n0 = 0 then iyfq else iyf) ∧ u.2.2.2.2.2.2.2.2.1 = (if (0 ≤ n0 ∧ n0 ≤ 1) ∧ ¬ ikf n0 = 0 then mkfq else mkf) ∧ u.2.2.2.2.2.2.2.2.2.1 = (if (0 ≤ n0 ∧ n0 ≤ 1) ∧ ¬ ikf n0 = 0 then Tq else T) ∧ u.2.2.2.2.2.2.2.2.2.2 = (if (0 ≤ n0 ∧ n0 ≤ 1) ∧ ¬ ikf n0 = 0 then cnq else cn)) (fun u => some (.int (zI u.1))) (fun u => [(md, .inr (9, [.ref bk, .ref nw, .ref nt, .int (zI u.2.2.2.2.2.2.2.2.2.1), .ref df, .int (zI u.2.2.2.2.2.2.2.2.2.2), .ref chk, .int (zI ln), .ref pa, .int (zI wat), .int (zI who), .int (zI rs), .int (zI act), .int (zI fse), .ref rc, .ref qu, .ref ct, .ref ft, .ref wn, .ref wy, .ref nx, .ref im, .ref ik])), (bk, .inl (cI, 29, .inl (zA (nwS u.2.1 u.2.2.1 u.2.2.2.1 u.2.2.2.2.1 u.2.2.2.2.2.1)))), (df, .inl (cI, 9, .inl (zA u.2.2.2.2.2.2.1))), (chk, .inl (cI, 16, .inl (zA (chS u.2.2.2.2.2.2.2.1 u.2.2.2.2.2.2.2.2.1)))), (im, .inl (cI, 120, .inl (zA imf))), (ik, .inl (cZ, 2, .inl (zA ikf)))]) := by
  refine zMw_i (cc := cX11_restore) (maxL := 4) (by decide +kernel) rfl (Nat.le_of_ble_eq_true rfl) rfl (fun _ => rfl) ?_
  intro p e s m args below meth c Q H0 ls F hK hz hl hret
  obtain ⟨hx, hb, hml, hown0, hts⟩ := id F
  have hown : s.vm.findClass RX11 = some m.cls := hown0
  obtain ⟨ws0, hw0⟩ : ∃ w : va_W, w = [(md, .inr (9, [.ref bk, .ref nw, .ref nt, .int (zI T), .ref df, .int (zI cn), .ref chk, .int (zI ln), .ref pa, .int (zI wat), .int (zI who), .int (zI rs), .int (zI act), .int (zI fse), .ref rc, .ref qu, .ref ct, .ref ft, .ref wn, .ref wy, .ref nx, .ref im, .ref ik])), (bk, .inl (cI, 29, .inl (zA (nwS inc mat kd tm yr)))), (df, .inl (cI, 9, .inl (zA dri))), (chk, .inl (cI, 16, .inl (zA (chS iyf mkf)))), (im, .inl (cI, 120, .inl (zA imf))), (ik, .inl (cZ, 2, .inl (zA ikf)))] := ⟨_, rfl⟩
  rw [← hw0] at hret
  have hz : zH D (zF ws0) H0 [(md, .inr (9, [.ref bk, .ref nw, .ref nt, .int (zI T), .ref df, .int (zI cn), .ref chk, .int (zI ln), .ref pa, .int (zI wat), .int (zI who), .int (zI rs), .int (zI act), .int (zI fse), .ref rc, .ref qu, .ref ct, .ref ft, .ref wn, .ref wy, .ref nx, .ref im, .ref ik])), (bk, .inl (cI, 29, .inl (zA (nwS inc mat kd tm yr)))), (df, .inl (cI, 9, .inl (zA dri))), (chk, .inl (cI, 16, .inl (zA (chS iyf mkf)))), (im, .inl (cI, 120, .inl (zA imf))), (ik, .inl (cZ, 2, .inl (zA ikf)))] H0 [] := by rw [hw0]; exact hz
  have hl : lv_has ls 4 [(0, .ref md), (1, .int (zI n0))] := hl
  refine lv_iload_n hx hb dX11_restore_0 rfl (lv_at hl 1 rfl) ?_
  refine z_iconst hx hb dX11_restore_1 ?_
  refine z_iconst hx hb dX11_restore_2 ?_
  refine z_callSp (As := [.int (zI n0), .int (zI 0), .int (zI 1)]) (rest := []) F hK hz hl (c_X11_in l D cI cJ cZ n0 0 1 (by omega)) (va_cwS 3 hts gX11_restore_X11_in rfl rfl rfl (by decide +kernel) ⟨Nat.le_of_ble_eq_true rfl, Nat.le_of_ble_eq_true rfl⟩) [] rfl rfl rfl rfl (Nat.le_of_ble_eq_true rfl) ⟨Nat.le_of_ble_eq_true rfl, Nat.le_of_ble_eq_true rfl⟩ dX11_restore_3 ?_
  refine z_ifb_ne (tgt := 12) hx hb dX11_restore_6 (by decide) (fun h6 => ?_) (fun h6 => ?_)
  ·
    refine lv_aload_n hx hb dX11_restore_12 rfl (lv_at hl 0 rfl) ?_
    refine z_get (C := RX11) (T := TX11) (N := 23) (ref := "HornCityModel") hx hb hts hin_X11_restore_X11 hown hK hz 0 rfl rfl 22 (by decide) (hts _ fl_X11_restore_54) rfl rfl dX11_restore_13 ?_
    refine lv_iload_n hx hb dX11_restore_16 rfl (lv_at hl 1 rfl) ?_
    refine z_zald hx hb hK hz 5 rfl (by omega) (by decide) dX11_restore_17 ?_
    have hv17 := (hik).ax n0 (by omega)
    refine z_if_ne (tgt := 24) hx hb dX11_restore_18 (by decide) (by omega) (fun h18 => ?_) (fun h18 => ?_)
    ·
      have hI := him ⟨h6, by omega⟩
      refine z_bipush hx hb dX11_restore_24 (by decide) ?_
      refine lv_iload_n hx hb dX11_restore_26 rfl (lv_at hl 1 rfl) ?_
      refine z_imul hx hb dX11_restore_27 ?_
      refine lv_istore_n (lv' := [(2, .int (zI (60 * n0))), (0, .ref md), (1, .int (zI n0))]) hx hb dX11_restore_28 rfl hl (Nat.le_of_ble_eq_true rfl) rfl (fun ls hl => ?_)
      refine z_iconst hx hb dX11_restore_29 ?_
      refine lv_istore_n (lv' := [(3, .int (zI 0)), (2, .int (zI (60 * n0))), (0, .ref md), (1, .int (zI n0))]) hx hb dX11_restore_30 rfl hl (Nat.le_of_ble_eq_true rfl) rfl (fun ls hl => ?_)
      have L31 : ∀ (n : Nat) (k : Int) (bx : Int → Int) (H : Heap) (locs : List Loc) (ls : Array Slot), ((29 - k).toNat = n) → (0 ≤ k ∧ k ≤ 29) → (∀ j, 0 ≤ j → j < k → bx j = nwS incq matq kdq tmq yrq j) → zH D (zF ws0) H0 [(md, .inr (9, [.ref bk, .ref nw, .ref nt, .int (zI T), .ref df, .int (zI cn), .ref chk, .int (zI ln), .ref pa, .int (zI wat), .int (zI who), .int (zI rs), .int (zI act), .int (zI fse), .ref rc, .ref qu, .ref ct, .ref ft, .ref wn, .ref wy, .ref nx, .ref im, .ref ik])), (bk, .inl (cI, 29, .inl (zA bx))), (df, .inl (cI, 9, .inl (zA dri))), (chk, .inl (cI, 16, .inl (zA (chS iyf mkf)))), (im, .inl (cI, 120, .inl (zA imf))), (ik, .inl (cZ, 2, .inl (zA ikf)))] H locs → lv_has ls 4 [(3, .int (zI k)), (2, .int (zI (60 * n0))), (0, .ref md), (1, .int (zI n0))] → W p l e (zRm 1) s m args below meth c H locs 0 0 Q (F0 m 31 ls []) := by
        intro n
        refine Nat.strongRecOn n ?_
        intro n ih31 k bx H locs ls hn31 h0 hbx hz hl
        refine lv_iload_n hx hb dX11_restore_31 rfl (lv_at hl 0 rfl) ?_
        refine z_bipush hx hb dX11_restore_32 (by decide) ?_
        refine z_icmp_ge (tgt := 57) hx hb dX11_restore_34 (by decide) (by omega) (by decide) (fun h34 => ?_) (fun h34 => ?_)
        ·
          have hz := zH_ext hz 1 (nwS incq matq kdq tmq yrq) rfl (fun j a b => hbx j a (by omega))
          have hz : zH D (zF ws0) H0 [(md, .inr (9, [.ref bk, .ref nw, .ref nt, .int (zI T), .ref df, .int (zI cn), .ref chk, .int (zI ln), .ref pa, .int (zI wat), .int (zI who), .int (zI rs), .int (zI act), .int (zI fse), .ref rc, .ref qu, .ref ct, .ref ft, .ref wn, .ref wy, .ref nx, .ref im, .ref ik])), (bk, .inl (cI, 29, .inl (zA (nwS incq matq kdq tmq yrq)))), (df, .inl (cI, 9, .inl (zA dri))), (chk, .inl (cI, 16, .inl (zA (chS iyf mkf)))), (im, .inl (cI, 120, .inl (zA imf))), (ik, .inl (cZ, 2, .inl (zA ikf)))] H locs := hz
          refine z_iconst hx hb dX11_restore_57 ?_
          refine lv_istore_n (lv' := [(3, .int (zI 0)), (2, .int (zI (60 * n0))), (0, .ref md), (1, .int (zI n0))]) hx hb dX11_restore_58 rfl hl (Nat.le_of_ble_eq_true rfl) rfl (fun ls hl => ?_)
          have L59 : ∀ (n : Nat) (k : Int) (dx : Int → Int) (H : Heap) (locs : List Loc) (ls : Array Slot), ((9 - k).toNat = n) → (0 ≤ k ∧ k ≤ 9) → (∀ j, 0 ≤ j → j < k → dx j = driq j) → zH D (zF ws0) H0 [(md, .inr (9, [.ref bk, .ref nw, .ref nt, .int (zI T), .ref df, .int (zI cn), .ref chk, .int (zI ln), .ref pa, .int (zI wat), .int (zI who), .int (zI rs), .int (zI act), .int (zI fse), .ref rc, .ref qu, .ref ct, .ref ft, .ref wn, .ref wy, .ref nx, .ref im, .ref ik])), (bk, .inl (cI, 29, .inl (zA (nwS incq matq kdq tmq yrq)))), (df, .inl (cI, 9, .inl (zA dx))), (chk, .inl (cI, 16, .inl (zA (chS iyf mkf)))), (im, .inl (cI, 120, .inl (zA imf))), (ik, .inl (cZ, 2, .inl (zA ikf)))] H locs → lv_has ls 4 [(3, .int (zI k)), (2, .int (zI (60 * n0))), (0, .ref md), (1, .int (zI n0))] → W p l e (zRm 1) s m args below meth c H locs 0 0 Q (F0 m 59 ls []) := by
            intro n
            refine Nat.strongRecOn n ?_
            intro n ih59 k dx H locs ls hn59 h0b hdx hz hl
            refine lv_iload_n hx hb dX11_restore_59 rfl (lv_at hl 0 rfl) ?_
            refine z_bipush hx hb dX11_restore_60 (by decide) ?_
            refine z_icmp_ge (tgt := 88) hx hb dX11_restore_62 (by decide) (by omega) (by decide) (fun h62 => ?_) (fun h62 => ?_)
            ·
              have hz := zH_ext hz 2 driq rfl (fun j a b => hdx j a (by omega))
              have hz : zH D (zF ws0) H0 [(md, .inr (9, [.ref bk, .ref nw, .ref nt, .int (zI T), .ref df, .int (zI cn), .ref chk, .int (zI ln), .ref pa, .int (zI wat), .int (zI who), .int (zI rs), .int (zI act), .int (zI fse), .ref rc, .ref qu, .ref ct, .ref ft, .ref wn, .ref wy, .ref nx, .ref im, .ref ik])), (bk, .inl (cI, 29, .inl (zA (nwS incq matq kdq tmq yrq)))), (df, .inl (cI, 9, .inl (zA driq))), (chk, .inl (cI, 16, .inl (zA (chS iyf mkf)))), (im, .inl (cI, 120, .inl (zA imf))), (ik, .inl (cZ, 2, .inl (zA ikf)))] H locs := hz
              refine z_iconst hx hb dX11_restore_88 ?_
              refine lv_istore_n (lv' := [(3, .int (zI 0)), (2, .int (zI (60 * n0))), (0, .ref md), (1, .int (zI n0))]) hx hb dX11_restore_89 rfl hl (Nat.le_of_ble_eq_true rfl) rfl (fun ls hl => ?_)
              have L90 : ∀ (n : Nat) (k : Int) (cx : Int → Int) (H : Heap) (locs : List Loc) (ls : Array Slot), ((16 - k).toNat = n) → (0 ≤ k ∧ k ≤ 16) → (∀ j, 0 ≤ j → j < k → cx j = chS iyfq mkfq j) → zH D (zF ws0) H0 [(md, .inr (9, [.ref bk, .ref nw, .ref nt, .int (zI T), .ref df, .int (zI cn), .ref chk, .int (zI ln), .ref pa, .int (zI wat), .int (zI who), .int (zI rs), .int (zI act), .int (zI fse), .ref rc, .ref qu, .ref ct, .ref ft, .ref wn, .ref wy, .ref nx, .ref im, .ref ik])), (bk, .inl (cI, 29, .inl (zA (nwS incq matq kdq tmq yrq)))), (df, .inl (cI, 9, .inl (zA driq))), (chk, .inl (cI, 16, .inl (zA cx))), (im, .inl (cI, 120, .inl (zA imf))), (ik, .inl (cZ, 2, .inl (zA ikf)))] H locs → lv_has ls 4 [(3, .int (zI k)), (2, .int (zI (60 * n0))), (0, .ref md), (1, .int (zI n0))] → W p l e (zRm 1) s m args below meth c H locs 0 0 Q (F0 m 90 ls []) := by
                intro n
                refine Nat.strongRecOn n ?_
                intro n ih90 k cx H locs ls hn90 h0c hcx hz hl
                refine lv_iload_n hx hb dX11_restore_90 rfl (lv_at hl 0 rfl) ?_
                refine z_bipush hx hb dX11_restore_91 (by decide) ?_
                refine z_icmp_ge (tgt := 119) hx hb dX11_restore_93 (by decide) (by omega) (by decide) (fun h93 => ?_) (fun h93 => ?_)
                ·
                  have hz := zH_ext hz 3 (chS iyfq mkfq) rfl (fun j a b => hcx j a (by omega))
                  have hz : zH D (zF ws0) H0 [(md, .inr (9, [.ref bk, .ref nw, .ref nt, .int (zI T), .ref df, .int (zI cn), .ref chk, .int (zI ln), .ref pa, .int (zI wat), .int (zI who), .int (zI rs), .int (zI act), .int (zI fse), .ref rc, .ref qu, .ref ct, .ref ft, .ref wn, .ref wy, .ref nx, .ref im, .ref ik])), (bk, .inl (cI, 29, .inl (zA (nwS incq matq kdq tmq yrq)))), (df, .inl (cI, 9, .inl (zA driq))), (chk, .inl (cI, 16, .inl (zA (chS iyfq mkfq)))), (im, .inl (cI, 120, .inl (zA imf))), (ik, .inl (cZ, 2, .inl (zA ikf)))] H locs := hz
                  have hT5 : imf (60 * n0 + 55) = Tq := by rw [hI 55 (by decide) (by decide) (by decide)]; rfl
                  have hC5 : imf (60 * n0 + 56) = cnq := by rw [hI 56 (by decide) (by decide) (by decide)]; rfl
                  refine lv_aload_n hx hb dX11_restore_119 rfl (lv_at hl 2 rfl) ?_
                  refine lv_aload_n hx hb dX11_restore_120 rfl (lv_at hl 2 rfl) ?_
                  refine z_get (C := RX11) (T := TX11) (N := 23) (ref := "HornCityModel") hx hb hts hin_X11_restore_X11 hown hK hz 0 rfl rfl 21 (by decide) (hts _ fl_X11_restore_51) rfl rfl dX11_restore_121 ?_
                  refine lv_iload_n hx hb dX11_restore_124 rfl (lv_at hl 1 rfl) ?_
                  refine z_bipush hx hb dX11_restore_125 (by decide) ?_
                  refine z_iadd hx hb dX11_restore_127 ?_
                  refine z_iald hx hb hK hz 4 rfl (by omega) (by decide) dX11_restore_128 ?_
                  refine z_put (C := RX11) (T := TX11) (N := 23) (ref := "HornCityModel") (ty := .int) hx hb hts hin_X11_restore_X11 hown hK hz tyX11 tyX11_ok nmX11 0 rfl rfl 3 (by decide) (hts _ fl_X11_restore_65) rfl rfl (by decide +kernel) rfl rfl (Nat.le_of_ble_eq_true rfl) dX11_restore_129 (fun H locs hz => ?_)
                  have hz : zH D (zF ws0) H0 [(md, .inr (9, [.ref bk, .ref nw, .ref nt, .int (zI (imf ((60 * n0) + 55))), .ref df, .int (zI cn), .ref chk, .int (zI ln), .ref pa, .int (zI wat), .int (zI who), .int (zI rs), .int (zI act), .int (zI fse), .ref rc, .ref qu, .ref ct, .ref ft, .ref wn, .ref wy, .ref nx, .ref im, .ref ik])), (bk, .inl (cI, 29, .inl (zA (nwS incq matq kdq tmq yrq)))), (df, .inl (cI, 9, .inl (zA driq))), (chk, .inl (cI, 16, .inl (zA (chS iyfq mkfq)))), (im, .inl (cI, 120, .inl (zA imf))), (ik, .inl (cZ, 2, .inl (zA ikf)))] H locs := hz
                  refine lv_aload_n hx hb dX11_restore_132 rfl (lv_at hl 2 rfl) ?_
                  refine lv_aload_n hx hb dX11_restore_133 rfl (lv_at hl 2 rfl) ?_
                  refine z_get (C := RX11) (T := TX11) (N := 23) (ref := "HornCityModel") hx hb hts hin_X11_restore_X11 hown hK hz 0 rfl rfl 21 (by decide) (hts _ fl_X11_restore_51) rfl rfl dX11_restore_134 ?_
                  refine lv_iload_n hx hb dX11_restore_137 rfl (lv_at hl 1 rfl) ?_
                  refine z_bipush hx hb dX11_restore_138 (by decide) ?_
                  refine z_iadd hx hb dX11_restore_140 ?_
                  refine z_iald hx hb hK hz 4 rfl (by omega) (by decide) dX11_restore_141 ?_
                  refine z_put (C := RX11) (T := TX11) (N := 23) (ref := "HornCityModel") (ty := .int) hx hb hts hin_X11_restore_X11 hown hK hz tyX11 tyX11_ok nmX11 0 rfl rfl 5 (by decide) (hts _ fl_X11_restore_142) rfl rfl (by decide +kernel) rfl rfl (Nat.le_of_ble_eq_true rfl) dX11_restore_142 (fun H locs hz => ?_)
                  have hz : zH D (zF ws0) H0 [(md, .inr (9, [.ref bk, .ref nw, .ref nt, .int (zI (imf ((60 * n0) + 55))), .ref df, .int (zI (imf ((60 * n0) + 56))), .ref chk, .int (zI ln), .ref pa, .int (zI wat), .int (zI who), .int (zI rs), .int (zI act), .int (zI fse), .ref rc, .ref qu, .ref ct, .ref ft, .ref wn, .ref wy, .ref nx, .ref im, .ref ik])), (bk, .inl (cI, 29, .inl (zA (nwS incq matq kdq tmq yrq)))), (df, .inl (cI, 9, .inl (zA driq))), (chk, .inl (cI, 16, .inl (zA (chS iyfq mkfq)))), (im, .inl (cI, 120, .inl (zA imf))), (ik, .inl (cZ, 2, .inl (zA ikf)))] H locs := hz
                  refine z_iconst hx hb dX11_restore_145 ?_
                  exact hret ((1 : Int), (incq : Int → Int), (matq : Int → Int), (kdq : Int → Int), (tmq : Int), (yrq : Int), (driq : Int → Int), (iyfq : Int → Int), (mkfq : Int → Int), ((imf ((60 * n0) + 55)) : Int), ((imf ((60 * n0) + 56)) : Int)) dX11_restore_146 (show 1 = (if 0 ≤ n0 ∧ n0 ≤ 1 then (if ikf n0 = 0 then -3 else 1) else -2) ∧ incq = (if (0 ≤ n0 ∧ n0 ≤ 1) ∧ ¬ ikf n0 = 0 then incq else inc) ∧ matq = (if (0 ≤ n0 ∧ n0 ≤ 1) ∧ ¬ ikf n0 = 0 then matq else mat) ∧ kdq = (if (0 ≤ n0 ∧ n0 ≤ 1) ∧ ¬ ikf n0 = 0 then kdq else kd) ∧ tmq = (if (0 ≤ n0 ∧ n0 ≤ 1) ∧ ¬ ikf n0 = 0 then tmq else tm) ∧ yrq = (if (0 ≤ n0 ∧ n0 ≤ 1) ∧ ¬ ikf n0 = 0 then yrq else yr) ∧ driq = (if (0 ≤ n0 ∧ n0 ≤ 1) ∧ ¬ ikf n0 = 0 then driq else dri) ∧ iyfq = (if (0 ≤ n0 ∧ n0 ≤ 1) ∧ ¬ ikf n0 = 0 then iyfq else iyf) ∧ mkfq = (if (0 ≤ n0 ∧ n0 ≤ 1) ∧ ¬ ikf n0 = 0 then mkfq else mkf) ∧ (imf ((60 * n0) + 55)) = (if (0 ≤ n0 ∧ n0 ≤ 1) ∧ ¬ ikf n0 = 0 then Tq else T) ∧ (imf ((60 * n0) + 56)) = (if (0 ≤ n0 ∧ n0 ≤ 1) ∧ ¬ ikf n0 = 0 then cnq else cn) from ⟨by rw [if_pos h6, if_neg (by omega)], by rw [if_pos (by exact ⟨h6, by omega⟩)], by rw [if_pos (by exact ⟨h6, by omega⟩)], by rw [if_pos (by exact ⟨h6, by omega⟩)], by rw [if_pos (by exact ⟨h6, by omega⟩)], by rw [if_pos (by exact ⟨h6, by omega⟩)], by rw [if_pos (by exact ⟨h6, by omega⟩)], by rw [if_pos (by exact ⟨h6, by omega⟩)], by rw [if_pos (by exact ⟨h6, by omega⟩)], by rw [if_pos (by exact ⟨h6, by omega⟩)]; exact hT5, by rw [if_pos (by exact ⟨h6, by omega⟩)]; exact hC5⟩) hz
                ·
                  refine lv_aload_n hx hb dX11_restore_96 rfl (lv_at hl 2 rfl) ?_
                  refine z_get (C := RX11) (T := TX11) (N := 23) (ref := "HornCityModel") hx hb hts hin_X11_restore_X11 hown hK hz 0 rfl rfl 6 (by decide) (hts _ fl_X11_restore_22) rfl rfl dX11_restore_97 ?_
                  refine lv_iload_n hx hb dX11_restore_100 rfl (lv_at hl 0 rfl) ?_
                  refine lv_aload_n hx hb dX11_restore_101 rfl (lv_at hl 2 rfl) ?_
                  refine z_get (C := RX11) (T := TX11) (N := 23) (ref := "HornCityModel") hx hb hts hin_X11_restore_X11 hown hK hz 0 rfl rfl 21 (by decide) (hts _ fl_X11_restore_51) rfl rfl dX11_restore_102 ?_
                  refine lv_iload_n hx hb dX11_restore_105 rfl (lv_at hl 1 rfl) ?_
                  refine z_bipush hx hb dX11_restore_106 (by decide) ?_
                  refine z_iadd hx hb dX11_restore_108 ?_
                  refine lv_iload_n hx hb dX11_restore_109 rfl (lv_at hl 0 rfl) ?_
                  refine z_iadd hx hb dX11_restore_110 ?_
                  refine z_iald hx hb hK hz 4 rfl (by omega) (by decide) dX11_restore_111 ?_
                  refine z_iast hx hb hK hz 3 rfl (by omega) (by decide) dX11_restore_112 (fun H locs hz => ?_)
                  have hz : zH D (zF ws0) H0 [(md, .inr (9, [.ref bk, .ref nw, .ref nt, .int (zI T), .ref df, .int (zI cn), .ref chk, .int (zI ln), .ref pa, .int (zI wat), .int (zI who), .int (zI rs), .int (zI act), .int (zI fse), .ref rc, .ref qu, .ref ct, .ref ft, .ref wn, .ref wy, .ref nx, .ref im, .ref ik])), (bk, .inl (cI, 29, .inl (zA (nwS incq matq kdq tmq yrq)))), (df, .inl (cI, 9, .inl (zA driq))), (chk, .inl (cI, 16, .inl (zA (zU cx k (imf (((60 * n0) + 38) + k)))))), (im, .inl (cI, 120, .inl (zA imf))), (ik, .inl (cZ, 2, .inl (zA ikf)))] H locs := hz
                  refine z_iinc (lv' := [(3, .int (zI (k + 1))), (2, .int (zI (60 * n0))), (0, .ref md), (1, .int (zI n0))]) hx hb dX11_restore_113 hl (k := 0) rfl (Nat.le_of_ble_eq_true rfl) rfl (fun ls hl => ?_)
                  refine lv_goto (tgt := 90) hx hb dX11_restore_116 (by decide) ?_
                  exact ih90 _ (by omega) (k + 1) (zU cx k (imf (((60 * n0) + 38) + k))) H locs ls rfl (by omega) (by have e9 : chS iyfq mkfq k = imf (60 * n0 + 38 + k) := (by rw [show 60 * n0 + 38 + k = 60 * n0 + (38 + k) by omega, hI (38 + k) (by omega) (by omega) (by omega)]; unfold imS; rw [if_neg (by omega), if_neg (by omega), if_pos (by omega), show 38 + k - 38 = k by omega]); have h9 := zU_cp hcx; rw [e9] at h9; exact h9) hz (lv_sub hl [0, 1, 2, 3] rfl)
              exact L90 _ 0 (chS iyf mkf) H locs ls rfl (by decide) (fun j h1 h2 => absurd h1 (by omega)) hz (lv_sub hl [0, 1, 2, 3] rfl)
            ·
              refine lv_aload_n hx hb dX11_restore_65 rfl (lv_at hl 2 rfl) ?_
              refine z_get (C := RX11) (T := TX11) (N := 23) (ref := "HornCityModel") hx hb hts hin_X11_restore_X11 hown hK hz 0 rfl rfl 4 (by decide) (hts _ fl_X11_restore_19) rfl rfl dX11_restore_66 ?_
              refine lv_iload_n hx hb dX11_restore_69 rfl (lv_at hl 0 rfl) ?_
              refine lv_aload_n hx hb dX11_restore_70 rfl (lv_at hl 2 rfl) ?_
              refine z_get (C := RX11) (T := TX11) (N := 23) (ref := "HornCityModel") hx hb hts hin_X11_restore_X11 hown hK hz 0 rfl rfl 21 (by decide) (hts _ fl_X11_restore_51) rfl rfl dX11_restore_71 ?_
              refine lv_iload_n hx hb dX11_restore_74 rfl (lv_at hl 1 rfl) ?_
              refine z_bipush hx hb dX11_restore_75 (by decide) ?_
              refine z_iadd hx hb dX11_restore_77 ?_
              refine lv_iload_n hx hb dX11_restore_78 rfl (lv_at hl 0 rfl) ?_
              refine z_iadd hx hb dX11_restore_79 ?_
              refine z_iald hx hb hK hz 4 rfl (by omega) (by decide) dX11_restore_80 ?_
              refine z_iast hx hb hK hz 2 rfl (by omega) (by decide) dX11_restore_81 (fun H locs hz => ?_)
              have hz : zH D (zF ws0) H0 [(md, .inr (9, [.ref bk, .ref nw, .ref nt, .int (zI T), .ref df, .int (zI cn), .ref chk, .int (zI ln), .ref pa, .int (zI wat), .int (zI who), .int (zI rs), .int (zI act), .int (zI fse), .ref rc, .ref qu, .ref ct, .ref ft, .ref wn, .ref wy, .ref nx, .ref im, .ref ik])), (bk, .inl (cI, 29, .inl (zA (nwS incq matq kdq tmq yrq)))), (df, .inl (cI, 9, .inl (zA (zU dx k (imf (((60 * n0) + 29) + k)))))), (chk, .inl (cI, 16, .inl (zA (chS iyf mkf)))), (im, .inl (cI, 120, .inl (zA imf))), (ik, .inl (cZ, 2, .inl (zA ikf)))] H locs := hz
              refine z_iinc (lv' := [(3, .int (zI (k + 1))), (2, .int (zI (60 * n0))), (0, .ref md), (1, .int (zI n0))]) hx hb dX11_restore_82 hl (k := 0) rfl (Nat.le_of_ble_eq_true rfl) rfl (fun ls hl => ?_)
              refine lv_goto (tgt := 59) hx hb dX11_restore_85 (by decide) ?_
              exact ih59 _ (by omega) (k + 1) (zU dx k (imf (((60 * n0) + 29) + k))) H locs ls rfl (by omega) (by have e9 : driq k = imf (60 * n0 + 29 + k) := (by rw [show 60 * n0 + 29 + k = 60 * n0 + (29 + k) by omega, hI (29 + k) (by omega) (by omega) (by omega)]; unfold imS; rw [if_neg (by omega), if_pos (by omega), show 29 + k - 29 = k by omega]); have h9 := zU_cp hdx; rw [e9] at h9; exact h9) hz (lv_sub hl [0, 1, 2, 3] rfl)
          exact L59 _ 0 dri H locs ls rfl (by decide) (fun j h1 h2 => absurd h1 (by omega)) hz (lv_sub hl [0, 1, 2, 3] rfl)
        ·
          refine lv_aload_n hx hb dX11_restore_37 rfl (lv_at hl 2 rfl) ?_
          refine z_get (C := RX11) (T := TX11) (N := 23) (ref := "HornCityModel") hx hb hts hin_X11_restore_X11 hown hK hz 0 rfl rfl 0 (by decide) (hts _ fl_X11_restore_7) rfl rfl dX11_restore_38 ?_
          refine lv_iload_n hx hb dX11_restore_41 rfl (lv_at hl 0 rfl) ?_
          refine lv_aload_n hx hb dX11_restore_42 rfl (lv_at hl 2 rfl) ?_
          refine z_get (C := RX11) (T := TX11) (N := 23) (ref := "HornCityModel") hx hb hts hin_X11_restore_X11 hown hK hz 0 rfl rfl 21 (by decide) (hts _ fl_X11_restore_51) rfl rfl dX11_restore_43 ?_
          refine lv_iload_n hx hb dX11_restore_46 rfl (lv_at hl 1 rfl) ?_
          refine lv_iload_n hx hb dX11_restore_47 rfl (lv_at hl 0 rfl) ?_
          refine z_iadd hx hb dX11_restore_48 ?_
          refine z_iald hx hb hK hz 4 rfl (by omega) (by decide) dX11_restore_49 ?_
          refine z_iast hx hb hK hz 1 rfl (by omega) (by decide) dX11_restore_50 (fun H locs hz => ?_)
          have hz : zH D (zF ws0) H0 [(md, .inr (9, [.ref bk, .ref nw, .ref nt, .int (zI T), .ref df, .int (zI cn), .ref chk, .int (zI ln), .ref pa, .int (zI wat), .int (zI who), .int (zI rs), .int (zI act), .int (zI fse), .ref rc, .ref qu, .ref ct, .ref ft, .ref wn, .ref wy, .ref nx, .ref im, .ref ik])), (bk, .inl (cI, 29, .inl (zA (zU bx k (imf ((60 * n0) + k)))))), (df, .inl (cI, 9, .inl (zA dri))), (chk, .inl (cI, 16, .inl (zA (chS iyf mkf)))), (im, .inl (cI, 120, .inl (zA imf))), (ik, .inl (cZ, 2, .inl (zA ikf)))] H locs := hz
          refine z_iinc (lv' := [(3, .int (zI (k + 1))), (2, .int (zI (60 * n0))), (0, .ref md), (1, .int (zI n0))]) hx hb dX11_restore_51 hl (k := 0) rfl (Nat.le_of_ble_eq_true rfl) rfl (fun ls hl => ?_)
          refine lv_goto (tgt := 31) hx hb dX11_restore_54 (by decide) ?_
          exact ih31 _ (by omega) (k + 1) (zU bx k (imf ((60 * n0) + k))) H locs ls rfl (by omega) (by have e9 : nwS incq matq kdq tmq yrq k = imf (60 * n0 + k) := (by rw [hI k (by omega) (by omega) (by omega)]; unfold imS; rw [if_pos (by omega)]); have h9 := zU_cp hbx; rw [e9] at h9; exact h9) hz (lv_sub hl [0, 1, 2, 3] rfl)
      exact L31 _ 0 (nwS inc mat kd tm yr) H0 [] ls rfl (by decide) (fun j h1 h2 => absurd h1 (by omega)) hz (lv_sub hl [0, 1, 2, 3] rfl)
    ·
      refine z_bipush hx hb dX11_restore_21 (by decide) ?_
      exact hret (((-3) : Int), (inc : Int → Int), (mat : Int → Int), (kd : Int → Int), (tm : Int), (yr : Int), (dri : Int → Int), (iyf : Int → Int), (mkf : Int → Int), (T : Int), (cn : Int)) dX11_restore_23 (show (-3) = (if 0 ≤ n0 ∧ n0 ≤ 1 then (if ikf n0 = 0 then -3 else 1) else -2) ∧ inc = (if (0 ≤ n0 ∧ n0 ≤ 1) ∧ ¬ ikf n0 = 0 then incq else inc) ∧ mat = (if (0 ≤ n0 ∧ n0 ≤ 1) ∧ ¬ ikf n0 = 0 then matq else mat) ∧ kd = (if (0 ≤ n0 ∧ n0 ≤ 1) ∧ ¬ ikf n0 = 0 then kdq else kd) ∧ tm = (if (0 ≤ n0 ∧ n0 ≤ 1) ∧ ¬ ikf n0 = 0 then tmq else tm) ∧ yr = (if (0 ≤ n0 ∧ n0 ≤ 1) ∧ ¬ ikf n0 = 0 then yrq else yr) ∧ dri = (if (0 ≤ n0 ∧ n0 ≤ 1) ∧ ¬ ikf n0 = 0 then driq else dri) ∧ iyf = (if (0 ≤ n0 ∧ n0 ≤ 1) ∧ ¬ ikf n0 = 0 then iyfq else iyf) ∧ mkf = (if (0 ≤ n0 ∧ n0 ≤ 1) ∧ ¬ ikf n0 = 0 then mkfq else mkf) ∧ T = (if (0 ≤ n0 ∧ n0 ≤ 1) ∧ ¬ ikf n0 = 0 then Tq else T) ∧ cn = (if (0 ≤ n0 ∧ n0 ≤ 1) ∧ ¬ ikf n0 = 0 then cnq else cn) from ⟨by rw [if_pos h6, if_pos (by omega)], by rw [if_neg (fun q => q.2 (by omega))], by rw [if_neg (fun q => q.2 (by omega))], by rw [if_neg (fun q => q.2 (by omega))], by rw [if_neg (fun q => q.2 (by omega))], by rw [if_neg (fun q => q.2 (by omega))], by rw [if_neg (fun q => q.2 (by omega))], by rw [if_neg (fun q => q.2 (by omega))], by rw [if_neg (fun q => q.2 (by omega))], by rw [if_neg (fun q => q.2 (by omega))], by rw [if_neg (fun q => q.2 (by omega))]⟩) hz
  ·
    refine z_bipush hx hb dX11_restore_9 (by decide) ?_
    exact hret (((-2) : Int), (inc : Int → Int), (mat : Int → Int), (kd : Int → Int), (tm : Int), (yr : Int), (dri : Int → Int), (iyf : Int → Int), (mkf : Int → Int), (T : Int), (cn : Int)) dX11_restore_11 (show (-2) = (if 0 ≤ n0 ∧ n0 ≤ 1 then (if ikf n0 = 0 then -3 else 1) else -2) ∧ inc = (if (0 ≤ n0 ∧ n0 ≤ 1) ∧ ¬ ikf n0 = 0 then incq else inc) ∧ mat = (if (0 ≤ n0 ∧ n0 ≤ 1) ∧ ¬ ikf n0 = 0 then matq else mat) ∧ kd = (if (0 ≤ n0 ∧ n0 ≤ 1) ∧ ¬ ikf n0 = 0 then kdq else kd) ∧ tm = (if (0 ≤ n0 ∧ n0 ≤ 1) ∧ ¬ ikf n0 = 0 then tmq else tm) ∧ yr = (if (0 ≤ n0 ∧ n0 ≤ 1) ∧ ¬ ikf n0 = 0 then yrq else yr) ∧ dri = (if (0 ≤ n0 ∧ n0 ≤ 1) ∧ ¬ ikf n0 = 0 then driq else dri) ∧ iyf = (if (0 ≤ n0 ∧ n0 ≤ 1) ∧ ¬ ikf n0 = 0 then iyfq else iyf) ∧ mkf = (if (0 ≤ n0 ∧ n0 ≤ 1) ∧ ¬ ikf n0 = 0 then mkfq else mkf) ∧ T = (if (0 ≤ n0 ∧ n0 ≤ 1) ∧ ¬ ikf n0 = 0 then Tq else T) ∧ cn = (if (0 ≤ n0 ∧ n0 ≤ 1) ∧ ¬ ikf n0 = 0 then cnq else cn) from ⟨by rw [if_neg h6], by rw [if_neg (fun q => h6 q.1)], by rw [if_neg (fun q => h6 q.1)], by rw [if_neg (fun q => h6 q.1)], by rw [if_neg (fun q => h6 q.1)], by rw [if_neg (fun q => h6 q.1)], by rw [if_neg (fun q => h6 q.1)], by rw [if_neg (fun q => h6 q.1)], by rw [if_neg (fun q => h6 q.1)], by rw [if_neg (fun q => h6 q.1)], by rw [if_neg (fun q => h6 q.1)]⟩) hz
