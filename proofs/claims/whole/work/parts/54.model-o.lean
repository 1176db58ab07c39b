theorem zOr3 {a b x : Int} (h : 0 ≤ a ∧ a < b ∧ b < x ∧ x < 9) : zOr (zOr (2 ^ a.toNat) (2 ^ b.toNat)) (2 ^ x.toNat) = 2 ^ x.toNat + 2 ^ b.toNat + 2 ^ a.toNat := by
  obtain ⟨fa, ha⟩ := fin9 (a := a) (by omega)
  obtain ⟨fb, hb⟩ := fin9 (a := b) (by omega)
  obtain ⟨fx, hx⟩ := fin9 (a := x) (by omega)
  have hab : fa < fb := by show fa.val < fb.val; omega
  have hbx : fb < fx := by show fb.val < fx.val; omega
  have e1 : a.toNat = fa.val := by omega
  have e2 : b.toNat = fb.val := by omega
  have e3 : x.toNat = fx.val := by omega
  rw [e1, e2, e3]; exact (s3_all fa fb fx hab hbx).1

set_option maxRecDepth 20000 in
theorem hin_X11_layTriangles_X11 : ∀ w ∈ u_ws RX11 TX11 23, w ∈ wsX11_layTriangles := by decide +kernel
set_option maxRecDepth 20000 in
theorem fl_X11_layTriangles_135 : Cond.fieldLink RX11 135 "HornCityModel" "firstSet" "I" ∈ wsX11_layTriangles := by decide +kernel
set_option maxRecDepth 20000 in
theorem fl_X11_layTriangles_13 : Cond.fieldLink RX11 13 "HornCityModel" "now" "[I" ∈ wsX11_layTriangles := by decide +kernel
set_option maxHeartbeats 4000000 in
set_option maxRecDepth 100000 in
theorem c_X11_layTriangles (l : Launch) (D : va_G) (cI cJ cZ : ClassId) (md bk nw nt df chk pa rc qu ct ft wn wy nx im ik : Nat) (inc mat kd : Int → Int) (T cn ln wat who rs act fse tm yr : Int) (hT : 0 ≤ T ∧ T < 512) (hbi : zBd inc 9 0 179) : zMw l yX11_layTriangles wsX11_layTriangles (zRm 2) D cI cJ cZ [.ref md] [(md, .inr (9, [.ref bk, .ref nw, .ref nt, .int (zI T), .ref df, .int (zI cn), .ref chk, .int (zI ln), .ref pa, .int (zI wat), .int (zI who), .int (zI rs), .int (zI act), .int (zI fse), .ref rc, .ref qu, .ref ct, .ref ft, .ref wn, .ref wy, .ref nx, .ref im, .ref ik])), (nw, .inl (cI, 29, .inl (zA (nwS inc mat kd tm yr))))] (S := Int × Int) (fun u => u.1 = sumZ (fun s => if triS T inc s = true then 1 else 0) 512 ∧ u.2 = lstS (triS T inc) 512 0) (fun u => some (.int (zI u.1))) (fun u => [(md, .inr (9, [.ref bk, .ref nw, .ref nt, .int (zI T), .ref df, .int (zI cn), .ref chk, .int (zI ln), .ref pa, .int (zI wat), .int (zI who), .int (zI rs), .int (zI act), .int (zI u.2), .ref rc, .ref qu, .ref ct, .ref ft, .ref wn, .ref wy, .ref nx, .ref im, .ref ik])), (nw, .inl (cI, 29, .inl (zA (nwS inc mat kd tm yr))))]) := by
  refine zMw_i (cc := cX11_layTriangles) (maxL := 6) (by decide +kernel) rfl (Nat.le_of_ble_eq_true rfl) rfl (fun _ => rfl) ?_
  intro p e s m args below meth c Q H0 ls F hK hz hl hret
  obtain ⟨hx, hb, hml, hown0, hts⟩ := id F
  have hown : s.vm.findClass RX11 = some m.cls := hown0
  obtain ⟨ws0, hw0⟩ : ∃ w : va_W, w = [(md, .inr (9, [.ref bk, .ref nw, .ref nt, .int (zI T), .ref df, .int (zI cn), .ref chk, .int (zI ln), .ref pa, .int (zI wat), .int (zI who), .int (zI rs), .int (zI act), .int (zI fse), .ref rc, .ref qu, .ref ct, .ref ft, .ref wn, .ref wy, .ref nx, .ref im, .ref ik])), (nw, .inl (cI, 29, .inl (zA (nwS inc mat kd tm yr))))] := ⟨_, rfl⟩
  rw [← hw0] at hret
  have hz : zH D (zF ws0) H0 [(md, .inr (9, [.ref bk, .ref nw, .ref nt, .int (zI T), .ref df, .int (zI cn), .ref chk, .int (zI ln), .ref pa, .int (zI wat), .int (zI who), .int (zI rs), .int (zI act), .int (zI fse), .ref rc, .ref qu, .ref ct, .ref ft, .ref wn, .ref wy, .ref nx, .ref im, .ref ik])), (nw, .inl (cI, 29, .inl (zA (nwS inc mat kd tm yr))))] H0 [] := by rw [hw0]; exact hz
  have hl : lv_has ls 6 [(0, .ref md)] := hl
  refine z_iconst hx hb dX11_layTriangles_0 ?_
  refine lv_istore_n (lv' := [(1, .int (zI 0)), (0, .ref md)]) hx hb dX11_layTriangles_1 rfl hl (Nat.le_of_ble_eq_true rfl) rfl (fun ls hl => ?_)
  refine lv_aload_n hx hb dX11_layTriangles_2 rfl (lv_at hl 1 rfl) ?_
  refine z_bipush hx hb dX11_layTriangles_3 (by decide) ?_
  refine z_put (C := RX11) (T := TX11) (N := 23) (ref := "HornCityModel") (ty := .int) hx hb hts hin_X11_layTriangles_X11 hown hK hz tyX11 tyX11_ok nmX11 0 rfl rfl 13 (by decide) (hts _ fl_X11_layTriangles_135) rfl rfl (by decide +kernel) rfl rfl (Nat.le_of_ble_eq_true rfl) dX11_layTriangles_5 (fun H locs hz => ?_)
  have hz : zH D (zF ws0) H0 [(md, .inr (9, [.ref bk, .ref nw, .ref nt, .int (zI T), .ref df, .int (zI cn), .ref chk, .int (zI ln), .ref pa, .int (zI wat), .int (zI who), .int (zI rs), .int (zI act), .int (zI (-6)), .ref rc, .ref qu, .ref ct, .ref ft, .ref wn, .ref wy, .ref nx, .ref im, .ref ik])), (nw, .inl (cI, 29, .inl (zA (nwS inc mat kd tm yr))))] H locs := hz
  refine z_bipush hx hb dX11_layTriangles_8 (by decide) ?_
  refine lv_istore_n (lv' := [(2, .int (zI 8)), (1, .int (zI 0)), (0, .ref md)]) hx hb dX11_layTriangles_10 rfl hl (Nat.le_of_ble_eq_true rfl) rfl (fun ls hl => ?_)
  have L11 : ∀ (n : Nat) (x2 n1 f1 : Int) (H : Heap) (locs : List Loc) (ls : Array Slot), ((x2 + 1).toNat = n) → (-1 ≤ x2 ∧ x2 ≤ 8) → (n1 = trC (triS T inc) (2 ^ (x2 + 1).toNat) ∧ f1 = trL (triS T inc) (2 ^ (x2 + 1).toNat)) → zH D (zF ws0) H0 [(md, .inr (9, [.ref bk, .ref nw, .ref nt, .int (zI T), .ref df, .int (zI cn), .ref chk, .int (zI ln), .ref pa, .int (zI wat), .int (zI who), .int (zI rs), .int (zI act), .int (zI f1), .ref rc, .ref qu, .ref ct, .ref ft, .ref wn, .ref wy, .ref nx, .ref im, .ref ik])), (nw, .inl (cI, 29, .inl (zA (nwS inc mat kd tm yr))))] H locs → lv_has ls 6 [(2, .int (zI x2)), (1, .int (zI n1)), (0, .ref md)] → W p l e (zRm 2) s m args below meth c H locs 0 0 Q (F0 m 11 ls []) := by
    intro n
    refine Nat.strongRecOn n ?_
    intro n ih11 x2 n1 f1 H locs ls hn11 h2 hv1 hz hl
    refine lv_iload_n hx hb dX11_layTriangles_11 rfl (lv_at hl 0 rfl) ?_
    refine z_if_lt (tgt := 198) hx hb dX11_layTriangles_12 (by decide) (by omega) (fun h12 => ?_) (fun h12 => ?_)
    ·
      refine lv_iload_n hx hb dX11_layTriangles_198 rfl (lv_at hl 1 rfl) ?_
      exact hret ((n1 : Int), (f1 : Int)) dX11_layTriangles_199 (show n1 = sumZ (fun s => if triS T inc s = true then 1 else 0) 512 ∧ f1 = lstS (triS T inc) 512 0 from (by rw [show x2 = -1 by omega, (show (2 : Int) ^ ((-1 : Int) + 1).toNat = 1 from by decide)] at hv1; exact ⟨hv1.1.trans tri_0.1, hv1.2.trans tri_0.2⟩)) hz
    ·
      refine lv_iload_n hx hb dX11_layTriangles_15 rfl (lv_at hl 0 rfl) ?_
      refine z_iconst hx hb dX11_layTriangles_16 ?_
      refine z_isub hx hb dX11_layTriangles_17 ?_
      refine lv_istore_n (lv' := [(3, .int (zI (x2 - 1))), (2, .int (zI x2)), (1, .int (zI n1)), (0, .ref md)]) hx hb dX11_layTriangles_18 rfl hl (Nat.le_of_ble_eq_true rfl) rfl (fun ls hl => ?_)
      have L19 : ∀ (n : Nat) (x3 n2 f2 : Int) (H : Heap) (locs : List Loc) (ls : Array Slot), ((x3 + 1).toNat = n) → (-1 ≤ x3 ∧ x3 < x2) → (n2 = trC (triS T inc) (2 ^ x2.toNat + 2 ^ (x3 + 1).toNat) ∧ f2 = trL (triS T inc) (2 ^ x2.toNat + 2 ^ (x3 + 1).toNat)) → zH D (zF ws0) H0 [(md, .inr (9, [.ref bk, .ref nw, .ref nt, .int (zI T), .ref df, .int (zI cn), .ref chk, .int (zI ln), .ref pa, .int (zI wat), .int (zI who), .int (zI rs), .int (zI act), .int (zI f2), .ref rc, .ref qu, .ref ct, .ref ft, .ref wn, .ref wy, .ref nx, .ref im, .ref ik])), (nw, .inl (cI, 29, .inl (zA (nwS inc mat kd tm yr))))] H locs → lv_has ls 6 [(3, .int (zI x3)), (2, .int (zI x2)), (1, .int (zI n2)), (0, .ref md)] → W p l e (zRm 2) s m args below meth c H locs 0 0 Q (F0 m 19 ls []) := by
        intro n
        refine Nat.strongRecOn n ?_
        intro n ih19 x3 n2 f2 H locs ls hn19 h3 hv2 hz hl
        refine lv_iload_n hx hb dX11_layTriangles_19 rfl (lv_at hl 0 rfl) ?_
        refine z_if_lt (tgt := 192) hx hb dX11_layTriangles_20 (by decide) (by omega) (fun h20 => ?_) (fun h20 => ?_)
        ·
          refine z_iinc (lv' := [(2, .int (zI (x2 + (-1)))), (3, .int (zI x3)), (1, .int (zI n2)), (0, .ref md)]) hx hb dX11_layTriangles_192 hl (k := 1) rfl (Nat.le_of_ble_eq_true rfl) rfl (fun ls hl => ?_)
          refine lv_goto (tgt := 11) hx hb dX11_layTriangles_195 (by decide) ?_
          exact ih11 _ (by omega) (x2 + (-1)) n2 f2 H locs ls rfl (by omega) (by have h9 := tri_1 (T := T) (inc := inc) (x := x2) (by omega); rw [h9.1, h9.2]; rw [show x3 = -1 by omega, (show (2 : Int) ^ ((-1 : Int) + 1).toNat = 1 from by decide)] at hv2; exact hv2) hz (lv_sub hl [0, 2, 3] rfl)
        ·
          refine lv_iload_n hx hb dX11_layTriangles_23 rfl (lv_at hl 0 rfl) ?_
          refine z_iconst hx hb dX11_layTriangles_24 ?_
          refine z_isub hx hb dX11_layTriangles_25 ?_
          refine lv_istore (lv' := [(4, .int (zI (x3 - 1))), (3, .int (zI x3)), (2, .int (zI x2)), (1, .int (zI n2)), (0, .ref md)]) hx hb dX11_layTriangles_26 hl (Nat.le_of_ble_eq_true rfl) rfl (fun ls hl => ?_)
          have L28 : ∀ (n : Nat) (x4 n3 f3 : Int) (H : Heap) (locs : List Loc) (ls : Array Slot), ((x4 + 1).toNat = n) → (-1 ≤ x4 ∧ x4 < x3) → (n3 = trC (triS T inc) (2 ^ x2.toNat + 2 ^ x3.toNat + 2 ^ (x4 + 1).toNat) ∧ f3 = trL (triS T inc) (2 ^ x2.toNat + 2 ^ x3.toNat + 2 ^ (x4 + 1).toNat)) → zH D (zF ws0) H0 [(md, .inr (9, [.ref bk, .ref nw, .ref nt, .int (zI T), .ref df, .int (zI cn), .ref chk, .int (zI ln), .ref pa, .int (zI wat), .int (zI who), .int (zI rs), .int (zI act), .int (zI f3), .ref rc, .ref qu, .ref ct, .ref ft, .ref wn, .ref wy, .ref nx, .ref im, .ref ik])), (nw, .inl (cI, 29, .inl (zA (nwS inc mat kd tm yr))))] H locs → lv_has ls 6 [(4, .int (zI x4)), (3, .int (zI x3)), (2, .int (zI x2)), (1, .int (zI n3)), (0, .ref md)] → W p l e (zRm 2) s m args below meth c H locs 0 0 Q (F0 m 28 ls []) := by
            intro n
            refine Nat.strongRecOn n ?_
            intro n ih28 x4 n3 f3 H locs ls hn28 h4 hv3 hz hl
            refine lv_iload hx hb dX11_layTriangles_28 (lv_at hl 0 rfl) ?_
            refine z_if_lt (tgt := 186) hx hb dX11_layTriangles_30 (by decide) (by omega) (fun h30 => ?_) (fun h30 => ?_)
            ·
              refine z_iinc (lv' := [(3, .int (zI (x3 + (-1)))), (4, .int (zI x4)), (2, .int (zI x2)), (1, .int (zI n3)), (0, .ref md)]) hx hb dX11_layTriangles_186 hl (k := 1) rfl (Nat.le_of_ble_eq_true rfl) rfl (fun ls hl => ?_)
              refine lv_goto (tgt := 19) hx hb dX11_layTriangles_189 (by decide) ?_
              exact ih19 _ (by omega) (x3 + (-1)) n3 f3 H locs ls rfl (by omega) (by have h9 := tri_2 (T := T) (inc := inc) (b := x3) (x := x2) (by omega); rw [h9.1, h9.2]; rw [show x4 = -1 by omega, (show (2 : Int) ^ ((-1 : Int) + 1).toNat = 1 from by decide)] at hv3; exact hv3) hz (lv_sub hl [0, 2, 3, 4] rfl)
            ·
              refine lv_aload_n hx hb dX11_layTriangles_33 rfl (lv_at hl 4 rfl) ?_
              refine lv_iload hx hb dX11_layTriangles_34 (lv_at hl 0 rfl) ?_
              refine z_callVp (As := [.int (zI x4)]) (rest := []) (C := RX11) (T := TX11) (N := 23) F hK hz hl (c_X11_isThere l D cI cJ cZ md bk nw nt df chk pa rc qu ct ft wn wy nx im ik T cn ln wat who rs act f3 x4 (by omega) (by first | assumption | omega)) (cwV 1 hts gX11_layTriangles_X11_isThere rfl rfl rfl (by decide +kernel) ⟨Nat.le_of_ble_eq_true rfl, Nat.le_of_ble_eq_true rfl⟩) rfl 0 rfl [0] rfl rfl rfl rfl (Nat.le_of_ble_eq_true rfl) ⟨Nat.le_of_ble_eq_true rfl, Nat.le_of_ble_eq_true rfl⟩ dX11_layTriangles_36 ?_
              refine z_ifb_eq (tgt := 62) hx hb dX11_layTriangles_39 (by decide) (fun h39 => ?_) (fun h39 => ?_)
              ·
                refine z_iconst hx hb dX11_layTriangles_62 ?_
                refine lv_istore (lv' := [(5, .int (zI 0)), (4, .int (zI x4)), (3, .int (zI x3)), (2, .int (zI x2)), (1, .int (zI n3)), (0, .ref md)]) hx hb dX11_layTriangles_63 hl (Nat.le_of_ble_eq_true rfl) rfl (fun ls hl => ?_)
                refine lv_iload hx hb dX11_layTriangles_65 (lv_at hl 0 rfl) ?_
                refine z_if_eq (tgt := 136) hx hb dX11_layTriangles_67 (by decide) (by decide) (fun h67 => ?_) (fun h67 => ?_)
                ·
                  refine z_iconst hx hb dX11_layTriangles_136 ?_
                  refine lv_istore (lv' := [(5, .int (zI 0)), (4, .int (zI x4)), (3, .int (zI x3)), (2, .int (zI x2)), (1, .int (zI n3)), (0, .ref md)]) hx hb dX11_layTriangles_137 hl (Nat.le_of_ble_eq_true rfl) rfl (fun ls hl => ?_)
                  have hq9 : ¬ triS T inc (2 ^ x2.toNat + 2 ^ x3.toNat + 2 ^ x4.toNat) = true := fun q => by (have h9 := (tri3 hT (by omega)).mp q; exact h39 h9.1.1)
                  refine lv_iload_n hx hb dX11_layTriangles_139 rfl (lv_at hl 4 rfl) ?_
                  refine lv_iload hx hb dX11_layTriangles_140 (lv_at hl 0 rfl) ?_
                  refine z_if_eq (tgt := 149) hx hb dX11_layTriangles_142 (by decide) (by decide) (fun h142 => ?_) (fun h142 => ?_)
                  ·
                    refine z_iconst hx hb dX11_layTriangles_149 ?_
                    refine z_iadd hx hb dX11_layTriangles_150 ?_
                    refine lv_istore_n (lv' := [(1, .int (zI (n3 + 0))), (5, .int (zI 0)), (4, .int (zI x4)), (3, .int (zI x3)), (2, .int (zI x2)), (0, .ref md)]) hx hb dX11_layTriangles_151 rfl hl (Nat.le_of_ble_eq_true rfl) rfl (fun ls hl => ?_)
                    refine lv_aload_n hx hb dX11_layTriangles_152 rfl (lv_at hl 5 rfl) ?_
                    refine lv_iload hx hb dX11_layTriangles_153 (lv_at hl 1 rfl) ?_
                    refine z_if_eq (tgt := 173) hx hb dX11_layTriangles_155 (by decide) (by decide) (fun h155 => ?_) (fun h155 => ?_)
                    ·
                      refine lv_aload_n hx hb dX11_layTriangles_173 rfl (lv_at hl 5 rfl) ?_
                      refine z_get (C := RX11) (T := TX11) (N := 23) (ref := "HornCityModel") hx hb hts hin_X11_layTriangles_X11 hown hK hz 0 rfl rfl 13 (by decide) (hts _ fl_X11_layTriangles_135) rfl rfl dX11_layTriangles_174 ?_
                      refine z_put (C := RX11) (T := TX11) (N := 23) (ref := "HornCityModel") (ty := .int) hx hb hts hin_X11_layTriangles_X11 hown hK hz tyX11 tyX11_ok nmX11 0 rfl rfl 13 (by decide) (hts _ fl_X11_layTriangles_135) rfl rfl (by decide +kernel) rfl rfl (Nat.le_of_ble_eq_true rfl) dX11_layTriangles_177 (fun H locs hz => ?_)
                      have hz : zH D (zF ws0) H0 [(md, .inr (9, [.ref bk, .ref nw, .ref nt, .int (zI T), .ref df, .int (zI cn), .ref chk, .int (zI ln), .ref pa, .int (zI wat), .int (zI who), .int (zI rs), .int (zI act), .int (zI f3), .ref rc, .ref qu, .ref ct, .ref ft, .ref wn, .ref wy, .ref nx, .ref im, .ref ik])), (nw, .inl (cI, 29, .inl (zA (nwS inc mat kd tm yr))))] H locs := hz
                      refine z_iinc (lv' := [(4, .int (zI (x4 + (-1)))), (1, .int (zI (n3 + 0))), (5, .int (zI 0)), (3, .int (zI x3)), (2, .int (zI x2)), (0, .ref md)]) hx hb dX11_layTriangles_180 hl (k := 2) rfl (Nat.le_of_ble_eq_true rfl) rfl (fun ls hl => ?_)
                      refine lv_goto (tgt := 28) hx hb dX11_layTriangles_183 (by decide) ?_
                      exact ih28 _ (by omega) (x4 + (-1)) (n3 + 0) f3 H locs ls rfl (by omega) (by have h9 := tri_in (T := T) (inc := inc) (a := x4) (b := x3) (x := x2) (by omega); rw [h9.1, h9.2]; rw [if_neg hq9, if_neg hq9, Int.add_zero, Int.add_zero]; exact hv3) hz (lv_sub hl [0, 3, 4, 1, 5] rfl)
                    ·
                      exfalso
                      first | omega | (revert h155; simp_all; done) | simp_all
                  ·
                    exfalso
                    first | omega | (revert h142; simp_all; done) | simp_all
                ·
                  exfalso
                  first | omega | (revert h67; simp_all; done) | simp_all
              ·
                refine lv_aload_n hx hb dX11_layTriangles_42 rfl (lv_at hl 4 rfl) ?_
                refine lv_iload_n hx hb dX11_layTriangles_43 rfl (lv_at hl 1 rfl) ?_
                refine z_callVp (As := [.int (zI x3)]) (rest := []) (C := RX11) (T := TX11) (N := 23) F hK hz hl (c_X11_isThere l D cI cJ cZ md bk nw nt df chk pa rc qu ct ft wn wy nx im ik T cn ln wat who rs act f3 x3 (by omega) (by first | assumption | omega)) (cwV 1 hts gX11_layTriangles_X11_isThere rfl rfl rfl (by decide +kernel) ⟨Nat.le_of_ble_eq_true rfl, Nat.le_of_ble_eq_true rfl⟩) rfl 0 rfl [0] rfl rfl rfl rfl (Nat.le_of_ble_eq_true rfl) ⟨Nat.le_of_ble_eq_true rfl, Nat.le_of_ble_eq_true rfl⟩ dX11_layTriangles_44 ?_
                refine z_ifb_eq (tgt := 62) hx hb dX11_layTriangles_47 (by decide) (fun h47 => ?_) (fun h47 => ?_)
                ·
                  refine z_iconst hx hb dX11_layTriangles_62 ?_
                  refine lv_istore (lv' := [(5, .int (zI 0)), (4, .int (zI x4)), (3, .int (zI x3)), (2, .int (zI x2)), (1, .int (zI n3)), (0, .ref md)]) hx hb dX11_layTriangles_63 hl (Nat.le_of_ble_eq_true rfl) rfl (fun ls hl => ?_)
                  refine lv_iload hx hb dX11_layTriangles_65 (lv_at hl 0 rfl) ?_
                  refine z_if_eq (tgt := 136) hx hb dX11_layTriangles_67 (by decide) (by decide) (fun h67 => ?_) (fun h67 => ?_)
                  ·
                    refine z_iconst hx hb dX11_layTriangles_136 ?_
                    refine lv_istore (lv' := [(5, .int (zI 0)), (4, .int (zI x4)), (3, .int (zI x3)), (2, .int (zI x2)), (1, .int (zI n3)), (0, .ref md)]) hx hb dX11_layTriangles_137 hl (Nat.le_of_ble_eq_true rfl) rfl (fun ls hl => ?_)
                    have hq9 : ¬ triS T inc (2 ^ x2.toNat + 2 ^ x3.toNat + 2 ^ x4.toNat) = true := fun q => by (have h9 := (tri3 hT (by omega)).mp q; exact h47 h9.1.2.1)
                    refine lv_iload_n hx hb dX11_layTriangles_139 rfl (lv_at hl 4 rfl) ?_
                    refine lv_iload hx hb dX11_layTriangles_140 (lv_at hl 0 rfl) ?_
                    refine z_if_eq (tgt := 149) hx hb dX11_layTriangles_142 (by decide) (by decide) (fun h142 => ?_) (fun h142 => ?_)
                    ·
                      refine z_iconst hx hb dX11_layTriangles_149 ?_
                      refine z_iadd hx hb dX11_layTriangles_150 ?_
                      refine lv_istore_n (lv' := [(1, .int (zI (n3 + 0))), (5, .int (zI 0)), (4, .int (zI x4)), (3, .int (zI x3)), (2, .int (zI x2)), (0, .ref md)]) hx hb dX11_layTriangles_151 rfl hl (Nat.le_of_ble_eq_true rfl) rfl (fun ls hl => ?_)
                      refine lv_aload_n hx hb dX11_layTriangles_152 rfl (lv_at hl 5 rfl) ?_
                      refine lv_iload hx hb dX11_layTriangles_153 (lv_at hl 1 rfl) ?_
                      refine z_if_eq (tgt := 173) hx hb dX11_layTriangles_155 (by decide) (by decide) (fun h155 => ?_) (fun h155 => ?_)
                      ·
                        refine lv_aload_n hx hb dX11_layTriangles_173 rfl (lv_at hl 5 rfl) ?_
                        refine z_get (C := RX11) (T := TX11) (N := 23) (ref := "HornCityModel") hx hb hts hin_X11_layTriangles_X11 hown hK hz 0 rfl rfl 13 (by decide) (hts _ fl_X11_layTriangles_135) rfl rfl dX11_layTriangles_174 ?_
                        refine z_put (C := RX11) (T := TX11) (N := 23) (ref := "HornCityModel") (ty := .int) hx hb hts hin_X11_layTriangles_X11 hown hK hz tyX11 tyX11_ok nmX11 0 rfl rfl 13 (by decide) (hts _ fl_X11_layTriangles_135) rfl rfl (by decide +kernel) rfl rfl (Nat.le_of_ble_eq_true rfl) dX11_layTriangles_177 (fun H locs hz => ?_)
                        have hz : zH D (zF ws0) H0 [(md, .inr (9, [.ref bk, .ref nw, .ref nt, .int (zI T), .ref df, .int (zI cn), .ref chk, .int (zI ln), .ref pa, .int (zI wat), .int (zI who), .int (zI rs), .int (zI act), .int (zI f3), .ref rc, .ref qu, .ref ct, .ref ft, .ref wn, .ref wy, .ref nx, .ref im, .ref ik])), (nw, .inl (cI, 29, .inl (zA (nwS inc mat kd tm yr))))] H locs := hz
                        refine z_iinc (lv' := [(4, .int (zI (x4 + (-1)))), (1, .int (zI (n3 + 0))), (5, .int (zI 0)), (3, .int (zI x3)), (2, .int (zI x2)), (0, .ref md)]) hx hb dX11_layTriangles_180 hl (k := 2) rfl (Nat.le_of_ble_eq_true rfl) rfl (fun ls hl => ?_)
                        refine lv_goto (tgt := 28) hx hb dX11_layTriangles_183 (by decide) ?_
                        exact ih28 _ (by omega) (x4 + (-1)) (n3 + 0) f3 H locs ls rfl (by omega) (by have h9 := tri_in (T := T) (inc := inc) (a := x4) (b := x3) (x := x2) (by omega); rw [h9.1, h9.2]; rw [if_neg hq9, if_neg hq9, Int.add_zero, Int.add_zero]; exact hv3) hz (lv_sub hl [0, 3, 4, 1, 5] rfl)
                      ·
                        exfalso
                        first | omega | (revert h155; simp_all; done) | simp_all
                    ·
                      exfalso
                      first | omega | (revert h142; simp_all; done) | simp_all
                  ·
                    exfalso
                    first | omega | (revert h67; simp_all; done) | simp_all
                ·
                  refine lv_aload_n hx hb dX11_layTriangles_50 rfl (lv_at hl 4 rfl) ?_
                  refine lv_iload_n hx hb dX11_layTriangles_51 rfl (lv_at hl 2 rfl) ?_
                  refine z_callVp (As := [.int (zI x2)]) (rest := []) (C := RX11) (T := TX11) (N := 23) F hK hz hl (c_X11_isThere l D cI cJ cZ md bk nw nt df chk pa rc qu ct ft wn wy nx im ik T cn ln wat who rs act f3 x2 (by omega) (by first | assumption | omega)) (cwV 1 hts gX11_layTriangles_X11_isThere rfl rfl rfl (by decide +kernel) ⟨Nat.le_of_ble_eq_true rfl, Nat.le_of_ble_eq_true rfl⟩) rfl 0 rfl [0] rfl rfl rfl rfl (Nat.le_of_ble_eq_true rfl) ⟨Nat.le_of_ble_eq_true rfl, Nat.le_of_ble_eq_true rfl⟩ dX11_layTriangles_52 ?_
                  refine z_ifb_eq (tgt := 62) hx hb dX11_layTriangles_55 (by decide) (fun h55 => ?_) (fun h55 => ?_)
                  ·
                    refine z_iconst hx hb dX11_layTriangles_62 ?_
                    refine lv_istore (lv' := [(5, .int (zI 0)), (4, .int (zI x4)), (3, .int (zI x3)), (2, .int (zI x2)), (1, .int (zI n3)), (0, .ref md)]) hx hb dX11_layTriangles_63 hl (Nat.le_of_ble_eq_true rfl) rfl (fun ls hl => ?_)
                    refine lv_iload hx hb dX11_layTriangles_65 (lv_at hl 0 rfl) ?_
                    refine z_if_eq (tgt := 136) hx hb dX11_layTriangles_67 (by decide) (by decide) (fun h67 => ?_) (fun h67 => ?_)
                    ·
                      refine z_iconst hx hb dX11_layTriangles_136 ?_
                      refine lv_istore (lv' := [(5, .int (zI 0)), (4, .int (zI x4)), (3, .int (zI x3)), (2, .int (zI x2)), (1, .int (zI n3)), (0, .ref md)]) hx hb dX11_layTriangles_137 hl (Nat.le_of_ble_eq_true rfl) rfl (fun ls hl => ?_)
                      have hq9 : ¬ triS T inc (2 ^ x2.toNat + 2 ^ x3.toNat + 2 ^ x4.toNat) = true := fun q => by (have h9 := (tri3 hT (by omega)).mp q; exact h55 h9.1.2.2)
                      refine lv_iload_n hx hb dX11_layTriangles_139 rfl (lv_at hl 4 rfl) ?_
                      refine lv_iload hx hb dX11_layTriangles_140 (lv_at hl 0 rfl) ?_
                      refine z_if_eq (tgt := 149) hx hb dX11_layTriangles_142 (by decide) (by decide) (fun h142 => ?_) (fun h142 => ?_)
                      ·
                        refine z_iconst hx hb dX11_layTriangles_149 ?_
                        refine z_iadd hx hb dX11_layTriangles_150 ?_
                        refine lv_istore_n (lv' := [(1, .int (zI (n3 + 0))), (5, .int (zI 0)), (4, .int (zI x4)), (3, .int (zI x3)), (2, .int (zI x2)), (0, .ref md)]) hx hb dX11_layTriangles_151 rfl hl (Nat.le_of_ble_eq_true rfl) rfl (fun ls hl => ?_)
                        refine lv_aload_n hx hb dX11_layTriangles_152 rfl (lv_at hl 5 rfl) ?_
                        refine lv_iload hx hb dX11_layTriangles_153 (lv_at hl 1 rfl) ?_
                        refine z_if_eq (tgt := 173) hx hb dX11_layTriangles_155 (by decide) (by decide) (fun h155 => ?_) (fun h155 => ?_)
                        ·
                          refine lv_aload_n hx hb dX11_layTriangles_173 rfl (lv_at hl 5 rfl) ?_
                          refine z_get (C := RX11) (T := TX11) (N := 23) (ref := "HornCityModel") hx hb hts hin_X11_layTriangles_X11 hown hK hz 0 rfl rfl 13 (by decide) (hts _ fl_X11_layTriangles_135) rfl rfl dX11_layTriangles_174 ?_
                          refine z_put (C := RX11) (T := TX11) (N := 23) (ref := "HornCityModel") (ty := .int) hx hb hts hin_X11_layTriangles_X11 hown hK hz tyX11 tyX11_ok nmX11 0 rfl rfl 13 (by decide) (hts _ fl_X11_layTriangles_135) rfl rfl (by decide +kernel) rfl rfl (Nat.le_of_ble_eq_true rfl) dX11_layTriangles_177 (fun H locs hz => ?_)
                          have hz : zH D (zF ws0) H0 [(md, .inr (9, [.ref bk, .ref nw, .ref nt, .int (zI T), .ref df, .int (zI cn), .ref chk, .int (zI ln), .ref pa, .int (zI wat), .int (zI who), .int (zI rs), .int (zI act), .int (zI f3), .ref rc, .ref qu, .ref ct, .ref ft, .ref wn, .ref wy, .ref nx, .ref im, .ref ik])), (nw, .inl (cI, 29, .inl (zA (nwS inc mat kd tm yr))))] H locs := hz
                          refine z_iinc (lv' := [(4, .int (zI (x4 + (-1)))), (1, .int (zI (n3 + 0))), (5, .int (zI 0)), (3, .int (zI x3)), (2, .int (zI x2)), (0, .ref md)]) hx hb dX11_layTriangles_180 hl (k := 2) rfl (Nat.le_of_ble_eq_true rfl) rfl (fun ls hl => ?_)
                          refine lv_goto (tgt := 28) hx hb dX11_layTriangles_183 (by decide) ?_
                          exact ih28 _ (by omega) (x4 + (-1)) (n3 + 0) f3 H locs ls rfl (by omega) (by have h9 := tri_in (T := T) (inc := inc) (a := x4) (b := x3) (x := x2) (by omega); rw [h9.1, h9.2]; rw [if_neg hq9, if_neg hq9, Int.add_zero, Int.add_zero]; exact hv3) hz (lv_sub hl [0, 3, 4, 1, 5] rfl)
                        ·
                          exfalso
                          first | omega | (revert h155; simp_all; done) | simp_all
                      ·
                        exfalso
                        first | omega | (revert h142; simp_all; done) | simp_all
                    ·
                      exfalso
                      first | omega | (revert h67; simp_all; done) | simp_all
                  ·
                    refine z_iconst hx hb dX11_layTriangles_58 ?_
                    refine lv_goto (tgt := 63) hx hb dX11_layTriangles_59 (by decide) ?_
                    refine lv_istore (lv' := [(5, .int (zI 1)), (4, .int (zI x4)), (3, .int (zI x3)), (2, .int (zI x2)), (1, .int (zI n3)), (0, .ref md)]) hx hb dX11_layTriangles_63 hl (Nat.le_of_ble_eq_true rfl) rfl (fun ls hl => ?_)
                    refine lv_iload hx hb dX11_layTriangles_65 (lv_at hl 0 rfl) ?_
                    refine z_if_eq (tgt := 136) hx hb dX11_layTriangles_67 (by decide) (by decide) (fun h67 => ?_) (fun h67 => ?_)
                    ·
                      exfalso
                      first | omega | (revert h67; simp_all; done) | simp_all
                    ·
                      refine lv_aload_n hx hb dX11_layTriangles_70 rfl (lv_at hl 5 rfl) ?_
                      refine z_get (C := RX11) (T := TX11) (N := 23) (ref := "HornCityModel") hx hb hts hin_X11_layTriangles_X11 hown hK hz 0 rfl rfl 1 (by decide) (hts _ fl_X11_layTriangles_13) rfl rfl dX11_layTriangles_71 ?_
                      refine lv_iload hx hb dX11_layTriangles_74 (lv_at hl 1 rfl) ?_
                      refine z_iald hx hb hK hz 1 rfl (by omega) (by decide) dX11_layTriangles_76 ?_
                      rw [nwS_i (k := x4) (by omega)]
                      have hv76 := (hbi).ax x4 (by omega)
                      refine lv_aload_n hx hb dX11_layTriangles_77 rfl (lv_at hl 5 rfl) ?_
                      refine z_get (C := RX11) (T := TX11) (N := 23) (ref := "HornCityModel") hx hb hts hin_X11_layTriangles_X11 hown hK hz 0 rfl rfl 1 (by decide) (hts _ fl_X11_layTriangles_13) rfl rfl dX11_layTriangles_78 ?_
                      refine lv_iload_n hx hb dX11_layTriangles_81 rfl (lv_at hl 2 rfl) ?_
                      refine z_iald hx hb hK hz 1 rfl (by omega) (by decide) dX11_layTriangles_82 ?_
                      rw [nwS_i (k := x3) (by omega)]
                      have hv82 := (hbi).ax x3 (by omega)
                      refine z_callSp (As := [.int (zI (inc x4)), .int (zI (inc x3))]) (rest := []) F hK hz hl (c_X11_apartOf l D cI cJ cZ (inc x4) (inc x3) (by omega)) (va_cwS 2 hts gX11_layTriangles_X11_apartOf rfl rfl rfl (by decide +kernel) ⟨Nat.le_of_ble_eq_true rfl, Nat.le_of_ble_eq_true rfl⟩) [] rfl rfl rfl rfl (Nat.le_of_ble_eq_true rfl) ⟨Nat.le_of_ble_eq_true rfl, Nat.le_of_ble_eq_true rfl⟩ dX11_layTriangles_83 ?_
                      have hp88 := apS_bd (inc x4) (inc x3)
                      refine z_bipush hx hb dX11_layTriangles_86 (by decide) ?_
                      refine z_icmp_le (tgt := 136) hx hb dX11_layTriangles_88 (by decide) (by omega) (by decide) (fun h88 => ?_) (fun h88 => ?_)
                      ·
                        refine z_iconst hx hb dX11_layTriangles_136 ?_
                        refine lv_istore (lv' := [(5, .int (zI 0)), (4, .int (zI x4)), (3, .int (zI x3)), (2, .int (zI x2)), (1, .int (zI n3)), (0, .ref md)]) hx hb dX11_layTriangles_137 hl (Nat.le_of_ble_eq_true rfl) rfl (fun ls hl => ?_)
                        have hq9 : ¬ triS T inc (2 ^ x2.toNat + 2 ^ x3.toNat + 2 ^ x4.toNat) = true := fun q => by (have h9 := (tri3 hT (by omega)).mp q; have h8 := h9.2; omega)
                        refine lv_iload_n hx hb dX11_layTriangles_139 rfl (lv_at hl 4 rfl) ?_
                        refine lv_iload hx hb dX11_layTriangles_140 (lv_at hl 0 rfl) ?_
                        refine z_if_eq (tgt := 149) hx hb dX11_layTriangles_142 (by decide) (by decide) (fun h142 => ?_) (fun h142 => ?_)
                        ·
                          refine z_iconst hx hb dX11_layTriangles_149 ?_
                          refine z_iadd hx hb dX11_layTriangles_150 ?_
                          refine lv_istore_n (lv' := [(1, .int (zI (n3 + 0))), (5, .int (zI 0)), (4, .int (zI x4)), (3, .int (zI x3)), (2, .int (zI x2)), (0, .ref md)]) hx hb dX11_layTriangles_151 rfl hl (Nat.le_of_ble_eq_true rfl) rfl (fun ls hl => ?_)
                          refine lv_aload_n hx hb dX11_layTriangles_152 rfl (lv_at hl 5 rfl) ?_
                          refine lv_iload hx hb dX11_layTriangles_153 (lv_at hl 1 rfl) ?_
                          refine z_if_eq (tgt := 173) hx hb dX11_layTriangles_155 (by decide) (by decide) (fun h155 => ?_) (fun h155 => ?_)
                          ·
                            refine lv_aload_n hx hb dX11_layTriangles_173 rfl (lv_at hl 5 rfl) ?_
                            refine z_get (C := RX11) (T := TX11) (N := 23) (ref := "HornCityModel") hx hb hts hin_X11_layTriangles_X11 hown hK hz 0 rfl rfl 13 (by decide) (hts _ fl_X11_layTriangles_135) rfl rfl dX11_layTriangles_174 ?_
                            refine z_put (C := RX11) (T := TX11) (N := 23) (ref := "HornCityModel") (ty := .int) hx hb hts hin_X11_layTriangles_X11 hown hK hz tyX11 tyX11_ok nmX11 0 rfl rfl 13 (by decide) (hts _ fl_X11_layTriangles_135) rfl rfl (by decide +kernel) rfl rfl (Nat.le_of_ble_eq_true rfl) dX11_layTriangles_177 (fun H locs hz => ?_)
                            have hz : zH D (zF ws0) H0 [(md, .inr (9, [.ref bk, .ref nw, .ref nt, .int (zI T), .ref df, .int (zI cn), .ref chk, .int (zI ln), .ref pa, .int (zI wat), .int (zI who), .int (zI rs), .int (zI act), .int (zI f3), .ref rc, .ref qu, .ref ct, .ref ft, .ref wn, .ref wy, .ref nx, .ref im, .ref ik])), (nw, .inl (cI, 29, .inl (zA (nwS inc mat kd tm yr))))] H locs := hz
                            refine z_iinc (lv' := [(4, .int (zI (x4 + (-1)))), (1, .int (zI (n3 + 0))), (5, .int (zI 0)), (3, .int (zI x3)), (2, .int (zI x2)), (0, .ref md)]) hx hb dX11_layTriangles_180 hl (k := 2) rfl (Nat.le_of_ble_eq_true rfl) rfl (fun ls hl => ?_)
                            refine lv_goto (tgt := 28) hx hb dX11_layTriangles_183 (by decide) ?_
                            exact ih28 _ (by omega) (x4 + (-1)) (n3 + 0) f3 H locs ls rfl (by omega) (by have h9 := tri_in (T := T) (inc := inc) (a := x4) (b := x3) (x := x2) (by omega); rw [h9.1, h9.2]; rw [if_neg hq9, if_neg hq9, Int.add_zero, Int.add_zero]; exact hv3) hz (lv_sub hl [0, 3, 4, 1, 5] rfl)
                          ·
                            exfalso
                            first | omega | (revert h155; simp_all; done) | simp_all
                        ·
                          exfalso
                          first | omega | (revert h142; simp_all; done) | simp_all
                      ·
                        refine lv_aload_n hx hb dX11_layTriangles_91 rfl (lv_at hl 5 rfl) ?_
                        refine z_get (C := RX11) (T := TX11) (N := 23) (ref := "HornCityModel") hx hb hts hin_X11_layTriangles_X11 hown hK hz 0 rfl rfl 1 (by decide) (hts _ fl_X11_layTriangles_13) rfl rfl dX11_layTriangles_92 ?_
                        refine lv_iload hx hb dX11_layTriangles_95 (lv_at hl 1 rfl) ?_
                        refine z_iald hx hb hK hz 1 rfl (by omega) (by decide) dX11_layTriangles_97 ?_
                        rw [nwS_i (k := x4) (by omega)]
                        have hv97 := (hbi).ax x4 (by omega)
                        refine lv_aload_n hx hb dX11_layTriangles_98 rfl (lv_at hl 5 rfl) ?_
                        refine z_get (C := RX11) (T := TX11) (N := 23) (ref := "HornCityModel") hx hb hts hin_X11_layTriangles_X11 hown hK hz 0 rfl rfl 1 (by decide) (hts _ fl_X11_layTriangles_13) rfl rfl dX11_layTriangles_99 ?_
                        refine lv_iload_n hx hb dX11_layTriangles_102 rfl (lv_at hl 3 rfl) ?_
                        refine z_iald hx hb hK hz 1 rfl (by omega) (by decide) dX11_layTriangles_103 ?_
                        rw [nwS_i (k := x2) (by omega)]
                        have hv103 := (hbi).ax x2 (by omega)
                        refine z_callSp (As := [.int (zI (inc x4)), .int (zI (inc x2))]) (rest := []) F hK hz hl (c_X11_apartOf l D cI cJ cZ (inc x4) (inc x2) (by omega)) (va_cwS 2 hts gX11_layTriangles_X11_apartOf rfl rfl rfl (by decide +kernel) ⟨Nat.le_of_ble_eq_true rfl, Nat.le_of_ble_eq_true rfl⟩) [] rfl rfl rfl rfl (Nat.le_of_ble_eq_true rfl) ⟨Nat.le_of_ble_eq_true rfl, Nat.le_of_ble_eq_true rfl⟩ dX11_layTriangles_104 ?_
                        have hp109 := apS_bd (inc x4) (inc x2)
                        refine z_bipush hx hb dX11_layTriangles_107 (by decide) ?_
                        refine z_icmp_le (tgt := 136) hx hb dX11_layTriangles_109 (by decide) (by omega) (by decide) (fun h109 => ?_) (fun h109 => ?_)
                        ·
                          refine z_iconst hx hb dX11_layTriangles_136 ?_
                          refine lv_istore (lv' := [(5, .int (zI 0)), (4, .int (zI x4)), (3, .int (zI x3)), (2, .int (zI x2)), (1, .int (zI n3)), (0, .ref md)]) hx hb dX11_layTriangles_137 hl (Nat.le_of_ble_eq_true rfl) rfl (fun ls hl => ?_)
                          have hq9 : ¬ triS T inc (2 ^ x2.toNat + 2 ^ x3.toNat + 2 ^ x4.toNat) = true := fun q => by (have h9 := (tri3 hT (by omega)).mp q; have h8 := h9.2; omega)
                          refine lv_iload_n hx hb dX11_layTriangles_139 rfl (lv_at hl 4 rfl) ?_
                          refine lv_iload hx hb dX11_layTriangles_140 (lv_at hl 0 rfl) ?_
                          refine z_if_eq (tgt := 149) hx hb dX11_layTriangles_142 (by decide) (by decide) (fun h142 => ?_) (fun h142 => ?_)
                          ·
                            refine z_iconst hx hb dX11_layTriangles_149 ?_
                            refine z_iadd hx hb dX11_layTriangles_150 ?_
                            refine lv_istore_n (lv' := [(1, .int (zI (n3 + 0))), (5, .int (zI 0)), (4, .int (zI x4)), (3, .int (zI x3)), (2, .int (zI x2)), (0, .ref md)]) hx hb dX11_layTriangles_151 rfl hl (Nat.le_of_ble_eq_true rfl) rfl (fun ls hl => ?_)
                            refine lv_aload_n hx hb dX11_layTriangles_152 rfl (lv_at hl 5 rfl) ?_
                            refine lv_iload hx hb dX11_layTriangles_153 (lv_at hl 1 rfl) ?_
                            refine z_if_eq (tgt := 173) hx hb dX11_layTriangles_155 (by decide) (by decide) (fun h155 => ?_) (fun h155 => ?_)
                            ·
                              refine lv_aload_n hx hb dX11_layTriangles_173 rfl (lv_at hl 5 rfl) ?_
                              refine z_get (C := RX11) (T := TX11) (N := 23) (ref := "HornCityModel") hx hb hts hin_X11_layTriangles_X11 hown hK hz 0 rfl rfl 13 (by decide) (hts _ fl_X11_layTriangles_135) rfl rfl dX11_layTriangles_174 ?_
                              refine z_put (C := RX11) (T := TX11) (N := 23) (ref := "HornCityModel") (ty := .int) hx hb hts hin_X11_layTriangles_X11 hown hK hz tyX11 tyX11_ok nmX11 0 rfl rfl 13 (by decide) (hts _ fl_X11_layTriangles_135) rfl rfl (by decide +kernel) rfl rfl (Nat.le_of_ble_eq_true rfl) dX11_layTriangles_177 (fun H locs hz => ?_)
                              have hz : zH D (zF ws0) H0 [(md, .inr (9, [.ref bk, .ref nw, .ref nt, .int (zI T), .ref df, .int (zI cn), .ref chk, .int (zI ln), .ref pa, .int (zI wat), .int (zI who), .int (zI rs), .int (zI act), .int (zI f3), .ref rc, .ref qu, .ref ct, .ref ft, .ref wn, .ref wy, .ref nx, .ref im, .ref ik])), (nw, .inl (cI, 29, .inl (zA (nwS inc mat kd tm yr))))] H locs := hz
                              refine z_iinc (lv' := [(4, .int (zI (x4 + (-1)))), (1, .int (zI (n3 + 0))), (5, .int (zI 0)), (3, .int (zI x3)), (2, .int (zI x2)), (0, .ref md)]) hx hb dX11_layTriangles_180 hl (k := 2) rfl (Nat.le_of_ble_eq_true rfl) rfl (fun ls hl => ?_)
                              refine lv_goto (tgt := 28) hx hb dX11_layTriangles_183 (by decide) ?_
                              exact ih28 _ (by omega) (x4 + (-1)) (n3 + 0) f3 H locs ls rfl (by omega) (by have h9 := tri_in (T := T) (inc := inc) (a := x4) (b := x3) (x := x2) (by omega); rw [h9.1, h9.2]; rw [if_neg hq9, if_neg hq9, Int.add_zero, Int.add_zero]; exact hv3) hz (lv_sub hl [0, 3, 4, 1, 5] rfl)
                            ·
                              exfalso
                              first | omega | (revert h155; simp_all; done) | simp_all
                          ·
                            exfalso
                            first | omega | (revert h142; simp_all; done) | simp_all
                        ·
                          refine lv_aload_n hx hb dX11_layTriangles_112 rfl (lv_at hl 5 rfl) ?_
                          refine z_get (C := RX11) (T := TX11) (N := 23) (ref := "HornCityModel") hx hb hts hin_X11_layTriangles_X11 hown hK hz 0 rfl rfl 1 (by decide) (hts _ fl_X11_layTriangles_13) rfl rfl dX11_layTriangles_113 ?_
                          refine lv_iload_n hx hb dX11_layTriangles_116 rfl (lv_at hl 2 rfl) ?_
                          refine z_iald hx hb hK hz 1 rfl (by omega) (by decide) dX11_layTriangles_117 ?_
                          rw [nwS_i (k := x3) (by omega)]
                          have hv117 := (hbi).ax x3 (by omega)
                          refine lv_aload_n hx hb dX11_layTriangles_118 rfl (lv_at hl 5 rfl) ?_
                          refine z_get (C := RX11) (T := TX11) (N := 23) (ref := "HornCityModel") hx hb hts hin_X11_layTriangles_X11 hown hK hz 0 rfl rfl 1 (by decide) (hts _ fl_X11_layTriangles_13) rfl rfl dX11_layTriangles_119 ?_
                          refine lv_iload_n hx hb dX11_layTriangles_122 rfl (lv_at hl 3 rfl) ?_
                          refine z_iald hx hb hK hz 1 rfl (by omega) (by decide) dX11_layTriangles_123 ?_
                          rw [nwS_i (k := x2) (by omega)]
                          have hv123 := (hbi).ax x2 (by omega)
                          refine z_callSp (As := [.int (zI (inc x3)), .int (zI (inc x2))]) (rest := []) F hK hz hl (c_X11_apartOf l D cI cJ cZ (inc x3) (inc x2) (by omega)) (va_cwS 2 hts gX11_layTriangles_X11_apartOf rfl rfl rfl (by decide +kernel) ⟨Nat.le_of_ble_eq_true rfl, Nat.le_of_ble_eq_true rfl⟩) [] rfl rfl rfl rfl (Nat.le_of_ble_eq_true rfl) ⟨Nat.le_of_ble_eq_true rfl, Nat.le_of_ble_eq_true rfl⟩ dX11_layTriangles_124 ?_
                          have hp129 := apS_bd (inc x3) (inc x2)
                          refine z_bipush hx hb dX11_layTriangles_127 (by decide) ?_
                          refine z_icmp_le (tgt := 136) hx hb dX11_layTriangles_129 (by decide) (by omega) (by decide) (fun h129 => ?_) (fun h129 => ?_)
                          ·
                            refine z_iconst hx hb dX11_layTriangles_136 ?_
                            refine lv_istore (lv' := [(5, .int (zI 0)), (4, .int (zI x4)), (3, .int (zI x3)), (2, .int (zI x2)), (1, .int (zI n3)), (0, .ref md)]) hx hb dX11_layTriangles_137 hl (Nat.le_of_ble_eq_true rfl) rfl (fun ls hl => ?_)
                            have hq9 : ¬ triS T inc (2 ^ x2.toNat + 2 ^ x3.toNat + 2 ^ x4.toNat) = true := fun q => by (have h9 := (tri3 hT (by omega)).mp q; have h8 := h9.2; omega)
                            refine lv_iload_n hx hb dX11_layTriangles_139 rfl (lv_at hl 4 rfl) ?_
                            refine lv_iload hx hb dX11_layTriangles_140 (lv_at hl 0 rfl) ?_
                            refine z_if_eq (tgt := 149) hx hb dX11_layTriangles_142 (by decide) (by decide) (fun h142 => ?_) (fun h142 => ?_)
                            ·
                              refine z_iconst hx hb dX11_layTriangles_149 ?_
                              refine z_iadd hx hb dX11_layTriangles_150 ?_
                              refine lv_istore_n (lv' := [(1, .int (zI (n3 + 0))), (5, .int (zI 0)), (4, .int (zI x4)), (3, .int (zI x3)), (2, .int (zI x2)), (0, .ref md)]) hx hb dX11_layTriangles_151 rfl hl (Nat.le_of_ble_eq_true rfl) rfl (fun ls hl => ?_)
                              refine lv_aload_n hx hb dX11_layTriangles_152 rfl (lv_at hl 5 rfl) ?_
                              refine lv_iload hx hb dX11_layTriangles_153 (lv_at hl 1 rfl) ?_
                              refine z_if_eq (tgt := 173) hx hb dX11_layTriangles_155 (by decide) (by decide) (fun h155 => ?_) (fun h155 => ?_)
                              ·
                                refine lv_aload_n hx hb dX11_layTriangles_173 rfl (lv_at hl 5 rfl) ?_
                                refine z_get (C := RX11) (T := TX11) (N := 23) (ref := "HornCityModel") hx hb hts hin_X11_layTriangles_X11 hown hK hz 0 rfl rfl 13 (by decide) (hts _ fl_X11_layTriangles_135) rfl rfl dX11_layTriangles_174 ?_
                                refine z_put (C := RX11) (T := TX11) (N := 23) (ref := "HornCityModel") (ty := .int) hx hb hts hin_X11_layTriangles_X11 hown hK hz tyX11 tyX11_ok nmX11 0 rfl rfl 13 (by decide) (hts _ fl_X11_layTriangles_135) rfl rfl (by decide +kernel) rfl rfl (Nat.le_of_ble_eq_true rfl) dX11_layTriangles_177 (fun H locs hz => ?_)
                                have hz : zH D (zF ws0) H0 [(md, .inr (9, [.ref bk, .ref nw, .ref nt, .int (zI T), .ref df, .int (zI cn), .ref chk, .int (zI ln), .ref pa, .int (zI wat), .int (zI who), .int (zI rs), .int (zI act), .int (zI f3), .ref rc, .ref qu, .ref ct, .ref ft, .ref wn, .ref wy, .ref nx, .ref im, .ref ik])), (nw, .inl (cI, 29, .inl (zA (nwS inc mat kd tm yr))))] H locs := hz
                                refine z_iinc (lv' := [(4, .int (zI (x4 + (-1)))), (1, .int (zI (n3 + 0))), (5, .int (zI 0)), (3, .int (zI x3)), (2, .int (zI x2)), (0, .ref md)]) hx hb dX11_layTriangles_180 hl (k := 2) rfl (Nat.le_of_ble_eq_true rfl) rfl (fun ls hl => ?_)
                                refine lv_goto (tgt := 28) hx hb dX11_layTriangles_183 (by decide) ?_
                                exact ih28 _ (by omega) (x4 + (-1)) (n3 + 0) f3 H locs ls rfl (by omega) (by have h9 := tri_in (T := T) (inc := inc) (a := x4) (b := x3) (x := x2) (by omega); rw [h9.1, h9.2]; rw [if_neg hq9, if_neg hq9, Int.add_zero, Int.add_zero]; exact hv3) hz (lv_sub hl [0, 3, 4, 1, 5] rfl)
                              ·
                                exfalso
                                first | omega | (revert h155; simp_all; done) | simp_all
                            ·
                              exfalso
                              first | omega | (revert h142; simp_all; done) | simp_all
                          ·
                            refine z_iconst hx hb dX11_layTriangles_132 ?_
                            refine lv_goto (tgt := 137) hx hb dX11_layTriangles_133 (by decide) ?_
                            refine lv_istore (lv' := [(5, .int (zI 1)), (4, .int (zI x4)), (3, .int (zI x3)), (2, .int (zI x2)), (1, .int (zI n3)), (0, .ref md)]) hx hb dX11_layTriangles_137 hl (Nat.le_of_ble_eq_true rfl) rfl (fun ls hl => ?_)
                            have hq9 : triS T inc (2 ^ x2.toNat + 2 ^ x3.toNat + 2 ^ x4.toNat) = true := (tri3 hT (by omega)).mpr ⟨⟨h39, h47, h55⟩, by omega, by omega, by omega⟩
                            have hpa := pow9 x4 (by omega)
                            have hpb := pow9 x3 (by omega)
                            have hpx := pow9 x2 (by omega)
                            have ho1 := zOr_bd (a := 2 ^ x4.toNat) (b := 2 ^ x3.toNat) (by omega) (by omega)
                            have hz9 := zOr3 (a := x4) (b := x3) (x := x2) (by omega)
                            refine lv_iload_n hx hb dX11_layTriangles_139 rfl (lv_at hl 4 rfl) ?_
                            refine lv_iload hx hb dX11_layTriangles_140 (lv_at hl 0 rfl) ?_
                            refine z_if_eq (tgt := 149) hx hb dX11_layTriangles_142 (by decide) (by decide) (fun h142 => ?_) (fun h142 => ?_)
                            ·
                              exfalso
                              first | omega | (revert h142; simp_all; done) | simp_all
                            ·
                              refine z_iconst hx hb dX11_layTriangles_145 ?_
                              refine lv_goto (tgt := 150) hx hb dX11_layTriangles_146 (by decide) ?_
                              refine z_iadd hx hb dX11_layTriangles_150 ?_
                              refine lv_istore_n (lv' := [(1, .int (zI (n3 + 1))), (5, .int (zI 1)), (4, .int (zI x4)), (3, .int (zI x3)), (2, .int (zI x2)), (0, .ref md)]) hx hb dX11_layTriangles_151 rfl hl (Nat.le_of_ble_eq_true rfl) rfl (fun ls hl => ?_)
                              refine lv_aload_n hx hb dX11_layTriangles_152 rfl (lv_at hl 5 rfl) ?_
                              refine lv_iload hx hb dX11_layTriangles_153 (lv_at hl 1 rfl) ?_
                              refine z_if_eq (tgt := 173) hx hb dX11_layTriangles_155 (by decide) (by decide) (fun h155 => ?_) (fun h155 => ?_)
                              ·
                                exfalso
                                first | omega | (revert h155; simp_all; done) | simp_all
                              ·
                                refine z_iconst hx hb dX11_layTriangles_158 ?_
                                refine lv_iload hx hb dX11_layTriangles_159 (lv_at hl 2 rfl) ?_
                                refine z_ishl1 hx hb dX11_layTriangles_161 (by omega) ?_
                                refine z_iconst hx hb dX11_layTriangles_162 ?_
                                refine lv_iload_n hx hb dX11_layTriangles_163 rfl (lv_at hl 3 rfl) ?_
                                refine z_ishl1 hx hb dX11_layTriangles_164 (by omega) ?_
                                refine z_ior hx hb dX11_layTriangles_165 (by omega) (by omega) ?_
                                refine z_iconst hx hb dX11_layTriangles_166 ?_
                                refine lv_iload_n hx hb dX11_layTriangles_167 rfl (lv_at hl 4 rfl) ?_
                                refine z_ishl1 hx hb dX11_layTriangles_168 (by omega) ?_
                                refine z_ior hx hb dX11_layTriangles_169 (by omega) (by omega) ?_
                                refine lv_goto (tgt := 177) hx hb dX11_layTriangles_170 (by decide) ?_
                                refine z_put (C := RX11) (T := TX11) (N := 23) (ref := "HornCityModel") (ty := .int) hx hb hts hin_X11_layTriangles_X11 hown hK hz tyX11 tyX11_ok nmX11 0 rfl rfl 13 (by decide) (hts _ fl_X11_layTriangles_135) rfl rfl (by decide +kernel) rfl rfl (Nat.le_of_ble_eq_true rfl) dX11_layTriangles_177 (fun H locs hz => ?_)
                                have hz : zH D (zF ws0) H0 [(md, .inr (9, [.ref bk, .ref nw, .ref nt, .int (zI T), .ref df, .int (zI cn), .ref chk, .int (zI ln), .ref pa, .int (zI wat), .int (zI who), .int (zI rs), .int (zI act), .int (zI (zOr (zOr (2 ^ x4.toNat) (2 ^ x3.toNat)) (2 ^ x2.toNat))), .ref rc, .ref qu, .ref ct, .ref ft, .ref wn, .ref wy, .ref nx, .ref im, .ref ik])), (nw, .inl (cI, 29, .inl (zA (nwS inc mat kd tm yr))))] H locs := hz
                                refine z_iinc (lv' := [(4, .int (zI (x4 + (-1)))), (1, .int (zI (n3 + 1))), (5, .int (zI 1)), (3, .int (zI x3)), (2, .int (zI x2)), (0, .ref md)]) hx hb dX11_layTriangles_180 hl (k := 2) rfl (Nat.le_of_ble_eq_true rfl) rfl (fun ls hl => ?_)
                                refine lv_goto (tgt := 28) hx hb dX11_layTriangles_183 (by decide) ?_
                                exact ih28 _ (by omega) (x4 + (-1)) (n3 + 1) (zOr (zOr (2 ^ x4.toNat) (2 ^ x3.toNat)) (2 ^ x2.toNat)) H locs ls rfl (by omega) (by have h9 := tri_in (T := T) (inc := inc) (a := x4) (b := x3) (x := x2) (by omega); rw [h9.1, h9.2]; rw [if_pos hq9, if_pos hq9, ← hv3.1]; exact ⟨rfl, hz9⟩) hz (lv_sub hl [0, 3, 4, 1, 5] rfl)
          exact L28 _ (x3 - 1) n2 f2 H locs ls rfl (by omega) (by rw [show (x3 - 1) + 1 = x3 by omega, Int.add_assoc, ← pw_s (by omega)]; exact hv2) hz (lv_sub hl [0, 1, 2, 3, 4] rfl)
      exact L19 _ (x2 - 1) n1 f1 H locs ls rfl (by omega) (by rw [show (x2 - 1) + 1 = x2 by omega, ← pw_s (by omega)]; exact hv1) hz (lv_sub hl [0, 1, 2, 3] rfl)
  exact L11 _ 8 0 (-6) H locs ls rfl (by decide) (⟨(tr_top (P := triS T inc)).1.symm, (tr_top (P := triS T inc)).2.symm⟩) hz (lv_sub hl [0, 1, 2] rfl)

set_option maxRecDepth 20000 in
theorem hin_X11_triangles_X11 : ∀ w ∈ u_ws RX11 TX11 23, w ∈ wsX11_triangles := by decide +kernel
set_option maxRecDepth 20000 in
theorem fl_X11_triangles_135 : Cond.fieldLink RX11 135 "HornCityModel" "firstSet" "I" ∈ wsX11_triangles := by decide +kernel
set_option maxHeartbeats 4000000 in
set_option maxRecDepth 100000 in
theorem c_X11_triangles (l : Launch) (D : va_G) (cI cJ cZ : ClassId) (md bk nw nt df chk pa rc qu ct ft wn wy nx im ik : Nat) (inc mat kd nwf : Int → Int) (T cn ln wat who rs act fse tm yr what : Int) (hr : (-2147483648 ≤ what ∧ what ≤ 2147483647)) (hT : 0 ≤ T ∧ T < 512) (hbi : zBd inc 9 0 179) : zMw l yX11_triangles wsX11_triangles (zRm 3) D cI cJ cZ [.ref md, .int (zI what)] [(md, .inr (9, [.ref bk, .ref nw, .ref nt, .int (zI T), .ref df, .int (zI cn), .ref chk, .int (zI ln), .ref pa, .int (zI wat), .int (zI who), .int (zI rs), .int (zI act), .int (zI fse), .ref rc, .ref qu, .ref ct, .ref ft, .ref wn, .ref wy, .ref nx, .ref im, .ref ik])), (bk, .inl (cI, 29, .inl (zA (nwS inc mat kd tm yr)))), (nw, .inl (cI, 29, .inl (zA nwf)))] (S := Int × (Int → Int) × Int × Int × Int) (fun u => u.1 = trR T inc what) (fun u => some (.int (zI u.1))) (fun u => [(md, .inr (9, [.ref bk, .ref nw, .ref nt, .int (zI T), .ref df, .int (zI cn), .ref chk, .int (zI ln), .ref pa, .int (zI u.2.2.1), .int (zI u.2.2.2.1), .int (zI rs), .int (zI act), .int (zI u.2.2.2.2), .ref rc, .ref qu, .ref ct, .ref ft, .ref wn, .ref wy, .ref nx, .ref im, .ref ik])), (bk, .inl (cI, 29, .inl (zA (nwS inc mat kd tm yr)))), (nw, .inl (cI, 29, .inl (zA u.2.1)))]) := by
  refine zMw_i (cc := cX11_triangles) (maxL := 3) (by decide +kernel) rfl (Nat.le_of_ble_eq_true rfl) rfl (fun _ => rfl) ?_
  intro p e s m args below meth c Q H0 ls F hK hz hl hret
  obtain ⟨hx, hb, hml, hown0, hts⟩ := id F
  have hown : s.vm.findClass RX11 = some m.cls := hown0
  obtain ⟨ws0, hw0⟩ : ∃ w : va_W, w = [(md, .inr (9, [.ref bk, .ref nw, .ref nt, .int (zI T), .ref df, .int (zI cn), .ref chk, .int (zI ln), .ref pa, .int (zI wat), .int (zI who), .int (zI rs), .int (zI act), .int (zI fse), .ref rc, .ref qu, .ref ct, .ref ft, .ref wn, .ref wy, .ref nx, .ref im, .ref ik])), (bk, .inl (cI, 29, .inl (zA (nwS inc mat kd tm yr)))), (nw, .inl (cI, 29, .inl (zA nwf)))] := ⟨_, rfl⟩
  rw [← hw0] at hret
  have hz : zH D (zF ws0) H0 [(md, .inr (9, [.ref bk, .ref nw, .ref nt, .int (zI T), .ref df, .int (zI cn), .ref chk, .int (zI ln), .ref pa, .int (zI wat), .int (zI who), .int (zI rs), .int (zI act), .int (zI fse), .ref rc, .ref qu, .ref ct, .ref ft, .ref wn, .ref wy, .ref nx, .ref im, .ref ik])), (bk, .inl (cI, 29, .inl (zA (nwS inc mat kd tm yr)))), (nw, .inl (cI, 29, .inl (zA nwf)))] H0 [] := by rw [hw0]; exact hz
  have hl : lv_has ls 3 [(0, .ref md), (1, .int (zI what))] := hl
  refine lv_iload_n hx hb dX11_triangles_0 rfl (lv_at hl 1 rfl) ?_
  refine z_iconst hx hb dX11_triangles_1 ?_
  refine z_iconst hx hb dX11_triangles_2 ?_
  refine z_callSp (As := [.int (zI what), .int (zI 0), .int (zI 1)]) (rest := []) F hK hz hl (c_X11_in l D cI cJ cZ what 0 1 (by omega)) (va_cwS 3 hts gX11_triangles_X11_in rfl rfl rfl (by decide +kernel) ⟨Nat.le_of_ble_eq_true rfl, Nat.le_of_ble_eq_true rfl⟩) [] rfl rfl rfl rfl (Nat.le_of_ble_eq_true rfl) ⟨Nat.le_of_ble_eq_true rfl, Nat.le_of_ble_eq_true rfl⟩ dX11_triangles_3 ?_
  refine z_ifb_ne (tgt := 12) hx hb dX11_triangles_6 (by decide) (fun h6 => ?_) (fun h6 => ?_)
  ·
    refine lv_aload_n hx hb dX11_triangles_12 rfl (lv_at hl 0 rfl) ?_
    refine z_callVwv (As := []) (rest := []) (C := RX11) (T := TX11) (N := 23) F hK hz hl (c_X11_asNow l D cI cJ cZ md bk nw nt df chk pa rc qu ct ft wn wy nx im ik inc mat kd nwf T cn ln wat who rs act fse tm yr ) (cwV 0 hts gX11_triangles_X11_asNow rfl rfl rfl (by decide +kernel) ⟨Nat.le_of_ble_eq_true rfl, Nat.le_of_ble_eq_true rfl⟩) rfl 0 rfl [0, 1, 2] rfl rfl (by decide +kernel) rfl rfl (Nat.le_of_ble_eq_true rfl) ⟨Nat.le_of_ble_eq_true rfl, Nat.le_of_ble_eq_true rfl⟩ dX11_triangles_13 (fun u H locs hu hz => ?_)
    obtain ⟨inc1_1, mat1_2, kd1_3, tm1_4, yr1_5, wa1_6, wo1_7⟩ := u
    have hu : inc1_1 = inc ∧ mat1_2 = mat ∧ kd1_3 = (fun _ => -6) ∧ tm1_4 = tm ∧ yr1_5 = yr ∧ wa1_6 = -6 ∧ wo1_7 = -6 := hu
    obtain ⟨g13_0, g13_1, g13_2, g13_3, g13_4, g13_5, g13_6⟩ := hu
    have g13_0 := g13_0.symm
    subst g13_0
    have g13_1 := g13_1.symm
    subst g13_1
    have g13_2 := g13_2.symm
    subst g13_2
    have g13_3 := g13_3.symm
    subst g13_3
    have g13_4 := g13_4.symm
    subst g13_4
    have g13_5 := g13_5.symm
    subst g13_5
    have g13_6 := g13_6.symm
    subst g13_6
    have hz : zH D (zF ws0) H0 [(md, .inr (9, [.ref bk, .ref nw, .ref nt, .int (zI T), .ref df, .int (zI cn), .ref chk, .int (zI ln), .ref pa, .int (zI (-6)), .int (zI (-6)), .int (zI rs), .int (zI act), .int (zI fse), .ref rc, .ref qu, .ref ct, .ref ft, .ref wn, .ref wy, .ref nx, .ref im, .ref ik])), (bk, .inl (cI, 29, .inl (zA (nwS inc mat kd tm yr)))), (nw, .inl (cI, 29, .inl (zA (nwS inc mat (fun _ => -6) tm yr))))] H locs := hz
    refine lv_aload_n hx hb dX11_triangles_16 rfl (lv_at hl 0 rfl) ?_
    refine z_callVw (As := []) (rest := []) (C := RX11) (T := TX11) (N := 23) F hK hz hl (c_X11_layTriangles l D cI cJ cZ md bk nw nt df chk pa rc qu ct ft wn wy nx im ik inc mat (fun _ => -6) T cn ln (-6) (-6) rs act fse tm yr (by first | assumption | omega) (hbi)) (cwV 0 hts gX11_triangles_X11_layTriangles rfl rfl rfl (by decide +kernel) ⟨Nat.le_of_ble_eq_true rfl, Nat.le_of_ble_eq_true rfl⟩) rfl 0 rfl [0, 2] rfl rfl (by decide +kernel) rfl rfl (Nat.le_of_ble_eq_true rfl) ⟨Nat.le_of_ble_eq_true rfl, Nat.le_of_ble_eq_true rfl⟩ dX11_triangles_17 (fun u H locs hu hz => ?_)
    obtain ⟨r_8, f9_9⟩ := u
    have hu : r_8 = sumZ (fun s => if triS T inc s = true then 1 else 0) 512 ∧ f9_9 = lstS (triS T inc) 512 0 := hu
    obtain ⟨g17_0, g17_1⟩ := hu
    have g17_0 := g17_0.symm
    subst g17_0
    have g17_1 := g17_1.symm
    subst g17_1
    have hz : zH D (zF ws0) H0 [(md, .inr (9, [.ref bk, .ref nw, .ref nt, .int (zI T), .ref df, .int (zI cn), .ref chk, .int (zI ln), .ref pa, .int (zI (-6)), .int (zI (-6)), .int (zI rs), .int (zI act), .int (zI (lstS (triS T inc) 512 0)), .ref rc, .ref qu, .ref ct, .ref ft, .ref wn, .ref wy, .ref nx, .ref im, .ref ik])), (bk, .inl (cI, 29, .inl (zA (nwS inc mat kd tm yr)))), (nw, .inl (cI, 29, .inl (zA (nwS inc mat (fun _ => -6) tm yr))))] H locs := hz
    refine lv_istore_n (lv' := [(2, .int (zI (sumZ (fun s => if triS T inc s = true then 1 else 0) 512))), (0, .ref md), (1, .int (zI what))]) hx hb dX11_triangles_20 rfl hl (Nat.le_of_ble_eq_true rfl) rfl (fun ls hl => ?_)
    refine lv_iload_n hx hb dX11_triangles_21 rfl (lv_at hl 2 rfl) ?_
    refine z_if_ne (tgt := 29) hx hb dX11_triangles_22 (by decide) (by omega) (fun h22 => ?_) (fun h22 => ?_)
    ·
      refine lv_aload_n hx hb dX11_triangles_29 rfl (lv_at hl 1 rfl) ?_
      refine z_get (C := RX11) (T := TX11) (N := 23) (ref := "HornCityModel") hx hb hts hin_X11_triangles_X11 hown hK hz 0 rfl rfl 13 (by decide) (hts _ fl_X11_triangles_135) rfl rfl dX11_triangles_30 ?_
      exact hret (((lstS (triS T inc) 512 0) : Int), (nwS inc mat (fun _ => -6) tm yr : Int → Int), ((-6) : Int), ((-6) : Int), ((lstS (triS T inc) 512 0) : Int)) dX11_triangles_33 (show (lstS (triS T inc) 512 0) = trR T inc what from (by unfold trR; rw [if_pos h6]; exact (if_neg h22).symm)) hz
    ·
      refine lv_iload_n hx hb dX11_triangles_25 rfl (lv_at hl 0 rfl) ?_
      refine lv_goto (tgt := 33) hx hb dX11_triangles_26 (by decide) ?_
      exact hret (((sumZ (fun s => if triS T inc s = true then 1 else 0) 512) : Int), (nwS inc mat (fun _ => -6) tm yr : Int → Int), ((-6) : Int), ((-6) : Int), ((lstS (triS T inc) 512 0) : Int)) dX11_triangles_33 (show (sumZ (fun s => if triS T inc s = true then 1 else 0) 512) = trR T inc what from (by unfold trR; rw [if_pos h6]; exact (if_pos h22).symm)) hz
  ·
    refine z_bipush hx hb dX11_triangles_9 (by decide) ?_
    exact hret (((-2) : Int), (nwf : Int → Int), (wat : Int), (who : Int), (fse : Int)) dX11_triangles_11 (show (-2) = trR T inc what from (by unfold trR; rw [if_neg h6])) hz
