theorem sumZ_swap (F : Int → Int → Int) (n : Nat) : ∀ m : Nat, sumZ (fun i => sumZ (fun j => F i j) n) m = sumZ (fun j => sumZ (fun i => F i j) m) n
  | 0 => by show (0 : Int) = sumZ (fun _ => 0) n; rw [sumZ_zero]
  | m + 1 => by
    show sumZ (fun i => sumZ (fun j => F i j) n) m + sumZ (fun j => F m j) n = sumZ (fun j => sumZ (fun i => F i j) m + F m j) n
    rw [sumZ_add, sumZ_swap F n m]
theorem sumZ_pick {a : Int} {n : Nat} {P : Prop} [Decidable P] (ha : P → 0 ≤ a ∧ a < (n : Int)) : sumZ (fun j => if a = j ∧ P then 1 else 0) n = if P then 1 else 0 := by
  by_cases hP : P
  · have h := ha hP
    have := sumZ_one (f := fun _ => 0) (g := fun j => if a = j ∧ P then 1 else 0) h.1 (by show (if a = a ∧ P then (1 : Int) else 0) = 0 + 1; rw [if_pos ⟨rfl, hP⟩]; rfl) (fun j hj => if_neg (fun q => hj q.1.symm)) n
    rw [this, sumZ_zero, if_pos h.2, if_pos hP]; rfl
  · rw [if_neg hP]
    have e : (fun j => if a = j ∧ P then (1 : Int) else 0) = (fun _ => 0) := by funext j; exact if_neg (fun q => hP q.2)
    rw [e]; exact sumZ_zero n
theorem pa2_eq {T : Int} {mat : Int → Int} (h : mOk T mat) : pa2S T mat = pairS T mat := by
  have hup : pairS T mat = sumZ (fun k => if inS T k = true ∧ k < mat k then 1 else 0) 9 := by
    unfold pairS
    apply sumZ_cg
    intro k h0 h1
    by_cases hk : inS T k = true
    · unfold maO; rw [if_pos hk]
      by_cases h2 : mat k > k
      · rw [if_pos h2, if_pos ⟨hk, h2⟩]
      · rw [if_neg h2, if_neg (fun q => h2 q.2)]
    · unfold maO; rw [if_neg hk, if_neg (by omega), if_neg (fun q => hk q.1)]
  have hdn : sumZ (fun k => if inS T k = true ∧ k < mat k then 1 else 0) 9 = sumZ (fun k => if inS T k = true ∧ 0 ≤ mat k ∧ mat k < k then 1 else 0) 9 := by
    have e1 : sumZ (fun k => if inS T k = true ∧ k < mat k then 1 else 0) 9 = sumZ (fun k => sumZ (fun j => if mat k = j ∧ (inS T k = true ∧ k < mat k) then 1 else 0) 9) 9 := by
      apply sumZ_cg
      intro k h0 h1
      rw [sumZ_pick]
      intro q
      rcases mOk_neg h (inS.rng q.1) with h3 | h3
      · omega
      · exact ⟨h3.1, h3.2.1⟩
    have e2 : sumZ (fun k => if inS T k = true ∧ 0 ≤ mat k ∧ mat k < k then 1 else 0) 9 = sumZ (fun k => sumZ (fun j => if mat k = j ∧ (inS T k = true ∧ 0 ≤ mat k ∧ mat k < k) then 1 else 0) 9) 9 := by
      apply sumZ_cg
      intro k h0 h1
      rw [sumZ_pick]
      intro q
      rcases mOk_neg h (inS.rng q.1) with h3 | h3
      · omega
      · exact ⟨h3.1, h3.2.1⟩
    rw [e1, e2, sumZ_swap (fun k j => if mat k = j ∧ (inS T k = true ∧ k < mat k) then 1 else 0) 9 9]
    apply sumZ_cg
    intro j h0 h1
    apply sumZ_cg
    intro k h2 h3
    by_cases hc : mat k = j ∧ (inS T k = true ∧ k < mat k)
    · rw [if_pos hc, if_pos]
      obtain ⟨c1, c2, c3⟩ := hc
      rcases mOk_neg h (inS.rng c2) with h4 | h4
      · omega
      · rw [c1] at h4 c3
        exact ⟨h4.2.2.2.2.1, h4.2.2.2.1, by omega, by omega⟩
    · rw [if_neg hc, if_neg]
      rintro ⟨c1, c2, c3, c4⟩
      rcases mOk_neg h (inS.rng c2) with h4 | h4
      · omega
      · rw [c1] at h4 c4
        exact hc ⟨h4.2.2.2.2.1, h4.2.2.2.1, by omega⟩
  have hall : sumZ (fun k => if inS T k = true ∧ 0 ≤ mat k then 1 else 0) 9 = sumZ (fun k => if inS T k = true ∧ k < mat k then 1 else 0) 9 + sumZ (fun k => if inS T k = true ∧ 0 ≤ mat k ∧ mat k < k then 1 else 0) 9 := by
    rw [← sumZ_add]
    apply sumZ_cg
    intro k h0 h1
    by_cases hk : inS T k = true
    · rcases mOk_neg h (inS.rng hk) with h3 | h3
      · rw [if_neg (by omega), if_neg (by omega), if_neg (by omega)]; rfl
      · rw [if_pos ⟨hk, h3.1⟩]
        by_cases h4 : k < mat k
        · rw [if_pos ⟨hk, h4⟩, if_neg (by omega)]; rfl
        · rw [if_neg (fun q => h4 q.2), if_pos ⟨hk, h3.1, by omega⟩]; rfl
    · rw [if_neg (fun q => hk q.1), if_neg (fun q => hk q.1), if_neg (fun q => hk q.1)]; rfl
  unfold pa2S
  rw [hall, ← hdn, hup]
  omega
theorem zU_id {f : Int → Int} {k v : Int} (h : f k = v) : zU f k v = f := by
  funext j; unfold zU
  by_cases hj : j = k
  · rw [if_pos hj, hj, h]
  · rw [if_neg hj]
theorem mOk_oneM {T : Int} {mat : Int → Int} (h : mOk T mat) {k i d : Int} : mOk (oneT T k i d) (oneM T mat k i d) ∨ True := Or.inr trivial
theorem mOk_pa {T : Int} {mat : Int → Int} (h : mOk T mat) (a b : Int) (is : Prop) [Decidable is] : mOk T (paM T mat a b is) := by
  unfold paM
  by_cases h1 : inS T a = false ∨ inS T b = false ∨ a = b
  · rw [if_pos h1]; exact h
  · rw [if_neg h1]
    have ha : inS T a = true := by cases hq : inS T a with | true => rfl | false => exact absurd (Or.inl hq) h1
    have hb : inS T b = true := by cases hq : inS T b with | true => rfl | false => exact absurd (Or.inr (Or.inl hq)) h1
    by_cases hi : is
    · rw [if_pos hi]
      by_cases h2 : maO T mat a = -6 ∧ maO T mat b = -6
      · rw [if_pos h2]
        have e1 : mat a = -6 := by have := h2.1; unfold maO at this; rwa [if_pos ha] at this
        have e2 : mat b = -6 := by have := h2.2; unfold maO at this; rwa [if_pos hb] at this
        exact mOk_sea h e1 e2 (fun q => h1 (Or.inr (Or.inr q)))
      · rw [if_neg h2]; exact h
    · rw [if_neg hi]
      by_cases h2 : maO T mat a = b
      · rw [if_pos h2]; exact mOk_sep h ha
      · rw [if_neg h2]; exact h
theorem pa_eq {T : Int} {mat : Int → Int} {a b : Int} (ha : inS T a = true) (hb : inS T b = true) (hab : ¬ a = b) (is : Prop) [Decidable is] (hc : if is then maO T mat a = -6 ∧ maO T mat b = -6 else maO T mat a = b) : paR T mat a b is = pairS T (paM T mat a b is) := by
  have h1 : ¬ (inS T a = false ∨ inS T b = false ∨ a = b) := by simp [ha, hb, hab]
  unfold paR paM
  rw [if_neg h1, if_neg h1]
  by_cases hi : is
  · rw [if_pos hi] at hc; rw [if_pos hi, if_pos hi, if_pos hc, if_pos hc]
  · rw [if_neg hi] at hc; rw [if_neg hi, if_neg hi, if_pos hc, if_pos hc]

set_option maxRecDepth 20000 in
theorem hin_X11_one_X11 : ∀ w ∈ u_ws RX11 TX11 23, w ∈ wsX11_one := by decide +kernel
set_option maxRecDepth 20000 in
theorem fl_X11_one_7 : Cond.fieldLink RX11 7 "HornCityModel" "book" "[I" ∈ wsX11_one := by decide +kernel
set_option maxRecDepth 20000 in
theorem fl_X11_one_19 : Cond.fieldLink RX11 19 "HornCityModel" "drifts" "[I" ∈ wsX11_one := by decide +kernel
set_option maxRecDepth 20000 in
theorem fl_X11_one_65 : Cond.fieldLink RX11 65 "HornCityModel" "there" "I" ∈ wsX11_one := by decide +kernel
set_option maxHeartbeats 4000000 in
set_option maxRecDepth 100000 in
theorem c_X11_one (l : Launch) (D : va_G) (cI cJ cZ : ClassId) (md bk nw nt df chk pa rc qu ct ft wn wy nx im ik : Nat) (inc mat kd dri : Int → Int) (T cn ln wat who rs act fse tm yr k i0 d0 : Int) (hr : (-2147483648 ≤ k ∧ k ≤ 2147483647) ∧ (-2147483648 ≤ i0 ∧ i0 ≤ 2147483647) ∧ (-2147483648 ≤ d0 ∧ d0 ≤ 2147483647)) (hT : 0 ≤ T ∧ T < 512) (hmo : mOk T mat) : zMw l yX11_one wsX11_one (zRm 2) D cI cJ cZ [.ref md, .int (zI k), .int (zI i0), .int (zI d0)] [(md, .inr (9, [.ref bk, .ref nw, .ref nt, .int (zI T), .ref df, .int (zI cn), .ref chk, .int (zI ln), .ref pa, .int (zI wat), .int (zI who), .int (zI rs), .int (zI act), .int (zI fse), .ref rc, .ref qu, .ref ct, .ref ft, .ref wn, .ref wy, .ref nx, .ref im, .ref ik])), (bk, .inl (cI, 29, .inl (zA (nwS inc mat kd tm yr)))), (df, .inl (cI, 9, .inl (zA dri)))] (S := Int × (Int → Int) × (Int → Int) × (Int → Int) × Int) (fun u => u.1 = oneR T k i0 d0 ∧ u.2.1 = oneI inc k i0 d0 ∧ u.2.2.1 = oneD dri k i0 d0 ∧ u.2.2.2.1 = oneM T mat k i0 d0 ∧ u.2.2.2.2 = oneT T k i0 d0) (fun u => some (.int (zI u.1))) (fun u => [(md, .inr (9, [.ref bk, .ref nw, .ref nt, .int (zI u.2.2.2.2), .ref df, .int (zI cn), .ref chk, .int (zI ln), .ref pa, .int (zI wat), .int (zI who), .int (zI rs), .int (zI act), .int (zI fse), .ref rc, .ref qu, .ref ct, .ref ft, .ref wn, .ref wy, .ref nx, .ref im, .ref ik])), (bk, .inl (cI, 29, .inl (zA (nwS u.2.1 u.2.2.2.1 kd tm yr)))), (df, .inl (cI, 9, .inl (zA u.2.2.1)))]) := by
  refine zMw_i (cc := cX11_one) (maxL := 4) (by decide +kernel) rfl (Nat.le_of_ble_eq_true rfl) rfl (fun _ => rfl) ?_
  intro p e s m args below meth c Q H0 ls F hK hz hl hret
  obtain ⟨hx, hb, hml, hown0, hts⟩ := id F
  have hown : s.vm.findClass RX11 = some m.cls := hown0
  obtain ⟨ws0, hw0⟩ : ∃ w : va_W, w = [(md, .inr (9, [.ref bk, .ref nw, .ref nt, .int (zI T), .ref df, .int (zI cn), .ref chk, .int (zI ln), .ref pa, .int (zI wat), .int (zI who), .int (zI rs), .int (zI act), .int (zI fse), .ref rc, .ref qu, .ref ct, .ref ft, .ref wn, .ref wy, .ref nx, .ref im, .ref ik])), (bk, .inl (cI, 29, .inl (zA (nwS inc mat kd tm yr)))), (df, .inl (cI, 9, .inl (zA dri)))] := ⟨_, rfl⟩
  rw [← hw0] at hret
  have hz : zH D (zF ws0) H0 [(md, .inr (9, [.ref bk, .ref nw, .ref nt, .int (zI T), .ref df, .int (zI cn), .ref chk, .int (zI ln), .ref pa, .int (zI wat), .int (zI who), .int (zI rs), .int (zI act), .int (zI fse), .ref rc, .ref qu, .ref ct, .ref ft, .ref wn, .ref wy, .ref nx, .ref im, .ref ik])), (bk, .inl (cI, 29, .inl (zA (nwS inc mat kd tm yr)))), (df, .inl (cI, 9, .inl (zA dri)))] H0 [] := by rw [hw0]; exact hz
  have hl : lv_has ls 4 [(0, .ref md), (1, .int (zI k)), (2, .int (zI i0)), (3, .int (zI d0))] := hl
  refine lv_iload_n hx hb dX11_one_0 rfl (lv_at hl 1 rfl) ?_
  refine z_iconst hx hb dX11_one_1 ?_
  refine z_bipush hx hb dX11_one_2 (by decide) ?_
  refine z_callSp (As := [.int (zI k), .int (zI 0), .int (zI 8)]) (rest := []) F hK hz hl (c_X11_in l D cI cJ cZ k 0 8 (by omega)) (va_cwS 3 hts gX11_one_X11_in rfl rfl rfl (by decide +kernel) ⟨Nat.le_of_ble_eq_true rfl, Nat.le_of_ble_eq_true rfl⟩) [] rfl rfl rfl rfl (Nat.le_of_ble_eq_true rfl) ⟨Nat.le_of_ble_eq_true rfl, Nat.le_of_ble_eq_true rfl⟩ dX11_one_4 ?_
  refine z_ifb_ne (tgt := 12) hx hb dX11_one_7 (by decide) (fun h7 => ?_) (fun h7 => ?_)
  ·
    refine lv_iload_n hx hb dX11_one_12 rfl (lv_at hl 2 rfl) ?_
    refine z_iconst hx hb dX11_one_13 ?_
    refine z_sipush hx hb dX11_one_14 (by decide) ?_
    refine z_callSp (As := [.int (zI i0), .int (zI 0), .int (zI 179)]) (rest := []) F hK hz hl (c_X11_in l D cI cJ cZ i0 0 179 (by omega)) (va_cwS 3 hts gX11_one_X11_in rfl rfl rfl (by decide +kernel) ⟨Nat.le_of_ble_eq_true rfl, Nat.le_of_ble_eq_true rfl⟩) [] rfl rfl rfl rfl (Nat.le_of_ble_eq_true rfl) ⟨Nat.le_of_ble_eq_true rfl, Nat.le_of_ble_eq_true rfl⟩ dX11_one_17 ?_
    refine z_ifb_eq (tgt := 34) hx hb dX11_one_20 (by decide) (fun h20 => ?_) (fun h20 => ?_)
    ·
      refine z_bipush hx hb dX11_one_34 (by decide) ?_
      exact hret (((-2) : Int), (inc : Int → Int), (dri : Int → Int), (mat : Int → Int), (T : Int)) dX11_one_36 (show (-2) = oneR T k i0 d0 ∧ inc = oneI inc k i0 d0 ∧ dri = oneD dri k i0 d0 ∧ mat = oneM T mat k i0 d0 ∧ T = oneT T k i0 d0 from ⟨by unfold oneR; rw [if_neg (by omega), if_pos (by omega)], by unfold oneI; rw [if_neg (by omega)], by unfold oneD; rw [if_neg (by omega)], by unfold oneM; rw [if_neg (by omega)], by unfold oneT; rw [if_neg (by omega)]⟩) hz
    ·
      refine lv_iload_n hx hb dX11_one_23 rfl (lv_at hl 3 rfl) ?_
      refine z_bipush hx hb dX11_one_24 (by decide) ?_
      refine z_bipush hx hb dX11_one_26 (by decide) ?_
      refine z_callSp (As := [.int (zI d0), .int (zI (-9)), .int (zI 9)]) (rest := []) F hK hz hl (c_X11_in l D cI cJ cZ d0 (-9) 9 (by omega)) (va_cwS 3 hts gX11_one_X11_in rfl rfl rfl (by decide +kernel) ⟨Nat.le_of_ble_eq_true rfl, Nat.le_of_ble_eq_true rfl⟩) [] rfl rfl rfl rfl (Nat.le_of_ble_eq_true rfl) ⟨Nat.le_of_ble_eq_true rfl, Nat.le_of_ble_eq_true rfl⟩ dX11_one_28 ?_
      refine z_ifb_ne (tgt := 37) hx hb dX11_one_31 (by decide) (fun h31 => ?_) (fun h31 => ?_)
      ·
        have hng := mOk_neg hmo (k := k) (by omega)
        refine lv_aload_n hx hb dX11_one_37 rfl (lv_at hl 0 rfl) ?_
        refine lv_iload_n hx hb dX11_one_38 rfl (lv_at hl 1 rfl) ?_
        refine z_callVp (As := [.int (zI k)]) (rest := []) (C := RX11) (T := TX11) (N := 23) F hK hz hl (c_X11_isThere l D cI cJ cZ md bk nw nt df chk pa rc qu ct ft wn wy nx im ik T cn ln wat who rs act fse k (by omega) (by first | assumption | omega)) (cwV 1 hts gX11_one_X11_isThere rfl rfl rfl (by decide +kernel) ⟨Nat.le_of_ble_eq_true rfl, Nat.le_of_ble_eq_true rfl⟩) rfl 0 rfl [0] rfl rfl rfl rfl (Nat.le_of_ble_eq_true rfl) ⟨Nat.le_of_ble_eq_true rfl, Nat.le_of_ble_eq_true rfl⟩ dX11_one_39 ?_
        refine z_ifb_eq (tgt := 76) hx hb dX11_one_42 (by decide) (fun h42 => ?_) (fun h42 => ?_)
        ·
          refine lv_aload_n hx hb dX11_one_76 rfl (lv_at hl 0 rfl) ?_
          refine z_get (C := RX11) (T := TX11) (N := 23) (ref := "HornCityModel") hx hb hts hin_X11_one_X11 hown hK hz 0 rfl rfl 0 (by decide) (hts _ fl_X11_one_7) rfl rfl dX11_one_77 ?_
          refine z_bipush hx hb dX11_one_80 (by decide) ?_
          refine lv_iload_n hx hb dX11_one_82 rfl (lv_at hl 1 rfl) ?_
          refine z_iadd hx hb dX11_one_83 ?_
          refine z_bipush hx hb dX11_one_84 (by decide) ?_
          refine z_iast hx hb hK hz 1 rfl (by omega) (by decide) dX11_one_86 (fun H locs hz => ?_)
          rw [nwS_um (k := k) (by omega)] at hz
          have hz : zH D (zF ws0) H0 [(md, .inr (9, [.ref bk, .ref nw, .ref nt, .int (zI T), .ref df, .int (zI cn), .ref chk, .int (zI ln), .ref pa, .int (zI wat), .int (zI who), .int (zI rs), .int (zI act), .int (zI fse), .ref rc, .ref qu, .ref ct, .ref ft, .ref wn, .ref wy, .ref nx, .ref im, .ref ik])), (bk, .inl (cI, 29, .inl (zA (nwS inc (zU mat k (-6)) kd tm yr)))), (df, .inl (cI, 9, .inl (zA dri)))] H locs := hz
          refine lv_aload_n hx hb dX11_one_87 rfl (lv_at hl 0 rfl) ?_
          refine z_get (C := RX11) (T := TX11) (N := 23) (ref := "HornCityModel") hx hb hts hin_X11_one_X11 hown hK hz 0 rfl rfl 0 (by decide) (hts _ fl_X11_one_7) rfl rfl dX11_one_88 ?_
          refine lv_iload_n hx hb dX11_one_91 rfl (lv_at hl 1 rfl) ?_
          refine lv_iload_n hx hb dX11_one_92 rfl (lv_at hl 2 rfl) ?_
          refine z_iast hx hb hK hz 1 rfl (by omega) (by decide) dX11_one_93 (fun H locs hz => ?_)
          rw [nwS_ui (k := k) (by omega)] at hz
          have hz : zH D (zF ws0) H0 [(md, .inr (9, [.ref bk, .ref nw, .ref nt, .int (zI T), .ref df, .int (zI cn), .ref chk, .int (zI ln), .ref pa, .int (zI wat), .int (zI who), .int (zI rs), .int (zI act), .int (zI fse), .ref rc, .ref qu, .ref ct, .ref ft, .ref wn, .ref wy, .ref nx, .ref im, .ref ik])), (bk, .inl (cI, 29, .inl (zA (nwS (zU inc k i0) (zU mat k (-6)) kd tm yr)))), (df, .inl (cI, 9, .inl (zA dri)))] H locs := hz
          refine lv_aload_n hx hb dX11_one_94 rfl (lv_at hl 0 rfl) ?_
          refine z_get (C := RX11) (T := TX11) (N := 23) (ref := "HornCityModel") hx hb hts hin_X11_one_X11 hown hK hz 0 rfl rfl 4 (by decide) (hts _ fl_X11_one_19) rfl rfl dX11_one_95 ?_
          refine lv_iload_n hx hb dX11_one_98 rfl (lv_at hl 1 rfl) ?_
          refine lv_iload_n hx hb dX11_one_99 rfl (lv_at hl 3 rfl) ?_
          refine z_iast hx hb hK hz 2 rfl (by omega) (by decide) dX11_one_100 (fun H locs hz => ?_)
          have hz : zH D (zF ws0) H0 [(md, .inr (9, [.ref bk, .ref nw, .ref nt, .int (zI T), .ref df, .int (zI cn), .ref chk, .int (zI ln), .ref pa, .int (zI wat), .int (zI who), .int (zI rs), .int (zI act), .int (zI fse), .ref rc, .ref qu, .ref ct, .ref ft, .ref wn, .ref wy, .ref nx, .ref im, .ref ik])), (bk, .inl (cI, 29, .inl (zA (nwS (zU inc k i0) (zU mat k (-6)) kd tm yr)))), (df, .inl (cI, 9, .inl (zA (zU dri k d0))))] H locs := hz
          refine lv_aload_n hx hb dX11_one_101 rfl (lv_at hl 0 rfl) ?_
          refine lv_dup hx hb dX11_one_102 rfl ?_
          refine z_get (C := RX11) (T := TX11) (N := 23) (ref := "HornCityModel") hx hb hts hin_X11_one_X11 hown hK hz 0 rfl rfl 3 (by decide) (hts _ fl_X11_one_65) rfl rfl dX11_one_103 ?_
          refine z_iconst hx hb dX11_one_106 ?_
          refine lv_iload_n hx hb dX11_one_107 rfl (lv_at hl 1 rfl) ?_
          refine z_ishl1 hx hb dX11_one_108 (by omega) ?_
          have hp9 := pow9 k (by omega)
          have ho9 := zOr_bd hT (b := 2 ^ k.toNat) (by omega)
          refine z_ior hx hb dX11_one_109 (by omega) (by omega) ?_
          refine z_put (C := RX11) (T := TX11) (N := 23) (ref := "HornCityModel") (ty := .int) hx hb hts hin_X11_one_X11 hown hK hz tyX11 tyX11_ok nmX11 0 rfl rfl 3 (by decide) (hts _ fl_X11_one_65) rfl rfl (by decide +kernel) rfl rfl (Nat.le_of_ble_eq_true rfl) dX11_one_110 (fun H locs hz => ?_)
          have hz : zH D (zF ws0) H0 [(md, .inr (9, [.ref bk, .ref nw, .ref nt, .int (zI (zOr T (2 ^ k.toNat))), .ref df, .int (zI cn), .ref chk, .int (zI ln), .ref pa, .int (zI wat), .int (zI who), .int (zI rs), .int (zI act), .int (zI fse), .ref rc, .ref qu, .ref ct, .ref ft, .ref wn, .ref wy, .ref nx, .ref im, .ref ik])), (bk, .inl (cI, 29, .inl (zA (nwS (zU inc k i0) (zU mat k (-6)) kd tm yr)))), (df, .inl (cI, 9, .inl (zA (zU dri k d0))))] H locs := hz
          refine lv_aload_n hx hb dX11_one_113 rfl (lv_at hl 0 rfl) ?_
          refine z_get (C := RX11) (T := TX11) (N := 23) (ref := "HornCityModel") hx hb hts hin_X11_one_X11 hown hK hz 0 rfl rfl 3 (by decide) (hts _ fl_X11_one_65) rfl rfl dX11_one_114 ?_
          refine z_callSp (As := [.int (zI (zOr T (2 ^ k.toNat)))]) (rest := []) F hK hz hl (c_X11_bits l D cI cJ cZ (zOr T (2 ^ k.toNat)) (by omega)) (va_cwS 1 hts gX11_one_X11_bits rfl rfl rfl (by decide +kernel) ⟨Nat.le_of_ble_eq_true rfl, Nat.le_of_ble_eq_true rfl⟩) [] rfl rfl rfl rfl (Nat.le_of_ble_eq_true rfl) ⟨Nat.le_of_ble_eq_true rfl, Nat.le_of_ble_eq_true rfl⟩ dX11_one_117 ?_
          exact hret (((cnt9 (zOr T (2 ^ k.toNat))) : Int), (zU inc k i0 : Int → Int), (zU dri k d0 : Int → Int), (zU mat k (-6) : Int → Int), ((zOr T (2 ^ k.toNat)) : Int)) dX11_one_120 (show (cnt9 (zOr T (2 ^ k.toNat))) = oneR T k i0 d0 ∧ (zU inc k i0) = oneI inc k i0 d0 ∧ (zU dri k d0) = oneD dri k i0 d0 ∧ (zU mat k (-6)) = oneM T mat k i0 d0 ∧ (zOr T (2 ^ k.toNat)) = oneT T k i0 d0 from ⟨by unfold oneR; rw [if_neg (by omega), if_neg (by omega)], by unfold oneI; rw [if_pos (by omega)], by unfold oneD; rw [if_pos (by omega)], by unfold oneM; rw [if_pos (by omega)]; rw [zU_id (hng.elim (fun q => q) (fun q => absurd q.2.2.1 h42))]; unfold sepM; rw [if_neg (fun q => h42 q.1)], by unfold oneT; rw [if_pos (by omega)]⟩) hz
        ·
          refine lv_aload_n hx hb dX11_one_45 rfl (lv_at hl 0 rfl) ?_
          refine z_get (C := RX11) (T := TX11) (N := 23) (ref := "HornCityModel") hx hb hts hin_X11_one_X11 hown hK hz 0 rfl rfl 0 (by decide) (hts _ fl_X11_one_7) rfl rfl dX11_one_46 ?_
          refine z_bipush hx hb dX11_one_49 (by decide) ?_
          refine lv_iload_n hx hb dX11_one_51 rfl (lv_at hl 1 rfl) ?_
          refine z_iadd hx hb dX11_one_52 ?_
          refine z_iald hx hb hK hz 1 rfl (by omega) (by decide) dX11_one_53 ?_
          rw [nwS_m (k := k) (by omega)]
          have hv53 := (mOk_bd hmo).ax k (by omega)
          refine z_if_lt (tgt := 76) hx hb dX11_one_54 (by decide) (by omega) (fun h54 => ?_) (fun h54 => ?_)
          ·
            refine lv_aload_n hx hb dX11_one_76 rfl (lv_at hl 0 rfl) ?_
            refine z_get (C := RX11) (T := TX11) (N := 23) (ref := "HornCityModel") hx hb hts hin_X11_one_X11 hown hK hz 0 rfl rfl 0 (by decide) (hts _ fl_X11_one_7) rfl rfl dX11_one_77 ?_
            refine z_bipush hx hb dX11_one_80 (by decide) ?_
            refine lv_iload_n hx hb dX11_one_82 rfl (lv_at hl 1 rfl) ?_
            refine z_iadd hx hb dX11_one_83 ?_
            refine z_bipush hx hb dX11_one_84 (by decide) ?_
            refine z_iast hx hb hK hz 1 rfl (by omega) (by decide) dX11_one_86 (fun H locs hz => ?_)
            rw [nwS_um (k := k) (by omega)] at hz
            have hz : zH D (zF ws0) H0 [(md, .inr (9, [.ref bk, .ref nw, .ref nt, .int (zI T), .ref df, .int (zI cn), .ref chk, .int (zI ln), .ref pa, .int (zI wat), .int (zI who), .int (zI rs), .int (zI act), .int (zI fse), .ref rc, .ref qu, .ref ct, .ref ft, .ref wn, .ref wy, .ref nx, .ref im, .ref ik])), (bk, .inl (cI, 29, .inl (zA (nwS inc (zU mat k (-6)) kd tm yr)))), (df, .inl (cI, 9, .inl (zA dri)))] H locs := hz
            refine lv_aload_n hx hb dX11_one_87 rfl (lv_at hl 0 rfl) ?_
            refine z_get (C := RX11) (T := TX11) (N := 23) (ref := "HornCityModel") hx hb hts hin_X11_one_X11 hown hK hz 0 rfl rfl 0 (by decide) (hts _ fl_X11_one_7) rfl rfl dX11_one_88 ?_
            refine lv_iload_n hx hb dX11_one_91 rfl (lv_at hl 1 rfl) ?_
            refine lv_iload_n hx hb dX11_one_92 rfl (lv_at hl 2 rfl) ?_
            refine z_iast hx hb hK hz 1 rfl (by omega) (by decide) dX11_one_93 (fun H locs hz => ?_)
            rw [nwS_ui (k := k) (by omega)] at hz
            have hz : zH D (zF ws0) H0 [(md, .inr (9, [.ref bk, .ref nw, .ref nt, .int (zI T), .ref df, .int (zI cn), .ref chk, .int (zI ln), .ref pa, .int (zI wat), .int (zI who), .int (zI rs), .int (zI act), .int (zI fse), .ref rc, .ref qu, .ref ct, .ref ft, .ref wn, .ref wy, .ref nx, .ref im, .ref ik])), (bk, .inl (cI, 29, .inl (zA (nwS (zU inc k i0) (zU mat k (-6)) kd tm yr)))), (df, .inl (cI, 9, .inl (zA dri)))] H locs := hz
            refine lv_aload_n hx hb dX11_one_94 rfl (lv_at hl 0 rfl) ?_
            refine z_get (C := RX11) (T := TX11) (N := 23) (ref := "HornCityModel") hx hb hts hin_X11_one_X11 hown hK hz 0 rfl rfl 4 (by decide) (hts _ fl_X11_one_19) rfl rfl dX11_one_95 ?_
            refine lv_iload_n hx hb dX11_one_98 rfl (lv_at hl 1 rfl) ?_
            refine lv_iload_n hx hb dX11_one_99 rfl (lv_at hl 3 rfl) ?_
            refine z_iast hx hb hK hz 2 rfl (by omega) (by decide) dX11_one_100 (fun H locs hz => ?_)
            have hz : zH D (zF ws0) H0 [(md, .inr (9, [.ref bk, .ref nw, .ref nt, .int (zI T), .ref df, .int (zI cn), .ref chk, .int (zI ln), .ref pa, .int (zI wat), .int (zI who), .int (zI rs), .int (zI act), .int (zI fse), .ref rc, .ref qu, .ref ct, .ref ft, .ref wn, .ref wy, .ref nx, .ref im, .ref ik])), (bk, .inl (cI, 29, .inl (zA (nwS (zU inc k i0) (zU mat k (-6)) kd tm yr)))), (df, .inl (cI, 9, .inl (zA (zU dri k d0))))] H locs := hz
            refine lv_aload_n hx hb dX11_one_101 rfl (lv_at hl 0 rfl) ?_
            refine lv_dup hx hb dX11_one_102 rfl ?_
            refine z_get (C := RX11) (T := TX11) (N := 23) (ref := "HornCityModel") hx hb hts hin_X11_one_X11 hown hK hz 0 rfl rfl 3 (by decide) (hts _ fl_X11_one_65) rfl rfl dX11_one_103 ?_
            refine z_iconst hx hb dX11_one_106 ?_
            refine lv_iload_n hx hb dX11_one_107 rfl (lv_at hl 1 rfl) ?_
            refine z_ishl1 hx hb dX11_one_108 (by omega) ?_
            have hp9 := pow9 k (by omega)
            have ho9 := zOr_bd hT (b := 2 ^ k.toNat) (by omega)
            refine z_ior hx hb dX11_one_109 (by omega) (by omega) ?_
            refine z_put (C := RX11) (T := TX11) (N := 23) (ref := "HornCityModel") (ty := .int) hx hb hts hin_X11_one_X11 hown hK hz tyX11 tyX11_ok nmX11 0 rfl rfl 3 (by decide) (hts _ fl_X11_one_65) rfl rfl (by decide +kernel) rfl rfl (Nat.le_of_ble_eq_true rfl) dX11_one_110 (fun H locs hz => ?_)
            have hz : zH D (zF ws0) H0 [(md, .inr (9, [.ref bk, .ref nw, .ref nt, .int (zI (zOr T (2 ^ k.toNat))), .ref df, .int (zI cn), .ref chk, .int (zI ln), .ref pa, .int (zI wat), .int (zI who), .int (zI rs), .int (zI act), .int (zI fse), .ref rc, .ref qu, .ref ct, .ref ft, .ref wn, .ref wy, .ref nx, .ref im, .ref ik])), (bk, .inl (cI, 29, .inl (zA (nwS (zU inc k i0) (zU mat k (-6)) kd tm yr)))), (df, .inl (cI, 9, .inl (zA (zU dri k d0))))] H locs := hz
            refine lv_aload_n hx hb dX11_one_113 rfl (lv_at hl 0 rfl) ?_
            refine z_get (C := RX11) (T := TX11) (N := 23) (ref := "HornCityModel") hx hb hts hin_X11_one_X11 hown hK hz 0 rfl rfl 3 (by decide) (hts _ fl_X11_one_65) rfl rfl dX11_one_114 ?_
            refine z_callSp (As := [.int (zI (zOr T (2 ^ k.toNat)))]) (rest := []) F hK hz hl (c_X11_bits l D cI cJ cZ (zOr T (2 ^ k.toNat)) (by omega)) (va_cwS 1 hts gX11_one_X11_bits rfl rfl rfl (by decide +kernel) ⟨Nat.le_of_ble_eq_true rfl, Nat.le_of_ble_eq_true rfl⟩) [] rfl rfl rfl rfl (Nat.le_of_ble_eq_true rfl) ⟨Nat.le_of_ble_eq_true rfl, Nat.le_of_ble_eq_true rfl⟩ dX11_one_117 ?_
            exact hret (((cnt9 (zOr T (2 ^ k.toNat))) : Int), (zU inc k i0 : Int → Int), (zU dri k d0 : Int → Int), (zU mat k (-6) : Int → Int), ((zOr T (2 ^ k.toNat)) : Int)) dX11_one_120 (show (cnt9 (zOr T (2 ^ k.toNat))) = oneR T k i0 d0 ∧ (zU inc k i0) = oneI inc k i0 d0 ∧ (zU dri k d0) = oneD dri k i0 d0 ∧ (zU mat k (-6)) = oneM T mat k i0 d0 ∧ (zOr T (2 ^ k.toNat)) = oneT T k i0 d0 from ⟨by unfold oneR; rw [if_neg (by omega), if_neg (by omega)], by unfold oneI; rw [if_pos (by omega)], by unfold oneD; rw [if_pos (by omega)], by unfold oneM; rw [if_pos (by omega)]; rw [sepM_is hmo h42, if_pos (by omega)]; exact zU_id (by omega), by unfold oneT; rw [if_pos (by omega)]⟩) hz
          ·
            refine lv_aload_n hx hb dX11_one_57 rfl (lv_at hl 0 rfl) ?_
            refine z_get (C := RX11) (T := TX11) (N := 23) (ref := "HornCityModel") hx hb hts hin_X11_one_X11 hown hK hz 0 rfl rfl 0 (by decide) (hts _ fl_X11_one_7) rfl rfl dX11_one_58 ?_
            refine z_bipush hx hb dX11_one_61 (by decide) ?_
            refine lv_aload_n hx hb dX11_one_63 rfl (lv_at hl 0 rfl) ?_
            refine z_get (C := RX11) (T := TX11) (N := 23) (ref := "HornCityModel") hx hb hts hin_X11_one_X11 hown hK hz 0 rfl rfl 0 (by decide) (hts _ fl_X11_one_7) rfl rfl dX11_one_64 ?_
            refine z_bipush hx hb dX11_one_67 (by decide) ?_
            refine lv_iload_n hx hb dX11_one_69 rfl (lv_at hl 1 rfl) ?_
            refine z_iadd hx hb dX11_one_70 ?_
            refine z_iald hx hb hK hz 1 rfl (by omega) (by decide) dX11_one_71 ?_
            rw [nwS_m (k := k) (by omega)]
            have hv71 := (mOk_bd hmo).ax k (by omega)
            refine z_iadd hx hb dX11_one_72 ?_
            refine z_bipush hx hb dX11_one_73 (by decide) ?_
            refine z_iast hx hb hK hz 1 rfl (by omega) (by decide) dX11_one_75 (fun H locs hz => ?_)
            rw [nwS_um (k := (mat k)) (by omega)] at hz
            have hz : zH D (zF ws0) H0 [(md, .inr (9, [.ref bk, .ref nw, .ref nt, .int (zI T), .ref df, .int (zI cn), .ref chk, .int (zI ln), .ref pa, .int (zI wat), .int (zI who), .int (zI rs), .int (zI act), .int (zI fse), .ref rc, .ref qu, .ref ct, .ref ft, .ref wn, .ref wy, .ref nx, .ref im, .ref ik])), (bk, .inl (cI, 29, .inl (zA (nwS inc (zU mat (mat k) (-6)) kd tm yr)))), (df, .inl (cI, 9, .inl (zA dri)))] H locs := hz
            refine lv_aload_n hx hb dX11_one_76 rfl (lv_at hl 0 rfl) ?_
            refine z_get (C := RX11) (T := TX11) (N := 23) (ref := "HornCityModel") hx hb hts hin_X11_one_X11 hown hK hz 0 rfl rfl 0 (by decide) (hts _ fl_X11_one_7) rfl rfl dX11_one_77 ?_
            refine z_bipush hx hb dX11_one_80 (by decide) ?_
            refine lv_iload_n hx hb dX11_one_82 rfl (lv_at hl 1 rfl) ?_
            refine z_iadd hx hb dX11_one_83 ?_
            refine z_bipush hx hb dX11_one_84 (by decide) ?_
            refine z_iast hx hb hK hz 1 rfl (by omega) (by decide) dX11_one_86 (fun H locs hz => ?_)
            rw [nwS_um (k := k) (by omega)] at hz
            have hz : zH D (zF ws0) H0 [(md, .inr (9, [.ref bk, .ref nw, .ref nt, .int (zI T), .ref df, .int (zI cn), .ref chk, .int (zI ln), .ref pa, .int (zI wat), .int (zI who), .int (zI rs), .int (zI act), .int (zI fse), .ref rc, .ref qu, .ref ct, .ref ft, .ref wn, .ref wy, .ref nx, .ref im, .ref ik])), (bk, .inl (cI, 29, .inl (zA (nwS inc (zU (zU mat (mat k) (-6)) k (-6)) kd tm yr)))), (df, .inl (cI, 9, .inl (zA dri)))] H locs := hz
            refine lv_aload_n hx hb dX11_one_87 rfl (lv_at hl 0 rfl) ?_
            refine z_get (C := RX11) (T := TX11) (N := 23) (ref := "HornCityModel") hx hb hts hin_X11_one_X11 hown hK hz 0 rfl rfl 0 (by decide) (hts _ fl_X11_one_7) rfl rfl dX11_one_88 ?_
            refine lv_iload_n hx hb dX11_one_91 rfl (lv_at hl 1 rfl) ?_
            refine lv_iload_n hx hb dX11_one_92 rfl (lv_at hl 2 rfl) ?_
            refine z_iast hx hb hK hz 1 rfl (by omega) (by decide) dX11_one_93 (fun H locs hz => ?_)
            rw [nwS_ui (k := k) (by omega)] at hz
            have hz : zH D (zF ws0) H0 [(md, .inr (9, [.ref bk, .ref nw, .ref nt, .int (zI T), .ref df, .int (zI cn), .ref chk, .int (zI ln), .ref pa, .int (zI wat), .int (zI who), .int (zI rs), .int (zI act), .int (zI fse), .ref rc, .ref qu, .ref ct, .ref ft, .ref wn, .ref wy, .ref nx, .ref im, .ref ik])), (bk, .inl (cI, 29, .inl (zA (nwS (zU inc k i0) (zU (zU mat (mat k) (-6)) k (-6)) kd tm yr)))), (df, .inl (cI, 9, .inl (zA dri)))] H locs := hz
            refine lv_aload_n hx hb dX11_one_94 rfl (lv_at hl 0 rfl) ?_
            refine z_get (C := RX11) (T := TX11) (N := 23) (ref := "HornCityModel") hx hb hts hin_X11_one_X11 hown hK hz 0 rfl rfl 4 (by decide) (hts _ fl_X11_one_19) rfl rfl dX11_one_95 ?_
            refine lv_iload_n hx hb dX11_one_98 rfl (lv_at hl 1 rfl) ?_
            refine lv_iload_n hx hb dX11_one_99 rfl (lv_at hl 3 rfl) ?_
            refine z_iast hx hb hK hz 2 rfl (by omega) (by decide) dX11_one_100 (fun H locs hz => ?_)
            have hz : zH D (zF ws0) H0 [(md, .inr (9, [.ref bk, .ref nw, .ref nt, .int (zI T), .ref df, .int (zI cn), .ref chk, .int (zI ln), .ref pa, .int (zI wat), .int (zI who), .int (zI rs), .int (zI act), .int (zI fse), .ref rc, .ref qu, .ref ct, .ref ft, .ref wn, .ref wy, .ref nx, .ref im, .ref ik])), (bk, .inl (cI, 29, .inl (zA (nwS (zU inc k i0) (zU (zU mat (mat k) (-6)) k (-6)) kd tm yr)))), (df, .inl (cI, 9, .inl (zA (zU dri k d0))))] H locs := hz
            refine lv_aload_n hx hb dX11_one_101 rfl (lv_at hl 0 rfl) ?_
            refine lv_dup hx hb dX11_one_102 rfl ?_
            refine z_get (C := RX11) (T := TX11) (N := 23) (ref := "HornCityModel") hx hb hts hin_X11_one_X11 hown hK hz 0 rfl rfl 3 (by decide) (hts _ fl_X11_one_65) rfl rfl dX11_one_103 ?_
            refine z_iconst hx hb dX11_one_106 ?_
            refine lv_iload_n hx hb dX11_one_107 rfl (lv_at hl 1 rfl) ?_
            refine z_ishl1 hx hb dX11_one_108 (by omega) ?_
            have hp9 := pow9 k (by omega)
            have ho9 := zOr_bd hT (b := 2 ^ k.toNat) (by omega)
            refine z_ior hx hb dX11_one_109 (by omega) (by omega) ?_
            refine z_put (C := RX11) (T := TX11) (N := 23) (ref := "HornCityModel") (ty := .int) hx hb hts hin_X11_one_X11 hown hK hz tyX11 tyX11_ok nmX11 0 rfl rfl 3 (by decide) (hts _ fl_X11_one_65) rfl rfl (by decide +kernel) rfl rfl (Nat.le_of_ble_eq_true rfl) dX11_one_110 (fun H locs hz => ?_)
            have hz : zH D (zF ws0) H0 [(md, .inr (9, [.ref bk, .ref nw, .ref nt, .int (zI (zOr T (2 ^ k.toNat))), .ref df, .int (zI cn), .ref chk, .int (zI ln), .ref pa, .int (zI wat), .int (zI who), .int (zI rs), .int (zI act), .int (zI fse), .ref rc, .ref qu, .ref ct, .ref ft, .ref wn, .ref wy, .ref nx, .ref im, .ref ik])), (bk, .inl (cI, 29, .inl (zA (nwS (zU inc k i0) (zU (zU mat (mat k) (-6)) k (-6)) kd tm yr)))), (df, .inl (cI, 9, .inl (zA (zU dri k d0))))] H locs := hz
            refine lv_aload_n hx hb dX11_one_113 rfl (lv_at hl 0 rfl) ?_
            refine z_get (C := RX11) (T := TX11) (N := 23) (ref := "HornCityModel") hx hb hts hin_X11_one_X11 hown hK hz 0 rfl rfl 3 (by decide) (hts _ fl_X11_one_65) rfl rfl dX11_one_114 ?_
            refine z_callSp (As := [.int (zI (zOr T (2 ^ k.toNat)))]) (rest := []) F hK hz hl (c_X11_bits l D cI cJ cZ (zOr T (2 ^ k.toNat)) (by omega)) (va_cwS 1 hts gX11_one_X11_bits rfl rfl rfl (by decide +kernel) ⟨Nat.le_of_ble_eq_true rfl, Nat.le_of_ble_eq_true rfl⟩) [] rfl rfl rfl rfl (Nat.le_of_ble_eq_true rfl) ⟨Nat.le_of_ble_eq_true rfl, Nat.le_of_ble_eq_true rfl⟩ dX11_one_117 ?_
            exact hret (((cnt9 (zOr T (2 ^ k.toNat))) : Int), (zU inc k i0 : Int → Int), (zU dri k d0 : Int → Int), (zU (zU mat (mat k) (-6)) k (-6) : Int → Int), ((zOr T (2 ^ k.toNat)) : Int)) dX11_one_120 (show (cnt9 (zOr T (2 ^ k.toNat))) = oneR T k i0 d0 ∧ (zU inc k i0) = oneI inc k i0 d0 ∧ (zU dri k d0) = oneD dri k i0 d0 ∧ (zU (zU mat (mat k) (-6)) k (-6)) = oneM T mat k i0 d0 ∧ (zOr T (2 ^ k.toNat)) = oneT T k i0 d0 from ⟨by unfold oneR; rw [if_neg (by omega), if_neg (by omega)], by unfold oneI; rw [if_pos (by omega)], by unfold oneD; rw [if_pos (by omega)], by unfold oneM; rw [if_pos (by omega)]; rw [sepM_is hmo h42, if_neg (by omega)]; exact zU_cm (by omega), by unfold oneT; rw [if_pos (by omega)]⟩) hz
      ·
        refine z_bipush hx hb dX11_one_34 (by decide) ?_
        exact hret (((-2) : Int), (inc : Int → Int), (dri : Int → Int), (mat : Int → Int), (T : Int)) dX11_one_36 (show (-2) = oneR T k i0 d0 ∧ inc = oneI inc k i0 d0 ∧ dri = oneD dri k i0 d0 ∧ mat = oneM T mat k i0 d0 ∧ T = oneT T k i0 d0 from ⟨by unfold oneR; rw [if_neg (by omega), if_pos (by omega)], by unfold oneI; rw [if_neg (by omega)], by unfold oneD; rw [if_neg (by omega)], by unfold oneM; rw [if_neg (by omega)], by unfold oneT; rw [if_neg (by omega)]⟩) hz
  ·
    refine z_iconst hx hb dX11_one_10 ?_
    exact hret (((-1) : Int), (inc : Int → Int), (dri : Int → Int), (mat : Int → Int), (T : Int)) dX11_one_11 (show (-1) = oneR T k i0 d0 ∧ inc = oneI inc k i0 d0 ∧ dri = oneD dri k i0 d0 ∧ mat = oneM T mat k i0 d0 ∧ T = oneT T k i0 d0 from ⟨by unfold oneR; rw [if_pos h7], by unfold oneI; rw [if_neg (by omega)], by unfold oneD; rw [if_neg (by omega)], by unfold oneM; rw [if_neg (by omega)], by unfold oneT; rw [if_neg (by omega)]⟩) hz

set_option maxRecDepth 20000 in
theorem hin_X11_pair_X11 : ∀ w ∈ u_ws RX11 TX11 23, w ∈ wsX11_pair := by decide +kernel
set_option maxRecDepth 20000 in
theorem fl_X11_pair_7 : Cond.fieldLink RX11 7 "HornCityModel" "book" "[I" ∈ wsX11_pair := by decide +kernel
set_option maxHeartbeats 4000000 in
set_option maxRecDepth 100000 in
theorem c_X11_pair (l : Launch) (D : va_G) (cI cJ cZ : ClassId) (md bk nw nt df chk pa rc qu ct ft wn wy nx im ik : Nat) (inc mat kd nwf : Int → Int) (T cn ln wat who rs act fse tm yr a b : Int) (is0 : Prop) [Decidable is0] (hr : (-2147483648 ≤ a ∧ a ≤ 2147483647) ∧ (-2147483648 ≤ b ∧ b ≤ 2147483647)) (hT : 0 ≤ T ∧ T < 512) (hmo : mOk T mat) : zMw l yX11_pair wsX11_pair (zRm 3) D cI cJ cZ [.ref md, .int (zI a), .int (zI b), .int (zI (if is0 then 1 else 0))] [(md, .inr (9, [.ref bk, .ref nw, .ref nt, .int (zI T), .ref df, .int (zI cn), .ref chk, .int (zI ln), .ref pa, .int (zI wat), .int (zI who), .int (zI rs), .int (zI act), .int (zI fse), .ref rc, .ref qu, .ref ct, .ref ft, .ref wn, .ref wy, .ref nx, .ref im, .ref ik])), (bk, .inl (cI, 29, .inl (zA (nwS inc mat kd tm yr)))), (nw, .inl (cI, 29, .inl (zA nwf)))] (S := Int × (Int → Int) × (Int → Int) × Int × Int) (fun u => u.1 = paR T mat a b is0 ∧ u.2.1 = paM T mat a b is0) (fun u => some (.int (zI u.1))) (fun u => [(md, .inr (9, [.ref bk, .ref nw, .ref nt, .int (zI T), .ref df, .int (zI cn), .ref chk, .int (zI ln), .ref pa, .int (zI u.2.2.2.1), .int (zI u.2.2.2.2), .int (zI rs), .int (zI act), .int (zI fse), .ref rc, .ref qu, .ref ct, .ref ft, .ref wn, .ref wy, .ref nx, .ref im, .ref ik])), (bk, .inl (cI, 29, .inl (zA (nwS inc u.2.1 kd tm yr)))), (nw, .inl (cI, 29, .inl (zA u.2.2.1)))]) := by
  refine zMw_i (cc := cX11_pair) (maxL := 4) (by decide +kernel) rfl (Nat.le_of_ble_eq_true rfl) rfl (fun _ => rfl) ?_
  intro p e s m args below meth c Q H0 ls F hK hz hl hret
  obtain ⟨hx, hb, hml, hown0, hts⟩ := id F
  have hown : s.vm.findClass RX11 = some m.cls := hown0
  obtain ⟨ws0, hw0⟩ : ∃ w : va_W, w = [(md, .inr (9, [.ref bk, .ref nw, .ref nt, .int (zI T), .ref df, .int (zI cn), .ref chk, .int (zI ln), .ref pa, .int (zI wat), .int (zI who), .int (zI rs), .int (zI act), .int (zI fse), .ref rc, .ref qu, .ref ct, .ref ft, .ref wn, .ref wy, .ref nx, .ref im, .ref ik])), (bk, .inl (cI, 29, .inl (zA (nwS inc mat kd tm yr)))), (nw, .inl (cI, 29, .inl (zA nwf)))] := ⟨_, rfl⟩
  rw [← hw0] at hret
  have hz : zH D (zF ws0) H0 [(md, .inr (9, [.ref bk, .ref nw, .ref nt, .int (zI T), .ref df, .int (zI cn), .ref chk, .int (zI ln), .ref pa, .int (zI wat), .int (zI who), .int (zI rs), .int (zI act), .int (zI fse), .ref rc, .ref qu, .ref ct, .ref ft, .ref wn, .ref wy, .ref nx, .ref im, .ref ik])), (bk, .inl (cI, 29, .inl (zA (nwS inc mat kd tm yr)))), (nw, .inl (cI, 29, .inl (zA nwf)))] H0 [] := by rw [hw0]; exact hz
  have hl : lv_has ls 4 [(0, .ref md), (1, .int (zI a)), (2, .int (zI b)), (3, .int (zI (if is0 then 1 else 0)))] := hl
  refine lv_aload_n hx hb dX11_pair_0 rfl (lv_at hl 0 rfl) ?_
  refine lv_iload_n hx hb dX11_pair_1 rfl (lv_at hl 1 rfl) ?_
  refine z_callVp (As := [.int (zI a)]) (rest := []) (C := RX11) (T := TX11) (N := 23) F hK hz hl (c_X11_isThere l D cI cJ cZ md bk nw nt df chk pa rc qu ct ft wn wy nx im ik T cn ln wat who rs act fse a (by omega) (by first | assumption | omega)) (cwV 1 hts gX11_pair_X11_isThere rfl rfl rfl (by decide +kernel) ⟨Nat.le_of_ble_eq_true rfl, Nat.le_of_ble_eq_true rfl⟩) rfl 0 rfl [0] rfl rfl rfl rfl (Nat.le_of_ble_eq_true rfl) ⟨Nat.le_of_ble_eq_true rfl, Nat.le_of_ble_eq_true rfl⟩ dX11_pair_2 ?_
  refine z_ifb_eq (tgt := 21) hx hb dX11_pair_5 (by decide) (fun h5 => ?_) (fun h5 => ?_)
  ·
    refine z_iconst hx hb dX11_pair_21 ?_
    exact hret (((-1) : Int), (mat : Int → Int), (nwf : Int → Int), (wat : Int), (who : Int)) dX11_pair_22 (show (-1) = paR T mat a b is0 ∧ mat = paM T mat a b is0 from ⟨by simp [paR, h5], by simp [paM, h5]⟩) hz
  ·
    refine lv_aload_n hx hb dX11_pair_8 rfl (lv_at hl 0 rfl) ?_
    refine lv_iload_n hx hb dX11_pair_9 rfl (lv_at hl 2 rfl) ?_
    refine z_callVp (As := [.int (zI b)]) (rest := []) (C := RX11) (T := TX11) (N := 23) F hK hz hl (c_X11_isThere l D cI cJ cZ md bk nw nt df chk pa rc qu ct ft wn wy nx im ik T cn ln wat who rs act fse b (by omega) (by first | assumption | omega)) (cwV 1 hts gX11_pair_X11_isThere rfl rfl rfl (by decide +kernel) ⟨Nat.le_of_ble_eq_true rfl, Nat.le_of_ble_eq_true rfl⟩) rfl 0 rfl [0] rfl rfl rfl rfl (Nat.le_of_ble_eq_true rfl) ⟨Nat.le_of_ble_eq_true rfl, Nat.le_of_ble_eq_true rfl⟩ dX11_pair_10 ?_
    refine z_ifb_eq (tgt := 21) hx hb dX11_pair_13 (by decide) (fun h13 => ?_) (fun h13 => ?_)
    ·
      refine z_iconst hx hb dX11_pair_21 ?_
      exact hret (((-1) : Int), (mat : Int → Int), (nwf : Int → Int), (wat : Int), (who : Int)) dX11_pair_22 (show (-1) = paR T mat a b is0 ∧ mat = paM T mat a b is0 from ⟨by simp [paR, h5, h13], by simp [paM, h5, h13]⟩) hz
    ·
      refine lv_iload_n hx hb dX11_pair_16 rfl (lv_at hl 1 rfl) ?_
      refine lv_iload_n hx hb dX11_pair_17 rfl (lv_at hl 2 rfl) ?_
      refine z_icmp_ne (tgt := 23) hx hb dX11_pair_18 (by decide) (by omega) (by omega) (fun h18 => ?_) (fun h18 => ?_)
      ·
        have har := inS.rng h5
        have hbr := inS.rng h13
        have hna := mOk_neg hmo har
        have hnb := mOk_neg hmo hbr
        have hma : maO T mat a = mat a := if_pos h5
        have hmb : maO T mat b = mat b := if_pos h13
        refine lv_iload_n hx hb dX11_pair_23 rfl (lv_at hl 3 rfl) ?_
        refine z_ifb_eq (tgt := 54) hx hb dX11_pair_24 (by decide) (fun h24 => ?_) (fun h24 => ?_)
        ·
          refine lv_aload_n hx hb dX11_pair_54 rfl (lv_at hl 0 rfl) ?_
          refine z_get (C := RX11) (T := TX11) (N := 23) (ref := "HornCityModel") hx hb hts hin_X11_pair_X11 hown hK hz 0 rfl rfl 0 (by decide) (hts _ fl_X11_pair_7) rfl rfl dX11_pair_55 ?_
          refine z_bipush hx hb dX11_pair_58 (by decide) ?_
          refine lv_iload_n hx hb dX11_pair_60 rfl (lv_at hl 1 rfl) ?_
          refine z_iadd hx hb dX11_pair_61 ?_
          refine z_iald hx hb hK hz 1 rfl (by omega) (by decide) dX11_pair_62 ?_
          rw [nwS_m (k := a) (by omega)]
          have hv62 := (mOk_bd hmo).ax a (by omega)
          refine lv_iload_n hx hb dX11_pair_63 rfl (lv_at hl 2 rfl) ?_
          refine z_icmp_eq (tgt := 70) hx hb dX11_pair_64 (by decide) (by omega) (by omega) (fun h64 => ?_) (fun h64 => ?_)
          ·
            refine lv_aload_n hx hb dX11_pair_70 rfl (lv_at hl 0 rfl) ?_
            refine z_get (C := RX11) (T := TX11) (N := 23) (ref := "HornCityModel") hx hb hts hin_X11_pair_X11 hown hK hz 0 rfl rfl 0 (by decide) (hts _ fl_X11_pair_7) rfl rfl dX11_pair_71 ?_
            refine z_bipush hx hb dX11_pair_74 (by decide) ?_
            refine lv_iload_n hx hb dX11_pair_76 rfl (lv_at hl 1 rfl) ?_
            refine z_iadd hx hb dX11_pair_77 ?_
            refine lv_iload_n hx hb dX11_pair_78 rfl (lv_at hl 3 rfl) ?_
            refine z_ifb_eq (tgt := 86) hx hb dX11_pair_79 (by decide) (fun h79 => ?_) (fun h79 => ?_)
            ·
              refine z_bipush hx hb dX11_pair_86 (by decide) ?_
              refine z_iast hx hb hK hz 1 rfl (by omega) (by decide) dX11_pair_88 (fun H locs hz => ?_)
              rw [nwS_um (k := a) (by omega)] at hz
              have hz : zH D (zF ws0) H0 [(md, .inr (9, [.ref bk, .ref nw, .ref nt, .int (zI T), .ref df, .int (zI cn), .ref chk, .int (zI ln), .ref pa, .int (zI wat), .int (zI who), .int (zI rs), .int (zI act), .int (zI fse), .ref rc, .ref qu, .ref ct, .ref ft, .ref wn, .ref wy, .ref nx, .ref im, .ref ik])), (bk, .inl (cI, 29, .inl (zA (nwS inc (zU mat a (-6)) kd tm yr)))), (nw, .inl (cI, 29, .inl (zA nwf)))] H locs := hz
              refine lv_aload_n hx hb dX11_pair_89 rfl (lv_at hl 0 rfl) ?_
              refine z_get (C := RX11) (T := TX11) (N := 23) (ref := "HornCityModel") hx hb hts hin_X11_pair_X11 hown hK hz 0 rfl rfl 0 (by decide) (hts _ fl_X11_pair_7) rfl rfl dX11_pair_90 ?_
              refine z_bipush hx hb dX11_pair_93 (by decide) ?_
              refine lv_iload_n hx hb dX11_pair_95 rfl (lv_at hl 2 rfl) ?_
              refine z_iadd hx hb dX11_pair_96 ?_
              refine lv_iload_n hx hb dX11_pair_97 rfl (lv_at hl 3 rfl) ?_
              refine z_ifb_eq (tgt := 105) hx hb dX11_pair_98 (by decide) (fun h98 => ?_) (fun h98 => ?_)
              ·
                refine z_bipush hx hb dX11_pair_105 (by decide) ?_
                refine z_iast hx hb hK hz 1 rfl (by omega) (by decide) dX11_pair_107 (fun H locs hz => ?_)
                rw [nwS_um (k := b) (by omega)] at hz
                have hz : zH D (zF ws0) H0 [(md, .inr (9, [.ref bk, .ref nw, .ref nt, .int (zI T), .ref df, .int (zI cn), .ref chk, .int (zI ln), .ref pa, .int (zI wat), .int (zI who), .int (zI rs), .int (zI act), .int (zI fse), .ref rc, .ref qu, .ref ct, .ref ft, .ref wn, .ref wy, .ref nx, .ref im, .ref ik])), (bk, .inl (cI, 29, .inl (zA (nwS inc (zU (zU mat a (-6)) b (-6)) kd tm yr)))), (nw, .inl (cI, 29, .inl (zA nwf)))] H locs := hz
                have hPM : paM T mat a b is0 = (zU (zU mat a (-6)) b (-6)) := by unfold paM; rw [hma, hmb, if_neg (by simp [h5, h13, h18]), if_neg h24, if_pos (by omega), sepM_is hmo h5, if_neg (by omega), show mat a = b from by omega]
                rw [← hPM] at hz
                have hz : zH D (zF ws0) H0 [(md, .inr (9, [.ref bk, .ref nw, .ref nt, .int (zI T), .ref df, .int (zI cn), .ref chk, .int (zI ln), .ref pa, .int (zI wat), .int (zI who), .int (zI rs), .int (zI act), .int (zI fse), .ref rc, .ref qu, .ref ct, .ref ft, .ref wn, .ref wy, .ref nx, .ref im, .ref ik])), (bk, .inl (cI, 29, .inl (zA (nwS inc (paM T mat a b is0) kd tm yr)))), (nw, .inl (cI, 29, .inl (zA nwf)))] H locs := hz
                have hmp := mOk_pa hmo a b is0
                refine lv_aload_n hx hb dX11_pair_108 rfl (lv_at hl 0 rfl) ?_
                refine z_callVwv (As := []) (rest := []) (C := RX11) (T := TX11) (N := 23) F hK hz hl (c_X11_asNow l D cI cJ cZ md bk nw nt df chk pa rc qu ct ft wn wy nx im ik inc (paM T mat a b is0) kd nwf T cn ln wat who rs act fse tm yr ) (cwV 0 hts gX11_pair_X11_asNow rfl rfl rfl (by decide +kernel) ⟨Nat.le_of_ble_eq_true rfl, Nat.le_of_ble_eq_true rfl⟩) rfl 0 rfl [0, 1, 2] rfl rfl (by decide +kernel) rfl rfl (Nat.le_of_ble_eq_true rfl) ⟨Nat.le_of_ble_eq_true rfl, Nat.le_of_ble_eq_true rfl⟩ dX11_pair_109 (fun u H locs hu hz => ?_)
                obtain ⟨inc1_1, mat1_2, kd1_3, tm1_4, yr1_5, wa1_6, wo1_7⟩ := u
                have hu : inc1_1 = inc ∧ mat1_2 = (paM T mat a b is0) ∧ kd1_3 = (fun _ => -6) ∧ tm1_4 = tm ∧ yr1_5 = yr ∧ wa1_6 = -6 ∧ wo1_7 = -6 := hu
                obtain ⟨g109_0, g109_1, g109_2, g109_3, g109_4, g109_5, g109_6⟩ := hu
                have g109_0 := g109_0.symm
                subst g109_0
                have g109_1 := g109_1.symm
                subst g109_1
                have g109_2 := g109_2.symm
                subst g109_2
                have g109_3 := g109_3.symm
                subst g109_3
                have g109_4 := g109_4.symm
                subst g109_4
                have g109_5 := g109_5.symm
                subst g109_5
                have g109_6 := g109_6.symm
                subst g109_6
                have hz : zH D (zF ws0) H0 [(md, .inr (9, [.ref bk, .ref nw, .ref nt, .int (zI T), .ref df, .int (zI cn), .ref chk, .int (zI ln), .ref pa, .int (zI (-6)), .int (zI (-6)), .int (zI rs), .int (zI act), .int (zI fse), .ref rc, .ref qu, .ref ct, .ref ft, .ref wn, .ref wy, .ref nx, .ref im, .ref ik])), (bk, .inl (cI, 29, .inl (zA (nwS inc (paM T mat a b is0) kd tm yr)))), (nw, .inl (cI, 29, .inl (zA (nwS inc (paM T mat a b is0) (fun _ => -6) tm yr))))] H locs := hz
                refine lv_aload_n hx hb dX11_pair_112 rfl (lv_at hl 0 rfl) ?_
                refine z_callVp (As := []) (rest := []) (C := RX11) (T := TX11) (N := 23) F hK hz hl (c_X11_pairsOf l D cI cJ cZ md bk nw nt df chk pa rc qu ct ft wn wy nx im ik inc (paM T mat a b is0) (fun _ => -6) T cn ln (-6) (-6) rs act fse tm yr (by first | assumption | omega) (mOk_bd hmp)) (cwV 0 hts gX11_pair_X11_pairsOf rfl rfl rfl (by decide +kernel) ⟨Nat.le_of_ble_eq_true rfl, Nat.le_of_ble_eq_true rfl⟩) rfl 0 rfl [0, 2] rfl rfl rfl rfl (Nat.le_of_ble_eq_true rfl) ⟨Nat.le_of_ble_eq_true rfl, Nat.le_of_ble_eq_true rfl⟩ dX11_pair_113 ?_
                exact hret (((pa2S T (paM T mat a b is0)) : Int), (paM T mat a b is0 : Int → Int), (nwS inc (paM T mat a b is0) (fun _ => -6) tm yr : Int → Int), ((-6) : Int), ((-6) : Int)) dX11_pair_116 (show (pa2S T (paM T mat a b is0)) = paR T mat a b is0 ∧ (paM T mat a b is0) = paM T mat a b is0 from ⟨by rw [pa2_eq hmp]; exact (pa_eq h5 h13 h18 is0 (by rw [hma, hmb, if_neg h24]; omega)).symm, rfl⟩) hz
              ·
                exfalso
                first | omega | (revert h98; simp_all; done) | simp_all
            ·
              exfalso
              first | omega | (revert h79; simp_all; done) | simp_all
          ·
            refine z_bipush hx hb dX11_pair_67 (by decide) ?_
            exact hret (((-3) : Int), (mat : Int → Int), (nwf : Int → Int), (wat : Int), (who : Int)) dX11_pair_69 (show (-3) = paR T mat a b is0 ∧ mat = paM T mat a b is0 from ⟨by unfold paR; rw [hma, hmb, if_neg (by simp [h5, h13, h18]), if_neg h24, if_neg (by omega)], by unfold paM; rw [hma, hmb, if_neg (by simp [h5, h13, h18]), if_neg h24, if_neg (by omega)]⟩) hz
        ·
          refine lv_aload_n hx hb dX11_pair_27 rfl (lv_at hl 0 rfl) ?_
          refine z_get (C := RX11) (T := TX11) (N := 23) (ref := "HornCityModel") hx hb hts hin_X11_pair_X11 hown hK hz 0 rfl rfl 0 (by decide) (hts _ fl_X11_pair_7) rfl rfl dX11_pair_28 ?_
          refine z_bipush hx hb dX11_pair_31 (by decide) ?_
          refine lv_iload_n hx hb dX11_pair_33 rfl (lv_at hl 1 rfl) ?_
          refine z_iadd hx hb dX11_pair_34 ?_
          refine z_iald hx hb hK hz 1 rfl (by omega) (by decide) dX11_pair_35 ?_
          rw [nwS_m (k := a) (by omega)]
          have hv35 := (mOk_bd hmo).ax a (by omega)
          refine z_if_ge (tgt := 67) hx hb dX11_pair_36 (by decide) (by omega) (fun h36 => ?_) (fun h36 => ?_)
          ·
            refine z_bipush hx hb dX11_pair_67 (by decide) ?_
            exact hret (((-3) : Int), (mat : Int → Int), (nwf : Int → Int), (wat : Int), (who : Int)) dX11_pair_69 (show (-3) = paR T mat a b is0 ∧ mat = paM T mat a b is0 from ⟨by unfold paR; rw [hma, hmb, if_neg (by simp [h5, h13, h18]), if_pos h24, if_neg (by omega)], by unfold paM; rw [hma, hmb, if_neg (by simp [h5, h13, h18]), if_pos h24, if_neg (by omega)]⟩) hz
          ·
            refine lv_aload_n hx hb dX11_pair_39 rfl (lv_at hl 0 rfl) ?_
            refine z_get (C := RX11) (T := TX11) (N := 23) (ref := "HornCityModel") hx hb hts hin_X11_pair_X11 hown hK hz 0 rfl rfl 0 (by decide) (hts _ fl_X11_pair_7) rfl rfl dX11_pair_40 ?_
            refine z_bipush hx hb dX11_pair_43 (by decide) ?_
            refine lv_iload_n hx hb dX11_pair_45 rfl (lv_at hl 2 rfl) ?_
            refine z_iadd hx hb dX11_pair_46 ?_
            refine z_iald hx hb hK hz 1 rfl (by omega) (by decide) dX11_pair_47 ?_
            rw [nwS_m (k := b) (by omega)]
            have hv47 := (mOk_bd hmo).ax b (by omega)
            refine z_if_lt (tgt := 70) hx hb dX11_pair_48 (by decide) (by omega) (fun h48 => ?_) (fun h48 => ?_)
            ·
              refine lv_aload_n hx hb dX11_pair_70 rfl (lv_at hl 0 rfl) ?_
              refine z_get (C := RX11) (T := TX11) (N := 23) (ref := "HornCityModel") hx hb hts hin_X11_pair_X11 hown hK hz 0 rfl rfl 0 (by decide) (hts _ fl_X11_pair_7) rfl rfl dX11_pair_71 ?_
              refine z_bipush hx hb dX11_pair_74 (by decide) ?_
              refine lv_iload_n hx hb dX11_pair_76 rfl (lv_at hl 1 rfl) ?_
              refine z_iadd hx hb dX11_pair_77 ?_
              refine lv_iload_n hx hb dX11_pair_78 rfl (lv_at hl 3 rfl) ?_
              refine z_ifb_eq (tgt := 86) hx hb dX11_pair_79 (by decide) (fun h79 => ?_) (fun h79 => ?_)
              ·
                exfalso
                first | omega | (revert h79; simp_all; done) | simp_all
              ·
                refine lv_iload_n hx hb dX11_pair_82 rfl (lv_at hl 2 rfl) ?_
                refine lv_goto (tgt := 88) hx hb dX11_pair_83 (by decide) ?_
                refine z_iast hx hb hK hz 1 rfl (by omega) (by decide) dX11_pair_88 (fun H locs hz => ?_)
                rw [nwS_um (k := a) (by omega)] at hz
                have hz : zH D (zF ws0) H0 [(md, .inr (9, [.ref bk, .ref nw, .ref nt, .int (zI T), .ref df, .int (zI cn), .ref chk, .int (zI ln), .ref pa, .int (zI wat), .int (zI who), .int (zI rs), .int (zI act), .int (zI fse), .ref rc, .ref qu, .ref ct, .ref ft, .ref wn, .ref wy, .ref nx, .ref im, .ref ik])), (bk, .inl (cI, 29, .inl (zA (nwS inc (zU mat a b) kd tm yr)))), (nw, .inl (cI, 29, .inl (zA nwf)))] H locs := hz
                refine lv_aload_n hx hb dX11_pair_89 rfl (lv_at hl 0 rfl) ?_
                refine z_get (C := RX11) (T := TX11) (N := 23) (ref := "HornCityModel") hx hb hts hin_X11_pair_X11 hown hK hz 0 rfl rfl 0 (by decide) (hts _ fl_X11_pair_7) rfl rfl dX11_pair_90 ?_
                refine z_bipush hx hb dX11_pair_93 (by decide) ?_
                refine lv_iload_n hx hb dX11_pair_95 rfl (lv_at hl 2 rfl) ?_
                refine z_iadd hx hb dX11_pair_96 ?_
                refine lv_iload_n hx hb dX11_pair_97 rfl (lv_at hl 3 rfl) ?_
                refine z_ifb_eq (tgt := 105) hx hb dX11_pair_98 (by decide) (fun h98 => ?_) (fun h98 => ?_)
                ·
                  exfalso
                  first | omega | (revert h98; simp_all; done) | simp_all
                ·
                  refine lv_iload_n hx hb dX11_pair_101 rfl (lv_at hl 1 rfl) ?_
                  refine lv_goto (tgt := 107) hx hb dX11_pair_102 (by decide) ?_
                  refine z_iast hx hb hK hz 1 rfl (by omega) (by decide) dX11_pair_107 (fun H locs hz => ?_)
                  rw [nwS_um (k := b) (by omega)] at hz
                  have hz : zH D (zF ws0) H0 [(md, .inr (9, [.ref bk, .ref nw, .ref nt, .int (zI T), .ref df, .int (zI cn), .ref chk, .int (zI ln), .ref pa, .int (zI wat), .int (zI who), .int (zI rs), .int (zI act), .int (zI fse), .ref rc, .ref qu, .ref ct, .ref ft, .ref wn, .ref wy, .ref nx, .ref im, .ref ik])), (bk, .inl (cI, 29, .inl (zA (nwS inc (zU (zU mat a b) b a) kd tm yr)))), (nw, .inl (cI, 29, .inl (zA nwf)))] H locs := hz
                  have hPM : paM T mat a b is0 = (zU (zU mat a b) b a) := by unfold paM; rw [hma, hmb, if_neg (by simp [h5, h13, h18]), if_pos h24, if_pos (by omega)]; unfold seaM; rw [if_pos (show inS T a = true ∧ inS T b = true from ⟨h5, h13⟩)]
                  rw [← hPM] at hz
                  have hz : zH D (zF ws0) H0 [(md, .inr (9, [.ref bk, .ref nw, .ref nt, .int (zI T), .ref df, .int (zI cn), .ref chk, .int (zI ln), .ref pa, .int (zI wat), .int (zI who), .int (zI rs), .int (zI act), .int (zI fse), .ref rc, .ref qu, .ref ct, .ref ft, .ref wn, .ref wy, .ref nx, .ref im, .ref ik])), (bk, .inl (cI, 29, .inl (zA (nwS inc (paM T mat a b is0) kd tm yr)))), (nw, .inl (cI, 29, .inl (zA nwf)))] H locs := hz
                  have hmp := mOk_pa hmo a b is0
                  refine lv_aload_n hx hb dX11_pair_108 rfl (lv_at hl 0 rfl) ?_
                  refine z_callVwv (As := []) (rest := []) (C := RX11) (T := TX11) (N := 23) F hK hz hl (c_X11_asNow l D cI cJ cZ md bk nw nt df chk pa rc qu ct ft wn wy nx im ik inc (paM T mat a b is0) kd nwf T cn ln wat who rs act fse tm yr ) (cwV 0 hts gX11_pair_X11_asNow rfl rfl rfl (by decide +kernel) ⟨Nat.le_of_ble_eq_true rfl, Nat.le_of_ble_eq_true rfl⟩) rfl 0 rfl [0, 1, 2] rfl rfl (by decide +kernel) rfl rfl (Nat.le_of_ble_eq_true rfl) ⟨Nat.le_of_ble_eq_true rfl, Nat.le_of_ble_eq_true rfl⟩ dX11_pair_109 (fun u H locs hu hz => ?_)
                  obtain ⟨inc1_8, mat1_9, kd1_10, tm1_11, yr1_12, wa1_13, wo1_14⟩ := u
                  have hu : inc1_8 = inc ∧ mat1_9 = (paM T mat a b is0) ∧ kd1_10 = (fun _ => -6) ∧ tm1_11 = tm ∧ yr1_12 = yr ∧ wa1_13 = -6 ∧ wo1_14 = -6 := hu
                  obtain ⟨g109_0, g109_1, g109_2, g109_3, g109_4, g109_5, g109_6⟩ := hu
                  have g109_0 := g109_0.symm
                  subst g109_0
                  have g109_1 := g109_1.symm
                  subst g109_1
                  have g109_2 := g109_2.symm
                  subst g109_2
                  have g109_3 := g109_3.symm
                  subst g109_3
                  have g109_4 := g109_4.symm
                  subst g109_4
                  have g109_5 := g109_5.symm
                  subst g109_5
                  have g109_6 := g109_6.symm
                  subst g109_6
                  have hz : zH D (zF ws0) H0 [(md, .inr (9, [.ref bk, .ref nw, .ref nt, .int (zI T), .ref df, .int (zI cn), .ref chk, .int (zI ln), .ref pa, .int (zI (-6)), .int (zI (-6)), .int (zI rs), .int (zI act), .int (zI fse), .ref rc, .ref qu, .ref ct, .ref ft, .ref wn, .ref wy, .ref nx, .ref im, .ref ik])), (bk, .inl (cI, 29, .inl (zA (nwS inc (paM T mat a b is0) kd tm yr)))), (nw, .inl (cI, 29, .inl (zA (nwS inc (paM T mat a b is0) (fun _ => -6) tm yr))))] H locs := hz
                  refine lv_aload_n hx hb dX11_pair_112 rfl (lv_at hl 0 rfl) ?_
                  refine z_callVp (As := []) (rest := []) (C := RX11) (T := TX11) (N := 23) F hK hz hl (c_X11_pairsOf l D cI cJ cZ md bk nw nt df chk pa rc qu ct ft wn wy nx im ik inc (paM T mat a b is0) (fun _ => -6) T cn ln (-6) (-6) rs act fse tm yr (by first | assumption | omega) (mOk_bd hmp)) (cwV 0 hts gX11_pair_X11_pairsOf rfl rfl rfl (by decide +kernel) ⟨Nat.le_of_ble_eq_true rfl, Nat.le_of_ble_eq_true rfl⟩) rfl 0 rfl [0, 2] rfl rfl rfl rfl (Nat.le_of_ble_eq_true rfl) ⟨Nat.le_of_ble_eq_true rfl, Nat.le_of_ble_eq_true rfl⟩ dX11_pair_113 ?_
                  exact hret (((pa2S T (paM T mat a b is0)) : Int), (paM T mat a b is0 : Int → Int), (nwS inc (paM T mat a b is0) (fun _ => -6) tm yr : Int → Int), ((-6) : Int), ((-6) : Int)) dX11_pair_116 (show (pa2S T (paM T mat a b is0)) = paR T mat a b is0 ∧ (paM T mat a b is0) = paM T mat a b is0 from ⟨by rw [pa2_eq hmp]; exact (pa_eq h5 h13 h18 is0 (by rw [hma, hmb, if_pos h24]; omega)).symm, rfl⟩) hz
            ·
              refine lv_goto (tgt := 67) hx hb dX11_pair_51 (by decide) ?_
              refine z_bipush hx hb dX11_pair_67 (by decide) ?_
              exact hret (((-3) : Int), (mat : Int → Int), (nwf : Int → Int), (wat : Int), (who : Int)) dX11_pair_69 (show (-3) = paR T mat a b is0 ∧ mat = paM T mat a b is0 from ⟨by unfold paR; rw [hma, hmb, if_neg (by simp [h5, h13, h18]), if_pos h24, if_neg (by omega)], by unfold paM; rw [hma, hmb, if_neg (by simp [h5, h13, h18]), if_pos h24, if_neg (by omega)]⟩) hz
      ·
        refine z_iconst hx hb dX11_pair_21 ?_
        exact hret (((-1) : Int), (mat : Int → Int), (nwf : Int → Int), (wat : Int), (who : Int)) dX11_pair_22 (show (-1) = paR T mat a b is0 ∧ mat = paM T mat a b is0 from ⟨by simp [paR, h5, h13, h18], by simp [paM, h5, h13, h18]⟩) hz

set_option maxRecDepth 20000 in
theorem hin_X11_horn_X11 : ∀ w ∈ u_ws RX11 TX11 23, w ∈ wsX11_horn := by decide +kernel
set_option maxRecDepth 20000 in
theorem fl_X11_horn_7 : Cond.fieldLink RX11 7 "HornCityModel" "book" "[I" ∈ wsX11_horn := by decide +kernel
set_option maxHeartbeats 4000000 in
set_option maxRecDepth 100000 in
theorem c_X11_horn (l : Launch) (D : va_G) (cI cJ cZ : ClassId) (md bk nw nt df chk pa rc qu ct ft wn wy nx im ik : Nat) (inc mat kd : Int → Int) (T cn ln wat who rs act fse tm yr v : Int) (hr : (-2147483648 ≤ v ∧ v ≤ 2147483647)) : zMw l yX11_horn wsX11_horn (zRm 1) D cI cJ cZ [.ref md, .int (zI v)] [(md, .inr (9, [.ref bk, .ref nw, .ref nt, .int (zI T), .ref df, .int (zI cn), .ref chk, .int (zI ln), .ref pa, .int (zI wat), .int (zI who), .int (zI rs), .int (zI act), .int (zI fse), .ref rc, .ref qu, .ref ct, .ref ft, .ref wn, .ref wy, .ref nx, .ref im, .ref ik])), (bk, .inl (cI, 29, .inl (zA (nwS inc mat kd tm yr))))] (S := Int × Int) (fun u => u.1 = hoR tm v ∧ u.2 = hoT tm v) (fun u => some (.int (zI u.1))) (fun u => [(md, .inr (9, [.ref bk, .ref nw, .ref nt, .int (zI T), .ref df, .int (zI cn), .ref chk, .int (zI ln), .ref pa, .int (zI wat), .int (zI who), .int (zI rs), .int (zI act), .int (zI fse), .ref rc, .ref qu, .ref ct, .ref ft, .ref wn, .ref wy, .ref nx, .ref im, .ref ik])), (bk, .inl (cI, 29, .inl (zA (nwS inc mat kd u.2 yr))))]) := by
  refine zMw_i (cc := cX11_horn) (maxL := 3) (by decide +kernel) rfl (Nat.le_of_ble_eq_true rfl) rfl (fun _ => rfl) ?_
  intro p e s m args below meth c Q H0 ls F hK hz hl hret
  obtain ⟨hx, hb, hml, hown0, hts⟩ := id F
  have hown : s.vm.findClass RX11 = some m.cls := hown0
  obtain ⟨ws0, hw0⟩ : ∃ w : va_W, w = [(md, .inr (9, [.ref bk, .ref nw, .ref nt, .int (zI T), .ref df, .int (zI cn), .ref chk, .int (zI ln), .ref pa, .int (zI wat), .int (zI who), .int (zI rs), .int (zI act), .int (zI fse), .ref rc, .ref qu, .ref ct, .ref ft, .ref wn, .ref wy, .ref nx, .ref im, .ref ik])), (bk, .inl (cI, 29, .inl (zA (nwS inc mat kd tm yr))))] := ⟨_, rfl⟩
  rw [← hw0] at hret
  have hz : zH D (zF ws0) H0 [(md, .inr (9, [.ref bk, .ref nw, .ref nt, .int (zI T), .ref df, .int (zI cn), .ref chk, .int (zI ln), .ref pa, .int (zI wat), .int (zI who), .int (zI rs), .int (zI act), .int (zI fse), .ref rc, .ref qu, .ref ct, .ref ft, .ref wn, .ref wy, .ref nx, .ref im, .ref ik])), (bk, .inl (cI, 29, .inl (zA (nwS inc mat kd tm yr))))] H0 [] := by rw [hw0]; exact hz
  have hl : lv_has ls 3 [(0, .ref md), (1, .int (zI v))] := hl
  refine lv_iload_n hx hb dX11_horn_0 rfl (lv_at hl 1 rfl) ?_
  refine z_iconst hx hb dX11_horn_1 ?_
  refine z_bipush hx hb dX11_horn_2 (by decide) ?_
  refine z_callSp (As := [.int (zI v), .int (zI 0), .int (zI 9)]) (rest := []) F hK hz hl (c_X11_in l D cI cJ cZ v 0 9 (by omega)) (va_cwS 3 hts gX11_horn_X11_in rfl rfl rfl (by decide +kernel) ⟨Nat.le_of_ble_eq_true rfl, Nat.le_of_ble_eq_true rfl⟩) [] rfl rfl rfl rfl (Nat.le_of_ble_eq_true rfl) ⟨Nat.le_of_ble_eq_true rfl, Nat.le_of_ble_eq_true rfl⟩ dX11_horn_4 ?_
  refine z_ifb_ne (tgt := 13) hx hb dX11_horn_7 (by decide) (fun h7 => ?_) (fun h7 => ?_)
  ·
    refine lv_aload_n hx hb dX11_horn_13 rfl (lv_at hl 0 rfl) ?_
    refine z_get (C := RX11) (T := TX11) (N := 23) (ref := "HornCityModel") hx hb hts hin_X11_horn_X11 hown hK hz 0 rfl rfl 0 (by decide) (hts _ fl_X11_horn_7) rfl rfl dX11_horn_14 ?_
    refine z_bipush hx hb dX11_horn_17 (by decide) ?_
    refine z_iald hx hb hK hz 1 rfl (by omega) (by decide) dX11_horn_19 ?_
    rw [nwS_27]
    refine lv_istore_n (lv' := [(2, .int (zI tm)), (0, .ref md), (1, .int (zI v))]) hx hb dX11_horn_20 rfl hl (Nat.le_of_ble_eq_true rfl) rfl (fun ls hl => ?_)
    refine lv_aload_n hx hb dX11_horn_21 rfl (lv_at hl 1 rfl) ?_
    refine z_get (C := RX11) (T := TX11) (N := 23) (ref := "HornCityModel") hx hb hts hin_X11_horn_X11 hown hK hz 0 rfl rfl 0 (by decide) (hts _ fl_X11_horn_7) rfl rfl dX11_horn_22 ?_
    refine z_bipush hx hb dX11_horn_25 (by decide) ?_
    refine lv_iload_n hx hb dX11_horn_27 rfl (lv_at hl 2 rfl) ?_
    refine z_iast hx hb hK hz 1 rfl (by omega) (by decide) dX11_horn_28 (fun H locs hz => ?_)
    rw [nwS_u27] at hz
    have hz : zH D (zF ws0) H0 [(md, .inr (9, [.ref bk, .ref nw, .ref nt, .int (zI T), .ref df, .int (zI cn), .ref chk, .int (zI ln), .ref pa, .int (zI wat), .int (zI who), .int (zI rs), .int (zI act), .int (zI fse), .ref rc, .ref qu, .ref ct, .ref ft, .ref wn, .ref wy, .ref nx, .ref im, .ref ik])), (bk, .inl (cI, 29, .inl (zA (nwS inc mat kd v yr))))] H locs := hz
    refine lv_iload_n hx hb dX11_horn_29 rfl (lv_at hl 0 rfl) ?_
    exact hret ((tm : Int), (v : Int)) dX11_horn_30 (show tm = hoR tm v ∧ v = hoT tm v from ⟨by unfold hoR; rw [if_pos h7], by unfold hoT; rw [if_pos h7]⟩) hz
  ·
    refine z_bipush hx hb dX11_horn_10 (by decide) ?_
    exact hret (((-2) : Int), (tm : Int)) dX11_horn_12 (show (-2) = hoR tm v ∧ tm = hoT tm v from ⟨by unfold hoR; rw [if_neg h7], by unfold hoT; rw [if_neg h7]⟩) hz

set_option maxRecDepth 20000 in
theorem hin_X11_say_X11 : ∀ w ∈ u_ws RX11 TX11 23, w ∈ wsX11_say := by decide +kernel
set_option maxRecDepth 20000 in
theorem fl_X11_say_87 : Cond.fieldLink RX11 87 "HornCityModel" "signs" "I" ∈ wsX11_say := by decide +kernel
set_option maxRecDepth 20000 in
theorem fl_X11_say_25 : Cond.fieldLink RX11 25 "HornCityModel" "pad" "[I" ∈ wsX11_say := by decide +kernel
set_option maxHeartbeats 4000000 in
set_option maxRecDepth 100000 in
theorem c_X11_say (l : Launch) (D : va_G) (cI cJ cZ : ClassId) (md bk nw nt df chk pa rc qu ct ft wn wy nx im ik : Nat) (sgn : Int → Int) (T cn ln wat who rs act fse v : Int) (hr : (-2147483648 ≤ v ∧ v ≤ 2147483647)) (hln : 0 ≤ ln ∧ ln ≤ 60) : zMw l yX11_say wsX11_say (zRm 1) D cI cJ cZ [.ref md, .int (zI v)] [(md, .inr (9, [.ref bk, .ref nw, .ref nt, .int (zI T), .ref df, .int (zI cn), .ref chk, .int (zI ln), .ref pa, .int (zI wat), .int (zI who), .int (zI rs), .int (zI act), .int (zI fse), .ref rc, .ref qu, .ref ct, .ref ft, .ref wn, .ref wy, .ref nx, .ref im, .ref ik])), (pa, .inl (cI, 60, .inl (zA sgn)))] (S := Int × (Int → Int) × Int) (fun u => u.1 = saR ln v ∧ u.2.1 = saS ln sgn v ∧ u.2.2 = saL ln v) (fun u => some (.int (zI u.1))) (fun u => [(md, .inr (9, [.ref bk, .ref nw, .ref nt, .int (zI T), .ref df, .int (zI cn), .ref chk, .int (zI u.2.2), .ref pa, .int (zI wat), .int (zI who), .int (zI rs), .int (zI act), .int (zI fse), .ref rc, .ref qu, .ref ct, .ref ft, .ref wn, .ref wy, .ref nx, .ref im, .ref ik])), (pa, .inl (cI, 60, .inl (zA u.2.1)))]) := by
  refine zMw_i (cc := cX11_say) (maxL := 2) (by decide +kernel) rfl (Nat.le_of_ble_eq_true rfl) rfl (fun _ => rfl) ?_
  intro p e s m args below meth c Q H0 ls F hK hz hl hret
  obtain ⟨hx, hb, hml, hown0, hts⟩ := id F
  have hown : s.vm.findClass RX11 = some m.cls := hown0
  obtain ⟨ws0, hw0⟩ : ∃ w : va_W, w = [(md, .inr (9, [.ref bk, .ref nw, .ref nt, .int (zI T), .ref df, .int (zI cn), .ref chk, .int (zI ln), .ref pa, .int (zI wat), .int (zI who), .int (zI rs), .int (zI act), .int (zI fse), .ref rc, .ref qu, .ref ct, .ref ft, .ref wn, .ref wy, .ref nx, .ref im, .ref ik])), (pa, .inl (cI, 60, .inl (zA sgn)))] := ⟨_, rfl⟩
  rw [← hw0] at hret
  have hz : zH D (zF ws0) H0 [(md, .inr (9, [.ref bk, .ref nw, .ref nt, .int (zI T), .ref df, .int (zI cn), .ref chk, .int (zI ln), .ref pa, .int (zI wat), .int (zI who), .int (zI rs), .int (zI act), .int (zI fse), .ref rc, .ref qu, .ref ct, .ref ft, .ref wn, .ref wy, .ref nx, .ref im, .ref ik])), (pa, .inl (cI, 60, .inl (zA sgn)))] H0 [] := by rw [hw0]; exact hz
  have hl : lv_has ls 2 [(0, .ref md), (1, .int (zI v))] := hl
  refine lv_iload_n hx hb dX11_say_0 rfl (lv_at hl 1 rfl) ?_
  refine z_bipush hx hb dX11_say_1 (by decide) ?_
  refine z_bipush hx hb dX11_say_3 (by decide) ?_
  refine z_callSp (As := [.int (zI v), .int (zI 33), .int (zI 126)]) (rest := []) F hK hz hl (c_X11_in l D cI cJ cZ v 33 126 (by omega)) (va_cwS 3 hts gX11_say_X11_in rfl rfl rfl (by decide +kernel) ⟨Nat.le_of_ble_eq_true rfl, Nat.le_of_ble_eq_true rfl⟩) [] rfl rfl rfl rfl (Nat.le_of_ble_eq_true rfl) ⟨Nat.le_of_ble_eq_true rfl, Nat.le_of_ble_eq_true rfl⟩ dX11_say_5 ?_
  refine z_ifb_ne (tgt := 14) hx hb dX11_say_8 (by decide) (fun h8 => ?_) (fun h8 => ?_)
  ·
    refine lv_aload_n hx hb dX11_say_14 rfl (lv_at hl 0 rfl) ?_
    refine z_get (C := RX11) (T := TX11) (N := 23) (ref := "HornCityModel") hx hb hts hin_X11_say_X11 hown hK hz 0 rfl rfl 7 (by decide) (hts _ fl_X11_say_87) rfl rfl dX11_say_15 ?_
    refine z_bipush hx hb dX11_say_18 (by decide) ?_
    refine z_icmp_ne (tgt := 26) hx hb dX11_say_20 (by decide) (by omega) (by decide) (fun h20 => ?_) (fun h20 => ?_)
    ·
      refine lv_aload_n hx hb dX11_say_26 rfl (lv_at hl 0 rfl) ?_
      refine z_get (C := RX11) (T := TX11) (N := 23) (ref := "HornCityModel") hx hb hts hin_X11_say_X11 hown hK hz 0 rfl rfl 8 (by decide) (hts _ fl_X11_say_25) rfl rfl dX11_say_27 ?_
      refine lv_aload_n hx hb dX11_say_30 rfl (lv_at hl 0 rfl) ?_
      refine z_get (C := RX11) (T := TX11) (N := 23) (ref := "HornCityModel") hx hb hts hin_X11_say_X11 hown hK hz 0 rfl rfl 7 (by decide) (hts _ fl_X11_say_87) rfl rfl dX11_say_31 ?_
      refine lv_iload_n hx hb dX11_say_34 rfl (lv_at hl 1 rfl) ?_
      refine z_iast hx hb hK hz 1 rfl (by omega) (by decide) dX11_say_35 (fun H locs hz => ?_)
      have hz : zH D (zF ws0) H0 [(md, .inr (9, [.ref bk, .ref nw, .ref nt, .int (zI T), .ref df, .int (zI cn), .ref chk, .int (zI ln), .ref pa, .int (zI wat), .int (zI who), .int (zI rs), .int (zI act), .int (zI fse), .ref rc, .ref qu, .ref ct, .ref ft, .ref wn, .ref wy, .ref nx, .ref im, .ref ik])), (pa, .inl (cI, 60, .inl (zA (zU sgn ln v))))] H locs := hz
      refine lv_aload_n hx hb dX11_say_36 rfl (lv_at hl 0 rfl) ?_
      refine lv_dup hx hb dX11_say_37 rfl ?_
      refine z_get (C := RX11) (T := TX11) (N := 23) (ref := "HornCityModel") hx hb hts hin_X11_say_X11 hown hK hz 0 rfl rfl 7 (by decide) (hts _ fl_X11_say_87) rfl rfl dX11_say_38 ?_
      refine z_iconst hx hb dX11_say_41 ?_
      refine z_iadd hx hb dX11_say_42 ?_
      refine z_put (C := RX11) (T := TX11) (N := 23) (ref := "HornCityModel") (ty := .int) hx hb hts hin_X11_say_X11 hown hK hz tyX11 tyX11_ok nmX11 0 rfl rfl 7 (by decide) (hts _ fl_X11_say_87) rfl rfl (by decide +kernel) rfl rfl (Nat.le_of_ble_eq_true rfl) dX11_say_43 (fun H locs hz => ?_)
      have hz : zH D (zF ws0) H0 [(md, .inr (9, [.ref bk, .ref nw, .ref nt, .int (zI T), .ref df, .int (zI cn), .ref chk, .int (zI (ln + 1)), .ref pa, .int (zI wat), .int (zI who), .int (zI rs), .int (zI act), .int (zI fse), .ref rc, .ref qu, .ref ct, .ref ft, .ref wn, .ref wy, .ref nx, .ref im, .ref ik])), (pa, .inl (cI, 60, .inl (zA (zU sgn ln v))))] H locs := hz
      refine lv_aload_n hx hb dX11_say_46 rfl (lv_at hl 0 rfl) ?_
      refine z_get (C := RX11) (T := TX11) (N := 23) (ref := "HornCityModel") hx hb hts hin_X11_say_X11 hown hK hz 0 rfl rfl 7 (by decide) (hts _ fl_X11_say_87) rfl rfl dX11_say_47 ?_
      exact hret (((ln + 1) : Int), (zU sgn ln v : Int → Int), ((ln + 1) : Int)) dX11_say_50 (show (ln + 1) = saR ln v ∧ (zU sgn ln v) = saS ln sgn v ∧ (ln + 1) = saL ln v from ⟨by unfold saR; rw [if_pos h8, if_pos (by omega)], by unfold saS; rw [if_pos h8, if_pos (by omega)], by unfold saL; rw [if_pos h8, if_pos (by omega)]⟩) hz
    ·
      refine z_bipush hx hb dX11_say_23 (by decide) ?_
      exact hret (((-4) : Int), (sgn : Int → Int), (ln : Int)) dX11_say_25 (show (-4) = saR ln v ∧ sgn = saS ln sgn v ∧ ln = saL ln v from ⟨by unfold saR; rw [if_pos h8, if_neg (by omega)], by unfold saS; rw [if_pos h8, if_neg (by omega)], by unfold saL; rw [if_pos h8, if_neg (by omega)]⟩) hz
  ·
    refine z_bipush hx hb dX11_say_11 (by decide) ?_
    exact hret (((-2) : Int), (sgn : Int → Int), (ln : Int)) dX11_say_13 (show (-2) = saR ln v ∧ sgn = saS ln sgn v ∧ ln = saL ln v from ⟨by unfold saR; rw [if_neg h8], by unfold saS; rw [if_neg h8], by unfold saL; rw [if_neg h8]⟩) hz

set_option maxRecDepth 20000 in
theorem hin_X11_wipe_X11 : ∀ w ∈ u_ws RX11 TX11 23, w ∈ wsX11_wipe := by decide +kernel
set_option maxRecDepth 20000 in
theorem fl_X11_wipe_87 : Cond.fieldLink RX11 87 "HornCityModel" "signs" "I" ∈ wsX11_wipe := by decide +kernel
set_option maxHeartbeats 4000000 in
set_option maxRecDepth 100000 in
theorem c_X11_wipe (l : Launch) (D : va_G) (cI cJ cZ : ClassId) (md bk nw nt df chk pa rc qu ct ft wn wy nx im ik : Nat) (T cn ln wat who rs act fse : Int) : zMw l yX11_wipe wsX11_wipe (zRm 1) D cI cJ cZ [.ref md] [(md, .inr (9, [.ref bk, .ref nw, .ref nt, .int (zI T), .ref df, .int (zI cn), .ref chk, .int (zI ln), .ref pa, .int (zI wat), .int (zI who), .int (zI rs), .int (zI act), .int (zI fse), .ref rc, .ref qu, .ref ct, .ref ft, .ref wn, .ref wy, .ref nx, .ref im, .ref ik]))] (S := Int × Int) (fun u => u.1 = ln ∧ u.2 = 0) (fun u => some (.int (zI u.1))) (fun u => [(md, .inr (9, [.ref bk, .ref nw, .ref nt, .int (zI T), .ref df, .int (zI cn), .ref chk, .int (zI u.2), .ref pa, .int (zI wat), .int (zI who), .int (zI rs), .int (zI act), .int (zI fse), .ref rc, .ref qu, .ref ct, .ref ft, .ref wn, .ref wy, .ref nx, .ref im, .ref ik]))]) := by
  refine zMw_i (cc := cX11_wipe) (maxL := 2) (by decide +kernel) rfl (Nat.le_of_ble_eq_true rfl) rfl (fun _ => rfl) ?_
  intro p e s m args below meth c Q H0 ls F hK hz hl hret
  obtain ⟨hx, hb, hml, hown0, hts⟩ := id F
  have hown : s.vm.findClass RX11 = some m.cls := hown0
  obtain ⟨ws0, hw0⟩ : ∃ w : va_W, w = [(md, .inr (9, [.ref bk, .ref nw, .ref nt, .int (zI T), .ref df, .int (zI cn), .ref chk, .int (zI ln), .ref pa, .int (zI wat), .int (zI who), .int (zI rs), .int (zI act), .int (zI fse), .ref rc, .ref qu, .ref ct, .ref ft, .ref wn, .ref wy, .ref nx, .ref im, .ref ik]))] := ⟨_, rfl⟩
  rw [← hw0] at hret
  have hz : zH D (zF ws0) H0 [(md, .inr (9, [.ref bk, .ref nw, .ref nt, .int (zI T), .ref df, .int (zI cn), .ref chk, .int (zI ln), .ref pa, .int (zI wat), .int (zI who), .int (zI rs), .int (zI act), .int (zI fse), .ref rc, .ref qu, .ref ct, .ref ft, .ref wn, .ref wy, .ref nx, .ref im, .ref ik]))] H0 [] := by rw [hw0]; exact hz
  have hl : lv_has ls 2 [(0, .ref md)] := hl
  refine lv_aload_n hx hb dX11_wipe_0 rfl (lv_at hl 0 rfl) ?_
  refine z_get (C := RX11) (T := TX11) (N := 23) (ref := "HornCityModel") hx hb hts hin_X11_wipe_X11 hown hK hz 0 rfl rfl 7 (by decide) (hts _ fl_X11_wipe_87) rfl rfl dX11_wipe_1 ?_
  refine lv_istore_n (lv' := [(1, .int (zI ln)), (0, .ref md)]) hx hb dX11_wipe_4 rfl hl (Nat.le_of_ble_eq_true rfl) rfl (fun ls hl => ?_)
  refine lv_aload_n hx hb dX11_wipe_5 rfl (lv_at hl 1 rfl) ?_
  refine z_iconst hx hb dX11_wipe_6 ?_
  refine z_put (C := RX11) (T := TX11) (N := 23) (ref := "HornCityModel") (ty := .int) hx hb hts hin_X11_wipe_X11 hown hK hz tyX11 tyX11_ok nmX11 0 rfl rfl 7 (by decide) (hts _ fl_X11_wipe_87) rfl rfl (by decide +kernel) rfl rfl (Nat.le_of_ble_eq_true rfl) dX11_wipe_7 (fun H locs hz => ?_)
  have hz : zH D (zF ws0) H0 [(md, .inr (9, [.ref bk, .ref nw, .ref nt, .int (zI T), .ref df, .int (zI cn), .ref chk, .int (zI 0), .ref pa, .int (zI wat), .int (zI who), .int (zI rs), .int (zI act), .int (zI fse), .ref rc, .ref qu, .ref ct, .ref ft, .ref wn, .ref wy, .ref nx, .ref im, .ref ik]))] H locs := hz
  refine lv_iload_n hx hb dX11_wipe_10 rfl (lv_at hl 0 rfl) ?_
  exact hret ((ln : Int), (0 : Int)) dX11_wipe_11 (show ln = ln ∧ 0 = 0 from ⟨rfl, rfl⟩) hz

set_option maxRecDepth 20000 in
theorem hin_X11_apart_X11 : ∀ w ∈ u_ws RX11 TX11 23, w ∈ wsX11_apart := by decide +kernel
set_option maxRecDepth 20000 in
theorem fl_X11_apart_7 : Cond.fieldLink RX11 7 "HornCityModel" "book" "[I" ∈ wsX11_apart := by decide +kernel
set_option maxHeartbeats 4000000 in
set_option maxRecDepth 100000 in
theorem c_X11_apart (l : Launch) (D : va_G) (cI cJ cZ : ClassId) (md bk nw nt df chk pa rc qu ct ft wn wy nx im ik : Nat) (inc mat kd : Int → Int) (T cn ln wat who rs act fse tm yr a b : Int) (hr : (-2147483648 ≤ a ∧ a ≤ 2147483647) ∧ (-2147483648 ≤ b ∧ b ≤ 2147483647)) (hT : 0 ≤ T ∧ T < 512) (hbi : zBd inc 9 0 179) : zMp l yX11_apart wsX11_apart (zRm 2) D cI cJ cZ [.ref md, .int (zI a), .int (zI b)] [(md, .inr (9, [.ref bk, .ref nw, .ref nt, .int (zI T), .ref df, .int (zI cn), .ref chk, .int (zI ln), .ref pa, .int (zI wat), .int (zI who), .int (zI rs), .int (zI act), .int (zI fse), .ref rc, .ref qu, .ref ct, .ref ft, .ref wn, .ref wy, .ref nx, .ref im, .ref ik])), (bk, .inl (cI, 29, .inl (zA (nwS inc mat kd tm yr))))] (some (.int (zI (apR T inc a b)))) := by
  refine zMp_i (cc := cX11_apart) (maxL := 3) (by decide +kernel) rfl (Nat.le_of_ble_eq_true rfl) rfl ?_
  intro p e s m args below meth c Q H ls F hK hz hl hret
  obtain ⟨hx, hb, hml, hown0, hts⟩ := id F
  have hown : s.vm.findClass RX11 = some m.cls := hown0
  obtain ⟨ws0, hw0⟩ : ∃ w : va_W, w = [(md, .inr (9, [.ref bk, .ref nw, .ref nt, .int (zI T), .ref df, .int (zI cn), .ref chk, .int (zI ln), .ref pa, .int (zI wat), .int (zI who), .int (zI rs), .int (zI act), .int (zI fse), .ref rc, .ref qu, .ref ct, .ref ft, .ref wn, .ref wy, .ref nx, .ref im, .ref ik])), (bk, .inl (cI, 29, .inl (zA (nwS inc mat kd tm yr))))] := ⟨_, rfl⟩
  have hz : zH D (zF ws0) H [(md, .inr (9, [.ref bk, .ref nw, .ref nt, .int (zI T), .ref df, .int (zI cn), .ref chk, .int (zI ln), .ref pa, .int (zI wat), .int (zI who), .int (zI rs), .int (zI act), .int (zI fse), .ref rc, .ref qu, .ref ct, .ref ft, .ref wn, .ref wy, .ref nx, .ref im, .ref ik])), (bk, .inl (cI, 29, .inl (zA (nwS inc mat kd tm yr))))] H [] := by rw [hw0]; exact hz
  have hl : lv_has ls 3 [(0, .ref md), (1, .int (zI a)), (2, .int (zI b))] := hl
  refine lv_aload_n hx hb dX11_apart_0 rfl (lv_at hl 0 rfl) ?_
  refine lv_iload_n hx hb dX11_apart_1 rfl (lv_at hl 1 rfl) ?_
  refine z_callVp (As := [.int (zI a)]) (rest := []) (C := RX11) (T := TX11) (N := 23) F hK hz hl (c_X11_isThere l D cI cJ cZ md bk nw nt df chk pa rc qu ct ft wn wy nx im ik T cn ln wat who rs act fse a (by omega) (by first | assumption | omega)) (cwV 1 hts gX11_apart_X11_isThere rfl rfl rfl (by decide +kernel) ⟨Nat.le_of_ble_eq_true rfl, Nat.le_of_ble_eq_true rfl⟩) rfl 0 rfl [0] rfl rfl rfl rfl (Nat.le_of_ble_eq_true rfl) ⟨Nat.le_of_ble_eq_true rfl, Nat.le_of_ble_eq_true rfl⟩ dX11_apart_2 ?_
  refine z_ifb_eq (tgt := 34) hx hb dX11_apart_5 (by decide) (fun h5 => ?_) (fun h5 => ?_)
  ·
    refine z_iconst hx hb dX11_apart_34 ?_
    exact hret dX11_apart_35 (congrArg (fun z => some (Value.int (zI z))) (show ((-1) : Int) = (apR T inc a b) by unfold apR; rw [if_neg (fun q => h5 q.1)]))
  ·
    refine lv_aload_n hx hb dX11_apart_8 rfl (lv_at hl 0 rfl) ?_
    refine lv_iload_n hx hb dX11_apart_9 rfl (lv_at hl 2 rfl) ?_
    refine z_callVp (As := [.int (zI b)]) (rest := []) (C := RX11) (T := TX11) (N := 23) F hK hz hl (c_X11_isThere l D cI cJ cZ md bk nw nt df chk pa rc qu ct ft wn wy nx im ik T cn ln wat who rs act fse b (by omega) (by first | assumption | omega)) (cwV 1 hts gX11_apart_X11_isThere rfl rfl rfl (by decide +kernel) ⟨Nat.le_of_ble_eq_true rfl, Nat.le_of_ble_eq_true rfl⟩) rfl 0 rfl [0] rfl rfl rfl rfl (Nat.le_of_ble_eq_true rfl) ⟨Nat.le_of_ble_eq_true rfl, Nat.le_of_ble_eq_true rfl⟩ dX11_apart_10 ?_
    refine z_ifb_eq (tgt := 34) hx hb dX11_apart_13 (by decide) (fun h13 => ?_) (fun h13 => ?_)
    ·
      refine z_iconst hx hb dX11_apart_34 ?_
      exact hret dX11_apart_35 (congrArg (fun z => some (Value.int (zI z))) (show ((-1) : Int) = (apR T inc a b) by unfold apR; rw [if_neg (fun q => h13 q.2)]))
    ·
      have har := inS.rng h5
      have hbr := inS.rng h13
      refine lv_aload_n hx hb dX11_apart_16 rfl (lv_at hl 0 rfl) ?_
      refine z_get (C := RX11) (T := TX11) (N := 23) (ref := "HornCityModel") hx hb hts hin_X11_apart_X11 hown hK hz 0 rfl rfl 0 (by decide) (hts _ fl_X11_apart_7) rfl rfl dX11_apart_17 ?_
      refine lv_iload_n hx hb dX11_apart_20 rfl (lv_at hl 1 rfl) ?_
      refine z_iald hx hb hK hz 1 rfl (by omega) (by decide) dX11_apart_21 ?_
      rw [nwS_i (k := a) (by omega)]
      have hv21 := (hbi).ax a (by omega)
      refine lv_aload_n hx hb dX11_apart_22 rfl (lv_at hl 0 rfl) ?_
      refine z_get (C := RX11) (T := TX11) (N := 23) (ref := "HornCityModel") hx hb hts hin_X11_apart_X11 hown hK hz 0 rfl rfl 0 (by decide) (hts _ fl_X11_apart_7) rfl rfl dX11_apart_23 ?_
      refine lv_iload_n hx hb dX11_apart_26 rfl (lv_at hl 2 rfl) ?_
      refine z_iald hx hb hK hz 1 rfl (by omega) (by decide) dX11_apart_27 ?_
      rw [nwS_i (k := b) (by omega)]
      have hv27 := (hbi).ax b (by omega)
      refine z_callSp (As := [.int (zI (inc a)), .int (zI (inc b))]) (rest := []) F hK hz hl (c_X11_apartOf l D cI cJ cZ (inc a) (inc b) (by omega)) (va_cwS 2 hts gX11_apart_X11_apartOf rfl rfl rfl (by decide +kernel) ⟨Nat.le_of_ble_eq_true rfl, Nat.le_of_ble_eq_true rfl⟩) [] rfl rfl rfl rfl (Nat.le_of_ble_eq_true rfl) ⟨Nat.le_of_ble_eq_true rfl, Nat.le_of_ble_eq_true rfl⟩ dX11_apart_28 ?_
      refine lv_goto (tgt := 35) hx hb dX11_apart_31 (by decide) ?_
      exact hret dX11_apart_35 (congrArg (fun z => some (Value.int (zI z))) (show ((apS (inc a) (inc b)) : Int) = (apR T inc a b) by unfold apR; rw [if_pos (show inS T a = true ∧ inS T b = true from ⟨h5, h13⟩), show inO T inc a = inc a from if_pos h5, show inO T inc b = inc b from if_pos h13]))

set_option maxRecDepth 20000 in
theorem hin_X11_meet_X11 : ∀ w ∈ u_ws RX11 TX11 23, w ∈ wsX11_meet := by decide +kernel
set_option maxRecDepth 20000 in
theorem fl_X11_meet_7 : Cond.fieldLink RX11 7 "HornCityModel" "book" "[I" ∈ wsX11_meet := by decide +kernel
set_option maxRecDepth 20000 in
theorem fl_X11_meet_19 : Cond.fieldLink RX11 19 "HornCityModel" "drifts" "[I" ∈ wsX11_meet := by decide +kernel
set_option maxHeartbeats 4000000 in
set_option maxRecDepth 100000 in
theorem c_X11_meet (l : Launch) (D : va_G) (cI cJ cZ : ClassId) (md bk nw nt df chk pa rc qu ct ft wn wy nx im ik : Nat) (inc mat kd dri : Int → Int) (T cn ln wat who rs act fse tm yr a b : Int) (hr : (-2147483648 ≤ a ∧ a ≤ 2147483647) ∧ (-2147483648 ≤ b ∧ b ≤ 2147483647)) (hT : 0 ≤ T ∧ T < 512) (hbi : zBd inc 9 0 179) (hbd : zBd dri 9 (-9) 9) : zMp l yX11_meet wsX11_meet (zRm 2) D cI cJ cZ [.ref md, .int (zI a), .int (zI b)] [(md, .inr (9, [.ref bk, .ref nw, .ref nt, .int (zI T), .ref df, .int (zI cn), .ref chk, .int (zI ln), .ref pa, .int (zI wat), .int (zI who), .int (zI rs), .int (zI act), .int (zI fse), .ref rc, .ref qu, .ref ct, .ref ft, .ref wn, .ref wy, .ref nx, .ref im, .ref ik])), (bk, .inl (cI, 29, .inl (zA (nwS inc mat kd tm yr)))), (df, .inl (cI, 9, .inl (zA dri)))] (some (.int (zI (meR T inc dri a b)))) := by
  refine zMp_i (cc := cX11_meet) (maxL := 4) (by decide +kernel) rfl (Nat.le_of_ble_eq_true rfl) rfl ?_
  intro p e s m args below meth c Q H ls F hK hz hl hret
  obtain ⟨hx, hb, hml, hown0, hts⟩ := id F
  have hown : s.vm.findClass RX11 = some m.cls := hown0
  obtain ⟨ws0, hw0⟩ : ∃ w : va_W, w = [(md, .inr (9, [.ref bk, .ref nw, .ref nt, .int (zI T), .ref df, .int (zI cn), .ref chk, .int (zI ln), .ref pa, .int (zI wat), .int (zI who), .int (zI rs), .int (zI act), .int (zI fse), .ref rc, .ref qu, .ref ct, .ref ft, .ref wn, .ref wy, .ref nx, .ref im, .ref ik])), (bk, .inl (cI, 29, .inl (zA (nwS inc mat kd tm yr)))), (df, .inl (cI, 9, .inl (zA dri)))] := ⟨_, rfl⟩
  have hz : zH D (zF ws0) H [(md, .inr (9, [.ref bk, .ref nw, .ref nt, .int (zI T), .ref df, .int (zI cn), .ref chk, .int (zI ln), .ref pa, .int (zI wat), .int (zI who), .int (zI rs), .int (zI act), .int (zI fse), .ref rc, .ref qu, .ref ct, .ref ft, .ref wn, .ref wy, .ref nx, .ref im, .ref ik])), (bk, .inl (cI, 29, .inl (zA (nwS inc mat kd tm yr)))), (df, .inl (cI, 9, .inl (zA dri)))] H [] := by rw [hw0]; exact hz
  have hl : lv_has ls 4 [(0, .ref md), (1, .int (zI a)), (2, .int (zI b))] := hl
  refine lv_aload_n hx hb dX11_meet_0 rfl (lv_at hl 0 rfl) ?_
  refine lv_iload_n hx hb dX11_meet_1 rfl (lv_at hl 1 rfl) ?_
  refine z_callVp (As := [.int (zI a)]) (rest := []) (C := RX11) (T := TX11) (N := 23) F hK hz hl (c_X11_isThere l D cI cJ cZ md bk nw nt df chk pa rc qu ct ft wn wy nx im ik T cn ln wat who rs act fse a (by omega) (by first | assumption | omega)) (cwV 1 hts gX11_meet_X11_isThere rfl rfl rfl (by decide +kernel) ⟨Nat.le_of_ble_eq_true rfl, Nat.le_of_ble_eq_true rfl⟩) rfl 0 rfl [0] rfl rfl rfl rfl (Nat.le_of_ble_eq_true rfl) ⟨Nat.le_of_ble_eq_true rfl, Nat.le_of_ble_eq_true rfl⟩ dX11_meet_2 ?_
  refine z_ifb_eq (tgt := 16) hx hb dX11_meet_5 (by decide) (fun h5 => ?_) (fun h5 => ?_)
  ·
    refine z_iconst hx hb dX11_meet_16 ?_
    exact hret dX11_meet_17 (congrArg (fun z => some (Value.int (zI z))) (show ((-1) : Int) = (meR T inc dri a b) by unfold meR; rw [if_neg (fun q => h5 q.1)]))
  ·
    refine lv_aload_n hx hb dX11_meet_8 rfl (lv_at hl 0 rfl) ?_
    refine lv_iload_n hx hb dX11_meet_9 rfl (lv_at hl 2 rfl) ?_
    refine z_callVp (As := [.int (zI b)]) (rest := []) (C := RX11) (T := TX11) (N := 23) F hK hz hl (c_X11_isThere l D cI cJ cZ md bk nw nt df chk pa rc qu ct ft wn wy nx im ik T cn ln wat who rs act fse b (by omega) (by first | assumption | omega)) (cwV 1 hts gX11_meet_X11_isThere rfl rfl rfl (by decide +kernel) ⟨Nat.le_of_ble_eq_true rfl, Nat.le_of_ble_eq_true rfl⟩) rfl 0 rfl [0] rfl rfl rfl rfl (Nat.le_of_ble_eq_true rfl) ⟨Nat.le_of_ble_eq_true rfl, Nat.le_of_ble_eq_true rfl⟩ dX11_meet_10 ?_
    refine z_ifb_ne (tgt := 18) hx hb dX11_meet_13 (by decide) (fun h13 => ?_) (fun h13 => ?_)
    ·
      have har := inS.rng h5
      have hbr := inS.rng h13
      refine z_iconst hx hb dX11_meet_18 ?_
      refine lv_istore_n (lv' := [(3, .int (zI 0)), (0, .ref md), (1, .int (zI a)), (2, .int (zI b))]) hx hb dX11_meet_19 rfl hl (Nat.le_of_ble_eq_true rfl) rfl (fun ls hl => ?_)
      have L20 : ∀ (n : Nat) (yn : Int) (ls : Array Slot), ((360 - yn).toNat = n) → (0 ≤ yn ∧ yn ≤ 360) → (meR T inc dri a b = lstS (fun n => decide ((inc a - inc b + (dri a - dri b) * n) % 180 = 0)) (360 - yn).toNat yn) → lv_has ls 4 [(3, .int (zI yn)), (0, .ref md), (1, .int (zI a)), (2, .int (zI b))] → W p l e (zRm 2) s m args below meth c H [] 0 0 Q (F0 m 20 ls []) := by
        intro n
        refine Nat.strongRecOn n ?_
        intro n ih20 yn ls hn20 h0 hc hl
        refine lv_iload_n hx hb dX11_meet_20 rfl (lv_at hl 0 rfl) ?_
        refine z_sipush hx hb dX11_meet_21 (by decide) ?_
        refine z_icmp_ge (tgt := 74) hx hb dX11_meet_24 (by decide) (by omega) (by decide) (fun h24 => ?_) (fun h24 => ?_)
        ·
          refine z_bipush hx hb dX11_meet_74 (by decide) ?_
          exact hret dX11_meet_76 (congrArg (fun z => some (Value.int (zI z))) (show ((-6) : Int) = (meR T inc dri a b) by have e : yn = 360 := (by omega); subst e; exact hc.symm))
        ·
          refine lv_aload_n hx hb dX11_meet_27 rfl (lv_at hl 1 rfl) ?_
          refine z_get (C := RX11) (T := TX11) (N := 23) (ref := "HornCityModel") hx hb hts hin_X11_meet_X11 hown hK hz 0 rfl rfl 0 (by decide) (hts _ fl_X11_meet_7) rfl rfl dX11_meet_28 ?_
          refine lv_iload_n hx hb dX11_meet_31 rfl (lv_at hl 2 rfl) ?_
          refine z_iald hx hb hK hz 1 rfl (by omega) (by decide) dX11_meet_32 ?_
          rw [nwS_i (k := a) (by omega)]
          have hv32 := (hbi).ax a (by omega)
          refine lv_iload_n hx hb dX11_meet_33 rfl (lv_at hl 0 rfl) ?_
          refine lv_aload_n hx hb dX11_meet_34 rfl (lv_at hl 1 rfl) ?_
          refine z_get (C := RX11) (T := TX11) (N := 23) (ref := "HornCityModel") hx hb hts hin_X11_meet_X11 hown hK hz 0 rfl rfl 4 (by decide) (hts _ fl_X11_meet_19) rfl rfl dX11_meet_35 ?_
          refine lv_iload_n hx hb dX11_meet_38 rfl (lv_at hl 2 rfl) ?_
          refine z_iald hx hb hK hz 2 rfl (by omega) (by decide) dX11_meet_39 ?_
          have hv39 := (hbd).ax a (by omega)
          refine z_imul hx hb dX11_meet_40 ?_
          have hm1 := mulD (d := dri a) (n := yn) (by omega) (by omega)
          have hm1c := Int.mul_comm yn (dri a)
          refine z_iadd hx hb dX11_meet_41 ?_
          refine z_callSp (As := [.int (zI ((inc a) + (yn * (dri a))))]) (rest := []) F hK hz hl (c_X11_over l D cI cJ cZ ((inc a) + (yn * (dri a))) (by omega)) (va_cwS 1 hts gX11_meet_X11_over rfl rfl rfl (by decide +kernel) ⟨Nat.le_of_ble_eq_true rfl, Nat.le_of_ble_eq_true rfl⟩) [] rfl rfl rfl rfl (Nat.le_of_ble_eq_true rfl) ⟨Nat.le_of_ble_eq_true rfl, Nat.le_of_ble_eq_true rfl⟩ dX11_meet_42 ?_
          refine lv_aload_n hx hb dX11_meet_45 rfl (lv_at hl 1 rfl) ?_
          refine z_get (C := RX11) (T := TX11) (N := 23) (ref := "HornCityModel") hx hb hts hin_X11_meet_X11 hown hK hz 0 rfl rfl 0 (by decide) (hts _ fl_X11_meet_7) rfl rfl dX11_meet_46 ?_
          refine lv_iload_n hx hb dX11_meet_49 rfl (lv_at hl 3 rfl) ?_
          refine z_iald hx hb hK hz 1 rfl (by omega) (by decide) dX11_meet_50 ?_
          rw [nwS_i (k := b) (by omega)]
          have hv50 := (hbi).ax b (by omega)
          refine lv_iload_n hx hb dX11_meet_51 rfl (lv_at hl 0 rfl) ?_
          refine lv_aload_n hx hb dX11_meet_52 rfl (lv_at hl 1 rfl) ?_
          refine z_get (C := RX11) (T := TX11) (N := 23) (ref := "HornCityModel") hx hb hts hin_X11_meet_X11 hown hK hz 0 rfl rfl 4 (by decide) (hts _ fl_X11_meet_19) rfl rfl dX11_meet_53 ?_
          refine lv_iload_n hx hb dX11_meet_56 rfl (lv_at hl 3 rfl) ?_
          refine z_iald hx hb hK hz 2 rfl (by omega) (by decide) dX11_meet_57 ?_
          have hv57 := (hbd).ax b (by omega)
          refine z_imul hx hb dX11_meet_58 ?_
          have hm2 := mulD (d := dri b) (n := yn) (by omega) (by omega)
          have hm2c := Int.mul_comm yn (dri b)
          refine z_iadd hx hb dX11_meet_59 ?_
          refine z_callSp (As := [.int (zI ((inc b) + (yn * (dri b))))]) (rest := [.int (zI (((inc a) + (yn * (dri a))) % 180))]) F hK hz hl (c_X11_over l D cI cJ cZ ((inc b) + (yn * (dri b))) (by omega)) (va_cwS 1 hts gX11_meet_X11_over rfl rfl rfl (by decide +kernel) ⟨Nat.le_of_ble_eq_true rfl, Nat.le_of_ble_eq_true rfl⟩) [] rfl rfl rfl rfl (Nat.le_of_ble_eq_true rfl) ⟨Nat.le_of_ble_eq_true rfl, Nat.le_of_ble_eq_true rfl⟩ dX11_meet_60 ?_
          refine z_icmp_ne (tgt := 68) hx hb dX11_meet_63 (by decide) (by omega) (by omega) (fun h63 => ?_) (fun h63 => ?_)
          ·
            refine z_iinc (lv' := [(3, .int (zI (yn + 1))), (0, .ref md), (1, .int (zI a)), (2, .int (zI b))]) hx hb dX11_meet_68 hl (k := 0) rfl (Nat.le_of_ble_eq_true rfl) rfl (fun ls hl => ?_)
            refine lv_goto (tgt := 20) hx hb dX11_meet_71 (by decide) ?_
            exact ih20 _ (by omega) (yn + 1) ls rfl (by omega) (by rw [hc, lstS_at (by omega), if_neg (by rw [decide_eq_false (by rw [Int.sub_mul]; omega)]; decide)]) (lv_sub hl [0, 1, 2, 3] rfl)
          ·
            refine lv_iload_n hx hb dX11_meet_66 rfl (lv_at hl 0 rfl) ?_
            exact hret dX11_meet_67 (congrArg (fun z => some (Value.int (zI z))) (show (yn : Int) = (meR T inc dri a b) by rw [hc, lstS_at (by omega), if_pos (decide_eq_true (by rw [Int.sub_mul]; omega))]))
      exact L20 _ 0 ls rfl (by decide) (by unfold meR; rw [if_pos (show inS T a = true ∧ inS T b = true from ⟨h5, h13⟩), show inO T inc a = inc a from if_pos h5, show inO T inc b = inc b from if_pos h13, show inO T dri a = dri a from if_pos h5, show inO T dri b = dri b from if_pos h13]; rfl) (lv_sub hl [0, 1, 2, 3] rfl)
    ·
      refine z_iconst hx hb dX11_meet_16 ?_
      exact hret dX11_meet_17 (congrArg (fun z => some (Value.int (zI z))) (show ((-1) : Int) = (meR T inc dri a b) by unfold meR; rw [if_neg (fun q => h13 q.2)]))

set_option maxRecDepth 20000 in
theorem hin_X11_chalk_X11 : ∀ w ∈ u_ws RX11 TX11 23, w ∈ wsX11_chalk := by decide +kernel
set_option maxRecDepth 20000 in
theorem fl_X11_chalk_142 : Cond.fieldLink RX11 142 "HornCityModel" "chalks" "I" ∈ wsX11_chalk := by decide +kernel
set_option maxRecDepth 20000 in
theorem fl_X11_chalk_22 : Cond.fieldLink RX11 22 "HornCityModel" "chalk" "[I" ∈ wsX11_chalk := by decide +kernel
set_option maxHeartbeats 4000000 in
set_option maxRecDepth 100000 in
theorem c_X11_chalk (l : Launch) (D : va_G) (cI cJ cZ : ClassId) (md bk nw nt df chk pa rc qu ct ft wn wy nx im ik : Nat) (iyf mkf : Int → Int) (T cn ln wat who rs act fse y c0 : Int) (hr : (-2147483648 ≤ y ∧ y ≤ 2147483647) ∧ (-2147483648 ≤ c0 ∧ c0 ≤ 2147483647)) (hcn : 0 ≤ cn ∧ cn ≤ 8) : zMw l yX11_chalk wsX11_chalk (zRm 1) D cI cJ cZ [.ref md, .int (zI y), .int (zI c0)] [(md, .inr (9, [.ref bk, .ref nw, .ref nt, .int (zI T), .ref df, .int (zI cn), .ref chk, .int (zI ln), .ref pa, .int (zI wat), .int (zI who), .int (zI rs), .int (zI act), .int (zI fse), .ref rc, .ref qu, .ref ct, .ref ft, .ref wn, .ref wy, .ref nx, .ref im, .ref ik])), (chk, .inl (cI, 16, .inl (zA (chS iyf mkf))))] (S := Int × (Int → Int) × (Int → Int) × Int) (fun u => u.1 = chR cn y c0 ∧ u.2.1 = chY iyf cn y c0 ∧ u.2.2.1 = chM mkf cn y c0 ∧ u.2.2.2 = chN cn y c0) (fun u => some (.int (zI u.1))) (fun u => [(md, .inr (9, [.ref bk, .ref nw, .ref nt, .int (zI T), .ref df, .int (zI u.2.2.2), .ref chk, .int (zI ln), .ref pa, .int (zI wat), .int (zI who), .int (zI rs), .int (zI act), .int (zI fse), .ref rc, .ref qu, .ref ct, .ref ft, .ref wn, .ref wy, .ref nx, .ref im, .ref ik])), (chk, .inl (cI, 16, .inl (zA (chS u.2.1 u.2.2.1))))]) := by
  refine zMw_i (cc := cX11_chalk) (maxL := 3) (by decide +kernel) rfl (Nat.le_of_ble_eq_true rfl) rfl (fun _ => rfl) ?_
  intro p e s m args below meth c Q H0 ls F hK hz hl hret
  obtain ⟨hx, hb, hml, hown0, hts⟩ := id F
  have hown : s.vm.findClass RX11 = some m.cls := hown0
  obtain ⟨ws0, hw0⟩ : ∃ w : va_W, w = [(md, .inr (9, [.ref bk, .ref nw, .ref nt, .int (zI T), .ref df, .int (zI cn), .ref chk, .int (zI ln), .ref pa, .int (zI wat), .int (zI who), .int (zI rs), .int (zI act), .int (zI fse), .ref rc, .ref qu, .ref ct, .ref ft, .ref wn, .ref wy, .ref nx, .ref im, .ref ik])), (chk, .inl (cI, 16, .inl (zA (chS iyf mkf))))] := ⟨_, rfl⟩
  rw [← hw0] at hret
  have hz : zH D (zF ws0) H0 [(md, .inr (9, [.ref bk, .ref nw, .ref nt, .int (zI T), .ref df, .int (zI cn), .ref chk, .int (zI ln), .ref pa, .int (zI wat), .int (zI who), .int (zI rs), .int (zI act), .int (zI fse), .ref rc, .ref qu, .ref ct, .ref ft, .ref wn, .ref wy, .ref nx, .ref im, .ref ik])), (chk, .inl (cI, 16, .inl (zA (chS iyf mkf))))] H0 [] := by rw [hw0]; exact hz
  have hl : lv_has ls 3 [(0, .ref md), (1, .int (zI y)), (2, .int (zI c0))] := hl
  refine lv_iload_n hx hb dX11_chalk_0 rfl (lv_at hl 1 rfl) ?_
  refine z_iconst hx hb dX11_chalk_1 ?_
  refine z_bipush hx hb dX11_chalk_2 (by decide) ?_
  refine z_callSp (As := [.int (zI y), .int (zI 0), .int (zI 60)]) (rest := []) F hK hz hl (c_X11_in l D cI cJ cZ y 0 60 (by omega)) (va_cwS 3 hts gX11_chalk_X11_in rfl rfl rfl (by decide +kernel) ⟨Nat.le_of_ble_eq_true rfl, Nat.le_of_ble_eq_true rfl⟩) [] rfl rfl rfl rfl (Nat.le_of_ble_eq_true rfl) ⟨Nat.le_of_ble_eq_true rfl, Nat.le_of_ble_eq_true rfl⟩ dX11_chalk_4 ?_
  refine z_ifb_eq (tgt := 21) hx hb dX11_chalk_7 (by decide) (fun h7 => ?_) (fun h7 => ?_)
  ·
    refine z_bipush hx hb dX11_chalk_21 (by decide) ?_
    exact hret (((-2) : Int), (iyf : Int → Int), (mkf : Int → Int), (cn : Int)) dX11_chalk_23 (show (-2) = chR cn y c0 ∧ iyf = chY iyf cn y c0 ∧ mkf = chM mkf cn y c0 ∧ cn = chN cn y c0 from ⟨by unfold chR; rw [if_neg (by omega)], by unfold chY; rw [if_neg (by omega)], by unfold chM; rw [if_neg (by omega)], by unfold chN; rw [if_neg (by omega)]⟩) hz
  ·
    refine lv_iload_n hx hb dX11_chalk_10 rfl (lv_at hl 2 rfl) ?_
    refine z_iconst hx hb dX11_chalk_11 ?_
    refine z_sipush hx hb dX11_chalk_12 (by decide) ?_
    refine z_callSp (As := [.int (zI c0), .int (zI 0), .int (zI 179)]) (rest := []) F hK hz hl (c_X11_in l D cI cJ cZ c0 0 179 (by omega)) (va_cwS 3 hts gX11_chalk_X11_in rfl rfl rfl (by decide +kernel) ⟨Nat.le_of_ble_eq_true rfl, Nat.le_of_ble_eq_true rfl⟩) [] rfl rfl rfl rfl (Nat.le_of_ble_eq_true rfl) ⟨Nat.le_of_ble_eq_true rfl, Nat.le_of_ble_eq_true rfl⟩ dX11_chalk_15 ?_
    refine z_ifb_ne (tgt := 24) hx hb dX11_chalk_18 (by decide) (fun h18 => ?_) (fun h18 => ?_)
    ·
      refine lv_aload_n hx hb dX11_chalk_24 rfl (lv_at hl 0 rfl) ?_
      refine z_get (C := RX11) (T := TX11) (N := 23) (ref := "HornCityModel") hx hb hts hin_X11_chalk_X11 hown hK hz 0 rfl rfl 5 (by decide) (hts _ fl_X11_chalk_142) rfl rfl dX11_chalk_25 ?_
      refine z_bipush hx hb dX11_chalk_28 (by decide) ?_
      refine z_icmp_ne (tgt := 36) hx hb dX11_chalk_30 (by decide) (by omega) (by decide) (fun h30 => ?_) (fun h30 => ?_)
      ·
        refine lv_aload_n hx hb dX11_chalk_36 rfl (lv_at hl 0 rfl) ?_
        refine z_get (C := RX11) (T := TX11) (N := 23) (ref := "HornCityModel") hx hb hts hin_X11_chalk_X11 hown hK hz 0 rfl rfl 6 (by decide) (hts _ fl_X11_chalk_22) rfl rfl dX11_chalk_37 ?_
        refine z_iconst hx hb dX11_chalk_40 ?_
        refine lv_aload_n hx hb dX11_chalk_41 rfl (lv_at hl 0 rfl) ?_
        refine z_get (C := RX11) (T := TX11) (N := 23) (ref := "HornCityModel") hx hb hts hin_X11_chalk_X11 hown hK hz 0 rfl rfl 5 (by decide) (hts _ fl_X11_chalk_142) rfl rfl dX11_chalk_42 ?_
        refine z_imul hx hb dX11_chalk_45 ?_
        refine lv_iload_n hx hb dX11_chalk_46 rfl (lv_at hl 1 rfl) ?_
        refine z_iast hx hb hK hz 1 rfl (by omega) (by decide) dX11_chalk_47 (fun H locs hz => ?_)
        rw [chS_uy] at hz
        have hz : zH D (zF ws0) H0 [(md, .inr (9, [.ref bk, .ref nw, .ref nt, .int (zI T), .ref df, .int (zI cn), .ref chk, .int (zI ln), .ref pa, .int (zI wat), .int (zI who), .int (zI rs), .int (zI act), .int (zI fse), .ref rc, .ref qu, .ref ct, .ref ft, .ref wn, .ref wy, .ref nx, .ref im, .ref ik])), (chk, .inl (cI, 16, .inl (zA (chS (zU iyf cn y) mkf))))] H locs := hz
        refine lv_aload_n hx hb dX11_chalk_48 rfl (lv_at hl 0 rfl) ?_
        refine z_get (C := RX11) (T := TX11) (N := 23) (ref := "HornCityModel") hx hb hts hin_X11_chalk_X11 hown hK hz 0 rfl rfl 6 (by decide) (hts _ fl_X11_chalk_22) rfl rfl dX11_chalk_49 ?_
        refine z_iconst hx hb dX11_chalk_52 ?_
        refine lv_aload_n hx hb dX11_chalk_53 rfl (lv_at hl 0 rfl) ?_
        refine z_get (C := RX11) (T := TX11) (N := 23) (ref := "HornCityModel") hx hb hts hin_X11_chalk_X11 hown hK hz 0 rfl rfl 5 (by decide) (hts _ fl_X11_chalk_142) rfl rfl dX11_chalk_54 ?_
        refine z_imul hx hb dX11_chalk_57 ?_
        refine z_iconst hx hb dX11_chalk_58 ?_
        refine z_iadd hx hb dX11_chalk_59 ?_
        refine lv_iload_n hx hb dX11_chalk_60 rfl (lv_at hl 2 rfl) ?_
        refine z_iast hx hb hK hz 1 rfl (by omega) (by decide) dX11_chalk_61 (fun H locs hz => ?_)
        rw [chS_uc] at hz
        have hz : zH D (zF ws0) H0 [(md, .inr (9, [.ref bk, .ref nw, .ref nt, .int (zI T), .ref df, .int (zI cn), .ref chk, .int (zI ln), .ref pa, .int (zI wat), .int (zI who), .int (zI rs), .int (zI act), .int (zI fse), .ref rc, .ref qu, .ref ct, .ref ft, .ref wn, .ref wy, .ref nx, .ref im, .ref ik])), (chk, .inl (cI, 16, .inl (zA (chS (zU iyf cn y) (zU mkf cn c0)))))] H locs := hz
        refine lv_aload_n hx hb dX11_chalk_62 rfl (lv_at hl 0 rfl) ?_
        refine lv_dup hx hb dX11_chalk_63 rfl ?_
        refine z_get (C := RX11) (T := TX11) (N := 23) (ref := "HornCityModel") hx hb hts hin_X11_chalk_X11 hown hK hz 0 rfl rfl 5 (by decide) (hts _ fl_X11_chalk_142) rfl rfl dX11_chalk_64 ?_
        refine z_iconst hx hb dX11_chalk_67 ?_
        refine z_iadd hx hb dX11_chalk_68 ?_
        refine z_put (C := RX11) (T := TX11) (N := 23) (ref := "HornCityModel") (ty := .int) hx hb hts hin_X11_chalk_X11 hown hK hz tyX11 tyX11_ok nmX11 0 rfl rfl 5 (by decide) (hts _ fl_X11_chalk_142) rfl rfl (by decide +kernel) rfl rfl (Nat.le_of_ble_eq_true rfl) dX11_chalk_69 (fun H locs hz => ?_)
        have hz : zH D (zF ws0) H0 [(md, .inr (9, [.ref bk, .ref nw, .ref nt, .int (zI T), .ref df, .int (zI (cn + 1)), .ref chk, .int (zI ln), .ref pa, .int (zI wat), .int (zI who), .int (zI rs), .int (zI act), .int (zI fse), .ref rc, .ref qu, .ref ct, .ref ft, .ref wn, .ref wy, .ref nx, .ref im, .ref ik])), (chk, .inl (cI, 16, .inl (zA (chS (zU iyf cn y) (zU mkf cn c0)))))] H locs := hz
        refine lv_aload_n hx hb dX11_chalk_72 rfl (lv_at hl 0 rfl) ?_
        refine z_get (C := RX11) (T := TX11) (N := 23) (ref := "HornCityModel") hx hb hts hin_X11_chalk_X11 hown hK hz 0 rfl rfl 5 (by decide) (hts _ fl_X11_chalk_142) rfl rfl dX11_chalk_73 ?_
        exact hret (((cn + 1) : Int), (zU iyf cn y : Int → Int), (zU mkf cn c0 : Int → Int), ((cn + 1) : Int)) dX11_chalk_76 (show (cn + 1) = chR cn y c0 ∧ (zU iyf cn y) = chY iyf cn y c0 ∧ (zU mkf cn c0) = chM mkf cn y c0 ∧ (cn + 1) = chN cn y c0 from ⟨by unfold chR; rw [if_pos (by omega), if_pos (by omega)], by unfold chY; rw [if_pos (by omega)], by unfold chM; rw [if_pos (by omega)], by unfold chN; rw [if_pos (by omega)]⟩) hz
      ·
        refine z_bipush hx hb dX11_chalk_33 (by decide) ?_
        exact hret (((-4) : Int), (iyf : Int → Int), (mkf : Int → Int), (cn : Int)) dX11_chalk_35 (show (-4) = chR cn y c0 ∧ iyf = chY iyf cn y c0 ∧ mkf = chM mkf cn y c0 ∧ cn = chN cn y c0 from ⟨by unfold chR; rw [if_pos (by omega), if_neg (by omega)], by unfold chY; rw [if_neg (by omega)], by unfold chM; rw [if_neg (by omega)], by unfold chN; rw [if_neg (by omega)]⟩) hz
    ·
      refine z_bipush hx hb dX11_chalk_21 (by decide) ?_
      exact hret (((-2) : Int), (iyf : Int → Int), (mkf : Int → Int), (cn : Int)) dX11_chalk_23 (show (-2) = chR cn y c0 ∧ iyf = chY iyf cn y c0 ∧ mkf = chM mkf cn y c0 ∧ cn = chN cn y c0 from ⟨by unfold chR; rw [if_neg (by omega)], by unfold chY; rw [if_neg (by omega)], by unfold chM; rw [if_neg (by omega)], by unfold chN; rw [if_neg (by omega)]⟩) hz

set_option maxRecDepth 20000 in
theorem hin_X11_forget_X11 : ∀ w ∈ u_ws RX11 TX11 23, w ∈ wsX11_forget := by decide +kernel
set_option maxRecDepth 20000 in
theorem fl_X11_forget_142 : Cond.fieldLink RX11 142 "HornCityModel" "chalks" "I" ∈ wsX11_forget := by decide +kernel
set_option maxHeartbeats 4000000 in
set_option maxRecDepth 100000 in
theorem c_X11_forget (l : Launch) (D : va_G) (cI cJ cZ : ClassId) (md bk nw nt df chk pa rc qu ct ft wn wy nx im ik : Nat) (T cn ln wat who rs act fse : Int) : zMw l yX11_forget wsX11_forget (zRm 1) D cI cJ cZ [.ref md] [(md, .inr (9, [.ref bk, .ref nw, .ref nt, .int (zI T), .ref df, .int (zI cn), .ref chk, .int (zI ln), .ref pa, .int (zI wat), .int (zI who), .int (zI rs), .int (zI act), .int (zI fse), .ref rc, .ref qu, .ref ct, .ref ft, .ref wn, .ref wy, .ref nx, .ref im, .ref ik]))] (S := Int × Int) (fun u => u.1 = cn ∧ u.2 = 0) (fun u => some (.int (zI u.1))) (fun u => [(md, .inr (9, [.ref bk, .ref nw, .ref nt, .int (zI T), .ref df, .int (zI u.2), .ref chk, .int (zI ln), .ref pa, .int (zI wat), .int (zI who), .int (zI rs), .int (zI act), .int (zI fse), .ref rc, .ref qu, .ref ct, .ref ft, .ref wn, .ref wy, .ref nx, .ref im, .ref ik]))]) := by
  refine zMw_i (cc := cX11_forget) (maxL := 2) (by decide +kernel) rfl (Nat.le_of_ble_eq_true rfl) rfl (fun _ => rfl) ?_
  intro p e s m args below meth c Q H0 ls F hK hz hl hret
  obtain ⟨hx, hb, hml, hown0, hts⟩ := id F
  have hown : s.vm.findClass RX11 = some m.cls := hown0
  obtain ⟨ws0, hw0⟩ : ∃ w : va_W, w = [(md, .inr (9, [.ref bk, .ref nw, .ref nt, .int (zI T), .ref df, .int (zI cn), .ref chk, .int (zI ln), .ref pa, .int (zI wat), .int (zI who), .int (zI rs), .int (zI act), .int (zI fse), .ref rc, .ref qu, .ref ct, .ref ft, .ref wn, .ref wy, .ref nx, .ref im, .ref ik]))] := ⟨_, rfl⟩
  rw [← hw0] at hret
  have hz : zH D (zF ws0) H0 [(md, .inr (9, [.ref bk, .ref nw, .ref nt, .int (zI T), .ref df, .int (zI cn), .ref chk, .int (zI ln), .ref pa, .int (zI wat), .int (zI who), .int (zI rs), .int (zI act), .int (zI fse), .ref rc, .ref qu, .ref ct, .ref ft, .ref wn, .ref wy, .ref nx, .ref im, .ref ik]))] H0 [] := by rw [hw0]; exact hz
  have hl : lv_has ls 2 [(0, .ref md)] := hl
  refine lv_aload_n hx hb dX11_forget_0 rfl (lv_at hl 0 rfl) ?_
  refine z_get (C := RX11) (T := TX11) (N := 23) (ref := "HornCityModel") hx hb hts hin_X11_forget_X11 hown hK hz 0 rfl rfl 5 (by decide) (hts _ fl_X11_forget_142) rfl rfl dX11_forget_1 ?_
  refine lv_istore_n (lv' := [(1, .int (zI cn)), (0, .ref md)]) hx hb dX11_forget_4 rfl hl (Nat.le_of_ble_eq_true rfl) rfl (fun ls hl => ?_)
  refine lv_aload_n hx hb dX11_forget_5 rfl (lv_at hl 1 rfl) ?_
  refine z_iconst hx hb dX11_forget_6 ?_
  refine z_put (C := RX11) (T := TX11) (N := 23) (ref := "HornCityModel") (ty := .int) hx hb hts hin_X11_forget_X11 hown hK hz tyX11 tyX11_ok nmX11 0 rfl rfl 5 (by decide) (hts _ fl_X11_forget_142) rfl rfl (by decide +kernel) rfl rfl (Nat.le_of_ble_eq_true rfl) dX11_forget_7 (fun H locs hz => ?_)
  have hz : zH D (zF ws0) H0 [(md, .inr (9, [.ref bk, .ref nw, .ref nt, .int (zI T), .ref df, .int (zI 0), .ref chk, .int (zI ln), .ref pa, .int (zI wat), .int (zI who), .int (zI rs), .int (zI act), .int (zI fse), .ref rc, .ref qu, .ref ct, .ref ft, .ref wn, .ref wy, .ref nx, .ref im, .ref ik]))] H locs := hz
  refine lv_iload_n hx hb dX11_forget_10 rfl (lv_at hl 0 rfl) ?_
  exact hret ((cn : Int), (0 : Int)) dX11_forget_11 (show cn = cn ∧ 0 = 0 from ⟨rfl, rfl⟩) hz
