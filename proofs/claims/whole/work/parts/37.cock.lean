def wrS (m v : Int) : Int := if v < 0 then v + m else if v < m then v else v - m
theorem wrS_bd {m v : Int} (h : -1 ≤ v ∧ v ≤ m) (hm : 1 ≤ m) : 0 ≤ wrS m v ∧ wrS m v < m := by unfold wrS; split <;> (try split) <;> omega
def nxtS (m a b : Int) (w : Int → Int) (v : Int) : Int := w v * (10 - a - b) + w (wrS m (v - 1)) * a + w (wrS m (v + 1)) * b
def wysS (m p a b : Int) : Nat → Int → Int
  | 0 => fun v => if v = p then 1 else 0
  | n + 1 => nxtS m a b (wysS m p a b n)
theorem nxtS_cg {m a b : Int} {f g : Int → Int} (hm : 2 ≤ m) (h : ∀ v, 0 ≤ v → v < m → f v = g v) {v : Int} (hv : 0 ≤ v ∧ v < m) : nxtS m a b f v = nxtS m a b g v := by
  have h1 := wrS_bd (m := m) (v := v - 1) (by omega) (by omega)
  have h2 := wrS_bd (m := m) (v := v + 1) (by omega) (by omega)
  unfold nxtS
  rw [h v hv.1 hv.2, h _ h1.1 h1.2, h _ h2.1 h2.2]
theorem mulB {w B a : Int} (hw : 0 ≤ w ∧ w ≤ B) (ha : 0 ≤ a) : 0 ≤ w * a ∧ w * a ≤ B * a := ⟨Int.mul_nonneg hw.1 ha, Int.mul_le_mul_of_nonneg_right hw.2 ha⟩
theorem wysS_bd {m p a b : Int} (ha : 0 ≤ a) (hb : 0 ≤ b) (hab : a + b ≤ 10) : ∀ (n : Nat) (v : Int), 0 ≤ wysS m p a b n v ∧ wysS m p a b n v ≤ 10 ^ n
  | 0, v => by
    show 0 ≤ (if v = p then (1 : Int) else 0) ∧ (if v = p then (1 : Int) else 0) ≤ 1
    split <;> decide
  | n + 1, v => by
    have h1 := mulB (wysS_bd (m := m) (p := p) ha hb hab n v) (show 0 ≤ 10 - a - b by omega)
    have h2 := mulB (wysS_bd (m := m) (p := p) ha hb hab n (wrS m (v - 1))) ha
    have h3 := mulB (wysS_bd (m := m) (p := p) ha hb hab n (wrS m (v + 1))) hb
    have e : (10 : Int) ^ (n + 1) = 10 ^ n * (10 - a - b) + 10 ^ n * a + 10 ^ n * b := by
      rw [← Int.mul_add, ← Int.mul_add, Int.pow_succ]
      congr 1; omega
    show 0 ≤ nxtS m a b (wysS m p a b n) v ∧ nxtS m a b (wysS m p a b n) v ≤ _
    rw [e]
    unfold nxtS
    omega
def gcdZ (x y : Int) : Int := ((Nat.gcd x.toNat y.toNat : Nat) : Int)
theorem gcdZ_0 {x : Int} (h : 0 ≤ x) : gcdZ x 0 = x := by
  unfold gcdZ
  rw [show (0 : Int).toNat = 0 from rfl, Nat.gcd_zero_right]; omega
theorem gcdZ_s {x y : Int} (hx : 0 ≤ x) (hy : 0 < y) : gcdZ x y = gcdZ y (x % y) := by
  unfold gcdZ
  have e : (x % y).toNat = x.toNat % y.toNat := Int.toNat_emod hx (by omega)
  rw [e, Nat.gcd_comm x.toNat, Nat.gcd_rec y.toNat, Nat.gcd_comm]
theorem gcdZ_pos {x y : Int} (hx : 0 < x) : 0 < gcdZ x y := by
  unfold gcdZ
  have := Nat.gcd_pos_of_pos_left y.toNat (show 0 < x.toNat by omega)
  omega
theorem gcdZ_le {x y : Int} (hx : 0 < x) : gcdZ x y ≤ x := by
  unfold gcdZ
  have := Nat.gcd_le_left y.toNat (show 0 < x.toNat by omega)
  omega
/-- the search for the common divisor, k steps being left: it ends -/
def eucI (x y k : Int) : Prop := (0 ≤ y ∧ y < x ∧ x * y < 2 ^ k.toNat)
theorem euc_s {x y k : Int} (h : eucI x y k) (hk : 1 ≤ k) (hy : 0 < y) : eucI y (x % y) (k - 1) := by
  obtain ⟨h0, h1, h2⟩ := h
  have h3 := Int.emod_nonneg x (show y ≠ 0 by omega)
  have h4 := Int.emod_lt_of_pos x hy
  refine ⟨h3, h4, ?_⟩
  have e : k.toNat = (k - 1).toNat + 1 := by omega
  rw [e, Int.pow_succ] at h2
  have h5 : y + x % y ≤ x := by
    have h6 := Int.mul_ediv_add_emod x y
    have h7 : 1 ≤ x / y := by
      rw [Int.le_ediv_iff_mul_le hy]; omega
    have h8 : y * 1 ≤ y * (x / y) := Int.mul_le_mul_of_nonneg_left h7 (by omega)
    omega
  have h9 : (x % y + x % y) * y ≤ x * y := Int.mul_le_mul_of_nonneg_right (by omega) (by omega)
  have h10 : (x % y + x % y) * y = 2 * (y * (x % y)) := by rw [Int.add_mul, Int.mul_comm (x % y) y]; omega
  omega
theorem euc_0 {x y : Int} (hx : 0 ≤ x) (hy : 0 < y ∧ y ≤ 1000000000000000000) : eucI y (x % y) 999 := by
  have h3 := Int.emod_nonneg x (show y ≠ 0 by omega)
  have h4 := Int.emod_lt_of_pos x hy.1
  refine ⟨h3, h4, ?_⟩
  have h5 : y * (x % y) ≤ 1000000000000000000 * 1000000000000000000 := Int.le_trans (Int.mul_le_mul_of_nonneg_right hy.2 h3) (Int.mul_le_mul_of_nonneg_left (by omega) (by decide))
  have h6 : (1000000000000000000 * 1000000000000000000 : Int) < 2 ^ (999 : Int).toNat := by decide +kernel
  omega
theorem euc_end {x y : Int} (h : eucI x y 0) : y = 0 := by
  obtain ⟨h0, h1, h2⟩ := h
  have h3 : x * y < 1 := h2
  rcases (by omega : y = 0 ∨ 1 ≤ y) with h4 | h4
  · exact h4
  · have h5 : 1 * 1 ≤ x * y := Int.mul_le_mul (by omega) h4 (by decide) (by omega)
    omega
def cocS (m p a b : Int) (n : Nat) (q part : Int) : Int :=
  if part = 0 then wysS m p a b n q / gcdZ (10 ^ n) (wysS m p a b n q) else 10 ^ n / gcdZ (10 ^ n) (wysS m p a b n q)

set_option maxRecDepth 20000 in
theorem hin_X8_start_X8 : ∀ w ∈ u_ws RX8 TX8 4, w ∈ wsX8_start := by decide +kernel
set_option maxRecDepth 20000 in
theorem fl_X8_start_27 : Cond.fieldLink RX8 27 "HornCity$Weathercock" "points" "I" ∈ wsX8_start := by decide +kernel
set_option maxRecDepth 20000 in
theorem fl_X8_start_31 : Cond.fieldLink RX8 31 "HornCity$Weathercock" "all" "J" ∈ wsX8_start := by decide +kernel
set_option maxRecDepth 20000 in
theorem fl_X8_start_9 : Cond.fieldLink RX8 9 "HornCity$Weathercock" "ways" "[J" ∈ wsX8_start := by decide +kernel
set_option maxHeartbeats 4000000 in
set_option maxRecDepth 100000 in
theorem c_X8_start (l : Launch) (D : va_G) (cI cJ cZ : ClassId) (ck wy nx : Nat) (wyf : Int → Int) (pts al ring at0 : Int) (a2 : Int) (b2 : Int) (hrg : (2 ≤ ring ∧ ring ≤ 12) ∧ 0 ≤ at0 ∧ at0 < ring) : zMw l yX8_start wsX8_start (zRm 1) D cI cJ cZ [.ref ck, .int (zI ring), .int (zI at0)] [(ck, .inr (6, [.ref wy, .ref nx, .int (zI pts), .long (zL al)])), (wy, .inl (cJ, 12, .inr (.inl (zAL wyf))))] (S := (Int → Int) × Int × Int) (fun u => u.2.1 = ring ∧ u.2.2 = 1 ∧ (∀ v, 0 ≤ v → v < ring → u.1 v = wysS ring at0 a2 b2 0 v)) (fun _ => none) (fun u => [(ck, .inr (6, [.ref wy, .ref nx, .int (zI u.2.1), .long (zL u.2.2)])), (wy, .inl (cJ, 12, .inr (.inl (zAL u.1))))]) := by
  refine zMw_v (cc := cX8_start) (maxL := 4) (by decide +kernel) rfl (Nat.le_of_ble_eq_true rfl) rfl (fun _ => rfl) ?_
  intro p e s m args below meth c Q H0 ls F hK hz hl hret
  obtain ⟨hx, hb, hml, hown0, hts⟩ := id F
  have hown : s.vm.findClass RX8 = some m.cls := hown0
  obtain ⟨ws0, hw0⟩ : ∃ w : va_W, w = [(ck, .inr (6, [.ref wy, .ref nx, .int (zI pts), .long (zL al)])), (wy, .inl (cJ, 12, .inr (.inl (zAL wyf))))] := ⟨_, rfl⟩
  rw [← hw0] at hret
  have hz : zH D (zF ws0) H0 [(ck, .inr (6, [.ref wy, .ref nx, .int (zI pts), .long (zL al)])), (wy, .inl (cJ, 12, .inr (.inl (zAL wyf))))] H0 [] := by rw [hw0]; exact hz
  have hl : lv_has ls 4 [(0, .ref ck), (1, .int (zI ring)), (2, .int (zI at0))] := hl
  refine lv_aload_n hx hb dX8_start_0 rfl (lv_at hl 0 rfl) ?_
  refine lv_iload_n hx hb dX8_start_1 rfl (lv_at hl 1 rfl) ?_
  refine z_iconst hx hb dX8_start_2 ?_
  refine z_mmax hx hb hl.1 hml hown (hts (.methodLink RX8 18 Lib.Math.max.name) (by decide +kernel)) (hts (.static Lib.Math.max.name) (by decide +kernel)) (hts (.initialized "java/lang/Math") (by decide +kernel)) (hts (.code Lib.Math.max.name Lib.Math.max.code 2 (some .int)) (by decide +kernel)) (Nat.le_of_ble_eq_true rfl) (Nat.le_of_ble_eq_true rfl) ⟨Nat.le_of_ble_eq_true rfl, Nat.le_of_ble_eq_true rfl⟩ (by omega) (by decide) dX8_start_3 ?_
  refine z_bipush hx hb dX8_start_6 (by decide) ?_
  refine z_mmin hx hb hl.1 hml hown (hts (.methodLink RX8 24 Lib.Math.min.name) (by decide +kernel)) (hts (.static Lib.Math.min.name) (by decide +kernel)) (hts (.initialized "java/lang/Math") (by decide +kernel)) (hts (.code Lib.Math.min.name Lib.Math.min.code 2 (some .int)) (by decide +kernel)) (Nat.le_of_ble_eq_true rfl) (Nat.le_of_ble_eq_true rfl) ⟨Nat.le_of_ble_eq_true rfl, Nat.le_of_ble_eq_true rfl⟩ (by omega) (by decide) dX8_start_8 ?_
  refine z_put (C := RX8) (T := TX8) (N := 4) (ref := "HornCity$Weathercock") (ty := .int) hx hb hts hin_X8_start_X8 hown hK hz tyX8 tyX8_ok nmX8 0 rfl rfl 2 (by decide) (hts _ fl_X8_start_27) rfl rfl (by decide +kernel) rfl rfl (Nat.le_of_ble_eq_true rfl) dX8_start_11 (fun H locs hz => ?_)
  have hz : zH D (zF ws0) H0 [(ck, .inr (6, [.ref wy, .ref nx, .int (zI (min (max ring 2) 12)), .long (zL al)])), (wy, .inl (cJ, 12, .inr (.inl (zAL wyf))))] H locs := hz
  refine lv_aload_n hx hb dX8_start_14 rfl (lv_at hl 0 rfl) ?_
  refine z_lconst hx hb (n := 1) dX8_start_15 rfl ?_
  refine z_put (C := RX8) (T := TX8) (N := 4) (ref := "HornCity$Weathercock") (ty := .long) hx hb hts hin_X8_start_X8 hown hK hz tyX8 tyX8_ok nmX8 0 rfl rfl 3 (by decide) (hts _ fl_X8_start_31) rfl rfl (by decide +kernel) rfl rfl (Nat.le_of_ble_eq_true rfl) dX8_start_16 (fun H locs hz => ?_)
  have hz : zH D (zF ws0) H0 [(ck, .inr (6, [.ref wy, .ref nx, .int (zI (min (max ring 2) 12)), .long (zL 1)])), (wy, .inl (cJ, 12, .inr (.inl (zAL wyf))))] H locs := hz
  refine z_iconst hx hb dX8_start_19 ?_
  refine lv_istore_n (lv' := [(3, .int (zI 0)), (0, .ref ck), (1, .int (zI ring)), (2, .int (zI at0))]) hx hb dX8_start_20 rfl hl (Nat.le_of_ble_eq_true rfl) rfl (fun ls hl => ?_)
  have L21 : ∀ (n : Nat) (i : Int) (wx : Int → Int) (H : Heap) (locs : List Loc) (ls : Array Slot), ((12 - i).toNat = n) → (0 ≤ i ∧ i ≤ ring) → (∀ j, 0 ≤ j → j < i → wx j = wysS ring at0 a2 b2 0 j) → zH D (zF ws0) H0 [(ck, .inr (6, [.ref wy, .ref nx, .int (zI (min (max ring 2) 12)), .long (zL 1)])), (wy, .inl (cJ, 12, .inr (.inl (zAL wx))))] H locs → lv_has ls 4 [(3, .int (zI i)), (0, .ref ck), (1, .int (zI ring)), (2, .int (zI at0))] → W p l e (zRm 1) s m args below meth c H locs 0 0 Q (F0 m 21 ls []) := by
    intro n
    refine Nat.strongRecOn n ?_
    intro n ih21 i wx H locs ls hn21 h0 hwx hz hl
    refine lv_iload_n hx hb dX8_start_21 rfl (lv_at hl 0 rfl) ?_
    refine lv_aload_n hx hb dX8_start_22 rfl (lv_at hl 1 rfl) ?_
    refine z_get (C := RX8) (T := TX8) (N := 4) (ref := "HornCity$Weathercock") hx hb hts hin_X8_start_X8 hown hK hz 0 rfl rfl 2 (by decide) (hts _ fl_X8_start_27) rfl rfl dX8_start_23 ?_
    refine z_icmp_ge (tgt := 51) hx hb dX8_start_26 (by decide) (by omega) (by omega) (fun h26 => ?_) (fun h26 => ?_)
    ·
      exact hret ((wx : Int → Int), ((min (max ring 2) 12) : Int), (1 : Int)) dX8_start_51 (show (min (max ring 2) 12) = ring ∧ 1 = 1 ∧ (∀ v, 0 ≤ v → v < ring → wx v = wysS ring at0 a2 b2 0 v) from ⟨by omega, rfl, fun v h1 h2 => hwx v h1 (by omega)⟩) hz
    ·
      refine lv_aload_n hx hb dX8_start_29 rfl (lv_at hl 1 rfl) ?_
      refine z_get (C := RX8) (T := TX8) (N := 4) (ref := "HornCity$Weathercock") hx hb hts hin_X8_start_X8 hown hK hz 0 rfl rfl 0 (by decide) (hts _ fl_X8_start_9) rfl rfl dX8_start_30 ?_
      refine lv_iload_n hx hb dX8_start_33 rfl (lv_at hl 0 rfl) ?_
      refine lv_iload_n hx hb dX8_start_34 rfl (lv_at hl 0 rfl) ?_
      refine lv_iload_n hx hb dX8_start_35 rfl (lv_at hl 3 rfl) ?_
      refine z_icmp_ne (tgt := 43) hx hb dX8_start_36 (by decide) (by omega) (by omega) (fun h36 => ?_) (fun h36 => ?_)
      ·
        refine z_lconst hx hb (n := 0) dX8_start_43 rfl ?_
        refine z_last hx hb hK hz 1 rfl (by omega) (by decide) dX8_start_44 (fun H locs hz => ?_)
        have hz : zH D (zF ws0) H0 [(ck, .inr (6, [.ref wy, .ref nx, .int (zI (min (max ring 2) 12)), .long (zL 1)])), (wy, .inl (cJ, 12, .inr (.inl (zAL (zU wx i 0)))))] H locs := hz
        refine z_iinc (lv' := [(3, .int (zI (i + 1))), (0, .ref ck), (1, .int (zI ring)), (2, .int (zI at0))]) hx hb dX8_start_45 hl (k := 0) rfl (Nat.le_of_ble_eq_true rfl) rfl (fun ls hl => ?_)
        refine lv_goto (tgt := 21) hx hb dX8_start_48 (by decide) ?_
        exact ih21 _ (by omega) (i + 1) (zU wx i 0) H locs ls rfl (by omega) (by have e9 : wysS ring at0 a2 b2 0 i = 0 := if_neg h36; have h9 := zU_cp hwx; rw [e9] at h9; exact h9) hz (lv_sub hl [0, 1, 2, 3] rfl)
      ·
        refine z_lconst hx hb (n := 1) dX8_start_39 rfl ?_
        refine lv_goto (tgt := 44) hx hb dX8_start_40 (by decide) ?_
        refine z_last hx hb hK hz 1 rfl (by omega) (by decide) dX8_start_44 (fun H locs hz => ?_)
        have hz : zH D (zF ws0) H0 [(ck, .inr (6, [.ref wy, .ref nx, .int (zI (min (max ring 2) 12)), .long (zL 1)])), (wy, .inl (cJ, 12, .inr (.inl (zAL (zU wx i 1)))))] H locs := hz
        refine z_iinc (lv' := [(3, .int (zI (i + 1))), (0, .ref ck), (1, .int (zI ring)), (2, .int (zI at0))]) hx hb dX8_start_45 hl (k := 0) rfl (Nat.le_of_ble_eq_true rfl) rfl (fun ls hl => ?_)
        refine lv_goto (tgt := 21) hx hb dX8_start_48 (by decide) ?_
        exact ih21 _ (by omega) (i + 1) (zU wx i 1) H locs ls rfl (by omega) (by have e9 : wysS ring at0 a2 b2 0 i = 1 := if_pos h36; have h9 := zU_cp hwx; rw [e9] at h9; exact h9) hz (lv_sub hl [0, 1, 2, 3] rfl)
  exact L21 _ 0 wyf H locs ls rfl (by omega) (fun j h1 h2 => absurd h1 (by omega)) hz (lv_sub hl [0, 1, 2, 3] rfl)

set_option maxRecDepth 20000 in
theorem hin_X8_waysTo_X8 : ∀ w ∈ u_ws RX8 TX8 4, w ∈ wsX8_waysTo := by decide +kernel
set_option maxRecDepth 20000 in
theorem fl_X8_waysTo_27 : Cond.fieldLink RX8 27 "HornCity$Weathercock" "points" "I" ∈ wsX8_waysTo := by decide +kernel
set_option maxRecDepth 20000 in
theorem fl_X8_waysTo_9 : Cond.fieldLink RX8 9 "HornCity$Weathercock" "ways" "[J" ∈ wsX8_waysTo := by decide +kernel
set_option maxHeartbeats 4000000 in
set_option maxRecDepth 100000 in
theorem c_X8_waysTo (l : Launch) (D : va_G) (cI cJ cZ : ClassId) (ck wy nx : Nat) (wyf : Int → Int) (pts al pt : Int) (hpts : 2 ≤ pts ∧ pts ≤ 12) (hpt : -1 ≤ pt ∧ pt ≤ pts) : zMp l yX8_waysTo wsX8_waysTo (zRm 0) D cI cJ cZ [.ref ck, .int (zI pt)] [(ck, .inr (6, [.ref wy, .ref nx, .int (zI pts), .long (zL al)])), (wy, .inl (cJ, 12, .inr (.inl (zAL wyf))))] (some (.long (zL (wyf (wrS pts pt))))) := by
  refine zMp_l (cc := cX8_waysTo) (maxL := 3) (by decide +kernel) rfl (Nat.le_of_ble_eq_true rfl) rfl ?_
  intro p e s m args below meth c Q H ls F hK hz hl hret
  obtain ⟨hx, hb, hml, hown0, hts⟩ := id F
  have hown : s.vm.findClass RX8 = some m.cls := hown0
  obtain ⟨ws0, hw0⟩ : ∃ w : va_W, w = [(ck, .inr (6, [.ref wy, .ref nx, .int (zI pts), .long (zL al)])), (wy, .inl (cJ, 12, .inr (.inl (zAL wyf))))] := ⟨_, rfl⟩
  have hz : zH D (zF ws0) H [(ck, .inr (6, [.ref wy, .ref nx, .int (zI pts), .long (zL al)])), (wy, .inl (cJ, 12, .inr (.inl (zAL wyf))))] H [] := by rw [hw0]; exact hz
  have hl : lv_has ls 3 [(0, .ref ck), (1, .int (zI pt))] := hl
  refine lv_iload_n hx hb dX8_waysTo_0 rfl (lv_at hl 1 rfl) ?_
  refine z_if_ge (tgt := 13) hx hb dX8_waysTo_1 (by decide) (by omega) (fun h1 => ?_) (fun h1 => ?_)
  ·
    refine lv_iload_n hx hb dX8_waysTo_13 rfl (lv_at hl 1 rfl) ?_
    refine lv_aload_n hx hb dX8_waysTo_14 rfl (lv_at hl 0 rfl) ?_
    refine z_get (C := RX8) (T := TX8) (N := 4) (ref := "HornCity$Weathercock") hx hb hts hin_X8_waysTo_X8 hown hK hz 0 rfl rfl 2 (by decide) (hts _ fl_X8_waysTo_27) rfl rfl dX8_waysTo_15 ?_
    refine z_icmp_lt (tgt := 30) hx hb dX8_waysTo_18 (by decide) (by omega) (by omega) (fun h18 => ?_) (fun h18 => ?_)
    ·
      refine lv_iload_n hx hb dX8_waysTo_30 rfl (lv_at hl 1 rfl) ?_
      refine lv_istore_n (lv' := [(2, .int (zI pt)), (0, .ref ck), (1, .int (zI pt))]) hx hb dX8_waysTo_31 rfl hl (Nat.le_of_ble_eq_true rfl) rfl (fun ls hl => ?_)
      refine lv_iload_n hx hb dX8_waysTo_32 rfl (lv_at hl 0 rfl) ?_
      refine z_if_lt (tgt := 51) hx hb dX8_waysTo_33 (by decide) (by omega) (fun h33 => ?_) (fun h33 => ?_)
      ·
        exfalso
        first | omega | (revert h33; simp_all; done) | simp_all
      ·
        refine lv_iload_n hx hb dX8_waysTo_36 rfl (lv_at hl 0 rfl) ?_
        refine z_bipush hx hb dX8_waysTo_37 (by decide) ?_
        refine z_icmp_ge (tgt := 51) hx hb dX8_waysTo_39 (by decide) (by omega) (by decide) (fun h39 => ?_) (fun h39 => ?_)
        ·
          refine z_lconst hx hb (n := 0) dX8_waysTo_51 rfl ?_
          exact hret dX8_waysTo_52 (congrArg (fun z => some (Value.long (zL z))) (show (0 : Int) = (wyf (wrS pts pt)) by exfalso; omega))
        ·
          refine lv_aload_n hx hb dX8_waysTo_42 rfl (lv_at hl 1 rfl) ?_
          refine z_get (C := RX8) (T := TX8) (N := 4) (ref := "HornCity$Weathercock") hx hb hts hin_X8_waysTo_X8 hown hK hz 0 rfl rfl 0 (by decide) (hts _ fl_X8_waysTo_9) rfl rfl dX8_waysTo_43 ?_
          refine lv_iload_n hx hb dX8_waysTo_46 rfl (lv_at hl 0 rfl) ?_
          refine z_lald hx hb hK hz 1 rfl (by omega) (by decide) dX8_waysTo_47 ?_
          refine lv_goto (tgt := 52) hx hb dX8_waysTo_48 (by decide) ?_
          exact hret dX8_waysTo_52 (congrArg (fun z => some (Value.long (zL z))) (show ((wyf pt) : Int) = (wyf (wrS pts pt)) by exact congrArg wyf (show _ = wrS pts pt by unfold wrS; first | rw [if_pos (by omega)] | rw [if_neg (by omega), if_pos (by omega)] | rw [if_neg (by omega), if_neg (by omega)])))
    ·
      refine lv_iload_n hx hb dX8_waysTo_21 rfl (lv_at hl 1 rfl) ?_
      refine lv_aload_n hx hb dX8_waysTo_22 rfl (lv_at hl 0 rfl) ?_
      refine z_get (C := RX8) (T := TX8) (N := 4) (ref := "HornCity$Weathercock") hx hb hts hin_X8_waysTo_X8 hown hK hz 0 rfl rfl 2 (by decide) (hts _ fl_X8_waysTo_27) rfl rfl dX8_waysTo_23 ?_
      refine z_isub hx hb dX8_waysTo_26 ?_
      refine lv_goto (tgt := 31) hx hb dX8_waysTo_27 (by decide) ?_
      refine lv_istore_n (lv' := [(2, .int (zI (pt - pts))), (0, .ref ck), (1, .int (zI pt))]) hx hb dX8_waysTo_31 rfl hl (Nat.le_of_ble_eq_true rfl) rfl (fun ls hl => ?_)
      refine lv_iload_n hx hb dX8_waysTo_32 rfl (lv_at hl 0 rfl) ?_
      refine z_if_lt (tgt := 51) hx hb dX8_waysTo_33 (by decide) (by omega) (fun h33 => ?_) (fun h33 => ?_)
      ·
        refine z_lconst hx hb (n := 0) dX8_waysTo_51 rfl ?_
        exact hret dX8_waysTo_52 (congrArg (fun z => some (Value.long (zL z))) (show (0 : Int) = (wyf (wrS pts pt)) by exfalso; omega))
      ·
        refine lv_iload_n hx hb dX8_waysTo_36 rfl (lv_at hl 0 rfl) ?_
        refine z_bipush hx hb dX8_waysTo_37 (by decide) ?_
        refine z_icmp_ge (tgt := 51) hx hb dX8_waysTo_39 (by decide) (by omega) (by decide) (fun h39 => ?_) (fun h39 => ?_)
        ·
          refine z_lconst hx hb (n := 0) dX8_waysTo_51 rfl ?_
          exact hret dX8_waysTo_52 (congrArg (fun z => some (Value.long (zL z))) (show (0 : Int) = (wyf (wrS pts pt)) by exfalso; omega))
        ·
          refine lv_aload_n hx hb dX8_waysTo_42 rfl (lv_at hl 1 rfl) ?_
          refine z_get (C := RX8) (T := TX8) (N := 4) (ref := "HornCity$Weathercock") hx hb hts hin_X8_waysTo_X8 hown hK hz 0 rfl rfl 0 (by decide) (hts _ fl_X8_waysTo_9) rfl rfl dX8_waysTo_43 ?_
          refine lv_iload_n hx hb dX8_waysTo_46 rfl (lv_at hl 0 rfl) ?_
          refine z_lald hx hb hK hz 1 rfl (by omega) (by decide) dX8_waysTo_47 ?_
          refine lv_goto (tgt := 52) hx hb dX8_waysTo_48 (by decide) ?_
          exact hret dX8_waysTo_52 (congrArg (fun z => some (Value.long (zL z))) (show ((wyf (pt - pts)) : Int) = (wyf (wrS pts pt)) by exact congrArg wyf (show _ = wrS pts pt by unfold wrS; first | rw [if_pos (by omega)] | rw [if_neg (by omega), if_pos (by omega)] | rw [if_neg (by omega), if_neg (by omega)])))
  ·
    refine lv_iload_n hx hb dX8_waysTo_4 rfl (lv_at hl 1 rfl) ?_
    refine lv_aload_n hx hb dX8_waysTo_5 rfl (lv_at hl 0 rfl) ?_
    refine z_get (C := RX8) (T := TX8) (N := 4) (ref := "HornCity$Weathercock") hx hb hts hin_X8_waysTo_X8 hown hK hz 0 rfl rfl 2 (by decide) (hts _ fl_X8_waysTo_27) rfl rfl dX8_waysTo_6 ?_
    refine z_iadd hx hb dX8_waysTo_9 ?_
    refine lv_goto (tgt := 31) hx hb dX8_waysTo_10 (by decide) ?_
    refine lv_istore_n (lv' := [(2, .int (zI (pt + pts))), (0, .ref ck), (1, .int (zI pt))]) hx hb dX8_waysTo_31 rfl hl (Nat.le_of_ble_eq_true rfl) rfl (fun ls hl => ?_)
    refine lv_iload_n hx hb dX8_waysTo_32 rfl (lv_at hl 0 rfl) ?_
    refine z_if_lt (tgt := 51) hx hb dX8_waysTo_33 (by decide) (by omega) (fun h33 => ?_) (fun h33 => ?_)
    ·
      refine z_lconst hx hb (n := 0) dX8_waysTo_51 rfl ?_
      exact hret dX8_waysTo_52 (congrArg (fun z => some (Value.long (zL z))) (show (0 : Int) = (wyf (wrS pts pt)) by exfalso; omega))
    ·
      refine lv_iload_n hx hb dX8_waysTo_36 rfl (lv_at hl 0 rfl) ?_
      refine z_bipush hx hb dX8_waysTo_37 (by decide) ?_
      refine z_icmp_ge (tgt := 51) hx hb dX8_waysTo_39 (by decide) (by omega) (by decide) (fun h39 => ?_) (fun h39 => ?_)
      ·
        refine z_lconst hx hb (n := 0) dX8_waysTo_51 rfl ?_
        exact hret dX8_waysTo_52 (congrArg (fun z => some (Value.long (zL z))) (show (0 : Int) = (wyf (wrS pts pt)) by exfalso; omega))
      ·
        refine lv_aload_n hx hb dX8_waysTo_42 rfl (lv_at hl 1 rfl) ?_
        refine z_get (C := RX8) (T := TX8) (N := 4) (ref := "HornCity$Weathercock") hx hb hts hin_X8_waysTo_X8 hown hK hz 0 rfl rfl 0 (by decide) (hts _ fl_X8_waysTo_9) rfl rfl dX8_waysTo_43 ?_
        refine lv_iload_n hx hb dX8_waysTo_46 rfl (lv_at hl 0 rfl) ?_
        refine z_lald hx hb hK hz 1 rfl (by omega) (by decide) dX8_waysTo_47 ?_
        refine lv_goto (tgt := 52) hx hb dX8_waysTo_48 (by decide) ?_
        exact hret dX8_waysTo_52 (congrArg (fun z => some (Value.long (zL z))) (show ((wyf (pt + pts)) : Int) = (wyf (wrS pts pt)) by exact congrArg wyf (show _ = wrS pts pt by unfold wrS; first | rw [if_pos (by omega)] | rw [if_neg (by omega), if_pos (by omega)] | rw [if_neg (by omega), if_neg (by omega)])))

set_option maxRecDepth 20000 in
theorem hin_X8_turn_X8 : ∀ w ∈ u_ws RX8 TX8 4, w ∈ wsX8_turn := by decide +kernel
set_option maxRecDepth 20000 in
theorem fl_X8_turn_27 : Cond.fieldLink RX8 27 "HornCity$Weathercock" "points" "I" ∈ wsX8_turn := by decide +kernel
set_option maxRecDepth 20000 in
theorem fl_X8_turn_31 : Cond.fieldLink RX8 31 "HornCity$Weathercock" "all" "J" ∈ wsX8_turn := by decide +kernel
set_option maxRecDepth 20000 in
theorem fl_X8_turn_9 : Cond.fieldLink RX8 9 "HornCity$Weathercock" "ways" "[J" ∈ wsX8_turn := by decide +kernel
set_option maxRecDepth 20000 in
theorem fl_X8_turn_15 : Cond.fieldLink RX8 15 "HornCity$Weathercock" "next" "[J" ∈ wsX8_turn := by decide +kernel
set_option maxHeartbeats 4000000 in
set_option maxRecDepth 100000 in
theorem c_X8_turn (l : Launch) (D : va_G) (cI cJ cZ : ClassId) (ck wy nx : Nat) (wyf nxf : Int → Int) (pts al a b : Int) (hpts : 2 ≤ pts ∧ pts ≤ 12) (hab : 0 ≤ a ∧ 0 ≤ b ∧ a + b ≤ 10) : zMw l yX8_turn wsX8_turn (zRm 1) D cI cJ cZ [.ref ck, .int (zI a), .int (zI b)] [(ck, .inr (6, [.ref wy, .ref nx, .int (zI pts), .long (zL al)])), (wy, .inl (cJ, 12, .inr (.inl (zAL wyf)))), (nx, .inl (cJ, 12, .inr (.inl (zAL nxf))))] (S := (Int → Int) × (Int → Int) × Int) (fun u => u.2.2 = al * 10 ∧ (∀ v, 0 ≤ v → v < pts → u.1 v = nxtS pts a b wyf v)) (fun _ => none) (fun u => [(ck, .inr (6, [.ref wy, .ref nx, .int (zI pts), .long (zL u.2.2)])), (wy, .inl (cJ, 12, .inr (.inl (zAL u.1)))), (nx, .inl (cJ, 12, .inr (.inl (zAL u.2.1))))]) := by
  refine zMw_v (cc := cX8_turn) (maxL := 4) (by decide +kernel) rfl (Nat.le_of_ble_eq_true rfl) rfl (fun _ => rfl) ?_
  intro p e s m args below meth c Q H0 ls F hK hz hl hret
  obtain ⟨hx, hb, hml, hown0, hts⟩ := id F
  have hown : s.vm.findClass RX8 = some m.cls := hown0
  obtain ⟨ws0, hw0⟩ : ∃ w : va_W, w = [(ck, .inr (6, [.ref wy, .ref nx, .int (zI pts), .long (zL al)])), (wy, .inl (cJ, 12, .inr (.inl (zAL wyf)))), (nx, .inl (cJ, 12, .inr (.inl (zAL nxf))))] := ⟨_, rfl⟩
  rw [← hw0] at hret
  have hz : zH D (zF ws0) H0 [(ck, .inr (6, [.ref wy, .ref nx, .int (zI pts), .long (zL al)])), (wy, .inl (cJ, 12, .inr (.inl (zAL wyf)))), (nx, .inl (cJ, 12, .inr (.inl (zAL nxf))))] H0 [] := by rw [hw0]; exact hz
  have hl : lv_has ls 4 [(0, .ref ck), (1, .int (zI a)), (2, .int (zI b))] := hl
  refine z_iconst hx hb dX8_turn_0 ?_
  refine lv_istore_n (lv' := [(3, .int (zI 0)), (0, .ref ck), (1, .int (zI a)), (2, .int (zI b))]) hx hb dX8_turn_1 rfl hl (Nat.le_of_ble_eq_true rfl) rfl (fun ls hl => ?_)
  have L2 : ∀ (n : Nat) (i : Int) (nxx : Int → Int) (H : Heap) (locs : List Loc) (ls : Array Slot), ((12 - i).toNat = n) → (0 ≤ i ∧ i ≤ pts) → (∀ j, 0 ≤ j → j < i → nxx j = nxtS pts a b wyf j) → zH D (zF ws0) H0 [(ck, .inr (6, [.ref wy, .ref nx, .int (zI pts), .long (zL al)])), (wy, .inl (cJ, 12, .inr (.inl (zAL wyf)))), (nx, .inl (cJ, 12, .inr (.inl (zAL nxx))))] H locs → lv_has ls 4 [(3, .int (zI i)), (0, .ref ck), (1, .int (zI a)), (2, .int (zI b))] → W p l e (zRm 1) s m args below meth c H locs 0 0 Q (F0 m 2 ls []) := by
    intro n
    refine Nat.strongRecOn n ?_
    intro n ih2 i nxx H locs ls hn2 h0 hnx hz hl
    refine lv_iload_n hx hb dX8_turn_2 rfl (lv_at hl 0 rfl) ?_
    refine lv_aload_n hx hb dX8_turn_3 rfl (lv_at hl 1 rfl) ?_
    refine z_get (C := RX8) (T := TX8) (N := 4) (ref := "HornCity$Weathercock") hx hb hts hin_X8_turn_X8 hown hK hz 0 rfl rfl 2 (by decide) (hts _ fl_X8_turn_27) rfl rfl dX8_turn_4 ?_
    refine z_icmp_ge (tgt := 63) hx hb dX8_turn_7 (by decide) (by omega) (by omega) (fun h7 => ?_) (fun h7 => ?_)
    ·
      refine z_iconst hx hb dX8_turn_63 ?_
      refine lv_istore_n (lv' := [(3, .int (zI 0)), (0, .ref ck), (1, .int (zI a)), (2, .int (zI b))]) hx hb dX8_turn_64 rfl hl (Nat.le_of_ble_eq_true rfl) rfl (fun ls hl => ?_)
      have L65 : ∀ (n : Nat) (i : Int) (wyx : Int → Int) (H : Heap) (locs : List Loc) (ls : Array Slot), ((12 - i).toNat = n) → (0 ≤ i ∧ i ≤ pts) → (∀ j, 0 ≤ j → j < i → wyx j = nxtS pts a b wyf j) → zH D (zF ws0) H0 [(ck, .inr (6, [.ref wy, .ref nx, .int (zI pts), .long (zL al)])), (wy, .inl (cJ, 12, .inr (.inl (zAL wyx)))), (nx, .inl (cJ, 12, .inr (.inl (zAL nxx))))] H locs → lv_has ls 4 [(3, .int (zI i)), (0, .ref ck), (1, .int (zI a)), (2, .int (zI b))] → W p l e (zRm 1) s m args below meth c H locs 0 0 Q (F0 m 65 ls []) := by
        intro n
        refine Nat.strongRecOn n ?_
        intro n ih65 i wyx H locs ls hn65 h0b hwy hz hl
        refine lv_iload_n hx hb dX8_turn_65 rfl (lv_at hl 0 rfl) ?_
        refine lv_aload_n hx hb dX8_turn_66 rfl (lv_at hl 1 rfl) ?_
        refine z_get (C := RX8) (T := TX8) (N := 4) (ref := "HornCity$Weathercock") hx hb hts hin_X8_turn_X8 hown hK hz 0 rfl rfl 2 (by decide) (hts _ fl_X8_turn_27) rfl rfl dX8_turn_67 ?_
        refine z_icmp_ge (tgt := 97) hx hb dX8_turn_70 (by decide) (by omega) (by omega) (fun h70 => ?_) (fun h70 => ?_)
        ·
          refine lv_aload_n hx hb dX8_turn_97 rfl (lv_at hl 1 rfl) ?_
          refine lv_dup hx hb dX8_turn_98 rfl ?_
          refine z_get (C := RX8) (T := TX8) (N := 4) (ref := "HornCity$Weathercock") hx hb hts hin_X8_turn_X8 hown hK hz 0 rfl rfl 3 (by decide) (hts _ fl_X8_turn_31) rfl rfl dX8_turn_99 ?_
          refine z_ldc2 (n := 10) hx hb hown (hts (.constantLong RX8 39 10) (by decide +kernel)) (by decide +kernel) dX8_turn_102 ?_
          refine z_lmul hx hb dX8_turn_105 ?_
          refine z_put (C := RX8) (T := TX8) (N := 4) (ref := "HornCity$Weathercock") (ty := .long) hx hb hts hin_X8_turn_X8 hown hK hz tyX8 tyX8_ok nmX8 0 rfl rfl 3 (by decide) (hts _ fl_X8_turn_31) rfl rfl (by decide +kernel) rfl rfl (Nat.le_of_ble_eq_true rfl) dX8_turn_106 (fun H locs hz => ?_)
          have hz : zH D (zF ws0) H0 [(ck, .inr (6, [.ref wy, .ref nx, .int (zI pts), .long (zL (al * 10))])), (wy, .inl (cJ, 12, .inr (.inl (zAL wyx)))), (nx, .inl (cJ, 12, .inr (.inl (zAL nxx))))] H locs := hz
          exact hret ((wyx : Int → Int), (nxx : Int → Int), ((al * 10) : Int)) dX8_turn_109 (show (al * 10) = al * 10 ∧ (∀ v, 0 ≤ v → v < pts → wyx v = nxtS pts a b wyf v) from ⟨rfl, fun v h1 h2 => hwy v h1 (by omega)⟩) hz
        ·
          refine lv_iload_n hx hb dX8_turn_73 rfl (lv_at hl 0 rfl) ?_
          refine z_bipush hx hb dX8_turn_74 (by decide) ?_
          refine z_icmp_ge (tgt := 97) hx hb dX8_turn_76 (by decide) (by omega) (by decide) (fun h76 => ?_) (fun h76 => ?_)
          ·
            refine lv_aload_n hx hb dX8_turn_97 rfl (lv_at hl 1 rfl) ?_
            refine lv_dup hx hb dX8_turn_98 rfl ?_
            refine z_get (C := RX8) (T := TX8) (N := 4) (ref := "HornCity$Weathercock") hx hb hts hin_X8_turn_X8 hown hK hz 0 rfl rfl 3 (by decide) (hts _ fl_X8_turn_31) rfl rfl dX8_turn_99 ?_
            refine z_ldc2 (n := 10) hx hb hown (hts (.constantLong RX8 39 10) (by decide +kernel)) (by decide +kernel) dX8_turn_102 ?_
            refine z_lmul hx hb dX8_turn_105 ?_
            refine z_put (C := RX8) (T := TX8) (N := 4) (ref := "HornCity$Weathercock") (ty := .long) hx hb hts hin_X8_turn_X8 hown hK hz tyX8 tyX8_ok nmX8 0 rfl rfl 3 (by decide) (hts _ fl_X8_turn_31) rfl rfl (by decide +kernel) rfl rfl (Nat.le_of_ble_eq_true rfl) dX8_turn_106 (fun H locs hz => ?_)
            have hz : zH D (zF ws0) H0 [(ck, .inr (6, [.ref wy, .ref nx, .int (zI pts), .long (zL (al * 10))])), (wy, .inl (cJ, 12, .inr (.inl (zAL wyx)))), (nx, .inl (cJ, 12, .inr (.inl (zAL nxx))))] H locs := hz
            exact hret ((wyx : Int → Int), (nxx : Int → Int), ((al * 10) : Int)) dX8_turn_109 (show (al * 10) = al * 10 ∧ (∀ v, 0 ≤ v → v < pts → wyx v = nxtS pts a b wyf v) from ⟨rfl, fun v h1 h2 => hwy v h1 (by omega)⟩) hz
          ·
            refine lv_aload_n hx hb dX8_turn_79 rfl (lv_at hl 1 rfl) ?_
            refine z_get (C := RX8) (T := TX8) (N := 4) (ref := "HornCity$Weathercock") hx hb hts hin_X8_turn_X8 hown hK hz 0 rfl rfl 0 (by decide) (hts _ fl_X8_turn_9) rfl rfl dX8_turn_80 ?_
            refine lv_iload_n hx hb dX8_turn_83 rfl (lv_at hl 0 rfl) ?_
            refine lv_aload_n hx hb dX8_turn_84 rfl (lv_at hl 1 rfl) ?_
            refine z_get (C := RX8) (T := TX8) (N := 4) (ref := "HornCity$Weathercock") hx hb hts hin_X8_turn_X8 hown hK hz 0 rfl rfl 1 (by decide) (hts _ fl_X8_turn_15) rfl rfl dX8_turn_85 ?_
            refine lv_iload_n hx hb dX8_turn_88 rfl (lv_at hl 0 rfl) ?_
            refine z_lald hx hb hK hz 2 rfl (by omega) (by decide) dX8_turn_89 ?_
            refine z_last hx hb hK hz 1 rfl (by omega) (by decide) dX8_turn_90 (fun H locs hz => ?_)
            have hz : zH D (zF ws0) H0 [(ck, .inr (6, [.ref wy, .ref nx, .int (zI pts), .long (zL al)])), (wy, .inl (cJ, 12, .inr (.inl (zAL (zU wyx i (nxx i)))))), (nx, .inl (cJ, 12, .inr (.inl (zAL nxx))))] H locs := hz
            refine z_iinc (lv' := [(3, .int (zI (i + 1))), (0, .ref ck), (1, .int (zI a)), (2, .int (zI b))]) hx hb dX8_turn_91 hl (k := 0) rfl (Nat.le_of_ble_eq_true rfl) rfl (fun ls hl => ?_)
            refine lv_goto (tgt := 65) hx hb dX8_turn_94 (by decide) ?_
            exact ih65 _ (by omega) (i + 1) (zU wyx i (nxx i)) H locs ls rfl (by omega) (by rw [hnx i (by omega) (by omega)]; exact zU_cp hwy) hz (lv_sub hl [0, 1, 2, 3] rfl)
      exact L65 _ 0 wyf H locs ls rfl (by omega) (fun j h1 h2 => absurd h1 (by omega)) hz (lv_sub hl [0, 1, 2, 3] rfl)
    ·
      refine lv_iload_n hx hb dX8_turn_10 rfl (lv_at hl 0 rfl) ?_
      refine z_bipush hx hb dX8_turn_11 (by decide) ?_
      refine z_icmp_ge (tgt := 63) hx hb dX8_turn_13 (by decide) (by omega) (by decide) (fun h13 => ?_) (fun h13 => ?_)
      ·
        refine z_iconst hx hb dX8_turn_63 ?_
        refine lv_istore_n (lv' := [(3, .int (zI 0)), (0, .ref ck), (1, .int (zI a)), (2, .int (zI b))]) hx hb dX8_turn_64 rfl hl (Nat.le_of_ble_eq_true rfl) rfl (fun ls hl => ?_)
        have L65 : ∀ (n : Nat) (i : Int) (wyx : Int → Int) (H : Heap) (locs : List Loc) (ls : Array Slot), ((12 - i).toNat = n) → (0 ≤ i ∧ i ≤ pts) → (∀ j, 0 ≤ j → j < i → wyx j = nxtS pts a b wyf j) → zH D (zF ws0) H0 [(ck, .inr (6, [.ref wy, .ref nx, .int (zI pts), .long (zL al)])), (wy, .inl (cJ, 12, .inr (.inl (zAL wyx)))), (nx, .inl (cJ, 12, .inr (.inl (zAL nxx))))] H locs → lv_has ls 4 [(3, .int (zI i)), (0, .ref ck), (1, .int (zI a)), (2, .int (zI b))] → W p l e (zRm 1) s m args below meth c H locs 0 0 Q (F0 m 65 ls []) := by
          intro n
          refine Nat.strongRecOn n ?_
          intro n ih65 i wyx H locs ls hn65 h0b hwy hz hl
          refine lv_iload_n hx hb dX8_turn_65 rfl (lv_at hl 0 rfl) ?_
          refine lv_aload_n hx hb dX8_turn_66 rfl (lv_at hl 1 rfl) ?_
          refine z_get (C := RX8) (T := TX8) (N := 4) (ref := "HornCity$Weathercock") hx hb hts hin_X8_turn_X8 hown hK hz 0 rfl rfl 2 (by decide) (hts _ fl_X8_turn_27) rfl rfl dX8_turn_67 ?_
          refine z_icmp_ge (tgt := 97) hx hb dX8_turn_70 (by decide) (by omega) (by omega) (fun h70 => ?_) (fun h70 => ?_)
          ·
            refine lv_aload_n hx hb dX8_turn_97 rfl (lv_at hl 1 rfl) ?_
            refine lv_dup hx hb dX8_turn_98 rfl ?_
            refine z_get (C := RX8) (T := TX8) (N := 4) (ref := "HornCity$Weathercock") hx hb hts hin_X8_turn_X8 hown hK hz 0 rfl rfl 3 (by decide) (hts _ fl_X8_turn_31) rfl rfl dX8_turn_99 ?_
            refine z_ldc2 (n := 10) hx hb hown (hts (.constantLong RX8 39 10) (by decide +kernel)) (by decide +kernel) dX8_turn_102 ?_
            refine z_lmul hx hb dX8_turn_105 ?_
            refine z_put (C := RX8) (T := TX8) (N := 4) (ref := "HornCity$Weathercock") (ty := .long) hx hb hts hin_X8_turn_X8 hown hK hz tyX8 tyX8_ok nmX8 0 rfl rfl 3 (by decide) (hts _ fl_X8_turn_31) rfl rfl (by decide +kernel) rfl rfl (Nat.le_of_ble_eq_true rfl) dX8_turn_106 (fun H locs hz => ?_)
            have hz : zH D (zF ws0) H0 [(ck, .inr (6, [.ref wy, .ref nx, .int (zI pts), .long (zL (al * 10))])), (wy, .inl (cJ, 12, .inr (.inl (zAL wyx)))), (nx, .inl (cJ, 12, .inr (.inl (zAL nxx))))] H locs := hz
            exact hret ((wyx : Int → Int), (nxx : Int → Int), ((al * 10) : Int)) dX8_turn_109 (show (al * 10) = al * 10 ∧ (∀ v, 0 ≤ v → v < pts → wyx v = nxtS pts a b wyf v) from ⟨rfl, fun v h1 h2 => hwy v h1 (by omega)⟩) hz
          ·
            refine lv_iload_n hx hb dX8_turn_73 rfl (lv_at hl 0 rfl) ?_
            refine z_bipush hx hb dX8_turn_74 (by decide) ?_
            refine z_icmp_ge (tgt := 97) hx hb dX8_turn_76 (by decide) (by omega) (by decide) (fun h76 => ?_) (fun h76 => ?_)
            ·
              refine lv_aload_n hx hb dX8_turn_97 rfl (lv_at hl 1 rfl) ?_
              refine lv_dup hx hb dX8_turn_98 rfl ?_
              refine z_get (C := RX8) (T := TX8) (N := 4) (ref := "HornCity$Weathercock") hx hb hts hin_X8_turn_X8 hown hK hz 0 rfl rfl 3 (by decide) (hts _ fl_X8_turn_31) rfl rfl dX8_turn_99 ?_
              refine z_ldc2 (n := 10) hx hb hown (hts (.constantLong RX8 39 10) (by decide +kernel)) (by decide +kernel) dX8_turn_102 ?_
              refine z_lmul hx hb dX8_turn_105 ?_
              refine z_put (C := RX8) (T := TX8) (N := 4) (ref := "HornCity$Weathercock") (ty := .long) hx hb hts hin_X8_turn_X8 hown hK hz tyX8 tyX8_ok nmX8 0 rfl rfl 3 (by decide) (hts _ fl_X8_turn_31) rfl rfl (by decide +kernel) rfl rfl (Nat.le_of_ble_eq_true rfl) dX8_turn_106 (fun H locs hz => ?_)
              have hz : zH D (zF ws0) H0 [(ck, .inr (6, [.ref wy, .ref nx, .int (zI pts), .long (zL (al * 10))])), (wy, .inl (cJ, 12, .inr (.inl (zAL wyx)))), (nx, .inl (cJ, 12, .inr (.inl (zAL nxx))))] H locs := hz
              exact hret ((wyx : Int → Int), (nxx : Int → Int), ((al * 10) : Int)) dX8_turn_109 (show (al * 10) = al * 10 ∧ (∀ v, 0 ≤ v → v < pts → wyx v = nxtS pts a b wyf v) from ⟨rfl, fun v h1 h2 => hwy v h1 (by omega)⟩) hz
            ·
              refine lv_aload_n hx hb dX8_turn_79 rfl (lv_at hl 1 rfl) ?_
              refine z_get (C := RX8) (T := TX8) (N := 4) (ref := "HornCity$Weathercock") hx hb hts hin_X8_turn_X8 hown hK hz 0 rfl rfl 0 (by decide) (hts _ fl_X8_turn_9) rfl rfl dX8_turn_80 ?_
              refine lv_iload_n hx hb dX8_turn_83 rfl (lv_at hl 0 rfl) ?_
              refine lv_aload_n hx hb dX8_turn_84 rfl (lv_at hl 1 rfl) ?_
              refine z_get (C := RX8) (T := TX8) (N := 4) (ref := "HornCity$Weathercock") hx hb hts hin_X8_turn_X8 hown hK hz 0 rfl rfl 1 (by decide) (hts _ fl_X8_turn_15) rfl rfl dX8_turn_85 ?_
              refine lv_iload_n hx hb dX8_turn_88 rfl (lv_at hl 0 rfl) ?_
              refine z_lald hx hb hK hz 2 rfl (by omega) (by decide) dX8_turn_89 ?_
              refine z_last hx hb hK hz 1 rfl (by omega) (by decide) dX8_turn_90 (fun H locs hz => ?_)
              have hz : zH D (zF ws0) H0 [(ck, .inr (6, [.ref wy, .ref nx, .int (zI pts), .long (zL al)])), (wy, .inl (cJ, 12, .inr (.inl (zAL (zU wyx i (nxx i)))))), (nx, .inl (cJ, 12, .inr (.inl (zAL nxx))))] H locs := hz
              refine z_iinc (lv' := [(3, .int (zI (i + 1))), (0, .ref ck), (1, .int (zI a)), (2, .int (zI b))]) hx hb dX8_turn_91 hl (k := 0) rfl (Nat.le_of_ble_eq_true rfl) rfl (fun ls hl => ?_)
              refine lv_goto (tgt := 65) hx hb dX8_turn_94 (by decide) ?_
              exact ih65 _ (by omega) (i + 1) (zU wyx i (nxx i)) H locs ls rfl (by omega) (by rw [hnx i (by omega) (by omega)]; exact zU_cp hwy) hz (lv_sub hl [0, 1, 2, 3] rfl)
        exact L65 _ 0 wyf H locs ls rfl (by omega) (fun j h1 h2 => absurd h1 (by omega)) hz (lv_sub hl [0, 1, 2, 3] rfl)
      ·
        refine lv_aload_n hx hb dX8_turn_16 rfl (lv_at hl 1 rfl) ?_
        refine z_get (C := RX8) (T := TX8) (N := 4) (ref := "HornCity$Weathercock") hx hb hts hin_X8_turn_X8 hown hK hz 0 rfl rfl 1 (by decide) (hts _ fl_X8_turn_15) rfl rfl dX8_turn_17 ?_
        refine lv_iload_n hx hb dX8_turn_20 rfl (lv_at hl 0 rfl) ?_
        refine lv_aload_n hx hb dX8_turn_21 rfl (lv_at hl 1 rfl) ?_
        refine lv_iload_n hx hb dX8_turn_22 rfl (lv_at hl 0 rfl) ?_
        refine z_callVpl (As := [.int (zI i)]) (rest := [.int (zI i), .ref nx]) (C := RX8) (T := TX8) (N := 4) F hK hz hl (c_X8_waysTo l D cI cJ cZ ck wy nx wyf pts al i (by first | assumption | omega) (by omega)) (cwV 1 hts gX8_turn_X8_waysTo rfl rfl rfl (by decide +kernel) ⟨Nat.le_of_ble_eq_true rfl, Nat.le_of_ble_eq_true rfl⟩) rfl 0 rfl [0, 1] rfl rfl rfl rfl (Nat.le_of_ble_eq_true rfl) ⟨Nat.le_of_ble_eq_true rfl, Nat.le_of_ble_eq_true rfl⟩ dX8_turn_23 ?_
        refine z_bipush hx hb dX8_turn_26 (by decide) ?_
        refine lv_iload_n hx hb dX8_turn_28 rfl (lv_at hl 2 rfl) ?_
        refine z_isub hx hb dX8_turn_29 ?_
        refine lv_iload_n hx hb dX8_turn_30 rfl (lv_at hl 3 rfl) ?_
        refine z_isub hx hb dX8_turn_31 ?_
        refine z_i2l hx hb dX8_turn_32 (by omega) ?_
        refine z_lmul hx hb dX8_turn_33 ?_
        refine lv_aload_n hx hb dX8_turn_34 rfl (lv_at hl 1 rfl) ?_
        refine lv_iload_n hx hb dX8_turn_35 rfl (lv_at hl 0 rfl) ?_
        refine z_iconst hx hb dX8_turn_36 ?_
        refine z_isub hx hb dX8_turn_37 ?_
        refine z_callVpl (As := [.int (zI (i - 1))]) (rest := [.long (zL ((wyf (wrS pts i)) * ((10 - a) - b))), .int (zI i), .ref nx]) (C := RX8) (T := TX8) (N := 4) F hK hz hl (c_X8_waysTo l D cI cJ cZ ck wy nx wyf pts al (i - 1) (by first | assumption | omega) (by omega)) (cwV 1 hts gX8_turn_X8_waysTo rfl rfl rfl (by decide +kernel) ⟨Nat.le_of_ble_eq_true rfl, Nat.le_of_ble_eq_true rfl⟩) rfl 0 rfl [0, 1] rfl rfl rfl rfl (Nat.le_of_ble_eq_true rfl) ⟨Nat.le_of_ble_eq_true rfl, Nat.le_of_ble_eq_true rfl⟩ dX8_turn_38 ?_
        refine lv_iload_n hx hb dX8_turn_41 rfl (lv_at hl 2 rfl) ?_
        refine z_i2l hx hb dX8_turn_42 (by omega) ?_
        refine z_lmul hx hb dX8_turn_43 ?_
        refine z_ladd hx hb dX8_turn_44 ?_
        refine lv_aload_n hx hb dX8_turn_45 rfl (lv_at hl 1 rfl) ?_
        refine lv_iload_n hx hb dX8_turn_46 rfl (lv_at hl 0 rfl) ?_
        refine z_iconst hx hb dX8_turn_47 ?_
        refine z_iadd hx hb dX8_turn_48 ?_
        refine z_callVpl (As := [.int (zI (i + 1))]) (rest := [.long (zL (((wyf (wrS pts i)) * ((10 - a) - b)) + ((wyf (wrS pts (i - 1))) * a))), .int (zI i), .ref nx]) (C := RX8) (T := TX8) (N := 4) F hK hz hl (c_X8_waysTo l D cI cJ cZ ck wy nx wyf pts al (i + 1) (by first | assumption | omega) (by omega)) (cwV 1 hts gX8_turn_X8_waysTo rfl rfl rfl (by decide +kernel) ⟨Nat.le_of_ble_eq_true rfl, Nat.le_of_ble_eq_true rfl⟩) rfl 0 rfl [0, 1] rfl rfl rfl rfl (Nat.le_of_ble_eq_true rfl) ⟨Nat.le_of_ble_eq_true rfl, Nat.le_of_ble_eq_true rfl⟩ dX8_turn_49 ?_
        refine lv_iload_n hx hb dX8_turn_52 rfl (lv_at hl 3 rfl) ?_
        refine z_i2l hx hb dX8_turn_53 (by omega) ?_
        refine z_lmul hx hb dX8_turn_54 ?_
        refine z_ladd hx hb dX8_turn_55 ?_
        refine z_last hx hb hK hz 2 rfl (by omega) (by decide) dX8_turn_56 (fun H locs hz => ?_)
        have hz : zH D (zF ws0) H0 [(ck, .inr (6, [.ref wy, .ref nx, .int (zI pts), .long (zL al)])), (wy, .inl (cJ, 12, .inr (.inl (zAL wyf)))), (nx, .inl (cJ, 12, .inr (.inl (zAL (zU nxx i ((((wyf (wrS pts i)) * ((10 - a) - b)) + ((wyf (wrS pts (i - 1))) * a)) + ((wyf (wrS pts (i + 1))) * b)))))))] H locs := hz
        refine z_iinc (lv' := [(3, .int (zI (i + 1))), (0, .ref ck), (1, .int (zI a)), (2, .int (zI b))]) hx hb dX8_turn_57 hl (k := 0) rfl (Nat.le_of_ble_eq_true rfl) rfl (fun ls hl => ?_)
        refine lv_goto (tgt := 2) hx hb dX8_turn_60 (by decide) ?_
        exact ih2 _ (by omega) (i + 1) (zU nxx i ((((wyf (wrS pts i)) * ((10 - a) - b)) + ((wyf (wrS pts (i - 1))) * a)) + ((wyf (wrS pts (i + 1))) * b))) H locs ls rfl (by omega) (by have e9 : nxtS pts a b wyf i = wyf (wrS pts i) * (10 - a - b) + wyf (wrS pts (i - 1)) * a + wyf (wrS pts (i + 1)) * b := (by unfold nxtS; rw [show wrS pts i = i from by unfold wrS; rw [if_neg (by omega), if_pos (by omega)]]); have h9 := zU_cp hnx; rw [e9] at h9; exact h9) hz (lv_sub hl [0, 1, 2, 3] rfl)
  exact L2 _ 0 nxf H0 [] ls rfl (by omega) (fun j h1 h2 => absurd h1 (by omega)) hz (lv_sub hl [0, 1, 2, 3] rfl)

set_option maxHeartbeats 4000000 in
set_option maxRecDepth 100000 in
theorem c_X8_commonDivisor (l : Launch) (D : va_G) (cI cJ cZ : ClassId) (x0 y0 : Int) (hxy : (0 < x0 ∧ x0 ≤ 1000000000000000000) ∧ 0 ≤ y0 ∧ y0 ≤ 1000000000000000000) : zMp l yX8_commonDivisor wsX8_commonDivisor (zRm 0) D cI cJ cZ [.long (zL x0), .long (zL y0)] [] (some (.long (zL (gcdZ x0 y0)))) := by
  refine zMp_l (cc := cX8_commonDivisor) (maxL := 11) (by decide +kernel) rfl (Nat.le_of_ble_eq_true rfl) rfl ?_
  intro p e s m args below meth c Q H ls F hK hz hl hret
  obtain ⟨hx, hb, hml, hown0, hts⟩ := id F
  have hown : s.vm.findClass RX8 = some m.cls := hown0
  obtain ⟨ws0, hw0⟩ : ∃ w : va_W, w = [] := ⟨_, rfl⟩
  have hz : zH D (zF ws0) H [] H [] := by rw [hw0]; exact hz
  have hl : lv_has ls 11 [(0, .long (zL x0)), (2, .long (zL y0))] := hl
  refine lv_lload_n hx hb dX8_commonDivisor_0 rfl (lv_at hl 0 rfl) ?_
  refine lv_lstore (lv' := [(4, .long (zL x0)), (0, .long (zL x0)), (2, .long (zL y0))]) hx hb dX8_commonDivisor_1 hl (Nat.le_of_ble_eq_true rfl) rfl (fun ls hl => ?_)
  refine lv_lload_n hx hb dX8_commonDivisor_3 rfl (lv_at hl 2 rfl) ?_
  refine lv_lstore (lv' := [(6, .long (zL y0)), (4, .long (zL x0)), (0, .long (zL x0)), (2, .long (zL y0))]) hx hb dX8_commonDivisor_4 hl (Nat.le_of_ble_eq_true rfl) rfl (fun ls hl => ?_)
  refine z_iconst hx hb dX8_commonDivisor_6 ?_
  refine lv_istore (lv' := [(8, .int (zI 0)), (6, .long (zL y0)), (4, .long (zL x0)), (0, .long (zL x0)), (2, .long (zL y0))]) hx hb dX8_commonDivisor_7 hl (Nat.le_of_ble_eq_true rfl) rfl (fun ls hl => ?_)
  have L9 : ∀ (n : Nat) (st y x : Int) (ls : Array Slot), ((1000 - st).toNat = n) → (0 ≤ st ∧ st ≤ 1000) → ((0 < x ∧ x ≤ 1000000000000000000) ∧ 0 ≤ y ∧ y ≤ 1000000000000000000) → (gcdZ x0 y0 = gcdZ x y) → (st = 0 ∨ eucI x y (1000 - st)) → lv_has ls 11 [(8, .int (zI st)), (6, .long (zL y)), (4, .long (zL x)), (0, .long (zL x0)), (2, .long (zL y0))] → W p l e (zRm 0) s m args below meth c H [] 0 0 Q (F0 m 9 ls []) := by
    intro n
    refine Nat.strongRecOn n ?_
    intro n ih9 st y x ls hn9 h0 hb1 hg he hl
    refine lv_iload hx hb dX8_commonDivisor_9 (lv_at hl 0 rfl) ?_
    refine z_sipush hx hb dX8_commonDivisor_11 (by decide) ?_
    refine z_icmp_ge (tgt := 45) hx hb dX8_commonDivisor_14 (by decide) (by omega) (by decide) (fun h14 => ?_) (fun h14 => ?_)
    ·
      refine lv_lload hx hb dX8_commonDivisor_45 (lv_at hl 2 rfl) ?_
      exact hret dX8_commonDivisor_47 (congrArg (fun z => some (Value.long (zL z))) (show (x : Int) = (gcdZ x0 y0) by rw [hg, euc_end (x := x) (y := y) (he.elim (fun h5 => by omega) (fun h5 => by rwa [show 1000 - st = 0 by omega] at h5))]; exact (gcdZ_0 (by omega)).symm))
    ·
      refine lv_lload hx hb dX8_commonDivisor_17 (lv_at hl 1 rfl) ?_
      refine z_lconst hx hb (n := 0) dX8_commonDivisor_19 rfl ?_
      refine z_lcmp hx hb dX8_commonDivisor_20 ?_
      refine z_ifl_eq (tgt := 45) hx hb dX8_commonDivisor_21 (by decide) (by omega) (by omega) (fun h21 => ?_) (fun h21 => ?_)
      ·
        refine lv_lload hx hb dX8_commonDivisor_45 (lv_at hl 2 rfl) ?_
        exact hret dX8_commonDivisor_47 (congrArg (fun z => some (Value.long (zL z))) (show (x : Int) = (gcdZ x0 y0) by rw [hg, h21]; exact (gcdZ_0 (by omega)).symm))
      ·
        refine lv_lload hx hb dX8_commonDivisor_24 (lv_at hl 2 rfl) ?_
        refine lv_lload hx hb dX8_commonDivisor_26 (lv_at hl 1 rfl) ?_
        refine z_lrem hx hb dX8_commonDivisor_28 (by omega) (by omega) ?_
        refine lv_lstore (lv' := [(9, .long (zL (x % y))), (8, .int (zI st)), (6, .long (zL y)), (4, .long (zL x)), (0, .long (zL x0)), (2, .long (zL y0))]) hx hb dX8_commonDivisor_29 hl (Nat.le_of_ble_eq_true rfl) rfl (fun ls hl => ?_)
        refine lv_lload hx hb dX8_commonDivisor_31 (lv_at hl 2 rfl) ?_
        refine lv_lstore (lv' := [(4, .long (zL y)), (9, .long (zL (x % y))), (8, .int (zI st)), (6, .long (zL y)), (0, .long (zL x0)), (2, .long (zL y0))]) hx hb dX8_commonDivisor_33 hl (Nat.le_of_ble_eq_true rfl) rfl (fun ls hl => ?_)
        refine lv_lload hx hb dX8_commonDivisor_35 (lv_at hl 1 rfl) ?_
        refine lv_lstore (lv' := [(6, .long (zL (x % y))), (4, .long (zL y)), (9, .long (zL (x % y))), (8, .int (zI st)), (0, .long (zL x0)), (2, .long (zL y0))]) hx hb dX8_commonDivisor_37 hl (Nat.le_of_ble_eq_true rfl) rfl (fun ls hl => ?_)
        refine z_iinc (lv' := [(8, .int (zI (st + 1))), (6, .long (zL (x % y))), (4, .long (zL y)), (9, .long (zL (x % y))), (0, .long (zL x0)), (2, .long (zL y0))]) hx hb dX8_commonDivisor_39 hl (k := 3) rfl (Nat.le_of_ble_eq_true rfl) rfl (fun ls hl => ?_)
        refine lv_goto (tgt := 9) hx hb dX8_commonDivisor_42 (by decide) ?_
        exact ih9 _ (by omega) (st + 1) (x % y) y ls rfl (by omega) (by have h8 := Int.emod_nonneg x (show y ≠ 0 by omega); have h9 := Int.emod_lt_of_pos x (show 0 < y by omega); omega) (by rw [hg]; exact gcdZ_s (by omega) (by omega)) (Or.inr (he.elim (fun h5 => by rw [h5]; exact euc_0 (by omega) (by omega)) (fun h5 => by rw [show 1000 - (st + 1) = 1000 - st - 1 by omega]; exact euc_s h5 (by omega) (by omega)))) (lv_sub hl [0, 1, 2, 4, 5] rfl)
  exact L9 _ 0 y0 x0 ls rfl (by decide) (by omega) (rfl) (Or.inl rfl) (lv_sub hl [0, 1, 2, 3, 4] rfl)

set_option maxRecDepth 20000 in
theorem hin_X8_shortened_X8 : ∀ w ∈ u_ws RX8 TX8 4, w ∈ wsX8_shortened := by decide +kernel
set_option maxRecDepth 20000 in
theorem fl_X8_shortened_31 : Cond.fieldLink RX8 31 "HornCity$Weathercock" "all" "J" ∈ wsX8_shortened := by decide +kernel
set_option maxHeartbeats 4000000 in
set_option maxRecDepth 100000 in
theorem c_X8_shortened (l : Launch) (D : va_G) (cI cJ cZ : ClassId) (ck wy nx : Nat) (wyf : Int → Int) (pts al nu pt : Int) (hpts : 2 ≤ pts ∧ pts ≤ 12) (hpt : 0 ≤ pt ∧ pt < pts) (hwb : ∀ v, 0 ≤ v → v < pts → 0 ≤ wyf v ∧ wyf v ≤ 1000000000000000000) (halb : 1 ≤ al ∧ al ≤ 1000000000000000000) (hnu : 0 ≤ nu ∧ nu ≤ 1000000000000000000) : zMp l yX8_shortened wsX8_shortened (zRm 1) D cI cJ cZ [.ref ck, .long (zL nu), .int (zI pt)] [(ck, .inr (6, [.ref wy, .ref nx, .int (zI pts), .long (zL al)])), (wy, .inl (cJ, 12, .inr (.inl (zAL wyf))))] (some (.long (zL (nu / gcdZ al (wyf pt))))) := by
  refine zMp_l (cc := cX8_shortened) (maxL := 6) (by decide +kernel) rfl (Nat.le_of_ble_eq_true rfl) rfl ?_
  intro p e s m args below meth c Q H ls F hK hz hl hret
  obtain ⟨hx, hb, hml, hown0, hts⟩ := id F
  have hown : s.vm.findClass RX8 = some m.cls := hown0
  obtain ⟨ws0, hw0⟩ : ∃ w : va_W, w = [(ck, .inr (6, [.ref wy, .ref nx, .int (zI pts), .long (zL al)])), (wy, .inl (cJ, 12, .inr (.inl (zAL wyf))))] := ⟨_, rfl⟩
  have hz : zH D (zF ws0) H [(ck, .inr (6, [.ref wy, .ref nx, .int (zI pts), .long (zL al)])), (wy, .inl (cJ, 12, .inr (.inl (zAL wyf))))] H [] := by rw [hw0]; exact hz
  have hl : lv_has ls 6 [(0, .ref ck), (1, .long (zL nu)), (3, .int (zI pt))] := hl
  refine lv_aload_n hx hb dX8_shortened_0 rfl (lv_at hl 0 rfl) ?_
  refine z_get (C := RX8) (T := TX8) (N := 4) (ref := "HornCity$Weathercock") hx hb hts hin_X8_shortened_X8 hown hK hz 0 rfl rfl 3 (by decide) (hts _ fl_X8_shortened_31) rfl rfl dX8_shortened_1 ?_
  refine lv_aload_n hx hb dX8_shortened_4 rfl (lv_at hl 0 rfl) ?_
  refine lv_iload_n hx hb dX8_shortened_5 rfl (lv_at hl 2 rfl) ?_
  refine z_callVpl (As := [.int (zI pt)]) (rest := [.long (zL al)]) (C := RX8) (T := TX8) (N := 4) F hK hz hl (c_X8_waysTo l D cI cJ cZ ck wy nx wyf pts al pt (by first | assumption | omega) (by omega)) (cwV 1 hts gX8_shortened_X8_waysTo rfl rfl rfl (by decide +kernel) ⟨Nat.le_of_ble_eq_true rfl, Nat.le_of_ble_eq_true rfl⟩) rfl 0 rfl [0, 1] rfl rfl rfl rfl (Nat.le_of_ble_eq_true rfl) ⟨Nat.le_of_ble_eq_true rfl, Nat.le_of_ble_eq_true rfl⟩ dX8_shortened_6 ?_
  have hwr : wrS pts pt = pt := by unfold wrS; rw [if_neg (by omega), if_pos (by omega)]
  have hw1 := hwb pt hpt.1 hpt.2
  rw [hwr]
  refine z_callSpl (As := [.long (zL al), .long (zL (wyf pt))]) (rest := []) F hK hz hl (c_X8_commonDivisor l D cI cJ cZ al (wyf pt) (by omega)) (va_cwS 2 hts gX8_shortened_X8_commonDivisor rfl rfl rfl (by decide +kernel) ⟨Nat.le_of_ble_eq_true rfl, Nat.le_of_ble_eq_true rfl⟩) [] rfl rfl rfl rfl (Nat.le_of_ble_eq_true rfl) ⟨Nat.le_of_ble_eq_true rfl, Nat.le_of_ble_eq_true rfl⟩ dX8_shortened_9 ?_
  have hgp := gcdZ_pos (x := al) (y := wyf pt) (by omega)
  have hgl := gcdZ_le (x := al) (y := wyf pt) (by omega)
  refine lv_lstore (lv' := [(4, .long (zL (gcdZ al (wyf pt)))), (0, .ref ck), (1, .long (zL nu)), (3, .int (zI pt))]) hx hb dX8_shortened_12 hl (Nat.le_of_ble_eq_true rfl) rfl (fun ls hl => ?_)
  refine lv_lload hx hb dX8_shortened_14 (lv_at hl 0 rfl) ?_
  refine z_lconst hx hb (n := 0) dX8_shortened_16 rfl ?_
  refine z_lcmp hx hb dX8_shortened_17 ?_
  refine z_ifl_ne (tgt := 25) hx hb dX8_shortened_18 (by decide) (by omega) (by omega) (fun h18 => ?_) (fun h18 => ?_)
  ·
    refine lv_lload_n hx hb dX8_shortened_25 rfl (lv_at hl 2 rfl) ?_
    refine lv_lload hx hb dX8_shortened_26 (lv_at hl 0 rfl) ?_
    refine z_ldiv hx hb dX8_shortened_28 (by omega) (by omega) ?_
    exact hret dX8_shortened_29 (congrArg (fun z => some (Value.long (zL z))) (show ((nu / (gcdZ al (wyf pt))) : Int) = (nu / gcdZ al (wyf pt)) by rfl))
  ·
    refine lv_lload_n hx hb dX8_shortened_21 rfl (lv_at hl 2 rfl) ?_
    refine lv_goto (tgt := 29) hx hb dX8_shortened_22 (by decide) ?_
    exact hret dX8_shortened_29 (congrArg (fun z => some (Value.long (zL z))) (show (nu : Int) = (nu / gcdZ al (wyf pt)) by exfalso; omega))

set_option maxHeartbeats 4000000 in
set_option maxRecDepth 100000 in
theorem c_X8_upperAt (l : Launch) (D : va_G) (cI cJ cZ : ClassId) (ck wy nx : Nat) (wyf : Int → Int) (pts al pt : Int) (hpts : 2 ≤ pts ∧ pts ≤ 12) (hpt : 0 ≤ pt ∧ pt < pts) (hwb : ∀ v, 0 ≤ v → v < pts → 0 ≤ wyf v ∧ wyf v ≤ 1000000000000000000) (halb : 1 ≤ al ∧ al ≤ 1000000000000000000) : zMp l yX8_upperAt wsX8_upperAt (zRm 2) D cI cJ cZ [.ref ck, .int (zI pt)] [(ck, .inr (6, [.ref wy, .ref nx, .int (zI pts), .long (zL al)])), (wy, .inl (cJ, 12, .inr (.inl (zAL wyf))))] (some (.long (zL (wyf pt / gcdZ al (wyf pt))))) := by
  refine zMp_l (cc := cX8_upperAt) (maxL := 2) (by decide +kernel) rfl (Nat.le_of_ble_eq_true rfl) rfl ?_
  intro p e s m args below meth c Q H ls F hK hz hl hret
  obtain ⟨hx, hb, hml, hown0, hts⟩ := id F
  have hown : s.vm.findClass RX8 = some m.cls := hown0
  obtain ⟨ws0, hw0⟩ : ∃ w : va_W, w = [(ck, .inr (6, [.ref wy, .ref nx, .int (zI pts), .long (zL al)])), (wy, .inl (cJ, 12, .inr (.inl (zAL wyf))))] := ⟨_, rfl⟩
  have hz : zH D (zF ws0) H [(ck, .inr (6, [.ref wy, .ref nx, .int (zI pts), .long (zL al)])), (wy, .inl (cJ, 12, .inr (.inl (zAL wyf))))] H [] := by rw [hw0]; exact hz
  have hl : lv_has ls 2 [(0, .ref ck), (1, .int (zI pt))] := hl
  refine lv_aload_n hx hb dX8_upperAt_0 rfl (lv_at hl 0 rfl) ?_
  refine lv_aload_n hx hb dX8_upperAt_1 rfl (lv_at hl 0 rfl) ?_
  refine lv_iload_n hx hb dX8_upperAt_2 rfl (lv_at hl 1 rfl) ?_
  refine z_callVpl (As := [.int (zI pt)]) (rest := [.ref ck]) (C := RX8) (T := TX8) (N := 4) F hK hz hl (c_X8_waysTo l D cI cJ cZ ck wy nx wyf pts al pt (by first | assumption | omega) (by omega)) (cwV 1 hts gX8_upperAt_X8_waysTo rfl rfl rfl (by decide +kernel) ⟨Nat.le_of_ble_eq_true rfl, Nat.le_of_ble_eq_true rfl⟩) rfl 0 rfl [0, 1] rfl rfl rfl rfl (Nat.le_of_ble_eq_true rfl) ⟨Nat.le_of_ble_eq_true rfl, Nat.le_of_ble_eq_true rfl⟩ dX8_upperAt_3 ?_
  have hwr : wrS pts pt = pt := by unfold wrS; rw [if_neg (by omega), if_pos (by omega)]
  have hw1 := hwb pt hpt.1 hpt.2
  rw [hwr]
  refine lv_iload_n hx hb dX8_upperAt_6 rfl (lv_at hl 1 rfl) ?_
  refine z_callVpl (As := [.long (zL (wyf pt)), .int (zI pt)]) (rest := []) (C := RX8) (T := TX8) (N := 4) F hK hz hl (c_X8_shortened l D cI cJ cZ ck wy nx wyf pts al (wyf pt) pt (by first | assumption | omega) (by omega) (by assumption) (by omega) (by omega)) (cwV 2 hts gX8_upperAt_X8_shortened rfl rfl rfl (by decide +kernel) ⟨Nat.le_of_ble_eq_true rfl, Nat.le_of_ble_eq_true rfl⟩) rfl 0 rfl [0, 1] rfl rfl rfl rfl (Nat.le_of_ble_eq_true rfl) ⟨Nat.le_of_ble_eq_true rfl, Nat.le_of_ble_eq_true rfl⟩ dX8_upperAt_7 ?_
  exact hret dX8_upperAt_10 (congrArg (fun z => some (Value.long (zL z))) (show (((wyf pt) / gcdZ al (wyf pt)) : Int) = (wyf pt / gcdZ al (wyf pt)) by first | omega | (split <;> omega) | simp_all))

set_option maxRecDepth 20000 in
theorem hin_X8_lowerAt_X8 : ∀ w ∈ u_ws RX8 TX8 4, w ∈ wsX8_lowerAt := by decide +kernel
set_option maxRecDepth 20000 in
theorem fl_X8_lowerAt_31 : Cond.fieldLink RX8 31 "HornCity$Weathercock" "all" "J" ∈ wsX8_lowerAt := by decide +kernel
set_option maxHeartbeats 4000000 in
set_option maxRecDepth 100000 in
theorem c_X8_lowerAt (l : Launch) (D : va_G) (cI cJ cZ : ClassId) (ck wy nx : Nat) (wyf : Int → Int) (pts al pt : Int) (hpts : 2 ≤ pts ∧ pts ≤ 12) (hpt : 0 ≤ pt ∧ pt < pts) (hwb : ∀ v, 0 ≤ v → v < pts → 0 ≤ wyf v ∧ wyf v ≤ 1000000000000000000) (halb : 1 ≤ al ∧ al ≤ 1000000000000000000) : zMp l yX8_lowerAt wsX8_lowerAt (zRm 2) D cI cJ cZ [.ref ck, .int (zI pt)] [(ck, .inr (6, [.ref wy, .ref nx, .int (zI pts), .long (zL al)])), (wy, .inl (cJ, 12, .inr (.inl (zAL wyf))))] (some (.long (zL (al / gcdZ al (wyf pt))))) := by
  refine zMp_l (cc := cX8_lowerAt) (maxL := 2) (by decide +kernel) rfl (Nat.le_of_ble_eq_true rfl) rfl ?_
  intro p e s m args below meth c Q H ls F hK hz hl hret
  obtain ⟨hx, hb, hml, hown0, hts⟩ := id F
  have hown : s.vm.findClass RX8 = some m.cls := hown0
  obtain ⟨ws0, hw0⟩ : ∃ w : va_W, w = [(ck, .inr (6, [.ref wy, .ref nx, .int (zI pts), .long (zL al)])), (wy, .inl (cJ, 12, .inr (.inl (zAL wyf))))] := ⟨_, rfl⟩
  have hz : zH D (zF ws0) H [(ck, .inr (6, [.ref wy, .ref nx, .int (zI pts), .long (zL al)])), (wy, .inl (cJ, 12, .inr (.inl (zAL wyf))))] H [] := by rw [hw0]; exact hz
  have hl : lv_has ls 2 [(0, .ref ck), (1, .int (zI pt))] := hl
  refine lv_aload_n hx hb dX8_lowerAt_0 rfl (lv_at hl 0 rfl) ?_
  refine lv_aload_n hx hb dX8_lowerAt_1 rfl (lv_at hl 0 rfl) ?_
  refine z_get (C := RX8) (T := TX8) (N := 4) (ref := "HornCity$Weathercock") hx hb hts hin_X8_lowerAt_X8 hown hK hz 0 rfl rfl 3 (by decide) (hts _ fl_X8_lowerAt_31) rfl rfl dX8_lowerAt_2 ?_
  refine lv_iload_n hx hb dX8_lowerAt_5 rfl (lv_at hl 1 rfl) ?_
  refine z_callVpl (As := [.long (zL al), .int (zI pt)]) (rest := []) (C := RX8) (T := TX8) (N := 4) F hK hz hl (c_X8_shortened l D cI cJ cZ ck wy nx wyf pts al al pt (by first | assumption | omega) (by omega) (by assumption) (by omega) (by omega)) (cwV 2 hts gX8_lowerAt_X8_shortened rfl rfl rfl (by decide +kernel) ⟨Nat.le_of_ble_eq_true rfl, Nat.le_of_ble_eq_true rfl⟩) rfl 0 rfl [0, 1] rfl rfl rfl rfl (Nat.le_of_ble_eq_true rfl) ⟨Nat.le_of_ble_eq_true rfl, Nat.le_of_ble_eq_true rfl⟩ dX8_lowerAt_6 ?_
  exact hret dX8_lowerAt_9 (congrArg (fun z => some (Value.long (zL z))) (show ((al / gcdZ al (wyf pt)) : Int) = (al / gcdZ al (wyf pt)) by rfl))
