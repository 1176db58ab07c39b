def cnt9 (T : Int) : Int := sumZ (fun k => if inS T k = true then 1 else 0) 9
def pop32 (x0 : Int32) : Int32 :=
  let x1 := x0 - ((x0.toUInt32 >>> ((zI 1).toUInt32 &&& Int32.toUInt32 31)).toInt32 &&& 1431655765)
  let x2 := (x1 &&& 858993459) + ((x1.toUInt32 >>> ((zI 2).toUInt32 &&& Int32.toUInt32 31)).toInt32 &&& 858993459)
  let x3 := (x2 + (x2.toUInt32 >>> ((zI 4).toUInt32 &&& Int32.toUInt32 31)).toInt32) &&& 252645135
  let x4 := x3 + (x3.toUInt32 >>> ((zI 8).toUInt32 &&& Int32.toUInt32 31)).toInt32
  let x5 := x4 + (x4.toUInt32 >>> ((zI 16).toUInt32 &&& Int32.toUInt32 31)).toInt32
  x5 &&& (zI 63)
theorem pop9 : ∀ n : Fin 512, pop32 (zI (n.val : Int)) = zI (cnt9 (n.val : Int)) := by decide +kernel
theorem pop9i {x : Int} (h : 0 ≤ x ∧ x < 512) : pop32 (zI x) = zI (cnt9 x) := by
  have e : ((x.toNat : Nat) : Int) = x := Int.toNat_of_nonneg h.1
  have := pop9 ⟨x.toNat, by omega⟩
  simpa only [e] using this
theorem pow9 (k : Int) (h : 0 ≤ k ∧ k < 9) : 1 ≤ (2 : Int) ^ k.toNat ∧ (2 : Int) ^ k.toNat ≤ 256 := by
  have : ∀ n : Fin 9, 1 ≤ (2 : Int) ^ n.val ∧ (2 : Int) ^ n.val ≤ 256 := by decide +kernel
  exact this ⟨k.toNat, by omega⟩
set_option maxHeartbeats 4000000 in
set_option maxRecDepth 100000 in
theorem c_J6_bitCount (l : Launch) (D : va_G) (cI cJ cZ : ClassId) (x : Int) (h512 : 0 ≤ x ∧ x < 512) : zMp l yJ6_bitCount_0f7a4 wsJ6_bitCount_0f7a4 (zRm 0) D cI cJ cZ [.int (zI x)] [] (some (.int (zI (cnt9 x)))) := by
  refine zMp_i (cc := cJ6_bitCount_0f7a4) (maxL := 1) (by decide +kernel) rfl (Nat.le_of_ble_eq_true rfl) rfl ?_
  intro p e s m args below meth c Q H ls F hK hz hl hret
  obtain ⟨hx, hb, hml, hown0, hts⟩ := id F
  have hown : s.vm.findClass RJ6 = some m.cls := hown0
  have hl : lv_has ls 1 [(0, .int (zI x))] := hl
  refine lv_iload_n hx hb dJ6_bitCount_0f7a4_0 rfl (lv_at hl 0 rfl) ?_
  refine lv_iload_n hx hb dJ6_bitCount_0f7a4_1 rfl (lv_at hl 0 rfl) ?_
  refine z_iconst hx hb dJ6_bitCount_0f7a4_2 ?_
  refine lv_iushr hx hb dJ6_bitCount_0f7a4_3 rfl ?_
  refine lv_ldcw hx hb hown (hts (.constant RJ6 265 1431655765) (by decide +kernel)) dJ6_bitCount_0f7a4_4 ?_
  refine lv_iand hx hb dJ6_bitCount_0f7a4_7 ?_
  refine lv_isub hx hb dJ6_bitCount_0f7a4_8 ?_
  refine lv_topi (fun x1 ex1 => ?_)
  refine lv_istore_n (lv' := [(0, .int x1)]) hx hb dJ6_bitCount_0f7a4_9 rfl hl (Nat.le_of_ble_eq_true rfl) rfl (fun ls hl => ?_)
  refine lv_iload_n hx hb dJ6_bitCount_0f7a4_10 rfl (lv_at hl 0 rfl) ?_
  refine lv_ldcw hx hb hown (hts (.constant RJ6 266 858993459) (by decide +kernel)) dJ6_bitCount_0f7a4_11 ?_
  refine lv_iand hx hb dJ6_bitCount_0f7a4_14 ?_
  refine lv_iload_n hx hb dJ6_bitCount_0f7a4_15 rfl (lv_at hl 0 rfl) ?_
  refine z_iconst hx hb dJ6_bitCount_0f7a4_16 ?_
  refine lv_iushr hx hb dJ6_bitCount_0f7a4_17 rfl ?_
  refine lv_ldcw hx hb hown (hts (.constant RJ6 266 858993459) (by decide +kernel)) dJ6_bitCount_0f7a4_18 ?_
  refine lv_iand hx hb dJ6_bitCount_0f7a4_21 ?_
  refine lv_iadd hx hb dJ6_bitCount_0f7a4_22 ?_
  refine lv_topi (fun x2 ex2 => ?_)
  refine lv_istore_n (lv' := [(0, .int x2)]) hx hb dJ6_bitCount_0f7a4_23 rfl hl (Nat.le_of_ble_eq_true rfl) rfl (fun ls hl => ?_)
  refine lv_iload_n hx hb dJ6_bitCount_0f7a4_24 rfl (lv_at hl 0 rfl) ?_
  refine lv_iload_n hx hb dJ6_bitCount_0f7a4_25 rfl (lv_at hl 0 rfl) ?_
  refine z_iconst hx hb dJ6_bitCount_0f7a4_26 ?_
  refine lv_iushr hx hb dJ6_bitCount_0f7a4_27 rfl ?_
  refine lv_iadd hx hb dJ6_bitCount_0f7a4_28 ?_
  refine lv_ldcw hx hb hown (hts (.constant RJ6 267 252645135) (by decide +kernel)) dJ6_bitCount_0f7a4_29 ?_
  refine lv_iand hx hb dJ6_bitCount_0f7a4_32 ?_
  refine lv_topi (fun x3 ex3 => ?_)
  refine lv_istore_n (lv' := [(0, .int x3)]) hx hb dJ6_bitCount_0f7a4_33 rfl hl (Nat.le_of_ble_eq_true rfl) rfl (fun ls hl => ?_)
  refine lv_iload_n hx hb dJ6_bitCount_0f7a4_34 rfl (lv_at hl 0 rfl) ?_
  refine lv_iload_n hx hb dJ6_bitCount_0f7a4_35 rfl (lv_at hl 0 rfl) ?_
  refine z_bipush hx hb dJ6_bitCount_0f7a4_36 (by decide) ?_
  refine lv_iushr hx hb dJ6_bitCount_0f7a4_38 rfl ?_
  refine lv_iadd hx hb dJ6_bitCount_0f7a4_39 ?_
  refine lv_topi (fun x4 ex4 => ?_)
  refine lv_istore_n (lv' := [(0, .int x4)]) hx hb dJ6_bitCount_0f7a4_40 rfl hl (Nat.le_of_ble_eq_true rfl) rfl (fun ls hl => ?_)
  refine lv_iload_n hx hb dJ6_bitCount_0f7a4_41 rfl (lv_at hl 0 rfl) ?_
  refine lv_iload_n hx hb dJ6_bitCount_0f7a4_42 rfl (lv_at hl 0 rfl) ?_
  refine z_bipush hx hb dJ6_bitCount_0f7a4_43 (by decide) ?_
  refine lv_iushr hx hb dJ6_bitCount_0f7a4_45 rfl ?_
  refine lv_iadd hx hb dJ6_bitCount_0f7a4_46 ?_
  refine lv_topi (fun x5 ex5 => ?_)
  refine lv_istore_n (lv' := [(0, .int x5)]) hx hb dJ6_bitCount_0f7a4_47 rfl hl (Nat.le_of_ble_eq_true rfl) rfl (fun ls hl => ?_)
  refine lv_iload_n hx hb dJ6_bitCount_0f7a4_48 rfl (lv_at hl 0 rfl) ?_
  refine z_bipush hx hb dJ6_bitCount_0f7a4_49 (by decide) ?_
  refine lv_iand hx hb dJ6_bitCount_0f7a4_51 ?_
  refine lv_topi (fun x6 ex6 => ?_)
  have e9 : x6 = zI (cnt9 x) := by
    rw [ex6, ex5, ex4, ex3, ex2, ex1]
    exact pop9i h512
  rw [e9]
  exact hret dJ6_bitCount_0f7a4_52 rfl

theorem drS_bd (T : Int) (mat ah : Int → Int) (k : Int) : -1 ≤ drS T mat ah k ∧ drS T mat ah k ≤ 1 := by
  unfold drS; split <;> (try split) <;> (try split) <;> decide
def yeaN (T : Int) (dri mat inc : Int → Int) (n : Int) : Int → Int := fun j => if j < n then yeaI T dri mat inc j else inc j
theorem zU_cp {x f : Int → Int} {i : Int} (h : ∀ j, 0 ≤ j → j < i → x j = f j) : ∀ j, 0 ≤ j → j < i + 1 → zU x i (f i) j = f j := by
  intro j h1 h2
  unfold zU
  by_cases hj : j = i
  · rw [if_pos hj, hj]
  · rw [if_neg hj]; exact h j h1 (by omega)
theorem yeaN_0 {T : Int} {dri mat inc : Int → Int} : inc = yeaN T dri mat inc 0 := by
  funext j
  unfold yeaN
  by_cases hj : j < 0
  · rw [if_pos hj]; unfold yeaI; rw [if_neg (fun q => absurd (inS.rng q) (by omega))]
  · rw [if_neg hj]
theorem yeaN_in {T : Int} {dri mat inc : Int → Int} {n : Int} (h : inS T n = true) : zU (yeaN T dri mat inc n) n ((inc n + dri n + drS T mat inc n) % 180) = yeaN T dri mat inc (n + 1) := by
  funext j
  unfold zU yeaN
  by_cases hj : j = n
  · subst hj; rw [if_pos rfl, if_pos (by omega)]; unfold yeaI; rw [if_pos h]
  · rw [if_neg hj]
    by_cases h2 : j < n
    · rw [if_pos h2, if_pos (by omega)]
    · rw [if_neg h2, if_neg (by omega)]
theorem yeaN_out {T : Int} {dri mat inc : Int → Int} {n : Int} (h : ¬ inS T n = true) : yeaN T dri mat inc n = yeaN T dri mat inc (n + 1) := by
  funext j
  unfold yeaN
  by_cases hj : j = n
  · subst hj; rw [if_neg (by omega), if_pos (by omega)]; unfold yeaI; rw [if_neg h]
  · by_cases h2 : j < n
    · rw [if_pos h2, if_pos (by omega)]
    · rw [if_neg h2, if_neg (by omega)]

def misS (iy mk : Int → Int) (b d i : Int) : Int := if (b + d * iy i) % 180 = mk i then 0 else 1
def okS (iy mk : Int → Int) (b d i : Int) : Bool := decide ((b + d * iy i) % 180 = mk i ∨ (b + d * iy i) % 180 = (180 - mk i) % 180)
def allB (f : Int → Bool) : Nat → Bool
  | 0 => true
  | n + 1 => allB f n && f (n : Int)
theorem allB_s {f : Int → Bool} {i : Int} (h : 0 ≤ i) : allB f (i + 1).toNat = (allB f i.toNat && f i) := by
  have e : (i + 1).toNat = i.toNat + 1 := by omega
  rw [e]
  show (allB f i.toNat && f ((i.toNat : Nat) : Int)) = _
  rw [Int.toNat_of_nonneg h]
theorem allB_no {f : Int → Bool} {i : Int} (h : f i = false) (h0 : 0 ≤ i) : ∀ n : Nat, i < (n : Int) → allB f n = false
  | 0, q => by omega
  | n + 1, q => by
    show (allB f n && f (n : Int)) = false
    by_cases hn : i < (n : Int)
    · rw [allB_no h h0 n hn]; rfl
    · have : (n : Int) = i := by omega
      rw [this, h]; simp
theorem sumZ_mono {f : Int → Int} (h : ∀ j, 0 ≤ f j) : ∀ (k n : Nat), sumZ f n ≤ sumZ f (n + k)
  | 0, n => Int.le_refl _
  | k + 1, n => by
    have h1 := sumZ_mono h k n
    have h2 := h ((n + k : Nat) : Int)
    show _ ≤ sumZ f (n + k) + f ((n + k : Nat) : Int)
    omega
def fitS (iy mk : Int → Int) (cn b d w : Int) : Bool := allB (okS iy mk b d) cn.toNat && decide (sumZ (misS iy mk b d) cn.toNat ≤ w)
theorem misS_nn (iy mk : Int → Int) (b d i : Int) : 0 ≤ misS iy mk b d i := by unfold misS; split <;> decide
theorem misS_1 {iy mk : Int → Int} {b d i : Int} (h : ¬ (b + d * iy i) % 180 = mk i) : misS iy mk b d i = 1 := if_neg h
theorem misS_0 {iy mk : Int → Int} {b d i : Int} (h : (b + d * iy i) % 180 = mk i) : misS iy mk b d i = 0 := if_pos h
theorem fitS_many {iy mk : Int → Int} {cn b d w i : Int} (h0 : 0 ≤ i) (h1 : i < cn) (h : w < sumZ (misS iy mk b d) i.toNat + misS iy mk b d i) : fitS iy mk cn b d w = false := by
  have h2 := sumZ_mono (misS_nn iy mk b d) (cn.toNat - (i + 1).toNat) (i + 1).toNat
  have h3 : (i + 1).toNat + (cn.toNat - (i + 1).toNat) = cn.toNat := by omega
  rw [h3, sumZ_s h0] at h2
  unfold fitS
  rw [decide_eq_false (by omega)]; simp
theorem fitS_bad {iy mk : Int → Int} {cn b d w i : Int} (h0 : 0 ≤ i) (h1 : i < cn) (h : okS iy mk b d i = false) : fitS iy mk cn b d w = false := by
  unfold fitS
  rw [allB_no h h0 cn.toNat (by omega)]; rfl
theorem mul9 {d y : Int} (hd : -9 ≤ d ∧ d ≤ 9) (hy : 0 ≤ y ∧ y ≤ 1000) : -9000 ≤ d * y ∧ d * y ≤ 9000 := by
  have h1 : d * y ≤ 9 * y := Int.mul_le_mul_of_nonneg_right hd.2 hy.1
  have h2 : -9 * y ≤ d * y := Int.mul_le_mul_of_nonneg_right hd.1 hy.1
  omega

set_option maxRecDepth 20000 in
theorem hin_X2_whyNot_X2 : ∀ w ∈ u_ws RX2 TX2 8, w ∈ wsX2_whyNot := by decide +kernel
set_option maxRecDepth 20000 in
theorem fl_X2_whyNot_42 : Cond.fieldLink RX2 42 "HornCity$City" "year" "I" ∈ wsX2_whyNot := by decide +kernel
set_option maxHeartbeats 4000000 in
set_option maxRecDepth 100000 in
theorem c_X2_whyNot (l : Launch) (D : va_G) (cI cJ cZ : ClassId) (o ai ad am ah ch : Nat) (mat : Int → Int) (T tm yr kind one w : Int) (hr : (-2147483648 ≤ kind ∧ kind ≤ 2147483647) ∧ (-2147483648 ≤ one ∧ one ≤ 2147483647) ∧ (-2147483648 ≤ w ∧ w ≤ 2147483647)) (hT : 0 ≤ T ∧ T < 512) (hbm : zBd mat 9 (-6) 8) (hyr : 0 ≤ yr ∧ yr ≤ 100000) : zMp l yX2_whyNot wsX2_whyNot (zRm 2) D cI cJ cZ [.ref o, .int (zI kind), .int (zI one), .int (zI w)] [(o, .inr (2, [.ref ai, .ref ad, .ref am, .ref ah, .ref ch, .int (zI T), .int (zI tm), .int (zI yr)])), (am, .inl (cI, 9, .inl (zA mat)))] (some (.int (zI (whyS T mat yr kind one w)))) := by
  refine zMp_i (cc := cX2_whyNot) (maxL := 4) (by decide +kernel) rfl (Nat.le_of_ble_eq_true rfl) rfl ?_
  intro p e s m args below meth c Q H ls F hK hz hl hret
  obtain ⟨hx, hb, hml, hown0, hts⟩ := id F
  have hown : s.vm.findClass RX2 = some m.cls := hown0
  obtain ⟨ws0, hw0⟩ : ∃ w : va_W, w = [(o, .inr (2, [.ref ai, .ref ad, .ref am, .ref ah, .ref ch, .int (zI T), .int (zI tm), .int (zI yr)])), (am, .inl (cI, 9, .inl (zA mat)))] := ⟨_, rfl⟩
  have hz : zH D (zF ws0) H [(o, .inr (2, [.ref ai, .ref ad, .ref am, .ref ah, .ref ch, .int (zI T), .int (zI tm), .int (zI yr)])), (am, .inl (cI, 9, .inl (zA mat)))] H [] := by rw [hw0]; exact hz
  have hl : lv_has ls 4 [(0, .ref o), (1, .int (zI kind)), (2, .int (zI one)), (3, .int (zI w))] := hl
  refine lv_iload_n hx hb dX2_whyNot_0 rfl (lv_at hl 1 rfl) ?_
  refine z_bipush hx hb dX2_whyNot_1 (by decide) ?_
  refine z_icmp_ne (tgt := 22) hx hb dX2_whyNot_3 (by decide) (by omega) (by decide) (fun h3 => ?_) (fun h3 => ?_)
  ·
    refine lv_aload_n hx hb dX2_whyNot_22 rfl (lv_at hl 0 rfl) ?_
    refine lv_iload_n hx hb dX2_whyNot_23 rfl (lv_at hl 2 rfl) ?_
    refine z_callVp (As := [.int (zI one)]) (rest := []) (C := RX2) (T := TX2) (N := 8) F hK hz hl (c_X2_isThere l D cI cJ cZ o ai ad am ah ch T tm yr one (by omega) (by first | assumption | omega)) (cwV 1 hts gX2_whyNot_X2_isThere rfl rfl rfl (by decide +kernel) ⟨Nat.le_of_ble_eq_true rfl, Nat.le_of_ble_eq_true rfl⟩) rfl 0 rfl [0] rfl rfl rfl rfl (Nat.le_of_ble_eq_true rfl) ⟨Nat.le_of_ble_eq_true rfl, Nat.le_of_ble_eq_true rfl⟩ dX2_whyNot_24 ?_
    refine z_ifb_eq (tgt := 44) hx hb dX2_whyNot_27 (by decide) (fun h27 => ?_) (fun h27 => ?_)
    ·
      refine z_iconst hx hb dX2_whyNot_44 ?_
      exact hret dX2_whyNot_45 (congrArg (fun z => some (Value.int (zI z))) (show (1 : Int) = (whyS T mat yr kind one w) by simp [whyS, h3, h27]))
    ·
      refine lv_iload_n hx hb dX2_whyNot_30 rfl (lv_at hl 1 rfl) ?_
      refine z_bipush hx hb dX2_whyNot_31 (by decide) ?_
      refine z_icmp_ne (tgt := 46) hx hb dX2_whyNot_33 (by decide) (by omega) (by decide) (fun h33 => ?_) (fun h33 => ?_)
      ·
        refine lv_iload_n hx hb dX2_whyNot_46 rfl (lv_at hl 1 rfl) ?_
        refine z_bipush hx hb dX2_whyNot_47 (by decide) ?_
        refine z_icmp_ne (tgt := 85) hx hb dX2_whyNot_49 (by decide) (by omega) (by decide) (fun h49 => ?_) (fun h49 => ?_)
        ·
          refine lv_iload_n hx hb dX2_whyNot_85 rfl (lv_at hl 1 rfl) ?_
          refine z_bipush hx hb dX2_whyNot_86 (by decide) ?_
          refine z_icmp_ne (tgt := 105) hx hb dX2_whyNot_88 (by decide) (by omega) (by decide) (fun h88 => ?_) (fun h88 => ?_)
          ·
            refine z_iconst hx hb dX2_whyNot_105 ?_
            exact hret dX2_whyNot_106 (congrArg (fun z => some (Value.int (zI z))) (show (0 : Int) = (whyS T mat yr kind one w) by simp [whyS, h3, h27, h33, h49, h88]))
          ·
            refine lv_aload_n hx hb dX2_whyNot_91 rfl (lv_at hl 0 rfl) ?_
            refine lv_iload_n hx hb dX2_whyNot_92 rfl (lv_at hl 2 rfl) ?_
            refine z_callVp (As := [.int (zI one)]) (rest := []) (C := RX2) (T := TX2) (N := 8) F hK hz hl (c_X2_mateOf l D cI cJ cZ o ai ad am ah ch mat T tm yr one (by omega) (by first | assumption | omega)) (cwV 1 hts gX2_whyNot_X2_mateOf rfl rfl rfl (by decide +kernel) ⟨Nat.le_of_ble_eq_true rfl, Nat.le_of_ble_eq_true rfl⟩) rfl 0 rfl [0, 1] rfl rfl rfl rfl (Nat.le_of_ble_eq_true rfl) ⟨Nat.le_of_ble_eq_true rfl, Nat.le_of_ble_eq_true rfl⟩ dX2_whyNot_93 ?_
            have hm1 := maO_bd (T := T) hbm one
            refine z_bipush hx hb dX2_whyNot_96 (by decide) ?_
            refine z_icmp_ne (tgt := 105) hx hb dX2_whyNot_98 (by decide) (by omega) (by decide) (fun h98 => ?_) (fun h98 => ?_)
            ·
              refine z_iconst hx hb dX2_whyNot_105 ?_
              exact hret dX2_whyNot_106 (congrArg (fun z => some (Value.int (zI z))) (show (0 : Int) = (whyS T mat yr kind one w) by simp [whyS, h3, h27, h33, h49, h88, h98]))
            ·
              refine z_iconst hx hb dX2_whyNot_101 ?_
              refine lv_goto (tgt := 106) hx hb dX2_whyNot_102 (by decide) ?_
              exact hret dX2_whyNot_106 (congrArg (fun z => some (Value.int (zI z))) (show (3 : Int) = (whyS T mat yr kind one w) by simp [whyS, h3, h27, h33, h49, h88, h98]))
        ·
          exfalso
          first | omega | (revert h49; simp_all; done) | simp_all
      ·
        refine lv_aload_n hx hb dX2_whyNot_36 rfl (lv_at hl 0 rfl) ?_
        refine lv_iload_n hx hb dX2_whyNot_37 rfl (lv_at hl 3 rfl) ?_
        refine z_callVp (As := [.int (zI w)]) (rest := []) (C := RX2) (T := TX2) (N := 8) F hK hz hl (c_X2_isThere l D cI cJ cZ o ai ad am ah ch T tm yr w (by omega) (by first | assumption | omega)) (cwV 1 hts gX2_whyNot_X2_isThere rfl rfl rfl (by decide +kernel) ⟨Nat.le_of_ble_eq_true rfl, Nat.le_of_ble_eq_true rfl⟩) rfl 0 rfl [0] rfl rfl rfl rfl (Nat.le_of_ble_eq_true rfl) ⟨Nat.le_of_ble_eq_true rfl, Nat.le_of_ble_eq_true rfl⟩ dX2_whyNot_38 ?_
        refine z_ifb_ne (tgt := 46) hx hb dX2_whyNot_41 (by decide) (fun h41 => ?_) (fun h41 => ?_)
        ·
          refine lv_iload_n hx hb dX2_whyNot_46 rfl (lv_at hl 1 rfl) ?_
          refine z_bipush hx hb dX2_whyNot_47 (by decide) ?_
          refine z_icmp_ne (tgt := 85) hx hb dX2_whyNot_49 (by decide) (by omega) (by decide) (fun h49 => ?_) (fun h49 => ?_)
          ·
            exfalso
            first | omega | (revert h49; simp_all; done) | simp_all
          ·
            refine lv_iload_n hx hb dX2_whyNot_52 rfl (lv_at hl 2 rfl) ?_
            refine lv_iload_n hx hb dX2_whyNot_53 rfl (lv_at hl 3 rfl) ?_
            refine z_icmp_ne (tgt := 59) hx hb dX2_whyNot_54 (by decide) (by omega) (by omega) (fun h54 => ?_) (fun h54 => ?_)
            ·
              refine lv_aload_n hx hb dX2_whyNot_59 rfl (lv_at hl 0 rfl) ?_
              refine lv_iload_n hx hb dX2_whyNot_60 rfl (lv_at hl 2 rfl) ?_
              refine z_callVp (As := [.int (zI one)]) (rest := []) (C := RX2) (T := TX2) (N := 8) F hK hz hl (c_X2_mateOf l D cI cJ cZ o ai ad am ah ch mat T tm yr one (by omega) (by first | assumption | omega)) (cwV 1 hts gX2_whyNot_X2_mateOf rfl rfl rfl (by decide +kernel) ⟨Nat.le_of_ble_eq_true rfl, Nat.le_of_ble_eq_true rfl⟩) rfl 0 rfl [0, 1] rfl rfl rfl rfl (Nat.le_of_ble_eq_true rfl) ⟨Nat.le_of_ble_eq_true rfl, Nat.le_of_ble_eq_true rfl⟩ dX2_whyNot_61 ?_
              have hm1 := maO_bd (T := T) hbm one
              refine z_bipush hx hb dX2_whyNot_64 (by decide) ?_
              refine z_icmp_ne (tgt := 79) hx hb dX2_whyNot_66 (by decide) (by omega) (by decide) (fun h66 => ?_) (fun h66 => ?_)
              ·
                refine z_iconst hx hb dX2_whyNot_79 ?_
                refine lv_goto (tgt := 84) hx hb dX2_whyNot_80 (by decide) ?_
                exact hret dX2_whyNot_84 (congrArg (fun z => some (Value.int (zI z))) (show (3 : Int) = (whyS T mat yr kind one w) by simp [whyS, h3, h27, h33, h41, h49, h54, h66]))
              ·
                refine lv_aload_n hx hb dX2_whyNot_69 rfl (lv_at hl 0 rfl) ?_
                refine lv_iload_n hx hb dX2_whyNot_70 rfl (lv_at hl 3 rfl) ?_
                refine z_callVp (As := [.int (zI w)]) (rest := []) (C := RX2) (T := TX2) (N := 8) F hK hz hl (c_X2_mateOf l D cI cJ cZ o ai ad am ah ch mat T tm yr w (by omega) (by first | assumption | omega)) (cwV 1 hts gX2_whyNot_X2_mateOf rfl rfl rfl (by decide +kernel) ⟨Nat.le_of_ble_eq_true rfl, Nat.le_of_ble_eq_true rfl⟩) rfl 0 rfl [0, 1] rfl rfl rfl rfl (Nat.le_of_ble_eq_true rfl) ⟨Nat.le_of_ble_eq_true rfl, Nat.le_of_ble_eq_true rfl⟩ dX2_whyNot_71 ?_
                have hm2 := maO_bd (T := T) hbm w
                refine z_bipush hx hb dX2_whyNot_74 (by decide) ?_
                refine z_icmp_eq (tgt := 83) hx hb dX2_whyNot_76 (by decide) (by omega) (by decide) (fun h76 => ?_) (fun h76 => ?_)
                ·
                  refine z_iconst hx hb dX2_whyNot_83 ?_
                  exact hret dX2_whyNot_84 (congrArg (fun z => some (Value.int (zI z))) (show (0 : Int) = (whyS T mat yr kind one w) by simp [whyS, h3, h27, h33, h41, h49, h54, h66, h76]))
                ·
                  refine z_iconst hx hb dX2_whyNot_79 ?_
                  refine lv_goto (tgt := 84) hx hb dX2_whyNot_80 (by decide) ?_
                  exact hret dX2_whyNot_84 (congrArg (fun z => some (Value.int (zI z))) (show (3 : Int) = (whyS T mat yr kind one w) by simp [whyS, h3, h27, h33, h41, h49, h54, h66, h76]))
            ·
              refine z_iconst hx hb dX2_whyNot_57 ?_
              exact hret dX2_whyNot_58 (congrArg (fun z => some (Value.int (zI z))) (show (2 : Int) = (whyS T mat yr kind one w) by simp [whyS, h3, h27, h33, h41, h49, h54]))
        ·
          refine z_iconst hx hb dX2_whyNot_44 ?_
          exact hret dX2_whyNot_45 (congrArg (fun z => some (Value.int (zI z))) (show (1 : Int) = (whyS T mat yr kind one w) by simp [whyS, h3, h27, h33, h41]))
  ·
    refine lv_aload_n hx hb dX2_whyNot_6 rfl (lv_at hl 0 rfl) ?_
    refine z_get (C := RX2) (T := TX2) (N := 8) (ref := "HornCity$City") hx hb hts hin_X2_whyNot_X2 hown hK hz 0 rfl rfl 7 (by decide) (hts _ fl_X2_whyNot_42) rfl rfl dX2_whyNot_7 ?_
    refine z_sipush hx hb dX2_whyNot_10 (by decide) ?_
    refine z_icmp_lt (tgt := 20) hx hb dX2_whyNot_13 (by decide) (by omega) (by decide) (fun h13 => ?_) (fun h13 => ?_)
    ·
      refine z_iconst hx hb dX2_whyNot_20 ?_
      exact hret dX2_whyNot_21 (congrArg (fun z => some (Value.int (zI z))) (show (0 : Int) = (whyS T mat yr kind one w) by simp [whyS, h3, h13]))
    ·
      refine z_iconst hx hb dX2_whyNot_16 ?_
      refine lv_goto (tgt := 21) hx hb dX2_whyNot_17 (by decide) ?_
      exact hret dX2_whyNot_21 (congrArg (fun z => some (Value.int (zI z))) (show (4 : Int) = (whyS T mat yr kind one w) by simp [whyS, h3, h13]))

set_option maxRecDepth 20000 in
theorem hin_X2_turnBy_X2 : ∀ w ∈ u_ws RX2 TX2 8, w ∈ wsX2_turnBy := by decide +kernel
set_option maxRecDepth 20000 in
theorem fl_X2_turnBy_9 : Cond.fieldLink RX2 9 "HornCity$City" "inclines" "[I" ∈ wsX2_turnBy := by decide +kernel
set_option maxHeartbeats 4000000 in
set_option maxRecDepth 100000 in
theorem c_X2_turnBy (l : Launch) (D : va_G) (cI cJ cZ : ClassId) (o ai ad am ah ch : Nat) (inc : Int → Int) (T tm yr one degrees : Int) (hr : (-2147483648 ≤ one ∧ one ≤ 2147483647)) (hT : 0 ≤ T ∧ T < 512) (hbi : zBd inc 9 0 179) (hd : -1000000 ≤ degrees ∧ degrees ≤ 1000000) : zMw l yX2_turnBy wsX2_turnBy (zRm 1) D cI cJ cZ [.ref o, .int (zI one), .int (zI degrees)] [(o, .inr (2, [.ref ai, .ref ad, .ref am, .ref ah, .ref ch, .int (zI T), .int (zI tm), .int (zI yr)])), (ai, .inl (cI, 9, .inl (zA inc)))] (S := (Int → Int)) (fun u => u = turI T inc one degrees) (fun _ => none) (fun u => [(o, .inr (2, [.ref ai, .ref ad, .ref am, .ref ah, .ref ch, .int (zI T), .int (zI tm), .int (zI yr)])), (ai, .inl (cI, 9, .inl (zA u)))]) := by
  refine zMw_v (cc := cX2_turnBy) (maxL := 3) (by decide +kernel) rfl (Nat.le_of_ble_eq_true rfl) rfl (fun _ => rfl) ?_
  intro p e s m args below meth c Q H0 ls F hK hz hl hret
  obtain ⟨hx, hb, hml, hown0, hts⟩ := id F
  have hown : s.vm.findClass RX2 = some m.cls := hown0
  obtain ⟨ws0, hw0⟩ : ∃ w : va_W, w = [(o, .inr (2, [.ref ai, .ref ad, .ref am, .ref ah, .ref ch, .int (zI T), .int (zI tm), .int (zI yr)])), (ai, .inl (cI, 9, .inl (zA inc)))] := ⟨_, rfl⟩
  rw [← hw0] at hret
  have hz : zH D (zF ws0) H0 [(o, .inr (2, [.ref ai, .ref ad, .ref am, .ref ah, .ref ch, .int (zI T), .int (zI tm), .int (zI yr)])), (ai, .inl (cI, 9, .inl (zA inc)))] H0 [] := by rw [hw0]; exact hz
  have hl : lv_has ls 3 [(0, .ref o), (1, .int (zI one)), (2, .int (zI degrees))] := hl
  refine lv_aload_n hx hb dX2_turnBy_0 rfl (lv_at hl 0 rfl) ?_
  refine lv_iload_n hx hb dX2_turnBy_1 rfl (lv_at hl 1 rfl) ?_
  refine z_callVp (As := [.int (zI one)]) (rest := []) (C := RX2) (T := TX2) (N := 8) F hK hz hl (c_X2_isThere l D cI cJ cZ o ai ad am ah ch T tm yr one (by omega) (by first | assumption | omega)) (cwV 1 hts gX2_turnBy_X2_isThere rfl rfl rfl (by decide +kernel) ⟨Nat.le_of_ble_eq_true rfl, Nat.le_of_ble_eq_true rfl⟩) rfl 0 rfl [0] rfl rfl rfl rfl (Nat.le_of_ble_eq_true rfl) ⟨Nat.le_of_ble_eq_true rfl, Nat.le_of_ble_eq_true rfl⟩ dX2_turnBy_2 ?_
  refine z_ifb_eq (tgt := 25) hx hb dX2_turnBy_5 (by decide) (fun h5 => ?_) (fun h5 => ?_)
  ·
    exact hret ((inc : Int → Int)) dX2_turnBy_25 (show inc = turI T inc one degrees from (by simp [turI, h5])) hz
  ·
    refine lv_aload_n hx hb dX2_turnBy_8 rfl (lv_at hl 0 rfl) ?_
    refine z_get (C := RX2) (T := TX2) (N := 8) (ref := "HornCity$City") hx hb hts hin_X2_turnBy_X2 hown hK hz 0 rfl rfl 0 (by decide) (hts _ fl_X2_turnBy_9) rfl rfl dX2_turnBy_9 ?_
    refine lv_iload_n hx hb dX2_turnBy_12 rfl (lv_at hl 1 rfl) ?_
    refine lv_aload_n hx hb dX2_turnBy_13 rfl (lv_at hl 0 rfl) ?_
    refine z_get (C := RX2) (T := TX2) (N := 8) (ref := "HornCity$City") hx hb hts hin_X2_turnBy_X2 hown hK hz 0 rfl rfl 0 (by decide) (hts _ fl_X2_turnBy_9) rfl rfl dX2_turnBy_14 ?_
    refine lv_iload_n hx hb dX2_turnBy_17 rfl (lv_at hl 1 rfl) ?_
    refine z_iald hx hb hK hz 1 rfl (inS.rng h5) (by decide) dX2_turnBy_18 ?_
    have hv18 := (hbi).ax one (inS.rng h5)
    refine lv_iload_n hx hb dX2_turnBy_19 rfl (lv_at hl 2 rfl) ?_
    refine z_iadd hx hb dX2_turnBy_20 ?_
    refine z_callSp (As := [.int (zI ((inc one) + degrees))]) (rest := [.int (zI one), .ref ai]) F hK hz hl (c_X5_leftOver l D cI cJ cZ ((inc one) + degrees) (by omega)) (va_cwS 1 hts gX2_turnBy_X5_leftOver rfl rfl rfl (by decide +kernel) ⟨Nat.le_of_ble_eq_true rfl, Nat.le_of_ble_eq_true rfl⟩) [] rfl rfl rfl rfl (Nat.le_of_ble_eq_true rfl) ⟨Nat.le_of_ble_eq_true rfl, Nat.le_of_ble_eq_true rfl⟩ dX2_turnBy_21 ?_
    refine z_iast hx hb hK hz 1 rfl (inS.rng h5) (by decide) dX2_turnBy_24 (fun H locs hz => ?_)
    have hz : zH D (zF ws0) H0 [(o, .inr (2, [.ref ai, .ref ad, .ref am, .ref ah, .ref ch, .int (zI T), .int (zI tm), .int (zI yr)])), (ai, .inl (cI, 9, .inl (zA (zU inc one (((inc one) + degrees) % 180)))))] H locs := hz
    exact hret ((zU inc one (((inc one) + degrees) % 180) : Int → Int)) dX2_turnBy_25 (show (zU inc one (((inc one) + degrees) % 180)) = turI T inc one degrees from (by simp [turI, h5])) hz

set_option maxRecDepth 20000 in
theorem hin_X2_drawOf_X2 : ∀ w ∈ u_ws RX2 TX2 8, w ∈ wsX2_drawOf := by decide +kernel
set_option maxRecDepth 20000 in
theorem fl_X2_drawOf_18 : Cond.fieldLink RX2 18 "HornCity$City" "mates" "[I" ∈ wsX2_drawOf := by decide +kernel
set_option maxRecDepth 20000 in
theorem fl_X2_drawOf_21 : Cond.fieldLink RX2 21 "HornCity$City" "ahead" "[I" ∈ wsX2_drawOf := by decide +kernel
set_option maxHeartbeats 4000000 in
set_option maxRecDepth 100000 in
theorem c_X2_drawOf (l : Launch) (D : va_G) (cI cJ cZ : ClassId) (o ai ad am ah ch : Nat) (mat ahe : Int → Int) (T tm yr one : Int) (hr : (-2147483648 ≤ one ∧ one ≤ 2147483647)) (hT : 0 ≤ T ∧ T < 512) (hbm : zBd mat 9 (-6) 8) (hba : zBd ahe 9 0 179) : zMp l yX2_drawOf wsX2_drawOf (zRm 1) D cI cJ cZ [.ref o, .int (zI one)] [(o, .inr (2, [.ref ai, .ref ad, .ref am, .ref ah, .ref ch, .int (zI T), .int (zI tm), .int (zI yr)])), (am, .inl (cI, 9, .inl (zA mat))), (ah, .inl (cI, 9, .inl (zA ahe)))] (some (.int (zI (drS T mat ahe one)))) := by
  refine zMp_i (cc := cX2_drawOf) (maxL := 3) (by decide +kernel) rfl (Nat.le_of_ble_eq_true rfl) rfl ?_
  intro p e s m args below meth c Q H ls F hK hz hl hret
  obtain ⟨hx, hb, hml, hown0, hts⟩ := id F
  have hown : s.vm.findClass RX2 = some m.cls := hown0
  obtain ⟨ws0, hw0⟩ : ∃ w : va_W, w = [(o, .inr (2, [.ref ai, .ref ad, .ref am, .ref ah, .ref ch, .int (zI T), .int (zI tm), .int (zI yr)])), (am, .inl (cI, 9, .inl (zA mat))), (ah, .inl (cI, 9, .inl (zA ahe)))] := ⟨_, rfl⟩
  have hz : zH D (zF ws0) H [(o, .inr (2, [.ref ai, .ref ad, .ref am, .ref ah, .ref ch, .int (zI T), .int (zI tm), .int (zI yr)])), (am, .inl (cI, 9, .inl (zA mat))), (ah, .inl (cI, 9, .inl (zA ahe)))] H [] := by rw [hw0]; exact hz
  have hl : lv_has ls 3 [(0, .ref o), (1, .int (zI one))] := hl
  refine lv_aload_n hx hb dX2_drawOf_0 rfl (lv_at hl 0 rfl) ?_
  refine lv_iload_n hx hb dX2_drawOf_1 rfl (lv_at hl 1 rfl) ?_
  refine z_callVp (As := [.int (zI one)]) (rest := []) (C := RX2) (T := TX2) (N := 8) F hK hz hl (c_X2_isThere l D cI cJ cZ o ai ad am ah ch T tm yr one (by omega) (by first | assumption | omega)) (cwV 1 hts gX2_drawOf_X2_isThere rfl rfl rfl (by decide +kernel) ⟨Nat.le_of_ble_eq_true rfl, Nat.le_of_ble_eq_true rfl⟩) rfl 0 rfl [0] rfl rfl rfl rfl (Nat.le_of_ble_eq_true rfl) ⟨Nat.le_of_ble_eq_true rfl, Nat.le_of_ble_eq_true rfl⟩ dX2_drawOf_2 ?_
  refine z_ifb_eq (tgt := 21) hx hb dX2_drawOf_5 (by decide) (fun h5 => ?_) (fun h5 => ?_)
  ·
    refine z_iconst hx hb dX2_drawOf_21 ?_
    exact hret dX2_drawOf_22 (congrArg (fun z => some (Value.int (zI z))) (show (0 : Int) = (drS T mat ahe one) by simp [drS, h5]))
  ·
    refine lv_aload_n hx hb dX2_drawOf_8 rfl (lv_at hl 0 rfl) ?_
    refine lv_aload_n hx hb dX2_drawOf_9 rfl (lv_at hl 0 rfl) ?_
    refine z_get (C := RX2) (T := TX2) (N := 8) (ref := "HornCity$City") hx hb hts hin_X2_drawOf_X2 hown hK hz 0 rfl rfl 2 (by decide) (hts _ fl_X2_drawOf_18) rfl rfl dX2_drawOf_10 ?_
    refine lv_iload_n hx hb dX2_drawOf_13 rfl (lv_at hl 1 rfl) ?_
    refine z_iald hx hb hK hz 1 rfl (inS.rng h5) (by decide) dX2_drawOf_14 ?_
    have hv14 := (hbm).ax one (inS.rng h5)
    refine z_callVp (As := [.int (zI (mat one))]) (rest := []) (C := RX2) (T := TX2) (N := 8) F hK hz hl (c_X2_isThere l D cI cJ cZ o ai ad am ah ch T tm yr (mat one) (by omega) (by first | assumption | omega)) (cwV 1 hts gX2_drawOf_X2_isThere rfl rfl rfl (by decide +kernel) ⟨Nat.le_of_ble_eq_true rfl, Nat.le_of_ble_eq_true rfl⟩) rfl 0 rfl [0] rfl rfl rfl rfl (Nat.le_of_ble_eq_true rfl) ⟨Nat.le_of_ble_eq_true rfl, Nat.le_of_ble_eq_true rfl⟩ dX2_drawOf_15 ?_
    refine z_ifb_ne (tgt := 23) hx hb dX2_drawOf_18 (by decide) (fun h18 => ?_) (fun h18 => ?_)
    ·
      refine lv_aload_n hx hb dX2_drawOf_23 rfl (lv_at hl 0 rfl) ?_
      refine z_get (C := RX2) (T := TX2) (N := 8) (ref := "HornCity$City") hx hb hts hin_X2_drawOf_X2 hown hK hz 0 rfl rfl 3 (by decide) (hts _ fl_X2_drawOf_21) rfl rfl dX2_drawOf_24 ?_
      refine lv_aload_n hx hb dX2_drawOf_27 rfl (lv_at hl 0 rfl) ?_
      refine z_get (C := RX2) (T := TX2) (N := 8) (ref := "HornCity$City") hx hb hts hin_X2_drawOf_X2 hown hK hz 0 rfl rfl 2 (by decide) (hts _ fl_X2_drawOf_18) rfl rfl dX2_drawOf_28 ?_
      refine lv_iload_n hx hb dX2_drawOf_31 rfl (lv_at hl 1 rfl) ?_
      refine z_iald hx hb hK hz 1 rfl (inS.rng h5) (by decide) dX2_drawOf_32 ?_
      have hv32 := (hbm).ax one (inS.rng h5)
      refine z_iald hx hb hK hz 2 rfl (inS.rng h18) (by decide) dX2_drawOf_33 ?_
      have hv33 := (hba).ax (mat one) (inS.rng h18)
      refine lv_aload_n hx hb dX2_drawOf_34 rfl (lv_at hl 0 rfl) ?_
      refine z_get (C := RX2) (T := TX2) (N := 8) (ref := "HornCity$City") hx hb hts hin_X2_drawOf_X2 hown hK hz 0 rfl rfl 3 (by decide) (hts _ fl_X2_drawOf_21) rfl rfl dX2_drawOf_35 ?_
      refine lv_iload_n hx hb dX2_drawOf_38 rfl (lv_at hl 1 rfl) ?_
      refine z_iald hx hb hK hz 2 rfl (inS.rng h5) (by decide) dX2_drawOf_39 ?_
      have hv39 := (hba).ax one (inS.rng h5)
      refine z_isub hx hb dX2_drawOf_40 ?_
      refine z_callSp (As := [.int (zI ((ahe (mat one)) - (ahe one)))]) (rest := []) F hK hz hl (c_X5_leftOver l D cI cJ cZ ((ahe (mat one)) - (ahe one)) (by omega)) (va_cwS 1 hts gX2_drawOf_X5_leftOver rfl rfl rfl (by decide +kernel) ⟨Nat.le_of_ble_eq_true rfl, Nat.le_of_ble_eq_true rfl⟩) [] rfl rfl rfl rfl (Nat.le_of_ble_eq_true rfl) ⟨Nat.le_of_ble_eq_true rfl, Nat.le_of_ble_eq_true rfl⟩ dX2_drawOf_41 ?_
      refine lv_istore_n (lv' := [(2, .int (zI (((ahe (mat one)) - (ahe one)) % 180))), (0, .ref o), (1, .int (zI one))]) hx hb dX2_drawOf_44 rfl hl (Nat.le_of_ble_eq_true rfl) rfl (fun ls hl => ?_)
      refine lv_iload_n hx hb dX2_drawOf_45 rfl (lv_at hl 0 rfl) ?_
      refine z_if_ne (tgt := 51) hx hb dX2_drawOf_46 (by decide) (by omega) (fun h46 => ?_) (fun h46 => ?_)
      ·
        refine lv_iload_n hx hb dX2_drawOf_51 rfl (lv_at hl 0 rfl) ?_
        refine z_bipush hx hb dX2_drawOf_52 (by decide) ?_
        refine z_icmp_gt (tgt := 61) hx hb dX2_drawOf_54 (by decide) (by omega) (by decide) (fun h54 => ?_) (fun h54 => ?_)
        ·
          refine z_iconst hx hb dX2_drawOf_61 ?_
          exact hret dX2_drawOf_62 (congrArg (fun z => some (Value.int (zI z))) (show ((-1) : Int) = (drS T mat ahe one) by simp [drS, h5, h18, h46, h54]))
        ·
          refine z_iconst hx hb dX2_drawOf_57 ?_
          refine lv_goto (tgt := 62) hx hb dX2_drawOf_58 (by decide) ?_
          exact hret dX2_drawOf_62 (congrArg (fun z => some (Value.int (zI z))) (show (1 : Int) = (drS T mat ahe one) by simp [drS, h5, h18, h46, h54]))
      ·
        refine z_iconst hx hb dX2_drawOf_49 ?_
        exact hret dX2_drawOf_50 (congrArg (fun z => some (Value.int (zI z))) (show (0 : Int) = (drS T mat ahe one) by simp [drS, h5, h18, h46]))
    ·
      refine z_iconst hx hb dX2_drawOf_21 ?_
      exact hret dX2_drawOf_22 (congrArg (fun z => some (Value.int (zI z))) (show (0 : Int) = (drS T mat ahe one) by simp [drS, h5, h18]))

set_option maxRecDepth 20000 in
theorem hin_X2_heads_X2 : ∀ w ∈ u_ws RX2 TX2 8, w ∈ wsX2_heads := by decide +kernel
set_option maxRecDepth 20000 in
theorem fl_X2_heads_35 : Cond.fieldLink RX2 35 "HornCity$City" "there" "I" ∈ wsX2_heads := by decide +kernel
set_option maxHeartbeats 4000000 in
set_option maxRecDepth 100000 in
theorem c_X2_heads (l : Launch) (D : va_G) (cI cJ cZ : ClassId) (o ai ad am ah ch : Nat) (T tm yr : Int) (hT : 0 ≤ T ∧ T < 512) : zMp l yX2_heads wsX2_heads (zRm 1) D cI cJ cZ [.ref o] [(o, .inr (2, [.ref ai, .ref ad, .ref am, .ref ah, .ref ch, .int (zI T), .int (zI tm), .int (zI yr)]))] (some (.int (zI (cnt9 T)))) := by
  refine zMp_i (cc := cX2_heads) (maxL := 1) (by decide +kernel) rfl (Nat.le_of_ble_eq_true rfl) rfl ?_
  intro p e s m args below meth c Q H ls F hK hz hl hret
  obtain ⟨hx, hb, hml, hown0, hts⟩ := id F
  have hown : s.vm.findClass RX2 = some m.cls := hown0
  obtain ⟨ws0, hw0⟩ : ∃ w : va_W, w = [(o, .inr (2, [.ref ai, .ref ad, .ref am, .ref ah, .ref ch, .int (zI T), .int (zI tm), .int (zI yr)]))] := ⟨_, rfl⟩
  have hz : zH D (zF ws0) H [(o, .inr (2, [.ref ai, .ref ad, .ref am, .ref ah, .ref ch, .int (zI T), .int (zI tm), .int (zI yr)]))] H [] := by rw [hw0]; exact hz
  have hl : lv_has ls 1 [(0, .ref o)] := hl
  refine lv_aload_n hx hb dX2_heads_0 rfl (lv_at hl 0 rfl) ?_
  refine z_get (C := RX2) (T := TX2) (N := 8) (ref := "HornCity$City") hx hb hts hin_X2_heads_X2 hown hK hz 0 rfl rfl 5 (by decide) (hts _ fl_X2_heads_35) rfl rfl dX2_heads_1 ?_
  refine z_callSp (As := [.int (zI T)]) (rest := []) F hK hz hl (c_J6_bitCount l D cI cJ cZ T (by omega)) (va_cwS 1 hts gX2_heads_J6_bitCount_0f7a4 rfl rfl rfl (by decide +kernel) ⟨Nat.le_of_ble_eq_true rfl, Nat.le_of_ble_eq_true rfl⟩) [] rfl rfl rfl rfl (Nat.le_of_ble_eq_true rfl) ⟨Nat.le_of_ble_eq_true rfl, Nat.le_of_ble_eq_true rfl⟩ dX2_heads_4 ?_
  exact hret dX2_heads_7 (congrArg (fun z => some (Value.int (zI z))) (show ((cnt9 T) : Int) = (cnt9 T) by rfl))

set_option maxRecDepth 20000 in
theorem hin_X2_passYear_X2 : ∀ w ∈ u_ws RX2 TX2 8, w ∈ wsX2_passYear := by decide +kernel
set_option maxRecDepth 20000 in
theorem fl_X2_passYear_42 : Cond.fieldLink RX2 42 "HornCity$City" "year" "I" ∈ wsX2_passYear := by decide +kernel
set_option maxRecDepth 20000 in
theorem fl_X2_passYear_39 : Cond.fieldLink RX2 39 "HornCity$City" "tooMuch" "I" ∈ wsX2_passYear := by decide +kernel
set_option maxRecDepth 20000 in
theorem fl_X2_passYear_9 : Cond.fieldLink RX2 9 "HornCity$City" "inclines" "[I" ∈ wsX2_passYear := by decide +kernel
set_option maxRecDepth 20000 in
theorem fl_X2_passYear_21 : Cond.fieldLink RX2 21 "HornCity$City" "ahead" "[I" ∈ wsX2_passYear := by decide +kernel
set_option maxRecDepth 20000 in
theorem fl_X2_passYear_15 : Cond.fieldLink RX2 15 "HornCity$City" "drifting" "[I" ∈ wsX2_passYear := by decide +kernel
set_option maxHeartbeats 4000000 in
set_option maxRecDepth 100000 in
theorem c_X2_passYear (l : Launch) (D : va_G) (cI cJ cZ : ClassId) (o ai ad am ah ch : Nat) (inc dri mat ahe : Int → Int) (T tm yr : Int) (hT : 0 ≤ T ∧ T < 512) (hbi : zBd inc 9 0 179) (hbd : zBd dri 9 (-9) 9) (hbm : zBd mat 9 (-6) 8) (hty : (0 ≤ tm ∧ tm ≤ 1000) ∧ 0 ≤ yr ∧ yr ≤ 100000) : zMw l yX2_passYear wsX2_passYear (zRm 2) D cI cJ cZ [.ref o] [(o, .inr (2, [.ref ai, .ref ad, .ref am, .ref ah, .ref ch, .int (zI T), .int (zI tm), .int (zI yr)])), (ai, .inl (cI, 9, .inl (zA inc))), (ad, .inl (cI, 9, .inl (zA dri))), (am, .inl (cI, 9, .inl (zA mat))), (ah, .inl (cI, 9, .inl (zA ahe)))] (S := (Int → Int) × (Int → Int) × Int × Int) (fun u => u.1 = yeaI T dri mat inc ∧ u.2.2.1 = yeaH tm yr ∧ u.2.2.2 = yr + 1) (fun _ => none) (fun u => [(o, .inr (2, [.ref ai, .ref ad, .ref am, .ref ah, .ref ch, .int (zI T), .int (zI u.2.2.1), .int (zI u.2.2.2)])), (ai, .inl (cI, 9, .inl (zA u.1))), (ad, .inl (cI, 9, .inl (zA dri))), (am, .inl (cI, 9, .inl (zA mat))), (ah, .inl (cI, 9, .inl (zA u.2.1)))]) := by
  refine zMw_v (cc := cX2_passYear) (maxL := 2) (by decide +kernel) rfl (Nat.le_of_ble_eq_true rfl) rfl (fun _ => rfl) ?_
  intro p e s m args below meth c Q H0 ls F hK hz hl hret
  obtain ⟨hx, hb, hml, hown0, hts⟩ := id F
  have hown : s.vm.findClass RX2 = some m.cls := hown0
  obtain ⟨ws0, hw0⟩ : ∃ w : va_W, w = [(o, .inr (2, [.ref ai, .ref ad, .ref am, .ref ah, .ref ch, .int (zI T), .int (zI tm), .int (zI yr)])), (ai, .inl (cI, 9, .inl (zA inc))), (ad, .inl (cI, 9, .inl (zA dri))), (am, .inl (cI, 9, .inl (zA mat))), (ah, .inl (cI, 9, .inl (zA ahe)))] := ⟨_, rfl⟩
  rw [← hw0] at hret
  have hz : zH D (zF ws0) H0 [(o, .inr (2, [.ref ai, .ref ad, .ref am, .ref ah, .ref ch, .int (zI T), .int (zI tm), .int (zI yr)])), (ai, .inl (cI, 9, .inl (zA inc))), (ad, .inl (cI, 9, .inl (zA dri))), (am, .inl (cI, 9, .inl (zA mat))), (ah, .inl (cI, 9, .inl (zA ahe)))] H0 [] := by rw [hw0]; exact hz
  have hl : lv_has ls 2 [(0, .ref o)] := hl
  refine z_iconst hx hb dX2_passYear_0 ?_
  refine lv_istore_n (lv' := [(1, .int (zI 0)), (0, .ref o)]) hx hb dX2_passYear_1 rfl hl (Nat.le_of_ble_eq_true rfl) rfl (fun ls hl => ?_)
  have L2 : ∀ (n : Nat) (on : Int) (aha : Int → Int) (H : Heap) (locs : List Loc) (ls : Array Slot), ((9 - on).toNat = n) → (0 ≤ on ∧ on ≤ 9) → (∀ j, 0 ≤ j → j < on → aha j = inc j) → zH D (zF ws0) H0 [(o, .inr (2, [.ref ai, .ref ad, .ref am, .ref ah, .ref ch, .int (zI T), .int (zI tm), .int (zI yr)])), (ai, .inl (cI, 9, .inl (zA inc))), (ad, .inl (cI, 9, .inl (zA dri))), (am, .inl (cI, 9, .inl (zA mat))), (ah, .inl (cI, 9, .inl (zA aha)))] H locs → lv_has ls 2 [(1, .int (zI on)), (0, .ref o)] → W p l e (zRm 2) s m args below meth c H locs 0 0 Q (F0 m 2 ls []) := by
    intro n
    refine Nat.strongRecOn n ?_
    intro n ih2 on aha H locs ls hn2 h0 hA hz hl
    refine lv_iload_n hx hb dX2_passYear_2 rfl (lv_at hl 0 rfl) ?_
    refine z_bipush hx hb dX2_passYear_3 (by decide) ?_
    refine z_icmp_ge (tgt := 26) hx hb dX2_passYear_5 (by decide) (by omega) (by decide) (fun h5 => ?_) (fun h5 => ?_)
    ·
      have hz := zH_ext hz 4 inc rfl (fun j a b => hA j a (by omega))
      have hz : zH D (zF ws0) H0 [(o, .inr (2, [.ref ai, .ref ad, .ref am, .ref ah, .ref ch, .int (zI T), .int (zI tm), .int (zI yr)])), (ai, .inl (cI, 9, .inl (zA inc))), (ad, .inl (cI, 9, .inl (zA dri))), (am, .inl (cI, 9, .inl (zA mat))), (ah, .inl (cI, 9, .inl (zA inc)))] H locs := hz
      refine z_iconst hx hb dX2_passYear_26 ?_
      refine lv_istore_n (lv' := [(1, .int (zI 0)), (0, .ref o)]) hx hb dX2_passYear_27 rfl hl (Nat.le_of_ble_eq_true rfl) rfl (fun ls hl => ?_)
      have L28 : ∀ (n : Nat) (on : Int) (inx : Int → Int) (H : Heap) (locs : List Loc) (ls : Array Slot), ((9 - on).toNat = n) → (0 ≤ on ∧ on ≤ 9) → (inx = yeaN T dri mat inc on) → zH D (zF ws0) H0 [(o, .inr (2, [.ref ai, .ref ad, .ref am, .ref ah, .ref ch, .int (zI T), .int (zI tm), .int (zI yr)])), (ai, .inl (cI, 9, .inl (zA inx))), (ad, .inl (cI, 9, .inl (zA dri))), (am, .inl (cI, 9, .inl (zA mat))), (ah, .inl (cI, 9, .inl (zA inc)))] H locs → lv_has ls 2 [(1, .int (zI on)), (0, .ref o)] → W p l e (zRm 2) s m args below meth c H locs 0 0 Q (F0 m 28 ls []) := by
        intro n
        refine Nat.strongRecOn n ?_
        intro n ih28 on inx H locs ls hn28 h0 hX hz hl
        refine lv_iload_n hx hb dX2_passYear_28 rfl (lv_at hl 0 rfl) ?_
        refine z_bipush hx hb dX2_passYear_29 (by decide) ?_
        refine z_icmp_ge (tgt := 76) hx hb dX2_passYear_31 (by decide) (by omega) (by decide) (fun h31 => ?_) (fun h31 => ?_)
        ·
          have hz := zH_ext hz 1 (yeaI T dri mat inc) rfl (fun j a b => by rw [hX]; unfold yeaN; rw [if_pos (by omega)])
          have hz : zH D (zF ws0) H0 [(o, .inr (2, [.ref ai, .ref ad, .ref am, .ref ah, .ref ch, .int (zI T), .int (zI tm), .int (zI yr)])), (ai, .inl (cI, 9, .inl (zA (yeaI T dri mat inc)))), (ad, .inl (cI, 9, .inl (zA dri))), (am, .inl (cI, 9, .inl (zA mat))), (ah, .inl (cI, 9, .inl (zA inc)))] H locs := hz
          refine lv_aload_n hx hb dX2_passYear_76 rfl (lv_at hl 1 rfl) ?_
          refine lv_dup hx hb dX2_passYear_77 rfl ?_
          refine z_get (C := RX2) (T := TX2) (N := 8) (ref := "HornCity$City") hx hb hts hin_X2_passYear_X2 hown hK hz 0 rfl rfl 7 (by decide) (hts _ fl_X2_passYear_42) rfl rfl dX2_passYear_78 ?_
          refine z_iconst hx hb dX2_passYear_81 ?_
          refine z_iadd hx hb dX2_passYear_82 ?_
          refine z_put (C := RX2) (T := TX2) (N := 8) (ref := "HornCity$City") (ty := .int) hx hb hts hin_X2_passYear_X2 hown hK hz tyX2 tyX2_ok nmX2 0 rfl rfl 7 (by decide) (hts _ fl_X2_passYear_42) rfl rfl (by decide +kernel) rfl rfl (Nat.le_of_ble_eq_true rfl) dX2_passYear_83 (fun H locs hz => ?_)
          have hz : zH D (zF ws0) H0 [(o, .inr (2, [.ref ai, .ref ad, .ref am, .ref ah, .ref ch, .int (zI T), .int (zI tm), .int (zI (yr + 1))])), (ai, .inl (cI, 9, .inl (zA (yeaI T dri mat inc)))), (ad, .inl (cI, 9, .inl (zA dri))), (am, .inl (cI, 9, .inl (zA mat))), (ah, .inl (cI, 9, .inl (zA inc)))] H locs := hz
          refine lv_aload_n hx hb dX2_passYear_86 rfl (lv_at hl 1 rfl) ?_
          refine z_get (C := RX2) (T := TX2) (N := 8) (ref := "HornCity$City") hx hb hts hin_X2_passYear_X2 hown hK hz 0 rfl rfl 7 (by decide) (hts _ fl_X2_passYear_42) rfl rfl dX2_passYear_87 ?_
          refine z_iconst hx hb dX2_passYear_90 ?_
          refine z_irem hx hb dX2_passYear_91 (by omega) (by omega) ?_
          refine z_if_ne (tgt := 114) hx hb dX2_passYear_92 (by decide) (by omega) (fun h92 => ?_) (fun h92 => ?_)
          ·
            exact hret ((yeaI T dri mat inc : Int → Int), (inc : Int → Int), (tm : Int), ((yr + 1) : Int)) dX2_passYear_114 (show (yeaI T dri mat inc) = yeaI T dri mat inc ∧ tm = yeaH tm yr ∧ (yr + 1) = yr + 1 from ⟨rfl, by unfold yeaH; first | rw [if_pos (by omega)] | rw [if_neg (by omega)], rfl⟩) hz
          ·
            refine lv_aload_n hx hb dX2_passYear_95 rfl (lv_at hl 1 rfl) ?_
            refine z_get (C := RX2) (T := TX2) (N := 8) (ref := "HornCity$City") hx hb hts hin_X2_passYear_X2 hown hK hz 0 rfl rfl 6 (by decide) (hts _ fl_X2_passYear_39) rfl rfl dX2_passYear_96 ?_
            refine z_bipush hx hb dX2_passYear_99 (by decide) ?_
            refine z_icmp_ge (tgt := 114) hx hb dX2_passYear_101 (by decide) (by omega) (by decide) (fun h101 => ?_) (fun h101 => ?_)
            ·
              exact hret ((yeaI T dri mat inc : Int → Int), (inc : Int → Int), (tm : Int), ((yr + 1) : Int)) dX2_passYear_114 (show (yeaI T dri mat inc) = yeaI T dri mat inc ∧ tm = yeaH tm yr ∧ (yr + 1) = yr + 1 from ⟨rfl, by unfold yeaH; first | rw [if_pos (by omega)] | rw [if_neg (by omega)], rfl⟩) hz
            ·
              refine lv_aload_n hx hb dX2_passYear_104 rfl (lv_at hl 1 rfl) ?_
              refine lv_dup hx hb dX2_passYear_105 rfl ?_
              refine z_get (C := RX2) (T := TX2) (N := 8) (ref := "HornCity$City") hx hb hts hin_X2_passYear_X2 hown hK hz 0 rfl rfl 6 (by decide) (hts _ fl_X2_passYear_39) rfl rfl dX2_passYear_106 ?_
              refine z_iconst hx hb dX2_passYear_109 ?_
              refine z_iadd hx hb dX2_passYear_110 ?_
              refine z_put (C := RX2) (T := TX2) (N := 8) (ref := "HornCity$City") (ty := .int) hx hb hts hin_X2_passYear_X2 hown hK hz tyX2 tyX2_ok nmX2 0 rfl rfl 6 (by decide) (hts _ fl_X2_passYear_39) rfl rfl (by decide +kernel) rfl rfl (Nat.le_of_ble_eq_true rfl) dX2_passYear_111 (fun H locs hz => ?_)
              have hz : zH D (zF ws0) H0 [(o, .inr (2, [.ref ai, .ref ad, .ref am, .ref ah, .ref ch, .int (zI T), .int (zI (tm + 1)), .int (zI (yr + 1))])), (ai, .inl (cI, 9, .inl (zA (yeaI T dri mat inc)))), (ad, .inl (cI, 9, .inl (zA dri))), (am, .inl (cI, 9, .inl (zA mat))), (ah, .inl (cI, 9, .inl (zA inc)))] H locs := hz
              exact hret ((yeaI T dri mat inc : Int → Int), (inc : Int → Int), ((tm + 1) : Int), ((yr + 1) : Int)) dX2_passYear_114 (show (yeaI T dri mat inc) = yeaI T dri mat inc ∧ (tm + 1) = yeaH tm yr ∧ (yr + 1) = yr + 1 from ⟨rfl, by unfold yeaH; first | rw [if_pos (by omega)] | rw [if_neg (by omega)], rfl⟩) hz
        ·
          refine lv_aload_n hx hb dX2_passYear_34 rfl (lv_at hl 1 rfl) ?_
          refine lv_iload_n hx hb dX2_passYear_35 rfl (lv_at hl 0 rfl) ?_
          refine z_callVp (As := [.int (zI on)]) (rest := []) (C := RX2) (T := TX2) (N := 8) F hK hz hl (c_X2_isThere l D cI cJ cZ o ai ad am ah ch T tm yr on (by omega) (by first | assumption | omega)) (cwV 1 hts gX2_passYear_X2_isThere rfl rfl rfl (by decide +kernel) ⟨Nat.le_of_ble_eq_true rfl, Nat.le_of_ble_eq_true rfl⟩) rfl 0 rfl [0] rfl rfl rfl rfl (Nat.le_of_ble_eq_true rfl) ⟨Nat.le_of_ble_eq_true rfl, Nat.le_of_ble_eq_true rfl⟩ dX2_passYear_36 ?_
          refine z_ifb_eq (tgt := 70) hx hb dX2_passYear_39 (by decide) (fun h39 => ?_) (fun h39 => ?_)
          ·
            refine z_iinc (lv' := [(1, .int (zI (on + 1))), (0, .ref o)]) hx hb dX2_passYear_70 hl (k := 0) rfl (Nat.le_of_ble_eq_true rfl) rfl (fun ls hl => ?_)
            refine lv_goto (tgt := 28) hx hb dX2_passYear_73 (by decide) ?_
            exact ih28 _ (by omega) (on + 1) inx H locs ls rfl (by omega) (by rw [hX]; first | exact yeaN_in h39 | exact yeaN_out h39) hz (lv_sub hl [0, 1] rfl)
          ·
            refine lv_aload_n hx hb dX2_passYear_42 rfl (lv_at hl 1 rfl) ?_
            refine z_get (C := RX2) (T := TX2) (N := 8) (ref := "HornCity$City") hx hb hts hin_X2_passYear_X2 hown hK hz 0 rfl rfl 0 (by decide) (hts _ fl_X2_passYear_9) rfl rfl dX2_passYear_43 ?_
            refine lv_iload_n hx hb dX2_passYear_46 rfl (lv_at hl 0 rfl) ?_
            refine lv_aload_n hx hb dX2_passYear_47 rfl (lv_at hl 1 rfl) ?_
            refine z_get (C := RX2) (T := TX2) (N := 8) (ref := "HornCity$City") hx hb hts hin_X2_passYear_X2 hown hK hz 0 rfl rfl 3 (by decide) (hts _ fl_X2_passYear_21) rfl rfl dX2_passYear_48 ?_
            refine lv_iload_n hx hb dX2_passYear_51 rfl (lv_at hl 0 rfl) ?_
            refine z_iald hx hb hK hz 4 rfl (by omega) (by decide) dX2_passYear_52 ?_
            have hv52 := (hbi).ax on (by omega)
            refine lv_aload_n hx hb dX2_passYear_53 rfl (lv_at hl 1 rfl) ?_
            refine z_get (C := RX2) (T := TX2) (N := 8) (ref := "HornCity$City") hx hb hts hin_X2_passYear_X2 hown hK hz 0 rfl rfl 1 (by decide) (hts _ fl_X2_passYear_15) rfl rfl dX2_passYear_54 ?_
            refine lv_iload_n hx hb dX2_passYear_57 rfl (lv_at hl 0 rfl) ?_
            refine z_iald hx hb hK hz 2 rfl (by omega) (by decide) dX2_passYear_58 ?_
            have hv58 := (hbd).ax on (by omega)
            refine z_iadd hx hb dX2_passYear_59 ?_
            refine lv_aload_n hx hb dX2_passYear_60 rfl (lv_at hl 1 rfl) ?_
            refine lv_iload_n hx hb dX2_passYear_61 rfl (lv_at hl 0 rfl) ?_
            refine z_callVp (As := [.int (zI on)]) (rest := [.int (zI ((inc on) + (dri on))), .int (zI on), .ref ai]) (C := RX2) (T := TX2) (N := 8) F hK hz hl (c_X2_drawOf l D cI cJ cZ o ai ad am ah ch mat inc T tm yr on (by omega) (by first | assumption | omega) (hbm) (hbi)) (cwV 1 hts gX2_passYear_X2_drawOf rfl rfl rfl (by decide +kernel) ⟨Nat.le_of_ble_eq_true rfl, Nat.le_of_ble_eq_true rfl⟩) rfl 0 rfl [0, 3, 4] rfl rfl rfl rfl (Nat.le_of_ble_eq_true rfl) ⟨Nat.le_of_ble_eq_true rfl, Nat.le_of_ble_eq_true rfl⟩ dX2_passYear_62 ?_
            have hd1 := drS_bd T mat inc on
            refine z_iadd hx hb dX2_passYear_65 ?_
            refine z_callSp (As := [.int (zI (((inc on) + (dri on)) + (drS T mat inc on)))]) (rest := [.int (zI on), .ref ai]) F hK hz hl (c_X5_leftOver l D cI cJ cZ (((inc on) + (dri on)) + (drS T mat inc on)) (by omega)) (va_cwS 1 hts gX2_passYear_X5_leftOver rfl rfl rfl (by decide +kernel) ⟨Nat.le_of_ble_eq_true rfl, Nat.le_of_ble_eq_true rfl⟩) [] rfl rfl rfl rfl (Nat.le_of_ble_eq_true rfl) ⟨Nat.le_of_ble_eq_true rfl, Nat.le_of_ble_eq_true rfl⟩ dX2_passYear_66 ?_
            refine z_iast hx hb hK hz 1 rfl (by omega) (by decide) dX2_passYear_69 (fun H locs hz => ?_)
            have hz : zH D (zF ws0) H0 [(o, .inr (2, [.ref ai, .ref ad, .ref am, .ref ah, .ref ch, .int (zI T), .int (zI tm), .int (zI yr)])), (ai, .inl (cI, 9, .inl (zA (zU inx on ((((inc on) + (dri on)) + (drS T mat inc on)) % 180))))), (ad, .inl (cI, 9, .inl (zA dri))), (am, .inl (cI, 9, .inl (zA mat))), (ah, .inl (cI, 9, .inl (zA inc)))] H locs := hz
            refine z_iinc (lv' := [(1, .int (zI (on + 1))), (0, .ref o)]) hx hb dX2_passYear_70 hl (k := 0) rfl (Nat.le_of_ble_eq_true rfl) rfl (fun ls hl => ?_)
            refine lv_goto (tgt := 28) hx hb dX2_passYear_73 (by decide) ?_
            exact ih28 _ (by omega) (on + 1) (zU inx on ((((inc on) + (dri on)) + (drS T mat inc on)) % 180)) H locs ls rfl (by omega) (by rw [hX]; first | exact yeaN_in h39 | exact yeaN_out h39) hz (lv_sub hl [0, 1] rfl)
      exact L28 _ 0 inc H locs ls rfl (by decide) (yeaN_0) hz (lv_sub hl [0, 1] rfl)
    ·
      refine lv_aload_n hx hb dX2_passYear_8 rfl (lv_at hl 1 rfl) ?_
      refine z_get (C := RX2) (T := TX2) (N := 8) (ref := "HornCity$City") hx hb hts hin_X2_passYear_X2 hown hK hz 0 rfl rfl 3 (by decide) (hts _ fl_X2_passYear_21) rfl rfl dX2_passYear_9 ?_
      refine lv_iload_n hx hb dX2_passYear_12 rfl (lv_at hl 0 rfl) ?_
      refine lv_aload_n hx hb dX2_passYear_13 rfl (lv_at hl 1 rfl) ?_
      refine z_get (C := RX2) (T := TX2) (N := 8) (ref := "HornCity$City") hx hb hts hin_X2_passYear_X2 hown hK hz 0 rfl rfl 0 (by decide) (hts _ fl_X2_passYear_9) rfl rfl dX2_passYear_14 ?_
      refine lv_iload_n hx hb dX2_passYear_17 rfl (lv_at hl 0 rfl) ?_
      refine z_iald hx hb hK hz 1 rfl (by omega) (by decide) dX2_passYear_18 ?_
      have hv18 := (hbi).ax on (by omega)
      refine z_iast hx hb hK hz 4 rfl (by omega) (by decide) dX2_passYear_19 (fun H locs hz => ?_)
      have hz : zH D (zF ws0) H0 [(o, .inr (2, [.ref ai, .ref ad, .ref am, .ref ah, .ref ch, .int (zI T), .int (zI tm), .int (zI yr)])), (ai, .inl (cI, 9, .inl (zA inc))), (ad, .inl (cI, 9, .inl (zA dri))), (am, .inl (cI, 9, .inl (zA mat))), (ah, .inl (cI, 9, .inl (zA (zU aha on (inc on)))))] H locs := hz
      refine z_iinc (lv' := [(1, .int (zI (on + 1))), (0, .ref o)]) hx hb dX2_passYear_20 hl (k := 0) rfl (Nat.le_of_ble_eq_true rfl) rfl (fun ls hl => ?_)
      refine lv_goto (tgt := 2) hx hb dX2_passYear_23 (by decide) ?_
      exact ih2 _ (by omega) (on + 1) (zU aha on (inc on)) H locs ls rfl (by omega) (zU_cp hA) hz (lv_sub hl [0, 1] rfl)
  exact L2 _ 0 ahe H0 [] ls rfl (by decide) (fun j h1 h2 => absurd h1 (by omega)) hz (lv_sub hl [0, 1] rfl)

set_option maxRecDepth 20000 in
theorem hin_X2_settle_X2 : ∀ w ∈ u_ws RX2 TX2 8, w ∈ wsX2_settle := by decide +kernel
set_option maxRecDepth 20000 in
theorem fl_X2_settle_35 : Cond.fieldLink RX2 35 "HornCity$City" "there" "I" ∈ wsX2_settle := by decide +kernel
set_option maxRecDepth 20000 in
theorem fl_X2_settle_9 : Cond.fieldLink RX2 9 "HornCity$City" "inclines" "[I" ∈ wsX2_settle := by decide +kernel
set_option maxRecDepth 20000 in
theorem fl_X2_settle_15 : Cond.fieldLink RX2 15 "HornCity$City" "drifting" "[I" ∈ wsX2_settle := by decide +kernel
set_option maxHeartbeats 4000000 in
set_option maxRecDepth 100000 in
theorem c_X2_settle (l : Launch) (D : va_G) (cI cJ cZ : ClassId) (o ai ad am ah ch : Nat) (inc dri mat : Int → Int) (T tm yr one inclined drifts : Int) (ho : 0 ≤ one ∧ one < 9) (hT : 0 ≤ T ∧ T < 512) (hbm : zBd mat 9 (-6) 8) : zMw l yX2_settle wsX2_settle (zRm 3) D cI cJ cZ [.ref o, .int (zI one), .int (zI inclined), .int (zI drifts)] [(o, .inr (2, [.ref ai, .ref ad, .ref am, .ref ah, .ref ch, .int (zI T), .int (zI tm), .int (zI yr)])), (ai, .inl (cI, 9, .inl (zA inc))), (ad, .inl (cI, 9, .inl (zA dri))), (am, .inl (cI, 9, .inl (zA mat)))] (S := (Int → Int) × (Int → Int) × (Int → Int) × Int) (fun u => u.1 = zU inc one inclined ∧ u.2.1 = zU dri one drifts ∧ u.2.2.1 = sepM T mat one ∧ u.2.2.2 = zOr T (2 ^ one.toNat)) (fun _ => none) (fun u => [(o, .inr (2, [.ref ai, .ref ad, .ref am, .ref ah, .ref ch, .int (zI u.2.2.2), .int (zI tm), .int (zI yr)])), (ai, .inl (cI, 9, .inl (zA u.1))), (ad, .inl (cI, 9, .inl (zA u.2.1))), (am, .inl (cI, 9, .inl (zA u.2.2.1)))]) := by
  refine zMw_v (cc := cX2_settle) (maxL := 4) (by decide +kernel) rfl (Nat.le_of_ble_eq_true rfl) rfl (fun _ => rfl) ?_
  intro p e s m args below meth c Q H0 ls F hK hz hl hret
  obtain ⟨hx, hb, hml, hown0, hts⟩ := id F
  have hown : s.vm.findClass RX2 = some m.cls := hown0
  obtain ⟨ws0, hw0⟩ : ∃ w : va_W, w = [(o, .inr (2, [.ref ai, .ref ad, .ref am, .ref ah, .ref ch, .int (zI T), .int (zI tm), .int (zI yr)])), (ai, .inl (cI, 9, .inl (zA inc))), (ad, .inl (cI, 9, .inl (zA dri))), (am, .inl (cI, 9, .inl (zA mat)))] := ⟨_, rfl⟩
  rw [← hw0] at hret
  have hz : zH D (zF ws0) H0 [(o, .inr (2, [.ref ai, .ref ad, .ref am, .ref ah, .ref ch, .int (zI T), .int (zI tm), .int (zI yr)])), (ai, .inl (cI, 9, .inl (zA inc))), (ad, .inl (cI, 9, .inl (zA dri))), (am, .inl (cI, 9, .inl (zA mat)))] H0 [] := by rw [hw0]; exact hz
  have hl : lv_has ls 4 [(0, .ref o), (1, .int (zI one)), (2, .int (zI inclined)), (3, .int (zI drifts))] := hl
  refine lv_iload_n hx hb dX2_settle_0 rfl (lv_at hl 1 rfl) ?_
  refine z_if_lt (tgt := 10) hx hb dX2_settle_1 (by decide) (by omega) (fun h1 => ?_) (fun h1 => ?_)
  ·
    exfalso; omega
  ·
    refine lv_iload_n hx hb dX2_settle_4 rfl (lv_at hl 1 rfl) ?_
    refine z_bipush hx hb dX2_settle_5 (by decide) ?_
    refine z_icmp_lt (tgt := 11) hx hb dX2_settle_7 (by decide) (by omega) (by decide) (fun h7 => ?_) (fun h7 => ?_)
    ·
      refine lv_aload_n hx hb dX2_settle_11 rfl (lv_at hl 0 rfl) ?_
      refine lv_iload_n hx hb dX2_settle_12 rfl (lv_at hl 1 rfl) ?_
      refine z_callVwv (As := [.int (zI one)]) (rest := []) (C := RX2) (T := TX2) (N := 8) F hK hz hl (c_X2_separate l D cI cJ cZ o ai ad am ah ch mat T tm yr one (by omega) (by first | assumption | omega) (hbm)) (cwV 1 hts gX2_settle_X2_separate rfl rfl rfl (by decide +kernel) ⟨Nat.le_of_ble_eq_true rfl, Nat.le_of_ble_eq_true rfl⟩) rfl 0 rfl [0, 3] rfl rfl (by decide +kernel) rfl rfl (Nat.le_of_ble_eq_true rfl) ⟨Nat.le_of_ble_eq_true rfl, Nat.le_of_ble_eq_true rfl⟩ dX2_settle_13 (fun u H locs hu hz => ?_)
      obtain ⟨mat1_1, hu9⟩ : ∃ z, z = u := ⟨_, rfl⟩
      subst hu9
      have hu : mat1_1 = sepM T mat one := hu
      have g13_0 := hu
      have g13_0 := g13_0.symm
      subst g13_0
      have hz : zH D (zF ws0) H0 [(o, .inr (2, [.ref ai, .ref ad, .ref am, .ref ah, .ref ch, .int (zI T), .int (zI tm), .int (zI yr)])), (ai, .inl (cI, 9, .inl (zA inc))), (ad, .inl (cI, 9, .inl (zA dri))), (am, .inl (cI, 9, .inl (zA (sepM T mat one))))] H locs := hz
      refine lv_aload_n hx hb dX2_settle_16 rfl (lv_at hl 0 rfl) ?_
      refine lv_dup hx hb dX2_settle_17 rfl ?_
      refine z_get (C := RX2) (T := TX2) (N := 8) (ref := "HornCity$City") hx hb hts hin_X2_settle_X2 hown hK hz 0 rfl rfl 5 (by decide) (hts _ fl_X2_settle_35) rfl rfl dX2_settle_18 ?_
      refine z_iconst hx hb dX2_settle_21 ?_
      refine lv_iload_n hx hb dX2_settle_22 rfl (lv_at hl 1 rfl) ?_
      refine z_ishl1 hx hb dX2_settle_23 (by omega) ?_
      have hp9 := pow9 one ho
      refine z_ior hx hb dX2_settle_24 (by omega) (by omega) ?_
      refine z_put (C := RX2) (T := TX2) (N := 8) (ref := "HornCity$City") (ty := .int) hx hb hts hin_X2_settle_X2 hown hK hz tyX2 tyX2_ok nmX2 0 rfl rfl 5 (by decide) (hts _ fl_X2_settle_35) rfl rfl (by decide +kernel) rfl rfl (Nat.le_of_ble_eq_true rfl) dX2_settle_25 (fun H locs hz => ?_)
      have hz : zH D (zF ws0) H0 [(o, .inr (2, [.ref ai, .ref ad, .ref am, .ref ah, .ref ch, .int (zI (zOr T (2 ^ one.toNat))), .int (zI tm), .int (zI yr)])), (ai, .inl (cI, 9, .inl (zA inc))), (ad, .inl (cI, 9, .inl (zA dri))), (am, .inl (cI, 9, .inl (zA (sepM T mat one))))] H locs := hz
      refine lv_aload_n hx hb dX2_settle_28 rfl (lv_at hl 0 rfl) ?_
      refine z_get (C := RX2) (T := TX2) (N := 8) (ref := "HornCity$City") hx hb hts hin_X2_settle_X2 hown hK hz 0 rfl rfl 0 (by decide) (hts _ fl_X2_settle_9) rfl rfl dX2_settle_29 ?_
      refine lv_iload_n hx hb dX2_settle_32 rfl (lv_at hl 1 rfl) ?_
      refine lv_iload_n hx hb dX2_settle_33 rfl (lv_at hl 2 rfl) ?_
      refine z_iast hx hb hK hz 1 rfl (by omega) (by decide) dX2_settle_34 (fun H locs hz => ?_)
      have hz : zH D (zF ws0) H0 [(o, .inr (2, [.ref ai, .ref ad, .ref am, .ref ah, .ref ch, .int (zI (zOr T (2 ^ one.toNat))), .int (zI tm), .int (zI yr)])), (ai, .inl (cI, 9, .inl (zA (zU inc one inclined)))), (ad, .inl (cI, 9, .inl (zA dri))), (am, .inl (cI, 9, .inl (zA (sepM T mat one))))] H locs := hz
      refine lv_aload_n hx hb dX2_settle_35 rfl (lv_at hl 0 rfl) ?_
      refine z_get (C := RX2) (T := TX2) (N := 8) (ref := "HornCity$City") hx hb hts hin_X2_settle_X2 hown hK hz 0 rfl rfl 1 (by decide) (hts _ fl_X2_settle_15) rfl rfl dX2_settle_36 ?_
      refine lv_iload_n hx hb dX2_settle_39 rfl (lv_at hl 1 rfl) ?_
      refine lv_iload_n hx hb dX2_settle_40 rfl (lv_at hl 3 rfl) ?_
      refine z_iast hx hb hK hz 2 rfl (by omega) (by decide) dX2_settle_41 (fun H locs hz => ?_)
      have hz : zH D (zF ws0) H0 [(o, .inr (2, [.ref ai, .ref ad, .ref am, .ref ah, .ref ch, .int (zI (zOr T (2 ^ one.toNat))), .int (zI tm), .int (zI yr)])), (ai, .inl (cI, 9, .inl (zA (zU inc one inclined)))), (ad, .inl (cI, 9, .inl (zA (zU dri one drifts)))), (am, .inl (cI, 9, .inl (zA (sepM T mat one))))] H locs := hz
      exact hret ((zU inc one inclined : Int → Int), (zU dri one drifts : Int → Int), (sepM T mat one : Int → Int), ((zOr T (2 ^ one.toNat)) : Int)) dX2_settle_42 (show (zU inc one inclined) = zU inc one inclined ∧ (zU dri one drifts) = zU dri one drifts ∧ (sepM T mat one) = sepM T mat one ∧ (zOr T (2 ^ one.toNat)) = zOr T (2 ^ one.toNat) from ⟨rfl, rfl, rfl, rfl⟩) hz
    ·
      exfalso; omega

set_option maxHeartbeats 4000000 in
set_option maxRecDepth 100000 in
theorem c_X2_act (l : Launch) (D : va_G) (cI cJ cZ : ClassId) (o ai ad am ah ch : Nat) (inc dri mat ahe : Int → Int) (T tm yr kind one w : Int) (hr : (-2147483648 ≤ kind ∧ kind ≤ 2147483647) ∧ (-2147483648 ≤ one ∧ one ≤ 2147483647) ∧ (-1000000 ≤ w ∧ w ≤ 1000000)) (hT : 0 ≤ T ∧ T < 512) (hbi : zBd inc 9 0 179) (hbd : zBd dri 9 (-9) 9) (hbm : zBd mat 9 (-6) 8) (hty : (0 ≤ tm ∧ tm ≤ 1000) ∧ 0 ≤ yr ∧ yr ≤ 100000) : zMw l yX2_act wsX2_act (zRm 3) D cI cJ cZ [.ref o, .int (zI kind), .int (zI one), .int (zI w)] [(o, .inr (2, [.ref ai, .ref ad, .ref am, .ref ah, .ref ch, .int (zI T), .int (zI tm), .int (zI yr)])), (ai, .inl (cI, 9, .inl (zA inc))), (ad, .inl (cI, 9, .inl (zA dri))), (am, .inl (cI, 9, .inl (zA mat))), (ah, .inl (cI, 9, .inl (zA ahe)))] (S := (Int → Int) × (Int → Int) × (Int → Int) × Int × Int) (fun u => u.1 = actI T dri mat inc kind one w ∧ u.2.1 = actM T mat kind one w ∧ u.2.2.2.1 = actH tm yr kind ∧ u.2.2.2.2 = actY yr kind) (fun _ => none) (fun u => [(o, .inr (2, [.ref ai, .ref ad, .ref am, .ref ah, .ref ch, .int (zI T), .int (zI u.2.2.2.1), .int (zI u.2.2.2.2)])), (ai, .inl (cI, 9, .inl (zA u.1))), (ad, .inl (cI, 9, .inl (zA dri))), (am, .inl (cI, 9, .inl (zA u.2.1))), (ah, .inl (cI, 9, .inl (zA u.2.2.1)))]) := by
  refine zMw_v (cc := cX2_act) (maxL := 4) (by decide +kernel) rfl (Nat.le_of_ble_eq_true rfl) rfl (fun _ => rfl) ?_
  intro p e s m args below meth c Q H0 ls F hK hz hl hret
  obtain ⟨hx, hb, hml, hown0, hts⟩ := id F
  have hown : s.vm.findClass RX2 = some m.cls := hown0
  obtain ⟨ws0, hw0⟩ : ∃ w : va_W, w = [(o, .inr (2, [.ref ai, .ref ad, .ref am, .ref ah, .ref ch, .int (zI T), .int (zI tm), .int (zI yr)])), (ai, .inl (cI, 9, .inl (zA inc))), (ad, .inl (cI, 9, .inl (zA dri))), (am, .inl (cI, 9, .inl (zA mat))), (ah, .inl (cI, 9, .inl (zA ahe)))] := ⟨_, rfl⟩
  rw [← hw0] at hret
  have hz : zH D (zF ws0) H0 [(o, .inr (2, [.ref ai, .ref ad, .ref am, .ref ah, .ref ch, .int (zI T), .int (zI tm), .int (zI yr)])), (ai, .inl (cI, 9, .inl (zA inc))), (ad, .inl (cI, 9, .inl (zA dri))), (am, .inl (cI, 9, .inl (zA mat))), (ah, .inl (cI, 9, .inl (zA ahe)))] H0 [] := by rw [hw0]; exact hz
  have hl : lv_has ls 4 [(0, .ref o), (1, .int (zI kind)), (2, .int (zI one)), (3, .int (zI w))] := hl
  refine lv_iload_n hx hb dX2_act_0 rfl (lv_at hl 1 rfl) ?_
  by_cases h1 : kind = 38
  ·
    refine z_tabIn (k := 38) (off := 74) (tgt := 75) hx hb dX2_act_1 (by omega) (by decide) (by decide) (by decide +kernel) (by decide) ?_
    refine lv_aload_n hx hb dX2_act_75 rfl (lv_at hl 0 rfl) ?_
    refine lv_iload_n hx hb dX2_act_76 rfl (lv_at hl 2 rfl) ?_
    refine lv_iload_n hx hb dX2_act_77 rfl (lv_at hl 3 rfl) ?_
    refine z_callVwv (As := [.int (zI one), .int (zI w)]) (rest := []) (C := RX2) (T := TX2) (N := 8) F hK hz hl (c_X2_seat l D cI cJ cZ o ai ad am ah ch mat T tm yr one w (by omega) (by first | assumption | omega)) (cwV 2 hts gX2_act_X2_seat rfl rfl rfl (by decide +kernel) ⟨Nat.le_of_ble_eq_true rfl, Nat.le_of_ble_eq_true rfl⟩) rfl 0 rfl [0, 3] rfl rfl (by decide +kernel) rfl rfl (Nat.le_of_ble_eq_true rfl) ⟨Nat.le_of_ble_eq_true rfl, Nat.le_of_ble_eq_true rfl⟩ dX2_act_78 (fun u H locs hu hz => ?_)
    obtain ⟨mat1_1, hu9⟩ : ∃ z, z = u := ⟨_, rfl⟩
    subst hu9
    have hu : mat1_1 = seaM T mat one w := hu
    have g78_0 := hu
    have g78_0 := g78_0.symm
    subst g78_0
    have hz : zH D (zF ws0) H0 [(o, .inr (2, [.ref ai, .ref ad, .ref am, .ref ah, .ref ch, .int (zI T), .int (zI tm), .int (zI yr)])), (ai, .inl (cI, 9, .inl (zA inc))), (ad, .inl (cI, 9, .inl (zA dri))), (am, .inl (cI, 9, .inl (zA (seaM T mat one w)))), (ah, .inl (cI, 9, .inl (zA ahe)))] H locs := hz
    refine lv_goto (tgt := 99) hx hb dX2_act_81 (by decide) ?_
    exact hret ((inc : Int → Int), (seaM T mat one w : Int → Int), (ahe : Int → Int), (tm : Int), (yr : Int)) dX2_act_99 (show inc = actI T dri mat inc kind one w ∧ (seaM T mat one w) = actM T mat kind one w ∧ tm = actH tm yr kind ∧ yr = actY yr kind from ⟨by simp [actI, h1], by simp [actM, h1], by simp [actH, h1], by simp [actY, h1]⟩) hz
  ·
    by_cases h1q : kind = 39
    ·
      refine z_tabIn (k := 39) (off := 98) (tgt := 99) hx hb dX2_act_1 (by omega) (by decide) (by decide) (by decide +kernel) (by decide) ?_
      exact hret ((inc : Int → Int), (mat : Int → Int), (ahe : Int → Int), (tm : Int), (yr : Int)) dX2_act_99 (show inc = actI T dri mat inc kind one w ∧ mat = actM T mat kind one w ∧ tm = actH tm yr kind ∧ yr = actY yr kind from ⟨by simp [actI, h1, h1q], by simp [actM, h1, h1q], by simp [actH, h1, h1q], by simp [actY, h1, h1q]⟩) hz
    ·
      by_cases h1qq : kind = 40
      ·
        refine z_tabIn (k := 40) (off := 98) (tgt := 99) hx hb dX2_act_1 (by omega) (by decide) (by decide) (by decide +kernel) (by decide) ?_
        exact hret ((inc : Int → Int), (mat : Int → Int), (ahe : Int → Int), (tm : Int), (yr : Int)) dX2_act_99 (show inc = actI T dri mat inc kind one w ∧ mat = actM T mat kind one w ∧ tm = actH tm yr kind ∧ yr = actY yr kind from ⟨by simp [actI, h1, h1q, h1qq], by simp [actM, h1, h1q, h1qq], by simp [actH, h1, h1q, h1qq], by simp [actY, h1, h1q, h1qq]⟩) hz
      ·
        by_cases h1qqq : kind = 41
        ·
          refine z_tabIn (k := 41) (off := 98) (tgt := 99) hx hb dX2_act_1 (by omega) (by decide) (by decide) (by decide +kernel) (by decide) ?_
          exact hret ((inc : Int → Int), (mat : Int → Int), (ahe : Int → Int), (tm : Int), (yr : Int)) dX2_act_99 (show inc = actI T dri mat inc kind one w ∧ mat = actM T mat kind one w ∧ tm = actH tm yr kind ∧ yr = actY yr kind from ⟨by simp [actI, h1, h1q, h1qq, h1qqq], by simp [actM, h1, h1q, h1qq, h1qqq], by simp [actH, h1, h1q, h1qq, h1qqq], by simp [actY, h1, h1q, h1qq, h1qqq]⟩) hz
        ·
          by_cases h1qqqq : kind = 42
          ·
            refine z_tabIn (k := 42) (off := 98) (tgt := 99) hx hb dX2_act_1 (by omega) (by decide) (by decide) (by decide +kernel) (by decide) ?_
            exact hret ((inc : Int → Int), (mat : Int → Int), (ahe : Int → Int), (tm : Int), (yr : Int)) dX2_act_99 (show inc = actI T dri mat inc kind one w ∧ mat = actM T mat kind one w ∧ tm = actH tm yr kind ∧ yr = actY yr kind from ⟨by simp [actI, h1, h1q, h1qq, h1qqq, h1qqqq], by simp [actM, h1, h1q, h1qq, h1qqq, h1qqqq], by simp [actH, h1, h1q, h1qq, h1qqq, h1qqqq], by simp [actY, h1, h1q, h1qq, h1qqq, h1qqqq]⟩) hz
          ·
            by_cases h1qqqqq : kind = 43
            ·
              refine z_tabIn (k := 43) (off := 55) (tgt := 56) hx hb dX2_act_1 (by omega) (by decide) (by decide) (by decide +kernel) (by decide) ?_
              refine lv_aload_n hx hb dX2_act_56 rfl (lv_at hl 0 rfl) ?_
              refine lv_iload_n hx hb dX2_act_57 rfl (lv_at hl 2 rfl) ?_
              refine lv_iload_n hx hb dX2_act_58 rfl (lv_at hl 3 rfl) ?_
              refine z_callVwv (As := [.int (zI one), .int (zI w)]) (rest := []) (C := RX2) (T := TX2) (N := 8) F hK hz hl (c_X2_turnBy l D cI cJ cZ o ai ad am ah ch inc T tm yr one w (by omega) (by first | assumption | omega) (hbi) (by omega)) (cwV 2 hts gX2_act_X2_turnBy rfl rfl rfl (by decide +kernel) ⟨Nat.le_of_ble_eq_true rfl, Nat.le_of_ble_eq_true rfl⟩) rfl 0 rfl [0, 1] rfl rfl (by decide +kernel) rfl rfl (Nat.le_of_ble_eq_true rfl) ⟨Nat.le_of_ble_eq_true rfl, Nat.le_of_ble_eq_true rfl⟩ dX2_act_59 (fun u H locs hu hz => ?_)
              obtain ⟨inc1_2, hu9⟩ : ∃ z, z = u := ⟨_, rfl⟩
              subst hu9
              have hu : inc1_2 = turI T inc one w := hu
              have g59_0 := hu
              have g59_0 := g59_0.symm
              subst g59_0
              have hz : zH D (zF ws0) H0 [(o, .inr (2, [.ref ai, .ref ad, .ref am, .ref ah, .ref ch, .int (zI T), .int (zI tm), .int (zI yr)])), (ai, .inl (cI, 9, .inl (zA (turI T inc one w)))), (ad, .inl (cI, 9, .inl (zA dri))), (am, .inl (cI, 9, .inl (zA mat))), (ah, .inl (cI, 9, .inl (zA ahe)))] H locs := hz
              refine lv_goto (tgt := 99) hx hb dX2_act_62 (by decide) ?_
              exact hret ((turI T inc one w : Int → Int), (mat : Int → Int), (ahe : Int → Int), (tm : Int), (yr : Int)) dX2_act_99 (show (turI T inc one w) = actI T dri mat inc kind one w ∧ mat = actM T mat kind one w ∧ tm = actH tm yr kind ∧ yr = actY yr kind from ⟨by simp [actI, h1, h1q, h1qq, h1qqq, h1qqqq, h1qqqqq], by simp [actM, h1, h1q, h1qq, h1qqq, h1qqqq, h1qqqqq], by simp [actH, h1, h1q, h1qq, h1qqq, h1qqqq, h1qqqqq], by simp [actY, h1, h1q, h1qq, h1qqq, h1qqqq, h1qqqqq]⟩) hz
            ·
              by_cases h1qqqqqq : kind = 44
              ·
                refine z_tabIn (k := 44) (off := 98) (tgt := 99) hx hb dX2_act_1 (by omega) (by decide) (by decide) (by decide +kernel) (by decide) ?_
                exact hret ((inc : Int → Int), (mat : Int → Int), (ahe : Int → Int), (tm : Int), (yr : Int)) dX2_act_99 (show inc = actI T dri mat inc kind one w ∧ mat = actM T mat kind one w ∧ tm = actH tm yr kind ∧ yr = actY yr kind from ⟨by simp [actI, h1, h1q, h1qq, h1qqq, h1qqqq, h1qqqqq, h1qqqqqq], by simp [actM, h1, h1q, h1qq, h1qqq, h1qqqq, h1qqqqq, h1qqqqqq], by simp [actH, h1, h1q, h1qq, h1qqq, h1qqqq, h1qqqqq, h1qqqqqq], by simp [actY, h1, h1q, h1qq, h1qqq, h1qqqq, h1qqqqq, h1qqqqqq]⟩) hz
              ·
                by_cases h1qqqqqqq : kind = 45
                ·
                  refine z_tabIn (k := 45) (off := 64) (tgt := 65) hx hb dX2_act_1 (by omega) (by decide) (by decide) (by decide +kernel) (by decide) ?_
                  refine lv_aload_n hx hb dX2_act_65 rfl (lv_at hl 0 rfl) ?_
                  refine lv_iload_n hx hb dX2_act_66 rfl (lv_at hl 2 rfl) ?_
                  refine lv_iload_n hx hb dX2_act_67 rfl (lv_at hl 3 rfl) ?_
                  refine z_ineg hx hb dX2_act_68 ?_
                  refine z_callVwv (As := [.int (zI one), .int (zI (-w))]) (rest := []) (C := RX2) (T := TX2) (N := 8) F hK hz hl (c_X2_turnBy l D cI cJ cZ o ai ad am ah ch inc T tm yr one (-w) (by omega) (by first | assumption | omega) (hbi) (by omega)) (cwV 2 hts gX2_act_X2_turnBy rfl rfl rfl (by decide +kernel) ⟨Nat.le_of_ble_eq_true rfl, Nat.le_of_ble_eq_true rfl⟩) rfl 0 rfl [0, 1] rfl rfl (by decide +kernel) rfl rfl (Nat.le_of_ble_eq_true rfl) ⟨Nat.le_of_ble_eq_true rfl, Nat.le_of_ble_eq_true rfl⟩ dX2_act_69 (fun u H locs hu hz => ?_)
                  obtain ⟨inc1_3, hu9⟩ : ∃ z, z = u := ⟨_, rfl⟩
                  subst hu9
                  have hu : inc1_3 = turI T inc one (-w) := hu
                  have g69_0 := hu
                  have g69_0 := g69_0.symm
                  subst g69_0
                  have hz : zH D (zF ws0) H0 [(o, .inr (2, [.ref ai, .ref ad, .ref am, .ref ah, .ref ch, .int (zI T), .int (zI tm), .int (zI yr)])), (ai, .inl (cI, 9, .inl (zA (turI T inc one (-w))))), (ad, .inl (cI, 9, .inl (zA dri))), (am, .inl (cI, 9, .inl (zA mat))), (ah, .inl (cI, 9, .inl (zA ahe)))] H locs := hz
                  refine lv_goto (tgt := 99) hx hb dX2_act_72 (by decide) ?_
                  exact hret ((turI T inc one (-w) : Int → Int), (mat : Int → Int), (ahe : Int → Int), (tm : Int), (yr : Int)) dX2_act_99 (show (turI T inc one (-w)) = actI T dri mat inc kind one w ∧ mat = actM T mat kind one w ∧ tm = actH tm yr kind ∧ yr = actY yr kind from ⟨by simp [actI, h1, h1q, h1qq, h1qqq, h1qqqq, h1qqqqq, h1qqqqqq, h1qqqqqqq], by simp [actM, h1, h1q, h1qq, h1qqq, h1qqqq, h1qqqqq, h1qqqqqq, h1qqqqqqq], by simp [actH, h1, h1q, h1qq, h1qqq, h1qqqq, h1qqqqq, h1qqqqqq, h1qqqqqqq], by simp [actY, h1, h1q, h1qq, h1qqq, h1qqqq, h1qqqqq, h1qqqqqq, h1qqqqqqq]⟩) hz
                ·
                  by_cases h1qqqqqqqq : kind = 46
                  ·
                    refine z_tabIn (k := 46) (off := 91) (tgt := 92) hx hb dX2_act_1 (by omega) (by decide) (by decide) (by decide +kernel) (by decide) ?_
                    refine lv_aload_n hx hb dX2_act_92 rfl (lv_at hl 0 rfl) ?_
                    refine z_callVwv (As := []) (rest := []) (C := RX2) (T := TX2) (N := 8) F hK hz hl (c_X2_passYear l D cI cJ cZ o ai ad am ah ch inc dri mat ahe T tm yr (by first | assumption | omega) (hbi) (hbd) (hbm) (by omega)) (cwV 0 hts gX2_act_X2_passYear rfl rfl rfl (by decide +kernel) ⟨Nat.le_of_ble_eq_true rfl, Nat.le_of_ble_eq_true rfl⟩) rfl 0 rfl [0, 1, 2, 3, 4] rfl rfl (by decide +kernel) rfl rfl (Nat.le_of_ble_eq_true rfl) ⟨Nat.le_of_ble_eq_true rfl, Nat.le_of_ble_eq_true rfl⟩ dX2_act_93 (fun u H locs hu hz => ?_)
                    obtain ⟨inc1_4, ah1_5, tm1_6, yr1_7⟩ := u
                    have hu : inc1_4 = yeaI T dri mat inc ∧ tm1_6 = yeaH tm yr ∧ yr1_7 = yr + 1 := hu
                    obtain ⟨g93_0, g93_1, g93_2⟩ := hu
                    have g93_0 := g93_0.symm
                    subst g93_0
                    have g93_1 := g93_1.symm
                    subst g93_1
                    have g93_2 := g93_2.symm
                    subst g93_2
                    have hz : zH D (zF ws0) H0 [(o, .inr (2, [.ref ai, .ref ad, .ref am, .ref ah, .ref ch, .int (zI T), .int (zI (yeaH tm yr)), .int (zI (yr + 1))])), (ai, .inl (cI, 9, .inl (zA (yeaI T dri mat inc)))), (ad, .inl (cI, 9, .inl (zA dri))), (am, .inl (cI, 9, .inl (zA mat))), (ah, .inl (cI, 9, .inl (zA ah1_5)))] H locs := hz
                    refine lv_goto (tgt := 99) hx hb dX2_act_96 (by decide) ?_
                    exact hret ((yeaI T dri mat inc : Int → Int), (mat : Int → Int), (ah1_5 : Int → Int), ((yeaH tm yr) : Int), ((yr + 1) : Int)) dX2_act_99 (show (yeaI T dri mat inc) = actI T dri mat inc kind one w ∧ mat = actM T mat kind one w ∧ (yeaH tm yr) = actH tm yr kind ∧ (yr + 1) = actY yr kind from ⟨by simp [actI, h1, h1q, h1qq, h1qqq, h1qqqq, h1qqqqq, h1qqqqqq, h1qqqqqqq, h1qqqqqqqq], by simp [actM, h1, h1q, h1qq, h1qqq, h1qqqq, h1qqqqq, h1qqqqqq, h1qqqqqqq, h1qqqqqqqq], by simp [actH, h1, h1q, h1qq, h1qqq, h1qqqq, h1qqqqq, h1qqqqqq, h1qqqqqqq, h1qqqqqqqq], by simp [actY, h1, h1q, h1qq, h1qqq, h1qqqq, h1qqqqq, h1qqqqqq, h1qqqqqqq, h1qqqqqqqq]⟩) hz
                  ·
                    by_cases h1qqqqqqqqq : kind = 47
                    ·
                      refine z_tabIn (k := 47) (off := 83) (tgt := 84) hx hb dX2_act_1 (by omega) (by decide) (by decide) (by decide +kernel) (by decide) ?_
                      refine lv_aload_n hx hb dX2_act_84 rfl (lv_at hl 0 rfl) ?_
                      refine lv_iload_n hx hb dX2_act_85 rfl (lv_at hl 2 rfl) ?_
                      refine z_callVwv (As := [.int (zI one)]) (rest := []) (C := RX2) (T := TX2) (N := 8) F hK hz hl (c_X2_separate l D cI cJ cZ o ai ad am ah ch mat T tm yr one (by omega) (by first | assumption | omega) (hbm)) (cwV 1 hts gX2_act_X2_separate rfl rfl rfl (by decide +kernel) ⟨Nat.le_of_ble_eq_true rfl, Nat.le_of_ble_eq_true rfl⟩) rfl 0 rfl [0, 3] rfl rfl (by decide +kernel) rfl rfl (Nat.le_of_ble_eq_true rfl) ⟨Nat.le_of_ble_eq_true rfl, Nat.le_of_ble_eq_true rfl⟩ dX2_act_86 (fun u H locs hu hz => ?_)
                      obtain ⟨mat1_8, hu9⟩ : ∃ z, z = u := ⟨_, rfl⟩
                      subst hu9
                      have hu : mat1_8 = sepM T mat one := hu
                      have g86_0 := hu
                      have g86_0 := g86_0.symm
                      subst g86_0
                      have hz : zH D (zF ws0) H0 [(o, .inr (2, [.ref ai, .ref ad, .ref am, .ref ah, .ref ch, .int (zI T), .int (zI tm), .int (zI yr)])), (ai, .inl (cI, 9, .inl (zA inc))), (ad, .inl (cI, 9, .inl (zA dri))), (am, .inl (cI, 9, .inl (zA (sepM T mat one)))), (ah, .inl (cI, 9, .inl (zA ahe)))] H locs := hz
                      refine lv_goto (tgt := 99) hx hb dX2_act_89 (by decide) ?_
                      exact hret ((inc : Int → Int), (sepM T mat one : Int → Int), (ahe : Int → Int), (tm : Int), (yr : Int)) dX2_act_99 (show inc = actI T dri mat inc kind one w ∧ (sepM T mat one) = actM T mat kind one w ∧ tm = actH tm yr kind ∧ yr = actY yr kind from ⟨by simp [actI, h1, h1q, h1qq, h1qqq, h1qqqq, h1qqqqq, h1qqqqqq, h1qqqqqqq, h1qqqqqqqq, h1qqqqqqqqq], by simp [actM, h1, h1q, h1qq, h1qqq, h1qqqq, h1qqqqq, h1qqqqqq, h1qqqqqqq, h1qqqqqqqq, h1qqqqqqqqq], by simp [actH, h1, h1q, h1qq, h1qqq, h1qqqq, h1qqqqq, h1qqqqqq, h1qqqqqqq, h1qqqqqqqq, h1qqqqqqqqq], by simp [actY, h1, h1q, h1qq, h1qqq, h1qqqq, h1qqqqq, h1qqqqqq, h1qqqqqqq, h1qqqqqqqq, h1qqqqqqqqq]⟩) hz
                    ·
                      refine z_tabOut (tgt := 99) hx hb dX2_act_1 (by omega) (by omega) (by decide) ?_
                      exact hret ((inc : Int → Int), (mat : Int → Int), (ahe : Int → Int), (tm : Int), (yr : Int)) dX2_act_99 (show inc = actI T dri mat inc kind one w ∧ mat = actM T mat kind one w ∧ tm = actH tm yr kind ∧ yr = actY yr kind from ⟨by simp [actI, h1, h1q, h1qq, h1qqq, h1qqqq, h1qqqqq, h1qqqqqq, h1qqqqqqq, h1qqqqqqqq, h1qqqqqqqqq], by simp [actM, h1, h1q, h1qq, h1qqq, h1qqqq, h1qqqqq, h1qqqqqq, h1qqqqqqq, h1qqqqqqqq, h1qqqqqqqqq], by simp [actH, h1, h1q, h1qq, h1qqq, h1qqqq, h1qqqqq, h1qqqqqq, h1qqqqqqq, h1qqqqqqqq, h1qqqqqqqqq], by simp [actY, h1, h1q, h1qq, h1qqq, h1qqqq, h1qqqqq, h1qqqqqq, h1qqqqqqq, h1qqqqqqqq, h1qqqqqqqqq]⟩) hz

set_option maxRecDepth 20000 in
theorem hin_X1_become_X1 : ∀ w ∈ u_ws RX1 TX1 3, w ∈ wsX1_become := by decide +kernel
set_option maxRecDepth 20000 in
theorem fl_X1_become_18 : Cond.fieldLink RX1 18 "HornCity$Chalks" "count" "I" ∈ wsX1_become := by decide +kernel
set_option maxRecDepth 20000 in
theorem fl_X1_become_9 : Cond.fieldLink RX1 9 "HornCity$Chalks" "inYears" "[I" ∈ wsX1_become := by decide +kernel
set_option maxRecDepth 20000 in
theorem fl_X1_become_15 : Cond.fieldLink RX1 15 "HornCity$Chalks" "marks" "[I" ∈ wsX1_become := by decide +kernel
set_option maxHeartbeats 4000000 in
set_option maxRecDepth 100000 in
theorem c_X1_become (l : Launch) (D : va_G) (cI cJ cZ : ClassId) (ch iy mk ch2 iy2 mk2 : Nat) (iyf mkf iyf2 mkf2 : Int → Int) (cn cn2 : Int) : zMw l yX1_become wsX1_become (zRm 0) D cI cJ cZ [.ref ch, .ref ch2] [(ch, .inr (1, [.ref iy, .ref mk, .int (zI cn)])), (iy, .inl (cI, 8, .inl (zA iyf))), (mk, .inl (cI, 8, .inl (zA mkf))), (ch2, .inr (1, [.ref iy2, .ref mk2, .int (zI cn2)])), (iy2, .inl (cI, 8, .inl (zA iyf2))), (mk2, .inl (cI, 8, .inl (zA mkf2)))] (S := (Int → Int) × (Int → Int) × Int) (fun u => u.1 = iyf2 ∧ u.2.1 = mkf2 ∧ u.2.2 = cn2) (fun _ => none) (fun u => [(ch, .inr (1, [.ref iy, .ref mk, .int (zI u.2.2)])), (iy, .inl (cI, 8, .inl (zA u.1))), (mk, .inl (cI, 8, .inl (zA u.2.1))), (ch2, .inr (1, [.ref iy2, .ref mk2, .int (zI cn2)])), (iy2, .inl (cI, 8, .inl (zA iyf2))), (mk2, .inl (cI, 8, .inl (zA mkf2)))]) := by
  refine zMw_v (cc := cX1_become) (maxL := 3) (by decide +kernel) rfl (Nat.le_of_ble_eq_true rfl) rfl (fun _ => rfl) ?_
  intro p e s m args below meth c Q H0 ls F hK hz hl hret
  obtain ⟨hx, hb, hml, hown0, hts⟩ := id F
  have hown : s.vm.findClass RX1 = some m.cls := hown0
  obtain ⟨ws0, hw0⟩ : ∃ w : va_W, w = [(ch, .inr (1, [.ref iy, .ref mk, .int (zI cn)])), (iy, .inl (cI, 8, .inl (zA iyf))), (mk, .inl (cI, 8, .inl (zA mkf))), (ch2, .inr (1, [.ref iy2, .ref mk2, .int (zI cn2)])), (iy2, .inl (cI, 8, .inl (zA iyf2))), (mk2, .inl (cI, 8, .inl (zA mkf2)))] := ⟨_, rfl⟩
  rw [← hw0] at hret
  have hz : zH D (zF ws0) H0 [(ch, .inr (1, [.ref iy, .ref mk, .int (zI cn)])), (iy, .inl (cI, 8, .inl (zA iyf))), (mk, .inl (cI, 8, .inl (zA mkf))), (ch2, .inr (1, [.ref iy2, .ref mk2, .int (zI cn2)])), (iy2, .inl (cI, 8, .inl (zA iyf2))), (mk2, .inl (cI, 8, .inl (zA mkf2)))] H0 [] := by rw [hw0]; exact hz
  have hl : lv_has ls 3 [(0, .ref ch), (1, .ref ch2)] := hl
  refine z_iconst hx hb dX1_become_0 ?_
  refine lv_istore_n (lv' := [(2, .int (zI 0)), (0, .ref ch), (1, .ref ch2)]) hx hb dX1_become_1 rfl hl (Nat.le_of_ble_eq_true rfl) rfl (fun ls hl => ?_)
  have L2 : ∀ (n : Nat) (i : Int) (yx mx : Int → Int) (H : Heap) (locs : List Loc) (ls : Array Slot), ((8 - i).toNat = n) → (0 ≤ i ∧ i ≤ 8) → (∀ j, 0 ≤ j → j < i → yx j = iyf2 j) → (∀ j, 0 ≤ j → j < i → mx j = mkf2 j) → zH D (zF ws0) H0 [(ch, .inr (1, [.ref iy, .ref mk, .int (zI cn)])), (iy, .inl (cI, 8, .inl (zA yx))), (mk, .inl (cI, 8, .inl (zA mx))), (ch2, .inr (1, [.ref iy2, .ref mk2, .int (zI cn2)])), (iy2, .inl (cI, 8, .inl (zA iyf2))), (mk2, .inl (cI, 8, .inl (zA mkf2)))] H locs → lv_has ls 3 [(2, .int (zI i)), (0, .ref ch), (1, .ref ch2)] → W p l e (zRm 0) s m args below meth c H locs 0 0 Q (F0 m 2 ls []) := by
    intro n
    refine Nat.strongRecOn n ?_
    intro n ih2 i yx mx H locs ls hn2 h0 hyx hmx hz hl
    refine lv_iload_n hx hb dX1_become_2 rfl (lv_at hl 0 rfl) ?_
    refine z_bipush hx hb dX1_become_3 (by decide) ?_
    refine z_icmp_ge (tgt := 38) hx hb dX1_become_5 (by decide) (by omega) (by decide) (fun h5 => ?_) (fun h5 => ?_)
    ·
      have hz := zH_ext hz 1 iyf2 rfl (fun j a b => hyx j a (by omega))
      have hz : zH D (zF ws0) H0 [(ch, .inr (1, [.ref iy, .ref mk, .int (zI cn)])), (iy, .inl (cI, 8, .inl (zA iyf2))), (mk, .inl (cI, 8, .inl (zA mx))), (ch2, .inr (1, [.ref iy2, .ref mk2, .int (zI cn2)])), (iy2, .inl (cI, 8, .inl (zA iyf2))), (mk2, .inl (cI, 8, .inl (zA mkf2)))] H locs := hz
      have hz := zH_ext hz 2 mkf2 rfl (fun j a b => hmx j a (by omega))
      have hz : zH D (zF ws0) H0 [(ch, .inr (1, [.ref iy, .ref mk, .int (zI cn)])), (iy, .inl (cI, 8, .inl (zA iyf2))), (mk, .inl (cI, 8, .inl (zA mkf2))), (ch2, .inr (1, [.ref iy2, .ref mk2, .int (zI cn2)])), (iy2, .inl (cI, 8, .inl (zA iyf2))), (mk2, .inl (cI, 8, .inl (zA mkf2)))] H locs := hz
      refine lv_aload_n hx hb dX1_become_38 rfl (lv_at hl 1 rfl) ?_
      refine lv_aload_n hx hb dX1_become_39 rfl (lv_at hl 2 rfl) ?_
      refine z_get (C := RX1) (T := TX1) (N := 3) (ref := "HornCity$Chalks") hx hb hts hin_X1_become_X1 hown hK hz 3 rfl rfl 2 (by decide) (hts _ fl_X1_become_18) rfl rfl dX1_become_40 ?_
      refine z_put (C := RX1) (T := TX1) (N := 3) (ref := "HornCity$Chalks") (ty := .int) hx hb hts hin_X1_become_X1 hown hK hz tyX1 tyX1_ok nmX1 0 rfl rfl 2 (by decide) (hts _ fl_X1_become_18) rfl rfl (by decide +kernel) rfl rfl (Nat.le_of_ble_eq_true rfl) dX1_become_43 (fun H locs hz => ?_)
      have hz : zH D (zF ws0) H0 [(ch, .inr (1, [.ref iy, .ref mk, .int (zI cn2)])), (iy, .inl (cI, 8, .inl (zA iyf2))), (mk, .inl (cI, 8, .inl (zA mkf2))), (ch2, .inr (1, [.ref iy2, .ref mk2, .int (zI cn2)])), (iy2, .inl (cI, 8, .inl (zA iyf2))), (mk2, .inl (cI, 8, .inl (zA mkf2)))] H locs := hz
      exact hret ((iyf2 : Int → Int), (mkf2 : Int → Int), (cn2 : Int)) dX1_become_46 (show iyf2 = iyf2 ∧ mkf2 = mkf2 ∧ cn2 = cn2 from ⟨rfl, rfl, rfl⟩) hz
    ·
      refine lv_aload_n hx hb dX1_become_8 rfl (lv_at hl 1 rfl) ?_
      refine z_get (C := RX1) (T := TX1) (N := 3) (ref := "HornCity$Chalks") hx hb hts hin_X1_become_X1 hown hK hz 0 rfl rfl 0 (by decide) (hts _ fl_X1_become_9) rfl rfl dX1_become_9 ?_
      refine lv_iload_n hx hb dX1_become_12 rfl (lv_at hl 0 rfl) ?_
      refine lv_aload_n hx hb dX1_become_13 rfl (lv_at hl 2 rfl) ?_
      refine z_get (C := RX1) (T := TX1) (N := 3) (ref := "HornCity$Chalks") hx hb hts hin_X1_become_X1 hown hK hz 3 rfl rfl 0 (by decide) (hts _ fl_X1_become_9) rfl rfl dX1_become_14 ?_
      refine lv_iload_n hx hb dX1_become_17 rfl (lv_at hl 0 rfl) ?_
      refine z_iald hx hb hK hz 4 rfl (by omega) (by decide) dX1_become_18 ?_
      refine z_iast hx hb hK hz 1 rfl (by omega) (by decide) dX1_become_19 (fun H locs hz => ?_)
      have hz : zH D (zF ws0) H0 [(ch, .inr (1, [.ref iy, .ref mk, .int (zI cn)])), (iy, .inl (cI, 8, .inl (zA (zU yx i (iyf2 i))))), (mk, .inl (cI, 8, .inl (zA mx))), (ch2, .inr (1, [.ref iy2, .ref mk2, .int (zI cn2)])), (iy2, .inl (cI, 8, .inl (zA iyf2))), (mk2, .inl (cI, 8, .inl (zA mkf2)))] H locs := hz
      refine lv_aload_n hx hb dX1_become_20 rfl (lv_at hl 1 rfl) ?_
      refine z_get (C := RX1) (T := TX1) (N := 3) (ref := "HornCity$Chalks") hx hb hts hin_X1_become_X1 hown hK hz 0 rfl rfl 1 (by decide) (hts _ fl_X1_become_15) rfl rfl dX1_become_21 ?_
      refine lv_iload_n hx hb dX1_become_24 rfl (lv_at hl 0 rfl) ?_
      refine lv_aload_n hx hb dX1_become_25 rfl (lv_at hl 2 rfl) ?_
      refine z_get (C := RX1) (T := TX1) (N := 3) (ref := "HornCity$Chalks") hx hb hts hin_X1_become_X1 hown hK hz 3 rfl rfl 1 (by decide) (hts _ fl_X1_become_15) rfl rfl dX1_become_26 ?_
      refine lv_iload_n hx hb dX1_become_29 rfl (lv_at hl 0 rfl) ?_
      refine z_iald hx hb hK hz 5 rfl (by omega) (by decide) dX1_become_30 ?_
      refine z_iast hx hb hK hz 2 rfl (by omega) (by decide) dX1_become_31 (fun H locs hz => ?_)
      have hz : zH D (zF ws0) H0 [(ch, .inr (1, [.ref iy, .ref mk, .int (zI cn)])), (iy, .inl (cI, 8, .inl (zA (zU yx i (iyf2 i))))), (mk, .inl (cI, 8, .inl (zA (zU mx i (mkf2 i))))), (ch2, .inr (1, [.ref iy2, .ref mk2, .int (zI cn2)])), (iy2, .inl (cI, 8, .inl (zA iyf2))), (mk2, .inl (cI, 8, .inl (zA mkf2)))] H locs := hz
      refine z_iinc (lv' := [(2, .int (zI (i + 1))), (0, .ref ch), (1, .ref ch2)]) hx hb dX1_become_32 hl (k := 0) rfl (Nat.le_of_ble_eq_true rfl) rfl (fun ls hl => ?_)
      refine lv_goto (tgt := 2) hx hb dX1_become_35 (by decide) ?_
      exact ih2 _ (by omega) (i + 1) (zU yx i (iyf2 i)) (zU mx i (mkf2 i)) H locs ls rfl (by omega) (zU_cp hyx) (zU_cp hmx) hz (lv_sub hl [0, 1, 2] rfl)
  exact L2 _ 0 iyf mkf H0 [] ls rfl (by decide) (fun j h1 h2 => absurd h1 (by omega)) (fun j h1 h2 => absurd h1 (by omega)) hz (lv_sub hl [0, 1, 2] rfl)

set_option maxRecDepth 20000 in
theorem hin_X1_put_X1 : ∀ w ∈ u_ws RX1 TX1 3, w ∈ wsX1_put := by decide +kernel
set_option maxRecDepth 20000 in
theorem fl_X1_put_18 : Cond.fieldLink RX1 18 "HornCity$Chalks" "count" "I" ∈ wsX1_put := by decide +kernel
set_option maxRecDepth 20000 in
theorem fl_X1_put_9 : Cond.fieldLink RX1 9 "HornCity$Chalks" "inYears" "[I" ∈ wsX1_put := by decide +kernel
set_option maxRecDepth 20000 in
theorem fl_X1_put_15 : Cond.fieldLink RX1 15 "HornCity$Chalks" "marks" "[I" ∈ wsX1_put := by decide +kernel
set_option maxHeartbeats 4000000 in
set_option maxRecDepth 100000 in
theorem c_X1_put (l : Launch) (D : va_G) (cI cJ cZ : ClassId) (ch iy mk : Nat) (iyf mkf : Int → Int) (cn year mark : Int) (hcn : 0 ≤ cn ∧ cn ≤ 8) : zMw l yX1_put wsX1_put (zRm 0) D cI cJ cZ [.ref ch, .int (zI year), .int (zI mark)] [(ch, .inr (1, [.ref iy, .ref mk, .int (zI cn)])), (iy, .inl (cI, 8, .inl (zA iyf))), (mk, .inl (cI, 8, .inl (zA mkf)))] (S := Int × (Int → Int) × (Int → Int) × Int) (fun u => u.1 = (if cn < 8 then 1 else 0) ∧ u.2.1 = (if cn < 8 then zU iyf cn year else iyf) ∧ u.2.2.1 = (if cn < 8 then zU mkf cn mark else mkf) ∧ u.2.2.2 = (if cn < 8 then cn + 1 else cn)) (fun u => some (.int (zI u.1))) (fun u => [(ch, .inr (1, [.ref iy, .ref mk, .int (zI u.2.2.2)])), (iy, .inl (cI, 8, .inl (zA u.2.1))), (mk, .inl (cI, 8, .inl (zA u.2.2.1)))]) := by
  refine zMw_z (cc := cX1_put) (maxL := 3) (by decide +kernel) rfl (Nat.le_of_ble_eq_true rfl) rfl (fun _ => rfl) ?_
  intro p e s m args below meth c Q H0 ls F hK hz hl hret
  obtain ⟨hx, hb, hml, hown0, hts⟩ := id F
  have hown : s.vm.findClass RX1 = some m.cls := hown0
  obtain ⟨ws0, hw0⟩ : ∃ w : va_W, w = [(ch, .inr (1, [.ref iy, .ref mk, .int (zI cn)])), (iy, .inl (cI, 8, .inl (zA iyf))), (mk, .inl (cI, 8, .inl (zA mkf)))] := ⟨_, rfl⟩
  rw [← hw0] at hret
  have hz : zH D (zF ws0) H0 [(ch, .inr (1, [.ref iy, .ref mk, .int (zI cn)])), (iy, .inl (cI, 8, .inl (zA iyf))), (mk, .inl (cI, 8, .inl (zA mkf)))] H0 [] := by rw [hw0]; exact hz
  have hl : lv_has ls 3 [(0, .ref ch), (1, .int (zI year)), (2, .int (zI mark))] := hl
  refine lv_aload_n hx hb dX1_put_0 rfl (lv_at hl 0 rfl) ?_
  refine z_get (C := RX1) (T := TX1) (N := 3) (ref := "HornCity$Chalks") hx hb hts hin_X1_put_X1 hown hK hz 0 rfl rfl 2 (by decide) (hts _ fl_X1_put_18) rfl rfl dX1_put_1 ?_
  refine z_if_lt (tgt := 16) hx hb dX1_put_4 (by decide) (by omega) (fun h4 => ?_) (fun h4 => ?_)
  ·
    exfalso; omega
  ·
    refine lv_aload_n hx hb dX1_put_7 rfl (lv_at hl 0 rfl) ?_
    refine z_get (C := RX1) (T := TX1) (N := 3) (ref := "HornCity$Chalks") hx hb hts hin_X1_put_X1 hown hK hz 0 rfl rfl 2 (by decide) (hts _ fl_X1_put_18) rfl rfl dX1_put_8 ?_
    refine z_bipush hx hb dX1_put_11 (by decide) ?_
    refine z_icmp_lt (tgt := 18) hx hb dX1_put_13 (by decide) (by omega) (by decide) (fun h13 => ?_) (fun h13 => ?_)
    ·
      refine lv_aload_n hx hb dX1_put_18 rfl (lv_at hl 0 rfl) ?_
      refine z_get (C := RX1) (T := TX1) (N := 3) (ref := "HornCity$Chalks") hx hb hts hin_X1_put_X1 hown hK hz 0 rfl rfl 0 (by decide) (hts _ fl_X1_put_9) rfl rfl dX1_put_19 ?_
      refine lv_aload_n hx hb dX1_put_22 rfl (lv_at hl 0 rfl) ?_
      refine z_get (C := RX1) (T := TX1) (N := 3) (ref := "HornCity$Chalks") hx hb hts hin_X1_put_X1 hown hK hz 0 rfl rfl 2 (by decide) (hts _ fl_X1_put_18) rfl rfl dX1_put_23 ?_
      refine lv_iload_n hx hb dX1_put_26 rfl (lv_at hl 1 rfl) ?_
      refine z_iast hx hb hK hz 1 rfl (by omega) (by decide) dX1_put_27 (fun H locs hz => ?_)
      have hz : zH D (zF ws0) H0 [(ch, .inr (1, [.ref iy, .ref mk, .int (zI cn)])), (iy, .inl (cI, 8, .inl (zA (zU iyf cn year)))), (mk, .inl (cI, 8, .inl (zA mkf)))] H locs := hz
      refine lv_aload_n hx hb dX1_put_28 rfl (lv_at hl 0 rfl) ?_
      refine z_get (C := RX1) (T := TX1) (N := 3) (ref := "HornCity$Chalks") hx hb hts hin_X1_put_X1 hown hK hz 0 rfl rfl 1 (by decide) (hts _ fl_X1_put_15) rfl rfl dX1_put_29 ?_
      refine lv_aload_n hx hb dX1_put_32 rfl (lv_at hl 0 rfl) ?_
      refine z_get (C := RX1) (T := TX1) (N := 3) (ref := "HornCity$Chalks") hx hb hts hin_X1_put_X1 hown hK hz 0 rfl rfl 2 (by decide) (hts _ fl_X1_put_18) rfl rfl dX1_put_33 ?_
      refine lv_iload_n hx hb dX1_put_36 rfl (lv_at hl 2 rfl) ?_
      refine z_iast hx hb hK hz 2 rfl (by omega) (by decide) dX1_put_37 (fun H locs hz => ?_)
      have hz : zH D (zF ws0) H0 [(ch, .inr (1, [.ref iy, .ref mk, .int (zI cn)])), (iy, .inl (cI, 8, .inl (zA (zU iyf cn year)))), (mk, .inl (cI, 8, .inl (zA (zU mkf cn mark))))] H locs := hz
      refine lv_aload_n hx hb dX1_put_38 rfl (lv_at hl 0 rfl) ?_
      refine lv_dup hx hb dX1_put_39 rfl ?_
      refine z_get (C := RX1) (T := TX1) (N := 3) (ref := "HornCity$Chalks") hx hb hts hin_X1_put_X1 hown hK hz 0 rfl rfl 2 (by decide) (hts _ fl_X1_put_18) rfl rfl dX1_put_40 ?_
      refine z_iconst hx hb dX1_put_43 ?_
      refine z_iadd hx hb dX1_put_44 ?_
      refine z_put (C := RX1) (T := TX1) (N := 3) (ref := "HornCity$Chalks") (ty := .int) hx hb hts hin_X1_put_X1 hown hK hz tyX1 tyX1_ok nmX1 0 rfl rfl 2 (by decide) (hts _ fl_X1_put_18) rfl rfl (by decide +kernel) rfl rfl (Nat.le_of_ble_eq_true rfl) dX1_put_45 (fun H locs hz => ?_)
      have hz : zH D (zF ws0) H0 [(ch, .inr (1, [.ref iy, .ref mk, .int (zI (cn + 1))])), (iy, .inl (cI, 8, .inl (zA (zU iyf cn year)))), (mk, .inl (cI, 8, .inl (zA (zU mkf cn mark))))] H locs := hz
      refine z_iconst hx hb dX1_put_48 ?_
      exact hret ((1 : Int), (zU iyf cn year : Int → Int), (zU mkf cn mark : Int → Int), ((cn + 1) : Int)) dX1_put_49 (by first | decide | omega | (split <;> decide))  (show 1 = (if cn < 8 then 1 else 0) ∧ (zU iyf cn year) = (if cn < 8 then zU iyf cn year else iyf) ∧ (zU mkf cn mark) = (if cn < 8 then zU mkf cn mark else mkf) ∧ (cn + 1) = (if cn < 8 then cn + 1 else cn) from ⟨by simp [h4, h13], by simp [h4, h13], by simp [h4, h13], by simp [h4, h13]⟩) hz
    ·
      refine z_iconst hx hb dX1_put_16 ?_
      exact hret ((0 : Int), (iyf : Int → Int), (mkf : Int → Int), (cn : Int)) dX1_put_17 (by first | decide | omega | (split <;> decide))  (show 0 = (if cn < 8 then 1 else 0) ∧ iyf = (if cn < 8 then zU iyf cn year else iyf) ∧ mkf = (if cn < 8 then zU mkf cn mark else mkf) ∧ cn = (if cn < 8 then cn + 1 else cn) from ⟨by simp [h4, h13], by simp [h4, h13], by simp [h4, h13], by simp [h4, h13]⟩) hz

set_option maxRecDepth 20000 in
theorem hin_X1_fit_X1 : ∀ w ∈ u_ws RX1 TX1 3, w ∈ wsX1_fit := by decide +kernel
set_option maxRecDepth 20000 in
theorem fl_X1_fit_18 : Cond.fieldLink RX1 18 "HornCity$Chalks" "count" "I" ∈ wsX1_fit := by decide +kernel
set_option maxRecDepth 20000 in
theorem fl_X1_fit_9 : Cond.fieldLink RX1 9 "HornCity$Chalks" "inYears" "[I" ∈ wsX1_fit := by decide +kernel
set_option maxRecDepth 20000 in
theorem fl_X1_fit_15 : Cond.fieldLink RX1 15 "HornCity$Chalks" "marks" "[I" ∈ wsX1_fit := by decide +kernel
set_option maxHeartbeats 4000000 in
set_option maxRecDepth 100000 in
theorem c_X1_fit (l : Launch) (D : va_G) (cI cJ cZ : ClassId) (ch iy mk : Nat) (iyf mkf : Int → Int) (cn b d w : Int) (hbd9 : (0 ≤ b ∧ b < 180) ∧ (-9 ≤ d ∧ d ≤ 9) ∧ (0 ≤ w ∧ w ≤ 2)) (hcn : 0 ≤ cn ∧ cn ≤ 8) (hby : zBd iyf 8 0 60) (hbk : zBd mkf 8 0 179) : zMp l yX1_fit wsX1_fit (zRm 1) D cI cJ cZ [.ref ch, .int (zI b), .int (zI d), .int (zI w)] [(ch, .inr (1, [.ref iy, .ref mk, .int (zI cn)])), (iy, .inl (cI, 8, .inl (zA iyf))), (mk, .inl (cI, 8, .inl (zA mkf)))] (some (.int (zI (if fitS iyf mkf cn b d w = true then 1 else 0)))) := by
  refine zMp_z (cc := cX1_fit) (maxL := 7) (by decide +kernel) rfl (Nat.le_of_ble_eq_true rfl) rfl ?_
  intro p e s m args below meth c Q H ls F hK hz hl hret
  obtain ⟨hx, hb, hml, hown0, hts⟩ := id F
  have hown : s.vm.findClass RX1 = some m.cls := hown0
  obtain ⟨ws0, hw0⟩ : ∃ w : va_W, w = [(ch, .inr (1, [.ref iy, .ref mk, .int (zI cn)])), (iy, .inl (cI, 8, .inl (zA iyf))), (mk, .inl (cI, 8, .inl (zA mkf)))] := ⟨_, rfl⟩
  have hz : zH D (zF ws0) H [(ch, .inr (1, [.ref iy, .ref mk, .int (zI cn)])), (iy, .inl (cI, 8, .inl (zA iyf))), (mk, .inl (cI, 8, .inl (zA mkf)))] H [] := by rw [hw0]; exact hz
  have hl : lv_has ls 7 [(0, .ref ch), (1, .int (zI b)), (2, .int (zI d)), (3, .int (zI w))] := hl
  refine z_iconst hx hb dX1_fit_0 ?_
  refine lv_istore (lv' := [(4, .int (zI 0)), (0, .ref ch), (1, .int (zI b)), (2, .int (zI d)), (3, .int (zI w))]) hx hb dX1_fit_1 hl (Nat.le_of_ble_eq_true rfl) rfl (fun ls hl => ?_)
  refine z_iconst hx hb dX1_fit_3 ?_
  refine lv_istore (lv' := [(5, .int (zI 0)), (4, .int (zI 0)), (0, .ref ch), (1, .int (zI b)), (2, .int (zI d)), (3, .int (zI w))]) hx hb dX1_fit_4 hl (Nat.le_of_ble_eq_true rfl) rfl (fun ls hl => ?_)
  have L6 : ∀ (n : Nat) (i wr : Int) (ls : Array Slot), ((8 - i).toNat = n) → (0 ≤ i ∧ i ≤ cn) → (0 ≤ wr ∧ wr ≤ w ∧ wr ≤ i) → (wr = sumZ (misS iyf mkf b d) i.toNat) → (allB (okS iyf mkf b d) i.toNat = true) → lv_has ls 7 [(5, .int (zI i)), (4, .int (zI wr)), (0, .ref ch), (1, .int (zI b)), (2, .int (zI d)), (3, .int (zI w))] → W p l e (zRm 1) s m args below meth c H [] 0 0 Q (F0 m 6 ls []) := by
    intro n
    refine Nat.strongRecOn n ?_
    intro n ih6 i wr ls hn6 h0 hw hs ha hl
    refine lv_iload hx hb dX1_fit_6 (lv_at hl 0 rfl) ?_
    refine lv_aload_n hx hb dX1_fit_8 rfl (lv_at hl 2 rfl) ?_
    refine z_get (C := RX1) (T := TX1) (N := 3) (ref := "HornCity$Chalks") hx hb hts hin_X1_fit_X1 hown hK hz 0 rfl rfl 2 (by decide) (hts _ fl_X1_fit_18) rfl rfl dX1_fit_9 ?_
    refine z_icmp_ge (tgt := 89) hx hb dX1_fit_12 (by decide) (by omega) (by omega) (fun h12 => ?_) (fun h12 => ?_)
    ·
      refine z_iconst hx hb dX1_fit_89 ?_
      exact hret dX1_fit_90 (by first | decide | omega | (split <;> decide)) (congrArg (fun z => some (Value.int (zI z))) (show (1 : Int) = (if fitS iyf mkf cn b d w = true then 1 else 0) by have e : i = cn := (by omega); subst e; rw [if_pos]; unfold fitS; rw [ha, ← hs, decide_eq_true hw.2.1]; rfl))
    ·
      refine lv_iload hx hb dX1_fit_15 (lv_at hl 0 rfl) ?_
      refine z_bipush hx hb dX1_fit_17 (by decide) ?_
      refine z_icmp_ge (tgt := 89) hx hb dX1_fit_19 (by decide) (by omega) (by decide) (fun h19 => ?_) (fun h19 => ?_)
      ·
        refine z_iconst hx hb dX1_fit_89 ?_
        exact hret dX1_fit_90 (by first | decide | omega | (split <;> decide)) (congrArg (fun z => some (Value.int (zI z))) (show (1 : Int) = (if fitS iyf mkf cn b d w = true then 1 else 0) by have e : i = cn := (by omega); subst e; rw [if_pos]; unfold fitS; rw [ha, ← hs, decide_eq_true hw.2.1]; rfl))
      ·
        refine lv_iload_n hx hb dX1_fit_22 rfl (lv_at hl 3 rfl) ?_
        refine lv_iload_n hx hb dX1_fit_23 rfl (lv_at hl 4 rfl) ?_
        refine lv_aload_n hx hb dX1_fit_24 rfl (lv_at hl 2 rfl) ?_
        refine z_get (C := RX1) (T := TX1) (N := 3) (ref := "HornCity$Chalks") hx hb hts hin_X1_fit_X1 hown hK hz 0 rfl rfl 0 (by decide) (hts _ fl_X1_fit_9) rfl rfl dX1_fit_25 ?_
        refine lv_iload hx hb dX1_fit_28 (lv_at hl 0 rfl) ?_
        refine z_iald hx hb hK hz 1 rfl (by omega) (by decide) dX1_fit_30 ?_
        have hv30 := (hby).ax i (by omega)
        have hm9 := mul9 hbd9.2.1 (y := iyf i) (by omega)
        refine z_imul hx hb dX1_fit_31 ?_
        refine z_iadd hx hb dX1_fit_32 ?_
        refine z_callSp (As := [.int (zI (b + (d * (iyf i))))]) (rest := []) F hK hz hl (c_X5_leftOver l D cI cJ cZ (b + (d * (iyf i))) (by omega)) (va_cwS 1 hts gX1_fit_X5_leftOver rfl rfl rfl (by decide +kernel) ⟨Nat.le_of_ble_eq_true rfl, Nat.le_of_ble_eq_true rfl⟩) [] rfl rfl rfl rfl (Nat.le_of_ble_eq_true rfl) ⟨Nat.le_of_ble_eq_true rfl, Nat.le_of_ble_eq_true rfl⟩ dX1_fit_33 ?_
        refine lv_istore (lv' := [(6, .int (zI ((b + (d * (iyf i))) % 180))), (5, .int (zI i)), (4, .int (zI wr)), (0, .ref ch), (1, .int (zI b)), (2, .int (zI d)), (3, .int (zI w))]) hx hb dX1_fit_36 hl (Nat.le_of_ble_eq_true rfl) rfl (fun ls hl => ?_)
        refine lv_iload hx hb dX1_fit_38 (lv_at hl 0 rfl) ?_
        refine lv_aload_n hx hb dX1_fit_40 rfl (lv_at hl 3 rfl) ?_
        refine z_get (C := RX1) (T := TX1) (N := 3) (ref := "HornCity$Chalks") hx hb hts hin_X1_fit_X1 hown hK hz 0 rfl rfl 1 (by decide) (hts _ fl_X1_fit_15) rfl rfl dX1_fit_41 ?_
        refine lv_iload hx hb dX1_fit_44 (lv_at hl 1 rfl) ?_
        refine z_iald hx hb hK hz 2 rfl (by omega) (by decide) dX1_fit_46 ?_
        have hv46 := (hbk).ax i (by omega)
        refine z_icmp_ne (tgt := 53) hx hb dX1_fit_47 (by decide) (by omega) (by omega) (fun h47 => ?_) (fun h47 => ?_)
        ·
          refine z_iinc (lv' := [(4, .int (zI (wr + 1))), (6, .int (zI ((b + (d * (iyf i))) % 180))), (5, .int (zI i)), (0, .ref ch), (1, .int (zI b)), (2, .int (zI d)), (3, .int (zI w))]) hx hb dX1_fit_53 hl (k := 2) rfl (Nat.le_of_ble_eq_true rfl) rfl (fun ls hl => ?_)
          refine lv_iload hx hb dX1_fit_56 (lv_at hl 0 rfl) ?_
          refine lv_iload_n hx hb dX1_fit_58 rfl (lv_at hl 6 rfl) ?_
          refine z_icmp_gt (tgt := 81) hx hb dX1_fit_59 (by decide) (by omega) (by omega) (fun h59 => ?_) (fun h59 => ?_)
          ·
            refine z_iconst hx hb dX1_fit_81 ?_
            exact hret dX1_fit_82 (by first | decide | omega | (split <;> decide)) (congrArg (fun z => some (Value.int (zI z))) (show (0 : Int) = (if fitS iyf mkf cn b d w = true then 1 else 0) by rw [if_neg]; rw [fitS_many h0.1 (i := i) (by omega) (by rw [misS_1 h47, ← hs]; omega)]; decide))
          ·
            refine lv_iload hx hb dX1_fit_62 (lv_at hl 1 rfl) ?_
            refine z_sipush hx hb dX1_fit_64 (by decide) ?_
            refine lv_aload_n hx hb dX1_fit_67 rfl (lv_at hl 3 rfl) ?_
            refine z_get (C := RX1) (T := TX1) (N := 3) (ref := "HornCity$Chalks") hx hb hts hin_X1_fit_X1 hown hK hz 0 rfl rfl 1 (by decide) (hts _ fl_X1_fit_15) rfl rfl dX1_fit_68 ?_
            refine lv_iload hx hb dX1_fit_71 (lv_at hl 2 rfl) ?_
            refine z_iald hx hb hK hz 2 rfl (by omega) (by decide) dX1_fit_73 ?_
            have hv73 := (hbk).ax i (by omega)
            refine z_isub hx hb dX1_fit_74 ?_
            refine z_callSp (As := [.int (zI (180 - (mkf i)))]) (rest := [.int (zI ((b + (d * (iyf i))) % 180))]) F hK hz hl (c_X5_leftOver l D cI cJ cZ (180 - (mkf i)) (by omega)) (va_cwS 1 hts gX1_fit_X5_leftOver rfl rfl rfl (by decide +kernel) ⟨Nat.le_of_ble_eq_true rfl, Nat.le_of_ble_eq_true rfl⟩) [] rfl rfl rfl rfl (Nat.le_of_ble_eq_true rfl) ⟨Nat.le_of_ble_eq_true rfl, Nat.le_of_ble_eq_true rfl⟩ dX1_fit_75 ?_
            refine z_icmp_eq (tgt := 83) hx hb dX1_fit_78 (by decide) (by omega) (by omega) (fun h78 => ?_) (fun h78 => ?_)
            ·
              refine z_iinc (lv' := [(5, .int (zI (i + 1))), (4, .int (zI (wr + 1))), (6, .int (zI ((b + (d * (iyf i))) % 180))), (0, .ref ch), (1, .int (zI b)), (2, .int (zI d)), (3, .int (zI w))]) hx hb dX1_fit_83 hl (k := 2) rfl (Nat.le_of_ble_eq_true rfl) rfl (fun ls hl => ?_)
              refine lv_goto (tgt := 6) hx hb dX1_fit_86 (by decide) ?_
              exact ih6 _ (by omega) (i + 1) (wr + 1) ls rfl (by omega) (by omega) (by rw [sumZ_s h0.1, ← hs]; first | rw [misS_1 h47] | rw [misS_0 h47, Int.add_zero]) (by rw [allB_s h0.1, ha]; simp [okS, h12, h19, h47, h59, h78]) (lv_sub hl [0, 1, 3, 4, 5, 6] rfl)
            ·
              refine z_iconst hx hb dX1_fit_81 ?_
              exact hret dX1_fit_82 (by first | decide | omega | (split <;> decide)) (congrArg (fun z => some (Value.int (zI z))) (show (0 : Int) = (if fitS iyf mkf cn b d w = true then 1 else 0) by rw [if_neg]; rw [fitS_bad h0.1 (i := i) (by omega) (decide_eq_false (fun q => q.elim h47 h78))]; decide))
        ·
          refine lv_goto (tgt := 83) hx hb dX1_fit_50 (by decide) ?_
          refine z_iinc (lv' := [(5, .int (zI (i + 1))), (6, .int (zI ((b + (d * (iyf i))) % 180))), (4, .int (zI wr)), (0, .ref ch), (1, .int (zI b)), (2, .int (zI d)), (3, .int (zI w))]) hx hb dX1_fit_83 hl (k := 1) rfl (Nat.le_of_ble_eq_true rfl) rfl (fun ls hl => ?_)
          refine lv_goto (tgt := 6) hx hb dX1_fit_86 (by decide) ?_
          exact ih6 _ (by omega) (i + 1) wr ls rfl (by omega) (by omega) (by rw [sumZ_s h0.1, ← hs]; first | rw [misS_1 h47] | rw [misS_0 h47, Int.add_zero]) (by rw [allB_s h0.1, ha]; simp [okS, h12, h19, h47]) (lv_sub hl [0, 2, 3, 4, 5, 6] rfl)
  exact L6 _ 0 0 ls rfl (by omega) (by omega) (rfl) (rfl) (lv_sub hl [0, 1, 2, 3, 4, 5] rfl)
