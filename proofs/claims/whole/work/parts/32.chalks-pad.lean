def fitC (iy mk : Int → Int) (cn w c : Int) : Bool := decide (c % 20 < 19) && fitS iy mk cn (c / 20) (c % 20 - 9) w
def cntS (iy mk : Int → Int) (cn w : Int) : Nat → Int := sumZ (fun c => if fitC iy mk cn w c = true then 1 else 0)
theorem cntS_s {iy mk : Int → Int} {cn w i : Int} (h : 0 ≤ i) : cntS iy mk cn w (i + 1).toNat = cntS iy mk cn w i.toNat + (if fitC iy mk cn w i = true then 1 else 0) := sumZ_s h
theorem fitC_at {iy mk : Int → Int} {cn w b d : Int} (h : -9 ≤ d ∧ d ≤ 9) : fitC iy mk cn w (20 * b + d + 9) = fitS iy mk cn b d w := by
  unfold fitC
  have h1 : (20 * b + d + 9) % 20 = d + 9 := by omega
  have h2 : (20 * b + d + 9) / 20 = b := by omega
  rw [h1, h2, decide_eq_true (by omega)]
  have h3 : d + 9 - 9 = d := by omega
  rw [h3]; rfl
theorem fitC_19 {iy mk : Int → Int} {cn w b : Int} : fitC iy mk cn w (20 * b + 19) = false := by
  unfold fitC
  have h1 : (20 * b + 19) % 20 = 19 := by omega
  rw [h1]; rfl
theorem cntS_in {iy mk : Int → Int} {cn w b d a : Int} (h0 : 0 ≤ b) (h : -9 ≤ d ∧ d ≤ 9) (ha : a = cntS iy mk cn w (20 * b + d + 9).toNat) (hf : fitS iy mk cn b d w = true) : a + 1 = cntS iy mk cn w (20 * b + (d + 1) + 9).toNat := by
  have e : 20 * b + (d + 1) + 9 = (20 * b + d + 9) + 1 := by omega
  rw [e, cntS_s (by omega), fitC_at h, if_pos hf, ha]
theorem cntS_out {iy mk : Int → Int} {cn w b d a : Int} (h0 : 0 ≤ b) (h : -9 ≤ d ∧ d ≤ 9) (ha : a = cntS iy mk cn w (20 * b + d + 9).toNat) (hf : ¬ fitS iy mk cn b d w = true) : a = cntS iy mk cn w (20 * b + (d + 1) + 9).toNat := by
  have e : 20 * b + (d + 1) + 9 = (20 * b + d + 9) + 1 := by omega
  rw [e, cntS_s (by omega), fitC_at h, if_neg hf, ha, Int.add_zero]
theorem cntS_row {iy mk : Int → Int} {cn w b d a : Int} (h0 : 0 ≤ b) (hd : d = 10) (ha : a = cntS iy mk cn w (20 * b + d + 9).toNat) : a = cntS iy mk cn w (20 * (b + 1)).toNat := by
  subst hd
  have e : 20 * (b + 1) = (20 * b + 19) + 1 := by omega
  have e2 : 20 * b + 10 + 9 = 20 * b + 19 := by omega
  rw [e, cntS_s (by omega), fitC_19, if_neg (by decide), ha, e2, Int.add_zero]
/-- the rank-th code that fits, seen from code c on with f of them behind -/
def fndS (iy mk : Int → Int) (cn w r : Int) : Nat → Int → Int → Int
  | 0, _, _ => -6
  | n + 1, c, f => if fitC iy mk cn w c = true then (if f = r then c else fndS iy mk cn w r n (c + 1) (f + 1)) else fndS iy mk cn w r n (c + 1) f
theorem fndS_at {iy mk : Int → Int} {cn w r c f : Int} (h : 0 ≤ c ∧ c < 3600) : fndS iy mk cn w r (3600 - c).toNat c f = if fitC iy mk cn w c = true then (if f = r then c else fndS iy mk cn w r (3600 - (c + 1)).toNat (c + 1) (f + 1)) else fndS iy mk cn w r (3600 - (c + 1)).toNat (c + 1) f := by
  have e : (3600 - c).toNat = (3600 - (c + 1)).toNat + 1 := by omega
  rw [e]; rfl
theorem fnd_skip {iy mk : Int → Int} {cn w r b d f v : Int} (h0 : 0 ≤ b ∧ b < 180) (h : -9 ≤ d ∧ d ≤ 9) (hv : v = fndS iy mk cn w r (3600 - (20 * b + d + 9)).toNat (20 * b + d + 9) f) (hf : ¬ fitS iy mk cn b d w = true) : v = fndS iy mk cn w r (3600 - (20 * b + (d + 1) + 9)).toNat (20 * b + (d + 1) + 9) f := by
  have e : 20 * b + (d + 1) + 9 = (20 * b + d + 9) + 1 := by omega
  rw [fndS_at (by omega), fitC_at h, if_neg hf] at hv
  rw [e]; exact hv
theorem fnd_next {iy mk : Int → Int} {cn w r b d f v : Int} (h0 : 0 ≤ b ∧ b < 180) (h : -9 ≤ d ∧ d ≤ 9) (hv : v = fndS iy mk cn w r (3600 - (20 * b + d + 9)).toNat (20 * b + d + 9) f) (hf : fitS iy mk cn b d w = true) (hr : ¬ f = r) : v = fndS iy mk cn w r (3600 - (20 * b + (d + 1) + 9)).toNat (20 * b + (d + 1) + 9) (f + 1) := by
  have e : 20 * b + (d + 1) + 9 = (20 * b + d + 9) + 1 := by omega
  rw [fndS_at (by omega), fitC_at h, if_pos hf, if_neg hr] at hv
  rw [e]; exact hv
theorem fnd_here {iy mk : Int → Int} {cn w r b d f v : Int} (h0 : 0 ≤ b ∧ b < 180) (h : -9 ≤ d ∧ d ≤ 9) (hv : v = fndS iy mk cn w r (3600 - (20 * b + d + 9)).toNat (20 * b + d + 9) f) (hf : fitS iy mk cn b d w = true) (hr : f = r) : v = 20 * b + d + 9 := by
  rw [fndS_at (by omega), fitC_at h, if_pos hf, if_pos hr] at hv
  exact hv
theorem fnd_row {iy mk : Int → Int} {cn w r b d f v : Int} (h0 : 0 ≤ b ∧ b < 180) (hd : d = 10) (hv : v = fndS iy mk cn w r (3600 - (20 * b + d + 9)).toNat (20 * b + d + 9) f) : v = fndS iy mk cn w r (3600 - 20 * (b + 1)).toNat (20 * (b + 1)) f := by
  subst hd
  have e : 20 * (b + 1) = (20 * b + 19) + 1 := by omega
  have e2 : 20 * b + 10 + 9 = 20 * b + 19 := by omega
  rw [e2, fndS_at (by omega), fitC_19, if_neg (by decide)] at hv
  rw [e]; exact hv

def sigS (ln : Int) (sgn : Int → Int) (p : Int) : Int := if 0 ≤ p ∧ p < ln then sgn p else 0
def kndS (ln : Int) (sgn : Int → Int) (p : Int) : Int := if sigS ln sgn p = 46 then 46 else sigS ln sgn (p + 1)
def wthS (ln : Int) (sgn : Int → Int) (p : Int) : Int := sigS ln sgn (p + 2) - (if kndS ln sgn p = 38 then 65 else 48)
def lenS (ln : Int) (sgn : Int → Int) (p : Int) : Int := if kndS ln sgn p = 46 then 1 else if kndS ln sgn p = 47 ∨ kndS ln sgn p = 58 ∨ kndS ln sgn p = 63 then 2 else 3
def letS (x : Int) : Bool := decide (65 ≤ x ∧ x ≤ 73)
def isKS (x : Int) : Bool := decide (x = 43 ∨ x = 45 ∨ x = 38 ∨ x = 47 ∨ x = 58 ∨ x = 63)
def feS (ln : Int) (sgn : Int → Int) (p : Int) : Int := if (if kndS ln sgn p = 38 then letS (sigS ln sgn (p + 2)) else decide (49 ≤ sigS ln sgn (p + 2) ∧ sigS ln sgn (p + 2) ≤ 57)) = true then -6 else p + 2
def faS (ln : Int) (sgn : Int → Int) (p : Int) : Int := if sigS ln sgn p = 46 then -6 else if letS (sigS ln sgn p) = false then p else if isKS (sigS ln sgn (p + 1)) = false then p + 1 else if lenS ln sgn p = 2 then -6 else feS ln sgn p
def fpS (ln : Int) (sgn : Int → Int) : Nat → Int → Int
  | 0, _ => -6
  | n + 1, p => if p < ln then (if faS ln sgn p = -6 then fpS ln sgn n (p + lenS ln sgn p) else faS ln sgn p) else -6
theorem sigS_bd {ln : Int} {sgn : Int → Int} (hl : 0 ≤ ln ∧ ln ≤ 60) (h : zBd sgn 60 0 126) (p : Int) : 0 ≤ sigS ln sgn p ∧ sigS ln sgn p ≤ 126 := by
  unfold sigS
  by_cases hp : 0 ≤ p ∧ p < ln
  · rw [if_pos hp]; exact h.ax p (by omega)
  · rw [if_neg hp]; decide
theorem kndS_bd {ln : Int} {sgn : Int → Int} (hl : 0 ≤ ln ∧ ln ≤ 60) (h : zBd sgn 60 0 126) (p : Int) : 0 ≤ kndS ln sgn p ∧ kndS ln sgn p ≤ 126 := by
  unfold kndS
  split
  · decide
  · exact sigS_bd hl h _
theorem lenS_bd (ln : Int) (sgn : Int → Int) (p : Int) : 1 ≤ lenS ln sgn p ∧ lenS ln sgn p ≤ 3 := by
  unfold lenS; split <;> (try split) <;> decide
theorem feS_bd (ln : Int) (sgn : Int → Int) (p : Int) (h : 0 ≤ p ∧ p ≤ 1000) : -6 ≤ feS ln sgn p ∧ feS ln sgn p ≤ 1002 := by
  unfold feS; split <;> omega
theorem faS_bd (ln : Int) (sgn : Int → Int) (p : Int) (h : 0 ≤ p ∧ p ≤ 1000) : -6 ≤ faS ln sgn p ∧ faS ln sgn p ≤ 1002 := by
  have := feS_bd ln sgn p h
  unfold faS; split <;> (try split) <;> (try split) <;> (try split) <;> omega
theorem fpS_bd (ln : Int) (sgn : Int → Int) (hl : ln ≤ 60) : ∀ (n : Nat) (p : Int), 0 ≤ p → -6 ≤ fpS ln sgn n p ∧ fpS ln sgn n p ≤ 1002
  | 0, p, _ => by unfold fpS; decide
  | n + 1, p, h => by
    have h1 := lenS_bd ln sgn p
    have h2 := fpS_bd ln sgn hl n (p + lenS ln sgn p) (by omega)
    have e : fpS ln sgn (n + 1) p = (if p < ln then (if faS ln sgn p = -6 then fpS ln sgn n (p + lenS ln sgn p) else faS ln sgn p) else -6) := rfl
    rw [e]
    split
    · have h3 := faS_bd ln sgn p (by omega)
      split
      · exact h2
      · exact h3
    · decide
def fpW (ln : Int) (sgn : Int → Int) : Int := fpS ln sgn 60 0
theorem fpW_bd (ln : Int) (sgn : Int → Int) (hl : ln ≤ 60) : -6 ≤ fpW ln sgn ∧ fpW ln sgn ≤ 1002 := fpS_bd ln sgn hl 60 0 (by decide)
theorem fpS_at {ln : Int} {sgn : Int → Int} {a p : Int} (h : 0 ≤ a ∧ a < 60) : fpS ln sgn (60 - a).toNat p = if p < ln then (if faS ln sgn p = -6 then fpS ln sgn (60 - (a + 1)).toNat (p + lenS ln sgn p) else faS ln sgn p) else -6 := by
  have e : (60 - a).toNat = (60 - (a + 1)).toNat + 1 := by omega
  rw [e]; rfl

set_option maxHeartbeats 4000000 in
set_option maxRecDepth 100000 in
theorem c_X1_countFits (l : Launch) (D : va_G) (cI cJ cZ : ClassId) (ch iy mk : Nat) (iyf mkf : Int → Int) (cn w : Int) (hw : 0 ≤ w ∧ w ≤ 2) (hcn : 0 ≤ cn ∧ cn ≤ 8) (hby : zBd iyf 8 0 60) (hbk : zBd mkf 8 0 179) : zMp l yX1_countFits wsX1_countFits (zRm 2) D cI cJ cZ [.ref ch, .int (zI w)] [(ch, .inr (1, [.ref iy, .ref mk, .int (zI cn)])), (iy, .inl (cI, 8, .inl (zA iyf))), (mk, .inl (cI, 8, .inl (zA mkf)))] (some (.int (zI (cntS iyf mkf cn w 3600)))) := by
  refine zMp_i (cc := cX1_countFits) (maxL := 5) (by decide +kernel) rfl (Nat.le_of_ble_eq_true rfl) rfl ?_
  intro p e s m args below meth c Q H ls F hK hz hl hret
  obtain ⟨hx, hb, hml, hown0, hts⟩ := id F
  have hown : s.vm.findClass RX1 = some m.cls := hown0
  obtain ⟨ws0, hw0⟩ : ∃ w : va_W, w = [(ch, .inr (1, [.ref iy, .ref mk, .int (zI cn)])), (iy, .inl (cI, 8, .inl (zA iyf))), (mk, .inl (cI, 8, .inl (zA mkf)))] := ⟨_, rfl⟩
  have hz : zH D (zF ws0) H [(ch, .inr (1, [.ref iy, .ref mk, .int (zI cn)])), (iy, .inl (cI, 8, .inl (zA iyf))), (mk, .inl (cI, 8, .inl (zA mkf)))] H [] := by rw [hw0]; exact hz
  have hl : lv_has ls 5 [(0, .ref ch), (1, .int (zI w))] := hl
  refine z_iconst hx hb dX1_countFits_0 ?_
  refine lv_istore_n (lv' := [(2, .int (zI 0)), (0, .ref ch), (1, .int (zI w))]) hx hb dX1_countFits_1 rfl hl (Nat.le_of_ble_eq_true rfl) rfl (fun ls hl => ?_)
  refine z_iconst hx hb dX1_countFits_2 ?_
  refine lv_istore_n (lv' := [(3, .int (zI 0)), (2, .int (zI 0)), (0, .ref ch), (1, .int (zI w))]) hx hb dX1_countFits_3 rfl hl (Nat.le_of_ble_eq_true rfl) rfl (fun ls hl => ?_)
  have L4 : ∀ (n : Nat) (b fi : Int) (ls : Array Slot), ((180 - b).toNat = n) → (0 ≤ b ∧ b ≤ 180) → (0 ≤ fi ∧ fi ≤ 20 * b) → (fi = cntS iyf mkf cn w (20 * b).toNat) → lv_has ls 5 [(3, .int (zI b)), (2, .int (zI fi)), (0, .ref ch), (1, .int (zI w))] → W p l e (zRm 2) s m args below meth c H [] 0 0 Q (F0 m 4 ls []) := by
    intro n
    refine Nat.strongRecOn n ?_
    intro n ih4 b fi ls hn4 h0 hf0 hf hl
    refine lv_iload_n hx hb dX1_countFits_4 rfl (lv_at hl 0 rfl) ?_
    refine z_sipush hx hb dX1_countFits_5 (by decide) ?_
    refine z_icmp_ge (tgt := 48) hx hb dX1_countFits_8 (by decide) (by omega) (by decide) (fun h8 => ?_) (fun h8 => ?_)
    ·
      refine lv_iload_n hx hb dX1_countFits_48 rfl (lv_at hl 1 rfl) ?_
      exact hret dX1_countFits_49 (congrArg (fun z => some (Value.int (zI z))) (show (fi : Int) = (cntS iyf mkf cn w 3600) by have e : b = 180 := (by omega); subst e; exact hf))
    ·
      refine z_bipush hx hb dX1_countFits_11 (by decide) ?_
      refine lv_istore (lv' := [(4, .int (zI (-9))), (3, .int (zI b)), (2, .int (zI fi)), (0, .ref ch), (1, .int (zI w))]) hx hb dX1_countFits_13 hl (Nat.le_of_ble_eq_true rfl) rfl (fun ls hl => ?_)
      have L15 : ∀ (n : Nat) (d gi : Int) (ls : Array Slot), ((10 - d).toNat = n) → (-9 ≤ d ∧ d ≤ 10) → (0 ≤ gi ∧ gi ≤ 20 * b + d + 9) → (gi = cntS iyf mkf cn w (20 * b + d + 9).toNat) → lv_has ls 5 [(4, .int (zI d)), (3, .int (zI b)), (2, .int (zI gi)), (0, .ref ch), (1, .int (zI w))] → W p l e (zRm 2) s m args below meth c H [] 0 0 Q (F0 m 15 ls []) := by
        intro n
        refine Nat.strongRecOn n ?_
        intro n ih15 d gi ls hn15 h1 hg0 hg hl
        refine lv_iload hx hb dX1_countFits_15 (lv_at hl 0 rfl) ?_
        refine z_bipush hx hb dX1_countFits_17 (by decide) ?_
        refine z_icmp_gt (tgt := 42) hx hb dX1_countFits_19 (by decide) (by omega) (by decide) (fun h19 => ?_) (fun h19 => ?_)
        ·
          refine z_iinc (lv' := [(3, .int (zI (b + 1))), (4, .int (zI d)), (2, .int (zI gi)), (0, .ref ch), (1, .int (zI w))]) hx hb dX1_countFits_42 hl (k := 1) rfl (Nat.le_of_ble_eq_true rfl) rfl (fun ls hl => ?_)
          refine lv_goto (tgt := 4) hx hb dX1_countFits_45 (by decide) ?_
          exact ih4 _ (by omega) (b + 1) gi ls rfl (by omega) (by omega) (cntS_row h0.1 (by omega) hg) (lv_sub hl [0, 2, 3, 4] rfl)
        ·
          refine lv_aload_n hx hb dX1_countFits_22 rfl (lv_at hl 3 rfl) ?_
          refine lv_iload_n hx hb dX1_countFits_23 rfl (lv_at hl 1 rfl) ?_
          refine lv_iload hx hb dX1_countFits_24 (lv_at hl 0 rfl) ?_
          refine lv_iload_n hx hb dX1_countFits_26 rfl (lv_at hl 4 rfl) ?_
          refine z_callVp (As := [.int (zI b), .int (zI d), .int (zI w)]) (rest := []) (C := RX1) (T := TX1) (N := 3) F hK hz hl (c_X1_fit l D cI cJ cZ ch iy mk iyf mkf cn b d w (by omega) (by omega) (hby) (hbk)) (cwV 3 hts gX1_countFits_X1_fit rfl rfl rfl (by decide +kernel) ⟨Nat.le_of_ble_eq_true rfl, Nat.le_of_ble_eq_true rfl⟩) rfl 0 rfl [0, 1, 2] rfl rfl rfl rfl (Nat.le_of_ble_eq_true rfl) ⟨Nat.le_of_ble_eq_true rfl, Nat.le_of_ble_eq_true rfl⟩ dX1_countFits_27 ?_
          refine z_ifb_eq (tgt := 36) hx hb dX1_countFits_30 (by decide) (fun h30 => ?_) (fun h30 => ?_)
          ·
            refine z_iinc (lv' := [(4, .int (zI (d + 1))), (3, .int (zI b)), (2, .int (zI gi)), (0, .ref ch), (1, .int (zI w))]) hx hb dX1_countFits_36 hl (k := 0) rfl (Nat.le_of_ble_eq_true rfl) rfl (fun ls hl => ?_)
            refine lv_goto (tgt := 15) hx hb dX1_countFits_39 (by decide) ?_
            exact ih15 _ (by omega) (d + 1) gi ls rfl (by omega) (by omega) (by first | exact cntS_in h0.1 (by omega) hg h30 | exact cntS_out h0.1 (by omega) hg h30) (lv_sub hl [0, 1, 2, 3, 4] rfl)
          ·
            refine z_iinc (lv' := [(2, .int (zI (gi + 1))), (4, .int (zI d)), (3, .int (zI b)), (0, .ref ch), (1, .int (zI w))]) hx hb dX1_countFits_33 hl (k := 2) rfl (Nat.le_of_ble_eq_true rfl) rfl (fun ls hl => ?_)
            refine z_iinc (lv' := [(4, .int (zI (d + 1))), (2, .int (zI (gi + 1))), (3, .int (zI b)), (0, .ref ch), (1, .int (zI w))]) hx hb dX1_countFits_36 hl (k := 1) rfl (Nat.le_of_ble_eq_true rfl) rfl (fun ls hl => ?_)
            refine lv_goto (tgt := 15) hx hb dX1_countFits_39 (by decide) ?_
            exact ih15 _ (by omega) (d + 1) (gi + 1) ls rfl (by omega) (by omega) (by first | exact cntS_in h0.1 (by omega) hg h30 | exact cntS_out h0.1 (by omega) hg h30) (lv_sub hl [0, 2, 1, 3, 4] rfl)
      exact L15 _ (-9) fi ls rfl (by decide) (by omega) (by rw [hf]; congr 2; omega) (lv_sub hl [0, 1, 2, 3, 4] rfl)
  exact L4 _ 0 0 ls rfl (by decide) (by decide) (rfl) (lv_sub hl [0, 1, 2, 3] rfl)

set_option maxHeartbeats 4000000 in
set_option maxRecDepth 100000 in
theorem c_X1_fitAt (l : Launch) (D : va_G) (cI cJ cZ : ClassId) (ch iy mk : Nat) (iyf mkf : Int → Int) (cn w rank : Int) (hw : 0 ≤ w ∧ w ≤ 2) (hcn : 0 ≤ cn ∧ cn ≤ 8) (hby : zBd iyf 8 0 60) (hbk : zBd mkf 8 0 179) (hrk : -2147483648 ≤ rank ∧ rank ≤ 2147483647) : zMp l yX1_fitAt wsX1_fitAt (zRm 2) D cI cJ cZ [.ref ch, .int (zI w), .int (zI rank)] [(ch, .inr (1, [.ref iy, .ref mk, .int (zI cn)])), (iy, .inl (cI, 8, .inl (zA iyf))), (mk, .inl (cI, 8, .inl (zA mkf)))] (some (.int (zI (fndS iyf mkf cn w rank 3600 0 0)))) := by
  refine zMp_i (cc := cX1_fitAt) (maxL := 6) (by decide +kernel) rfl (Nat.le_of_ble_eq_true rfl) rfl ?_
  intro p e s m args below meth c Q H ls F hK hz hl hret
  obtain ⟨hx, hb, hml, hown0, hts⟩ := id F
  have hown : s.vm.findClass RX1 = some m.cls := hown0
  obtain ⟨ws0, hw0⟩ : ∃ w : va_W, w = [(ch, .inr (1, [.ref iy, .ref mk, .int (zI cn)])), (iy, .inl (cI, 8, .inl (zA iyf))), (mk, .inl (cI, 8, .inl (zA mkf)))] := ⟨_, rfl⟩
  have hz : zH D (zF ws0) H [(ch, .inr (1, [.ref iy, .ref mk, .int (zI cn)])), (iy, .inl (cI, 8, .inl (zA iyf))), (mk, .inl (cI, 8, .inl (zA mkf)))] H [] := by rw [hw0]; exact hz
  have hl : lv_has ls 6 [(0, .ref ch), (1, .int (zI w)), (2, .int (zI rank))] := hl
  refine z_iconst hx hb dX1_fitAt_0 ?_
  refine lv_istore_n (lv' := [(3, .int (zI 0)), (0, .ref ch), (1, .int (zI w)), (2, .int (zI rank))]) hx hb dX1_fitAt_1 rfl hl (Nat.le_of_ble_eq_true rfl) rfl (fun ls hl => ?_)
  refine z_iconst hx hb dX1_fitAt_2 ?_
  refine lv_istore (lv' := [(4, .int (zI 0)), (3, .int (zI 0)), (0, .ref ch), (1, .int (zI w)), (2, .int (zI rank))]) hx hb dX1_fitAt_3 hl (Nat.le_of_ble_eq_true rfl) rfl (fun ls hl => ?_)
  have L5 : ∀ (n : Nat) (b fi : Int) (ls : Array Slot), ((180 - b).toNat = n) → (0 ≤ b ∧ b ≤ 180) → (0 ≤ fi ∧ fi ≤ 20 * b) → (fndS iyf mkf cn w rank 3600 0 0 = fndS iyf mkf cn w rank (3600 - 20 * b).toNat (20 * b) fi) → lv_has ls 6 [(4, .int (zI b)), (3, .int (zI fi)), (0, .ref ch), (1, .int (zI w)), (2, .int (zI rank))] → W p l e (zRm 2) s m args below meth c H [] 0 0 Q (F0 m 5 ls []) := by
    intro n
    refine Nat.strongRecOn n ?_
    intro n ih5 b fi ls hn5 h0 hf0 hf hl
    refine lv_iload hx hb dX1_fitAt_5 (lv_at hl 0 rfl) ?_
    refine z_sipush hx hb dX1_fitAt_7 (by decide) ?_
    refine z_icmp_ge (tgt := 71) hx hb dX1_fitAt_10 (by decide) (by omega) (by decide) (fun h10 => ?_) (fun h10 => ?_)
    ·
      refine z_bipush hx hb dX1_fitAt_71 (by decide) ?_
      exact hret dX1_fitAt_73 (congrArg (fun z => some (Value.int (zI z))) (show ((-6) : Int) = (fndS iyf mkf cn w rank 3600 0 0) by have e : b = 180 := (by omega); subst e; rw [hf]; rfl))
    ·
      refine z_bipush hx hb dX1_fitAt_13 (by decide) ?_
      refine lv_istore (lv' := [(5, .int (zI (-9))), (4, .int (zI b)), (3, .int (zI fi)), (0, .ref ch), (1, .int (zI w)), (2, .int (zI rank))]) hx hb dX1_fitAt_15 hl (Nat.le_of_ble_eq_true rfl) rfl (fun ls hl => ?_)
      have L17 : ∀ (n : Nat) (d gi : Int) (ls : Array Slot), ((10 - d).toNat = n) → (-9 ≤ d ∧ d ≤ 10) → (0 ≤ gi ∧ gi ≤ 20 * b + d + 9) → (fndS iyf mkf cn w rank 3600 0 0 = fndS iyf mkf cn w rank (3600 - (20 * b + d + 9)).toNat (20 * b + d + 9) gi) → lv_has ls 6 [(5, .int (zI d)), (4, .int (zI b)), (3, .int (zI gi)), (0, .ref ch), (1, .int (zI w)), (2, .int (zI rank))] → W p l e (zRm 2) s m args below meth c H [] 0 0 Q (F0 m 17 ls []) := by
        intro n
        refine Nat.strongRecOn n ?_
        intro n ih17 d gi ls hn17 h1 hg0 hg hl
        refine lv_iload hx hb dX1_fitAt_17 (lv_at hl 0 rfl) ?_
        refine z_bipush hx hb dX1_fitAt_19 (by decide) ?_
        refine z_icmp_gt (tgt := 65) hx hb dX1_fitAt_21 (by decide) (by omega) (by decide) (fun h21 => ?_) (fun h21 => ?_)
        ·
          refine z_iinc (lv' := [(4, .int (zI (b + 1))), (5, .int (zI d)), (3, .int (zI gi)), (0, .ref ch), (1, .int (zI w)), (2, .int (zI rank))]) hx hb dX1_fitAt_65 hl (k := 1) rfl (Nat.le_of_ble_eq_true rfl) rfl (fun ls hl => ?_)
          refine lv_goto (tgt := 5) hx hb dX1_fitAt_68 (by decide) ?_
          exact ih5 _ (by omega) (b + 1) gi ls rfl (by omega) (by omega) (fnd_row (by omega) (by omega) hg) (lv_sub hl [0, 2, 3, 4, 5] rfl)
        ·
          refine lv_aload_n hx hb dX1_fitAt_24 rfl (lv_at hl 3 rfl) ?_
          refine lv_iload hx hb dX1_fitAt_25 (lv_at hl 1 rfl) ?_
          refine lv_iload hx hb dX1_fitAt_27 (lv_at hl 0 rfl) ?_
          refine lv_iload_n hx hb dX1_fitAt_29 rfl (lv_at hl 4 rfl) ?_
          refine z_callVp (As := [.int (zI b), .int (zI d), .int (zI w)]) (rest := []) (C := RX1) (T := TX1) (N := 3) F hK hz hl (c_X1_fit l D cI cJ cZ ch iy mk iyf mkf cn b d w (by omega) (by omega) (hby) (hbk)) (cwV 3 hts gX1_fitAt_X1_fit rfl rfl rfl (by decide +kernel) ⟨Nat.le_of_ble_eq_true rfl, Nat.le_of_ble_eq_true rfl⟩) rfl 0 rfl [0, 1, 2] rfl rfl rfl rfl (Nat.le_of_ble_eq_true rfl) ⟨Nat.le_of_ble_eq_true rfl, Nat.le_of_ble_eq_true rfl⟩ dX1_fitAt_30 ?_
          refine z_ifb_ne (tgt := 39) hx hb dX1_fitAt_33 (by decide) (fun h33 => ?_) (fun h33 => ?_)
          ·
            refine lv_iload_n hx hb dX1_fitAt_39 rfl (lv_at hl 2 rfl) ?_
            refine lv_iload_n hx hb dX1_fitAt_40 rfl (lv_at hl 5 rfl) ?_
            refine z_icmp_ne (tgt := 56) hx hb dX1_fitAt_41 (by decide) (by omega) (by omega) (fun h41 => ?_) (fun h41 => ?_)
            ·
              refine z_iinc (lv' := [(3, .int (zI (gi + 1))), (5, .int (zI d)), (4, .int (zI b)), (0, .ref ch), (1, .int (zI w)), (2, .int (zI rank))]) hx hb dX1_fitAt_56 hl (k := 2) rfl (Nat.le_of_ble_eq_true rfl) rfl (fun ls hl => ?_)
              refine z_iinc (lv' := [(5, .int (zI (d + 1))), (3, .int (zI (gi + 1))), (4, .int (zI b)), (0, .ref ch), (1, .int (zI w)), (2, .int (zI rank))]) hx hb dX1_fitAt_59 hl (k := 1) rfl (Nat.le_of_ble_eq_true rfl) rfl (fun ls hl => ?_)
              refine lv_goto (tgt := 17) hx hb dX1_fitAt_62 (by decide) ?_
              exact ih17 _ (by omega) (d + 1) (gi + 1) ls rfl (by omega) (by omega) (by first | exact fnd_skip (by omega) (by omega) hg h33 | exact fnd_next (by omega) (by omega) hg h33 h41) (lv_sub hl [0, 2, 1, 3, 4, 5] rfl)
            ·
              refine z_bipush hx hb dX1_fitAt_44 (by decide) ?_
              refine lv_iload hx hb dX1_fitAt_46 (lv_at hl 1 rfl) ?_
              refine z_imul hx hb dX1_fitAt_48 ?_
              refine lv_iload hx hb dX1_fitAt_49 (lv_at hl 0 rfl) ?_
              refine z_iadd hx hb dX1_fitAt_51 ?_
              refine z_bipush hx hb dX1_fitAt_52 (by decide) ?_
              refine z_iadd hx hb dX1_fitAt_54 ?_
              exact hret dX1_fitAt_55 (congrArg (fun z => some (Value.int (zI z))) (show ((((20 * b) + d) + 9) : Int) = (fndS iyf mkf cn w rank 3600 0 0) by exact (fnd_here (by omega) (by omega) hg h33 h41).symm))
          ·
            refine lv_goto (tgt := 59) hx hb dX1_fitAt_36 (by decide) ?_
            refine z_iinc (lv' := [(5, .int (zI (d + 1))), (4, .int (zI b)), (3, .int (zI gi)), (0, .ref ch), (1, .int (zI w)), (2, .int (zI rank))]) hx hb dX1_fitAt_59 hl (k := 0) rfl (Nat.le_of_ble_eq_true rfl) rfl (fun ls hl => ?_)
            refine lv_goto (tgt := 17) hx hb dX1_fitAt_62 (by decide) ?_
            exact ih17 _ (by omega) (d + 1) gi ls rfl (by omega) (by omega) (by first | exact fnd_skip (by omega) (by omega) hg h33 | exact fnd_next (by omega) (by omega) hg h33 h41) (lv_sub hl [0, 1, 2, 3, 4, 5] rfl)
      exact L17 _ (-9) fi ls rfl (by decide) (by omega) (by have e : 20 * b + (-9) + 9 = 20 * b := (by omega); rw [e]; exact hf) (lv_sub hl [0, 1, 2, 3, 4, 5] rfl)
  exact L5 _ 0 0 ls rfl (by decide) (by decide) (rfl) (lv_sub hl [0, 1, 2, 3, 4] rfl)

set_option maxRecDepth 20000 in
theorem hin_X4_signAt_X4 : ∀ w ∈ u_ws RX4 TX4 2, w ∈ wsX4_signAt := by decide +kernel
set_option maxRecDepth 20000 in
theorem fl_X4_signAt_15 : Cond.fieldLink RX4 15 "HornCity$Pad" "length" "I" ∈ wsX4_signAt := by decide +kernel
set_option maxRecDepth 20000 in
theorem fl_X4_signAt_9 : Cond.fieldLink RX4 9 "HornCity$Pad" "signs" "[I" ∈ wsX4_signAt := by decide +kernel
set_option maxHeartbeats 4000000 in
set_option maxRecDepth 100000 in
theorem c_X4_signAt (l : Launch) (D : va_G) (cI cJ cZ : ClassId) (pd sg : Nat) (sgn : Int → Int) (ln pl : Int) (hln : 0 ≤ ln ∧ ln ≤ 60) (hpl : -2147483648 ≤ pl ∧ pl ≤ 2147483647) : zMp l yX4_signAt wsX4_signAt (zRm 0) D cI cJ cZ [.ref pd, .int (zI pl)] [(pd, .inr (3, [.ref sg, .int (zI ln)])), (sg, .inl (cI, 60, .inl (zA sgn)))] (some (.int (zI (sigS ln sgn pl)))) := by
  refine zMp_i (cc := cX4_signAt) (maxL := 2) (by decide +kernel) rfl (Nat.le_of_ble_eq_true rfl) rfl ?_
  intro p e s m args below meth c Q H ls F hK hz hl hret
  obtain ⟨hx, hb, hml, hown0, hts⟩ := id F
  have hown : s.vm.findClass RX4 = some m.cls := hown0
  obtain ⟨ws0, hw0⟩ : ∃ w : va_W, w = [(pd, .inr (3, [.ref sg, .int (zI ln)])), (sg, .inl (cI, 60, .inl (zA sgn)))] := ⟨_, rfl⟩
  have hz : zH D (zF ws0) H [(pd, .inr (3, [.ref sg, .int (zI ln)])), (sg, .inl (cI, 60, .inl (zA sgn)))] H [] := by rw [hw0]; exact hz
  have hl : lv_has ls 2 [(0, .ref pd), (1, .int (zI pl))] := hl
  refine lv_iload_n hx hb dX4_signAt_0 rfl (lv_at hl 1 rfl) ?_
  refine z_if_lt (tgt := 27) hx hb dX4_signAt_1 (by decide) (by omega) (fun h1 => ?_) (fun h1 => ?_)
  ·
    refine z_iconst hx hb dX4_signAt_27 ?_
    exact hret dX4_signAt_28 (congrArg (fun z => some (Value.int (zI z))) (show (0 : Int) = (sigS ln sgn pl) by unfold sigS; first | rw [if_neg (by omega)] | rw [if_pos (by omega)]))
  ·
    refine lv_iload_n hx hb dX4_signAt_4 rfl (lv_at hl 1 rfl) ?_
    refine lv_aload_n hx hb dX4_signAt_5 rfl (lv_at hl 0 rfl) ?_
    refine z_get (C := RX4) (T := TX4) (N := 2) (ref := "HornCity$Pad") hx hb hts hin_X4_signAt_X4 hown hK hz 0 rfl rfl 1 (by decide) (hts _ fl_X4_signAt_15) rfl rfl dX4_signAt_6 ?_
    refine z_icmp_ge (tgt := 27) hx hb dX4_signAt_9 (by decide) (by omega) (by omega) (fun h9 => ?_) (fun h9 => ?_)
    ·
      refine z_iconst hx hb dX4_signAt_27 ?_
      exact hret dX4_signAt_28 (congrArg (fun z => some (Value.int (zI z))) (show (0 : Int) = (sigS ln sgn pl) by unfold sigS; first | rw [if_neg (by omega)] | rw [if_pos (by omega)]))
    ·
      refine lv_iload_n hx hb dX4_signAt_12 rfl (lv_at hl 1 rfl) ?_
      refine z_bipush hx hb dX4_signAt_13 (by decide) ?_
      refine z_icmp_ge (tgt := 27) hx hb dX4_signAt_15 (by decide) (by omega) (by decide) (fun h15 => ?_) (fun h15 => ?_)
      ·
        refine z_iconst hx hb dX4_signAt_27 ?_
        exact hret dX4_signAt_28 (congrArg (fun z => some (Value.int (zI z))) (show (0 : Int) = (sigS ln sgn pl) by unfold sigS; first | rw [if_neg (by omega)] | rw [if_pos (by omega)]))
      ·
        refine lv_aload_n hx hb dX4_signAt_18 rfl (lv_at hl 0 rfl) ?_
        refine z_get (C := RX4) (T := TX4) (N := 2) (ref := "HornCity$Pad") hx hb hts hin_X4_signAt_X4 hown hK hz 0 rfl rfl 0 (by decide) (hts _ fl_X4_signAt_9) rfl rfl dX4_signAt_19 ?_
        refine lv_iload_n hx hb dX4_signAt_22 rfl (lv_at hl 1 rfl) ?_
        refine z_iald hx hb hK hz 1 rfl (by omega) (by decide) dX4_signAt_23 ?_
        refine lv_goto (tgt := 28) hx hb dX4_signAt_24 (by decide) ?_
        exact hret dX4_signAt_28 (congrArg (fun z => some (Value.int (zI z))) (show ((sgn pl) : Int) = (sigS ln sgn pl) by unfold sigS; first | rw [if_neg (by omega)] | rw [if_pos (by omega)]))

set_option maxHeartbeats 4000000 in
set_option maxRecDepth 100000 in
theorem c_X4_kindAt (l : Launch) (D : va_G) (cI cJ cZ : ClassId) (pd sg : Nat) (sgn : Int → Int) (ln pl : Int) (hln : 0 ≤ ln ∧ ln ≤ 60) (hbs : zBd sgn 60 0 126) (hpl : 0 ≤ pl ∧ pl ≤ 1000) : zMp l yX4_kindAt wsX4_kindAt (zRm 1) D cI cJ cZ [.ref pd, .int (zI pl)] [(pd, .inr (3, [.ref sg, .int (zI ln)])), (sg, .inl (cI, 60, .inl (zA sgn)))] (some (.int (zI (kndS ln sgn pl)))) := by
  refine zMp_i (cc := cX4_kindAt) (maxL := 2) (by decide +kernel) rfl (Nat.le_of_ble_eq_true rfl) rfl ?_
  intro p e s m args below meth c Q H ls F hK hz hl hret
  obtain ⟨hx, hb, hml, hown0, hts⟩ := id F
  have hown : s.vm.findClass RX4 = some m.cls := hown0
  obtain ⟨ws0, hw0⟩ : ∃ w : va_W, w = [(pd, .inr (3, [.ref sg, .int (zI ln)])), (sg, .inl (cI, 60, .inl (zA sgn)))] := ⟨_, rfl⟩
  have hz : zH D (zF ws0) H [(pd, .inr (3, [.ref sg, .int (zI ln)])), (sg, .inl (cI, 60, .inl (zA sgn)))] H [] := by rw [hw0]; exact hz
  have hl : lv_has ls 2 [(0, .ref pd), (1, .int (zI pl))] := hl
  refine lv_aload_n hx hb dX4_kindAt_0 rfl (lv_at hl 0 rfl) ?_
  refine lv_iload_n hx hb dX4_kindAt_1 rfl (lv_at hl 1 rfl) ?_
  refine z_callVp (As := [.int (zI pl)]) (rest := []) (C := RX4) (T := TX4) (N := 2) F hK hz hl (c_X4_signAt l D cI cJ cZ pd sg sgn ln pl (by first | assumption | omega) (by omega)) (cwV 1 hts gX4_kindAt_X4_signAt rfl rfl rfl (by decide +kernel) ⟨Nat.le_of_ble_eq_true rfl, Nat.le_of_ble_eq_true rfl⟩) rfl 0 rfl [0, 1] rfl rfl rfl rfl (Nat.le_of_ble_eq_true rfl) ⟨Nat.le_of_ble_eq_true rfl, Nat.le_of_ble_eq_true rfl⟩ dX4_kindAt_2 ?_
  have hs1 := sigS_bd hln hbs pl
  refine z_bipush hx hb dX4_kindAt_5 (by decide) ?_
  refine z_icmp_ne (tgt := 15) hx hb dX4_kindAt_7 (by decide) (by omega) (by decide) (fun h7 => ?_) (fun h7 => ?_)
  ·
    refine lv_aload_n hx hb dX4_kindAt_15 rfl (lv_at hl 0 rfl) ?_
    refine lv_iload_n hx hb dX4_kindAt_16 rfl (lv_at hl 1 rfl) ?_
    refine z_iconst hx hb dX4_kindAt_17 ?_
    refine z_iadd hx hb dX4_kindAt_18 ?_
    refine z_callVp (As := [.int (zI (pl + 1))]) (rest := []) (C := RX4) (T := TX4) (N := 2) F hK hz hl (c_X4_signAt l D cI cJ cZ pd sg sgn ln (pl + 1) (by first | assumption | omega) (by omega)) (cwV 1 hts gX4_kindAt_X4_signAt rfl rfl rfl (by decide +kernel) ⟨Nat.le_of_ble_eq_true rfl, Nat.le_of_ble_eq_true rfl⟩) rfl 0 rfl [0, 1] rfl rfl rfl rfl (Nat.le_of_ble_eq_true rfl) ⟨Nat.le_of_ble_eq_true rfl, Nat.le_of_ble_eq_true rfl⟩ dX4_kindAt_19 ?_
    exact hret dX4_kindAt_22 (congrArg (fun z => some (Value.int (zI z))) (show ((sigS ln sgn (pl + 1)) : Int) = (kndS ln sgn pl) by unfold kndS; first | rw [if_pos h7] | rw [if_neg h7]))
  ·
    refine z_bipush hx hb dX4_kindAt_10 (by decide) ?_
    refine lv_goto (tgt := 22) hx hb dX4_kindAt_12 (by decide) ?_
    exact hret dX4_kindAt_22 (congrArg (fun z => some (Value.int (zI z))) (show (46 : Int) = (kndS ln sgn pl) by unfold kndS; first | rw [if_pos h7] | rw [if_neg h7]))

set_option maxHeartbeats 4000000 in
set_option maxRecDepth 100000 in
theorem c_X4_oneAt (l : Launch) (D : va_G) (cI cJ cZ : ClassId) (pd sg : Nat) (sgn : Int → Int) (ln pl : Int) (hln : 0 ≤ ln ∧ ln ≤ 60) (hpl : 0 ≤ pl ∧ pl ≤ 1000) : zMp l yX4_oneAt wsX4_oneAt (zRm 1) D cI cJ cZ [.ref pd, .int (zI pl)] [(pd, .inr (3, [.ref sg, .int (zI ln)])), (sg, .inl (cI, 60, .inl (zA sgn)))] (some (.int (zI (sigS ln sgn pl - 65)))) := by
  refine zMp_i (cc := cX4_oneAt) (maxL := 2) (by decide +kernel) rfl (Nat.le_of_ble_eq_true rfl) rfl ?_
  intro p e s m args below meth c Q H ls F hK hz hl hret
  obtain ⟨hx, hb, hml, hown0, hts⟩ := id F
  have hown : s.vm.findClass RX4 = some m.cls := hown0
  obtain ⟨ws0, hw0⟩ : ∃ w : va_W, w = [(pd, .inr (3, [.ref sg, .int (zI ln)])), (sg, .inl (cI, 60, .inl (zA sgn)))] := ⟨_, rfl⟩
  have hz : zH D (zF ws0) H [(pd, .inr (3, [.ref sg, .int (zI ln)])), (sg, .inl (cI, 60, .inl (zA sgn)))] H [] := by rw [hw0]; exact hz
  have hl : lv_has ls 2 [(0, .ref pd), (1, .int (zI pl))] := hl
  refine lv_aload_n hx hb dX4_oneAt_0 rfl (lv_at hl 0 rfl) ?_
  refine lv_iload_n hx hb dX4_oneAt_1 rfl (lv_at hl 1 rfl) ?_
  refine z_callVp (As := [.int (zI pl)]) (rest := []) (C := RX4) (T := TX4) (N := 2) F hK hz hl (c_X4_signAt l D cI cJ cZ pd sg sgn ln pl (by first | assumption | omega) (by omega)) (cwV 1 hts gX4_oneAt_X4_signAt rfl rfl rfl (by decide +kernel) ⟨Nat.le_of_ble_eq_true rfl, Nat.le_of_ble_eq_true rfl⟩) rfl 0 rfl [0, 1] rfl rfl rfl rfl (Nat.le_of_ble_eq_true rfl) ⟨Nat.le_of_ble_eq_true rfl, Nat.le_of_ble_eq_true rfl⟩ dX4_oneAt_2 ?_
  refine z_bipush hx hb dX4_oneAt_5 (by decide) ?_
  refine z_isub hx hb dX4_oneAt_7 ?_
  exact hret dX4_oneAt_8 (congrArg (fun z => some (Value.int (zI z))) (show (((sigS ln sgn pl) - 65) : Int) = (sigS ln sgn pl - 65) by first | omega | (split <;> omega) | simp_all))

set_option maxHeartbeats 4000000 in
set_option maxRecDepth 100000 in
theorem c_X4_withAt (l : Launch) (D : va_G) (cI cJ cZ : ClassId) (pd sg : Nat) (sgn : Int → Int) (ln pl : Int) (hln : 0 ≤ ln ∧ ln ≤ 60) (hbs : zBd sgn 60 0 126) (hpl : 0 ≤ pl ∧ pl ≤ 1000) : zMp l yX4_withAt wsX4_withAt (zRm 2) D cI cJ cZ [.ref pd, .int (zI pl)] [(pd, .inr (3, [.ref sg, .int (zI ln)])), (sg, .inl (cI, 60, .inl (zA sgn)))] (some (.int (zI (wthS ln sgn pl)))) := by
  refine zMp_i (cc := cX4_withAt) (maxL := 2) (by decide +kernel) rfl (Nat.le_of_ble_eq_true rfl) rfl ?_
  intro p e s m args below meth c Q H ls F hK hz hl hret
  obtain ⟨hx, hb, hml, hown0, hts⟩ := id F
  have hown : s.vm.findClass RX4 = some m.cls := hown0
  obtain ⟨ws0, hw0⟩ : ∃ w : va_W, w = [(pd, .inr (3, [.ref sg, .int (zI ln)])), (sg, .inl (cI, 60, .inl (zA sgn)))] := ⟨_, rfl⟩
  have hz : zH D (zF ws0) H [(pd, .inr (3, [.ref sg, .int (zI ln)])), (sg, .inl (cI, 60, .inl (zA sgn)))] H [] := by rw [hw0]; exact hz
  have hl : lv_has ls 2 [(0, .ref pd), (1, .int (zI pl))] := hl
  refine lv_aload_n hx hb dX4_withAt_0 rfl (lv_at hl 0 rfl) ?_
  refine lv_iload_n hx hb dX4_withAt_1 rfl (lv_at hl 1 rfl) ?_
  refine z_iconst hx hb dX4_withAt_2 ?_
  refine z_iadd hx hb dX4_withAt_3 ?_
  refine z_callVp (As := [.int (zI (pl + 2))]) (rest := []) (C := RX4) (T := TX4) (N := 2) F hK hz hl (c_X4_signAt l D cI cJ cZ pd sg sgn ln (pl + 2) (by first | assumption | omega) (by omega)) (cwV 1 hts gX4_withAt_X4_signAt rfl rfl rfl (by decide +kernel) ⟨Nat.le_of_ble_eq_true rfl, Nat.le_of_ble_eq_true rfl⟩) rfl 0 rfl [0, 1] rfl rfl rfl rfl (Nat.le_of_ble_eq_true rfl) ⟨Nat.le_of_ble_eq_true rfl, Nat.le_of_ble_eq_true rfl⟩ dX4_withAt_4 ?_
  refine lv_aload_n hx hb dX4_withAt_7 rfl (lv_at hl 0 rfl) ?_
  refine lv_iload_n hx hb dX4_withAt_8 rfl (lv_at hl 1 rfl) ?_
  refine z_callVp (As := [.int (zI pl)]) (rest := [.int (zI (sigS ln sgn (pl + 2)))]) (C := RX4) (T := TX4) (N := 2) F hK hz hl (c_X4_kindAt l D cI cJ cZ pd sg sgn ln pl (by first | assumption | omega) (hbs) (by omega)) (cwV 1 hts gX4_withAt_X4_kindAt rfl rfl rfl (by decide +kernel) ⟨Nat.le_of_ble_eq_true rfl, Nat.le_of_ble_eq_true rfl⟩) rfl 0 rfl [0, 1] rfl rfl rfl rfl (Nat.le_of_ble_eq_true rfl) ⟨Nat.le_of_ble_eq_true rfl, Nat.le_of_ble_eq_true rfl⟩ dX4_withAt_9 ?_
  have hs1 := kndS_bd hln hbs pl
  refine z_bipush hx hb dX4_withAt_12 (by decide) ?_
  refine z_icmp_ne (tgt := 22) hx hb dX4_withAt_14 (by decide) (by omega) (by decide) (fun h14 => ?_) (fun h14 => ?_)
  ·
    refine z_bipush hx hb dX4_withAt_22 (by decide) ?_
    refine z_isub hx hb dX4_withAt_24 ?_
    exact hret dX4_withAt_25 (congrArg (fun z => some (Value.int (zI z))) (show (((sigS ln sgn (pl + 2)) - 48) : Int) = (wthS ln sgn pl) by unfold wthS; first | rw [if_pos h14] | rw [if_neg h14]))
  ·
    refine z_bipush hx hb dX4_withAt_17 (by decide) ?_
    refine lv_goto (tgt := 24) hx hb dX4_withAt_19 (by decide) ?_
    refine z_isub hx hb dX4_withAt_24 ?_
    exact hret dX4_withAt_25 (congrArg (fun z => some (Value.int (zI z))) (show (((sigS ln sgn (pl + 2)) - 65) : Int) = (wthS ln sgn pl) by unfold wthS; first | rw [if_pos h14] | rw [if_neg h14]))

set_option maxHeartbeats 4000000 in
set_option maxRecDepth 100000 in
theorem c_X4_lengthOfAct (l : Launch) (D : va_G) (cI cJ cZ : ClassId) (pd sg : Nat) (sgn : Int → Int) (ln pl : Int) (hln : 0 ≤ ln ∧ ln ≤ 60) (hbs : zBd sgn 60 0 126) (hpl : 0 ≤ pl ∧ pl ≤ 1000) : zMp l yX4_lengthOfAct wsX4_lengthOfAct (zRm 2) D cI cJ cZ [.ref pd, .int (zI pl)] [(pd, .inr (3, [.ref sg, .int (zI ln)])), (sg, .inl (cI, 60, .inl (zA sgn)))] (some (.int (zI (lenS ln sgn pl)))) := by
  refine zMp_i (cc := cX4_lengthOfAct) (maxL := 2) (by decide +kernel) rfl (Nat.le_of_ble_eq_true rfl) rfl ?_
  intro p e s m args below meth c Q H ls F hK hz hl hret
  obtain ⟨hx, hb, hml, hown0, hts⟩ := id F
  have hown : s.vm.findClass RX4 = some m.cls := hown0
  obtain ⟨ws0, hw0⟩ : ∃ w : va_W, w = [(pd, .inr (3, [.ref sg, .int (zI ln)])), (sg, .inl (cI, 60, .inl (zA sgn)))] := ⟨_, rfl⟩
  have hz : zH D (zF ws0) H [(pd, .inr (3, [.ref sg, .int (zI ln)])), (sg, .inl (cI, 60, .inl (zA sgn)))] H [] := by rw [hw0]; exact hz
  have hl : lv_has ls 2 [(0, .ref pd), (1, .int (zI pl))] := hl
  refine lv_aload_n hx hb dX4_lengthOfAct_0 rfl (lv_at hl 0 rfl) ?_
  refine lv_iload_n hx hb dX4_lengthOfAct_1 rfl (lv_at hl 1 rfl) ?_
  refine z_callVp (As := [.int (zI pl)]) (rest := []) (C := RX4) (T := TX4) (N := 2) F hK hz hl (c_X4_kindAt l D cI cJ cZ pd sg sgn ln pl (by first | assumption | omega) (hbs) (by omega)) (cwV 1 hts gX4_lengthOfAct_X4_kindAt rfl rfl rfl (by decide +kernel) ⟨Nat.le_of_ble_eq_true rfl, Nat.le_of_ble_eq_true rfl⟩) rfl 0 rfl [0, 1] rfl rfl rfl rfl (Nat.le_of_ble_eq_true rfl) ⟨Nat.le_of_ble_eq_true rfl, Nat.le_of_ble_eq_true rfl⟩ dX4_lengthOfAct_2 ?_
  have hs1 := kndS_bd hln hbs pl
  by_cases h5 : (kndS ln sgn pl) = 46
  ·
    refine z_lkuIn (k := 46) (off := 43) (tgt := 48) hx hb dX4_lengthOfAct_5 (by omega) (by decide) (by decide +kernel) (by decide +kernel) (by decide) ?_
    refine z_iconst hx hb dX4_lengthOfAct_48 ?_
    exact hret dX4_lengthOfAct_49 (congrArg (fun z => some (Value.int (zI z))) (show (1 : Int) = (lenS ln sgn pl) by simp [lenS, h5]))
  ·
    by_cases h5q : (kndS ln sgn pl) = 47
    ·
      refine z_lkuIn (k := 47) (off := 45) (tgt := 50) hx hb dX4_lengthOfAct_5 (by omega) (by decide) (by decide +kernel) (by decide +kernel) (by decide) ?_
      refine z_iconst hx hb dX4_lengthOfAct_50 ?_
      exact hret dX4_lengthOfAct_51 (congrArg (fun z => some (Value.int (zI z))) (show (2 : Int) = (lenS ln sgn pl) by simp [lenS, h5, h5q]))
    ·
      by_cases h5qq : (kndS ln sgn pl) = 58
      ·
        refine z_lkuIn (k := 58) (off := 45) (tgt := 50) hx hb dX4_lengthOfAct_5 (by omega) (by decide) (by decide +kernel) (by decide +kernel) (by decide) ?_
        refine z_iconst hx hb dX4_lengthOfAct_50 ?_
        exact hret dX4_lengthOfAct_51 (congrArg (fun z => some (Value.int (zI z))) (show (2 : Int) = (lenS ln sgn pl) by simp [lenS, h5, h5q, h5qq]))
      ·
        by_cases h5qqq : (kndS ln sgn pl) = 63
        ·
          refine z_lkuIn (k := 63) (off := 45) (tgt := 50) hx hb dX4_lengthOfAct_5 (by omega) (by decide) (by decide +kernel) (by decide +kernel) (by decide) ?_
          refine z_iconst hx hb dX4_lengthOfAct_50 ?_
          exact hret dX4_lengthOfAct_51 (congrArg (fun z => some (Value.int (zI z))) (show (2 : Int) = (lenS ln sgn pl) by simp [lenS, h5, h5q, h5qq, h5qqq]))
        ·
          refine z_lkuOut (tgt := 52) hx hb dX4_lengthOfAct_5 (by omega) (by decide +kernel) (by simp [Op.lookupswitch.offset, Ne.symm h5, Ne.symm h5q, Ne.symm h5qq, Ne.symm h5qqq]) (by decide) ?_
          refine z_iconst hx hb dX4_lengthOfAct_52 ?_
          exact hret dX4_lengthOfAct_53 (congrArg (fun z => some (Value.int (zI z))) (show (3 : Int) = (lenS ln sgn pl) by simp [lenS, h5, h5q, h5qq, h5qqq]))

set_option maxHeartbeats 4000000 in
set_option maxRecDepth 100000 in
theorem c_X4_isLetter (l : Launch) (D : va_G) (cI cJ cZ : ClassId) (x : Int) (hx1 : -2147483648 ≤ x ∧ x ≤ 2147483647) : zMp l yX4_isLetter wsX4_isLetter (zRm 0) D cI cJ cZ [.int (zI x)] [] (some (.int (zI (if letS x = true then 1 else 0)))) := by
  refine zMp_z (cc := cX4_isLetter) (maxL := 1) (by decide +kernel) rfl (Nat.le_of_ble_eq_true rfl) rfl ?_
  intro p e s m args below meth c Q H ls F hK hz hl hret
  obtain ⟨hx, hb, hml, hown0, hts⟩ := id F
  have hown : s.vm.findClass RX4 = some m.cls := hown0
  obtain ⟨ws0, hw0⟩ : ∃ w : va_W, w = [] := ⟨_, rfl⟩
  have hz : zH D (zF ws0) H [] H [] := by rw [hw0]; exact hz
  have hl : lv_has ls 1 [(0, .int (zI x))] := hl
  refine lv_iload_n hx hb dX4_isLetter_0 rfl (lv_at hl 0 rfl) ?_
  refine z_bipush hx hb dX4_isLetter_1 (by decide) ?_
  refine z_icmp_lt (tgt := 16) hx hb dX4_isLetter_3 (by decide) (by omega) (by decide) (fun h3 => ?_) (fun h3 => ?_)
  ·
    refine z_iconst hx hb dX4_isLetter_16 ?_
    exact hret dX4_isLetter_17 (by first | decide | omega | (split <;> decide)) (congrArg (fun z => some (Value.int (zI z))) (show (0 : Int) = (if letS x = true then 1 else 0) by unfold letS; first | rw [if_pos (decide_eq_true (by omega))] | rw [if_neg (by rw [decide_eq_false (by omega)]; decide)]))
  ·
    refine lv_iload_n hx hb dX4_isLetter_6 rfl (lv_at hl 0 rfl) ?_
    refine z_bipush hx hb dX4_isLetter_7 (by decide) ?_
    refine z_icmp_gt (tgt := 16) hx hb dX4_isLetter_9 (by decide) (by omega) (by decide) (fun h9 => ?_) (fun h9 => ?_)
    ·
      refine z_iconst hx hb dX4_isLetter_16 ?_
      exact hret dX4_isLetter_17 (by first | decide | omega | (split <;> decide)) (congrArg (fun z => some (Value.int (zI z))) (show (0 : Int) = (if letS x = true then 1 else 0) by unfold letS; first | rw [if_pos (decide_eq_true (by omega))] | rw [if_neg (by rw [decide_eq_false (by omega)]; decide)]))
    ·
      refine z_iconst hx hb dX4_isLetter_12 ?_
      refine lv_goto (tgt := 17) hx hb dX4_isLetter_13 (by decide) ?_
      exact hret dX4_isLetter_17 (by first | decide | omega | (split <;> decide)) (congrArg (fun z => some (Value.int (zI z))) (show (1 : Int) = (if letS x = true then 1 else 0) by unfold letS; first | rw [if_pos (decide_eq_true (by omega))] | rw [if_neg (by rw [decide_eq_false (by omega)]; decide)]))

set_option maxHeartbeats 4000000 in
set_option maxRecDepth 100000 in
theorem c_X4_isKind (l : Launch) (D : va_G) (cI cJ cZ : ClassId) (x : Int) (hx1 : -2147483648 ≤ x ∧ x ≤ 2147483647) : zMp l yX4_isKind wsX4_isKind (zRm 0) D cI cJ cZ [.int (zI x)] [] (some (.int (zI (if isKS x = true then 1 else 0)))) := by
  refine zMp_z (cc := cX4_isKind) (maxL := 1) (by decide +kernel) rfl (Nat.le_of_ble_eq_true rfl) rfl ?_
  intro p e s m args below meth c Q H ls F hK hz hl hret
  obtain ⟨hx, hb, hml, hown0, hts⟩ := id F
  have hown : s.vm.findClass RX4 = some m.cls := hown0
  obtain ⟨ws0, hw0⟩ : ∃ w : va_W, w = [] := ⟨_, rfl⟩
  have hz : zH D (zF ws0) H [] H [] := by rw [hw0]; exact hz
  have hl : lv_has ls 1 [(0, .int (zI x))] := hl
  refine lv_iload_n hx hb dX4_isKind_0 rfl (lv_at hl 0 rfl) ?_
  refine z_bipush hx hb dX4_isKind_1 (by decide) ?_
  refine z_icmp_eq (tgt := 36) hx hb dX4_isKind_3 (by decide) (by omega) (by decide) (fun h3 => ?_) (fun h3 => ?_)
  ·
    refine z_iconst hx hb dX4_isKind_36 ?_
    refine lv_goto (tgt := 41) hx hb dX4_isKind_37 (by decide) ?_
    exact hret dX4_isKind_41 (by first | decide | omega | (split <;> decide)) (congrArg (fun z => some (Value.int (zI z))) (show (1 : Int) = (if isKS x = true then 1 else 0) by unfold isKS; first | rw [if_pos (decide_eq_true (by omega))] | rw [if_neg (by rw [decide_eq_false (by omega)]; decide)]))
  ·
    refine lv_iload_n hx hb dX4_isKind_6 rfl (lv_at hl 0 rfl) ?_
    refine z_bipush hx hb dX4_isKind_7 (by decide) ?_
    refine z_icmp_eq (tgt := 36) hx hb dX4_isKind_9 (by decide) (by omega) (by decide) (fun h9 => ?_) (fun h9 => ?_)
    ·
      refine z_iconst hx hb dX4_isKind_36 ?_
      refine lv_goto (tgt := 41) hx hb dX4_isKind_37 (by decide) ?_
      exact hret dX4_isKind_41 (by first | decide | omega | (split <;> decide)) (congrArg (fun z => some (Value.int (zI z))) (show (1 : Int) = (if isKS x = true then 1 else 0) by unfold isKS; first | rw [if_pos (decide_eq_true (by omega))] | rw [if_neg (by rw [decide_eq_false (by omega)]; decide)]))
    ·
      refine lv_iload_n hx hb dX4_isKind_12 rfl (lv_at hl 0 rfl) ?_
      refine z_bipush hx hb dX4_isKind_13 (by decide) ?_
      refine z_icmp_eq (tgt := 36) hx hb dX4_isKind_15 (by decide) (by omega) (by decide) (fun h15 => ?_) (fun h15 => ?_)
      ·
        refine z_iconst hx hb dX4_isKind_36 ?_
        refine lv_goto (tgt := 41) hx hb dX4_isKind_37 (by decide) ?_
        exact hret dX4_isKind_41 (by first | decide | omega | (split <;> decide)) (congrArg (fun z => some (Value.int (zI z))) (show (1 : Int) = (if isKS x = true then 1 else 0) by unfold isKS; first | rw [if_pos (decide_eq_true (by omega))] | rw [if_neg (by rw [decide_eq_false (by omega)]; decide)]))
      ·
        refine lv_iload_n hx hb dX4_isKind_18 rfl (lv_at hl 0 rfl) ?_
        refine z_bipush hx hb dX4_isKind_19 (by decide) ?_
        refine z_icmp_eq (tgt := 36) hx hb dX4_isKind_21 (by decide) (by omega) (by decide) (fun h21 => ?_) (fun h21 => ?_)
        ·
          refine z_iconst hx hb dX4_isKind_36 ?_
          refine lv_goto (tgt := 41) hx hb dX4_isKind_37 (by decide) ?_
          exact hret dX4_isKind_41 (by first | decide | omega | (split <;> decide)) (congrArg (fun z => some (Value.int (zI z))) (show (1 : Int) = (if isKS x = true then 1 else 0) by unfold isKS; first | rw [if_pos (decide_eq_true (by omega))] | rw [if_neg (by rw [decide_eq_false (by omega)]; decide)]))
        ·
          refine lv_iload_n hx hb dX4_isKind_24 rfl (lv_at hl 0 rfl) ?_
          refine z_bipush hx hb dX4_isKind_25 (by decide) ?_
          refine z_icmp_eq (tgt := 36) hx hb dX4_isKind_27 (by decide) (by omega) (by decide) (fun h27 => ?_) (fun h27 => ?_)
          ·
            refine z_iconst hx hb dX4_isKind_36 ?_
            refine lv_goto (tgt := 41) hx hb dX4_isKind_37 (by decide) ?_
            exact hret dX4_isKind_41 (by first | decide | omega | (split <;> decide)) (congrArg (fun z => some (Value.int (zI z))) (show (1 : Int) = (if isKS x = true then 1 else 0) by unfold isKS; first | rw [if_pos (decide_eq_true (by omega))] | rw [if_neg (by rw [decide_eq_false (by omega)]; decide)]))
          ·
            refine lv_iload_n hx hb dX4_isKind_30 rfl (lv_at hl 0 rfl) ?_
            refine z_bipush hx hb dX4_isKind_31 (by decide) ?_
            refine z_icmp_ne (tgt := 40) hx hb dX4_isKind_33 (by decide) (by omega) (by decide) (fun h33 => ?_) (fun h33 => ?_)
            ·
              refine z_iconst hx hb dX4_isKind_40 ?_
              exact hret dX4_isKind_41 (by first | decide | omega | (split <;> decide)) (congrArg (fun z => some (Value.int (zI z))) (show (0 : Int) = (if isKS x = true then 1 else 0) by unfold isKS; first | rw [if_pos (decide_eq_true (by omega))] | rw [if_neg (by rw [decide_eq_false (by omega)]; decide)]))
            ·
              refine z_iconst hx hb dX4_isKind_36 ?_
              refine lv_goto (tgt := 41) hx hb dX4_isKind_37 (by decide) ?_
              exact hret dX4_isKind_41 (by first | decide | omega | (split <;> decide)) (congrArg (fun z => some (Value.int (zI z))) (show (1 : Int) = (if isKS x = true then 1 else 0) by unfold isKS; first | rw [if_pos (decide_eq_true (by omega))] | rw [if_neg (by rw [decide_eq_false (by omega)]; decide)]))

set_option maxHeartbeats 4000000 in
set_option maxRecDepth 100000 in
theorem c_X4_faultOfEnd (l : Launch) (D : va_G) (cI cJ cZ : ClassId) (pd sg : Nat) (sgn : Int → Int) (ln pl : Int) (hln : 0 ≤ ln ∧ ln ≤ 60) (hbs : zBd sgn 60 0 126) (hpl : 0 ≤ pl ∧ pl ≤ 1000) : zMp l yX4_faultOfEnd wsX4_faultOfEnd (zRm 2) D cI cJ cZ [.ref pd, .int (zI pl)] [(pd, .inr (3, [.ref sg, .int (zI ln)])), (sg, .inl (cI, 60, .inl (zA sgn)))] (some (.int (zI (feS ln sgn pl)))) := by
  refine zMp_i (cc := cX4_faultOfEnd) (maxL := 4) (by decide +kernel) rfl (Nat.le_of_ble_eq_true rfl) rfl ?_
  intro p e s m args below meth c Q H ls F hK hz hl hret
  obtain ⟨hx, hb, hml, hown0, hts⟩ := id F
  have hown : s.vm.findClass RX4 = some m.cls := hown0
  obtain ⟨ws0, hw0⟩ : ∃ w : va_W, w = [(pd, .inr (3, [.ref sg, .int (zI ln)])), (sg, .inl (cI, 60, .inl (zA sgn)))] := ⟨_, rfl⟩
  have hz : zH D (zF ws0) H [(pd, .inr (3, [.ref sg, .int (zI ln)])), (sg, .inl (cI, 60, .inl (zA sgn)))] H [] := by rw [hw0]; exact hz
  have hl : lv_has ls 4 [(0, .ref pd), (1, .int (zI pl))] := hl
  refine lv_aload_n hx hb dX4_faultOfEnd_0 rfl (lv_at hl 0 rfl) ?_
  refine lv_iload_n hx hb dX4_faultOfEnd_1 rfl (lv_at hl 1 rfl) ?_
  refine z_iconst hx hb dX4_faultOfEnd_2 ?_
  refine z_iadd hx hb dX4_faultOfEnd_3 ?_
  refine z_callVp (As := [.int (zI (pl + 2))]) (rest := []) (C := RX4) (T := TX4) (N := 2) F hK hz hl (c_X4_signAt l D cI cJ cZ pd sg sgn ln (pl + 2) (by first | assumption | omega) (by omega)) (cwV 1 hts gX4_faultOfEnd_X4_signAt rfl rfl rfl (by decide +kernel) ⟨Nat.le_of_ble_eq_true rfl, Nat.le_of_ble_eq_true rfl⟩) rfl 0 rfl [0, 1] rfl rfl rfl rfl (Nat.le_of_ble_eq_true rfl) ⟨Nat.le_of_ble_eq_true rfl, Nat.le_of_ble_eq_true rfl⟩ dX4_faultOfEnd_4 ?_
  have hs1 := sigS_bd hln hbs (pl + 2)
  refine lv_istore_n (lv' := [(2, .int (zI (sigS ln sgn (pl + 2)))), (0, .ref pd), (1, .int (zI pl))]) hx hb dX4_faultOfEnd_7 rfl hl (Nat.le_of_ble_eq_true rfl) rfl (fun ls hl => ?_)
  refine lv_aload_n hx hb dX4_faultOfEnd_8 rfl (lv_at hl 1 rfl) ?_
  refine lv_iload_n hx hb dX4_faultOfEnd_9 rfl (lv_at hl 2 rfl) ?_
  refine z_callVp (As := [.int (zI pl)]) (rest := []) (C := RX4) (T := TX4) (N := 2) F hK hz hl (c_X4_kindAt l D cI cJ cZ pd sg sgn ln pl (by first | assumption | omega) (hbs) (by omega)) (cwV 1 hts gX4_faultOfEnd_X4_kindAt rfl rfl rfl (by decide +kernel) ⟨Nat.le_of_ble_eq_true rfl, Nat.le_of_ble_eq_true rfl⟩) rfl 0 rfl [0, 1] rfl rfl rfl rfl (Nat.le_of_ble_eq_true rfl) ⟨Nat.le_of_ble_eq_true rfl, Nat.le_of_ble_eq_true rfl⟩ dX4_faultOfEnd_10 ?_
  have hs2 := kndS_bd hln hbs pl
  refine z_bipush hx hb dX4_faultOfEnd_13 (by decide) ?_
  refine z_icmp_ne (tgt := 25) hx hb dX4_faultOfEnd_15 (by decide) (by omega) (by decide) (fun h15 => ?_) (fun h15 => ?_)
  ·
    refine lv_iload_n hx hb dX4_faultOfEnd_25 rfl (lv_at hl 0 rfl) ?_
    refine z_bipush hx hb dX4_faultOfEnd_26 (by decide) ?_
    refine z_icmp_lt (tgt := 41) hx hb dX4_faultOfEnd_28 (by decide) (by omega) (by decide) (fun h28 => ?_) (fun h28 => ?_)
    ·
      refine z_iconst hx hb dX4_faultOfEnd_41 ?_
      refine lv_istore_n (lv' := [(3, .int (zI 0)), (2, .int (zI (sigS ln sgn (pl + 2)))), (0, .ref pd), (1, .int (zI pl))]) hx hb dX4_faultOfEnd_42 rfl hl (Nat.le_of_ble_eq_true rfl) rfl (fun ls hl => ?_)
      refine lv_iload_n hx hb dX4_faultOfEnd_43 rfl (lv_at hl 0 rfl) ?_
      refine z_if_eq (tgt := 52) hx hb dX4_faultOfEnd_44 (by decide) (by decide) (fun h44 => ?_) (fun h44 => ?_)
      ·
        refine lv_iload_n hx hb dX4_faultOfEnd_52 rfl (lv_at hl 3 rfl) ?_
        refine z_iconst hx hb dX4_faultOfEnd_53 ?_
        refine z_iadd hx hb dX4_faultOfEnd_54 ?_
        exact hret dX4_faultOfEnd_55 (congrArg (fun z => some (Value.int (zI z))) (show ((pl + 2) : Int) = (feS ln sgn pl) by unfold feS; rw [if_neg h15]; first | rw [if_neg (by rw [decide_eq_false (by omega)]; decide)] | rw [if_pos (decide_eq_true (by omega))]))
      ·
        exfalso
        first | omega | (revert h44; simp_all; done) | simp_all
    ·
      refine lv_iload_n hx hb dX4_faultOfEnd_31 rfl (lv_at hl 0 rfl) ?_
      refine z_bipush hx hb dX4_faultOfEnd_32 (by decide) ?_
      refine z_icmp_gt (tgt := 41) hx hb dX4_faultOfEnd_34 (by decide) (by omega) (by decide) (fun h34 => ?_) (fun h34 => ?_)
      ·
        refine z_iconst hx hb dX4_faultOfEnd_41 ?_
        refine lv_istore_n (lv' := [(3, .int (zI 0)), (2, .int (zI (sigS ln sgn (pl + 2)))), (0, .ref pd), (1, .int (zI pl))]) hx hb dX4_faultOfEnd_42 rfl hl (Nat.le_of_ble_eq_true rfl) rfl (fun ls hl => ?_)
        refine lv_iload_n hx hb dX4_faultOfEnd_43 rfl (lv_at hl 0 rfl) ?_
        refine z_if_eq (tgt := 52) hx hb dX4_faultOfEnd_44 (by decide) (by decide) (fun h44 => ?_) (fun h44 => ?_)
        ·
          refine lv_iload_n hx hb dX4_faultOfEnd_52 rfl (lv_at hl 3 rfl) ?_
          refine z_iconst hx hb dX4_faultOfEnd_53 ?_
          refine z_iadd hx hb dX4_faultOfEnd_54 ?_
          exact hret dX4_faultOfEnd_55 (congrArg (fun z => some (Value.int (zI z))) (show ((pl + 2) : Int) = (feS ln sgn pl) by unfold feS; rw [if_neg h15]; first | rw [if_neg (by rw [decide_eq_false (by omega)]; decide)] | rw [if_pos (decide_eq_true (by omega))]))
        ·
          exfalso
          first | omega | (revert h44; simp_all; done) | simp_all
      ·
        refine z_iconst hx hb dX4_faultOfEnd_37 ?_
        refine lv_goto (tgt := 42) hx hb dX4_faultOfEnd_38 (by decide) ?_
        refine lv_istore_n (lv' := [(3, .int (zI 1)), (2, .int (zI (sigS ln sgn (pl + 2)))), (0, .ref pd), (1, .int (zI pl))]) hx hb dX4_faultOfEnd_42 rfl hl (Nat.le_of_ble_eq_true rfl) rfl (fun ls hl => ?_)
        refine lv_iload_n hx hb dX4_faultOfEnd_43 rfl (lv_at hl 0 rfl) ?_
        refine z_if_eq (tgt := 52) hx hb dX4_faultOfEnd_44 (by decide) (by decide) (fun h44 => ?_) (fun h44 => ?_)
        ·
          exfalso
          first | omega | (revert h44; simp_all; done) | simp_all
        ·
          refine z_bipush hx hb dX4_faultOfEnd_47 (by decide) ?_
          refine lv_goto (tgt := 55) hx hb dX4_faultOfEnd_49 (by decide) ?_
          exact hret dX4_faultOfEnd_55 (congrArg (fun z => some (Value.int (zI z))) (show ((-6) : Int) = (feS ln sgn pl) by unfold feS; rw [if_neg h15]; first | rw [if_neg (by rw [decide_eq_false (by omega)]; decide)] | rw [if_pos (decide_eq_true (by omega))]))
  ·
    refine lv_iload_n hx hb dX4_faultOfEnd_18 rfl (lv_at hl 0 rfl) ?_
    refine z_callSp (As := [.int (zI (sigS ln sgn (pl + 2)))]) (rest := []) F hK hz hl (c_X4_isLetter l D cI cJ cZ (sigS ln sgn (pl + 2)) (by omega)) (va_cwS 1 hts gX4_faultOfEnd_X4_isLetter rfl rfl rfl (by decide +kernel) ⟨Nat.le_of_ble_eq_true rfl, Nat.le_of_ble_eq_true rfl⟩) [] rfl rfl rfl rfl (Nat.le_of_ble_eq_true rfl) ⟨Nat.le_of_ble_eq_true rfl, Nat.le_of_ble_eq_true rfl⟩ dX4_faultOfEnd_19 ?_
    refine lv_goto (tgt := 42) hx hb dX4_faultOfEnd_22 (by decide) ?_
    refine lv_istore_n (lv' := [(3, .int (zI (if letS (sigS ln sgn (pl + 2)) = true then 1 else 0))), (2, .int (zI (sigS ln sgn (pl + 2)))), (0, .ref pd), (1, .int (zI pl))]) hx hb dX4_faultOfEnd_42 rfl hl (Nat.le_of_ble_eq_true rfl) rfl (fun ls hl => ?_)
    refine lv_iload_n hx hb dX4_faultOfEnd_43 rfl (lv_at hl 0 rfl) ?_
    refine z_ifb_eq (tgt := 52) hx hb dX4_faultOfEnd_44 (by decide) (fun h44 => ?_) (fun h44 => ?_)
    ·
      refine lv_iload_n hx hb dX4_faultOfEnd_52 rfl (lv_at hl 3 rfl) ?_
      refine z_iconst hx hb dX4_faultOfEnd_53 ?_
      refine z_iadd hx hb dX4_faultOfEnd_54 ?_
      exact hret dX4_faultOfEnd_55 (congrArg (fun z => some (Value.int (zI z))) (show ((pl + 2) : Int) = (feS ln sgn pl) by unfold feS; rw [if_pos h15]; simp [h44]))
    ·
      refine z_bipush hx hb dX4_faultOfEnd_47 (by decide) ?_
      refine lv_goto (tgt := 55) hx hb dX4_faultOfEnd_49 (by decide) ?_
      exact hret dX4_faultOfEnd_55 (congrArg (fun z => some (Value.int (zI z))) (show ((-6) : Int) = (feS ln sgn pl) by unfold feS; rw [if_pos h15]; simp [h44]))

set_option maxHeartbeats 4000000 in
set_option maxRecDepth 100000 in
theorem c_X4_faultOfAct (l : Launch) (D : va_G) (cI cJ cZ : ClassId) (pd sg : Nat) (sgn : Int → Int) (ln pl : Int) (hln : 0 ≤ ln ∧ ln ≤ 60) (hbs : zBd sgn 60 0 126) (hpl : 0 ≤ pl ∧ pl ≤ 1000) : zMp l yX4_faultOfAct wsX4_faultOfAct (zRm 3) D cI cJ cZ [.ref pd, .int (zI pl)] [(pd, .inr (3, [.ref sg, .int (zI ln)])), (sg, .inl (cI, 60, .inl (zA sgn)))] (some (.int (zI (faS ln sgn pl)))) := by
  refine zMp_i (cc := cX4_faultOfAct) (maxL := 3) (by decide +kernel) rfl (Nat.le_of_ble_eq_true rfl) rfl ?_
  intro p e s m args below meth c Q H ls F hK hz hl hret
  obtain ⟨hx, hb, hml, hown0, hts⟩ := id F
  have hown : s.vm.findClass RX4 = some m.cls := hown0
  obtain ⟨ws0, hw0⟩ : ∃ w : va_W, w = [(pd, .inr (3, [.ref sg, .int (zI ln)])), (sg, .inl (cI, 60, .inl (zA sgn)))] := ⟨_, rfl⟩
  have hz : zH D (zF ws0) H [(pd, .inr (3, [.ref sg, .int (zI ln)])), (sg, .inl (cI, 60, .inl (zA sgn)))] H [] := by rw [hw0]; exact hz
  have hl : lv_has ls 3 [(0, .ref pd), (1, .int (zI pl))] := hl
  refine lv_aload_n hx hb dX4_faultOfAct_0 rfl (lv_at hl 0 rfl) ?_
  refine lv_iload_n hx hb dX4_faultOfAct_1 rfl (lv_at hl 1 rfl) ?_
  refine z_callVp (As := [.int (zI pl)]) (rest := []) (C := RX4) (T := TX4) (N := 2) F hK hz hl (c_X4_signAt l D cI cJ cZ pd sg sgn ln pl (by first | assumption | omega) (by omega)) (cwV 1 hts gX4_faultOfAct_X4_signAt rfl rfl rfl (by decide +kernel) ⟨Nat.le_of_ble_eq_true rfl, Nat.le_of_ble_eq_true rfl⟩) rfl 0 rfl [0, 1] rfl rfl rfl rfl (Nat.le_of_ble_eq_true rfl) ⟨Nat.le_of_ble_eq_true rfl, Nat.le_of_ble_eq_true rfl⟩ dX4_faultOfAct_2 ?_
  have hs1 := sigS_bd hln hbs pl
  refine lv_istore_n (lv' := [(2, .int (zI (sigS ln sgn pl))), (0, .ref pd), (1, .int (zI pl))]) hx hb dX4_faultOfAct_5 rfl hl (Nat.le_of_ble_eq_true rfl) rfl (fun ls hl => ?_)
  refine lv_iload_n hx hb dX4_faultOfAct_6 rfl (lv_at hl 0 rfl) ?_
  refine z_bipush hx hb dX4_faultOfAct_7 (by decide) ?_
  refine z_icmp_ne (tgt := 15) hx hb dX4_faultOfAct_9 (by decide) (by omega) (by decide) (fun h9 => ?_) (fun h9 => ?_)
  ·
    refine lv_iload_n hx hb dX4_faultOfAct_15 rfl (lv_at hl 0 rfl) ?_
    refine z_callSp (As := [.int (zI (sigS ln sgn pl))]) (rest := []) F hK hz hl (c_X4_isLetter l D cI cJ cZ (sigS ln sgn pl) (by omega)) (va_cwS 1 hts gX4_faultOfAct_X4_isLetter rfl rfl rfl (by decide +kernel) ⟨Nat.le_of_ble_eq_true rfl, Nat.le_of_ble_eq_true rfl⟩) [] rfl rfl rfl rfl (Nat.le_of_ble_eq_true rfl) ⟨Nat.le_of_ble_eq_true rfl, Nat.le_of_ble_eq_true rfl⟩ dX4_faultOfAct_16 ?_
    refine z_ifb_ne (tgt := 24) hx hb dX4_faultOfAct_19 (by decide) (fun h19 => ?_) (fun h19 => ?_)
    ·
      refine lv_aload_n hx hb dX4_faultOfAct_24 rfl (lv_at hl 1 rfl) ?_
      refine lv_iload_n hx hb dX4_faultOfAct_25 rfl (lv_at hl 2 rfl) ?_
      refine z_iconst hx hb dX4_faultOfAct_26 ?_
      refine z_iadd hx hb dX4_faultOfAct_27 ?_
      refine z_callVp (As := [.int (zI (pl + 1))]) (rest := []) (C := RX4) (T := TX4) (N := 2) F hK hz hl (c_X4_signAt l D cI cJ cZ pd sg sgn ln (pl + 1) (by first | assumption | omega) (by omega)) (cwV 1 hts gX4_faultOfAct_X4_signAt rfl rfl rfl (by decide +kernel) ⟨Nat.le_of_ble_eq_true rfl, Nat.le_of_ble_eq_true rfl⟩) rfl 0 rfl [0, 1] rfl rfl rfl rfl (Nat.le_of_ble_eq_true rfl) ⟨Nat.le_of_ble_eq_true rfl, Nat.le_of_ble_eq_true rfl⟩ dX4_faultOfAct_28 ?_
      have hs3 := sigS_bd hln hbs (pl + 1)
      refine z_callSp (As := [.int (zI (sigS ln sgn (pl + 1)))]) (rest := []) F hK hz hl (c_X4_isKind l D cI cJ cZ (sigS ln sgn (pl + 1)) (by omega)) (va_cwS 1 hts gX4_faultOfAct_X4_isKind rfl rfl rfl (by decide +kernel) ⟨Nat.le_of_ble_eq_true rfl, Nat.le_of_ble_eq_true rfl⟩) [] rfl rfl rfl rfl (Nat.le_of_ble_eq_true rfl) ⟨Nat.le_of_ble_eq_true rfl, Nat.le_of_ble_eq_true rfl⟩ dX4_faultOfAct_31 ?_
      refine z_ifb_ne (tgt := 41) hx hb dX4_faultOfAct_34 (by decide) (fun h34 => ?_) (fun h34 => ?_)
      ·
        refine lv_aload_n hx hb dX4_faultOfAct_41 rfl (lv_at hl 1 rfl) ?_
        refine lv_iload_n hx hb dX4_faultOfAct_42 rfl (lv_at hl 2 rfl) ?_
        refine z_callVp (As := [.int (zI pl)]) (rest := []) (C := RX4) (T := TX4) (N := 2) F hK hz hl (c_X4_lengthOfAct l D cI cJ cZ pd sg sgn ln pl (by first | assumption | omega) (hbs) (by omega)) (cwV 1 hts gX4_faultOfAct_X4_lengthOfAct rfl rfl rfl (by decide +kernel) ⟨Nat.le_of_ble_eq_true rfl, Nat.le_of_ble_eq_true rfl⟩) rfl 0 rfl [0, 1] rfl rfl rfl rfl (Nat.le_of_ble_eq_true rfl) ⟨Nat.le_of_ble_eq_true rfl, Nat.le_of_ble_eq_true rfl⟩ dX4_faultOfAct_43 ?_
        have hs4 := lenS_bd ln sgn pl
        refine z_iconst hx hb dX4_faultOfAct_46 ?_
        refine z_icmp_ne (tgt := 55) hx hb dX4_faultOfAct_47 (by decide) (by omega) (by decide) (fun h47 => ?_) (fun h47 => ?_)
        ·
          refine lv_aload_n hx hb dX4_faultOfAct_55 rfl (lv_at hl 1 rfl) ?_
          refine lv_iload_n hx hb dX4_faultOfAct_56 rfl (lv_at hl 2 rfl) ?_
          refine z_callVp (As := [.int (zI pl)]) (rest := []) (C := RX4) (T := TX4) (N := 2) F hK hz hl (c_X4_faultOfEnd l D cI cJ cZ pd sg sgn ln pl (by first | assumption | omega) (hbs) (by omega)) (cwV 1 hts gX4_faultOfAct_X4_faultOfEnd rfl rfl rfl (by decide +kernel) ⟨Nat.le_of_ble_eq_true rfl, Nat.le_of_ble_eq_true rfl⟩) rfl 0 rfl [0, 1] rfl rfl rfl rfl (Nat.le_of_ble_eq_true rfl) ⟨Nat.le_of_ble_eq_true rfl, Nat.le_of_ble_eq_true rfl⟩ dX4_faultOfAct_57 ?_
          exact hret dX4_faultOfAct_60 (congrArg (fun z => some (Value.int (zI z))) (show ((feS ln sgn pl) : Int) = (faS ln sgn pl) by simp [faS, h9, h19, h34, h47]))
        ·
          refine z_bipush hx hb dX4_faultOfAct_50 (by decide) ?_
          refine lv_goto (tgt := 60) hx hb dX4_faultOfAct_52 (by decide) ?_
          exact hret dX4_faultOfAct_60 (congrArg (fun z => some (Value.int (zI z))) (show ((-6) : Int) = (faS ln sgn pl) by simp [faS, h9, h19, h34, h47]))
      ·
        refine lv_iload_n hx hb dX4_faultOfAct_37 rfl (lv_at hl 2 rfl) ?_
        refine z_iconst hx hb dX4_faultOfAct_38 ?_
        refine z_iadd hx hb dX4_faultOfAct_39 ?_
        exact hret dX4_faultOfAct_40 (congrArg (fun z => some (Value.int (zI z))) (show ((pl + 1) : Int) = (faS ln sgn pl) by simp [faS, h9, h19, h34]))
    ·
      refine lv_iload_n hx hb dX4_faultOfAct_22 rfl (lv_at hl 2 rfl) ?_
      exact hret dX4_faultOfAct_23 (congrArg (fun z => some (Value.int (zI z))) (show (pl : Int) = (faS ln sgn pl) by simp [faS, h9, h19]))
  ·
    refine z_bipush hx hb dX4_faultOfAct_12 (by decide) ?_
    exact hret dX4_faultOfAct_14 (congrArg (fun z => some (Value.int (zI z))) (show ((-6) : Int) = (faS ln sgn pl) by simp [faS, h9]))

set_option maxRecDepth 20000 in
theorem hin_X4_faultPlace_X4 : ∀ w ∈ u_ws RX4 TX4 2, w ∈ wsX4_faultPlace := by decide +kernel
set_option maxRecDepth 20000 in
theorem fl_X4_faultPlace_15 : Cond.fieldLink RX4 15 "HornCity$Pad" "length" "I" ∈ wsX4_faultPlace := by decide +kernel
set_option maxHeartbeats 4000000 in
set_option maxRecDepth 100000 in
theorem c_X4_faultPlace (l : Launch) (D : va_G) (cI cJ cZ : ClassId) (pd sg : Nat) (sgn : Int → Int) (ln : Int) (hln : 0 ≤ ln ∧ ln ≤ 60) (hbs : zBd sgn 60 0 126) : zMp l yX4_faultPlace wsX4_faultPlace (zRm 4) D cI cJ cZ [.ref pd] [(pd, .inr (3, [.ref sg, .int (zI ln)])), (sg, .inl (cI, 60, .inl (zA sgn)))] (some (.int (zI (fpW ln sgn)))) := by
  refine zMp_i (cc := cX4_faultPlace) (maxL := 4) (by decide +kernel) rfl (Nat.le_of_ble_eq_true rfl) rfl ?_
  intro p e s m args below meth c Q H ls F hK hz hl hret
  obtain ⟨hx, hb, hml, hown0, hts⟩ := id F
  have hown : s.vm.findClass RX4 = some m.cls := hown0
  obtain ⟨ws0, hw0⟩ : ∃ w : va_W, w = [(pd, .inr (3, [.ref sg, .int (zI ln)])), (sg, .inl (cI, 60, .inl (zA sgn)))] := ⟨_, rfl⟩
  have hz : zH D (zF ws0) H [(pd, .inr (3, [.ref sg, .int (zI ln)])), (sg, .inl (cI, 60, .inl (zA sgn)))] H [] := by rw [hw0]; exact hz
  have hl : lv_has ls 4 [(0, .ref pd)] := hl
  refine z_iconst hx hb dX4_faultPlace_0 ?_
  refine lv_istore_n (lv' := [(1, .int (zI 0)), (0, .ref pd)]) hx hb dX4_faultPlace_1 rfl hl (Nat.le_of_ble_eq_true rfl) rfl (fun ls hl => ?_)
  refine z_iconst hx hb dX4_faultPlace_2 ?_
  refine lv_istore_n (lv' := [(2, .int (zI 0)), (1, .int (zI 0)), (0, .ref pd)]) hx hb dX4_faultPlace_3 rfl hl (Nat.le_of_ble_eq_true rfl) rfl (fun ls hl => ?_)
  have L4 : ∀ (n : Nat) (ac pl : Int) (ls : Array Slot), ((60 - ac).toNat = n) → (0 ≤ ac ∧ ac ≤ 60) → (0 ≤ pl ∧ pl ≤ 3 * ac) → (fpS ln sgn 60 0 = fpS ln sgn (60 - ac).toNat pl) → lv_has ls 4 [(2, .int (zI ac)), (1, .int (zI pl)), (0, .ref pd)] → W p l e (zRm 4) s m args below meth c H [] 0 0 Q (F0 m 4 ls []) := by
    intro n
    refine Nat.strongRecOn n ?_
    intro n ih4 ac pl ls hn4 h0 h1 hf hl
    refine lv_iload_n hx hb dX4_faultPlace_4 rfl (lv_at hl 0 rfl) ?_
    refine z_bipush hx hb dX4_faultPlace_5 (by decide) ?_
    refine z_icmp_ge (tgt := 46) hx hb dX4_faultPlace_7 (by decide) (by omega) (by decide) (fun h7 => ?_) (fun h7 => ?_)
    ·
      refine z_bipush hx hb dX4_faultPlace_46 (by decide) ?_
      exact hret dX4_faultPlace_48 (congrArg (fun z => some (Value.int (zI z))) (show ((-6) : Int) = (fpW ln sgn) by unfold fpW; rw [hf]; have e : ac = 60 := (by omega); subst e; rfl))
    ·
      refine lv_iload_n hx hb dX4_faultPlace_10 rfl (lv_at hl 1 rfl) ?_
      refine lv_aload_n hx hb dX4_faultPlace_11 rfl (lv_at hl 2 rfl) ?_
      refine z_get (C := RX4) (T := TX4) (N := 2) (ref := "HornCity$Pad") hx hb hts hin_X4_faultPlace_X4 hown hK hz 0 rfl rfl 1 (by decide) (hts _ fl_X4_faultPlace_15) rfl rfl dX4_faultPlace_12 ?_
      refine z_icmp_ge (tgt := 46) hx hb dX4_faultPlace_15 (by decide) (by omega) (by omega) (fun h15 => ?_) (fun h15 => ?_)
      ·
        refine z_bipush hx hb dX4_faultPlace_46 (by decide) ?_
        exact hret dX4_faultPlace_48 (congrArg (fun z => some (Value.int (zI z))) (show ((-6) : Int) = (fpW ln sgn) by unfold fpW; rw [hf, fpS_at (by omega), if_neg (by omega)]))
      ·
        refine lv_aload_n hx hb dX4_faultPlace_18 rfl (lv_at hl 2 rfl) ?_
        refine lv_iload_n hx hb dX4_faultPlace_19 rfl (lv_at hl 1 rfl) ?_
        refine z_callVp (As := [.int (zI pl)]) (rest := []) (C := RX4) (T := TX4) (N := 2) F hK hz hl (c_X4_faultOfAct l D cI cJ cZ pd sg sgn ln pl (by first | assumption | omega) (hbs) (by omega)) (cwV 1 hts gX4_faultPlace_X4_faultOfAct rfl rfl rfl (by decide +kernel) ⟨Nat.le_of_ble_eq_true rfl, Nat.le_of_ble_eq_true rfl⟩) rfl 0 rfl [0, 1] rfl rfl rfl rfl (Nat.le_of_ble_eq_true rfl) ⟨Nat.le_of_ble_eq_true rfl, Nat.le_of_ble_eq_true rfl⟩ dX4_faultPlace_20 ?_
        have hs1 := faS_bd ln sgn pl (by omega)
        refine lv_istore_n (lv' := [(3, .int (zI (faS ln sgn pl))), (2, .int (zI ac)), (1, .int (zI pl)), (0, .ref pd)]) hx hb dX4_faultPlace_23 rfl hl (Nat.le_of_ble_eq_true rfl) rfl (fun ls hl => ?_)
        refine lv_iload_n hx hb dX4_faultPlace_24 rfl (lv_at hl 0 rfl) ?_
        refine z_bipush hx hb dX4_faultPlace_25 (by decide) ?_
        refine z_icmp_eq (tgt := 32) hx hb dX4_faultPlace_27 (by decide) (by omega) (by decide) (fun h27 => ?_) (fun h27 => ?_)
        ·
          refine lv_iload_n hx hb dX4_faultPlace_32 rfl (lv_at hl 2 rfl) ?_
          refine lv_aload_n hx hb dX4_faultPlace_33 rfl (lv_at hl 3 rfl) ?_
          refine lv_iload_n hx hb dX4_faultPlace_34 rfl (lv_at hl 2 rfl) ?_
          refine z_callVp (As := [.int (zI pl)]) (rest := [.int (zI pl)]) (C := RX4) (T := TX4) (N := 2) F hK hz hl (c_X4_lengthOfAct l D cI cJ cZ pd sg sgn ln pl (by first | assumption | omega) (hbs) (by omega)) (cwV 1 hts gX4_faultPlace_X4_lengthOfAct rfl rfl rfl (by decide +kernel) ⟨Nat.le_of_ble_eq_true rfl, Nat.le_of_ble_eq_true rfl⟩) rfl 0 rfl [0, 1] rfl rfl rfl rfl (Nat.le_of_ble_eq_true rfl) ⟨Nat.le_of_ble_eq_true rfl, Nat.le_of_ble_eq_true rfl⟩ dX4_faultPlace_35 ?_
          have hs4 := lenS_bd ln sgn pl
          refine z_iadd hx hb dX4_faultPlace_38 ?_
          refine lv_istore_n (lv' := [(1, .int (zI (pl + (lenS ln sgn pl)))), (3, .int (zI (faS ln sgn pl))), (2, .int (zI ac)), (0, .ref pd)]) hx hb dX4_faultPlace_39 rfl hl (Nat.le_of_ble_eq_true rfl) rfl (fun ls hl => ?_)
          refine z_iinc (lv' := [(2, .int (zI (ac + 1))), (1, .int (zI (pl + (lenS ln sgn pl)))), (3, .int (zI (faS ln sgn pl))), (0, .ref pd)]) hx hb dX4_faultPlace_40 hl (k := 2) rfl (Nat.le_of_ble_eq_true rfl) rfl (fun ls hl => ?_)
          refine lv_goto (tgt := 4) hx hb dX4_faultPlace_43 (by decide) ?_
          exact ih4 _ (by omega) (ac + 1) (pl + (lenS ln sgn pl)) ls rfl (by omega) (by omega) (by rw [hf, fpS_at (by omega), if_pos (by omega), if_pos h27]) (lv_sub hl [0, 1, 3] rfl)
        ·
          refine lv_iload_n hx hb dX4_faultPlace_30 rfl (lv_at hl 0 rfl) ?_
          exact hret dX4_faultPlace_31 (congrArg (fun z => some (Value.int (zI z))) (show ((faS ln sgn pl) : Int) = (fpW ln sgn) by unfold fpW; rw [hf, fpS_at (by omega), if_pos (by omega), if_neg h27]))
  exact L4 _ 0 0 ls rfl (by decide) (by decide) (rfl) (lv_sub hl [0, 1, 2] rfl)

set_option maxRecDepth 20000 in
theorem hin_X4_write_X4 : ∀ w ∈ u_ws RX4 TX4 2, w ∈ wsX4_write := by decide +kernel
set_option maxRecDepth 20000 in
theorem fl_X4_write_15 : Cond.fieldLink RX4 15 "HornCity$Pad" "length" "I" ∈ wsX4_write := by decide +kernel
set_option maxRecDepth 20000 in
theorem fl_X4_write_9 : Cond.fieldLink RX4 9 "HornCity$Pad" "signs" "[I" ∈ wsX4_write := by decide +kernel
set_option maxHeartbeats 4000000 in
set_option maxRecDepth 100000 in
theorem c_X4_write (l : Launch) (D : va_G) (cI cJ cZ : ClassId) (pd sg : Nat) (sgn : Int → Int) (ln sign : Int) (hln : 0 ≤ ln ∧ ln ≤ 60) : zMw l yX4_write wsX4_write (zRm 0) D cI cJ cZ [.ref pd, .int (zI sign)] [(pd, .inr (3, [.ref sg, .int (zI ln)])), (sg, .inl (cI, 60, .inl (zA sgn)))] (S := Int × (Int → Int) × Int) (fun u => u.1 = (if ln < 60 then 1 else 0) ∧ u.2.1 = (if ln < 60 then zU sgn ln sign else sgn) ∧ u.2.2 = (if ln < 60 then ln + 1 else ln)) (fun u => some (.int (zI u.1))) (fun u => [(pd, .inr (3, [.ref sg, .int (zI u.2.2)])), (sg, .inl (cI, 60, .inl (zA u.2.1)))]) := by
  refine zMw_z (cc := cX4_write) (maxL := 2) (by decide +kernel) rfl (Nat.le_of_ble_eq_true rfl) rfl (fun _ => rfl) ?_
  intro p e s m args below meth c Q H0 ls F hK hz hl hret
  obtain ⟨hx, hb, hml, hown0, hts⟩ := id F
  have hown : s.vm.findClass RX4 = some m.cls := hown0
  obtain ⟨ws0, hw0⟩ : ∃ w : va_W, w = [(pd, .inr (3, [.ref sg, .int (zI ln)])), (sg, .inl (cI, 60, .inl (zA sgn)))] := ⟨_, rfl⟩
  rw [← hw0] at hret
  have hz : zH D (zF ws0) H0 [(pd, .inr (3, [.ref sg, .int (zI ln)])), (sg, .inl (cI, 60, .inl (zA sgn)))] H0 [] := by rw [hw0]; exact hz
  have hl : lv_has ls 2 [(0, .ref pd), (1, .int (zI sign))] := hl
  refine lv_aload_n hx hb dX4_write_0 rfl (lv_at hl 0 rfl) ?_
  refine z_get (C := RX4) (T := TX4) (N := 2) (ref := "HornCity$Pad") hx hb hts hin_X4_write_X4 hown hK hz 0 rfl rfl 1 (by decide) (hts _ fl_X4_write_15) rfl rfl dX4_write_1 ?_
  refine z_if_lt (tgt := 16) hx hb dX4_write_4 (by decide) (by omega) (fun h4 => ?_) (fun h4 => ?_)
  ·
    exfalso; omega
  ·
    refine lv_aload_n hx hb dX4_write_7 rfl (lv_at hl 0 rfl) ?_
    refine z_get (C := RX4) (T := TX4) (N := 2) (ref := "HornCity$Pad") hx hb hts hin_X4_write_X4 hown hK hz 0 rfl rfl 1 (by decide) (hts _ fl_X4_write_15) rfl rfl dX4_write_8 ?_
    refine z_bipush hx hb dX4_write_11 (by decide) ?_
    refine z_icmp_lt (tgt := 18) hx hb dX4_write_13 (by decide) (by omega) (by decide) (fun h13 => ?_) (fun h13 => ?_)
    ·
      refine lv_aload_n hx hb dX4_write_18 rfl (lv_at hl 0 rfl) ?_
      refine z_get (C := RX4) (T := TX4) (N := 2) (ref := "HornCity$Pad") hx hb hts hin_X4_write_X4 hown hK hz 0 rfl rfl 0 (by decide) (hts _ fl_X4_write_9) rfl rfl dX4_write_19 ?_
      refine lv_aload_n hx hb dX4_write_22 rfl (lv_at hl 0 rfl) ?_
      refine z_get (C := RX4) (T := TX4) (N := 2) (ref := "HornCity$Pad") hx hb hts hin_X4_write_X4 hown hK hz 0 rfl rfl 1 (by decide) (hts _ fl_X4_write_15) rfl rfl dX4_write_23 ?_
      refine lv_iload_n hx hb dX4_write_26 rfl (lv_at hl 1 rfl) ?_
      refine z_iast hx hb hK hz 1 rfl (by omega) (by decide) dX4_write_27 (fun H locs hz => ?_)
      have hz : zH D (zF ws0) H0 [(pd, .inr (3, [.ref sg, .int (zI ln)])), (sg, .inl (cI, 60, .inl (zA (zU sgn ln sign))))] H locs := hz
      refine lv_aload_n hx hb dX4_write_28 rfl (lv_at hl 0 rfl) ?_
      refine lv_dup hx hb dX4_write_29 rfl ?_
      refine z_get (C := RX4) (T := TX4) (N := 2) (ref := "HornCity$Pad") hx hb hts hin_X4_write_X4 hown hK hz 0 rfl rfl 1 (by decide) (hts _ fl_X4_write_15) rfl rfl dX4_write_30 ?_
      refine z_iconst hx hb dX4_write_33 ?_
      refine z_iadd hx hb dX4_write_34 ?_
      refine z_put (C := RX4) (T := TX4) (N := 2) (ref := "HornCity$Pad") (ty := .int) hx hb hts hin_X4_write_X4 hown hK hz tyX4 tyX4_ok nmX4 0 rfl rfl 1 (by decide) (hts _ fl_X4_write_15) rfl rfl (by decide +kernel) rfl rfl (Nat.le_of_ble_eq_true rfl) dX4_write_35 (fun H locs hz => ?_)
      have hz : zH D (zF ws0) H0 [(pd, .inr (3, [.ref sg, .int (zI (ln + 1))])), (sg, .inl (cI, 60, .inl (zA (zU sgn ln sign))))] H locs := hz
      refine z_iconst hx hb dX4_write_38 ?_
      exact hret ((1 : Int), (zU sgn ln sign : Int → Int), ((ln + 1) : Int)) dX4_write_39 (by first | decide | omega | (split <;> decide))  (show 1 = (if ln < 60 then 1 else 0) ∧ (zU sgn ln sign) = (if ln < 60 then zU sgn ln sign else sgn) ∧ (ln + 1) = (if ln < 60 then ln + 1 else ln) from ⟨by simp [h4, h13], by simp [h4, h13], by simp [h4, h13]⟩) hz
    ·
      refine z_iconst hx hb dX4_write_16 ?_
      exact hret ((0 : Int), (sgn : Int → Int), (ln : Int)) dX4_write_17 (by first | decide | omega | (split <;> decide))  (show 0 = (if ln < 60 then 1 else 0) ∧ sgn = (if ln < 60 then zU sgn ln sign else sgn) ∧ ln = (if ln < 60 then ln + 1 else ln) from ⟨by simp [h4, h13], by simp [h4, h13], by simp [h4, h13]⟩) hz
