theorem inS_eq {T j : Int} (hj : 0 ≤ j ∧ j < 9) : (inS T j = true) = (T / 2 ^ j.toNat % 2 = 1) := by
  apply propext
  constructor
  · intro h; exact (inS_iff.mp h).2
  · intro h; exact inS_iff.mpr ⟨hj, h⟩
def triS (T : Int) (inc : Int → Int) (st : Int) : Bool := decide (zAndn st T = 0) && (decide (cnt9 st = 3) && allB (fun i => allB (fun j => !(inS st i && inS st j) || decide (20 ≤ apS (inO T inc i) (inO T inc j))) i.toNat) 9)
def lstS (P : Int → Bool) : Nat → Int → Int
  | 0, _ => -6
  | n + 1, i => if P i = true then i else lstS P n (i + 1)
theorem lstS_at {P : Int → Bool} {N i : Int} (h : 0 ≤ i ∧ i < N) : lstS P (N - i).toNat i = if P i = true then i else lstS P (N - (i + 1)).toNat (i + 1) := by
  have e : (N - i).toNat = (N - (i + 1)).toNat + 1 := by omega
  rw [e]; rfl
def afS (T : Int) (inc : Int → Int) (p : Int) : Int := sumZ (fun k => if inS T k = true then apS (inO T inc k) p else 0) 9
theorem apS_bd (a b : Int) : 0 ≤ apS a b ∧ apS a b ≤ 90 := by unfold apS; omega
theorem afS_bd (T : Int) (inc : Int → Int) (p : Int) : 0 ≤ afS T inc p ∧ afS T inc p ≤ 810 := by
  have := sumZ_bd (f := fun k => if inS T k = true then apS (inO T inc k) p else 0) (lo := 0) (hi := 90) (fun j => by
    have := apS_bd (inO T inc j) p
    split <;> omega) 9
  unfold afS; omega
def argm (f : Int → Int) : Nat → Int × Int
  | 0 => (0, f 0)
  | n + 1 => if f ((n : Int) + 1) < (argm f n).2 then ((n : Int) + 1, f ((n : Int) + 1)) else argm f n
theorem argm_s {f : Int → Int} {i b m : Int} (h : 1 ≤ i) (hm : (b, m) = argm f (i - 1).toNat) : (if f i < m then (i, f i) else (b, m)) = argm f ((i + 1) - 1).toNat := by
  have e : (i + 1 - 1).toNat = (i - 1).toNat + 1 := by omega
  rw [e]
  show _ = if f (((i - 1).toNat : Int) + 1) < (argm f (i - 1).toNat).2 then _ else _
  have e2 : (((i - 1).toNat : Nat) : Int) + 1 = i := by omega
  rw [e2, ← hm]
def prS (T : Int) (inc : Int → Int) (st i j : Int) : Int := if inS st i = true ∧ inS st j = true then apS (inO T inc i) (inO T inc j) else 0
def awS (T : Int) (inc : Int → Int) (st : Int) : Int := sumZ (fun i => sumZ (fun j => prS T inc st i j) i.toNat) 9
theorem prS_bd (T : Int) (inc : Int → Int) (st i j : Int) : 0 ≤ prS T inc st i j ∧ prS T inc st i j ≤ 90 := by
  have := apS_bd (inO T inc i) (inO T inc j)
  unfold prS; split <;> omega
theorem rowS_bd (T : Int) (inc : Int → Int) (st i : Int) (n : Nat) (hn : n ≤ 9) : 0 ≤ sumZ (fun j => prS T inc st i j) n ∧ sumZ (fun j => prS T inc st i j) n ≤ 810 := by
  have := sumZ_bd (f := fun j => prS T inc st i j) (lo := 0) (hi := 90) (fun j => prS_bd T inc st i j) n
  omega
theorem awS_bd (T : Int) (inc : Int → Int) (st : Int) : 0 ≤ awS T inc st ∧ awS T inc st ≤ 7290 := by
  have h : ∀ n : Nat, n ≤ 9 → 0 ≤ sumZ (fun i => sumZ (fun j => prS T inc st i j) i.toNat) n ∧ sumZ (fun i => sumZ (fun j => prS T inc st i j) i.toNat) n ≤ 810 * n := by
    intro n
    induction n with
    | zero => intro _; simp [sumZ]
    | succ n ih =>
      intro hn
      have h1 := ih (by omega)
      have h2 := rowS_bd T inc st (n : Int) ((n : Int)).toNat (by omega)
      have e : sumZ (fun i => sumZ (fun j => prS T inc st i j) i.toNat) (n + 1) = sumZ (fun i => sumZ (fun j => prS T inc st i j) i.toNat) n + sumZ (fun j => prS T inc st (n : Int) j) (n : Int).toNat := rfl
      rw [e]
      omega
  have := h 9 (by omega)
  unfold awS; omega
def ahS (T : Int) (inc : Int → Int) (h : Int) : Int := awS T inc h + awS T inc (zAndn T h)
def hfS (T h : Int) : Bool := decide (zAndn h T = 0) && (decide (¬ zAnd h (zLow T) = 0) && decide (-1 ≤ 2 * cnt9 h - cnt9 T ∧ 2 * cnt9 h - cnt9 T ≤ 1))
def bhS (T : Int) (inc : Int → Int) : Nat → Int × Int
  | 0 => (0, -6)
  | n + 1 => if hfS T ((n : Int) + 1) = true ∧ ((bhS T inc n).2 = -6 ∨ ahS T inc ((n : Int) + 1) < (bhS T inc n).2) then ((n : Int) + 1, ahS T inc ((n : Int) + 1)) else bhS T inc n
theorem bhS_s {T : Int} {inc : Int → Int} {i b m : Int} (h : 1 ≤ i) (hm : (b, m) = bhS T inc (i - 1).toNat) : (if hfS T i = true ∧ (m = -6 ∨ ahS T inc i < m) then (i, ahS T inc i) else (b, m)) = bhS T inc ((i + 1) - 1).toNat := by
  have e : (i + 1 - 1).toNat = (i - 1).toNat + 1 := by omega
  rw [e]
  show _ = if hfS T (((i - 1).toNat : Int) + 1) = true ∧ ((bhS T inc (i - 1).toNat).2 = -6 ∨ ahS T inc (((i - 1).toNat : Int) + 1) < (bhS T inc (i - 1).toNat).2) then _ else _
  have e2 : (((i - 1).toNat : Nat) : Int) + 1 = i := by omega
  rw [e2, ← hm]
theorem mulD {d n : Int} (hd : -18 ≤ d ∧ d ≤ 18) (hn : 0 ≤ n ∧ n ≤ 1000) : -18000 ≤ d * n ∧ d * n ≤ 18000 := by
  have h1 : d * n ≤ 18 * n := Int.mul_le_mul_of_nonneg_right hd.2 hn.1
  have h2 : -18 * n ≤ d * n := Int.mul_le_mul_of_nonneg_right hd.1 hn.1
  omega

set_option maxRecDepth 20000 in
theorem hin_X9_draw_X9 : ∀ w ∈ u_ws RX9 TX9 6, w ∈ wsX9_draw := by decide +kernel
set_option maxRecDepth 20000 in
theorem fl_X9_draw_12 : Cond.fieldLink RX9 12 "HornCity$Years" "city" "LHornCity$City;" ∈ wsX9_draw := by decide +kernel
set_option maxHeartbeats 4000000 in
set_option maxRecDepth 100000 in
theorem c_X9_draw (l : Launch) (D : va_G) (cI cJ cZ : ClassId) (ys o kd ai ad am ah ch iy mk oq aiq adq amq ahq chq iyq mkq : Nat) (kdf inc dri mat ahe iyf mkf incq driq matq iyfq mkfq : Int → Int) (acs why wac won T tm yr cn Tq tmq yrq cnq seed count : Int) (hTq : 0 ≤ Tq ∧ Tq < 512) (hbiq : zBd incq 9 0 179) (hbdq : zBd driq 9 (-9) 9) (hbmq : zBd matq 9 (-6) 8) (hty : (0 ≤ tmq ∧ tmq ≤ 9) ∧ 0 ≤ yrq ∧ yrq ≤ 999) (hsd : (0 ≤ seed ∧ seed ≤ 9999) ∧ 1 ≤ count ∧ count ≤ 99) : zMw l yX9_draw wsX9_draw (zRm 4) D cI cJ cZ [.ref ys, .ref oq, .int (zI seed), .int (zI count)] [(ys, .inr (7, [.ref o, .ref kd, .int (zI acs), .int (zI why), .int (zI wac), .int (zI won)])), (kd, .inl (cI, 9, .inl (zA kdf))), (o, .inr (2, [.ref ai, .ref ad, .ref am, .ref ah, .ref ch, .int (zI T), .int (zI tm), .int (zI yr)])), (ai, .inl (cI, 9, .inl (zA inc))), (ad, .inl (cI, 9, .inl (zA dri))), (am, .inl (cI, 9, .inl (zA mat))), (ah, .inl (cI, 9, .inl (zA ahe))), (ch, .inr (1, [.ref iy, .ref mk, .int (zI cn)])), (iy, .inl (cI, 8, .inl (zA iyf))), (mk, .inl (cI, 8, .inl (zA mkf))), (oq, .inr (2, [.ref aiq, .ref adq, .ref amq, .ref ahq, .ref chq, .int (zI Tq), .int (zI tmq), .int (zI yrq)])), (aiq, .inl (cI, 9, .inl (zA incq))), (adq, .inl (cI, 9, .inl (zA driq))), (amq, .inl (cI, 9, .inl (zA matq))), (chq, .inr (1, [.ref iyq, .ref mkq, .int (zI cnq)])), (iyq, .inl (cI, 8, .inl (zA iyfq))), (mkq, .inl (cI, 8, .inl (zA mkfq)))] (S := (Int → Int) × (Int → Int) × (Int → Int) × Int × Int × Int × (Int → Int) × (Int → Int) × (Int → Int) × Int × (Int → Int) × Int × Int × Int × Int) (fun u => u.2.1 = driq ∧ u.2.2.2.1 = Tq ∧ u.2.2.2.2.2.2.2.1 = iyfq ∧ u.2.2.2.2.2.2.2.2.1 = mkfq ∧ u.2.2.2.2.2.2.2.2.2.1 = cnq ∧ (u.1, u.2.2.1, u.2.2.2.2.1, u.2.2.2.2.2.1) = drwS Tq driq count.toNat seed (incq, matq, tmq, yrq) ∧ (zBd u.1 9 0 179 ∧ zBd u.2.2.1 9 (-6) 8)) (fun _ => none) (fun u => [(ys, .inr (7, [.ref o, .ref kd, .int (zI u.2.2.2.2.2.2.2.2.2.2.2.1), .int (zI u.2.2.2.2.2.2.2.2.2.2.2.2.1), .int (zI u.2.2.2.2.2.2.2.2.2.2.2.2.2.1), .int (zI u.2.2.2.2.2.2.2.2.2.2.2.2.2.2)])), (kd, .inl (cI, 9, .inl (zA u.2.2.2.2.2.2.2.2.2.2.1))), (o, .inr (2, [.ref ai, .ref ad, .ref am, .ref ah, .ref ch, .int (zI u.2.2.2.1), .int (zI u.2.2.2.2.1), .int (zI u.2.2.2.2.2.1)])), (ai, .inl (cI, 9, .inl (zA u.1))), (ad, .inl (cI, 9, .inl (zA u.2.1))), (am, .inl (cI, 9, .inl (zA u.2.2.1))), (ah, .inl (cI, 9, .inl (zA u.2.2.2.2.2.2.1))), (ch, .inr (1, [.ref iy, .ref mk, .int (zI u.2.2.2.2.2.2.2.2.2.1)])), (iy, .inl (cI, 8, .inl (zA u.2.2.2.2.2.2.2.1))), (mk, .inl (cI, 8, .inl (zA u.2.2.2.2.2.2.2.2.1))), (oq, .inr (2, [.ref aiq, .ref adq, .ref amq, .ref ahq, .ref chq, .int (zI Tq), .int (zI tmq), .int (zI yrq)])), (aiq, .inl (cI, 9, .inl (zA incq))), (adq, .inl (cI, 9, .inl (zA driq))), (amq, .inl (cI, 9, .inl (zA matq))), (chq, .inr (1, [.ref iyq, .ref mkq, .int (zI cnq)])), (iyq, .inl (cI, 8, .inl (zA iyfq))), (mkq, .inl (cI, 8, .inl (zA mkfq)))]) := by
  refine zMw_v (cc := cX9_draw) (maxL := 10) (by decide +kernel) rfl (Nat.le_of_ble_eq_true rfl) rfl (fun _ => rfl) ?_
  intro p e s m args below meth c Q H0 ls F hK hz hl hret
  obtain ⟨hx, hb, hml, hown0, hts⟩ := id F
  have hown : s.vm.findClass RX9 = some m.cls := hown0
  obtain ⟨ws0, hw0⟩ : ∃ w : va_W, w = [(ys, .inr (7, [.ref o, .ref kd, .int (zI acs), .int (zI why), .int (zI wac), .int (zI won)])), (kd, .inl (cI, 9, .inl (zA kdf))), (o, .inr (2, [.ref ai, .ref ad, .ref am, .ref ah, .ref ch, .int (zI T), .int (zI tm), .int (zI yr)])), (ai, .inl (cI, 9, .inl (zA inc))), (ad, .inl (cI, 9, .inl (zA dri))), (am, .inl (cI, 9, .inl (zA mat))), (ah, .inl (cI, 9, .inl (zA ahe))), (ch, .inr (1, [.ref iy, .ref mk, .int (zI cn)])), (iy, .inl (cI, 8, .inl (zA iyf))), (mk, .inl (cI, 8, .inl (zA mkf))), (oq, .inr (2, [.ref aiq, .ref adq, .ref amq, .ref ahq, .ref chq, .int (zI Tq), .int (zI tmq), .int (zI yrq)])), (aiq, .inl (cI, 9, .inl (zA incq))), (adq, .inl (cI, 9, .inl (zA driq))), (amq, .inl (cI, 9, .inl (zA matq))), (chq, .inr (1, [.ref iyq, .ref mkq, .int (zI cnq)])), (iyq, .inl (cI, 8, .inl (zA iyfq))), (mkq, .inl (cI, 8, .inl (zA mkfq)))] := ⟨_, rfl⟩
  rw [← hw0] at hret
  have hz : zH D (zF ws0) H0 [(ys, .inr (7, [.ref o, .ref kd, .int (zI acs), .int (zI why), .int (zI wac), .int (zI won)])), (kd, .inl (cI, 9, .inl (zA kdf))), (o, .inr (2, [.ref ai, .ref ad, .ref am, .ref ah, .ref ch, .int (zI T), .int (zI tm), .int (zI yr)])), (ai, .inl (cI, 9, .inl (zA inc))), (ad, .inl (cI, 9, .inl (zA dri))), (am, .inl (cI, 9, .inl (zA mat))), (ah, .inl (cI, 9, .inl (zA ahe))), (ch, .inr (1, [.ref iy, .ref mk, .int (zI cn)])), (iy, .inl (cI, 8, .inl (zA iyf))), (mk, .inl (cI, 8, .inl (zA mkf))), (oq, .inr (2, [.ref aiq, .ref adq, .ref amq, .ref ahq, .ref chq, .int (zI Tq), .int (zI tmq), .int (zI yrq)])), (aiq, .inl (cI, 9, .inl (zA incq))), (adq, .inl (cI, 9, .inl (zA driq))), (amq, .inl (cI, 9, .inl (zA matq))), (chq, .inr (1, [.ref iyq, .ref mkq, .int (zI cnq)])), (iyq, .inl (cI, 8, .inl (zA iyfq))), (mkq, .inl (cI, 8, .inl (zA mkfq)))] H0 [] := by rw [hw0]; exact hz
  have hl : lv_has ls 10 [(0, .ref ys), (1, .ref oq), (2, .int (zI seed)), (3, .int (zI count))] := hl
  refine lv_aload_n hx hb dX9_draw_0 rfl (lv_at hl 0 rfl) ?_
  refine lv_aload_n hx hb dX9_draw_1 rfl (lv_at hl 1 rfl) ?_
  refine z_callVwv (As := [.ref oq]) (rest := []) (C := RX9) (T := TX9) (N := 6) F hK hz hl (c_X9_begin l D cI cJ cZ ys o kd ai ad am ah ch iy mk oq aiq adq amq ahq chq iyq mkq kdf inc dri mat iyf mkf incq driq matq iyfq mkfq acs why wac won T tm yr cn Tq tmq yrq cnq ) (cwV 1 hts gX9_draw_X9_begin rfl rfl rfl (by decide +kernel) ⟨Nat.le_of_ble_eq_true rfl, Nat.le_of_ble_eq_true rfl⟩) rfl 0 rfl [0, 1, 2, 3, 4, 5, 7, 8, 9, 10, 11, 12, 13, 14, 15, 16] rfl rfl (by decide +kernel) rfl rfl (Nat.le_of_ble_eq_true rfl) ⟨Nat.le_of_ble_eq_true rfl, Nat.le_of_ble_eq_true rfl⟩ dX9_draw_2 (fun u H locs hu hz => ?_)
  obtain ⟨inc1_1, dri1_2, mat1_3, T1_4, tm1_5, yr1_6, y1_7, m1_8, c1_9, kd1_10, a1_11, w1_12, wa1_13, wo1_14⟩ := u
  have hu : inc1_1 = incq ∧ dri1_2 = driq ∧ mat1_3 = matq ∧ T1_4 = Tq ∧ tm1_5 = tmq ∧ yr1_6 = yrq ∧ y1_7 = iyfq ∧ m1_8 = mkfq ∧ c1_9 = cnq ∧ kd1_10 = (fun _ => -6) ∧ a1_11 = 0 ∧ w1_12 = 0 ∧ wa1_13 = -6 ∧ wo1_14 = -6 := hu
  obtain ⟨g2_0, g2_1, g2_2, g2_3, g2_4, g2_5, g2_6, g2_7, g2_8, g2_9, g2_10, g2_11, g2_12, g2_13⟩ := hu
  have g2_0 := g2_0.symm
  subst g2_0
  have g2_1 := g2_1.symm
  subst g2_1
  have g2_2 := g2_2.symm
  subst g2_2
  have g2_3 := g2_3.symm
  subst g2_3
  have g2_4 := g2_4.symm
  subst g2_4
  have g2_5 := g2_5.symm
  subst g2_5
  have g2_6 := g2_6.symm
  subst g2_6
  have g2_7 := g2_7.symm
  subst g2_7
  have g2_8 := g2_8.symm
  subst g2_8
  have g2_9 := g2_9.symm
  subst g2_9
  have g2_10 := g2_10.symm
  subst g2_10
  have g2_11 := g2_11.symm
  subst g2_11
  have g2_12 := g2_12.symm
  subst g2_12
  have g2_13 := g2_13.symm
  subst g2_13
  have hz : zH D (zF ws0) H0 [(ys, .inr (7, [.ref o, .ref kd, .int (zI 0), .int (zI 0), .int (zI (-6)), .int (zI (-6))])), (kd, .inl (cI, 9, .inl (zA (fun _ => -6)))), (o, .inr (2, [.ref ai, .ref ad, .ref am, .ref ah, .ref ch, .int (zI Tq), .int (zI tmq), .int (zI yrq)])), (ai, .inl (cI, 9, .inl (zA incq))), (ad, .inl (cI, 9, .inl (zA driq))), (am, .inl (cI, 9, .inl (zA matq))), (ah, .inl (cI, 9, .inl (zA ahe))), (ch, .inr (1, [.ref iy, .ref mk, .int (zI cnq)])), (iy, .inl (cI, 8, .inl (zA iyfq))), (mk, .inl (cI, 8, .inl (zA mkfq))), (oq, .inr (2, [.ref aiq, .ref adq, .ref amq, .ref ahq, .ref chq, .int (zI Tq), .int (zI tmq), .int (zI yrq)])), (aiq, .inl (cI, 9, .inl (zA incq))), (adq, .inl (cI, 9, .inl (zA driq))), (amq, .inl (cI, 9, .inl (zA matq))), (chq, .inr (1, [.ref iyq, .ref mkq, .int (zI cnq)])), (iyq, .inl (cI, 8, .inl (zA iyfq))), (mkq, .inl (cI, 8, .inl (zA mkfq)))] H locs := hz
  refine lv_iload_n hx hb dX9_draw_5 rfl (lv_at hl 2 rfl) ?_
  refine lv_istore (lv' := [(4, .int (zI seed)), (0, .ref ys), (1, .ref oq), (2, .int (zI seed)), (3, .int (zI count))]) hx hb dX9_draw_6 hl (Nat.le_of_ble_eq_true rfl) rfl (fun ls hl => ?_)
  refine z_iconst hx hb dX9_draw_8 ?_
  refine lv_istore (lv' := [(5, .int (zI 0)), (4, .int (zI seed)), (0, .ref ys), (1, .ref oq), (2, .int (zI seed)), (3, .int (zI count))]) hx hb dX9_draw_9 hl (Nat.le_of_ble_eq_true rfl) rfl (fun ls hl => ?_)
  have L11 : ∀ (n : Nat) (ct x tmx yrx : Int) (incx matx ahx : Int → Int) (H : Heap) (locs : List Loc) (ls : Array Slot), ((count - ct).toNat = n) → (0 ≤ ct ∧ ct ≤ count) → (0 ≤ x ∧ x ≤ 65536) → (zBd incx 9 0 179) → (zBd matx 9 (-6) 8) → ((0 ≤ tmx ∧ tmx ≤ 9) ∧ 0 ≤ yrx ∧ yrx ≤ 999) → (drwS Tq driq count.toNat seed (incq, matq, tmq, yrq) = drwS Tq driq (count - ct).toNat x (incx, matx, tmx, yrx)) → zH D (zF ws0) H0 [(ys, .inr (7, [.ref o, .ref kd, .int (zI 0), .int (zI 0), .int (zI (-6)), .int (zI (-6))])), (kd, .inl (cI, 9, .inl (zA (fun _ => -6)))), (o, .inr (2, [.ref ai, .ref ad, .ref am, .ref ah, .ref ch, .int (zI Tq), .int (zI tmx), .int (zI yrx)])), (ai, .inl (cI, 9, .inl (zA incx))), (ad, .inl (cI, 9, .inl (zA driq))), (am, .inl (cI, 9, .inl (zA matx))), (ah, .inl (cI, 9, .inl (zA ahx))), (ch, .inr (1, [.ref iy, .ref mk, .int (zI cnq)])), (iy, .inl (cI, 8, .inl (zA iyfq))), (mk, .inl (cI, 8, .inl (zA mkfq))), (oq, .inr (2, [.ref aiq, .ref adq, .ref amq, .ref ahq, .ref chq, .int (zI Tq), .int (zI tmq), .int (zI yrq)])), (aiq, .inl (cI, 9, .inl (zA incq))), (adq, .inl (cI, 9, .inl (zA driq))), (amq, .inl (cI, 9, .inl (zA matq))), (chq, .inr (1, [.ref iyq, .ref mkq, .int (zI cnq)])), (iyq, .inl (cI, 8, .inl (zA iyfq))), (mkq, .inl (cI, 8, .inl (zA mkfq)))] H locs → lv_has ls 10 [(5, .int (zI ct)), (4, .int (zI x)), (0, .ref ys), (1, .ref oq), (2, .int (zI seed)), (3, .int (zI count))] → W p l e (zRm 4) s m args below meth c H locs 0 0 Q (F0 m 11 ls []) := by
    intro n
    refine Nat.strongRecOn n ?_
    intro n ih11 ct x tmx yrx incx matx ahx H locs ls hn11 h0 h1 hbx hmx htx hf hz hl
    refine lv_iload hx hb dX9_draw_11 (lv_at hl 0 rfl) ?_
    refine lv_iload_n hx hb dX9_draw_13 rfl (lv_at hl 5 rfl) ?_
    refine z_icmp_ge (tgt := 116) hx hb dX9_draw_14 (by decide) (by omega) (by omega) (fun h14 => ?_) (fun h14 => ?_)
    ·
      exact hret ((incx : Int → Int), (driq : Int → Int), (matx : Int → Int), (Tq : Int), (tmx : Int), (yrx : Int), (ahx : Int → Int), (iyfq : Int → Int), (mkfq : Int → Int), (cnq : Int), (fun _ => -6 : Int → Int), (0 : Int), (0 : Int), ((-6) : Int), ((-6) : Int)) dX9_draw_116 (show driq = driq ∧ Tq = Tq ∧ iyfq = iyfq ∧ mkfq = mkfq ∧ cnq = cnq ∧ (incx, matx, tmx, yrx) = drwS Tq driq count.toNat seed (incq, matq, tmq, yrq) ∧ (zBd incx 9 0 179 ∧ zBd matx 9 (-6) 8) from ⟨rfl, rfl, rfl, rfl, rfl, by rw [hf]; (have e : ct = count := (by omega)); subst e; rw [Int.sub_self]; rfl, hbx, hmx⟩) hz
    ·
      refine z_bipush hx hb dX9_draw_17 (by decide) ?_
      refine lv_iload hx hb dX9_draw_19 (lv_at hl 1 rfl) ?_
      refine z_imul hx hb dX9_draw_21 ?_
      refine z_bipush hx hb dX9_draw_22 (by decide) ?_
      refine z_iadd hx hb dX9_draw_24 ?_
      refine z_ldc (n := 65537) hx hb hown (hts (.constant RX9 63 65537) (by decide +kernel)) (by decide +kernel) dX9_draw_25 ?_
      refine z_irem hx hb dX9_draw_27 (by omega) (by omega) ?_
      refine lv_istore (lv' := [(4, .int (zI (((75 * x) + 74) % 65537))), (5, .int (zI ct)), (0, .ref ys), (1, .ref oq), (2, .int (zI seed)), (3, .int (zI count))]) hx hb dX9_draw_28 hl (Nat.le_of_ble_eq_true rfl) rfl (fun ls hl => ?_)
      refine lv_iload hx hb dX9_draw_30 (lv_at hl 0 rfl) ?_
      refine z_bipush hx hb dX9_draw_32 (by decide) ?_
      refine z_irem hx hb dX9_draw_34 (by omega) (by omega) ?_
      refine lv_istore (lv' := [(6, .int (zI ((((75 * x) + 74) % 65537) % 9))), (4, .int (zI (((75 * x) + 74) % 65537))), (5, .int (zI ct)), (0, .ref ys), (1, .ref oq), (2, .int (zI seed)), (3, .int (zI count))]) hx hb dX9_draw_35 hl (Nat.le_of_ble_eq_true rfl) rfl (fun ls hl => ?_)
      refine lv_iload hx hb dX9_draw_37 (lv_at hl 1 rfl) ?_
      refine z_bipush hx hb dX9_draw_39 (by decide) ?_
      refine z_idiv hx hb dX9_draw_41 (by omega) (by omega) ?_
      refine z_bipush hx hb dX9_draw_42 (by decide) ?_
      refine z_irem hx hb dX9_draw_44 (by omega) (by omega) ?_
      refine z_callSp (As := [.int (zI (((((75 * x) + 74) % 65537) / 9) % 8))]) (rest := []) F hK hz hl (c_X9_kindOfLot l D cI cJ cZ (((((75 * x) + 74) % 65537) / 9) % 8) (by omega)) (va_cwS 1 hts gX9_draw_X9_kindOfLot rfl rfl rfl (by decide +kernel) ⟨Nat.le_of_ble_eq_true rfl, Nat.le_of_ble_eq_true rfl⟩) [] rfl rfl rfl rfl (Nat.le_of_ble_eq_true rfl) ⟨Nat.le_of_ble_eq_true rfl, Nat.le_of_ble_eq_true rfl⟩ dX9_draw_45 ?_
      have hk1 := kolS_bd ((75 * x + 74) % 65537 / 9 % 8)
      refine lv_istore (lv' := [(7, .int (zI (kolS (((((75 * x) + 74) % 65537) / 9) % 8)))), (6, .int (zI ((((75 * x) + 74) % 65537) % 9))), (4, .int (zI (((75 * x) + 74) % 65537))), (5, .int (zI ct)), (0, .ref ys), (1, .ref oq), (2, .int (zI seed)), (3, .int (zI count))]) hx hb dX9_draw_48 hl (Nat.le_of_ble_eq_true rfl) rfl (fun ls hl => ?_)
      refine lv_iload hx hb dX9_draw_50 (lv_at hl 2 rfl) ?_
      refine z_bipush hx hb dX9_draw_52 (by decide) ?_
      refine z_idiv hx hb dX9_draw_54 (by omega) (by omega) ?_
      refine lv_istore (lv' := [(8, .int (zI ((((75 * x) + 74) % 65537) / 72))), (7, .int (zI (kolS (((((75 * x) + 74) % 65537) / 9) % 8)))), (6, .int (zI ((((75 * x) + 74) % 65537) % 9))), (4, .int (zI (((75 * x) + 74) % 65537))), (5, .int (zI ct)), (0, .ref ys), (1, .ref oq), (2, .int (zI seed)), (3, .int (zI count))]) hx hb dX9_draw_55 hl (Nat.le_of_ble_eq_true rfl) rfl (fun ls hl => ?_)
      refine lv_iload hx hb dX9_draw_57 (lv_at hl 1 rfl) ?_
      refine z_bipush hx hb dX9_draw_59 (by decide) ?_
      refine z_icmp_ne (tgt := 72) hx hb dX9_draw_61 (by decide) (by omega) (by decide) (fun h61 => ?_) (fun h61 => ?_)
      ·
        refine z_iconst hx hb dX9_draw_72 ?_
        refine lv_iload hx hb dX9_draw_73 (lv_at hl 0 rfl) ?_
        refine z_bipush hx hb dX9_draw_75 (by decide) ?_
        refine z_irem hx hb dX9_draw_77 (by omega) (by omega) ?_
        refine z_iadd hx hb dX9_draw_78 ?_
        refine lv_istore (lv' := [(9, .int (zI (1 + (((((75 * x) + 74) % 65537) / 72) % 9)))), (8, .int (zI ((((75 * x) + 74) % 65537) / 72))), (7, .int (zI (kolS (((((75 * x) + 74) % 65537) / 9) % 8)))), (6, .int (zI ((((75 * x) + 74) % 65537) % 9))), (4, .int (zI (((75 * x) + 74) % 65537))), (5, .int (zI ct)), (0, .ref ys), (1, .ref oq), (2, .int (zI seed)), (3, .int (zI count))]) hx hb dX9_draw_79 hl (Nat.le_of_ble_eq_true rfl) rfl (fun ls hl => ?_)
        refine lv_aload_n hx hb dX9_draw_81 rfl (lv_at hl 6 rfl) ?_
        refine z_get (C := RX9) (T := TX9) (N := 6) (ref := "HornCity$Years") hx hb hts hin_X9_draw_X9 hown hK hz 0 rfl rfl 0 (by decide) (hts _ fl_X9_draw_12) rfl rfl dX9_draw_82 ?_
        refine lv_iload hx hb dX9_draw_85 (lv_at hl 2 rfl) ?_
        refine lv_iload hx hb dX9_draw_87 (lv_at hl 3 rfl) ?_
        refine lv_iload hx hb dX9_draw_89 (lv_at hl 0 rfl) ?_
        refine z_callVp (As := [.int (zI (kolS (((((75 * x) + 74) % 65537) / 9) % 8))), .int (zI ((((75 * x) + 74) % 65537) % 9)), .int (zI (1 + (((((75 * x) + 74) % 65537) / 72) % 9)))]) (rest := []) (C := RX2) (T := TX2) (N := 8) F hK hz hl (c_X2_whyNot l D cI cJ cZ o ai ad am ah ch matx Tq tmx yrx (kolS (((((75 * x) + 74) % 65537) / 9) % 8)) ((((75 * x) + 74) % 65537) % 9) (1 + (((((75 * x) + 74) % 65537) / 72) % 9)) (by omega) (by first | assumption | omega) (hmx) (by omega)) (cwV 3 hts gX9_draw_X2_whyNot rfl rfl rfl (by decide +kernel) ⟨Nat.le_of_ble_eq_true rfl, Nat.le_of_ble_eq_true rfl⟩) rfl 2 rfl [2, 5] rfl rfl rfl rfl (Nat.le_of_ble_eq_true rfl) ⟨Nat.le_of_ble_eq_true rfl, Nat.le_of_ble_eq_true rfl⟩ dX9_draw_91 ?_
        have hy1 := whyS_bd Tq matx yrx (kolS (((((75 * x) + 74) % 65537) / 9) % 8)) ((((75 * x) + 74) % 65537) % 9) (1 + (((((75 * x) + 74) % 65537) / 72) % 9))
        refine z_if_ne (tgt := 110) hx hb dX9_draw_94 (by decide) (by omega) (fun h94 => ?_) (fun h94 => ?_)
        ·
          refine z_iinc (lv' := [(5, .int (zI (ct + 1))), (9, .int (zI (1 + (((((75 * x) + 74) % 65537) / 72) % 9)))), (8, .int (zI ((((75 * x) + 74) % 65537) / 72))), (7, .int (zI (kolS (((((75 * x) + 74) % 65537) / 9) % 8)))), (6, .int (zI ((((75 * x) + 74) % 65537) % 9))), (4, .int (zI (((75 * x) + 74) % 65537))), (0, .ref ys), (1, .ref oq), (2, .int (zI seed)), (3, .int (zI count))]) hx hb dX9_draw_110 hl (k := 5) rfl (Nat.le_of_ble_eq_true rfl) rfl (fun ls hl => ?_)
          refine lv_goto (tgt := 11) hx hb dX9_draw_113 (by decide) ?_
          exact ih11 _ (by omega) (ct + 1) (((75 * x) + 74) % 65537) tmx yrx incx matx ahx H locs ls rfl (by omega) (by omega) (by first | exact hbx | exact actI_bd hbx) (by first | exact hmx | exact actM_bd hmx) (htx) (by rw [hf, drwS_no (by omega) (by rw [(show drwW ((75 * x + 74) % 65537) = _ from if_neg h61)]; exact h94)]) hz (lv_sub hl [0, 5, 6, 7, 8, 9] rfl)
        ·
          refine lv_aload_n hx hb dX9_draw_97 rfl (lv_at hl 6 rfl) ?_
          refine z_get (C := RX9) (T := TX9) (N := 6) (ref := "HornCity$Years") hx hb hts hin_X9_draw_X9 hown hK hz 0 rfl rfl 0 (by decide) (hts _ fl_X9_draw_12) rfl rfl dX9_draw_98 ?_
          refine lv_iload hx hb dX9_draw_101 (lv_at hl 2 rfl) ?_
          refine lv_iload hx hb dX9_draw_103 (lv_at hl 3 rfl) ?_
          refine lv_iload hx hb dX9_draw_105 (lv_at hl 0 rfl) ?_
          refine z_callVwv (As := [.int (zI (kolS (((((75 * x) + 74) % 65537) / 9) % 8))), .int (zI ((((75 * x) + 74) % 65537) % 9)), .int (zI (1 + (((((75 * x) + 74) % 65537) / 72) % 9)))]) (rest := []) (C := RX2) (T := TX2) (N := 8) F hK hz hl (c_X2_act l D cI cJ cZ o ai ad am ah ch incx driq matx ahx Tq tmx yrx (kolS (((((75 * x) + 74) % 65537) / 9) % 8)) ((((75 * x) + 74) % 65537) % 9) (1 + (((((75 * x) + 74) % 65537) / 72) % 9)) (by omega) (by first | assumption | omega) (hbx) (hbdq) (hmx) (by omega)) (cwV 3 hts gX9_draw_X2_act rfl rfl rfl (by decide +kernel) ⟨Nat.le_of_ble_eq_true rfl, Nat.le_of_ble_eq_true rfl⟩) rfl 2 rfl [2, 3, 4, 5, 6] rfl rfl (by decide +kernel) rfl rfl (Nat.le_of_ble_eq_true rfl) ⟨Nat.le_of_ble_eq_true rfl, Nat.le_of_ble_eq_true rfl⟩ dX9_draw_107 (fun u H locs hu hz => ?_)
          obtain ⟨inc1_15, mat1_16, ah1_17, tm1_18, yr1_19⟩ := u
          have hu : inc1_15 = actI Tq driq matx incx (kolS (((((75 * x) + 74) % 65537) / 9) % 8)) ((((75 * x) + 74) % 65537) % 9) (1 + (((((75 * x) + 74) % 65537) / 72) % 9)) ∧ mat1_16 = actM Tq matx (kolS (((((75 * x) + 74) % 65537) / 9) % 8)) ((((75 * x) + 74) % 65537) % 9) (1 + (((((75 * x) + 74) % 65537) / 72) % 9)) ∧ tm1_18 = actH tmx yrx (kolS (((((75 * x) + 74) % 65537) / 9) % 8)) ∧ yr1_19 = actY yrx (kolS (((((75 * x) + 74) % 65537) / 9) % 8)) := hu
          obtain ⟨g107_0, g107_1, g107_2, g107_3⟩ := hu
          have g107_0 := g107_0.symm
          subst g107_0
          have g107_1 := g107_1.symm
          subst g107_1
          have g107_2 := g107_2.symm
          subst g107_2
          have g107_3 := g107_3.symm
          subst g107_3
          have hz : zH D (zF ws0) H0 [(ys, .inr (7, [.ref o, .ref kd, .int (zI 0), .int (zI 0), .int (zI (-6)), .int (zI (-6))])), (kd, .inl (cI, 9, .inl (zA (fun _ => -6)))), (o, .inr (2, [.ref ai, .ref ad, .ref am, .ref ah, .ref ch, .int (zI Tq), .int (zI (actH tmx yrx (kolS (((((75 * x) + 74) % 65537) / 9) % 8)))), .int (zI (actY yrx (kolS (((((75 * x) + 74) % 65537) / 9) % 8))))])), (ai, .inl (cI, 9, .inl (zA (actI Tq driq matx incx (kolS (((((75 * x) + 74) % 65537) / 9) % 8)) ((((75 * x) + 74) % 65537) % 9) (1 + (((((75 * x) + 74) % 65537) / 72) % 9)))))), (ad, .inl (cI, 9, .inl (zA driq))), (am, .inl (cI, 9, .inl (zA (actM Tq matx (kolS (((((75 * x) + 74) % 65537) / 9) % 8)) ((((75 * x) + 74) % 65537) % 9) (1 + (((((75 * x) + 74) % 65537) / 72) % 9)))))), (ah, .inl (cI, 9, .inl (zA ah1_17))), (ch, .inr (1, [.ref iy, .ref mk, .int (zI cnq)])), (iy, .inl (cI, 8, .inl (zA iyfq))), (mk, .inl (cI, 8, .inl (zA mkfq))), (oq, .inr (2, [.ref aiq, .ref adq, .ref amq, .ref ahq, .ref chq, .int (zI Tq), .int (zI tmq), .int (zI yrq)])), (aiq, .inl (cI, 9, .inl (zA incq))), (adq, .inl (cI, 9, .inl (zA driq))), (amq, .inl (cI, 9, .inl (zA matq))), (chq, .inr (1, [.ref iyq, .ref mkq, .int (zI cnq)])), (iyq, .inl (cI, 8, .inl (zA iyfq))), (mkq, .inl (cI, 8, .inl (zA mkfq)))] H locs := hz
          refine z_iinc (lv' := [(5, .int (zI (ct + 1))), (9, .int (zI (1 + (((((75 * x) + 74) % 65537) / 72) % 9)))), (8, .int (zI ((((75 * x) + 74) % 65537) / 72))), (7, .int (zI (kolS (((((75 * x) + 74) % 65537) / 9) % 8)))), (6, .int (zI ((((75 * x) + 74) % 65537) % 9))), (4, .int (zI (((75 * x) + 74) % 65537))), (0, .ref ys), (1, .ref oq), (2, .int (zI seed)), (3, .int (zI count))]) hx hb dX9_draw_110 hl (k := 5) rfl (Nat.le_of_ble_eq_true rfl) rfl (fun ls hl => ?_)
          refine lv_goto (tgt := 11) hx hb dX9_draw_113 (by decide) ?_
          exact ih11 _ (by omega) (ct + 1) (((75 * x) + 74) % 65537) (actH tmx yrx (kolS (((((75 * x) + 74) % 65537) / 9) % 8))) (actY yrx (kolS (((((75 * x) + 74) % 65537) / 9) % 8))) (actI Tq driq matx incx (kolS (((((75 * x) + 74) % 65537) / 9) % 8)) ((((75 * x) + 74) % 65537) % 9) (1 + (((((75 * x) + 74) % 65537) / 72) % 9))) (actM Tq matx (kolS (((((75 * x) + 74) % 65537) / 9) % 8)) ((((75 * x) + 74) % 65537) % 9) (1 + (((((75 * x) + 74) % 65537) / 72) % 9))) ah1_17 H locs ls rfl (by omega) (by omega) (by first | exact hbx | exact actI_bd hbx) (by first | exact hmx | exact actM_bd hmx) (⟨actH_bd htx.1, actY_bd h94 htx.2⟩) (by rw [hf, drwS_go (by omega) (by rw [(show drwW ((75 * x + 74) % 65537) = _ from if_neg h61)]; exact h94), (show drwW ((75 * x + 74) % 65537) = _ from if_neg h61)]; rfl) hz (lv_sub hl [0, 5, 6, 7, 8, 9] rfl)
      ·
        refine lv_iload hx hb dX9_draw_64 (lv_at hl 0 rfl) ?_
        refine z_bipush hx hb dX9_draw_66 (by decide) ?_
        refine z_irem hx hb dX9_draw_68 (by omega) (by omega) ?_
        refine lv_goto (tgt := 79) hx hb dX9_draw_69 (by decide) ?_
        refine lv_istore (lv' := [(9, .int (zI (((((75 * x) + 74) % 65537) / 72) % 9))), (8, .int (zI ((((75 * x) + 74) % 65537) / 72))), (7, .int (zI (kolS (((((75 * x) + 74) % 65537) / 9) % 8)))), (6, .int (zI ((((75 * x) + 74) % 65537) % 9))), (4, .int (zI (((75 * x) + 74) % 65537))), (5, .int (zI ct)), (0, .ref ys), (1, .ref oq), (2, .int (zI seed)), (3, .int (zI count))]) hx hb dX9_draw_79 hl (Nat.le_of_ble_eq_true rfl) rfl (fun ls hl => ?_)
        refine lv_aload_n hx hb dX9_draw_81 rfl (lv_at hl 6 rfl) ?_
        refine z_get (C := RX9) (T := TX9) (N := 6) (ref := "HornCity$Years") hx hb hts hin_X9_draw_X9 hown hK hz 0 rfl rfl 0 (by decide) (hts _ fl_X9_draw_12) rfl rfl dX9_draw_82 ?_
        refine lv_iload hx hb dX9_draw_85 (lv_at hl 2 rfl) ?_
        refine lv_iload hx hb dX9_draw_87 (lv_at hl 3 rfl) ?_
        refine lv_iload hx hb dX9_draw_89 (lv_at hl 0 rfl) ?_
        refine z_callVp (As := [.int (zI (kolS (((((75 * x) + 74) % 65537) / 9) % 8))), .int (zI ((((75 * x) + 74) % 65537) % 9)), .int (zI (((((75 * x) + 74) % 65537) / 72) % 9))]) (rest := []) (C := RX2) (T := TX2) (N := 8) F hK hz hl (c_X2_whyNot l D cI cJ cZ o ai ad am ah ch matx Tq tmx yrx (kolS (((((75 * x) + 74) % 65537) / 9) % 8)) ((((75 * x) + 74) % 65537) % 9) (((((75 * x) + 74) % 65537) / 72) % 9) (by omega) (by first | assumption | omega) (hmx) (by omega)) (cwV 3 hts gX9_draw_X2_whyNot rfl rfl rfl (by decide +kernel) ⟨Nat.le_of_ble_eq_true rfl, Nat.le_of_ble_eq_true rfl⟩) rfl 2 rfl [2, 5] rfl rfl rfl rfl (Nat.le_of_ble_eq_true rfl) ⟨Nat.le_of_ble_eq_true rfl, Nat.le_of_ble_eq_true rfl⟩ dX9_draw_91 ?_
        have hy1 := whyS_bd Tq matx yrx (kolS (((((75 * x) + 74) % 65537) / 9) % 8)) ((((75 * x) + 74) % 65537) % 9) (((((75 * x) + 74) % 65537) / 72) % 9)
        refine z_if_ne (tgt := 110) hx hb dX9_draw_94 (by decide) (by omega) (fun h94 => ?_) (fun h94 => ?_)
        ·
          refine z_iinc (lv' := [(5, .int (zI (ct + 1))), (9, .int (zI (((((75 * x) + 74) % 65537) / 72) % 9))), (8, .int (zI ((((75 * x) + 74) % 65537) / 72))), (7, .int (zI (kolS (((((75 * x) + 74) % 65537) / 9) % 8)))), (6, .int (zI ((((75 * x) + 74) % 65537) % 9))), (4, .int (zI (((75 * x) + 74) % 65537))), (0, .ref ys), (1, .ref oq), (2, .int (zI seed)), (3, .int (zI count))]) hx hb dX9_draw_110 hl (k := 5) rfl (Nat.le_of_ble_eq_true rfl) rfl (fun ls hl => ?_)
          refine lv_goto (tgt := 11) hx hb dX9_draw_113 (by decide) ?_
          exact ih11 _ (by omega) (ct + 1) (((75 * x) + 74) % 65537) tmx yrx incx matx ahx H locs ls rfl (by omega) (by omega) (by first | exact hbx | exact actI_bd hbx) (by first | exact hmx | exact actM_bd hmx) (htx) (by rw [hf, drwS_no (by omega) (by rw [(show drwW ((75 * x + 74) % 65537) = _ from if_pos h61)]; exact h94)]) hz (lv_sub hl [0, 5, 6, 7, 8, 9] rfl)
        ·
          refine lv_aload_n hx hb dX9_draw_97 rfl (lv_at hl 6 rfl) ?_
          refine z_get (C := RX9) (T := TX9) (N := 6) (ref := "HornCity$Years") hx hb hts hin_X9_draw_X9 hown hK hz 0 rfl rfl 0 (by decide) (hts _ fl_X9_draw_12) rfl rfl dX9_draw_98 ?_
          refine lv_iload hx hb dX9_draw_101 (lv_at hl 2 rfl) ?_
          refine lv_iload hx hb dX9_draw_103 (lv_at hl 3 rfl) ?_
          refine lv_iload hx hb dX9_draw_105 (lv_at hl 0 rfl) ?_
          refine z_callVwv (As := [.int (zI (kolS (((((75 * x) + 74) % 65537) / 9) % 8))), .int (zI ((((75 * x) + 74) % 65537) % 9)), .int (zI (((((75 * x) + 74) % 65537) / 72) % 9))]) (rest := []) (C := RX2) (T := TX2) (N := 8) F hK hz hl (c_X2_act l D cI cJ cZ o ai ad am ah ch incx driq matx ahx Tq tmx yrx (kolS (((((75 * x) + 74) % 65537) / 9) % 8)) ((((75 * x) + 74) % 65537) % 9) (((((75 * x) + 74) % 65537) / 72) % 9) (by omega) (by first | assumption | omega) (hbx) (hbdq) (hmx) (by omega)) (cwV 3 hts gX9_draw_X2_act rfl rfl rfl (by decide +kernel) ⟨Nat.le_of_ble_eq_true rfl, Nat.le_of_ble_eq_true rfl⟩) rfl 2 rfl [2, 3, 4, 5, 6] rfl rfl (by decide +kernel) rfl rfl (Nat.le_of_ble_eq_true rfl) ⟨Nat.le_of_ble_eq_true rfl, Nat.le_of_ble_eq_true rfl⟩ dX9_draw_107 (fun u H locs hu hz => ?_)
          obtain ⟨inc1_20, mat1_21, ah1_22, tm1_23, yr1_24⟩ := u
          have hu : inc1_20 = actI Tq driq matx incx (kolS (((((75 * x) + 74) % 65537) / 9) % 8)) ((((75 * x) + 74) % 65537) % 9) (((((75 * x) + 74) % 65537) / 72) % 9) ∧ mat1_21 = actM Tq matx (kolS (((((75 * x) + 74) % 65537) / 9) % 8)) ((((75 * x) + 74) % 65537) % 9) (((((75 * x) + 74) % 65537) / 72) % 9) ∧ tm1_23 = actH tmx yrx (kolS (((((75 * x) + 74) % 65537) / 9) % 8)) ∧ yr1_24 = actY yrx (kolS (((((75 * x) + 74) % 65537) / 9) % 8)) := hu
          obtain ⟨g107_0, g107_1, g107_2, g107_3⟩ := hu
          have g107_0 := g107_0.symm
          subst g107_0
          have g107_1 := g107_1.symm
          subst g107_1
          have g107_2 := g107_2.symm
          subst g107_2
          have g107_3 := g107_3.symm
          subst g107_3
          have hz : zH D (zF ws0) H0 [(ys, .inr (7, [.ref o, .ref kd, .int (zI 0), .int (zI 0), .int (zI (-6)), .int (zI (-6))])), (kd, .inl (cI, 9, .inl (zA (fun _ => -6)))), (o, .inr (2, [.ref ai, .ref ad, .ref am, .ref ah, .ref ch, .int (zI Tq), .int (zI (actH tmx yrx (kolS (((((75 * x) + 74) % 65537) / 9) % 8)))), .int (zI (actY yrx (kolS (((((75 * x) + 74) % 65537) / 9) % 8))))])), (ai, .inl (cI, 9, .inl (zA (actI Tq driq matx incx (kolS (((((75 * x) + 74) % 65537) / 9) % 8)) ((((75 * x) + 74) % 65537) % 9) (((((75 * x) + 74) % 65537) / 72) % 9))))), (ad, .inl (cI, 9, .inl (zA driq))), (am, .inl (cI, 9, .inl (zA (actM Tq matx (kolS (((((75 * x) + 74) % 65537) / 9) % 8)) ((((75 * x) + 74) % 65537) % 9) (((((75 * x) + 74) % 65537) / 72) % 9))))), (ah, .inl (cI, 9, .inl (zA ah1_22))), (ch, .inr (1, [.ref iy, .ref mk, .int (zI cnq)])), (iy, .inl (cI, 8, .inl (zA iyfq))), (mk, .inl (cI, 8, .inl (zA mkfq))), (oq, .inr (2, [.ref aiq, .ref adq, .ref amq, .ref ahq, .ref chq, .int (zI Tq), .int (zI tmq), .int (zI yrq)])), (aiq, .inl (cI, 9, .inl (zA incq))), (adq, .inl (cI, 9, .inl (zA driq))), (amq, .inl (cI, 9, .inl (zA matq))), (chq, .inr (1, [.ref iyq, .ref mkq, .int (zI cnq)])), (iyq, .inl (cI, 8, .inl (zA iyfq))), (mkq, .inl (cI, 8, .inl (zA mkfq)))] H locs := hz
          refine z_iinc (lv' := [(5, .int (zI (ct + 1))), (9, .int (zI (((((75 * x) + 74) % 65537) / 72) % 9))), (8, .int (zI ((((75 * x) + 74) % 65537) / 72))), (7, .int (zI (kolS (((((75 * x) + 74) % 65537) / 9) % 8)))), (6, .int (zI ((((75 * x) + 74) % 65537) % 9))), (4, .int (zI (((75 * x) + 74) % 65537))), (0, .ref ys), (1, .ref oq), (2, .int (zI seed)), (3, .int (zI count))]) hx hb dX9_draw_110 hl (k := 5) rfl (Nat.le_of_ble_eq_true rfl) rfl (fun ls hl => ?_)
          refine lv_goto (tgt := 11) hx hb dX9_draw_113 (by decide) ?_
          exact ih11 _ (by omega) (ct + 1) (((75 * x) + 74) % 65537) (actH tmx yrx (kolS (((((75 * x) + 74) % 65537) / 9) % 8))) (actY yrx (kolS (((((75 * x) + 74) % 65537) / 9) % 8))) (actI Tq driq matx incx (kolS (((((75 * x) + 74) % 65537) / 9) % 8)) ((((75 * x) + 74) % 65537) % 9) (((((75 * x) + 74) % 65537) / 72) % 9)) (actM Tq matx (kolS (((((75 * x) + 74) % 65537) / 9) % 8)) ((((75 * x) + 74) % 65537) % 9) (((((75 * x) + 74) % 65537) / 72) % 9)) ah1_22 H locs ls rfl (by omega) (by omega) (by first | exact hbx | exact actI_bd hbx) (by first | exact hmx | exact actM_bd hmx) (⟨actH_bd htx.1, actY_bd h94 htx.2⟩) (by rw [hf, drwS_go (by omega) (by rw [(show drwW ((75 * x + 74) % 65537) = _ from if_pos h61)]; exact h94), (show drwW ((75 * x + 74) % 65537) = _ from if_pos h61)]; rfl) hz (lv_sub hl [0, 5, 6, 7, 8, 9] rfl)
  exact L11 _ 0 seed tmq yrq incq matq ahe H locs ls rfl (by omega) (by omega) (hbiq) (hbmq) (by omega) (by rw [Int.sub_zero]) hz (lv_sub hl [0, 1, 2, 3, 4, 5] rfl)

set_option maxHeartbeats 4000000 in
set_option maxRecDepth 100000 in
theorem c_X3_areBoth (l : Launch) (D : va_G) (cI cJ cZ : ClassId) (st one other : Int) (hst : 0 ≤ st ∧ st < 512) (ho : (0 ≤ one ∧ one < 9) ∧ 0 ≤ other ∧ other < 9) : zMp l yX3_areBoth wsX3_areBoth (zRm 0) D cI cJ cZ [.int (zI st), .int (zI one), .int (zI other)] [] (some (.int (zI (if (inS st one = true ∧ inS st other = true) then 1 else 0)))) := by
  refine zMp_z (cc := cX3_areBoth) (maxL := 3) (by decide +kernel) rfl (Nat.le_of_ble_eq_true rfl) rfl ?_
  intro p e s m args below meth c Q H ls F hK hz hl hret
  obtain ⟨hx, hb, hml, hown0, hts⟩ := id F
  have hown : s.vm.findClass RX3 = some m.cls := hown0
  obtain ⟨ws0, hw0⟩ : ∃ w : va_W, w = [] := ⟨_, rfl⟩
  have hz : zH D (zF ws0) H [] H [] := by rw [hw0]; exact hz
  have hl : lv_has ls 3 [(0, .int (zI st)), (1, .int (zI one)), (2, .int (zI other))] := hl
  refine lv_iload_n hx hb dX3_areBoth_0 rfl (lv_at hl 0 rfl) ?_
  refine lv_iload_n hx hb dX3_areBoth_1 rfl (lv_at hl 1 rfl) ?_
  refine z_ishr hx hb dX3_areBoth_2 (by omega) (by omega) ?_
  refine z_iconst hx hb dX3_areBoth_3 ?_
  refine z_iand1 hx hb dX3_areBoth_4 ?_
  refine z_if_eq (tgt := 20) hx hb dX3_areBoth_5 (by decide) (by omega) (fun h5 => ?_) (fun h5 => ?_)
  ·
    refine z_iconst hx hb dX3_areBoth_20 ?_
    exact hret dX3_areBoth_21 (by first | decide | omega | (split <;> decide)) (congrArg (fun z => some (Value.int (zI z))) (show (0 : Int) = (if (inS st one = true ∧ inS st other = true) then 1 else 0) by first | rw [if_neg (fun q => absurd (inS_iff.mp q.1).2 (by omega))] | rw [if_neg (fun q => absurd (inS_iff.mp q.2).2 (by omega))] | rw [if_pos (by exact ⟨inS_iff.mpr ⟨ho.1, by omega⟩, inS_iff.mpr ⟨ho.2, by omega⟩⟩)]))
  ·
    refine lv_iload_n hx hb dX3_areBoth_8 rfl (lv_at hl 0 rfl) ?_
    refine lv_iload_n hx hb dX3_areBoth_9 rfl (lv_at hl 2 rfl) ?_
    refine z_ishr hx hb dX3_areBoth_10 (by omega) (by omega) ?_
    refine z_iconst hx hb dX3_areBoth_11 ?_
    refine z_iand1 hx hb dX3_areBoth_12 ?_
    refine z_if_eq (tgt := 20) hx hb dX3_areBoth_13 (by decide) (by omega) (fun h13 => ?_) (fun h13 => ?_)
    ·
      refine z_iconst hx hb dX3_areBoth_20 ?_
      exact hret dX3_areBoth_21 (by first | decide | omega | (split <;> decide)) (congrArg (fun z => some (Value.int (zI z))) (show (0 : Int) = (if (inS st one = true ∧ inS st other = true) then 1 else 0) by first | rw [if_neg (fun q => absurd (inS_iff.mp q.1).2 (by omega))] | rw [if_neg (fun q => absurd (inS_iff.mp q.2).2 (by omega))] | rw [if_pos (by exact ⟨inS_iff.mpr ⟨ho.1, by omega⟩, inS_iff.mpr ⟨ho.2, by omega⟩⟩)]))
    ·
      refine z_iconst hx hb dX3_areBoth_16 ?_
      refine lv_goto (tgt := 21) hx hb dX3_areBoth_17 (by decide) ?_
      exact hret dX3_areBoth_21 (by first | decide | omega | (split <;> decide)) (congrArg (fun z => some (Value.int (zI z))) (show (1 : Int) = (if (inS st one = true ∧ inS st other = true) then 1 else 0) by first | rw [if_neg (fun q => absurd (inS_iff.mp q.1).2 (by omega))] | rw [if_neg (fun q => absurd (inS_iff.mp q.2).2 (by omega))] | rw [if_pos (by exact ⟨inS_iff.mpr ⟨ho.1, by omega⟩, inS_iff.mpr ⟨ho.2, by omega⟩⟩)]))

set_option maxHeartbeats 4000000 in
set_option maxRecDepth 100000 in
theorem c_X3_isHalf (l : Launch) (D : va_G) (cI cJ cZ : ClassId) (half all : Int) (hst : (0 ≤ half ∧ half < 512) ∧ 0 ≤ all ∧ all < 512) : zMp l yX3_isHalf wsX3_isHalf (zRm 1) D cI cJ cZ [.int (zI half), .int (zI all)] [] (some (.int (zI (if (-1 ≤ 2 * cnt9 half - cnt9 all ∧ 2 * cnt9 half - cnt9 all ≤ 1) then 1 else 0)))) := by
  refine zMp_z (cc := cX3_isHalf) (maxL := 3) (by decide +kernel) rfl (Nat.le_of_ble_eq_true rfl) rfl ?_
  intro p e s m args below meth c Q H ls F hK hz hl hret
  obtain ⟨hx, hb, hml, hown0, hts⟩ := id F
  have hown : s.vm.findClass RX3 = some m.cls := hown0
  obtain ⟨ws0, hw0⟩ : ∃ w : va_W, w = [] := ⟨_, rfl⟩
  have hz : zH D (zF ws0) H [] H [] := by rw [hw0]; exact hz
  have hl : lv_has ls 3 [(0, .int (zI half)), (1, .int (zI all))] := hl
  refine z_iconst hx hb dX3_isHalf_0 ?_
  refine lv_iload_n hx hb dX3_isHalf_1 rfl (lv_at hl 0 rfl) ?_
  refine z_callSp (As := [.int (zI half)]) (rest := [.int (zI 2)]) F hK hz hl (c_J6_bitCount l D cI cJ cZ half (by omega)) (va_cwS 1 hts gX3_isHalf_J6_bitCount_0f7a4 rfl rfl rfl (by decide +kernel) ⟨Nat.le_of_ble_eq_true rfl, Nat.le_of_ble_eq_true rfl⟩) [] rfl rfl rfl rfl (Nat.le_of_ble_eq_true rfl) ⟨Nat.le_of_ble_eq_true rfl, Nat.le_of_ble_eq_true rfl⟩ dX3_isHalf_2 ?_
  refine z_imul hx hb dX3_isHalf_5 ?_
  refine lv_iload_n hx hb dX3_isHalf_6 rfl (lv_at hl 1 rfl) ?_
  refine z_callSp (As := [.int (zI all)]) (rest := [.int (zI (2 * (cnt9 half)))]) F hK hz hl (c_J6_bitCount l D cI cJ cZ all (by omega)) (va_cwS 1 hts gX3_isHalf_J6_bitCount_0f7a4 rfl rfl rfl (by decide +kernel) ⟨Nat.le_of_ble_eq_true rfl, Nat.le_of_ble_eq_true rfl⟩) [] rfl rfl rfl rfl (Nat.le_of_ble_eq_true rfl) ⟨Nat.le_of_ble_eq_true rfl, Nat.le_of_ble_eq_true rfl⟩ dX3_isHalf_7 ?_
  refine z_isub hx hb dX3_isHalf_10 ?_
  have hc1 := cnt9_bd half
  have hc2 := cnt9_bd all
  refine lv_istore_n (lv' := [(2, .int (zI ((2 * (cnt9 half)) - (cnt9 all)))), (0, .int (zI half)), (1, .int (zI all))]) hx hb dX3_isHalf_11 rfl hl (Nat.le_of_ble_eq_true rfl) rfl (fun ls hl => ?_)
  refine lv_iload_n hx hb dX3_isHalf_12 rfl (lv_at hl 0 rfl) ?_
  refine z_iconst hx hb dX3_isHalf_13 ?_
  refine z_icmp_lt (tgt := 26) hx hb dX3_isHalf_14 (by decide) (by omega) (by decide) (fun h14 => ?_) (fun h14 => ?_)
  ·
    refine z_iconst hx hb dX3_isHalf_26 ?_
    exact hret dX3_isHalf_27 (by first | decide | omega | (split <;> decide)) (congrArg (fun z => some (Value.int (zI z))) (show (0 : Int) = (if (-1 ≤ 2 * cnt9 half - cnt9 all ∧ 2 * cnt9 half - cnt9 all ≤ 1) then 1 else 0) by first | rw [if_pos (by omega)] | rw [if_neg (by omega)]))
  ·
    refine lv_iload_n hx hb dX3_isHalf_17 rfl (lv_at hl 0 rfl) ?_
    refine z_iconst hx hb dX3_isHalf_18 ?_
    refine z_icmp_gt (tgt := 26) hx hb dX3_isHalf_19 (by decide) (by omega) (by decide) (fun h19 => ?_) (fun h19 => ?_)
    ·
      refine z_iconst hx hb dX3_isHalf_26 ?_
      exact hret dX3_isHalf_27 (by first | decide | omega | (split <;> decide)) (congrArg (fun z => some (Value.int (zI z))) (show (0 : Int) = (if (-1 ≤ 2 * cnt9 half - cnt9 all ∧ 2 * cnt9 half - cnt9 all ≤ 1) then 1 else 0) by first | rw [if_pos (by omega)] | rw [if_neg (by omega)]))
    ·
      refine z_iconst hx hb dX3_isHalf_22 ?_
      refine lv_goto (tgt := 27) hx hb dX3_isHalf_23 (by decide) ?_
      exact hret dX3_isHalf_27 (by first | decide | omega | (split <;> decide)) (congrArg (fun z => some (Value.int (zI z))) (show (1 : Int) = (if (-1 ≤ 2 * cnt9 half - cnt9 all ∧ 2 * cnt9 half - cnt9 all ≤ 1) then 1 else 0) by first | rw [if_pos (by omega)] | rw [if_neg (by omega)]))

set_option maxRecDepth 20000 in
theorem hin_X3_isTriangle_X2 : ∀ w ∈ u_ws RX2 TX2 8, w ∈ wsX3_isTriangle := by decide +kernel
set_option maxRecDepth 20000 in
theorem fl_X3_isTriangle_35 : Cond.fieldLink RX3 35 "HornCity$City" "there" "I" ∈ wsX3_isTriangle := by decide +kernel
set_option maxHeartbeats 4000000 in
set_option maxRecDepth 100000 in
theorem c_X3_isTriangle (l : Launch) (D : va_G) (cI cJ cZ : ClassId) (o ai ad am ah ch : Nat) (inc : Int → Int) (T tm yr st : Int) (hT : 0 ≤ T ∧ T < 512) (hbi : zBd inc 9 0 179) (hst : 0 ≤ st ∧ st < 512) : zMp l yX3_isTriangle wsX3_isTriangle (zRm 3) D cI cJ cZ [.ref o, .int (zI st)] [(o, .inr (2, [.ref ai, .ref ad, .ref am, .ref ah, .ref ch, .int (zI T), .int (zI tm), .int (zI yr)])), (ai, .inl (cI, 9, .inl (zA inc)))] (some (.int (zI (if triS T inc st = true then 1 else 0)))) := by
  refine zMp_z (cc := cX3_isTriangle) (maxL := 4) (by decide +kernel) rfl (Nat.le_of_ble_eq_true rfl) rfl ?_
  intro p e s m args below meth c Q H ls F hK hz hl hret
  obtain ⟨hx, hb, hml, hown0, hts⟩ := id F
  have hown : s.vm.findClass RX3 = some m.cls := hown0
  obtain ⟨ws0, hw0⟩ : ∃ w : va_W, w = [(o, .inr (2, [.ref ai, .ref ad, .ref am, .ref ah, .ref ch, .int (zI T), .int (zI tm), .int (zI yr)])), (ai, .inl (cI, 9, .inl (zA inc)))] := ⟨_, rfl⟩
  have hz : zH D (zF ws0) H [(o, .inr (2, [.ref ai, .ref ad, .ref am, .ref ah, .ref ch, .int (zI T), .int (zI tm), .int (zI yr)])), (ai, .inl (cI, 9, .inl (zA inc)))] H [] := by rw [hw0]; exact hz
  have hl : lv_has ls 4 [(0, .ref o), (1, .int (zI st))] := hl
  refine lv_iload_n hx hb dX3_isTriangle_0 rfl (lv_at hl 1 rfl) ?_
  refine lv_aload_n hx hb dX3_isTriangle_1 rfl (lv_at hl 0 rfl) ?_
  refine z_get (C := RX2) (T := TX2) (N := 8) (ref := "HornCity$City") hx hb hts hin_X3_isTriangle_X2 hown hK hz 0 rfl rfl 5 (by decide) (hts _ fl_X3_isTriangle_35) rfl rfl dX3_isTriangle_2 ?_
  refine z_iconst hx hb dX3_isTriangle_5 ?_
  refine z_inot hx hb dX3_isTriangle_6 ?_
  refine z_iandn hx hb dX3_isTriangle_7 (by omega) (by omega) ?_
  have hz1 := zAndn_bd (b := T) hst
  refine z_if_ne (tgt := 19) hx hb dX3_isTriangle_8 (by decide) (by omega) (fun h8 => ?_) (fun h8 => ?_)
  ·
    refine z_iconst hx hb dX3_isTriangle_19 ?_
    exact hret dX3_isTriangle_20 (by first | decide | omega | (split <;> decide)) (congrArg (fun z => some (Value.int (zI z))) (show (0 : Int) = (if triS T inc st = true then 1 else 0) by rw [if_neg]; unfold triS; rw [decide_eq_false (by omega)]; simp))
  ·
    refine lv_iload_n hx hb dX3_isTriangle_11 rfl (lv_at hl 1 rfl) ?_
    refine z_callSp (As := [.int (zI st)]) (rest := []) F hK hz hl (c_J6_bitCount l D cI cJ cZ st (by omega)) (va_cwS 1 hts gX3_isTriangle_J6_bitCount_0f7a4 rfl rfl rfl (by decide +kernel) ⟨Nat.le_of_ble_eq_true rfl, Nat.le_of_ble_eq_true rfl⟩) [] rfl rfl rfl rfl (Nat.le_of_ble_eq_true rfl) ⟨Nat.le_of_ble_eq_true rfl, Nat.le_of_ble_eq_true rfl⟩ dX3_isTriangle_12 ?_
    have hc1 := cnt9_bd st
    refine z_iconst hx hb dX3_isTriangle_15 ?_
    refine z_icmp_eq (tgt := 21) hx hb dX3_isTriangle_16 (by decide) (by omega) (by decide) (fun h16 => ?_) (fun h16 => ?_)
    ·
      refine z_iconst hx hb dX3_isTriangle_21 ?_
      refine lv_istore_n (lv' := [(2, .int (zI 0)), (0, .ref o), (1, .int (zI st))]) hx hb dX3_isTriangle_22 rfl hl (Nat.le_of_ble_eq_true rfl) rfl (fun ls hl => ?_)
      have L23 : ∀ (n : Nat) (i : Int) (ls : Array Slot), ((9 - i).toNat = n) → (0 ≤ i ∧ i ≤ 9) → (allB (fun i => allB (fun j => !(inS st i && inS st j) || decide (20 ≤ apS (inO T inc i) (inO T inc j))) i.toNat) i.toNat = true) → lv_has ls 4 [(2, .int (zI i)), (0, .ref o), (1, .int (zI st))] → W p l e (zRm 3) s m args below meth c H [] 0 0 Q (F0 m 23 ls []) := by
        intro n
        refine Nat.strongRecOn n ?_
        intro n ih23 i ls hn23 h0 hall hl
        refine lv_iload_n hx hb dX3_isTriangle_23 rfl (lv_at hl 0 rfl) ?_
        refine z_bipush hx hb dX3_isTriangle_24 (by decide) ?_
        refine z_icmp_ge (tgt := 70) hx hb dX3_isTriangle_26 (by decide) (by omega) (by decide) (fun h26 => ?_) (fun h26 => ?_)
        ·
          refine z_iconst hx hb dX3_isTriangle_70 ?_
          exact hret dX3_isTriangle_71 (by first | decide | omega | (split <;> decide)) (congrArg (fun z => some (Value.int (zI z))) (show (1 : Int) = (if triS T inc st = true then 1 else 0) by have e : i = 9 := (by omega); subst e; rw [if_pos]; unfold triS; rw [decide_eq_true (by omega), decide_eq_true (by omega)]; exact hall))
        ·
          refine z_iconst hx hb dX3_isTriangle_29 ?_
          refine lv_istore_n (lv' := [(3, .int (zI 0)), (2, .int (zI i)), (0, .ref o), (1, .int (zI st))]) hx hb dX3_isTriangle_30 rfl hl (Nat.le_of_ble_eq_true rfl) rfl (fun ls hl => ?_)
          have L31 : ∀ (n : Nat) (j : Int) (ls : Array Slot), ((i - j).toNat = n) → (0 ≤ j ∧ j ≤ i) → (allB (fun j => !(inS st i && inS st j) || decide (20 ≤ apS (inO T inc i) (inO T inc j))) j.toNat = true) → lv_has ls 4 [(3, .int (zI j)), (2, .int (zI i)), (0, .ref o), (1, .int (zI st))] → W p l e (zRm 3) s m args below meth c H [] 0 0 Q (F0 m 31 ls []) := by
            intro n
            refine Nat.strongRecOn n ?_
            intro n ih31 j ls hn31 h2 hal2 hl
            refine lv_iload_n hx hb dX3_isTriangle_31 rfl (lv_at hl 0 rfl) ?_
            refine lv_iload_n hx hb dX3_isTriangle_32 rfl (lv_at hl 1 rfl) ?_
            refine z_icmp_ge (tgt := 64) hx hb dX3_isTriangle_33 (by decide) (by omega) (by omega) (fun h33 => ?_) (fun h33 => ?_)
            ·
              refine z_iinc (lv' := [(2, .int (zI (i + 1))), (3, .int (zI j)), (0, .ref o), (1, .int (zI st))]) hx hb dX3_isTriangle_64 hl (k := 1) rfl (Nat.le_of_ble_eq_true rfl) rfl (fun ls hl => ?_)
              refine lv_goto (tgt := 23) hx hb dX3_isTriangle_67 (by decide) ?_
              exact ih23 _ (by omega) (i + 1) ls rfl (by omega) (by rw [allB_s h0.1, hall, Bool.true_and]; have e : j = i := (by omega); subst e; exact hal2) (lv_sub hl [0, 2, 3] rfl)
            ·
              refine lv_iload_n hx hb dX3_isTriangle_36 rfl (lv_at hl 3 rfl) ?_
              refine lv_iload_n hx hb dX3_isTriangle_37 rfl (lv_at hl 1 rfl) ?_
              refine lv_iload_n hx hb dX3_isTriangle_38 rfl (lv_at hl 0 rfl) ?_
              refine z_callSp (As := [.int (zI st), .int (zI i), .int (zI j)]) (rest := []) F hK hz hl (c_X3_areBoth l D cI cJ cZ st i j (by first | assumption | omega) (by omega)) (va_cwS 3 hts gX3_isTriangle_X3_areBoth rfl rfl rfl (by decide +kernel) ⟨Nat.le_of_ble_eq_true rfl, Nat.le_of_ble_eq_true rfl⟩) [] rfl rfl rfl rfl (Nat.le_of_ble_eq_true rfl) ⟨Nat.le_of_ble_eq_true rfl, Nat.le_of_ble_eq_true rfl⟩ dX3_isTriangle_39 ?_
              refine z_ifb_eq (tgt := 58) hx hb dX3_isTriangle_42 (by decide) (fun h42 => ?_) (fun h42 => ?_)
              ·
                refine z_iinc (lv' := [(3, .int (zI (j + 1))), (2, .int (zI i)), (0, .ref o), (1, .int (zI st))]) hx hb dX3_isTriangle_58 hl (k := 0) rfl (Nat.le_of_ble_eq_true rfl) rfl (fun ls hl => ?_)
                refine lv_goto (tgt := 31) hx hb dX3_isTriangle_61 (by decide) ?_
                exact ih31 _ (by omega) (j + 1) ls rfl (by omega) (by rw [allB_s h2.1, hal2, Bool.true_and]; rw [show (inS st i && inS st j) = false from Bool.eq_false_iff.mpr (fun q => h42 (by simpa using q))]; rfl) (lv_sub hl [0, 1, 2, 3] rfl)
              ·
                refine lv_aload_n hx hb dX3_isTriangle_45 rfl (lv_at hl 2 rfl) ?_
                refine lv_iload_n hx hb dX3_isTriangle_46 rfl (lv_at hl 1 rfl) ?_
                refine lv_iload_n hx hb dX3_isTriangle_47 rfl (lv_at hl 0 rfl) ?_
                refine z_callVp (As := [.int (zI i), .int (zI j)]) (rest := []) (C := RX2) (T := TX2) (N := 8) F hK hz hl (c_X2_between l D cI cJ cZ o ai ad am ah ch inc T tm yr i j (by omega) (by first | assumption | omega) (hbi)) (cwV 2 hts gX3_isTriangle_X2_between rfl rfl rfl (by decide +kernel) ⟨Nat.le_of_ble_eq_true rfl, Nat.le_of_ble_eq_true rfl⟩) rfl 0 rfl [0, 1] rfl rfl rfl rfl (Nat.le_of_ble_eq_true rfl) ⟨Nat.le_of_ble_eq_true rfl, Nat.le_of_ble_eq_true rfl⟩ dX3_isTriangle_48 ?_
                have hap := apS_bd (inO T inc i) (inO T inc j)
                refine z_bipush hx hb dX3_isTriangle_51 (by decide) ?_
                refine z_icmp_ge (tgt := 58) hx hb dX3_isTriangle_53 (by decide) (by omega) (by decide) (fun h53 => ?_) (fun h53 => ?_)
                ·
                  refine z_iinc (lv' := [(3, .int (zI (j + 1))), (2, .int (zI i)), (0, .ref o), (1, .int (zI st))]) hx hb dX3_isTriangle_58 hl (k := 0) rfl (Nat.le_of_ble_eq_true rfl) rfl (fun ls hl => ?_)
                  refine lv_goto (tgt := 31) hx hb dX3_isTriangle_61 (by decide) ?_
                  exact ih31 _ (by omega) (j + 1) ls rfl (by omega) (by rw [allB_s h2.1, hal2, Bool.true_and]; rw [decide_eq_true (by omega), Bool.or_true]) (lv_sub hl [0, 1, 2, 3] rfl)
                ·
                  refine z_iconst hx hb dX3_isTriangle_56 ?_
                  exact hret dX3_isTriangle_57 (by first | decide | omega | (split <;> decide)) (congrArg (fun z => some (Value.int (zI z))) (show (0 : Int) = (if triS T inc st = true then 1 else 0) by rw [if_neg]; unfold triS; rw [allB_no (i := i) (allB_no (i := j) (by rw [h42.1, h42.2, decide_eq_false (by omega)]; rfl) h2.1 _ (by omega)) h0.1 9 (by omega)]; simp))
          exact L31 _ 0 ls rfl (by omega) (rfl) (lv_sub hl [0, 1, 2, 3] rfl)
      exact L23 _ 0 ls rfl (by decide) (rfl) (lv_sub hl [0, 1, 2] rfl)
    ·
      refine z_iconst hx hb dX3_isTriangle_19 ?_
      exact hret dX3_isTriangle_20 (by first | decide | omega | (split <;> decide)) (congrArg (fun z => some (Value.int (zI z))) (show (0 : Int) = (if triS T inc st = true then 1 else 0) by rw [if_neg]; unfold triS; rw [decide_eq_false (show ¬ cnt9 st = 3 by omega)]; simp))

set_option maxHeartbeats 4000000 in
set_option maxRecDepth 100000 in
theorem c_X3_triangleCount (l : Launch) (D : va_G) (cI cJ cZ : ClassId) (o ai ad am ah ch : Nat) (inc : Int → Int) (T tm yr : Int) (hT : 0 ≤ T ∧ T < 512) (hbi : zBd inc 9 0 179) : zMp l yX3_triangleCount wsX3_triangleCount (zRm 4) D cI cJ cZ [.ref o] [(o, .inr (2, [.ref ai, .ref ad, .ref am, .ref ah, .ref ch, .int (zI T), .int (zI tm), .int (zI yr)])), (ai, .inl (cI, 9, .inl (zA inc)))] (some (.int (zI (sumZ (fun s => if triS T inc s = true then 1 else 0) 512)))) := by
  refine zMp_i (cc := cX3_triangleCount) (maxL := 3) (by decide +kernel) rfl (Nat.le_of_ble_eq_true rfl) rfl ?_
  intro p e s m args below meth c Q H ls F hK hz hl hret
  obtain ⟨hx, hb, hml, hown0, hts⟩ := id F
  have hown : s.vm.findClass RX3 = some m.cls := hown0
  obtain ⟨ws0, hw0⟩ : ∃ w : va_W, w = [(o, .inr (2, [.ref ai, .ref ad, .ref am, .ref ah, .ref ch, .int (zI T), .int (zI tm), .int (zI yr)])), (ai, .inl (cI, 9, .inl (zA inc)))] := ⟨_, rfl⟩
  have hz : zH D (zF ws0) H [(o, .inr (2, [.ref ai, .ref ad, .ref am, .ref ah, .ref ch, .int (zI T), .int (zI tm), .int (zI yr)])), (ai, .inl (cI, 9, .inl (zA inc)))] H [] := by rw [hw0]; exact hz
  have hl : lv_has ls 3 [(0, .ref o)] := hl
  refine z_iconst hx hb dX3_triangleCount_0 ?_
  refine lv_istore_n (lv' := [(1, .int (zI 0)), (0, .ref o)]) hx hb dX3_triangleCount_1 rfl hl (Nat.le_of_ble_eq_true rfl) rfl (fun ls hl => ?_)
  refine z_iconst hx hb dX3_triangleCount_2 ?_
  refine lv_istore_n (lv' := [(2, .int (zI 0)), (1, .int (zI 0)), (0, .ref o)]) hx hb dX3_triangleCount_3 rfl hl (Nat.le_of_ble_eq_true rfl) rfl (fun ls hl => ?_)
  have L4 : ∀ (n : Nat) (s0 cn : Int) (ls : Array Slot), ((512 - s0).toNat = n) → (0 ≤ s0 ∧ s0 ≤ 512) → (0 ≤ cn ∧ cn ≤ s0) → (cn = sumZ (fun s => if triS T inc s = true then 1 else 0) s0.toNat) → lv_has ls 3 [(2, .int (zI s0)), (1, .int (zI cn)), (0, .ref o)] → W p l e (zRm 4) s m args below meth c H [] 0 0 Q (F0 m 4 ls []) := by
    intro n
    refine Nat.strongRecOn n ?_
    intro n ih4 s0 cn ls hn4 h0 hc0 hc hl
    refine lv_iload_n hx hb dX3_triangleCount_4 rfl (lv_at hl 0 rfl) ?_
    refine z_sipush hx hb dX3_triangleCount_5 (by decide) ?_
    refine z_icmp_ge (tgt := 28) hx hb dX3_triangleCount_8 (by decide) (by omega) (by decide) (fun h8 => ?_) (fun h8 => ?_)
    ·
      refine lv_iload_n hx hb dX3_triangleCount_28 rfl (lv_at hl 1 rfl) ?_
      exact hret dX3_triangleCount_29 (congrArg (fun z => some (Value.int (zI z))) (show (cn : Int) = (sumZ (fun s => if triS T inc s = true then 1 else 0) 512) by have e : s0 = 512 := (by omega); subst e; exact hc))
    ·
      refine lv_aload_n hx hb dX3_triangleCount_11 rfl (lv_at hl 2 rfl) ?_
      refine lv_iload_n hx hb dX3_triangleCount_12 rfl (lv_at hl 0 rfl) ?_
      refine z_callSp (As := [.ref o, .int (zI s0)]) (rest := []) F hK hz hl (c_X3_isTriangle l D cI cJ cZ o ai ad am ah ch inc T tm yr s0 (by first | assumption | omega) (hbi) (by first | assumption | omega)) (va_cwS 2 hts gX3_triangleCount_X3_isTriangle rfl rfl rfl (by decide +kernel) ⟨Nat.le_of_ble_eq_true rfl, Nat.le_of_ble_eq_true rfl⟩) [0, 1] rfl rfl rfl rfl (Nat.le_of_ble_eq_true rfl) ⟨Nat.le_of_ble_eq_true rfl, Nat.le_of_ble_eq_true rfl⟩ dX3_triangleCount_13 ?_
      refine z_ifb_eq (tgt := 22) hx hb dX3_triangleCount_16 (by decide) (fun h16 => ?_) (fun h16 => ?_)
      ·
        refine z_iinc (lv' := [(2, .int (zI (s0 + 1))), (1, .int (zI cn)), (0, .ref o)]) hx hb dX3_triangleCount_22 hl (k := 0) rfl (Nat.le_of_ble_eq_true rfl) rfl (fun ls hl => ?_)
        refine lv_goto (tgt := 4) hx hb dX3_triangleCount_25 (by decide) ?_
        exact ih4 _ (by omega) (s0 + 1) cn ls rfl (by omega) (by omega) (by rw [sumZ_s h0.1, hc]; rw [if_neg h16, Int.add_zero]) (lv_sub hl [0, 1, 2] rfl)
      ·
        refine z_iinc (lv' := [(1, .int (zI (cn + 1))), (2, .int (zI s0)), (0, .ref o)]) hx hb dX3_triangleCount_19 hl (k := 1) rfl (Nat.le_of_ble_eq_true rfl) rfl (fun ls hl => ?_)
        refine z_iinc (lv' := [(2, .int (zI (s0 + 1))), (1, .int (zI (cn + 1))), (0, .ref o)]) hx hb dX3_triangleCount_22 hl (k := 1) rfl (Nat.le_of_ble_eq_true rfl) rfl (fun ls hl => ?_)
        refine lv_goto (tgt := 4) hx hb dX3_triangleCount_25 (by decide) ?_
        exact ih4 _ (by omega) (s0 + 1) (cn + 1) ls rfl (by omega) (by omega) (by rw [sumZ_s h0.1, hc]; rw [if_pos h16]) (lv_sub hl [0, 1, 2] rfl)
  exact L4 _ 0 0 ls rfl (by decide) (by decide) (rfl) (lv_sub hl [0, 1, 2] rfl)

set_option maxHeartbeats 4000000 in
set_option maxRecDepth 100000 in
theorem c_X3_firstTriangle (l : Launch) (D : va_G) (cI cJ cZ : ClassId) (o ai ad am ah ch : Nat) (inc : Int → Int) (T tm yr : Int) (hT : 0 ≤ T ∧ T < 512) (hbi : zBd inc 9 0 179) : zMp l yX3_firstTriangle wsX3_firstTriangle (zRm 4) D cI cJ cZ [.ref o] [(o, .inr (2, [.ref ai, .ref ad, .ref am, .ref ah, .ref ch, .int (zI T), .int (zI tm), .int (zI yr)])), (ai, .inl (cI, 9, .inl (zA inc)))] (some (.int (zI (lstS (triS T inc) 512 0)))) := by
  refine zMp_i (cc := cX3_firstTriangle) (maxL := 2) (by decide +kernel) rfl (Nat.le_of_ble_eq_true rfl) rfl ?_
  intro p e s m args below meth c Q H ls F hK hz hl hret
  obtain ⟨hx, hb, hml, hown0, hts⟩ := id F
  have hown : s.vm.findClass RX3 = some m.cls := hown0
  obtain ⟨ws0, hw0⟩ : ∃ w : va_W, w = [(o, .inr (2, [.ref ai, .ref ad, .ref am, .ref ah, .ref ch, .int (zI T), .int (zI tm), .int (zI yr)])), (ai, .inl (cI, 9, .inl (zA inc)))] := ⟨_, rfl⟩
  have hz : zH D (zF ws0) H [(o, .inr (2, [.ref ai, .ref ad, .ref am, .ref ah, .ref ch, .int (zI T), .int (zI tm), .int (zI yr)])), (ai, .inl (cI, 9, .inl (zA inc)))] H [] := by rw [hw0]; exact hz
  have hl : lv_has ls 2 [(0, .ref o)] := hl
  refine z_iconst hx hb dX3_firstTriangle_0 ?_
  refine lv_istore_n (lv' := [(1, .int (zI 0)), (0, .ref o)]) hx hb dX3_firstTriangle_1 rfl hl (Nat.le_of_ble_eq_true rfl) rfl (fun ls hl => ?_)
  have L2 : ∀ (n : Nat) (s0 : Int) (ls : Array Slot), ((512 - s0).toNat = n) → (0 ≤ s0 ∧ s0 ≤ 512) → (lstS (triS T inc) 512 0 = lstS (triS T inc) (512 - s0).toNat s0) → lv_has ls 2 [(1, .int (zI s0)), (0, .ref o)] → W p l e (zRm 4) s m args below meth c H [] 0 0 Q (F0 m 2 ls []) := by
    intro n
    refine Nat.strongRecOn n ?_
    intro n ih2 s0 ls hn2 h0 hc hl
    refine lv_iload_n hx hb dX3_firstTriangle_2 rfl (lv_at hl 0 rfl) ?_
    refine z_sipush hx hb dX3_firstTriangle_3 (by decide) ?_
    refine z_icmp_ge (tgt := 25) hx hb dX3_firstTriangle_6 (by decide) (by omega) (by decide) (fun h6 => ?_) (fun h6 => ?_)
    ·
      refine z_bipush hx hb dX3_firstTriangle_25 (by decide) ?_
      exact hret dX3_firstTriangle_27 (congrArg (fun z => some (Value.int (zI z))) (show ((-6) : Int) = (lstS (triS T inc) 512 0) by have e : s0 = 512 := (by omega); subst e; exact hc.symm))
    ·
      refine lv_aload_n hx hb dX3_firstTriangle_9 rfl (lv_at hl 1 rfl) ?_
      refine lv_iload_n hx hb dX3_firstTriangle_10 rfl (lv_at hl 0 rfl) ?_
      refine z_callSp (As := [.ref o, .int (zI s0)]) (rest := []) F hK hz hl (c_X3_isTriangle l D cI cJ cZ o ai ad am ah ch inc T tm yr s0 (by first | assumption | omega) (hbi) (by first | assumption | omega)) (va_cwS 2 hts gX3_firstTriangle_X3_isTriangle rfl rfl rfl (by decide +kernel) ⟨Nat.le_of_ble_eq_true rfl, Nat.le_of_ble_eq_true rfl⟩) [0, 1] rfl rfl rfl rfl (Nat.le_of_ble_eq_true rfl) ⟨Nat.le_of_ble_eq_true rfl, Nat.le_of_ble_eq_true rfl⟩ dX3_firstTriangle_11 ?_
      refine z_ifb_eq (tgt := 19) hx hb dX3_firstTriangle_14 (by decide) (fun h14 => ?_) (fun h14 => ?_)
      ·
        refine z_iinc (lv' := [(1, .int (zI (s0 + 1))), (0, .ref o)]) hx hb dX3_firstTriangle_19 hl (k := 0) rfl (Nat.le_of_ble_eq_true rfl) rfl (fun ls hl => ?_)
        refine lv_goto (tgt := 2) hx hb dX3_firstTriangle_22 (by decide) ?_
        exact ih2 _ (by omega) (s0 + 1) ls rfl (by omega) (by rw [hc, lstS_at (by omega), if_neg h14]) (lv_sub hl [0, 1] rfl)
      ·
        refine lv_iload_n hx hb dX3_firstTriangle_17 rfl (lv_at hl 0 rfl) ?_
        exact hret dX3_firstTriangle_18 (congrArg (fun z => some (Value.int (zI z))) (show (s0 : Int) = (lstS (triS T inc) 512 0) by rw [hc, lstS_at (by omega), if_pos h14]))
  exact L2 _ 0 ls rfl (by decide) (rfl) (lv_sub hl [0, 1] rfl)

set_option maxHeartbeats 4000000 in
set_option maxRecDepth 100000 in
theorem c_X3_apartFrom (l : Launch) (D : va_G) (cI cJ cZ : ClassId) (o ai ad am ah ch : Nat) (inc : Int → Int) (T tm yr pr : Int) (hT : 0 ≤ T ∧ T < 512) (hbi : zBd inc 9 0 179) (hpr : 0 ≤ pr ∧ pr < 180) : zMp l yX3_apartFrom wsX3_apartFrom (zRm 2) D cI cJ cZ [.ref o, .int (zI pr)] [(o, .inr (2, [.ref ai, .ref ad, .ref am, .ref ah, .ref ch, .int (zI T), .int (zI tm), .int (zI yr)])), (ai, .inl (cI, 9, .inl (zA inc)))] (some (.int (zI (afS T inc pr)))) := by
  refine zMp_i (cc := cX3_apartFrom) (maxL := 4) (by decide +kernel) rfl (Nat.le_of_ble_eq_true rfl) rfl ?_
  intro p e s m args below meth c Q H ls F hK hz hl hret
  obtain ⟨hx, hb, hml, hown0, hts⟩ := id F
  have hown : s.vm.findClass RX3 = some m.cls := hown0
  obtain ⟨ws0, hw0⟩ : ∃ w : va_W, w = [(o, .inr (2, [.ref ai, .ref ad, .ref am, .ref ah, .ref ch, .int (zI T), .int (zI tm), .int (zI yr)])), (ai, .inl (cI, 9, .inl (zA inc)))] := ⟨_, rfl⟩
  have hz : zH D (zF ws0) H [(o, .inr (2, [.ref ai, .ref ad, .ref am, .ref ah, .ref ch, .int (zI T), .int (zI tm), .int (zI yr)])), (ai, .inl (cI, 9, .inl (zA inc)))] H [] := by rw [hw0]; exact hz
  have hl : lv_has ls 4 [(0, .ref o), (1, .int (zI pr))] := hl
  refine z_iconst hx hb dX3_apartFrom_0 ?_
  refine lv_istore_n (lv' := [(2, .int (zI 0)), (0, .ref o), (1, .int (zI pr))]) hx hb dX3_apartFrom_1 rfl hl (Nat.le_of_ble_eq_true rfl) rfl (fun ls hl => ?_)
  refine z_iconst hx hb dX3_apartFrom_2 ?_
  refine lv_istore_n (lv' := [(3, .int (zI 0)), (2, .int (zI 0)), (0, .ref o), (1, .int (zI pr))]) hx hb dX3_apartFrom_3 rfl hl (Nat.le_of_ble_eq_true rfl) rfl (fun ls hl => ?_)
  have L4 : ∀ (n : Nat) (on su : Int) (ls : Array Slot), ((9 - on).toNat = n) → (0 ≤ on ∧ on ≤ 9) → (0 ≤ su ∧ su ≤ 90 * on) → (su = sumZ (fun k => if inS T k = true then apS (inO T inc k) pr else 0) on.toNat) → lv_has ls 4 [(3, .int (zI on)), (2, .int (zI su)), (0, .ref o), (1, .int (zI pr))] → W p l e (zRm 2) s m args below meth c H [] 0 0 Q (F0 m 4 ls []) := by
    intro n
    refine Nat.strongRecOn n ?_
    intro n ih4 on su ls hn4 h0 hs0 hs hl
    refine lv_iload_n hx hb dX3_apartFrom_4 rfl (lv_at hl 0 rfl) ?_
    refine z_bipush hx hb dX3_apartFrom_5 (by decide) ?_
    refine z_icmp_ge (tgt := 36) hx hb dX3_apartFrom_7 (by decide) (by omega) (by decide) (fun h7 => ?_) (fun h7 => ?_)
    ·
      refine lv_iload_n hx hb dX3_apartFrom_36 rfl (lv_at hl 1 rfl) ?_
      exact hret dX3_apartFrom_37 (congrArg (fun z => some (Value.int (zI z))) (show (su : Int) = (afS T inc pr) by have e : on = 9 := (by omega); subst e; exact hs))
    ·
      refine lv_aload_n hx hb dX3_apartFrom_10 rfl (lv_at hl 2 rfl) ?_
      refine lv_iload_n hx hb dX3_apartFrom_11 rfl (lv_at hl 0 rfl) ?_
      refine z_callVp (As := [.int (zI on)]) (rest := []) (C := RX2) (T := TX2) (N := 8) F hK hz hl (c_X2_isThere l D cI cJ cZ o ai ad am ah ch T tm yr on (by omega) (by first | assumption | omega)) (cwV 1 hts gX3_apartFrom_X2_isThere rfl rfl rfl (by decide +kernel) ⟨Nat.le_of_ble_eq_true rfl, Nat.le_of_ble_eq_true rfl⟩) rfl 0 rfl [0] rfl rfl rfl rfl (Nat.le_of_ble_eq_true rfl) ⟨Nat.le_of_ble_eq_true rfl, Nat.le_of_ble_eq_true rfl⟩ dX3_apartFrom_12 ?_
      refine z_ifb_eq (tgt := 30) hx hb dX3_apartFrom_15 (by decide) (fun h15 => ?_) (fun h15 => ?_)
      ·
        refine z_iinc (lv' := [(3, .int (zI (on + 1))), (2, .int (zI su)), (0, .ref o), (1, .int (zI pr))]) hx hb dX3_apartFrom_30 hl (k := 0) rfl (Nat.le_of_ble_eq_true rfl) rfl (fun ls hl => ?_)
        refine lv_goto (tgt := 4) hx hb dX3_apartFrom_33 (by decide) ?_
        exact ih4 _ (by omega) (on + 1) su ls rfl (by omega) (by omega) (by rw [sumZ_s h0.1, ← hs]; rw [if_neg h15, Int.add_zero]) (lv_sub hl [0, 1, 2, 3] rfl)
      ·
        refine lv_iload_n hx hb dX3_apartFrom_18 rfl (lv_at hl 1 rfl) ?_
        refine lv_aload_n hx hb dX3_apartFrom_19 rfl (lv_at hl 2 rfl) ?_
        refine lv_iload_n hx hb dX3_apartFrom_20 rfl (lv_at hl 0 rfl) ?_
        refine z_callVp (As := [.int (zI on)]) (rest := [.int (zI su)]) (C := RX2) (T := TX2) (N := 8) F hK hz hl (c_X2_inclineOf l D cI cJ cZ o ai ad am ah ch inc T tm yr on (by omega) (by first | assumption | omega)) (cwV 1 hts gX3_apartFrom_X2_inclineOf rfl rfl rfl (by decide +kernel) ⟨Nat.le_of_ble_eq_true rfl, Nat.le_of_ble_eq_true rfl⟩) rfl 0 rfl [0, 1] rfl rfl rfl rfl (Nat.le_of_ble_eq_true rfl) ⟨Nat.le_of_ble_eq_true rfl, Nat.le_of_ble_eq_true rfl⟩ dX3_apartFrom_21 ?_
        have hi1 := inO_bd (T := T) hbi (by decide) on
        refine lv_iload_n hx hb dX3_apartFrom_24 rfl (lv_at hl 3 rfl) ?_
        refine z_callSp (As := [.int (zI (inO T inc on)), .int (zI pr)]) (rest := [.int (zI su)]) F hK hz hl (c_X5_between l D cI cJ cZ (inO T inc on) pr (by omega)) (va_cwS 2 hts gX3_apartFrom_X5_between rfl rfl rfl (by decide +kernel) ⟨Nat.le_of_ble_eq_true rfl, Nat.le_of_ble_eq_true rfl⟩) [] rfl rfl rfl rfl (Nat.le_of_ble_eq_true rfl) ⟨Nat.le_of_ble_eq_true rfl, Nat.le_of_ble_eq_true rfl⟩ dX3_apartFrom_25 ?_
        have hap := apS_bd (inO T inc on) pr
        refine z_iadd hx hb dX3_apartFrom_28 ?_
        refine lv_istore_n (lv' := [(2, .int (zI (su + (apS (inO T inc on) pr)))), (3, .int (zI on)), (0, .ref o), (1, .int (zI pr))]) hx hb dX3_apartFrom_29 rfl hl (Nat.le_of_ble_eq_true rfl) rfl (fun ls hl => ?_)
        refine z_iinc (lv' := [(3, .int (zI (on + 1))), (2, .int (zI (su + (apS (inO T inc on) pr)))), (0, .ref o), (1, .int (zI pr))]) hx hb dX3_apartFrom_30 hl (k := 1) rfl (Nat.le_of_ble_eq_true rfl) rfl (fun ls hl => ?_)
        refine lv_goto (tgt := 4) hx hb dX3_apartFrom_33 (by decide) ?_
        exact ih4 _ (by omega) (on + 1) (su + (apS (inO T inc on) pr)) ls rfl (by omega) (by omega) (by rw [sumZ_s h0.1, ← hs]; rw [if_pos h15]) (lv_sub hl [0, 1, 2, 3] rfl)
  exact L4 _ 0 0 ls rfl (by decide) (by decide) (rfl) (lv_sub hl [0, 1, 2, 3] rfl)

set_option maxHeartbeats 4000000 in
set_option maxRecDepth 100000 in
theorem c_X3_bestProposal (l : Launch) (D : va_G) (cI cJ cZ : ClassId) (o ai ad am ah ch : Nat) (inc : Int → Int) (T tm yr : Int) (hT : 0 ≤ T ∧ T < 512) (hbi : zBd inc 9 0 179) : zMp l yX3_bestProposal wsX3_bestProposal (zRm 3) D cI cJ cZ [.ref o] [(o, .inr (2, [.ref ai, .ref ad, .ref am, .ref ah, .ref ch, .int (zI T), .int (zI tm), .int (zI yr)])), (ai, .inl (cI, 9, .inl (zA inc)))] (some (.int (zI ((argm (afS T inc) 179).1)))) := by
  refine zMp_i (cc := cX3_bestProposal) (maxL := 5) (by decide +kernel) rfl (Nat.le_of_ble_eq_true rfl) rfl ?_
  intro p e s m args below meth c Q H ls F hK hz hl hret
  obtain ⟨hx, hb, hml, hown0, hts⟩ := id F
  have hown : s.vm.findClass RX3 = some m.cls := hown0
  obtain ⟨ws0, hw0⟩ : ∃ w : va_W, w = [(o, .inr (2, [.ref ai, .ref ad, .ref am, .ref ah, .ref ch, .int (zI T), .int (zI tm), .int (zI yr)])), (ai, .inl (cI, 9, .inl (zA inc)))] := ⟨_, rfl⟩
  have hz : zH D (zF ws0) H [(o, .inr (2, [.ref ai, .ref ad, .ref am, .ref ah, .ref ch, .int (zI T), .int (zI tm), .int (zI yr)])), (ai, .inl (cI, 9, .inl (zA inc)))] H [] := by rw [hw0]; exact hz
  have hl : lv_has ls 5 [(0, .ref o)] := hl
  refine z_iconst hx hb dX3_bestProposal_0 ?_
  refine lv_istore_n (lv' := [(1, .int (zI 0)), (0, .ref o)]) hx hb dX3_bestProposal_1 rfl hl (Nat.le_of_ble_eq_true rfl) rfl (fun ls hl => ?_)
  refine lv_aload_n hx hb dX3_bestProposal_2 rfl (lv_at hl 1 rfl) ?_
  refine z_iconst hx hb dX3_bestProposal_3 ?_
  refine z_callSp (As := [.ref o, .int (zI 0)]) (rest := []) F hK hz hl (c_X3_apartFrom l D cI cJ cZ o ai ad am ah ch inc T tm yr 0 (by first | assumption | omega) (hbi) (by omega)) (va_cwS 2 hts gX3_bestProposal_X3_apartFrom rfl rfl rfl (by decide +kernel) ⟨Nat.le_of_ble_eq_true rfl, Nat.le_of_ble_eq_true rfl⟩) [0, 1] rfl rfl rfl rfl (Nat.le_of_ble_eq_true rfl) ⟨Nat.le_of_ble_eq_true rfl, Nat.le_of_ble_eq_true rfl⟩ dX3_bestProposal_4 ?_
  have ha0 := afS_bd T inc 0
  refine lv_istore_n (lv' := [(2, .int (zI (afS T inc 0))), (1, .int (zI 0)), (0, .ref o)]) hx hb dX3_bestProposal_7 rfl hl (Nat.le_of_ble_eq_true rfl) rfl (fun ls hl => ?_)
  refine z_iconst hx hb dX3_bestProposal_8 ?_
  refine lv_istore_n (lv' := [(3, .int (zI 1)), (2, .int (zI (afS T inc 0))), (1, .int (zI 0)), (0, .ref o)]) hx hb dX3_bestProposal_9 rfl hl (Nat.le_of_ble_eq_true rfl) rfl (fun ls hl => ?_)
  have L10 : ∀ (n : Nat) (pr le be : Int) (ls : Array Slot), ((180 - pr).toNat = n) → (1 ≤ pr ∧ pr ≤ 180) → (0 ≤ le ∧ le ≤ 810) → ((be, le) = argm (afS T inc) (pr - 1).toNat) → lv_has ls 5 [(3, .int (zI pr)), (2, .int (zI le)), (1, .int (zI be)), (0, .ref o)] → W p l e (zRm 3) s m args below meth c H [] 0 0 Q (F0 m 10 ls []) := by
    intro n
    refine Nat.strongRecOn n ?_
    intro n ih10 pr le be ls hn10 h0 hs0 hs hl
    refine lv_iload_n hx hb dX3_bestProposal_10 rfl (lv_at hl 0 rfl) ?_
    refine z_sipush hx hb dX3_bestProposal_11 (by decide) ?_
    refine z_icmp_ge (tgt := 41) hx hb dX3_bestProposal_14 (by decide) (by omega) (by decide) (fun h14 => ?_) (fun h14 => ?_)
    ·
      refine lv_iload_n hx hb dX3_bestProposal_41 rfl (lv_at hl 2 rfl) ?_
      exact hret dX3_bestProposal_42 (congrArg (fun z => some (Value.int (zI z))) (show (be : Int) = (argm (afS T inc) 179).1 by have e : pr = 180 := (by omega); subst e; exact congrArg Prod.fst hs))
    ·
      refine lv_aload_n hx hb dX3_bestProposal_17 rfl (lv_at hl 3 rfl) ?_
      refine lv_iload_n hx hb dX3_bestProposal_18 rfl (lv_at hl 0 rfl) ?_
      refine z_callSp (As := [.ref o, .int (zI pr)]) (rest := []) F hK hz hl (c_X3_apartFrom l D cI cJ cZ o ai ad am ah ch inc T tm yr pr (by first | assumption | omega) (hbi) (by omega)) (va_cwS 2 hts gX3_bestProposal_X3_apartFrom rfl rfl rfl (by decide +kernel) ⟨Nat.le_of_ble_eq_true rfl, Nat.le_of_ble_eq_true rfl⟩) [0, 1] rfl rfl rfl rfl (Nat.le_of_ble_eq_true rfl) ⟨Nat.le_of_ble_eq_true rfl, Nat.le_of_ble_eq_true rfl⟩ dX3_bestProposal_19 ?_
      have ha1 := afS_bd T inc pr
      refine lv_istore (lv' := [(4, .int (zI (afS T inc pr))), (3, .int (zI pr)), (2, .int (zI le)), (1, .int (zI be)), (0, .ref o)]) hx hb dX3_bestProposal_22 hl (Nat.le_of_ble_eq_true rfl) rfl (fun ls hl => ?_)
      refine lv_iload hx hb dX3_bestProposal_24 (lv_at hl 0 rfl) ?_
      refine lv_iload_n hx hb dX3_bestProposal_26 rfl (lv_at hl 2 rfl) ?_
      refine z_icmp_ge (tgt := 35) hx hb dX3_bestProposal_27 (by decide) (by omega) (by omega) (fun h27 => ?_) (fun h27 => ?_)
      ·
        refine z_iinc (lv' := [(3, .int (zI (pr + 1))), (4, .int (zI (afS T inc pr))), (2, .int (zI le)), (1, .int (zI be)), (0, .ref o)]) hx hb dX3_bestProposal_35 hl (k := 1) rfl (Nat.le_of_ble_eq_true rfl) rfl (fun ls hl => ?_)
        refine lv_goto (tgt := 10) hx hb dX3_bestProposal_38 (by decide) ?_
        exact ih10 _ (by omega) (pr + 1) le be ls rfl (by omega) (by omega) (by rw [← argm_s h0.1 hs]; rw [if_neg (by omega)]) (lv_sub hl [0, 2, 3, 4] rfl)
      ·
        refine lv_iload hx hb dX3_bestProposal_30 (lv_at hl 0 rfl) ?_
        refine lv_istore_n (lv' := [(2, .int (zI (afS T inc pr))), (4, .int (zI (afS T inc pr))), (3, .int (zI pr)), (1, .int (zI be)), (0, .ref o)]) hx hb dX3_bestProposal_32 rfl hl (Nat.le_of_ble_eq_true rfl) rfl (fun ls hl => ?_)
        refine lv_iload_n hx hb dX3_bestProposal_33 rfl (lv_at hl 2 rfl) ?_
        refine lv_istore_n (lv' := [(1, .int (zI pr)), (2, .int (zI (afS T inc pr))), (4, .int (zI (afS T inc pr))), (3, .int (zI pr)), (0, .ref o)]) hx hb dX3_bestProposal_34 rfl hl (Nat.le_of_ble_eq_true rfl) rfl (fun ls hl => ?_)
        refine z_iinc (lv' := [(3, .int (zI (pr + 1))), (1, .int (zI pr)), (2, .int (zI (afS T inc pr))), (4, .int (zI (afS T inc pr))), (0, .ref o)]) hx hb dX3_bestProposal_35 hl (k := 3) rfl (Nat.le_of_ble_eq_true rfl) rfl (fun ls hl => ?_)
        refine lv_goto (tgt := 10) hx hb dX3_bestProposal_38 (by decide) ?_
        exact ih10 _ (by omega) (pr + 1) (afS T inc pr) pr ls rfl (by omega) (by omega) (by rw [← argm_s h0.1 hs]; rw [if_pos (by omega)]) (lv_sub hl [0, 2, 1, 4] rfl)
  exact L10 _ 1 (afS T inc 0) 0 ls rfl (by decide) (by omega) (rfl) (lv_sub hl [0, 1, 2, 3] rfl)

set_option maxHeartbeats 4000000 in
set_option maxRecDepth 100000 in
theorem c_X3_apartWithin (l : Launch) (D : va_G) (cI cJ cZ : ClassId) (o ai ad am ah ch : Nat) (inc : Int → Int) (T tm yr st : Int) (hT : 0 ≤ T ∧ T < 512) (hbi : zBd inc 9 0 179) (hst : 0 ≤ st ∧ st < 512) : zMp l yX3_apartWithin wsX3_apartWithin (zRm 3) D cI cJ cZ [.ref o, .int (zI st)] [(o, .inr (2, [.ref ai, .ref ad, .ref am, .ref ah, .ref ch, .int (zI T), .int (zI tm), .int (zI yr)])), (ai, .inl (cI, 9, .inl (zA inc)))] (some (.int (zI (awS T inc st)))) := by
  refine zMp_i (cc := cX3_apartWithin) (maxL := 5) (by decide +kernel) rfl (Nat.le_of_ble_eq_true rfl) rfl ?_
  intro p e s m args below meth c Q H ls F hK hz hl hret
  obtain ⟨hx, hb, hml, hown0, hts⟩ := id F
  have hown : s.vm.findClass RX3 = some m.cls := hown0
  obtain ⟨ws0, hw0⟩ : ∃ w : va_W, w = [(o, .inr (2, [.ref ai, .ref ad, .ref am, .ref ah, .ref ch, .int (zI T), .int (zI tm), .int (zI yr)])), (ai, .inl (cI, 9, .inl (zA inc)))] := ⟨_, rfl⟩
  have hz : zH D (zF ws0) H [(o, .inr (2, [.ref ai, .ref ad, .ref am, .ref ah, .ref ch, .int (zI T), .int (zI tm), .int (zI yr)])), (ai, .inl (cI, 9, .inl (zA inc)))] H [] := by rw [hw0]; exact hz
  have hl : lv_has ls 5 [(0, .ref o), (1, .int (zI st))] := hl
  refine z_iconst hx hb dX3_apartWithin_0 ?_
  refine lv_istore_n (lv' := [(2, .int (zI 0)), (0, .ref o), (1, .int (zI st))]) hx hb dX3_apartWithin_1 rfl hl (Nat.le_of_ble_eq_true rfl) rfl (fun ls hl => ?_)
  refine z_iconst hx hb dX3_apartWithin_2 ?_
  refine lv_istore_n (lv' := [(3, .int (zI 0)), (2, .int (zI 0)), (0, .ref o), (1, .int (zI st))]) hx hb dX3_apartWithin_3 rfl hl (Nat.le_of_ble_eq_true rfl) rfl (fun ls hl => ?_)
  have L4 : ∀ (n : Nat) (i su : Int) (ls : Array Slot), ((9 - i).toNat = n) → (0 ≤ i ∧ i ≤ 9) → (0 ≤ su ∧ su ≤ 810 * i) → (su = sumZ (fun i => sumZ (fun j => prS T inc st i j) i.toNat) i.toNat) → lv_has ls 5 [(3, .int (zI i)), (2, .int (zI su)), (0, .ref o), (1, .int (zI st))] → W p l e (zRm 3) s m args below meth c H [] 0 0 Q (F0 m 4 ls []) := by
    intro n
    refine Nat.strongRecOn n ?_
    intro n ih4 i su ls hn4 h0 hs0 hs hl
    refine lv_iload_n hx hb dX3_apartWithin_4 rfl (lv_at hl 0 rfl) ?_
    refine z_bipush hx hb dX3_apartWithin_5 (by decide) ?_
    refine z_icmp_ge (tgt := 51) hx hb dX3_apartWithin_7 (by decide) (by omega) (by decide) (fun h7 => ?_) (fun h7 => ?_)
    ·
      refine lv_iload_n hx hb dX3_apartWithin_51 rfl (lv_at hl 1 rfl) ?_
      exact hret dX3_apartWithin_52 (congrArg (fun z => some (Value.int (zI z))) (show (su : Int) = (awS T inc st) by have e : i = 9 := (by omega); subst e; exact hs))
    ·
      have hrow := rowS_bd T inc st i i.toNat (by omega)
      refine z_iconst hx hb dX3_apartWithin_10 ?_
      refine lv_istore (lv' := [(4, .int (zI 0)), (3, .int (zI i)), (2, .int (zI su)), (0, .ref o), (1, .int (zI st))]) hx hb dX3_apartWithin_11 hl (Nat.le_of_ble_eq_true rfl) rfl (fun ls hl => ?_)
      have L13 : ∀ (n : Nat) (j sv : Int) (ls : Array Slot), ((i - j).toNat = n) → (0 ≤ j ∧ j ≤ i) → (su ≤ sv ∧ sv ≤ su + 90 * j) → (sv = su + sumZ (fun j => prS T inc st i j) j.toNat) → lv_has ls 5 [(4, .int (zI j)), (3, .int (zI i)), (2, .int (zI sv)), (0, .ref o), (1, .int (zI st))] → W p l e (zRm 3) s m args below meth c H [] 0 0 Q (F0 m 13 ls []) := by
        intro n
        refine Nat.strongRecOn n ?_
        intro n ih13 j sv ls hn13 h2 hv0 hv hl
        refine lv_iload hx hb dX3_apartWithin_13 (lv_at hl 0 rfl) ?_
        refine lv_iload_n hx hb dX3_apartWithin_15 rfl (lv_at hl 1 rfl) ?_
        refine z_icmp_ge (tgt := 45) hx hb dX3_apartWithin_16 (by decide) (by omega) (by omega) (fun h16 => ?_) (fun h16 => ?_)
        ·
          have hrow := rowS_bd T inc st i i.toNat (by omega)
          refine z_iinc (lv' := [(3, .int (zI (i + 1))), (4, .int (zI j)), (2, .int (zI sv)), (0, .ref o), (1, .int (zI st))]) hx hb dX3_apartWithin_45 hl (k := 1) rfl (Nat.le_of_ble_eq_true rfl) rfl (fun ls hl => ?_)
          refine lv_goto (tgt := 4) hx hb dX3_apartWithin_48 (by decide) ?_
          exact ih4 _ (by omega) (i + 1) sv ls rfl (by omega) (by omega) (by rw [sumZ_s h0.1, ← hs]; have e : j = i := (by omega); subst e; omega) (lv_sub hl [0, 2, 3, 4] rfl)
        ·
          refine lv_iload_n hx hb dX3_apartWithin_19 rfl (lv_at hl 4 rfl) ?_
          refine lv_iload_n hx hb dX3_apartWithin_20 rfl (lv_at hl 1 rfl) ?_
          refine lv_iload hx hb dX3_apartWithin_21 (lv_at hl 0 rfl) ?_
          refine z_callSp (As := [.int (zI st), .int (zI i), .int (zI j)]) (rest := []) F hK hz hl (c_X3_areBoth l D cI cJ cZ st i j (by first | assumption | omega) (by omega)) (va_cwS 3 hts gX3_apartWithin_X3_areBoth rfl rfl rfl (by decide +kernel) ⟨Nat.le_of_ble_eq_true rfl, Nat.le_of_ble_eq_true rfl⟩) [] rfl rfl rfl rfl (Nat.le_of_ble_eq_true rfl) ⟨Nat.le_of_ble_eq_true rfl, Nat.le_of_ble_eq_true rfl⟩ dX3_apartWithin_23 ?_
          refine z_ifb_eq (tgt := 39) hx hb dX3_apartWithin_26 (by decide) (fun h26 => ?_) (fun h26 => ?_)
          ·
            refine z_iinc (lv' := [(4, .int (zI (j + 1))), (3, .int (zI i)), (2, .int (zI sv)), (0, .ref o), (1, .int (zI st))]) hx hb dX3_apartWithin_39 hl (k := 0) rfl (Nat.le_of_ble_eq_true rfl) rfl (fun ls hl => ?_)
            refine lv_goto (tgt := 13) hx hb dX3_apartWithin_42 (by decide) ?_
            exact ih13 _ (by omega) (j + 1) sv ls rfl (by omega) (by omega) (by rw [sumZ_s h2.1]; have hp : prS T inc st i j = 0 := if_neg h26; rw [hp]; omega) (lv_sub hl [0, 1, 2, 3, 4] rfl)
          ·
            refine lv_iload_n hx hb dX3_apartWithin_29 rfl (lv_at hl 2 rfl) ?_
            refine lv_aload_n hx hb dX3_apartWithin_30 rfl (lv_at hl 3 rfl) ?_
            refine lv_iload_n hx hb dX3_apartWithin_31 rfl (lv_at hl 1 rfl) ?_
            refine lv_iload hx hb dX3_apartWithin_32 (lv_at hl 0 rfl) ?_
            refine z_callVp (As := [.int (zI i), .int (zI j)]) (rest := [.int (zI sv)]) (C := RX2) (T := TX2) (N := 8) F hK hz hl (c_X2_between l D cI cJ cZ o ai ad am ah ch inc T tm yr i j (by omega) (by first | assumption | omega) (hbi)) (cwV 2 hts gX3_apartWithin_X2_between rfl rfl rfl (by decide +kernel) ⟨Nat.le_of_ble_eq_true rfl, Nat.le_of_ble_eq_true rfl⟩) rfl 0 rfl [0, 1] rfl rfl rfl rfl (Nat.le_of_ble_eq_true rfl) ⟨Nat.le_of_ble_eq_true rfl, Nat.le_of_ble_eq_true rfl⟩ dX3_apartWithin_34 ?_
            have hap := apS_bd (inO T inc i) (inO T inc j)
            refine z_iadd hx hb dX3_apartWithin_37 ?_
            refine lv_istore_n (lv' := [(2, .int (zI (sv + (apS (inO T inc i) (inO T inc j))))), (4, .int (zI j)), (3, .int (zI i)), (0, .ref o), (1, .int (zI st))]) hx hb dX3_apartWithin_38 rfl hl (Nat.le_of_ble_eq_true rfl) rfl (fun ls hl => ?_)
            refine z_iinc (lv' := [(4, .int (zI (j + 1))), (2, .int (zI (sv + (apS (inO T inc i) (inO T inc j))))), (3, .int (zI i)), (0, .ref o), (1, .int (zI st))]) hx hb dX3_apartWithin_39 hl (k := 1) rfl (Nat.le_of_ble_eq_true rfl) rfl (fun ls hl => ?_)
            refine lv_goto (tgt := 13) hx hb dX3_apartWithin_42 (by decide) ?_
            exact ih13 _ (by omega) (j + 1) (sv + (apS (inO T inc i) (inO T inc j))) ls rfl (by omega) (by omega) (by rw [sumZ_s h2.1]; have hp : prS T inc st i j = apS (inO T inc i) (inO T inc j) := if_pos h26; rw [hp]; omega) (lv_sub hl [0, 2, 1, 3, 4] rfl)
      exact L13 _ 0 su ls rfl (by omega) (by omega) (by show su = su + 0; omega) (lv_sub hl [0, 1, 2, 3, 4] rfl)
  exact L4 _ 0 0 ls rfl (by decide) (by decide) (rfl) (lv_sub hl [0, 1, 2, 3] rfl)

set_option maxRecDepth 20000 in
theorem hin_X3_apartInHalves_X2 : ∀ w ∈ u_ws RX2 TX2 8, w ∈ wsX3_apartInHalves := by decide +kernel
set_option maxRecDepth 20000 in
theorem fl_X3_apartInHalves_35 : Cond.fieldLink RX3 35 "HornCity$City" "there" "I" ∈ wsX3_apartInHalves := by decide +kernel
set_option maxHeartbeats 4000000 in
set_option maxRecDepth 100000 in
theorem c_X3_apartInHalves (l : Launch) (D : va_G) (cI cJ cZ : ClassId) (o ai ad am ah ch : Nat) (inc : Int → Int) (T tm yr st : Int) (hT : 0 ≤ T ∧ T < 512) (hbi : zBd inc 9 0 179) (hst : 0 ≤ st ∧ st < 512) : zMp l yX3_apartInHalves wsX3_apartInHalves (zRm 4) D cI cJ cZ [.ref o, .int (zI st)] [(o, .inr (2, [.ref ai, .ref ad, .ref am, .ref ah, .ref ch, .int (zI T), .int (zI tm), .int (zI yr)])), (ai, .inl (cI, 9, .inl (zA inc)))] (some (.int (zI (ahS T inc st)))) := by
  refine zMp_i (cc := cX3_apartInHalves) (maxL := 2) (by decide +kernel) rfl (Nat.le_of_ble_eq_true rfl) rfl ?_
  intro p e s m args below meth c Q H ls F hK hz hl hret
  obtain ⟨hx, hb, hml, hown0, hts⟩ := id F
  have hown : s.vm.findClass RX3 = some m.cls := hown0
  obtain ⟨ws0, hw0⟩ : ∃ w : va_W, w = [(o, .inr (2, [.ref ai, .ref ad, .ref am, .ref ah, .ref ch, .int (zI T), .int (zI tm), .int (zI yr)])), (ai, .inl (cI, 9, .inl (zA inc)))] := ⟨_, rfl⟩
  have hz : zH D (zF ws0) H [(o, .inr (2, [.ref ai, .ref ad, .ref am, .ref ah, .ref ch, .int (zI T), .int (zI tm), .int (zI yr)])), (ai, .inl (cI, 9, .inl (zA inc)))] H [] := by rw [hw0]; exact hz
  have hl : lv_has ls 2 [(0, .ref o), (1, .int (zI st))] := hl
  refine lv_aload_n hx hb dX3_apartInHalves_0 rfl (lv_at hl 0 rfl) ?_
  refine lv_iload_n hx hb dX3_apartInHalves_1 rfl (lv_at hl 1 rfl) ?_
  refine z_callSp (As := [.ref o, .int (zI st)]) (rest := []) F hK hz hl (c_X3_apartWithin l D cI cJ cZ o ai ad am ah ch inc T tm yr st (by first | assumption | omega) (hbi) (by first | assumption | omega)) (va_cwS 2 hts gX3_apartInHalves_X3_apartWithin rfl rfl rfl (by decide +kernel) ⟨Nat.le_of_ble_eq_true rfl, Nat.le_of_ble_eq_true rfl⟩) [0, 1] rfl rfl rfl rfl (Nat.le_of_ble_eq_true rfl) ⟨Nat.le_of_ble_eq_true rfl, Nat.le_of_ble_eq_true rfl⟩ dX3_apartInHalves_2 ?_
  refine lv_aload_n hx hb dX3_apartInHalves_5 rfl (lv_at hl 0 rfl) ?_
  refine lv_aload_n hx hb dX3_apartInHalves_6 rfl (lv_at hl 0 rfl) ?_
  refine z_get (C := RX2) (T := TX2) (N := 8) (ref := "HornCity$City") hx hb hts hin_X3_apartInHalves_X2 hown hK hz 0 rfl rfl 5 (by decide) (hts _ fl_X3_apartInHalves_35) rfl rfl dX3_apartInHalves_7 ?_
  refine lv_iload_n hx hb dX3_apartInHalves_10 rfl (lv_at hl 1 rfl) ?_
  refine z_iconst hx hb dX3_apartInHalves_11 ?_
  refine z_inot hx hb dX3_apartInHalves_12 ?_
  refine z_iandn hx hb dX3_apartInHalves_13 (by omega) (by omega) ?_
  have hz1 := zAndn_bd (b := st) hT
  refine z_callSp (As := [.ref o, .int (zI (zAndn T st))]) (rest := [.int (zI (awS T inc st))]) F hK hz hl (c_X3_apartWithin l D cI cJ cZ o ai ad am ah ch inc T tm yr (zAndn T st) (by first | assumption | omega) (hbi) (by first | assumption | omega)) (va_cwS 2 hts gX3_apartInHalves_X3_apartWithin rfl rfl rfl (by decide +kernel) ⟨Nat.le_of_ble_eq_true rfl, Nat.le_of_ble_eq_true rfl⟩) [0, 1] rfl rfl rfl rfl (Nat.le_of_ble_eq_true rfl) ⟨Nat.le_of_ble_eq_true rfl, Nat.le_of_ble_eq_true rfl⟩ dX3_apartInHalves_14 ?_
  have ha1 := awS_bd T inc st
  have ha2 := awS_bd T inc (zAndn T st)
  refine z_iadd hx hb dX3_apartInHalves_17 ?_
  exact hret dX3_apartInHalves_18 (congrArg (fun z => some (Value.int (zI z))) (show (((awS T inc st) + (awS T inc (zAndn T st))) : Int) = (ahS T inc st) by rfl))

set_option maxRecDepth 20000 in
theorem hin_X3_bestHalf_X2 : ∀ w ∈ u_ws RX2 TX2 8, w ∈ wsX3_bestHalf := by decide +kernel
set_option maxRecDepth 20000 in
theorem fl_X3_bestHalf_35 : Cond.fieldLink RX3 35 "HornCity$City" "there" "I" ∈ wsX3_bestHalf := by decide +kernel
set_option maxHeartbeats 4000000 in
set_option maxRecDepth 100000 in
theorem c_X3_bestHalf (l : Launch) (D : va_G) (cI cJ cZ : ClassId) (o ai ad am ah ch : Nat) (inc : Int → Int) (T tm yr : Int) (hT : 0 ≤ T ∧ T < 512) (hbi : zBd inc 9 0 179) : zMp l yX3_bestHalf wsX3_bestHalf (zRm 5) D cI cJ cZ [.ref o] [(o, .inr (2, [.ref ai, .ref ad, .ref am, .ref ah, .ref ch, .int (zI T), .int (zI tm), .int (zI yr)])), (ai, .inl (cI, 9, .inl (zA inc)))] (some (.int (zI ((bhS T inc 511).1)))) := by
  refine zMp_i (cc := cX3_bestHalf) (maxL := 7) (by decide +kernel) rfl (Nat.le_of_ble_eq_true rfl) rfl ?_
  intro p e s m args below meth c Q H ls F hK hz hl hret
  obtain ⟨hx, hb, hml, hown0, hts⟩ := id F
  have hown : s.vm.findClass RX3 = some m.cls := hown0
  obtain ⟨ws0, hw0⟩ : ∃ w : va_W, w = [(o, .inr (2, [.ref ai, .ref ad, .ref am, .ref ah, .ref ch, .int (zI T), .int (zI tm), .int (zI yr)])), (ai, .inl (cI, 9, .inl (zA inc)))] := ⟨_, rfl⟩
  have hz : zH D (zF ws0) H [(o, .inr (2, [.ref ai, .ref ad, .ref am, .ref ah, .ref ch, .int (zI T), .int (zI tm), .int (zI yr)])), (ai, .inl (cI, 9, .inl (zA inc)))] H [] := by rw [hw0]; exact hz
  have hl : lv_has ls 7 [(0, .ref o)] := hl
  refine lv_aload_n hx hb dX3_bestHalf_0 rfl (lv_at hl 0 rfl) ?_
  refine z_get (C := RX2) (T := TX2) (N := 8) (ref := "HornCity$City") hx hb hts hin_X3_bestHalf_X2 hown hK hz 0 rfl rfl 5 (by decide) (hts _ fl_X3_bestHalf_35) rfl rfl dX3_bestHalf_1 ?_
  refine lv_istore_n (lv' := [(1, .int (zI T)), (0, .ref o)]) hx hb dX3_bestHalf_4 rfl hl (Nat.le_of_ble_eq_true rfl) rfl (fun ls hl => ?_)
  refine lv_iload_n hx hb dX3_bestHalf_5 rfl (lv_at hl 0 rfl) ?_
  refine lv_iload_n hx hb dX3_bestHalf_6 rfl (lv_at hl 0 rfl) ?_
  refine z_ineg hx hb dX3_bestHalf_7 ?_
  refine z_ilow hx hb dX3_bestHalf_8 (by omega) ?_
  have hl1 := zLow_bd hT
  refine lv_istore_n (lv' := [(2, .int (zI (zLow T))), (1, .int (zI T)), (0, .ref o)]) hx hb dX3_bestHalf_9 rfl hl (Nat.le_of_ble_eq_true rfl) rfl (fun ls hl => ?_)
  refine z_iconst hx hb dX3_bestHalf_10 ?_
  refine lv_istore_n (lv' := [(3, .int (zI 0)), (2, .int (zI (zLow T))), (1, .int (zI T)), (0, .ref o)]) hx hb dX3_bestHalf_11 rfl hl (Nat.le_of_ble_eq_true rfl) rfl (fun ls hl => ?_)
  refine z_bipush hx hb dX3_bestHalf_12 (by decide) ?_
  refine lv_istore (lv' := [(4, .int (zI (-6))), (3, .int (zI 0)), (2, .int (zI (zLow T))), (1, .int (zI T)), (0, .ref o)]) hx hb dX3_bestHalf_14 hl (Nat.le_of_ble_eq_true rfl) rfl (fun ls hl => ?_)
  refine z_iconst hx hb dX3_bestHalf_16 ?_
  refine lv_istore (lv' := [(5, .int (zI 1)), (4, .int (zI (-6))), (3, .int (zI 0)), (2, .int (zI (zLow T))), (1, .int (zI T)), (0, .ref o)]) hx hb dX3_bestHalf_17 hl (Nat.le_of_ble_eq_true rfl) rfl (fun ls hl => ?_)
  have L19 : ∀ (n : Nat) (hf le be : Int) (ls : Array Slot), ((512 - hf).toNat = n) → (1 ≤ hf ∧ hf ≤ 512) → (-6 ≤ le ∧ le ≤ 20000) → ((be, le) = bhS T inc (hf - 1).toNat) → lv_has ls 7 [(5, .int (zI hf)), (4, .int (zI le)), (3, .int (zI be)), (2, .int (zI (zLow T))), (1, .int (zI T)), (0, .ref o)] → W p l e (zRm 5) s m args below meth c H [] 0 0 Q (F0 m 19 ls []) := by
    intro n
    refine Nat.strongRecOn n ?_
    intro n ih19 hf le be ls hn19 h0 hs0 hs hl
    refine lv_iload hx hb dX3_bestHalf_19 (lv_at hl 0 rfl) ?_
    refine z_sipush hx hb dX3_bestHalf_21 (by decide) ?_
    refine z_icmp_ge (tgt := 90) hx hb dX3_bestHalf_24 (by decide) (by omega) (by decide) (fun h24 => ?_) (fun h24 => ?_)
    ·
      refine lv_iload_n hx hb dX3_bestHalf_90 rfl (lv_at hl 2 rfl) ?_
      exact hret dX3_bestHalf_91 (congrArg (fun z => some (Value.int (zI z))) (show (be : Int) = (bhS T inc 511).1 by have e : hf = 512 := (by omega); subst e; exact congrArg Prod.fst hs))
    ·
      refine lv_iload hx hb dX3_bestHalf_27 (lv_at hl 0 rfl) ?_
      refine lv_iload_n hx hb dX3_bestHalf_29 rfl (lv_at hl 4 rfl) ?_
      refine z_iconst hx hb dX3_bestHalf_30 ?_
      refine z_inot hx hb dX3_bestHalf_31 ?_
      refine z_iandn hx hb dX3_bestHalf_32 (by omega) (by omega) ?_
      have hz1 := zAndn_bd (b := T) (show 0 ≤ hf ∧ hf < 512 by omega)
      refine z_if_ne (tgt := 84) hx hb dX3_bestHalf_33 (by decide) (by omega) (fun h33 => ?_) (fun h33 => ?_)
      ·
        refine z_iinc (lv' := [(5, .int (zI (hf + 1))), (4, .int (zI le)), (3, .int (zI be)), (2, .int (zI (zLow T))), (1, .int (zI T)), (0, .ref o)]) hx hb dX3_bestHalf_84 hl (k := 0) rfl (Nat.le_of_ble_eq_true rfl) rfl (fun ls hl => ?_)
        refine lv_goto (tgt := 19) hx hb dX3_bestHalf_87 (by decide) ?_
        exact ih19 _ (by omega) (hf + 1) le be ls rfl (by omega) (by omega) (by rw [← bhS_s h0.1 hs]; rw [if_neg (fun q => absurd q.1 (by unfold hfS; rw [decide_eq_false (show ¬ zAndn hf T = 0 by omega)]; simp))]) (lv_sub hl [0, 1, 2, 3, 4, 5] rfl)
      ·
        refine lv_iload hx hb dX3_bestHalf_36 (lv_at hl 0 rfl) ?_
        refine lv_iload_n hx hb dX3_bestHalf_38 rfl (lv_at hl 3 rfl) ?_
        refine z_iand hx hb dX3_bestHalf_39 (by omega) (by omega) ?_
        have hz2 := zAnd_bd (b := zLow T) (show 0 ≤ hf ∧ hf < 512 by omega)
        refine z_if_eq (tgt := 84) hx hb dX3_bestHalf_40 (by decide) (by omega) (fun h40 => ?_) (fun h40 => ?_)
        ·
          refine z_iinc (lv' := [(5, .int (zI (hf + 1))), (4, .int (zI le)), (3, .int (zI be)), (2, .int (zI (zLow T))), (1, .int (zI T)), (0, .ref o)]) hx hb dX3_bestHalf_84 hl (k := 0) rfl (Nat.le_of_ble_eq_true rfl) rfl (fun ls hl => ?_)
          refine lv_goto (tgt := 19) hx hb dX3_bestHalf_87 (by decide) ?_
          exact ih19 _ (by omega) (hf + 1) le be ls rfl (by omega) (by omega) (by rw [← bhS_s h0.1 hs]; rw [if_neg (fun q => absurd q.1 (by unfold hfS; rw [decide_eq_false (show ¬ ¬ zAnd hf (zLow T) = 0 by omega)]; simp))]) (lv_sub hl [0, 1, 2, 3, 4, 5] rfl)
        ·
          refine lv_iload hx hb dX3_bestHalf_43 (lv_at hl 0 rfl) ?_
          refine lv_iload_n hx hb dX3_bestHalf_45 rfl (lv_at hl 4 rfl) ?_
          refine z_callSp (As := [.int (zI hf), .int (zI T)]) (rest := []) F hK hz hl (c_X3_isHalf l D cI cJ cZ hf T (by omega)) (va_cwS 2 hts gX3_bestHalf_X3_isHalf rfl rfl rfl (by decide +kernel) ⟨Nat.le_of_ble_eq_true rfl, Nat.le_of_ble_eq_true rfl⟩) [] rfl rfl rfl rfl (Nat.le_of_ble_eq_true rfl) ⟨Nat.le_of_ble_eq_true rfl, Nat.le_of_ble_eq_true rfl⟩ dX3_bestHalf_46 ?_
          refine z_ifb_ne (tgt := 55) hx hb dX3_bestHalf_49 (by decide) (fun h49 => ?_) (fun h49 => ?_)
          ·
            refine lv_aload_n hx hb dX3_bestHalf_55 rfl (lv_at hl 5 rfl) ?_
            refine lv_iload hx hb dX3_bestHalf_56 (lv_at hl 0 rfl) ?_
            refine z_callSp (As := [.ref o, .int (zI hf)]) (rest := []) F hK hz hl (c_X3_apartInHalves l D cI cJ cZ o ai ad am ah ch inc T tm yr hf (by first | assumption | omega) (hbi) (by first | assumption | omega)) (va_cwS 2 hts gX3_bestHalf_X3_apartInHalves rfl rfl rfl (by decide +kernel) ⟨Nat.le_of_ble_eq_true rfl, Nat.le_of_ble_eq_true rfl⟩) [0, 1] rfl rfl rfl rfl (Nat.le_of_ble_eq_true rfl) ⟨Nat.le_of_ble_eq_true rfl, Nat.le_of_ble_eq_true rfl⟩ dX3_bestHalf_58 ?_
            have ha1 := awS_bd T inc hf
            have ha2 := awS_bd T inc (zAndn T hf)
            have ha3 : ahS T inc hf = awS T inc hf + awS T inc (zAndn T hf) := rfl
            refine lv_istore (lv' := [(6, .int (zI (ahS T inc hf))), (5, .int (zI hf)), (4, .int (zI le)), (3, .int (zI be)), (2, .int (zI (zLow T))), (1, .int (zI T)), (0, .ref o)]) hx hb dX3_bestHalf_61 hl (Nat.le_of_ble_eq_true rfl) rfl (fun ls hl => ?_)
            refine lv_iload hx hb dX3_bestHalf_63 (lv_at hl 2 rfl) ?_
            refine z_bipush hx hb dX3_bestHalf_65 (by decide) ?_
            refine z_icmp_eq (tgt := 77) hx hb dX3_bestHalf_67 (by decide) (by omega) (by decide) (fun h67 => ?_) (fun h67 => ?_)
            ·
              refine lv_iload hx hb dX3_bestHalf_77 (lv_at hl 0 rfl) ?_
              refine lv_istore (lv' := [(4, .int (zI (ahS T inc hf))), (6, .int (zI (ahS T inc hf))), (5, .int (zI hf)), (3, .int (zI be)), (2, .int (zI (zLow T))), (1, .int (zI T)), (0, .ref o)]) hx hb dX3_bestHalf_79 hl (Nat.le_of_ble_eq_true rfl) rfl (fun ls hl => ?_)
              refine lv_iload hx hb dX3_bestHalf_81 (lv_at hl 2 rfl) ?_
              refine lv_istore_n (lv' := [(3, .int (zI hf)), (4, .int (zI (ahS T inc hf))), (6, .int (zI (ahS T inc hf))), (5, .int (zI hf)), (2, .int (zI (zLow T))), (1, .int (zI T)), (0, .ref o)]) hx hb dX3_bestHalf_83 rfl hl (Nat.le_of_ble_eq_true rfl) rfl (fun ls hl => ?_)
              refine z_iinc (lv' := [(5, .int (zI (hf + 1))), (3, .int (zI hf)), (4, .int (zI (ahS T inc hf))), (6, .int (zI (ahS T inc hf))), (2, .int (zI (zLow T))), (1, .int (zI T)), (0, .ref o)]) hx hb dX3_bestHalf_84 hl (k := 3) rfl (Nat.le_of_ble_eq_true rfl) rfl (fun ls hl => ?_)
              refine lv_goto (tgt := 19) hx hb dX3_bestHalf_87 (by decide) ?_
              exact ih19 _ (by omega) (hf + 1) (ahS T inc hf) hf ls rfl (by omega) (by omega) (by rw [← bhS_s h0.1 hs]; rw [if_pos ⟨by unfold hfS; rw [decide_eq_true (by omega), decide_eq_true h40, decide_eq_true h49]; rfl, by omega⟩]) (lv_sub hl [0, 2, 1, 4, 5, 6] rfl)
            ·
              refine lv_iload hx hb dX3_bestHalf_70 (lv_at hl 0 rfl) ?_
              refine lv_iload hx hb dX3_bestHalf_72 (lv_at hl 2 rfl) ?_
              refine z_icmp_ge (tgt := 84) hx hb dX3_bestHalf_74 (by decide) (by omega) (by omega) (fun h74 => ?_) (fun h74 => ?_)
              ·
                refine z_iinc (lv' := [(5, .int (zI (hf + 1))), (6, .int (zI (ahS T inc hf))), (4, .int (zI le)), (3, .int (zI be)), (2, .int (zI (zLow T))), (1, .int (zI T)), (0, .ref o)]) hx hb dX3_bestHalf_84 hl (k := 1) rfl (Nat.le_of_ble_eq_true rfl) rfl (fun ls hl => ?_)
                refine lv_goto (tgt := 19) hx hb dX3_bestHalf_87 (by decide) ?_
                exact ih19 _ (by omega) (hf + 1) le be ls rfl (by omega) (by omega) (by rw [← bhS_s h0.1 hs]; rw [if_neg (fun q => by omega)]) (lv_sub hl [0, 2, 3, 4, 5, 6] rfl)
              ·
                refine lv_iload hx hb dX3_bestHalf_77 (lv_at hl 0 rfl) ?_
                refine lv_istore (lv' := [(4, .int (zI (ahS T inc hf))), (6, .int (zI (ahS T inc hf))), (5, .int (zI hf)), (3, .int (zI be)), (2, .int (zI (zLow T))), (1, .int (zI T)), (0, .ref o)]) hx hb dX3_bestHalf_79 hl (Nat.le_of_ble_eq_true rfl) rfl (fun ls hl => ?_)
                refine lv_iload hx hb dX3_bestHalf_81 (lv_at hl 2 rfl) ?_
                refine lv_istore_n (lv' := [(3, .int (zI hf)), (4, .int (zI (ahS T inc hf))), (6, .int (zI (ahS T inc hf))), (5, .int (zI hf)), (2, .int (zI (zLow T))), (1, .int (zI T)), (0, .ref o)]) hx hb dX3_bestHalf_83 rfl hl (Nat.le_of_ble_eq_true rfl) rfl (fun ls hl => ?_)
                refine z_iinc (lv' := [(5, .int (zI (hf + 1))), (3, .int (zI hf)), (4, .int (zI (ahS T inc hf))), (6, .int (zI (ahS T inc hf))), (2, .int (zI (zLow T))), (1, .int (zI T)), (0, .ref o)]) hx hb dX3_bestHalf_84 hl (k := 3) rfl (Nat.le_of_ble_eq_true rfl) rfl (fun ls hl => ?_)
                refine lv_goto (tgt := 19) hx hb dX3_bestHalf_87 (by decide) ?_
                exact ih19 _ (by omega) (hf + 1) (ahS T inc hf) hf ls rfl (by omega) (by omega) (by rw [← bhS_s h0.1 hs]; rw [if_pos ⟨by unfold hfS; rw [decide_eq_true (by omega), decide_eq_true h40, decide_eq_true h49]; rfl, by omega⟩]) (lv_sub hl [0, 2, 1, 4, 5, 6] rfl)
          ·
            refine lv_goto (tgt := 84) hx hb dX3_bestHalf_52 (by decide) ?_
            refine z_iinc (lv' := [(5, .int (zI (hf + 1))), (4, .int (zI le)), (3, .int (zI be)), (2, .int (zI (zLow T))), (1, .int (zI T)), (0, .ref o)]) hx hb dX3_bestHalf_84 hl (k := 0) rfl (Nat.le_of_ble_eq_true rfl) rfl (fun ls hl => ?_)
            refine lv_goto (tgt := 19) hx hb dX3_bestHalf_87 (by decide) ?_
            exact ih19 _ (by omega) (hf + 1) le be ls rfl (by omega) (by omega) (by rw [← bhS_s h0.1 hs]; rw [if_neg (fun q => absurd q.1 (by unfold hfS; rw [decide_eq_false (show ¬ (-1 ≤ 2 * cnt9 hf - cnt9 T ∧ 2 * cnt9 hf - cnt9 T ≤ 1) from h49)]; simp))]) (lv_sub hl [0, 1, 2, 3, 4, 5] rfl)
  exact L19 _ 1 (-6) 0 ls rfl (by decide) (by omega) (rfl) (lv_sub hl [0, 1, 2, 3, 4, 5] rfl)

set_option maxHeartbeats 4000000 in
set_option maxRecDepth 100000 in
theorem c_X3_yearsToMeet (l : Launch) (D : va_G) (cI cJ cZ : ClassId) (o ai ad am ah ch : Nat) (inc dri : Int → Int) (T tm yr one other : Int) (hT : 0 ≤ T ∧ T < 512) (hbi : zBd inc 9 0 179) (hbd : zBd dri 9 (-9) 9) (hr : (-2147483648 ≤ one ∧ one ≤ 2147483647) ∧ (-2147483648 ≤ other ∧ other ≤ 2147483647)) : zMp l yX3_yearsToMeet wsX3_yearsToMeet (zRm 2) D cI cJ cZ [.ref o, .int (zI one), .int (zI other)] [(o, .inr (2, [.ref ai, .ref ad, .ref am, .ref ah, .ref ch, .int (zI T), .int (zI tm), .int (zI yr)])), (ai, .inl (cI, 9, .inl (zA inc))), (ad, .inl (cI, 9, .inl (zA dri)))] (some (.int (zI (lstS (fun n => decide ((inO T inc one - inO T inc other + (inO T dri one - inO T dri other) * n) % 180 = 0)) 360 0)))) := by
  refine zMp_i (cc := cX3_yearsToMeet) (maxL := 6) (by decide +kernel) rfl (Nat.le_of_ble_eq_true rfl) rfl ?_
  intro p e s m args below meth c Q H ls F hK hz hl hret
  obtain ⟨hx, hb, hml, hown0, hts⟩ := id F
  have hown : s.vm.findClass RX3 = some m.cls := hown0
  obtain ⟨ws0, hw0⟩ : ∃ w : va_W, w = [(o, .inr (2, [.ref ai, .ref ad, .ref am, .ref ah, .ref ch, .int (zI T), .int (zI tm), .int (zI yr)])), (ai, .inl (cI, 9, .inl (zA inc))), (ad, .inl (cI, 9, .inl (zA dri)))] := ⟨_, rfl⟩
  have hz : zH D (zF ws0) H [(o, .inr (2, [.ref ai, .ref ad, .ref am, .ref ah, .ref ch, .int (zI T), .int (zI tm), .int (zI yr)])), (ai, .inl (cI, 9, .inl (zA inc))), (ad, .inl (cI, 9, .inl (zA dri)))] H [] := by rw [hw0]; exact hz
  have hl : lv_has ls 6 [(0, .ref o), (1, .int (zI one)), (2, .int (zI other))] := hl
  refine lv_aload_n hx hb dX3_yearsToMeet_0 rfl (lv_at hl 0 rfl) ?_
  refine lv_iload_n hx hb dX3_yearsToMeet_1 rfl (lv_at hl 1 rfl) ?_
  refine z_callVp (As := [.int (zI one)]) (rest := []) (C := RX2) (T := TX2) (N := 8) F hK hz hl (c_X2_inclineOf l D cI cJ cZ o ai ad am ah ch inc T tm yr one (by omega) (by first | assumption | omega)) (cwV 1 hts gX3_yearsToMeet_X2_inclineOf rfl rfl rfl (by decide +kernel) ⟨Nat.le_of_ble_eq_true rfl, Nat.le_of_ble_eq_true rfl⟩) rfl 0 rfl [0, 1] rfl rfl rfl rfl (Nat.le_of_ble_eq_true rfl) ⟨Nat.le_of_ble_eq_true rfl, Nat.le_of_ble_eq_true rfl⟩ dX3_yearsToMeet_2 ?_
  refine lv_aload_n hx hb dX3_yearsToMeet_5 rfl (lv_at hl 0 rfl) ?_
  refine lv_iload_n hx hb dX3_yearsToMeet_6 rfl (lv_at hl 2 rfl) ?_
  refine z_callVp (As := [.int (zI other)]) (rest := [.int (zI (inO T inc one))]) (C := RX2) (T := TX2) (N := 8) F hK hz hl (c_X2_inclineOf l D cI cJ cZ o ai ad am ah ch inc T tm yr other (by omega) (by first | assumption | omega)) (cwV 1 hts gX3_yearsToMeet_X2_inclineOf rfl rfl rfl (by decide +kernel) ⟨Nat.le_of_ble_eq_true rfl, Nat.le_of_ble_eq_true rfl⟩) rfl 0 rfl [0, 1] rfl rfl rfl rfl (Nat.le_of_ble_eq_true rfl) ⟨Nat.le_of_ble_eq_true rfl, Nat.le_of_ble_eq_true rfl⟩ dX3_yearsToMeet_7 ?_
  refine z_isub hx hb dX3_yearsToMeet_10 ?_
  refine lv_istore_n (lv' := [(3, .int (zI ((inO T inc one) - (inO T inc other)))), (0, .ref o), (1, .int (zI one)), (2, .int (zI other))]) hx hb dX3_yearsToMeet_11 rfl hl (Nat.le_of_ble_eq_true rfl) rfl (fun ls hl => ?_)
  refine lv_aload_n hx hb dX3_yearsToMeet_12 rfl (lv_at hl 1 rfl) ?_
  refine lv_iload_n hx hb dX3_yearsToMeet_13 rfl (lv_at hl 2 rfl) ?_
  refine z_callVp (As := [.int (zI one)]) (rest := []) (C := RX2) (T := TX2) (N := 8) F hK hz hl (c_X2_driftOf l D cI cJ cZ o ai ad am ah ch dri T tm yr one (by omega) (by first | assumption | omega)) (cwV 1 hts gX3_yearsToMeet_X2_driftOf rfl rfl rfl (by decide +kernel) ⟨Nat.le_of_ble_eq_true rfl, Nat.le_of_ble_eq_true rfl⟩) rfl 0 rfl [0, 2] rfl rfl rfl rfl (Nat.le_of_ble_eq_true rfl) ⟨Nat.le_of_ble_eq_true rfl, Nat.le_of_ble_eq_true rfl⟩ dX3_yearsToMeet_14 ?_
  refine lv_aload_n hx hb dX3_yearsToMeet_17 rfl (lv_at hl 1 rfl) ?_
  refine lv_iload_n hx hb dX3_yearsToMeet_18 rfl (lv_at hl 3 rfl) ?_
  refine z_callVp (As := [.int (zI other)]) (rest := [.int (zI (inO T dri one))]) (C := RX2) (T := TX2) (N := 8) F hK hz hl (c_X2_driftOf l D cI cJ cZ o ai ad am ah ch dri T tm yr other (by omega) (by first | assumption | omega)) (cwV 1 hts gX3_yearsToMeet_X2_driftOf rfl rfl rfl (by decide +kernel) ⟨Nat.le_of_ble_eq_true rfl, Nat.le_of_ble_eq_true rfl⟩) rfl 0 rfl [0, 2] rfl rfl rfl rfl (Nat.le_of_ble_eq_true rfl) ⟨Nat.le_of_ble_eq_true rfl, Nat.le_of_ble_eq_true rfl⟩ dX3_yearsToMeet_19 ?_
  refine z_isub hx hb dX3_yearsToMeet_22 ?_
  refine lv_istore (lv' := [(4, .int (zI ((inO T dri one) - (inO T dri other)))), (3, .int (zI ((inO T inc one) - (inO T inc other)))), (0, .ref o), (1, .int (zI one)), (2, .int (zI other))]) hx hb dX3_yearsToMeet_23 hl (Nat.le_of_ble_eq_true rfl) rfl (fun ls hl => ?_)
  refine z_iconst hx hb dX3_yearsToMeet_25 ?_
  refine lv_istore (lv' := [(5, .int (zI 0)), (4, .int (zI ((inO T dri one) - (inO T dri other)))), (3, .int (zI ((inO T inc one) - (inO T inc other)))), (0, .ref o), (1, .int (zI one)), (2, .int (zI other))]) hx hb dX3_yearsToMeet_26 hl (Nat.le_of_ble_eq_true rfl) rfl (fun ls hl => ?_)
  have L28 : ∀ (n : Nat) (yn : Int) (ls : Array Slot), ((360 - yn).toNat = n) → (0 ≤ yn ∧ yn ≤ 360) → (lstS (fun n => decide ((inO T inc one - inO T inc other + (inO T dri one - inO T dri other) * n) % 180 = 0)) 360 0 = lstS (fun n => decide ((inO T inc one - inO T inc other + (inO T dri one - inO T dri other) * n) % 180 = 0)) (360 - yn).toNat yn) → lv_has ls 6 [(5, .int (zI yn)), (4, .int (zI ((inO T dri one) - (inO T dri other)))), (3, .int (zI ((inO T inc one) - (inO T inc other)))), (0, .ref o), (1, .int (zI one)), (2, .int (zI other))] → W p l e (zRm 2) s m args below meth c H [] 0 0 Q (F0 m 28 ls []) := by
    intro n
    refine Nat.strongRecOn n ?_
    intro n ih28 yn ls hn28 h0 hc hl
    have hi1 := inO_bd (T := T) hbi (by decide) one
    have hi2 := inO_bd (T := T) hbi (by decide) other
    have hd1 := inO_bd (T := T) hbd (by decide) one
    have hd2 := inO_bd (T := T) hbd (by decide) other
    refine lv_iload hx hb dX3_yearsToMeet_28 (lv_at hl 0 rfl) ?_
    refine z_sipush hx hb dX3_yearsToMeet_30 (by decide) ?_
    refine z_icmp_ge (tgt := 58) hx hb dX3_yearsToMeet_33 (by decide) (by omega) (by decide) (fun h33 => ?_) (fun h33 => ?_)
    ·
      refine z_bipush hx hb dX3_yearsToMeet_58 (by decide) ?_
      exact hret dX3_yearsToMeet_60 (congrArg (fun z => some (Value.int (zI z))) (show ((-6) : Int) = (lstS (fun n => decide ((inO T inc one - inO T inc other + (inO T dri one - inO T dri other) * n) % 180 = 0)) 360 0) by have e : yn = 360 := (by omega); subst e; exact hc.symm))
    ·
      refine lv_iload_n hx hb dX3_yearsToMeet_36 rfl (lv_at hl 2 rfl) ?_
      refine lv_iload hx hb dX3_yearsToMeet_37 (lv_at hl 1 rfl) ?_
      refine lv_iload hx hb dX3_yearsToMeet_39 (lv_at hl 0 rfl) ?_
      refine z_imul hx hb dX3_yearsToMeet_41 ?_
      have hm1 := mulD (d := inO T dri one - inO T dri other) (n := yn) (by omega) (by omega)
      refine z_iadd hx hb dX3_yearsToMeet_42 ?_
      refine z_callSp (As := [.int (zI (((inO T inc one) - (inO T inc other)) + (((inO T dri one) - (inO T dri other)) * yn)))]) (rest := []) F hK hz hl (c_X5_leftOver l D cI cJ cZ (((inO T inc one) - (inO T inc other)) + (((inO T dri one) - (inO T dri other)) * yn)) (by omega)) (va_cwS 1 hts gX3_yearsToMeet_X5_leftOver rfl rfl rfl (by decide +kernel) ⟨Nat.le_of_ble_eq_true rfl, Nat.le_of_ble_eq_true rfl⟩) [] rfl rfl rfl rfl (Nat.le_of_ble_eq_true rfl) ⟨Nat.le_of_ble_eq_true rfl, Nat.le_of_ble_eq_true rfl⟩ dX3_yearsToMeet_43 ?_
      refine z_if_ne (tgt := 52) hx hb dX3_yearsToMeet_46 (by decide) (by omega) (fun h46 => ?_) (fun h46 => ?_)
      ·
        refine z_iinc (lv' := [(5, .int (zI (yn + 1))), (4, .int (zI ((inO T dri one) - (inO T dri other)))), (3, .int (zI ((inO T inc one) - (inO T inc other)))), (0, .ref o), (1, .int (zI one)), (2, .int (zI other))]) hx hb dX3_yearsToMeet_52 hl (k := 0) rfl (Nat.le_of_ble_eq_true rfl) rfl (fun ls hl => ?_)
        refine lv_goto (tgt := 28) hx hb dX3_yearsToMeet_55 (by decide) ?_
        exact ih28 _ (by omega) (yn + 1) ls rfl (by omega) (by rw [hc, lstS_at (by omega), if_neg (by rw [decide_eq_false h46]; decide)]) (lv_sub hl [0, 1, 2, 3, 4, 5] rfl)
      ·
        refine lv_iload hx hb dX3_yearsToMeet_49 (lv_at hl 0 rfl) ?_
        exact hret dX3_yearsToMeet_51 (congrArg (fun z => some (Value.int (zI z))) (show (yn : Int) = (lstS (fun n => decide ((inO T inc one - inO T inc other + (inO T dri one - inO T dri other) * n) % 180 = 0)) 360 0) by rw [hc, lstS_at (by omega), if_pos (decide_eq_true h46)]))
  exact L28 _ 0 ls rfl (by decide) (rfl) (lv_sub hl [0, 1, 2, 3, 4, 5] rfl)
