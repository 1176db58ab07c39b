section Z4
variable {p : Program} {l : Launch} {e : Env} {R : Room} {s : State} {m : MethodId} {args : Array Value} {below : List Frame} {meth : Method} {c : Code} {H : Heap} {locs : List Loc} {cells slots : Nat} {Q : State → Prop}
variable {cc : ByteArray} {pc : Nat} {ls : Array Slot} {rest : List Value}
theorem zI_not (a : Int) : zI a ^^^ zI (-1) = zI (-1 - a) := by
  apply Int32.toBitVec_inj.mp
  rw [Int32.toBitVec_xor]
  show BitVec.ofInt 32 a ^^^ BitVec.ofInt 32 (-1) = BitVec.ofInt 32 (-1 - a)
  have h1 : BitVec.ofInt 32 (-1) = BitVec.allOnes 32 := by decide
  rw [h1, BitVec.xor_allOnes]
  apply BitVec.eq_of_toInt_eq
  have h2 : ~~~(BitVec.ofInt 32 a) = BitVec.ofInt 32 (-1 - a) := by
    apply BitVec.eq_of_toNat_eq
    rw [BitVec.toNat_not, BitVec.toNat_ofInt, BitVec.toNat_ofInt]
    omega
  rw [h2]
theorem z_inot (hx : p.tables.exec = Jvm.exec) (hb : c.code = cc) {a : Int} (hdg : decode cc pc = .ok (.ixor, 1)) (k : W p l e R s m args below meth c H locs cells slots Q (F0 m (pc + 1) ls (.int (zI (-1 - a)) :: rest))) : W p l e R s m args below meth c H locs cells slots Q (F0 m pc ls (.int (zI (-1)) :: .int (zI a) :: rest)) := lv_ixor hx hb hdg (by rw [zI_not]; exact k)
def zAndn (a b : Int) : Int := ((a.toNat &&& (511 - b.toNat) : Nat) : Int)
theorem zI_andn {a b : Int} (ha : 0 ≤ a ∧ a < 512) (hb : 0 ≤ b ∧ b < 512) : zI a &&& zI (-1 - b) = zI (zAndn a b) := by
  apply Int32.toBitVec_inj.mp
  apply BitVec.eq_of_toNat_eq
  have hand : a.toNat &&& (511 - b.toNat) ≤ a.toNat := Nat.and_le_left
  rw [Int32.toBitVec_and, BitVec.toNat_and, zI_tn (a := a) (by omega), zI_tn (a := zAndn a b) (by unfold zAndn; omega)]
  have e1 : (zI (-1 - b)).toBitVec.toNat = 2 ^ 32 - (b.toNat + 1) := by rw [zI_bv, BitVec.toNat_ofInt]; omega
  rw [e1]
  unfold zAndn
  rw [Int.toNat_natCast]
  have e2 : 511 - b.toNat = 2 ^ 9 - (b.toNat + 1) := by omega
  rw [e2]
  apply Nat.eq_of_testBit_eq
  intro i
  rw [Nat.testBit_and, Nat.testBit_and, Nat.testBit_two_pow_sub_succ (by omega), Nat.testBit_two_pow_sub_succ (by omega)]
  by_cases hi : i < 9
  · have h32 : i < 32 := by omega
    simp [hi, h32]
  · have ha9 : a.toNat.testBit i = false := Nat.testBit_lt_two_pow (Nat.lt_of_lt_of_le (show a.toNat < 2 ^ 9 by omega) (Nat.pow_le_pow_right (by decide) (by omega)))
    simp [ha9]
theorem z_iandn (hx : p.tables.exec = Jvm.exec) (hb : c.code = cc) {a b : Int} (hdg : decode cc pc = .ok (.iand, 1)) (ha : 0 ≤ a ∧ a < 512) (h0 : 0 ≤ b ∧ b < 512) (k : W p l e R s m args below meth c H locs cells slots Q (F0 m (pc + 1) ls (.int (zI (zAndn a b)) :: rest))) : W p l e R s m args below meth c H locs cells slots Q (F0 m pc ls (.int (zI (-1 - b)) :: .int (zI a) :: rest)) := lv_iand hx hb hdg (by rw [zI_andn ha h0]; exact k)
def zLow (a : Int) : Int := ((a.toNat &&& (512 - a.toNat) : Nat) : Int)
theorem zI_low9 : ∀ n : Fin 512, zI (n.val : Int) &&& zI (-(n.val : Int)) = zI (zLow (n.val : Int)) := by decide +kernel
theorem zI_low {a : Int} (ha : 0 ≤ a ∧ a < 512) : zI a &&& zI (-a) = zI (zLow a) := by
  have e : ((a.toNat : Nat) : Int) = a := Int.toNat_of_nonneg ha.1
  have := zI_low9 ⟨a.toNat, by omega⟩
  simpa only [e] using this
theorem z_ilow (hx : p.tables.exec = Jvm.exec) (hb : c.code = cc) {a : Int} (hdg : decode cc pc = .ok (.iand, 1)) (ha : 0 ≤ a ∧ a < 512) (k : W p l e R s m args below meth c H locs cells slots Q (F0 m (pc + 1) ls (.int (zI (zLow a)) :: rest))) : W p l e R s m args below meth c H locs cells slots Q (F0 m pc ls (.int (zI (-a)) :: .int (zI a) :: rest)) := lv_iand hx hb hdg (by rw [zI_low ha]; exact k)
end Z4
theorem zAndn_bd {a b : Int} (ha : 0 ≤ a ∧ a < 512) : 0 ≤ zAndn a b ∧ zAndn a b < 512 := by
  have hand : a.toNat &&& (511 - b.toNat) ≤ a.toNat := Nat.and_le_left
  unfold zAndn; omega
theorem zAnd_bd {a b : Int} (ha : 0 ≤ a ∧ a < 512) : 0 ≤ zAnd a b ∧ zAnd a b < 512 := by
  have hand : a.toNat &&& b.toNat ≤ a.toNat := Nat.and_le_left
  unfold zAnd; omega
theorem zLow_bd {a : Int} (ha : 0 ≤ a ∧ a < 512) : 0 ≤ zLow a ∧ zLow a < 512 := by
  have hand : a.toNat &&& (512 - a.toNat) ≤ a.toNat := Nat.and_le_left
  unfold zLow; omega
theorem cnt9_bd (T : Int) : 0 ≤ cnt9 T ∧ cnt9 T ≤ 9 := by
  have := sumZ_bd (f := fun k => if inS T k = true then 1 else 0) (lo := 0) (hi := 1) (fun j => by split <;> decide) 9
  unfold cnt9; omega

abbrev zR : Type := (Int → Int) × (Int → Int) × Int × Int × (Int → Int) × Int × Int × Int × Int
def cvS (T : Int) (inc : Int → Int) (tm k : Int) (fw : Prop) [Decidable fw] : Int := if fw then (180 - (inO T inc k + tm) % 180) % 180 else (inO T inc k + tm) % 180
def stpS (T : Int) (dri : Int → Int) (kind one w : Int) : zR → zR
  | (inc, mat, tm, yr, kd, wa, wo, ac, _) =>
    let ch := kind = 58 ∨ kind = 63
    let v := cvS T inc tm one (kind = 63)
    let bad := ch ∧ ¬ v = inO T inc one ∧ wa = -6
    (actI T dri mat inc kind one w, actM T mat kind one w, actH tm yr kind, actY yr kind, (if ch then zU kd one v else kd), (if bad then ac else wa), (if bad then one else wo), ac + 1, 0)
def runS (T : Int) (dri : Int → Int) (ln : Int) (sgn : Int → Int) : Nat → Int → zR → zR
  | 0, _, q => q
  | n + 1, p, q => if p < ln then
      (if whyS T q.2.1 q.2.2.2.1 (kndS ln sgn p) (sigS ln sgn p - 65) (wthS ln sgn p) = 0 then runS T dri ln sgn n (p + lenS ln sgn p) (stpS T dri (kndS ln sgn p) (sigS ln sgn p - 65) (wthS ln sgn p) q)
       else (q.1, q.2.1, q.2.2.1, q.2.2.2.1, q.2.2.2.2.1, q.2.2.2.2.2.1, q.2.2.2.2.2.2.1, q.2.2.2.2.2.2.2.1, whyS T q.2.1 q.2.2.2.1 (kndS ln sgn p) (sigS ln sgn p - 65) (wthS ln sgn p)))
    else q
theorem runS_end {T : Int} {dri : Int → Int} {ln : Int} {sgn : Int → Int} {n : Nat} {p : Int} {q : zR} (h : ¬ p < ln) : runS T dri ln sgn n p q = q := by
  cases n with
  | zero => rfl
  | succ n => exact if_neg h
theorem runS_go {T : Int} {dri : Int → Int} {ln : Int} {sgn : Int → Int} {a p : Int} {inc mat kd : Int → Int} {tm yr wa wo ac wh : Int} (h : 0 ≤ a ∧ a < 60) (hp : p < ln) (hw : whyS T mat yr (kndS ln sgn p) (sigS ln sgn p - 65) (wthS ln sgn p) = 0) : runS T dri ln sgn (60 - a).toNat p (inc, mat, tm, yr, kd, wa, wo, ac, wh) = runS T dri ln sgn (60 - (a + 1)).toNat (p + lenS ln sgn p) (stpS T dri (kndS ln sgn p) (sigS ln sgn p - 65) (wthS ln sgn p) (inc, mat, tm, yr, kd, wa, wo, ac, wh)) := by
  have e : (60 - a).toNat = (60 - (a + 1)).toNat + 1 := by omega
  rw [e]
  show (if p < ln then _ else _) = _
  rw [if_pos hp]
  exact if_pos hw
theorem runS_no {T : Int} {dri : Int → Int} {ln : Int} {sgn : Int → Int} {a p : Int} {inc mat kd : Int → Int} {tm yr wa wo ac wh : Int} (h : 0 ≤ a ∧ a < 60) (hp : p < ln) (hw : ¬ whyS T mat yr (kndS ln sgn p) (sigS ln sgn p - 65) (wthS ln sgn p) = 0) : runS T dri ln sgn (60 - a).toNat p (inc, mat, tm, yr, kd, wa, wo, ac, wh) = (inc, mat, tm, yr, kd, wa, wo, ac, whyS T mat yr (kndS ln sgn p) (sigS ln sgn p - 65) (wthS ln sgn p)) := by
  have e : (60 - a).toNat = (60 - (a + 1)).toNat + 1 := by omega
  rw [e]
  show (if p < ln then _ else _) = _
  rw [if_pos hp]
  exact if_neg hw
theorem wthS_bd {ln : Int} {sgn : Int → Int} (hl : 0 ≤ ln ∧ ln ≤ 60) (h : zBd sgn 60 0 126) (p : Int) : -65 ≤ wthS ln sgn p ∧ wthS ln sgn p ≤ 78 := by
  have := sigS_bd hl h (p + 2)
  unfold wthS; split <;> omega
theorem whyS_bd (T : Int) (mat : Int → Int) (yr k o w : Int) : 0 ≤ whyS T mat yr k o w ∧ whyS T mat yr k o w ≤ 4 := by
  unfold whyS; split <;> (try split) <;> (try split) <;> (try split) <;> (try split) <;> decide
theorem why0_in {T : Int} {mat : Int → Int} {yr k o w : Int} (h : whyS T mat yr k o w = 0) (hk : ¬ k = 46) : inS T o = true := by
  unfold whyS at h
  rw [if_neg hk] at h
  cases ho : inS T o with
  | true => rfl
  | false => rw [if_pos (Or.inl ho)] at h; cases h
theorem actY_bd {T : Int} {mat : Int → Int} {yr k o w : Int} (h : whyS T mat yr k o w = 0) (hy : 0 ≤ yr ∧ yr ≤ 999) : 0 ≤ actY yr k ∧ actY yr k ≤ 999 := by
  unfold actY
  by_cases hk : k = 46
  · rw [if_pos hk]
    unfold whyS at h
    rw [if_pos hk] at h
    by_cases h9 : yr < 999
    · omega
    · rw [if_neg h9] at h; cases h
  · rw [if_neg hk]; exact hy
theorem actH_bd {tm yr k : Int} (h : 0 ≤ tm ∧ tm ≤ 9) : 0 ≤ actH tm yr k ∧ actH tm yr k ≤ 9 := by
  unfold actH yeaH
  split
  · split <;> omega
  · exact h
theorem actI_bd {T : Int} {dri mat inc : Int → Int} {k o w : Int} (h : zBd inc 9 0 179) : zBd (actI T dri mat inc k o w) 9 0 179 := by
  have ht : ∀ d, zBd (turI T inc o d) 9 0 179 := by
    intro d
    unfold turI
    split
    · exact h.up (by omega)
    · exact h
  unfold actI
  split
  · exact ht _
  split
  · exact ht _
  split
  · intro j h0 h1
    unfold yeaI
    split
    · omega
    · exact h j h0 h1
  · exact h
theorem sepM_bd {T : Int} {mat : Int → Int} {o : Int} (h : zBd mat 9 (-6) 8) : zBd (sepM T mat o) 9 (-6) 8 := by
  unfold sepM
  split
  · exact (h.up (by decide)).up (by decide)
  · exact h
theorem seaM_bd {T : Int} {mat : Int → Int} {a b : Int} (h : zBd mat 9 (-6) 8) : zBd (seaM T mat a b) 9 (-6) 8 := by
  unfold seaM
  split
  · next hq =>
    have h1 := inS.rng hq.1
    have h2 := inS.rng hq.2
    exact (h.up (by omega)).up (by omega)
  · exact h
theorem actM_bd {T : Int} {mat : Int → Int} {k o w : Int} (h : zBd mat 9 (-6) 8) : zBd (actM T mat k o w) 9 (-6) 8 := by
  unfold actM
  split
  · exact seaM_bd h
  split
  · exact sepM_bd h
  · exact h
def rnW (T : Int) (dri : Int → Int) (ln : Int) (sgn inc mat : Int → Int) (tm yr : Int) : zR := runS T dri ln sgn 60 0 (inc, mat, tm, yr, (fun _ => -6), -6, -6, 0, 0)
def kolS (lot : Int) : Int := if lot = 0 ∨ lot = 1 then 43 else if lot = 2 then 45 else if lot = 3 then 38 else if lot = 4 then 47 else 46
theorem kolS_bd (lot : Int) : 38 ≤ kolS lot ∧ kolS lot ≤ 47 := by unfold kolS; split <;> (try split) <;> (try split) <;> (try split) <;> decide
abbrev zD4 : Type := (Int → Int) × (Int → Int) × Int × Int
def drwK (x : Int) : Int := kolS (x / 9 % 8)
def drwW (x : Int) : Int := if drwK x = 38 then x / 72 % 9 else 1 + x / 72 % 9
def drwS (T : Int) (dri : Int → Int) : Nat → Int → zD4 → zD4
  | 0, _, q => q
  | n + 1, x0, q =>
    let x := (75 * x0 + 74) % 65537
    drwS T dri n x (if whyS T q.2.1 q.2.2.2 (drwK x) (x % 9) (drwW x) = 0 then (actI T dri q.2.1 q.1 (drwK x) (x % 9) (drwW x), actM T q.2.1 (drwK x) (x % 9) (drwW x), actH q.2.2.1 q.2.2.2 (drwK x), actY q.2.2.2 (drwK x)) else q)
theorem drwS_go {T : Int} {dri inc mat : Int → Int} {tm yr c a x0 : Int} (h : 0 ≤ a ∧ a < c) (hw : whyS T mat yr (drwK ((75 * x0 + 74) % 65537)) ((75 * x0 + 74) % 65537 % 9) (drwW ((75 * x0 + 74) % 65537)) = 0) :
    drwS T dri (c - a).toNat x0 (inc, mat, tm, yr) = drwS T dri (c - (a + 1)).toNat ((75 * x0 + 74) % 65537) (actI T dri mat inc (drwK ((75 * x0 + 74) % 65537)) ((75 * x0 + 74) % 65537 % 9) (drwW ((75 * x0 + 74) % 65537)), actM T mat (drwK ((75 * x0 + 74) % 65537)) ((75 * x0 + 74) % 65537 % 9) (drwW ((75 * x0 + 74) % 65537)), actH tm yr (drwK ((75 * x0 + 74) % 65537)), actY yr (drwK ((75 * x0 + 74) % 65537))) := by
  have e : (c - a).toNat = (c - (a + 1)).toNat + 1 := by omega
  rw [e]
  show drwS T dri _ _ (if _ = 0 then _ else _) = _
  rw [if_pos hw]
theorem drwS_no {T : Int} {dri inc mat : Int → Int} {tm yr c a x0 : Int} (h : 0 ≤ a ∧ a < c) (hw : ¬ whyS T mat yr (drwK ((75 * x0 + 74) % 65537)) ((75 * x0 + 74) % 65537 % 9) (drwW ((75 * x0 + 74) % 65537)) = 0) :
    drwS T dri (c - a).toNat x0 (inc, mat, tm, yr) = drwS T dri (c - (a + 1)).toNat ((75 * x0 + 74) % 65537) (inc, mat, tm, yr) := by
  have e : (c - a).toNat = (c - (a + 1)).toNat + 1 := by omega
  rw [e]
  show drwS T dri _ _ (if _ = 0 then _ else _) = _
  rw [if_neg hw]

set_option maxRecDepth 20000 in
theorem hin_X2_become_X2 : ∀ w ∈ u_ws RX2 TX2 8, w ∈ wsX2_become := by decide +kernel
set_option maxRecDepth 20000 in
theorem fl_X2_become_27 : Cond.fieldLink RX2 27 "HornCity$City" "chalks" "LHornCity$Chalks;" ∈ wsX2_become := by decide +kernel
set_option maxRecDepth 20000 in
theorem fl_X2_become_35 : Cond.fieldLink RX2 35 "HornCity$City" "there" "I" ∈ wsX2_become := by decide +kernel
set_option maxRecDepth 20000 in
theorem fl_X2_become_39 : Cond.fieldLink RX2 39 "HornCity$City" "tooMuch" "I" ∈ wsX2_become := by decide +kernel
set_option maxRecDepth 20000 in
theorem fl_X2_become_42 : Cond.fieldLink RX2 42 "HornCity$City" "year" "I" ∈ wsX2_become := by decide +kernel
set_option maxRecDepth 20000 in
theorem fl_X2_become_9 : Cond.fieldLink RX2 9 "HornCity$City" "inclines" "[I" ∈ wsX2_become := by decide +kernel
set_option maxRecDepth 20000 in
theorem fl_X2_become_15 : Cond.fieldLink RX2 15 "HornCity$City" "drifting" "[I" ∈ wsX2_become := by decide +kernel
set_option maxRecDepth 20000 in
theorem fl_X2_become_18 : Cond.fieldLink RX2 18 "HornCity$City" "mates" "[I" ∈ wsX2_become := by decide +kernel
set_option maxHeartbeats 4000000 in
set_option maxRecDepth 100000 in
theorem c_X2_become (l : Launch) (D : va_G) (cI cJ cZ : ClassId) (o ai ad am ah ch iy mk oq aiq adq amq ahq chq iyq mkq : Nat) (inc dri mat iyf mkf incq driq matq iyfq mkfq : Int → Int) (T tm yr cn Tq tmq yrq cnq : Int) : zMw l yX2_become wsX2_become (zRm 1) D cI cJ cZ [.ref o, .ref oq] [(o, .inr (2, [.ref ai, .ref ad, .ref am, .ref ah, .ref ch, .int (zI T), .int (zI tm), .int (zI yr)])), (ai, .inl (cI, 9, .inl (zA inc))), (ad, .inl (cI, 9, .inl (zA dri))), (am, .inl (cI, 9, .inl (zA mat))), (ch, .inr (1, [.ref iy, .ref mk, .int (zI cn)])), (iy, .inl (cI, 8, .inl (zA iyf))), (mk, .inl (cI, 8, .inl (zA mkf))), (oq, .inr (2, [.ref aiq, .ref adq, .ref amq, .ref ahq, .ref chq, .int (zI Tq), .int (zI tmq), .int (zI yrq)])), (aiq, .inl (cI, 9, .inl (zA incq))), (adq, .inl (cI, 9, .inl (zA driq))), (amq, .inl (cI, 9, .inl (zA matq))), (chq, .inr (1, [.ref iyq, .ref mkq, .int (zI cnq)])), (iyq, .inl (cI, 8, .inl (zA iyfq))), (mkq, .inl (cI, 8, .inl (zA mkfq)))] (S := (Int → Int) × (Int → Int) × (Int → Int) × Int × Int × Int × (Int → Int) × (Int → Int) × Int) (fun u => u.1 = incq ∧ u.2.1 = driq ∧ u.2.2.1 = matq ∧ u.2.2.2.1 = Tq ∧ u.2.2.2.2.1 = tmq ∧ u.2.2.2.2.2.1 = yrq ∧ u.2.2.2.2.2.2.1 = iyfq ∧ u.2.2.2.2.2.2.2.1 = mkfq ∧ u.2.2.2.2.2.2.2.2 = cnq) (fun _ => none) (fun u => [(o, .inr (2, [.ref ai, .ref ad, .ref am, .ref ah, .ref ch, .int (zI u.2.2.2.1), .int (zI u.2.2.2.2.1), .int (zI u.2.2.2.2.2.1)])), (ai, .inl (cI, 9, .inl (zA u.1))), (ad, .inl (cI, 9, .inl (zA u.2.1))), (am, .inl (cI, 9, .inl (zA u.2.2.1))), (ch, .inr (1, [.ref iy, .ref mk, .int (zI u.2.2.2.2.2.2.2.2)])), (iy, .inl (cI, 8, .inl (zA u.2.2.2.2.2.2.1))), (mk, .inl (cI, 8, .inl (zA u.2.2.2.2.2.2.2.1))), (oq, .inr (2, [.ref aiq, .ref adq, .ref amq, .ref ahq, .ref chq, .int (zI Tq), .int (zI tmq), .int (zI yrq)])), (aiq, .inl (cI, 9, .inl (zA incq))), (adq, .inl (cI, 9, .inl (zA driq))), (amq, .inl (cI, 9, .inl (zA matq))), (chq, .inr (1, [.ref iyq, .ref mkq, .int (zI cnq)])), (iyq, .inl (cI, 8, .inl (zA iyfq))), (mkq, .inl (cI, 8, .inl (zA mkfq)))]) := by
  refine zMw_v (cc := cX2_become) (maxL := 3) (by decide +kernel) rfl (Nat.le_of_ble_eq_true rfl) rfl (fun _ => rfl) ?_
  intro p e s m args below meth c Q H0 ls F hK hz hl hret
  obtain ⟨hx, hb, hml, hown0, hts⟩ := id F
  have hown : s.vm.findClass RX2 = some m.cls := hown0
  obtain ⟨ws0, hw0⟩ : ∃ w : va_W, w = [(o, .inr (2, [.ref ai, .ref ad, .ref am, .ref ah, .ref ch, .int (zI T), .int (zI tm), .int (zI yr)])), (ai, .inl (cI, 9, .inl (zA inc))), (ad, .inl (cI, 9, .inl (zA dri))), (am, .inl (cI, 9, .inl (zA mat))), (ch, .inr (1, [.ref iy, .ref mk, .int (zI cn)])), (iy, .inl (cI, 8, .inl (zA iyf))), (mk, .inl (cI, 8, .inl (zA mkf))), (oq, .inr (2, [.ref aiq, .ref adq, .ref amq, .ref ahq, .ref chq, .int (zI Tq), .int (zI tmq), .int (zI yrq)])), (aiq, .inl (cI, 9, .inl (zA incq))), (adq, .inl (cI, 9, .inl (zA driq))), (amq, .inl (cI, 9, .inl (zA matq))), (chq, .inr (1, [.ref iyq, .ref mkq, .int (zI cnq)])), (iyq, .inl (cI, 8, .inl (zA iyfq))), (mkq, .inl (cI, 8, .inl (zA mkfq)))] := ⟨_, rfl⟩
  rw [← hw0] at hret
  have hz : zH D (zF ws0) H0 [(o, .inr (2, [.ref ai, .ref ad, .ref am, .ref ah, .ref ch, .int (zI T), .int (zI tm), .int (zI yr)])), (ai, .inl (cI, 9, .inl (zA inc))), (ad, .inl (cI, 9, .inl (zA dri))), (am, .inl (cI, 9, .inl (zA mat))), (ch, .inr (1, [.ref iy, .ref mk, .int (zI cn)])), (iy, .inl (cI, 8, .inl (zA iyf))), (mk, .inl (cI, 8, .inl (zA mkf))), (oq, .inr (2, [.ref aiq, .ref adq, .ref amq, .ref ahq, .ref chq, .int (zI Tq), .int (zI tmq), .int (zI yrq)])), (aiq, .inl (cI, 9, .inl (zA incq))), (adq, .inl (cI, 9, .inl (zA driq))), (amq, .inl (cI, 9, .inl (zA matq))), (chq, .inr (1, [.ref iyq, .ref mkq, .int (zI cnq)])), (iyq, .inl (cI, 8, .inl (zA iyfq))), (mkq, .inl (cI, 8, .inl (zA mkfq)))] H0 [] := by rw [hw0]; exact hz
  have hl : lv_has ls 3 [(0, .ref o), (1, .ref oq)] := hl
  refine z_iconst hx hb dX2_become_0 ?_
  refine lv_istore_n (lv' := [(2, .int (zI 0)), (0, .ref o), (1, .ref oq)]) hx hb dX2_become_1 rfl hl (Nat.le_of_ble_eq_true rfl) rfl (fun ls hl => ?_)
  have L2 : ∀ (n : Nat) (i : Int) (ix dx mx : Int → Int) (H : Heap) (locs : List Loc) (ls : Array Slot), ((9 - i).toNat = n) → (0 ≤ i ∧ i ≤ 9) → (∀ j, 0 ≤ j → j < i → ix j = incq j) → (∀ j, 0 ≤ j → j < i → dx j = driq j) → (∀ j, 0 ≤ j → j < i → mx j = matq j) → zH D (zF ws0) H0 [(o, .inr (2, [.ref ai, .ref ad, .ref am, .ref ah, .ref ch, .int (zI T), .int (zI tm), .int (zI yr)])), (ai, .inl (cI, 9, .inl (zA ix))), (ad, .inl (cI, 9, .inl (zA dx))), (am, .inl (cI, 9, .inl (zA mx))), (ch, .inr (1, [.ref iy, .ref mk, .int (zI cn)])), (iy, .inl (cI, 8, .inl (zA iyf))), (mk, .inl (cI, 8, .inl (zA mkf))), (oq, .inr (2, [.ref aiq, .ref adq, .ref amq, .ref ahq, .ref chq, .int (zI Tq), .int (zI tmq), .int (zI yrq)])), (aiq, .inl (cI, 9, .inl (zA incq))), (adq, .inl (cI, 9, .inl (zA driq))), (amq, .inl (cI, 9, .inl (zA matq))), (chq, .inr (1, [.ref iyq, .ref mkq, .int (zI cnq)])), (iyq, .inl (cI, 8, .inl (zA iyfq))), (mkq, .inl (cI, 8, .inl (zA mkfq)))] H locs → lv_has ls 3 [(2, .int (zI i)), (0, .ref o), (1, .ref oq)] → W p l e (zRm 1) s m args below meth c H locs 0 0 Q (F0 m 2 ls []) := by
    intro n
    refine Nat.strongRecOn n ?_
    intro n ih2 i ix dx mx H locs ls hn2 h0 hix hdx hmx hz hl
    refine lv_iload_n hx hb dX2_become_2 rfl (lv_at hl 0 rfl) ?_
    refine z_bipush hx hb dX2_become_3 (by decide) ?_
    refine z_icmp_ge (tgt := 50) hx hb dX2_become_5 (by decide) (by omega) (by decide) (fun h5 => ?_) (fun h5 => ?_)
    ·
      have hz := zH_ext hz 1 incq rfl (fun j a b => hix j a (by omega))
      have hz : zH D (zF ws0) H0 [(o, .inr (2, [.ref ai, .ref ad, .ref am, .ref ah, .ref ch, .int (zI T), .int (zI tm), .int (zI yr)])), (ai, .inl (cI, 9, .inl (zA incq))), (ad, .inl (cI, 9, .inl (zA dx))), (am, .inl (cI, 9, .inl (zA mx))), (ch, .inr (1, [.ref iy, .ref mk, .int (zI cn)])), (iy, .inl (cI, 8, .inl (zA iyf))), (mk, .inl (cI, 8, .inl (zA mkf))), (oq, .inr (2, [.ref aiq, .ref adq, .ref amq, .ref ahq, .ref chq, .int (zI Tq), .int (zI tmq), .int (zI yrq)])), (aiq, .inl (cI, 9, .inl (zA incq))), (adq, .inl (cI, 9, .inl (zA driq))), (amq, .inl (cI, 9, .inl (zA matq))), (chq, .inr (1, [.ref iyq, .ref mkq, .int (zI cnq)])), (iyq, .inl (cI, 8, .inl (zA iyfq))), (mkq, .inl (cI, 8, .inl (zA mkfq)))] H locs := hz
      have hz := zH_ext hz 2 driq rfl (fun j a b => hdx j a (by omega))
      have hz : zH D (zF ws0) H0 [(o, .inr (2, [.ref ai, .ref ad, .ref am, .ref ah, .ref ch, .int (zI T), .int (zI tm), .int (zI yr)])), (ai, .inl (cI, 9, .inl (zA incq))), (ad, .inl (cI, 9, .inl (zA driq))), (am, .inl (cI, 9, .inl (zA mx))), (ch, .inr (1, [.ref iy, .ref mk, .int (zI cn)])), (iy, .inl (cI, 8, .inl (zA iyf))), (mk, .inl (cI, 8, .inl (zA mkf))), (oq, .inr (2, [.ref aiq, .ref adq, .ref amq, .ref ahq, .ref chq, .int (zI Tq), .int (zI tmq), .int (zI yrq)])), (aiq, .inl (cI, 9, .inl (zA incq))), (adq, .inl (cI, 9, .inl (zA driq))), (amq, .inl (cI, 9, .inl (zA matq))), (chq, .inr (1, [.ref iyq, .ref mkq, .int (zI cnq)])), (iyq, .inl (cI, 8, .inl (zA iyfq))), (mkq, .inl (cI, 8, .inl (zA mkfq)))] H locs := hz
      have hz := zH_ext hz 3 matq rfl (fun j a b => hmx j a (by omega))
      have hz : zH D (zF ws0) H0 [(o, .inr (2, [.ref ai, .ref ad, .ref am, .ref ah, .ref ch, .int (zI T), .int (zI tm), .int (zI yr)])), (ai, .inl (cI, 9, .inl (zA incq))), (ad, .inl (cI, 9, .inl (zA driq))), (am, .inl (cI, 9, .inl (zA matq))), (ch, .inr (1, [.ref iy, .ref mk, .int (zI cn)])), (iy, .inl (cI, 8, .inl (zA iyf))), (mk, .inl (cI, 8, .inl (zA mkf))), (oq, .inr (2, [.ref aiq, .ref adq, .ref amq, .ref ahq, .ref chq, .int (zI Tq), .int (zI tmq), .int (zI yrq)])), (aiq, .inl (cI, 9, .inl (zA incq))), (adq, .inl (cI, 9, .inl (zA driq))), (amq, .inl (cI, 9, .inl (zA matq))), (chq, .inr (1, [.ref iyq, .ref mkq, .int (zI cnq)])), (iyq, .inl (cI, 8, .inl (zA iyfq))), (mkq, .inl (cI, 8, .inl (zA mkfq)))] H locs := hz
      refine lv_aload_n hx hb dX2_become_50 rfl (lv_at hl 1 rfl) ?_
      refine z_get (C := RX2) (T := TX2) (N := 8) (ref := "HornCity$City") hx hb hts hin_X2_become_X2 hown hK hz 0 rfl rfl 4 (by decide) (hts _ fl_X2_become_27) rfl rfl dX2_become_51 ?_
      refine lv_aload_n hx hb dX2_become_54 rfl (lv_at hl 2 rfl) ?_
      refine z_get (C := RX2) (T := TX2) (N := 8) (ref := "HornCity$City") hx hb hts hin_X2_become_X2 hown hK hz 7 rfl rfl 4 (by decide) (hts _ fl_X2_become_27) rfl rfl dX2_become_55 ?_
      refine z_callVwv (As := [.ref chq]) (rest := []) (C := RX1) (T := TX1) (N := 3) F hK hz hl (c_X1_become l D cI cJ cZ ch iy mk chq iyq mkq iyf mkf iyfq mkfq cn cnq ) (cwV 1 hts gX2_become_X1_become rfl rfl rfl (by decide +kernel) ⟨Nat.le_of_ble_eq_true rfl, Nat.le_of_ble_eq_true rfl⟩) rfl 4 rfl [4, 5, 6, 11, 12, 13] rfl rfl (by decide +kernel) rfl rfl (Nat.le_of_ble_eq_true rfl) ⟨Nat.le_of_ble_eq_true rfl, Nat.le_of_ble_eq_true rfl⟩ dX2_become_58 (fun u H locs hu hz => ?_)
      obtain ⟨y1_1, m1_2, c1_3⟩ := u
      have hu : y1_1 = iyfq ∧ m1_2 = mkfq ∧ c1_3 = cnq := hu
      obtain ⟨g58_0, g58_1, g58_2⟩ := hu
      have g58_0 := g58_0.symm
      subst g58_0
      have g58_1 := g58_1.symm
      subst g58_1
      have g58_2 := g58_2.symm
      subst g58_2
      have hz : zH D (zF ws0) H0 [(o, .inr (2, [.ref ai, .ref ad, .ref am, .ref ah, .ref ch, .int (zI T), .int (zI tm), .int (zI yr)])), (ai, .inl (cI, 9, .inl (zA incq))), (ad, .inl (cI, 9, .inl (zA driq))), (am, .inl (cI, 9, .inl (zA matq))), (ch, .inr (1, [.ref iy, .ref mk, .int (zI cnq)])), (iy, .inl (cI, 8, .inl (zA iyfq))), (mk, .inl (cI, 8, .inl (zA mkfq))), (oq, .inr (2, [.ref aiq, .ref adq, .ref amq, .ref ahq, .ref chq, .int (zI Tq), .int (zI tmq), .int (zI yrq)])), (aiq, .inl (cI, 9, .inl (zA incq))), (adq, .inl (cI, 9, .inl (zA driq))), (amq, .inl (cI, 9, .inl (zA matq))), (chq, .inr (1, [.ref iyq, .ref mkq, .int (zI cnq)])), (iyq, .inl (cI, 8, .inl (zA iyfq))), (mkq, .inl (cI, 8, .inl (zA mkfq)))] H locs := hz
      refine lv_aload_n hx hb dX2_become_61 rfl (lv_at hl 1 rfl) ?_
      refine lv_aload_n hx hb dX2_become_62 rfl (lv_at hl 2 rfl) ?_
      refine z_get (C := RX2) (T := TX2) (N := 8) (ref := "HornCity$City") hx hb hts hin_X2_become_X2 hown hK hz 7 rfl rfl 5 (by decide) (hts _ fl_X2_become_35) rfl rfl dX2_become_63 ?_
      refine z_put (C := RX2) (T := TX2) (N := 8) (ref := "HornCity$City") (ty := .int) hx hb hts hin_X2_become_X2 hown hK hz tyX2 tyX2_ok nmX2 0 rfl rfl 5 (by decide) (hts _ fl_X2_become_35) rfl rfl (by decide +kernel) rfl rfl (Nat.le_of_ble_eq_true rfl) dX2_become_66 (fun H locs hz => ?_)
      have hz : zH D (zF ws0) H0 [(o, .inr (2, [.ref ai, .ref ad, .ref am, .ref ah, .ref ch, .int (zI Tq), .int (zI tm), .int (zI yr)])), (ai, .inl (cI, 9, .inl (zA incq))), (ad, .inl (cI, 9, .inl (zA driq))), (am, .inl (cI, 9, .inl (zA matq))), (ch, .inr (1, [.ref iy, .ref mk, .int (zI cnq)])), (iy, .inl (cI, 8, .inl (zA iyfq))), (mk, .inl (cI, 8, .inl (zA mkfq))), (oq, .inr (2, [.ref aiq, .ref adq, .ref amq, .ref ahq, .ref chq, .int (zI Tq), .int (zI tmq), .int (zI yrq)])), (aiq, .inl (cI, 9, .inl (zA incq))), (adq, .inl (cI, 9, .inl (zA driq))), (amq, .inl (cI, 9, .inl (zA matq))), (chq, .inr (1, [.ref iyq, .ref mkq, .int (zI cnq)])), (iyq, .inl (cI, 8, .inl (zA iyfq))), (mkq, .inl (cI, 8, .inl (zA mkfq)))] H locs := hz
      refine lv_aload_n hx hb dX2_become_69 rfl (lv_at hl 1 rfl) ?_
      refine lv_aload_n hx hb dX2_become_70 rfl (lv_at hl 2 rfl) ?_
      refine z_get (C := RX2) (T := TX2) (N := 8) (ref := "HornCity$City") hx hb hts hin_X2_become_X2 hown hK hz 7 rfl rfl 6 (by decide) (hts _ fl_X2_become_39) rfl rfl dX2_become_71 ?_
      refine z_put (C := RX2) (T := TX2) (N := 8) (ref := "HornCity$City") (ty := .int) hx hb hts hin_X2_become_X2 hown hK hz tyX2 tyX2_ok nmX2 0 rfl rfl 6 (by decide) (hts _ fl_X2_become_39) rfl rfl (by decide +kernel) rfl rfl (Nat.le_of_ble_eq_true rfl) dX2_become_74 (fun H locs hz => ?_)
      have hz : zH D (zF ws0) H0 [(o, .inr (2, [.ref ai, .ref ad, .ref am, .ref ah, .ref ch, .int (zI Tq), .int (zI tmq), .int (zI yr)])), (ai, .inl (cI, 9, .inl (zA incq))), (ad, .inl (cI, 9, .inl (zA driq))), (am, .inl (cI, 9, .inl (zA matq))), (ch, .inr (1, [.ref iy, .ref mk, .int (zI cnq)])), (iy, .inl (cI, 8, .inl (zA iyfq))), (mk, .inl (cI, 8, .inl (zA mkfq))), (oq, .inr (2, [.ref aiq, .ref adq, .ref amq, .ref ahq, .ref chq, .int (zI Tq), .int (zI tmq), .int (zI yrq)])), (aiq, .inl (cI, 9, .inl (zA incq))), (adq, .inl (cI, 9, .inl (zA driq))), (amq, .inl (cI, 9, .inl (zA matq))), (chq, .inr (1, [.ref iyq, .ref mkq, .int (zI cnq)])), (iyq, .inl (cI, 8, .inl (zA iyfq))), (mkq, .inl (cI, 8, .inl (zA mkfq)))] H locs := hz
      refine lv_aload_n hx hb dX2_become_77 rfl (lv_at hl 1 rfl) ?_
      refine lv_aload_n hx hb dX2_become_78 rfl (lv_at hl 2 rfl) ?_
      refine z_get (C := RX2) (T := TX2) (N := 8) (ref := "HornCity$City") hx hb hts hin_X2_become_X2 hown hK hz 7 rfl rfl 7 (by decide) (hts _ fl_X2_become_42) rfl rfl dX2_become_79 ?_
      refine z_put (C := RX2) (T := TX2) (N := 8) (ref := "HornCity$City") (ty := .int) hx hb hts hin_X2_become_X2 hown hK hz tyX2 tyX2_ok nmX2 0 rfl rfl 7 (by decide) (hts _ fl_X2_become_42) rfl rfl (by decide +kernel) rfl rfl (Nat.le_of_ble_eq_true rfl) dX2_become_82 (fun H locs hz => ?_)
      have hz : zH D (zF ws0) H0 [(o, .inr (2, [.ref ai, .ref ad, .ref am, .ref ah, .ref ch, .int (zI Tq), .int (zI tmq), .int (zI yrq)])), (ai, .inl (cI, 9, .inl (zA incq))), (ad, .inl (cI, 9, .inl (zA driq))), (am, .inl (cI, 9, .inl (zA matq))), (ch, .inr (1, [.ref iy, .ref mk, .int (zI cnq)])), (iy, .inl (cI, 8, .inl (zA iyfq))), (mk, .inl (cI, 8, .inl (zA mkfq))), (oq, .inr (2, [.ref aiq, .ref adq, .ref amq, .ref ahq, .ref chq, .int (zI Tq), .int (zI tmq), .int (zI yrq)])), (aiq, .inl (cI, 9, .inl (zA incq))), (adq, .inl (cI, 9, .inl (zA driq))), (amq, .inl (cI, 9, .inl (zA matq))), (chq, .inr (1, [.ref iyq, .ref mkq, .int (zI cnq)])), (iyq, .inl (cI, 8, .inl (zA iyfq))), (mkq, .inl (cI, 8, .inl (zA mkfq)))] H locs := hz
      exact hret ((incq : Int → Int), (driq : Int → Int), (matq : Int → Int), (Tq : Int), (tmq : Int), (yrq : Int), (iyfq : Int → Int), (mkfq : Int → Int), (cnq : Int)) dX2_become_85 (show incq = incq ∧ driq = driq ∧ matq = matq ∧ Tq = Tq ∧ tmq = tmq ∧ yrq = yrq ∧ iyfq = iyfq ∧ mkfq = mkfq ∧ cnq = cnq from ⟨rfl, rfl, rfl, rfl, rfl, rfl, rfl, rfl, rfl⟩) hz
    ·
      refine lv_aload_n hx hb dX2_become_8 rfl (lv_at hl 1 rfl) ?_
      refine z_get (C := RX2) (T := TX2) (N := 8) (ref := "HornCity$City") hx hb hts hin_X2_become_X2 hown hK hz 0 rfl rfl 0 (by decide) (hts _ fl_X2_become_9) rfl rfl dX2_become_9 ?_
      refine lv_iload_n hx hb dX2_become_12 rfl (lv_at hl 0 rfl) ?_
      refine lv_aload_n hx hb dX2_become_13 rfl (lv_at hl 2 rfl) ?_
      refine z_get (C := RX2) (T := TX2) (N := 8) (ref := "HornCity$City") hx hb hts hin_X2_become_X2 hown hK hz 7 rfl rfl 0 (by decide) (hts _ fl_X2_become_9) rfl rfl dX2_become_14 ?_
      refine lv_iload_n hx hb dX2_become_17 rfl (lv_at hl 0 rfl) ?_
      refine z_iald hx hb hK hz 8 rfl (by omega) (by decide) dX2_become_18 ?_
      refine z_iast hx hb hK hz 1 rfl (by omega) (by decide) dX2_become_19 (fun H locs hz => ?_)
      have hz : zH D (zF ws0) H0 [(o, .inr (2, [.ref ai, .ref ad, .ref am, .ref ah, .ref ch, .int (zI T), .int (zI tm), .int (zI yr)])), (ai, .inl (cI, 9, .inl (zA (zU ix i (incq i))))), (ad, .inl (cI, 9, .inl (zA dx))), (am, .inl (cI, 9, .inl (zA mx))), (ch, .inr (1, [.ref iy, .ref mk, .int (zI cn)])), (iy, .inl (cI, 8, .inl (zA iyf))), (mk, .inl (cI, 8, .inl (zA mkf))), (oq, .inr (2, [.ref aiq, .ref adq, .ref amq, .ref ahq, .ref chq, .int (zI Tq), .int (zI tmq), .int (zI yrq)])), (aiq, .inl (cI, 9, .inl (zA incq))), (adq, .inl (cI, 9, .inl (zA driq))), (amq, .inl (cI, 9, .inl (zA matq))), (chq, .inr (1, [.ref iyq, .ref mkq, .int (zI cnq)])), (iyq, .inl (cI, 8, .inl (zA iyfq))), (mkq, .inl (cI, 8, .inl (zA mkfq)))] H locs := hz
      refine lv_aload_n hx hb dX2_become_20 rfl (lv_at hl 1 rfl) ?_
      refine z_get (C := RX2) (T := TX2) (N := 8) (ref := "HornCity$City") hx hb hts hin_X2_become_X2 hown hK hz 0 rfl rfl 1 (by decide) (hts _ fl_X2_become_15) rfl rfl dX2_become_21 ?_
      refine lv_iload_n hx hb dX2_become_24 rfl (lv_at hl 0 rfl) ?_
      refine lv_aload_n hx hb dX2_become_25 rfl (lv_at hl 2 rfl) ?_
      refine z_get (C := RX2) (T := TX2) (N := 8) (ref := "HornCity$City") hx hb hts hin_X2_become_X2 hown hK hz 7 rfl rfl 1 (by decide) (hts _ fl_X2_become_15) rfl rfl dX2_become_26 ?_
      refine lv_iload_n hx hb dX2_become_29 rfl (lv_at hl 0 rfl) ?_
      refine z_iald hx hb hK hz 9 rfl (by omega) (by decide) dX2_become_30 ?_
      refine z_iast hx hb hK hz 2 rfl (by omega) (by decide) dX2_become_31 (fun H locs hz => ?_)
      have hz : zH D (zF ws0) H0 [(o, .inr (2, [.ref ai, .ref ad, .ref am, .ref ah, .ref ch, .int (zI T), .int (zI tm), .int (zI yr)])), (ai, .inl (cI, 9, .inl (zA (zU ix i (incq i))))), (ad, .inl (cI, 9, .inl (zA (zU dx i (driq i))))), (am, .inl (cI, 9, .inl (zA mx))), (ch, .inr (1, [.ref iy, .ref mk, .int (zI cn)])), (iy, .inl (cI, 8, .inl (zA iyf))), (mk, .inl (cI, 8, .inl (zA mkf))), (oq, .inr (2, [.ref aiq, .ref adq, .ref amq, .ref ahq, .ref chq, .int (zI Tq), .int (zI tmq), .int (zI yrq)])), (aiq, .inl (cI, 9, .inl (zA incq))), (adq, .inl (cI, 9, .inl (zA driq))), (amq, .inl (cI, 9, .inl (zA matq))), (chq, .inr (1, [.ref iyq, .ref mkq, .int (zI cnq)])), (iyq, .inl (cI, 8, .inl (zA iyfq))), (mkq, .inl (cI, 8, .inl (zA mkfq)))] H locs := hz
      refine lv_aload_n hx hb dX2_become_32 rfl (lv_at hl 1 rfl) ?_
      refine z_get (C := RX2) (T := TX2) (N := 8) (ref := "HornCity$City") hx hb hts hin_X2_become_X2 hown hK hz 0 rfl rfl 2 (by decide) (hts _ fl_X2_become_18) rfl rfl dX2_become_33 ?_
      refine lv_iload_n hx hb dX2_become_36 rfl (lv_at hl 0 rfl) ?_
      refine lv_aload_n hx hb dX2_become_37 rfl (lv_at hl 2 rfl) ?_
      refine z_get (C := RX2) (T := TX2) (N := 8) (ref := "HornCity$City") hx hb hts hin_X2_become_X2 hown hK hz 7 rfl rfl 2 (by decide) (hts _ fl_X2_become_18) rfl rfl dX2_become_38 ?_
      refine lv_iload_n hx hb dX2_become_41 rfl (lv_at hl 0 rfl) ?_
      refine z_iald hx hb hK hz 10 rfl (by omega) (by decide) dX2_become_42 ?_
      refine z_iast hx hb hK hz 3 rfl (by omega) (by decide) dX2_become_43 (fun H locs hz => ?_)
      have hz : zH D (zF ws0) H0 [(o, .inr (2, [.ref ai, .ref ad, .ref am, .ref ah, .ref ch, .int (zI T), .int (zI tm), .int (zI yr)])), (ai, .inl (cI, 9, .inl (zA (zU ix i (incq i))))), (ad, .inl (cI, 9, .inl (zA (zU dx i (driq i))))), (am, .inl (cI, 9, .inl (zA (zU mx i (matq i))))), (ch, .inr (1, [.ref iy, .ref mk, .int (zI cn)])), (iy, .inl (cI, 8, .inl (zA iyf))), (mk, .inl (cI, 8, .inl (zA mkf))), (oq, .inr (2, [.ref aiq, .ref adq, .ref amq, .ref ahq, .ref chq, .int (zI Tq), .int (zI tmq), .int (zI yrq)])), (aiq, .inl (cI, 9, .inl (zA incq))), (adq, .inl (cI, 9, .inl (zA driq))), (amq, .inl (cI, 9, .inl (zA matq))), (chq, .inr (1, [.ref iyq, .ref mkq, .int (zI cnq)])), (iyq, .inl (cI, 8, .inl (zA iyfq))), (mkq, .inl (cI, 8, .inl (zA mkfq)))] H locs := hz
      refine z_iinc (lv' := [(2, .int (zI (i + 1))), (0, .ref o), (1, .ref oq)]) hx hb dX2_become_44 hl (k := 0) rfl (Nat.le_of_ble_eq_true rfl) rfl (fun ls hl => ?_)
      refine lv_goto (tgt := 2) hx hb dX2_become_47 (by decide) ?_
      exact ih2 _ (by omega) (i + 1) (zU ix i (incq i)) (zU dx i (driq i)) (zU mx i (matq i)) H locs ls rfl (by omega) (zU_cp hix) (zU_cp hdx) (zU_cp hmx) hz (lv_sub hl [0, 1, 2] rfl)
  exact L2 _ 0 inc dri mat H0 [] ls rfl (by decide) (fun j h1 h2 => absurd h1 (by omega)) (fun j h1 h2 => absurd h1 (by omega)) (fun j h1 h2 => absurd h1 (by omega)) hz (lv_sub hl [0, 1, 2] rfl)

set_option maxRecDepth 20000 in
theorem hin_X9_begin_X9 : ∀ w ∈ u_ws RX9 TX9 6, w ∈ wsX9_begin := by decide +kernel
set_option maxRecDepth 20000 in
theorem fl_X9_begin_12 : Cond.fieldLink RX9 12 "HornCity$Years" "city" "LHornCity$City;" ∈ wsX9_begin := by decide +kernel
set_option maxRecDepth 20000 in
theorem fl_X9_begin_57 : Cond.fieldLink RX9 57 "HornCity$Years" "acts" "I" ∈ wsX9_begin := by decide +kernel
set_option maxRecDepth 20000 in
theorem fl_X9_begin_46 : Cond.fieldLink RX9 46 "HornCity$Years" "why" "I" ∈ wsX9_begin := by decide +kernel
set_option maxRecDepth 20000 in
theorem fl_X9_begin_70 : Cond.fieldLink RX9 70 "HornCity$Years" "wrongAct" "I" ∈ wsX9_begin := by decide +kernel
set_option maxRecDepth 20000 in
theorem fl_X9_begin_73 : Cond.fieldLink RX9 73 "HornCity$Years" "wrongOne" "I" ∈ wsX9_begin := by decide +kernel
set_option maxRecDepth 20000 in
theorem fl_X9_begin_18 : Cond.fieldLink RX9 18 "HornCity$Years" "chalked" "[I" ∈ wsX9_begin := by decide +kernel
set_option maxHeartbeats 4000000 in
set_option maxRecDepth 100000 in
theorem c_X9_begin (l : Launch) (D : va_G) (cI cJ cZ : ClassId) (ys o kd ai ad am ah ch iy mk oq aiq adq amq ahq chq iyq mkq : Nat) (kdf inc dri mat iyf mkf incq driq matq iyfq mkfq : Int → Int) (acs why wac won T tm yr cn Tq tmq yrq cnq : Int) : zMw l yX9_begin wsX9_begin (zRm 2) D cI cJ cZ [.ref ys, .ref oq] [(ys, .inr (7, [.ref o, .ref kd, .int (zI acs), .int (zI why), .int (zI wac), .int (zI won)])), (kd, .inl (cI, 9, .inl (zA kdf))), (o, .inr (2, [.ref ai, .ref ad, .ref am, .ref ah, .ref ch, .int (zI T), .int (zI tm), .int (zI yr)])), (ai, .inl (cI, 9, .inl (zA inc))), (ad, .inl (cI, 9, .inl (zA dri))), (am, .inl (cI, 9, .inl (zA mat))), (ch, .inr (1, [.ref iy, .ref mk, .int (zI cn)])), (iy, .inl (cI, 8, .inl (zA iyf))), (mk, .inl (cI, 8, .inl (zA mkf))), (oq, .inr (2, [.ref aiq, .ref adq, .ref amq, .ref ahq, .ref chq, .int (zI Tq), .int (zI tmq), .int (zI yrq)])), (aiq, .inl (cI, 9, .inl (zA incq))), (adq, .inl (cI, 9, .inl (zA driq))), (amq, .inl (cI, 9, .inl (zA matq))), (chq, .inr (1, [.ref iyq, .ref mkq, .int (zI cnq)])), (iyq, .inl (cI, 8, .inl (zA iyfq))), (mkq, .inl (cI, 8, .inl (zA mkfq)))] (S := (Int → Int) × (Int → Int) × (Int → Int) × Int × Int × Int × (Int → Int) × (Int → Int) × Int × (Int → Int) × Int × Int × Int × Int) (fun u => u.1 = incq ∧ u.2.1 = driq ∧ u.2.2.1 = matq ∧ u.2.2.2.1 = Tq ∧ u.2.2.2.2.1 = tmq ∧ u.2.2.2.2.2.1 = yrq ∧ u.2.2.2.2.2.2.1 = iyfq ∧ u.2.2.2.2.2.2.2.1 = mkfq ∧ u.2.2.2.2.2.2.2.2.1 = cnq ∧ u.2.2.2.2.2.2.2.2.2.1 = (fun _ => -6) ∧ u.2.2.2.2.2.2.2.2.2.2.1 = 0 ∧ u.2.2.2.2.2.2.2.2.2.2.2.1 = 0 ∧ u.2.2.2.2.2.2.2.2.2.2.2.2.1 = -6 ∧ u.2.2.2.2.2.2.2.2.2.2.2.2.2 = -6) (fun _ => none) (fun u => [(ys, .inr (7, [.ref o, .ref kd, .int (zI u.2.2.2.2.2.2.2.2.2.2.1), .int (zI u.2.2.2.2.2.2.2.2.2.2.2.1), .int (zI u.2.2.2.2.2.2.2.2.2.2.2.2.1), .int (zI u.2.2.2.2.2.2.2.2.2.2.2.2.2)])), (kd, .inl (cI, 9, .inl (zA u.2.2.2.2.2.2.2.2.2.1))), (o, .inr (2, [.ref ai, .ref ad, .ref am, .ref ah, .ref ch, .int (zI u.2.2.2.1), .int (zI u.2.2.2.2.1), .int (zI u.2.2.2.2.2.1)])), (ai, .inl (cI, 9, .inl (zA u.1))), (ad, .inl (cI, 9, .inl (zA u.2.1))), (am, .inl (cI, 9, .inl (zA u.2.2.1))), (ch, .inr (1, [.ref iy, .ref mk, .int (zI u.2.2.2.2.2.2.2.2.1)])), (iy, .inl (cI, 8, .inl (zA u.2.2.2.2.2.2.1))), (mk, .inl (cI, 8, .inl (zA u.2.2.2.2.2.2.2.1))), (oq, .inr (2, [.ref aiq, .ref adq, .ref amq, .ref ahq, .ref chq, .int (zI Tq), .int (zI tmq), .int (zI yrq)])), (aiq, .inl (cI, 9, .inl (zA incq))), (adq, .inl (cI, 9, .inl (zA driq))), (amq, .inl (cI, 9, .inl (zA matq))), (chq, .inr (1, [.ref iyq, .ref mkq, .int (zI cnq)])), (iyq, .inl (cI, 8, .inl (zA iyfq))), (mkq, .inl (cI, 8, .inl (zA mkfq)))]) := by
  refine zMw_v (cc := cX9_begin) (maxL := 3) (by decide +kernel) rfl (Nat.le_of_ble_eq_true rfl) rfl (fun _ => rfl) ?_
  intro p e s m args below meth c Q H0 ls F hK hz hl hret
  obtain ⟨hx, hb, hml, hown0, hts⟩ := id F
  have hown : s.vm.findClass RX9 = some m.cls := hown0
  obtain ⟨ws0, hw0⟩ : ∃ w : va_W, w = [(ys, .inr (7, [.ref o, .ref kd, .int (zI acs), .int (zI why), .int (zI wac), .int (zI won)])), (kd, .inl (cI, 9, .inl (zA kdf))), (o, .inr (2, [.ref ai, .ref ad, .ref am, .ref ah, .ref ch, .int (zI T), .int (zI tm), .int (zI yr)])), (ai, .inl (cI, 9, .inl (zA inc))), (ad, .inl (cI, 9, .inl (zA dri))), (am, .inl (cI, 9, .inl (zA mat))), (ch, .inr (1, [.ref iy, .ref mk, .int (zI cn)])), (iy, .inl (cI, 8, .inl (zA iyf))), (mk, .inl (cI, 8, .inl (zA mkf))), (oq, .inr (2, [.ref aiq, .ref adq, .ref amq, .ref ahq, .ref chq, .int (zI Tq), .int (zI tmq), .int (zI yrq)])), (aiq, .inl (cI, 9, .inl (zA incq))), (adq, .inl (cI, 9, .inl (zA driq))), (amq, .inl (cI, 9, .inl (zA matq))), (chq, .inr (1, [.ref iyq, .ref mkq, .int (zI cnq)])), (iyq, .inl (cI, 8, .inl (zA iyfq))), (mkq, .inl (cI, 8, .inl (zA mkfq)))] := ⟨_, rfl⟩
  rw [← hw0] at hret
  have hz : zH D (zF ws0) H0 [(ys, .inr (7, [.ref o, .ref kd, .int (zI acs), .int (zI why), .int (zI wac), .int (zI won)])), (kd, .inl (cI, 9, .inl (zA kdf))), (o, .inr (2, [.ref ai, .ref ad, .ref am, .ref ah, .ref ch, .int (zI T), .int (zI tm), .int (zI yr)])), (ai, .inl (cI, 9, .inl (zA inc))), (ad, .inl (cI, 9, .inl (zA dri))), (am, .inl (cI, 9, .inl (zA mat))), (ch, .inr (1, [.ref iy, .ref mk, .int (zI cn)])), (iy, .inl (cI, 8, .inl (zA iyf))), (mk, .inl (cI, 8, .inl (zA mkf))), (oq, .inr (2, [.ref aiq, .ref adq, .ref amq, .ref ahq, .ref chq, .int (zI Tq), .int (zI tmq), .int (zI yrq)])), (aiq, .inl (cI, 9, .inl (zA incq))), (adq, .inl (cI, 9, .inl (zA driq))), (amq, .inl (cI, 9, .inl (zA matq))), (chq, .inr (1, [.ref iyq, .ref mkq, .int (zI cnq)])), (iyq, .inl (cI, 8, .inl (zA iyfq))), (mkq, .inl (cI, 8, .inl (zA mkfq)))] H0 [] := by rw [hw0]; exact hz
  have hl : lv_has ls 3 [(0, .ref ys), (1, .ref oq)] := hl
  refine lv_aload_n hx hb dX9_begin_0 rfl (lv_at hl 0 rfl) ?_
  refine z_get (C := RX9) (T := TX9) (N := 6) (ref := "HornCity$Years") hx hb hts hin_X9_begin_X9 hown hK hz 0 rfl rfl 0 (by decide) (hts _ fl_X9_begin_12) rfl rfl dX9_begin_1 ?_
  refine lv_aload_n hx hb dX9_begin_4 rfl (lv_at hl 1 rfl) ?_
  refine z_callVwv (As := [.ref oq]) (rest := []) (C := RX2) (T := TX2) (N := 8) F hK hz hl (c_X2_become l D cI cJ cZ o ai ad am ah ch iy mk oq aiq adq amq ahq chq iyq mkq inc dri mat iyf mkf incq driq matq iyfq mkfq T tm yr cn Tq tmq yrq cnq ) (cwV 1 hts gX9_begin_X2_become rfl rfl rfl (by decide +kernel) ⟨Nat.le_of_ble_eq_true rfl, Nat.le_of_ble_eq_true rfl⟩) rfl 2 rfl [2, 3, 4, 5, 6, 7, 8, 9, 10, 11, 12, 13, 14, 15] rfl rfl (by decide +kernel) rfl rfl (Nat.le_of_ble_eq_true rfl) ⟨Nat.le_of_ble_eq_true rfl, Nat.le_of_ble_eq_true rfl⟩ dX9_begin_5 (fun u H locs hu hz => ?_)
  obtain ⟨inc1_1, dri1_2, mat1_3, T1_4, tm1_5, yr1_6, y1_7, m1_8, c1_9⟩ := u
  have hu : inc1_1 = incq ∧ dri1_2 = driq ∧ mat1_3 = matq ∧ T1_4 = Tq ∧ tm1_5 = tmq ∧ yr1_6 = yrq ∧ y1_7 = iyfq ∧ m1_8 = mkfq ∧ c1_9 = cnq := hu
  obtain ⟨g5_0, g5_1, g5_2, g5_3, g5_4, g5_5, g5_6, g5_7, g5_8⟩ := hu
  have g5_0 := g5_0.symm
  subst g5_0
  have g5_1 := g5_1.symm
  subst g5_1
  have g5_2 := g5_2.symm
  subst g5_2
  have g5_3 := g5_3.symm
  subst g5_3
  have g5_4 := g5_4.symm
  subst g5_4
  have g5_5 := g5_5.symm
  subst g5_5
  have g5_6 := g5_6.symm
  subst g5_6
  have g5_7 := g5_7.symm
  subst g5_7
  have g5_8 := g5_8.symm
  subst g5_8
  have hz : zH D (zF ws0) H0 [(ys, .inr (7, [.ref o, .ref kd, .int (zI acs), .int (zI why), .int (zI wac), .int (zI won)])), (kd, .inl (cI, 9, .inl (zA kdf))), (o, .inr (2, [.ref ai, .ref ad, .ref am, .ref ah, .ref ch, .int (zI Tq), .int (zI tmq), .int (zI yrq)])), (ai, .inl (cI, 9, .inl (zA incq))), (ad, .inl (cI, 9, .inl (zA driq))), (am, .inl (cI, 9, .inl (zA matq))), (ch, .inr (1, [.ref iy, .ref mk, .int (zI cnq)])), (iy, .inl (cI, 8, .inl (zA iyfq))), (mk, .inl (cI, 8, .inl (zA mkfq))), (oq, .inr (2, [.ref aiq, .ref adq, .ref amq, .ref ahq, .ref chq, .int (zI Tq), .int (zI tmq), .int (zI yrq)])), (aiq, .inl (cI, 9, .inl (zA incq))), (adq, .inl (cI, 9, .inl (zA driq))), (amq, .inl (cI, 9, .inl (zA matq))), (chq, .inr (1, [.ref iyq, .ref mkq, .int (zI cnq)])), (iyq, .inl (cI, 8, .inl (zA iyfq))), (mkq, .inl (cI, 8, .inl (zA mkfq)))] H locs := hz
  refine lv_aload_n hx hb dX9_begin_8 rfl (lv_at hl 0 rfl) ?_
  refine z_iconst hx hb dX9_begin_9 ?_
  refine z_put (C := RX9) (T := TX9) (N := 6) (ref := "HornCity$Years") (ty := .int) hx hb hts hin_X9_begin_X9 hown hK hz tyX9 tyX9_ok nmX9 0 rfl rfl 2 (by decide) (hts _ fl_X9_begin_57) rfl rfl (by decide +kernel) rfl rfl (Nat.le_of_ble_eq_true rfl) dX9_begin_10 (fun H locs hz => ?_)
  have hz : zH D (zF ws0) H0 [(ys, .inr (7, [.ref o, .ref kd, .int (zI 0), .int (zI why), .int (zI wac), .int (zI won)])), (kd, .inl (cI, 9, .inl (zA kdf))), (o, .inr (2, [.ref ai, .ref ad, .ref am, .ref ah, .ref ch, .int (zI Tq), .int (zI tmq), .int (zI yrq)])), (ai, .inl (cI, 9, .inl (zA incq))), (ad, .inl (cI, 9, .inl (zA driq))), (am, .inl (cI, 9, .inl (zA matq))), (ch, .inr (1, [.ref iy, .ref mk, .int (zI cnq)])), (iy, .inl (cI, 8, .inl (zA iyfq))), (mk, .inl (cI, 8, .inl (zA mkfq))), (oq, .inr (2, [.ref aiq, .ref adq, .ref amq, .ref ahq, .ref chq, .int (zI Tq), .int (zI tmq), .int (zI yrq)])), (aiq, .inl (cI, 9, .inl (zA incq))), (adq, .inl (cI, 9, .inl (zA driq))), (amq, .inl (cI, 9, .inl (zA matq))), (chq, .inr (1, [.ref iyq, .ref mkq, .int (zI cnq)])), (iyq, .inl (cI, 8, .inl (zA iyfq))), (mkq, .inl (cI, 8, .inl (zA mkfq)))] H locs := hz
  refine lv_aload_n hx hb dX9_begin_13 rfl (lv_at hl 0 rfl) ?_
  refine z_iconst hx hb dX9_begin_14 ?_
  refine z_put (C := RX9) (T := TX9) (N := 6) (ref := "HornCity$Years") (ty := .int) hx hb hts hin_X9_begin_X9 hown hK hz tyX9 tyX9_ok nmX9 0 rfl rfl 3 (by decide) (hts _ fl_X9_begin_46) rfl rfl (by decide +kernel) rfl rfl (Nat.le_of_ble_eq_true rfl) dX9_begin_15 (fun H locs hz => ?_)
  have hz : zH D (zF ws0) H0 [(ys, .inr (7, [.ref o, .ref kd, .int (zI 0), .int (zI 0), .int (zI wac), .int (zI won)])), (kd, .inl (cI, 9, .inl (zA kdf))), (o, .inr (2, [.ref ai, .ref ad, .ref am, .ref ah, .ref ch, .int (zI Tq), .int (zI tmq), .int (zI yrq)])), (ai, .inl (cI, 9, .inl (zA incq))), (ad, .inl (cI, 9, .inl (zA driq))), (am, .inl (cI, 9, .inl (zA matq))), (ch, .inr (1, [.ref iy, .ref mk, .int (zI cnq)])), (iy, .inl (cI, 8, .inl (zA iyfq))), (mk, .inl (cI, 8, .inl (zA mkfq))), (oq, .inr (2, [.ref aiq, .ref adq, .ref amq, .ref ahq, .ref chq, .int (zI Tq), .int (zI tmq), .int (zI yrq)])), (aiq, .inl (cI, 9, .inl (zA incq))), (adq, .inl (cI, 9, .inl (zA driq))), (amq, .inl (cI, 9, .inl (zA matq))), (chq, .inr (1, [.ref iyq, .ref mkq, .int (zI cnq)])), (iyq, .inl (cI, 8, .inl (zA iyfq))), (mkq, .inl (cI, 8, .inl (zA mkfq)))] H locs := hz
  refine lv_aload_n hx hb dX9_begin_18 rfl (lv_at hl 0 rfl) ?_
  refine z_bipush hx hb dX9_begin_19 (by decide) ?_
  refine z_put (C := RX9) (T := TX9) (N := 6) (ref := "HornCity$Years") (ty := .int) hx hb hts hin_X9_begin_X9 hown hK hz tyX9 tyX9_ok nmX9 0 rfl rfl 4 (by decide) (hts _ fl_X9_begin_70) rfl rfl (by decide +kernel) rfl rfl (Nat.le_of_ble_eq_true rfl) dX9_begin_21 (fun H locs hz => ?_)
  have hz : zH D (zF ws0) H0 [(ys, .inr (7, [.ref o, .ref kd, .int (zI 0), .int (zI 0), .int (zI (-6)), .int (zI won)])), (kd, .inl (cI, 9, .inl (zA kdf))), (o, .inr (2, [.ref ai, .ref ad, .ref am, .ref ah, .ref ch, .int (zI Tq), .int (zI tmq), .int (zI yrq)])), (ai, .inl (cI, 9, .inl (zA incq))), (ad, .inl (cI, 9, .inl (zA driq))), (am, .inl (cI, 9, .inl (zA matq))), (ch, .inr (1, [.ref iy, .ref mk, .int (zI cnq)])), (iy, .inl (cI, 8, .inl (zA iyfq))), (mk, .inl (cI, 8, .inl (zA mkfq))), (oq, .inr (2, [.ref aiq, .ref adq, .ref amq, .ref ahq, .ref chq, .int (zI Tq), .int (zI tmq), .int (zI yrq)])), (aiq, .inl (cI, 9, .inl (zA incq))), (adq, .inl (cI, 9, .inl (zA driq))), (amq, .inl (cI, 9, .inl (zA matq))), (chq, .inr (1, [.ref iyq, .ref mkq, .int (zI cnq)])), (iyq, .inl (cI, 8, .inl (zA iyfq))), (mkq, .inl (cI, 8, .inl (zA mkfq)))] H locs := hz
  refine lv_aload_n hx hb dX9_begin_24 rfl (lv_at hl 0 rfl) ?_
  refine z_bipush hx hb dX9_begin_25 (by decide) ?_
  refine z_put (C := RX9) (T := TX9) (N := 6) (ref := "HornCity$Years") (ty := .int) hx hb hts hin_X9_begin_X9 hown hK hz tyX9 tyX9_ok nmX9 0 rfl rfl 5 (by decide) (hts _ fl_X9_begin_73) rfl rfl (by decide +kernel) rfl rfl (Nat.le_of_ble_eq_true rfl) dX9_begin_27 (fun H locs hz => ?_)
  have hz : zH D (zF ws0) H0 [(ys, .inr (7, [.ref o, .ref kd, .int (zI 0), .int (zI 0), .int (zI (-6)), .int (zI (-6))])), (kd, .inl (cI, 9, .inl (zA kdf))), (o, .inr (2, [.ref ai, .ref ad, .ref am, .ref ah, .ref ch, .int (zI Tq), .int (zI tmq), .int (zI yrq)])), (ai, .inl (cI, 9, .inl (zA incq))), (ad, .inl (cI, 9, .inl (zA driq))), (am, .inl (cI, 9, .inl (zA matq))), (ch, .inr (1, [.ref iy, .ref mk, .int (zI cnq)])), (iy, .inl (cI, 8, .inl (zA iyfq))), (mk, .inl (cI, 8, .inl (zA mkfq))), (oq, .inr (2, [.ref aiq, .ref adq, .ref amq, .ref ahq, .ref chq, .int (zI Tq), .int (zI tmq), .int (zI yrq)])), (aiq, .inl (cI, 9, .inl (zA incq))), (adq, .inl (cI, 9, .inl (zA driq))), (amq, .inl (cI, 9, .inl (zA matq))), (chq, .inr (1, [.ref iyq, .ref mkq, .int (zI cnq)])), (iyq, .inl (cI, 8, .inl (zA iyfq))), (mkq, .inl (cI, 8, .inl (zA mkfq)))] H locs := hz
  refine z_iconst hx hb dX9_begin_30 ?_
  refine lv_istore_n (lv' := [(2, .int (zI 0)), (0, .ref ys), (1, .ref oq)]) hx hb dX9_begin_31 rfl hl (Nat.le_of_ble_eq_true rfl) rfl (fun ls hl => ?_)
  have L32 : ∀ (n : Nat) (i : Int) (kx : Int → Int) (H : Heap) (locs : List Loc) (ls : Array Slot), ((9 - i).toNat = n) → (0 ≤ i ∧ i ≤ 9) → (∀ j, 0 ≤ j → j < i → kx j = (fun _ => -6 : Int → Int) j) → zH D (zF ws0) H0 [(ys, .inr (7, [.ref o, .ref kd, .int (zI 0), .int (zI 0), .int (zI (-6)), .int (zI (-6))])), (kd, .inl (cI, 9, .inl (zA kx))), (o, .inr (2, [.ref ai, .ref ad, .ref am, .ref ah, .ref ch, .int (zI Tq), .int (zI tmq), .int (zI yrq)])), (ai, .inl (cI, 9, .inl (zA incq))), (ad, .inl (cI, 9, .inl (zA driq))), (am, .inl (cI, 9, .inl (zA matq))), (ch, .inr (1, [.ref iy, .ref mk, .int (zI cnq)])), (iy, .inl (cI, 8, .inl (zA iyfq))), (mk, .inl (cI, 8, .inl (zA mkfq))), (oq, .inr (2, [.ref aiq, .ref adq, .ref amq, .ref ahq, .ref chq, .int (zI Tq), .int (zI tmq), .int (zI yrq)])), (aiq, .inl (cI, 9, .inl (zA incq))), (adq, .inl (cI, 9, .inl (zA driq))), (amq, .inl (cI, 9, .inl (zA matq))), (chq, .inr (1, [.ref iyq, .ref mkq, .int (zI cnq)])), (iyq, .inl (cI, 8, .inl (zA iyfq))), (mkq, .inl (cI, 8, .inl (zA mkfq)))] H locs → lv_has ls 3 [(2, .int (zI i)), (0, .ref ys), (1, .ref oq)] → W p l e (zRm 2) s m args below meth c H locs 0 0 Q (F0 m 32 ls []) := by
    intro n
    refine Nat.strongRecOn n ?_
    intro n ih32 i kx H locs ls hn32 h0 hkx hz hl
    refine lv_iload_n hx hb dX9_begin_32 rfl (lv_at hl 0 rfl) ?_
    refine z_bipush hx hb dX9_begin_33 (by decide) ?_
    refine z_icmp_ge (tgt := 52) hx hb dX9_begin_35 (by decide) (by omega) (by decide) (fun h35 => ?_) (fun h35 => ?_)
    ·
      have hz := zH_ext hz 1 (fun _ => -6) rfl (fun j a b => hkx j a (by omega))
      have hz : zH D (zF ws0) H0 [(ys, .inr (7, [.ref o, .ref kd, .int (zI 0), .int (zI 0), .int (zI (-6)), .int (zI (-6))])), (kd, .inl (cI, 9, .inl (zA (fun _ => -6)))), (o, .inr (2, [.ref ai, .ref ad, .ref am, .ref ah, .ref ch, .int (zI Tq), .int (zI tmq), .int (zI yrq)])), (ai, .inl (cI, 9, .inl (zA incq))), (ad, .inl (cI, 9, .inl (zA driq))), (am, .inl (cI, 9, .inl (zA matq))), (ch, .inr (1, [.ref iy, .ref mk, .int (zI cnq)])), (iy, .inl (cI, 8, .inl (zA iyfq))), (mk, .inl (cI, 8, .inl (zA mkfq))), (oq, .inr (2, [.ref aiq, .ref adq, .ref amq, .ref ahq, .ref chq, .int (zI Tq), .int (zI tmq), .int (zI yrq)])), (aiq, .inl (cI, 9, .inl (zA incq))), (adq, .inl (cI, 9, .inl (zA driq))), (amq, .inl (cI, 9, .inl (zA matq))), (chq, .inr (1, [.ref iyq, .ref mkq, .int (zI cnq)])), (iyq, .inl (cI, 8, .inl (zA iyfq))), (mkq, .inl (cI, 8, .inl (zA mkfq)))] H locs := hz
      exact hret ((incq : Int → Int), (driq : Int → Int), (matq : Int → Int), (Tq : Int), (tmq : Int), (yrq : Int), (iyfq : Int → Int), (mkfq : Int → Int), (cnq : Int), (fun _ => -6 : Int → Int), (0 : Int), (0 : Int), ((-6) : Int), ((-6) : Int)) dX9_begin_52 (show incq = incq ∧ driq = driq ∧ matq = matq ∧ Tq = Tq ∧ tmq = tmq ∧ yrq = yrq ∧ iyfq = iyfq ∧ mkfq = mkfq ∧ cnq = cnq ∧ (fun _ => -6) = (fun _ => -6) ∧ 0 = 0 ∧ 0 = 0 ∧ (-6) = -6 ∧ (-6) = -6 from ⟨rfl, rfl, rfl, rfl, rfl, rfl, rfl, rfl, rfl, rfl, rfl, rfl, rfl, rfl⟩) hz
    ·
      refine lv_aload_n hx hb dX9_begin_38 rfl (lv_at hl 1 rfl) ?_
      refine z_get (C := RX9) (T := TX9) (N := 6) (ref := "HornCity$Years") hx hb hts hin_X9_begin_X9 hown hK hz 0 rfl rfl 1 (by decide) (hts _ fl_X9_begin_18) rfl rfl dX9_begin_39 ?_
      refine lv_iload_n hx hb dX9_begin_42 rfl (lv_at hl 0 rfl) ?_
      refine z_bipush hx hb dX9_begin_43 (by decide) ?_
      refine z_iast hx hb hK hz 1 rfl (by omega) (by decide) dX9_begin_45 (fun H locs hz => ?_)
      have hz : zH D (zF ws0) H0 [(ys, .inr (7, [.ref o, .ref kd, .int (zI 0), .int (zI 0), .int (zI (-6)), .int (zI (-6))])), (kd, .inl (cI, 9, .inl (zA (zU kx i (-6))))), (o, .inr (2, [.ref ai, .ref ad, .ref am, .ref ah, .ref ch, .int (zI Tq), .int (zI tmq), .int (zI yrq)])), (ai, .inl (cI, 9, .inl (zA incq))), (ad, .inl (cI, 9, .inl (zA driq))), (am, .inl (cI, 9, .inl (zA matq))), (ch, .inr (1, [.ref iy, .ref mk, .int (zI cnq)])), (iy, .inl (cI, 8, .inl (zA iyfq))), (mk, .inl (cI, 8, .inl (zA mkfq))), (oq, .inr (2, [.ref aiq, .ref adq, .ref amq, .ref ahq, .ref chq, .int (zI Tq), .int (zI tmq), .int (zI yrq)])), (aiq, .inl (cI, 9, .inl (zA incq))), (adq, .inl (cI, 9, .inl (zA driq))), (amq, .inl (cI, 9, .inl (zA matq))), (chq, .inr (1, [.ref iyq, .ref mkq, .int (zI cnq)])), (iyq, .inl (cI, 8, .inl (zA iyfq))), (mkq, .inl (cI, 8, .inl (zA mkfq)))] H locs := hz
      refine z_iinc (lv' := [(2, .int (zI (i + 1))), (0, .ref ys), (1, .ref oq)]) hx hb dX9_begin_46 hl (k := 0) rfl (Nat.le_of_ble_eq_true rfl) rfl (fun ls hl => ?_)
      refine lv_goto (tgt := 32) hx hb dX9_begin_49 (by decide) ?_
      exact ih32 _ (by omega) (i + 1) (zU kx i (-6)) H locs ls rfl (by omega) (zU_cp hkx) hz (lv_sub hl [0, 1, 2] rfl)
  exact L32 _ 0 kdf H locs ls rfl (by decide) (fun j h1 h2 => absurd h1 (by omega)) hz (lv_sub hl [0, 1, 2] rfl)

set_option maxRecDepth 20000 in
theorem hin_X9_chalkOf_X9 : ∀ w ∈ u_ws RX9 TX9 6, w ∈ wsX9_chalkOf := by decide +kernel
set_option maxRecDepth 20000 in
theorem fl_X9_chalkOf_18 : Cond.fieldLink RX9 18 "HornCity$Years" "chalked" "[I" ∈ wsX9_chalkOf := by decide +kernel
set_option maxHeartbeats 4000000 in
set_option maxRecDepth 100000 in
theorem c_X9_chalkOf (l : Launch) (D : va_G) (cI cJ cZ : ClassId) (ys o kd : Nat) (kdf : Int → Int) (acs why wac won one : Int) (hr : (-2147483648 ≤ one ∧ one ≤ 2147483647)) : zMp l yX9_chalkOf wsX9_chalkOf (zRm 0) D cI cJ cZ [.ref ys, .int (zI one)] [(ys, .inr (7, [.ref o, .ref kd, .int (zI acs), .int (zI why), .int (zI wac), .int (zI won)])), (kd, .inl (cI, 9, .inl (zA kdf)))] (some (.int (zI (if 0 ≤ one ∧ one < 9 then kdf one else -6)))) := by
  refine zMp_i (cc := cX9_chalkOf) (maxL := 2) (by decide +kernel) rfl (Nat.le_of_ble_eq_true rfl) rfl ?_
  intro p e s m args below meth c Q H ls F hK hz hl hret
  obtain ⟨hx, hb, hml, hown0, hts⟩ := id F
  have hown : s.vm.findClass RX9 = some m.cls := hown0
  obtain ⟨ws0, hw0⟩ : ∃ w : va_W, w = [(ys, .inr (7, [.ref o, .ref kd, .int (zI acs), .int (zI why), .int (zI wac), .int (zI won)])), (kd, .inl (cI, 9, .inl (zA kdf)))] := ⟨_, rfl⟩
  have hz : zH D (zF ws0) H [(ys, .inr (7, [.ref o, .ref kd, .int (zI acs), .int (zI why), .int (zI wac), .int (zI won)])), (kd, .inl (cI, 9, .inl (zA kdf)))] H [] := by rw [hw0]; exact hz
  have hl : lv_has ls 2 [(0, .ref ys), (1, .int (zI one))] := hl
  refine lv_iload_n hx hb dX9_chalkOf_0 rfl (lv_at hl 1 rfl) ?_
  refine z_if_lt (tgt := 19) hx hb dX9_chalkOf_1 (by decide) (by omega) (fun h1 => ?_) (fun h1 => ?_)
  ·
    refine z_bipush hx hb dX9_chalkOf_19 (by decide) ?_
    exact hret dX9_chalkOf_21 (congrArg (fun z => some (Value.int (zI z))) (show ((-6) : Int) = (if 0 ≤ one ∧ one < 9 then kdf one else -6) by first | rw [if_pos (by omega)] | rw [if_neg (by omega)]))
  ·
    refine lv_iload_n hx hb dX9_chalkOf_4 rfl (lv_at hl 1 rfl) ?_
    refine z_bipush hx hb dX9_chalkOf_5 (by decide) ?_
    refine z_icmp_ge (tgt := 19) hx hb dX9_chalkOf_7 (by decide) (by omega) (by decide) (fun h7 => ?_) (fun h7 => ?_)
    ·
      refine z_bipush hx hb dX9_chalkOf_19 (by decide) ?_
      exact hret dX9_chalkOf_21 (congrArg (fun z => some (Value.int (zI z))) (show ((-6) : Int) = (if 0 ≤ one ∧ one < 9 then kdf one else -6) by first | rw [if_pos (by omega)] | rw [if_neg (by omega)]))
    ·
      refine lv_aload_n hx hb dX9_chalkOf_10 rfl (lv_at hl 0 rfl) ?_
      refine z_get (C := RX9) (T := TX9) (N := 6) (ref := "HornCity$Years") hx hb hts hin_X9_chalkOf_X9 hown hK hz 0 rfl rfl 1 (by decide) (hts _ fl_X9_chalkOf_18) rfl rfl dX9_chalkOf_11 ?_
      refine lv_iload_n hx hb dX9_chalkOf_14 rfl (lv_at hl 1 rfl) ?_
      refine z_iald hx hb hK hz 1 rfl (by omega) (by decide) dX9_chalkOf_15 ?_
      refine lv_goto (tgt := 21) hx hb dX9_chalkOf_16 (by decide) ?_
      exact hret dX9_chalkOf_21 (congrArg (fun z => some (Value.int (zI z))) (show ((kdf one) : Int) = (if 0 ≤ one ∧ one < 9 then kdf one else -6) by first | rw [if_pos (by omega)] | rw [if_neg (by omega)]))

set_option maxHeartbeats 4000000 in
set_option maxRecDepth 100000 in
theorem c_X9_kindOfLot (l : Launch) (D : va_G) (cI cJ cZ : ClassId) (lot : Int) (hr : (-2147483648 ≤ lot ∧ lot ≤ 2147483647)) : zMp l yX9_kindOfLot wsX9_kindOfLot (zRm 0) D cI cJ cZ [.int (zI lot)] [] (some (.int (zI (kolS lot)))) := by
  refine zMp_i (cc := cX9_kindOfLot) (maxL := 1) (by decide +kernel) rfl (Nat.le_of_ble_eq_true rfl) rfl ?_
  intro p e s m args below meth c Q H ls F hK hz hl hret
  obtain ⟨hx, hb, hml, hown0, hts⟩ := id F
  have hown : s.vm.findClass RX9 = some m.cls := hown0
  obtain ⟨ws0, hw0⟩ : ∃ w : va_W, w = [] := ⟨_, rfl⟩
  have hz : zH D (zF ws0) H [] H [] := by rw [hw0]; exact hz
  have hl : lv_has ls 1 [(0, .int (zI lot))] := hl
  refine lv_iload_n hx hb dX9_kindOfLot_0 rfl (lv_at hl 0 rfl) ?_
  by_cases h1 : lot = 0
  ·
    refine z_tabIn (k := 0) (off := 35) (tgt := 36) hx hb dX9_kindOfLot_1 (by omega) (by decide) (by decide) (by decide +kernel) (by decide) ?_
    refine z_bipush hx hb dX9_kindOfLot_36 (by decide) ?_
    exact hret dX9_kindOfLot_38 (congrArg (fun z => some (Value.int (zI z))) (show (43 : Int) = (kolS lot) by simp [kolS, h1]))
  ·
    by_cases h1q : lot = 1
    ·
      refine z_tabIn (k := 1) (off := 35) (tgt := 36) hx hb dX9_kindOfLot_1 (by omega) (by decide) (by decide) (by decide +kernel) (by decide) ?_
      refine z_bipush hx hb dX9_kindOfLot_36 (by decide) ?_
      exact hret dX9_kindOfLot_38 (congrArg (fun z => some (Value.int (zI z))) (show (43 : Int) = (kolS lot) by simp [kolS, h1, h1q]))
    ·
      by_cases h1qq : lot = 2
      ·
        refine z_tabIn (k := 2) (off := 38) (tgt := 39) hx hb dX9_kindOfLot_1 (by omega) (by decide) (by decide) (by decide +kernel) (by decide) ?_
        refine z_bipush hx hb dX9_kindOfLot_39 (by decide) ?_
        exact hret dX9_kindOfLot_41 (congrArg (fun z => some (Value.int (zI z))) (show (45 : Int) = (kolS lot) by simp [kolS, h1, h1q, h1qq]))
      ·
        by_cases h1qqq : lot = 3
        ·
          refine z_tabIn (k := 3) (off := 41) (tgt := 42) hx hb dX9_kindOfLot_1 (by omega) (by decide) (by decide) (by decide +kernel) (by decide) ?_
          refine z_bipush hx hb dX9_kindOfLot_42 (by decide) ?_
          exact hret dX9_kindOfLot_44 (congrArg (fun z => some (Value.int (zI z))) (show (38 : Int) = (kolS lot) by simp [kolS, h1, h1q, h1qq, h1qqq]))
        ·
          by_cases h1qqqq : lot = 4
          ·
            refine z_tabIn (k := 4) (off := 44) (tgt := 45) hx hb dX9_kindOfLot_1 (by omega) (by decide) (by decide) (by decide +kernel) (by decide) ?_
            refine z_bipush hx hb dX9_kindOfLot_45 (by decide) ?_
            exact hret dX9_kindOfLot_47 (congrArg (fun z => some (Value.int (zI z))) (show (47 : Int) = (kolS lot) by simp [kolS, h1, h1q, h1qq, h1qqq, h1qqqq]))
          ·
            refine z_tabOut (tgt := 48) hx hb dX9_kindOfLot_1 (by omega) (by omega) (by decide) ?_
            refine z_bipush hx hb dX9_kindOfLot_48 (by decide) ?_
            exact hret dX9_kindOfLot_50 (congrArg (fun z => some (Value.int (zI z))) (show (46 : Int) = (kolS lot) by simp [kolS, h1, h1q, h1qq, h1qqq, h1qqqq]))

set_option maxRecDepth 20000 in
theorem hin_X9_putChalk_X9 : ∀ w ∈ u_ws RX9 TX9 6, w ∈ wsX9_putChalk := by decide +kernel
set_option maxRecDepth 20000 in
theorem fl_X9_putChalk_12 : Cond.fieldLink RX9 12 "HornCity$Years" "city" "LHornCity$City;" ∈ wsX9_putChalk := by decide +kernel
set_option maxRecDepth 20000 in
theorem fl_X9_putChalk_18 : Cond.fieldLink RX9 18 "HornCity$Years" "chalked" "[I" ∈ wsX9_putChalk := by decide +kernel
set_option maxRecDepth 20000 in
theorem fl_X9_putChalk_70 : Cond.fieldLink RX9 70 "HornCity$Years" "wrongAct" "I" ∈ wsX9_putChalk := by decide +kernel
set_option maxRecDepth 20000 in
theorem fl_X9_putChalk_57 : Cond.fieldLink RX9 57 "HornCity$Years" "acts" "I" ∈ wsX9_putChalk := by decide +kernel
set_option maxRecDepth 20000 in
theorem fl_X9_putChalk_73 : Cond.fieldLink RX9 73 "HornCity$Years" "wrongOne" "I" ∈ wsX9_putChalk := by decide +kernel
set_option maxHeartbeats 4000000 in
set_option maxRecDepth 100000 in
theorem c_X9_putChalk (l : Launch) (D : va_G) (cI cJ cZ : ClassId) (ys o kd ai ad am ah ch : Nat) (kdf inc : Int → Int) (acs why wac won T tm yr one : Int) (fw : Prop) [Decidable fw] (ho : 0 ≤ one ∧ one < 9) (hT : 0 ≤ T ∧ T < 512) (hbi : zBd inc 9 0 179) (htm : 0 ≤ tm ∧ tm ≤ 1000) (hwa : -6 ≤ wac ∧ wac ≤ 1000) : zMw l yX9_putChalk wsX9_putChalk (zRm 3) D cI cJ cZ [.ref ys, .int (zI one), .int (zI (if fw then 1 else 0))] [(ys, .inr (7, [.ref o, .ref kd, .int (zI acs), .int (zI why), .int (zI wac), .int (zI won)])), (kd, .inl (cI, 9, .inl (zA kdf))), (o, .inr (2, [.ref ai, .ref ad, .ref am, .ref ah, .ref ch, .int (zI T), .int (zI tm), .int (zI yr)])), (ai, .inl (cI, 9, .inl (zA inc)))] (S := (Int → Int) × Int × Int) (fun u => u.1 = zU kdf one (cvS T inc tm one fw) ∧ u.2.1 = (if ¬ cvS T inc tm one fw = inO T inc one ∧ wac = -6 then acs else wac) ∧ u.2.2 = (if ¬ cvS T inc tm one fw = inO T inc one ∧ wac = -6 then one else won)) (fun _ => none) (fun u => [(ys, .inr (7, [.ref o, .ref kd, .int (zI acs), .int (zI why), .int (zI u.2.1), .int (zI u.2.2)])), (kd, .inl (cI, 9, .inl (zA u.1))), (o, .inr (2, [.ref ai, .ref ad, .ref am, .ref ah, .ref ch, .int (zI T), .int (zI tm), .int (zI yr)])), (ai, .inl (cI, 9, .inl (zA inc)))]) := by
  refine zMw_v (cc := cX9_putChalk) (maxL := 4) (by decide +kernel) rfl (Nat.le_of_ble_eq_true rfl) rfl (fun _ => rfl) ?_
  intro p e s m args below meth c Q H0 ls F hK hz hl hret
  obtain ⟨hx, hb, hml, hown0, hts⟩ := id F
  have hown : s.vm.findClass RX9 = some m.cls := hown0
  obtain ⟨ws0, hw0⟩ : ∃ w : va_W, w = [(ys, .inr (7, [.ref o, .ref kd, .int (zI acs), .int (zI why), .int (zI wac), .int (zI won)])), (kd, .inl (cI, 9, .inl (zA kdf))), (o, .inr (2, [.ref ai, .ref ad, .ref am, .ref ah, .ref ch, .int (zI T), .int (zI tm), .int (zI yr)])), (ai, .inl (cI, 9, .inl (zA inc)))] := ⟨_, rfl⟩
  rw [← hw0] at hret
  have hz : zH D (zF ws0) H0 [(ys, .inr (7, [.ref o, .ref kd, .int (zI acs), .int (zI why), .int (zI wac), .int (zI won)])), (kd, .inl (cI, 9, .inl (zA kdf))), (o, .inr (2, [.ref ai, .ref ad, .ref am, .ref ah, .ref ch, .int (zI T), .int (zI tm), .int (zI yr)])), (ai, .inl (cI, 9, .inl (zA inc)))] H0 [] := by rw [hw0]; exact hz
  have hl : lv_has ls 4 [(0, .ref ys), (1, .int (zI one)), (2, .int (zI (if fw then 1 else 0)))] := hl
  refine lv_iload_n hx hb dX9_putChalk_0 rfl (lv_at hl 1 rfl) ?_
  refine z_if_lt (tgt := 10) hx hb dX9_putChalk_1 (by decide) (by omega) (fun h1 => ?_) (fun h1 => ?_)
  ·
    exfalso; omega
  ·
    refine lv_iload_n hx hb dX9_putChalk_4 rfl (lv_at hl 1 rfl) ?_
    refine z_bipush hx hb dX9_putChalk_5 (by decide) ?_
    refine z_icmp_lt (tgt := 11) hx hb dX9_putChalk_7 (by decide) (by omega) (by decide) (fun h7 => ?_) (fun h7 => ?_)
    ·
      refine lv_aload_n hx hb dX9_putChalk_11 rfl (lv_at hl 0 rfl) ?_
      refine z_get (C := RX9) (T := TX9) (N := 6) (ref := "HornCity$Years") hx hb hts hin_X9_putChalk_X9 hown hK hz 0 rfl rfl 0 (by decide) (hts _ fl_X9_putChalk_12) rfl rfl dX9_putChalk_12 ?_
      refine lv_iload_n hx hb dX9_putChalk_15 rfl (lv_at hl 1 rfl) ?_
      refine z_callVp (As := [.int (zI one)]) (rest := []) (C := RX2) (T := TX2) (N := 8) F hK hz hl (c_X2_chalkFor l D cI cJ cZ o ai ad am ah ch inc T tm yr one (by omega) (by first | assumption | omega) (hbi) (by omega)) (cwV 1 hts gX9_putChalk_X2_chalkFor rfl rfl rfl (by decide +kernel) ⟨Nat.le_of_ble_eq_true rfl, Nat.le_of_ble_eq_true rfl⟩) rfl 2 rfl [2, 3] rfl rfl rfl rfl (Nat.le_of_ble_eq_true rfl) ⟨Nat.le_of_ble_eq_true rfl, Nat.le_of_ble_eq_true rfl⟩ dX9_putChalk_16 ?_
      have hi1 := inO_bd (T := T) hbi (by decide) one
      refine lv_istore_n (lv' := [(3, .int (zI ((inO T inc one + tm) % 180))), (0, .ref ys), (1, .int (zI one)), (2, .int (zI (if fw then 1 else 0)))]) hx hb dX9_putChalk_19 rfl hl (Nat.le_of_ble_eq_true rfl) rfl (fun ls hl => ?_)
      refine lv_aload_n hx hb dX9_putChalk_20 rfl (lv_at hl 1 rfl) ?_
      refine z_get (C := RX9) (T := TX9) (N := 6) (ref := "HornCity$Years") hx hb hts hin_X9_putChalk_X9 hown hK hz 0 rfl rfl 1 (by decide) (hts _ fl_X9_putChalk_18) rfl rfl dX9_putChalk_21 ?_
      refine lv_iload_n hx hb dX9_putChalk_24 rfl (lv_at hl 2 rfl) ?_
      refine lv_iload_n hx hb dX9_putChalk_25 rfl (lv_at hl 3 rfl) ?_
      refine z_ifb_eq (tgt := 40) hx hb dX9_putChalk_26 (by decide) (fun h26 => ?_) (fun h26 => ?_)
      ·
        refine lv_iload_n hx hb dX9_putChalk_40 rfl (lv_at hl 0 rfl) ?_
        refine z_iast hx hb hK hz 1 rfl (by omega) (by decide) dX9_putChalk_41 (fun H locs hz => ?_)
        have hz : zH D (zF ws0) H0 [(ys, .inr (7, [.ref o, .ref kd, .int (zI acs), .int (zI why), .int (zI wac), .int (zI won)])), (kd, .inl (cI, 9, .inl (zA (zU kdf one ((inO T inc one + tm) % 180))))), (o, .inr (2, [.ref ai, .ref ad, .ref am, .ref ah, .ref ch, .int (zI T), .int (zI tm), .int (zI yr)])), (ai, .inl (cI, 9, .inl (zA inc)))] H locs := hz
        refine lv_aload_n hx hb dX9_putChalk_42 rfl (lv_at hl 1 rfl) ?_
        refine z_get (C := RX9) (T := TX9) (N := 6) (ref := "HornCity$Years") hx hb hts hin_X9_putChalk_X9 hown hK hz 0 rfl rfl 1 (by decide) (hts _ fl_X9_putChalk_18) rfl rfl dX9_putChalk_43 ?_
        refine lv_iload_n hx hb dX9_putChalk_46 rfl (lv_at hl 2 rfl) ?_
        refine z_iald hx hb hK hz 1 rfl (by omega) (by decide) dX9_putChalk_47 ?_
        rw [zU_same]
        refine lv_aload_n hx hb dX9_putChalk_48 rfl (lv_at hl 1 rfl) ?_
        refine z_get (C := RX9) (T := TX9) (N := 6) (ref := "HornCity$Years") hx hb hts hin_X9_putChalk_X9 hown hK hz 0 rfl rfl 0 (by decide) (hts _ fl_X9_putChalk_12) rfl rfl dX9_putChalk_49 ?_
        refine lv_iload_n hx hb dX9_putChalk_52 rfl (lv_at hl 2 rfl) ?_
        refine z_callVp (As := [.int (zI one)]) (rest := [.int (zI ((inO T inc one + tm) % 180))]) (C := RX2) (T := TX2) (N := 8) F hK hz hl (c_X2_inclineOf l D cI cJ cZ o ai ad am ah ch inc T tm yr one (by omega) (by first | assumption | omega)) (cwV 1 hts gX9_putChalk_X2_inclineOf rfl rfl rfl (by decide +kernel) ⟨Nat.le_of_ble_eq_true rfl, Nat.le_of_ble_eq_true rfl⟩) rfl 2 rfl [2, 3] rfl rfl rfl rfl (Nat.le_of_ble_eq_true rfl) ⟨Nat.le_of_ble_eq_true rfl, Nat.le_of_ble_eq_true rfl⟩ dX9_putChalk_53 ?_
        refine z_icmp_eq (tgt := 81) hx hb dX9_putChalk_56 (by decide) (by omega) (by omega) (fun h56 => ?_) (fun h56 => ?_)
        ·
          exact hret ((zU kdf one ((inO T inc one + tm) % 180) : Int → Int), (wac : Int), (won : Int)) dX9_putChalk_81 (show (zU kdf one ((inO T inc one + tm) % 180)) = zU kdf one (cvS T inc tm one fw) ∧ wac = (if ¬ cvS T inc tm one fw = inO T inc one ∧ wac = -6 then acs else wac) ∧ won = (if ¬ cvS T inc tm one fw = inO T inc one ∧ wac = -6 then one else won) from ⟨by rw [show cvS T inc tm one fw = ((inO T inc one + tm) % 180) from if_neg h26], by rw [show cvS T inc tm one fw = ((inO T inc one + tm) % 180) from if_neg h26]; first | rw [if_pos (by omega)] | rw [if_neg (by omega)], by rw [show cvS T inc tm one fw = ((inO T inc one + tm) % 180) from if_neg h26]; first | rw [if_pos (by omega)] | rw [if_neg (by omega)]⟩) hz
        ·
          refine lv_aload_n hx hb dX9_putChalk_59 rfl (lv_at hl 1 rfl) ?_
          refine z_get (C := RX9) (T := TX9) (N := 6) (ref := "HornCity$Years") hx hb hts hin_X9_putChalk_X9 hown hK hz 0 rfl rfl 4 (by decide) (hts _ fl_X9_putChalk_70) rfl rfl dX9_putChalk_60 ?_
          refine z_bipush hx hb dX9_putChalk_63 (by decide) ?_
          refine z_icmp_ne (tgt := 81) hx hb dX9_putChalk_65 (by decide) (by omega) (by decide) (fun h65 => ?_) (fun h65 => ?_)
          ·
            exact hret ((zU kdf one ((inO T inc one + tm) % 180) : Int → Int), (wac : Int), (won : Int)) dX9_putChalk_81 (show (zU kdf one ((inO T inc one + tm) % 180)) = zU kdf one (cvS T inc tm one fw) ∧ wac = (if ¬ cvS T inc tm one fw = inO T inc one ∧ wac = -6 then acs else wac) ∧ won = (if ¬ cvS T inc tm one fw = inO T inc one ∧ wac = -6 then one else won) from ⟨by rw [show cvS T inc tm one fw = ((inO T inc one + tm) % 180) from if_neg h26], by rw [show cvS T inc tm one fw = ((inO T inc one + tm) % 180) from if_neg h26]; first | rw [if_pos (by omega)] | rw [if_neg (by omega)], by rw [show cvS T inc tm one fw = ((inO T inc one + tm) % 180) from if_neg h26]; first | rw [if_pos (by omega)] | rw [if_neg (by omega)]⟩) hz
          ·
            refine lv_aload_n hx hb dX9_putChalk_68 rfl (lv_at hl 1 rfl) ?_
            refine lv_aload_n hx hb dX9_putChalk_69 rfl (lv_at hl 1 rfl) ?_
            refine z_get (C := RX9) (T := TX9) (N := 6) (ref := "HornCity$Years") hx hb hts hin_X9_putChalk_X9 hown hK hz 0 rfl rfl 2 (by decide) (hts _ fl_X9_putChalk_57) rfl rfl dX9_putChalk_70 ?_
            refine z_put (C := RX9) (T := TX9) (N := 6) (ref := "HornCity$Years") (ty := .int) hx hb hts hin_X9_putChalk_X9 hown hK hz tyX9 tyX9_ok nmX9 0 rfl rfl 4 (by decide) (hts _ fl_X9_putChalk_70) rfl rfl (by decide +kernel) rfl rfl (Nat.le_of_ble_eq_true rfl) dX9_putChalk_73 (fun H locs hz => ?_)
            have hz : zH D (zF ws0) H0 [(ys, .inr (7, [.ref o, .ref kd, .int (zI acs), .int (zI why), .int (zI acs), .int (zI won)])), (kd, .inl (cI, 9, .inl (zA (zU kdf one ((inO T inc one + tm) % 180))))), (o, .inr (2, [.ref ai, .ref ad, .ref am, .ref ah, .ref ch, .int (zI T), .int (zI tm), .int (zI yr)])), (ai, .inl (cI, 9, .inl (zA inc)))] H locs := hz
            refine lv_aload_n hx hb dX9_putChalk_76 rfl (lv_at hl 1 rfl) ?_
            refine lv_iload_n hx hb dX9_putChalk_77 rfl (lv_at hl 2 rfl) ?_
            refine z_put (C := RX9) (T := TX9) (N := 6) (ref := "HornCity$Years") (ty := .int) hx hb hts hin_X9_putChalk_X9 hown hK hz tyX9 tyX9_ok nmX9 0 rfl rfl 5 (by decide) (hts _ fl_X9_putChalk_73) rfl rfl (by decide +kernel) rfl rfl (Nat.le_of_ble_eq_true rfl) dX9_putChalk_78 (fun H locs hz => ?_)
            have hz : zH D (zF ws0) H0 [(ys, .inr (7, [.ref o, .ref kd, .int (zI acs), .int (zI why), .int (zI acs), .int (zI one)])), (kd, .inl (cI, 9, .inl (zA (zU kdf one ((inO T inc one + tm) % 180))))), (o, .inr (2, [.ref ai, .ref ad, .ref am, .ref ah, .ref ch, .int (zI T), .int (zI tm), .int (zI yr)])), (ai, .inl (cI, 9, .inl (zA inc)))] H locs := hz
            exact hret ((zU kdf one ((inO T inc one + tm) % 180) : Int → Int), (acs : Int), (one : Int)) dX9_putChalk_81 (show (zU kdf one ((inO T inc one + tm) % 180)) = zU kdf one (cvS T inc tm one fw) ∧ acs = (if ¬ cvS T inc tm one fw = inO T inc one ∧ wac = -6 then acs else wac) ∧ one = (if ¬ cvS T inc tm one fw = inO T inc one ∧ wac = -6 then one else won) from ⟨by rw [show cvS T inc tm one fw = ((inO T inc one + tm) % 180) from if_neg h26], by rw [show cvS T inc tm one fw = ((inO T inc one + tm) % 180) from if_neg h26]; first | rw [if_pos (by omega)] | rw [if_neg (by omega)], by rw [show cvS T inc tm one fw = ((inO T inc one + tm) % 180) from if_neg h26]; first | rw [if_pos (by omega)] | rw [if_neg (by omega)]⟩) hz
      ·
        refine z_sipush hx hb dX9_putChalk_29 (by decide) ?_
        refine lv_iload_n hx hb dX9_putChalk_32 rfl (lv_at hl 0 rfl) ?_
        refine z_isub hx hb dX9_putChalk_33 ?_
        refine z_callSp (As := [.int (zI (180 - ((inO T inc one + tm) % 180)))]) (rest := [.int (zI one), .ref kd]) F hK hz hl (c_X5_leftOver l D cI cJ cZ (180 - ((inO T inc one + tm) % 180)) (by omega)) (va_cwS 1 hts gX9_putChalk_X5_leftOver rfl rfl rfl (by decide +kernel) ⟨Nat.le_of_ble_eq_true rfl, Nat.le_of_ble_eq_true rfl⟩) [] rfl rfl rfl rfl (Nat.le_of_ble_eq_true rfl) ⟨Nat.le_of_ble_eq_true rfl, Nat.le_of_ble_eq_true rfl⟩ dX9_putChalk_34 ?_
        refine lv_goto (tgt := 41) hx hb dX9_putChalk_37 (by decide) ?_
        refine z_iast hx hb hK hz 1 rfl (by omega) (by decide) dX9_putChalk_41 (fun H locs hz => ?_)
        have hz : zH D (zF ws0) H0 [(ys, .inr (7, [.ref o, .ref kd, .int (zI acs), .int (zI why), .int (zI wac), .int (zI won)])), (kd, .inl (cI, 9, .inl (zA (zU kdf one ((180 - ((inO T inc one + tm) % 180)) % 180))))), (o, .inr (2, [.ref ai, .ref ad, .ref am, .ref ah, .ref ch, .int (zI T), .int (zI tm), .int (zI yr)])), (ai, .inl (cI, 9, .inl (zA inc)))] H locs := hz
        refine lv_aload_n hx hb dX9_putChalk_42 rfl (lv_at hl 1 rfl) ?_
        refine z_get (C := RX9) (T := TX9) (N := 6) (ref := "HornCity$Years") hx hb hts hin_X9_putChalk_X9 hown hK hz 0 rfl rfl 1 (by decide) (hts _ fl_X9_putChalk_18) rfl rfl dX9_putChalk_43 ?_
        refine lv_iload_n hx hb dX9_putChalk_46 rfl (lv_at hl 2 rfl) ?_
        refine z_iald hx hb hK hz 1 rfl (by omega) (by decide) dX9_putChalk_47 ?_
        rw [zU_same]
        refine lv_aload_n hx hb dX9_putChalk_48 rfl (lv_at hl 1 rfl) ?_
        refine z_get (C := RX9) (T := TX9) (N := 6) (ref := "HornCity$Years") hx hb hts hin_X9_putChalk_X9 hown hK hz 0 rfl rfl 0 (by decide) (hts _ fl_X9_putChalk_12) rfl rfl dX9_putChalk_49 ?_
        refine lv_iload_n hx hb dX9_putChalk_52 rfl (lv_at hl 2 rfl) ?_
        refine z_callVp (As := [.int (zI one)]) (rest := [.int (zI ((180 - ((inO T inc one + tm) % 180)) % 180))]) (C := RX2) (T := TX2) (N := 8) F hK hz hl (c_X2_inclineOf l D cI cJ cZ o ai ad am ah ch inc T tm yr one (by omega) (by first | assumption | omega)) (cwV 1 hts gX9_putChalk_X2_inclineOf rfl rfl rfl (by decide +kernel) ⟨Nat.le_of_ble_eq_true rfl, Nat.le_of_ble_eq_true rfl⟩) rfl 2 rfl [2, 3] rfl rfl rfl rfl (Nat.le_of_ble_eq_true rfl) ⟨Nat.le_of_ble_eq_true rfl, Nat.le_of_ble_eq_true rfl⟩ dX9_putChalk_53 ?_
        refine z_icmp_eq (tgt := 81) hx hb dX9_putChalk_56 (by decide) (by omega) (by omega) (fun h56 => ?_) (fun h56 => ?_)
        ·
          exact hret ((zU kdf one ((180 - ((inO T inc one + tm) % 180)) % 180) : Int → Int), (wac : Int), (won : Int)) dX9_putChalk_81 (show (zU kdf one ((180 - ((inO T inc one + tm) % 180)) % 180)) = zU kdf one (cvS T inc tm one fw) ∧ wac = (if ¬ cvS T inc tm one fw = inO T inc one ∧ wac = -6 then acs else wac) ∧ won = (if ¬ cvS T inc tm one fw = inO T inc one ∧ wac = -6 then one else won) from ⟨by rw [show cvS T inc tm one fw = ((180 - ((inO T inc one + tm) % 180)) % 180) from if_pos h26], by rw [show cvS T inc tm one fw = ((180 - ((inO T inc one + tm) % 180)) % 180) from if_pos h26]; first | rw [if_pos (by omega)] | rw [if_neg (by omega)], by rw [show cvS T inc tm one fw = ((180 - ((inO T inc one + tm) % 180)) % 180) from if_pos h26]; first | rw [if_pos (by omega)] | rw [if_neg (by omega)]⟩) hz
        ·
          refine lv_aload_n hx hb dX9_putChalk_59 rfl (lv_at hl 1 rfl) ?_
          refine z_get (C := RX9) (T := TX9) (N := 6) (ref := "HornCity$Years") hx hb hts hin_X9_putChalk_X9 hown hK hz 0 rfl rfl 4 (by decide) (hts _ fl_X9_putChalk_70) rfl rfl dX9_putChalk_60 ?_
          refine z_bipush hx hb dX9_putChalk_63 (by decide) ?_
          refine z_icmp_ne (tgt := 81) hx hb dX9_putChalk_65 (by decide) (by omega) (by decide) (fun h65 => ?_) (fun h65 => ?_)
          ·
            exact hret ((zU kdf one ((180 - ((inO T inc one + tm) % 180)) % 180) : Int → Int), (wac : Int), (won : Int)) dX9_putChalk_81 (show (zU kdf one ((180 - ((inO T inc one + tm) % 180)) % 180)) = zU kdf one (cvS T inc tm one fw) ∧ wac = (if ¬ cvS T inc tm one fw = inO T inc one ∧ wac = -6 then acs else wac) ∧ won = (if ¬ cvS T inc tm one fw = inO T inc one ∧ wac = -6 then one else won) from ⟨by rw [show cvS T inc tm one fw = ((180 - ((inO T inc one + tm) % 180)) % 180) from if_pos h26], by rw [show cvS T inc tm one fw = ((180 - ((inO T inc one + tm) % 180)) % 180) from if_pos h26]; first | rw [if_pos (by omega)] | rw [if_neg (by omega)], by rw [show cvS T inc tm one fw = ((180 - ((inO T inc one + tm) % 180)) % 180) from if_pos h26]; first | rw [if_pos (by omega)] | rw [if_neg (by omega)]⟩) hz
          ·
            refine lv_aload_n hx hb dX9_putChalk_68 rfl (lv_at hl 1 rfl) ?_
            refine lv_aload_n hx hb dX9_putChalk_69 rfl (lv_at hl 1 rfl) ?_
            refine z_get (C := RX9) (T := TX9) (N := 6) (ref := "HornCity$Years") hx hb hts hin_X9_putChalk_X9 hown hK hz 0 rfl rfl 2 (by decide) (hts _ fl_X9_putChalk_57) rfl rfl dX9_putChalk_70 ?_
            refine z_put (C := RX9) (T := TX9) (N := 6) (ref := "HornCity$Years") (ty := .int) hx hb hts hin_X9_putChalk_X9 hown hK hz tyX9 tyX9_ok nmX9 0 rfl rfl 4 (by decide) (hts _ fl_X9_putChalk_70) rfl rfl (by decide +kernel) rfl rfl (Nat.le_of_ble_eq_true rfl) dX9_putChalk_73 (fun H locs hz => ?_)
            have hz : zH D (zF ws0) H0 [(ys, .inr (7, [.ref o, .ref kd, .int (zI acs), .int (zI why), .int (zI acs), .int (zI won)])), (kd, .inl (cI, 9, .inl (zA (zU kdf one ((180 - ((inO T inc one + tm) % 180)) % 180))))), (o, .inr (2, [.ref ai, .ref ad, .ref am, .ref ah, .ref ch, .int (zI T), .int (zI tm), .int (zI yr)])), (ai, .inl (cI, 9, .inl (zA inc)))] H locs := hz
            refine lv_aload_n hx hb dX9_putChalk_76 rfl (lv_at hl 1 rfl) ?_
            refine lv_iload_n hx hb dX9_putChalk_77 rfl (lv_at hl 2 rfl) ?_
            refine z_put (C := RX9) (T := TX9) (N := 6) (ref := "HornCity$Years") (ty := .int) hx hb hts hin_X9_putChalk_X9 hown hK hz tyX9 tyX9_ok nmX9 0 rfl rfl 5 (by decide) (hts _ fl_X9_putChalk_73) rfl rfl (by decide +kernel) rfl rfl (Nat.le_of_ble_eq_true rfl) dX9_putChalk_78 (fun H locs hz => ?_)
            have hz : zH D (zF ws0) H0 [(ys, .inr (7, [.ref o, .ref kd, .int (zI acs), .int (zI why), .int (zI acs), .int (zI one)])), (kd, .inl (cI, 9, .inl (zA (zU kdf one ((180 - ((inO T inc one + tm) % 180)) % 180))))), (o, .inr (2, [.ref ai, .ref ad, .ref am, .ref ah, .ref ch, .int (zI T), .int (zI tm), .int (zI yr)])), (ai, .inl (cI, 9, .inl (zA inc)))] H locs := hz
            exact hret ((zU kdf one ((180 - ((inO T inc one + tm) % 180)) % 180) : Int → Int), (acs : Int), (one : Int)) dX9_putChalk_81 (show (zU kdf one ((180 - ((inO T inc one + tm) % 180)) % 180)) = zU kdf one (cvS T inc tm one fw) ∧ acs = (if ¬ cvS T inc tm one fw = inO T inc one ∧ wac = -6 then acs else wac) ∧ one = (if ¬ cvS T inc tm one fw = inO T inc one ∧ wac = -6 then one else won) from ⟨by rw [show cvS T inc tm one fw = ((180 - ((inO T inc one + tm) % 180)) % 180) from if_pos h26], by rw [show cvS T inc tm one fw = ((180 - ((inO T inc one + tm) % 180)) % 180) from if_pos h26]; first | rw [if_pos (by omega)] | rw [if_neg (by omega)], by rw [show cvS T inc tm one fw = ((180 - ((inO T inc one + tm) % 180)) % 180) from if_pos h26]; first | rw [if_pos (by omega)] | rw [if_neg (by omega)]⟩) hz
    ·
      exfalso; omega

set_option maxRecDepth 20000 in
theorem hin_X9_tell_X4 : ∀ w ∈ u_ws RX4 TX4 2, w ∈ wsX9_tell := by decide +kernel
set_option maxRecDepth 20000 in
theorem fl_X9_tell_26 : Cond.fieldLink RX9 26 "HornCity$Pad" "length" "I" ∈ wsX9_tell := by decide +kernel
set_option maxRecDepth 20000 in
theorem hin_X9_tell_X9 : ∀ w ∈ u_ws RX9 TX9 6, w ∈ wsX9_tell := by decide +kernel
set_option maxRecDepth 20000 in
theorem fl_X9_tell_12 : Cond.fieldLink RX9 12 "HornCity$Years" "city" "LHornCity$City;" ∈ wsX9_tell := by decide +kernel
set_option maxRecDepth 20000 in
theorem fl_X9_tell_46 : Cond.fieldLink RX9 46 "HornCity$Years" "why" "I" ∈ wsX9_tell := by decide +kernel
set_option maxRecDepth 20000 in
theorem fl_X9_tell_57 : Cond.fieldLink RX9 57 "HornCity$Years" "acts" "I" ∈ wsX9_tell := by decide +kernel
set_option maxHeartbeats 4000000 in
set_option maxRecDepth 100000 in
theorem c_X9_tell (l : Launch) (D : va_G) (cI cJ cZ : ClassId) (ys o kd ai ad am ah ch iy mk pd sg oq aiq adq amq ahq chq iyq mkq : Nat) (kdf inc dri mat ahe iyf mkf sgn incq driq matq iyfq mkfq : Int → Int) (acs why wac won T tm yr cn ln Tq tmq yrq cnq : Int) (hln : 0 ≤ ln ∧ ln ≤ 60) (hbs : zBd sgn 60 0 126) (hTq : 0 ≤ Tq ∧ Tq < 512) (hbiq : zBd incq 9 0 179) (hbdq : zBd driq 9 (-9) 9) (hbmq : zBd matq 9 (-6) 8) (hty : (0 ≤ tmq ∧ tmq ≤ 9) ∧ 0 ≤ yrq ∧ yrq ≤ 999) : zMw l yX9_tell wsX9_tell (zRm 4) D cI cJ cZ [.ref ys, .ref pd, .ref oq] [(ys, .inr (7, [.ref o, .ref kd, .int (zI acs), .int (zI why), .int (zI wac), .int (zI won)])), (kd, .inl (cI, 9, .inl (zA kdf))), (o, .inr (2, [.ref ai, .ref ad, .ref am, .ref ah, .ref ch, .int (zI T), .int (zI tm), .int (zI yr)])), (ai, .inl (cI, 9, .inl (zA inc))), (ad, .inl (cI, 9, .inl (zA dri))), (am, .inl (cI, 9, .inl (zA mat))), (ah, .inl (cI, 9, .inl (zA ahe))), (ch, .inr (1, [.ref iy, .ref mk, .int (zI cn)])), (iy, .inl (cI, 8, .inl (zA iyf))), (mk, .inl (cI, 8, .inl (zA mkf))), (pd, .inr (3, [.ref sg, .int (zI ln)])), (sg, .inl (cI, 60, .inl (zA sgn))), (oq, .inr (2, [.ref aiq, .ref adq, .ref amq, .ref ahq, .ref chq, .int (zI Tq), .int (zI tmq), .int (zI yrq)])), (aiq, .inl (cI, 9, .inl (zA incq))), (adq, .inl (cI, 9, .inl (zA driq))), (amq, .inl (cI, 9, .inl (zA matq))), (chq, .inr (1, [.ref iyq, .ref mkq, .int (zI cnq)])), (iyq, .inl (cI, 8, .inl (zA iyfq))), (mkq, .inl (cI, 8, .inl (zA mkfq)))] (S := (Int → Int) × (Int → Int) × (Int → Int) × Int × Int × Int × (Int → Int) × (Int → Int) × (Int → Int) × Int × (Int → Int) × Int × Int × Int × Int) (fun u => u.2.1 = driq ∧ u.2.2.2.1 = Tq ∧ u.2.2.2.2.2.2.2.1 = iyfq ∧ u.2.2.2.2.2.2.2.2.1 = mkfq ∧ u.2.2.2.2.2.2.2.2.2.1 = cnq ∧ (u.1, u.2.2.1, u.2.2.2.2.1, u.2.2.2.2.2.1, u.2.2.2.2.2.2.2.2.2.2.1, u.2.2.2.2.2.2.2.2.2.2.2.2.2.1, u.2.2.2.2.2.2.2.2.2.2.2.2.2.2, u.2.2.2.2.2.2.2.2.2.2.2.1, u.2.2.2.2.2.2.2.2.2.2.2.2.1) = rnW Tq driq ln sgn incq matq tmq yrq) (fun _ => none) (fun u => [(ys, .inr (7, [.ref o, .ref kd, .int (zI u.2.2.2.2.2.2.2.2.2.2.2.1), .int (zI u.2.2.2.2.2.2.2.2.2.2.2.2.1), .int (zI u.2.2.2.2.2.2.2.2.2.2.2.2.2.1), .int (zI u.2.2.2.2.2.2.2.2.2.2.2.2.2.2)])), (kd, .inl (cI, 9, .inl (zA u.2.2.2.2.2.2.2.2.2.2.1))), (o, .inr (2, [.ref ai, .ref ad, .ref am, .ref ah, .ref ch, .int (zI u.2.2.2.1), .int (zI u.2.2.2.2.1), .int (zI u.2.2.2.2.2.1)])), (ai, .inl (cI, 9, .inl (zA u.1))), (ad, .inl (cI, 9, .inl (zA u.2.1))), (am, .inl (cI, 9, .inl (zA u.2.2.1))), (ah, .inl (cI, 9, .inl (zA u.2.2.2.2.2.2.1))), (ch, .inr (1, [.ref iy, .ref mk, .int (zI u.2.2.2.2.2.2.2.2.2.1)])), (iy, .inl (cI, 8, .inl (zA u.2.2.2.2.2.2.2.1))), (mk, .inl (cI, 8, .inl (zA u.2.2.2.2.2.2.2.2.1))), (pd, .inr (3, [.ref sg, .int (zI ln)])), (sg, .inl (cI, 60, .inl (zA sgn))), (oq, .inr (2, [.ref aiq, .ref adq, .ref amq, .ref ahq, .ref chq, .int (zI Tq), .int (zI tmq), .int (zI yrq)])), (aiq, .inl (cI, 9, .inl (zA incq))), (adq, .inl (cI, 9, .inl (zA driq))), (amq, .inl (cI, 9, .inl (zA matq))), (chq, .inr (1, [.ref iyq, .ref mkq, .int (zI cnq)])), (iyq, .inl (cI, 8, .inl (zA iyfq))), (mkq, .inl (cI, 8, .inl (zA mkfq)))]) := by
  refine zMw_v (cc := cX9_tell) (maxL := 8) (by decide +kernel) rfl (Nat.le_of_ble_eq_true rfl) rfl (fun _ => rfl) ?_
  intro p e s m args below meth c Q H0 ls F hK hz hl hret
  obtain ⟨hx, hb, hml, hown0, hts⟩ := id F
  have hown : s.vm.findClass RX9 = some m.cls := hown0
  obtain ⟨ws0, hw0⟩ : ∃ w : va_W, w = [(ys, .inr (7, [.ref o, .ref kd, .int (zI acs), .int (zI why), .int (zI wac), .int (zI won)])), (kd, .inl (cI, 9, .inl (zA kdf))), (o, .inr (2, [.ref ai, .ref ad, .ref am, .ref ah, .ref ch, .int (zI T), .int (zI tm), .int (zI yr)])), (ai, .inl (cI, 9, .inl (zA inc))), (ad, .inl (cI, 9, .inl (zA dri))), (am, .inl (cI, 9, .inl (zA mat))), (ah, .inl (cI, 9, .inl (zA ahe))), (ch, .inr (1, [.ref iy, .ref mk, .int (zI cn)])), (iy, .inl (cI, 8, .inl (zA iyf))), (mk, .inl (cI, 8, .inl (zA mkf))), (pd, .inr (3, [.ref sg, .int (zI ln)])), (sg, .inl (cI, 60, .inl (zA sgn))), (oq, .inr (2, [.ref aiq, .ref adq, .ref amq, .ref ahq, .ref chq, .int (zI Tq), .int (zI tmq), .int (zI yrq)])), (aiq, .inl (cI, 9, .inl (zA incq))), (adq, .inl (cI, 9, .inl (zA driq))), (amq, .inl (cI, 9, .inl (zA matq))), (chq, .inr (1, [.ref iyq, .ref mkq, .int (zI cnq)])), (iyq, .inl (cI, 8, .inl (zA iyfq))), (mkq, .inl (cI, 8, .inl (zA mkfq)))] := ⟨_, rfl⟩
  rw [← hw0] at hret
  have hz : zH D (zF ws0) H0 [(ys, .inr (7, [.ref o, .ref kd, .int (zI acs), .int (zI why), .int (zI wac), .int (zI won)])), (kd, .inl (cI, 9, .inl (zA kdf))), (o, .inr (2, [.ref ai, .ref ad, .ref am, .ref ah, .ref ch, .int (zI T), .int (zI tm), .int (zI yr)])), (ai, .inl (cI, 9, .inl (zA inc))), (ad, .inl (cI, 9, .inl (zA dri))), (am, .inl (cI, 9, .inl (zA mat))), (ah, .inl (cI, 9, .inl (zA ahe))), (ch, .inr (1, [.ref iy, .ref mk, .int (zI cn)])), (iy, .inl (cI, 8, .inl (zA iyf))), (mk, .inl (cI, 8, .inl (zA mkf))), (pd, .inr (3, [.ref sg, .int (zI ln)])), (sg, .inl (cI, 60, .inl (zA sgn))), (oq, .inr (2, [.ref aiq, .ref adq, .ref amq, .ref ahq, .ref chq, .int (zI Tq), .int (zI tmq), .int (zI yrq)])), (aiq, .inl (cI, 9, .inl (zA incq))), (adq, .inl (cI, 9, .inl (zA driq))), (amq, .inl (cI, 9, .inl (zA matq))), (chq, .inr (1, [.ref iyq, .ref mkq, .int (zI cnq)])), (iyq, .inl (cI, 8, .inl (zA iyfq))), (mkq, .inl (cI, 8, .inl (zA mkfq)))] H0 [] := by rw [hw0]; exact hz
  have hl : lv_has ls 8 [(0, .ref ys), (1, .ref pd), (2, .ref oq)] := hl
  refine lv_aload_n hx hb dX9_tell_0 rfl (lv_at hl 0 rfl) ?_
  refine lv_aload_n hx hb dX9_tell_1 rfl (lv_at hl 2 rfl) ?_
  refine z_callVwv (As := [.ref oq]) (rest := []) (C := RX9) (T := TX9) (N := 6) F hK hz hl (c_X9_begin l D cI cJ cZ ys o kd ai ad am ah ch iy mk oq aiq adq amq ahq chq iyq mkq kdf inc dri mat iyf mkf incq driq matq iyfq mkfq acs why wac won T tm yr cn Tq tmq yrq cnq ) (cwV 1 hts gX9_tell_X9_begin rfl rfl rfl (by decide +kernel) ⟨Nat.le_of_ble_eq_true rfl, Nat.le_of_ble_eq_true rfl⟩) rfl 0 rfl [0, 1, 2, 3, 4, 5, 7, 8, 9, 12, 13, 14, 15, 16, 17, 18] rfl rfl (by decide +kernel) rfl rfl (Nat.le_of_ble_eq_true rfl) ⟨Nat.le_of_ble_eq_true rfl, Nat.le_of_ble_eq_true rfl⟩ dX9_tell_2 (fun u H locs hu hz => ?_)
  obtain ⟨inc1_1, dri1_2, mat1_3, T1_4, tm1_5, yr1_6, y1_7, m1_8, c1_9, kd1_10, a1_11, w1_12, wa1_13, wo1_14⟩ := u
  have hu : inc1_1 = incq ∧ dri1_2 = driq ∧ mat1_3 = matq ∧ T1_4 = Tq ∧ tm1_5 = tmq ∧ yr1_6 = yrq ∧ y1_7 = iyfq ∧ m1_8 = mkfq ∧ c1_9 = cnq ∧ kd1_10 = (fun _ => -6) ∧ a1_11 = 0 ∧ w1_12 = 0 ∧ wa1_13 = -6 ∧ wo1_14 = -6 := hu
  obtain ⟨g2_0, g2_1, g2_2, g2_3, g2_4, g2_5, g2_6, g2_7, g2_8, g2_9, g2_10, g2_11, g2_12, g2_13⟩ := hu
  have g2_0 := g2_0.symm
  subst g2_0
  have g2_1 := g2_1.symm
  subst g2_1
  have g2_2 := g2_2.symm
  subst g2_2
  have g2_3 := g2_3.symm
  subst g2_3
  have g2_4 := g2_4.symm
  subst g2_4
  have g2_5 := g2_5.symm
  subst g2_5
  have g2_6 := g2_6.symm
  subst g2_6
  have g2_7 := g2_7.symm
  subst g2_7
  have g2_8 := g2_8.symm
  subst g2_8
  have g2_9 := g2_9.symm
  subst g2_9
  have g2_10 := g2_10.symm
  subst g2_10
  have g2_11 := g2_11.symm
  subst g2_11
  have g2_12 := g2_12.symm
  subst g2_12
  have g2_13 := g2_13.symm
  subst g2_13
  have hz : zH D (zF ws0) H0 [(ys, .inr (7, [.ref o, .ref kd, .int (zI 0), .int (zI 0), .int (zI (-6)), .int (zI (-6))])), (kd, .inl (cI, 9, .inl (zA (fun _ => -6)))), (o, .inr (2, [.ref ai, .ref ad, .ref am, .ref ah, .ref ch, .int (zI Tq), .int (zI tmq), .int (zI yrq)])), (ai, .inl (cI, 9, .inl (zA incq))), (ad, .inl (cI, 9, .inl (zA driq))), (am, .inl (cI, 9, .inl (zA matq))), (ah, .inl (cI, 9, .inl (zA ahe))), (ch, .inr (1, [.ref iy, .ref mk, .int (zI cnq)])), (iy, .inl (cI, 8, .inl (zA iyfq))), (mk, .inl (cI, 8, .inl (zA mkfq))), (pd, .inr (3, [.ref sg, .int (zI ln)])), (sg, .inl (cI, 60, .inl (zA sgn))), (oq, .inr (2, [.ref aiq, .ref adq, .ref amq, .ref ahq, .ref chq, .int (zI Tq), .int (zI tmq), .int (zI yrq)])), (aiq, .inl (cI, 9, .inl (zA incq))), (adq, .inl (cI, 9, .inl (zA driq))), (amq, .inl (cI, 9, .inl (zA matq))), (chq, .inr (1, [.ref iyq, .ref mkq, .int (zI cnq)])), (iyq, .inl (cI, 8, .inl (zA iyfq))), (mkq, .inl (cI, 8, .inl (zA mkfq)))] H locs := hz
  refine z_iconst hx hb dX9_tell_5 ?_
  refine lv_istore_n (lv' := [(3, .int (zI 0)), (0, .ref ys), (1, .ref pd), (2, .ref oq)]) hx hb dX9_tell_6 rfl hl (Nat.le_of_ble_eq_true rfl) rfl (fun ls hl => ?_)
  refine z_iconst hx hb dX9_tell_7 ?_
  refine lv_istore (lv' := [(4, .int (zI 0)), (3, .int (zI 0)), (0, .ref ys), (1, .ref pd), (2, .ref oq)]) hx hb dX9_tell_8 hl (Nat.le_of_ble_eq_true rfl) rfl (fun ls hl => ?_)
  have L10 : ∀ (n : Nat) (ct pl acx whx wax wox tmx yrx : Int) (kdx incx matx ahx : Int → Int) (H : Heap) (locs : List Loc) (ls : Array Slot), ((60 - ct).toNat = n) → (0 ≤ ct ∧ ct ≤ 60) → (0 ≤ pl ∧ pl ≤ 3 * ct) → (whx = 0) → (0 ≤ acx ∧ acx ≤ ct) → (-6 ≤ wax ∧ wax ≤ 60) → (zBd incx 9 0 179) → (zBd matx 9 (-6) 8) → ((0 ≤ tmx ∧ tmx ≤ 9) ∧ 0 ≤ yrx ∧ yrx ≤ 999) → (runS Tq driq ln sgn 60 0 (incq, matq, tmq, yrq, (fun _ => -6), -6, -6, 0, 0) = runS Tq driq ln sgn (60 - ct).toNat pl (incx, matx, tmx, yrx, kdx, wax, wox, acx, 0)) → zH D (zF ws0) H0 [(ys, .inr (7, [.ref o, .ref kd, .int (zI acx), .int (zI whx), .int (zI wax), .int (zI wox)])), (kd, .inl (cI, 9, .inl (zA kdx))), (o, .inr (2, [.ref ai, .ref ad, .ref am, .ref ah, .ref ch, .int (zI Tq), .int (zI tmx), .int (zI yrx)])), (ai, .inl (cI, 9, .inl (zA incx))), (ad, .inl (cI, 9, .inl (zA driq))), (am, .inl (cI, 9, .inl (zA matx))), (ah, .inl (cI, 9, .inl (zA ahx))), (ch, .inr (1, [.ref iy, .ref mk, .int (zI cnq)])), (iy, .inl (cI, 8, .inl (zA iyfq))), (mk, .inl (cI, 8, .inl (zA mkfq))), (pd, .inr (3, [.ref sg, .int (zI ln)])), (sg, .inl (cI, 60, .inl (zA sgn))), (oq, .inr (2, [.ref aiq, .ref adq, .ref amq, .ref ahq, .ref chq, .int (zI Tq), .int (zI tmq), .int (zI yrq)])), (aiq, .inl (cI, 9, .inl (zA incq))), (adq, .inl (cI, 9, .inl (zA driq))), (amq, .inl (cI, 9, .inl (zA matq))), (chq, .inr (1, [.ref iyq, .ref mkq, .int (zI cnq)])), (iyq, .inl (cI, 8, .inl (zA iyfq))), (mkq, .inl (cI, 8, .inl (zA mkfq)))] H locs → lv_has ls 8 [(4, .int (zI ct)), (3, .int (zI pl)), (0, .ref ys), (1, .ref pd), (2, .ref oq)] → W p l e (zRm 4) s m args below meth c H locs 0 0 Q (F0 m 10 ls []) := by
    intro n
    refine Nat.strongRecOn n ?_
    intro n ih10 ct pl acx whx wax wox tmx yrx kdx incx matx ahx H locs ls hn10 h0 h1 hwh hac hwa hbx hmx htx hf hz hl
    refine lv_iload hx hb dX9_tell_10 (lv_at hl 0 rfl) ?_
    refine z_bipush hx hb dX9_tell_12 (by decide) ?_
    refine z_icmp_ge (tgt := 140) hx hb dX9_tell_14 (by decide) (by omega) (by decide) (fun h14 => ?_) (fun h14 => ?_)
    ·
      exact hret ((incx : Int → Int), (driq : Int → Int), (matx : Int → Int), (Tq : Int), (tmx : Int), (yrx : Int), (ahx : Int → Int), (iyfq : Int → Int), (mkfq : Int → Int), (cnq : Int), (kdx : Int → Int), (acx : Int), (whx : Int), (wax : Int), (wox : Int)) dX9_tell_140 (show driq = driq ∧ Tq = Tq ∧ iyfq = iyfq ∧ mkfq = mkfq ∧ cnq = cnq ∧ (incx, matx, tmx, yrx, kdx, wax, wox, acx, whx) = rnW Tq driq ln sgn incq matq tmq yrq from ⟨rfl, rfl, rfl, rfl, rfl, by unfold rnW; rw [hf, hwh]; have e : ct = 60 := (by omega); subst e; rfl⟩) hz
    ·
      refine lv_iload_n hx hb dX9_tell_17 rfl (lv_at hl 1 rfl) ?_
      refine lv_aload_n hx hb dX9_tell_18 rfl (lv_at hl 3 rfl) ?_
      refine z_get (C := RX4) (T := TX4) (N := 2) (ref := "HornCity$Pad") hx hb hts hin_X9_tell_X4 hown hK hz 10 rfl rfl 1 (by decide) (hts _ fl_X9_tell_26) rfl rfl dX9_tell_19 ?_
      refine z_icmp_ge (tgt := 140) hx hb dX9_tell_22 (by decide) (by omega) (by omega) (fun h22 => ?_) (fun h22 => ?_)
      ·
        exact hret ((incx : Int → Int), (driq : Int → Int), (matx : Int → Int), (Tq : Int), (tmx : Int), (yrx : Int), (ahx : Int → Int), (iyfq : Int → Int), (mkfq : Int → Int), (cnq : Int), (kdx : Int → Int), (acx : Int), (whx : Int), (wax : Int), (wox : Int)) dX9_tell_140 (show driq = driq ∧ Tq = Tq ∧ iyfq = iyfq ∧ mkfq = mkfq ∧ cnq = cnq ∧ (incx, matx, tmx, yrx, kdx, wax, wox, acx, whx) = rnW Tq driq ln sgn incq matq tmq yrq from ⟨rfl, rfl, rfl, rfl, rfl, by unfold rnW; rw [hf, hwh]; rw [runS_end (by omega)]⟩) hz
      ·
        refine lv_aload_n hx hb dX9_tell_25 rfl (lv_at hl 3 rfl) ?_
        refine lv_iload_n hx hb dX9_tell_26 rfl (lv_at hl 1 rfl) ?_
        refine z_callVp (As := [.int (zI pl)]) (rest := []) (C := RX4) (T := TX4) (N := 2) F hK hz hl (c_X4_kindAt l D cI cJ cZ pd sg sgn ln pl (by first | assumption | omega) (hbs) (by omega)) (cwV 1 hts gX9_tell_X4_kindAt rfl rfl rfl (by decide +kernel) ⟨Nat.le_of_ble_eq_true rfl, Nat.le_of_ble_eq_true rfl⟩) rfl 10 rfl [10, 11] rfl rfl rfl rfl (Nat.le_of_ble_eq_true rfl) ⟨Nat.le_of_ble_eq_true rfl, Nat.le_of_ble_eq_true rfl⟩ dX9_tell_27 ?_
        have hk1 := kndS_bd hln hbs pl
        refine lv_istore (lv' := [(5, .int (zI (kndS ln sgn pl))), (4, .int (zI ct)), (3, .int (zI pl)), (0, .ref ys), (1, .ref pd), (2, .ref oq)]) hx hb dX9_tell_30 hl (Nat.le_of_ble_eq_true rfl) rfl (fun ls hl => ?_)
        refine lv_aload_n hx hb dX9_tell_32 rfl (lv_at hl 4 rfl) ?_
        refine lv_iload_n hx hb dX9_tell_33 rfl (lv_at hl 2 rfl) ?_
        refine z_callVp (As := [.int (zI pl)]) (rest := []) (C := RX4) (T := TX4) (N := 2) F hK hz hl (c_X4_oneAt l D cI cJ cZ pd sg sgn ln pl (by first | assumption | omega) (by omega)) (cwV 1 hts gX9_tell_X4_oneAt rfl rfl rfl (by decide +kernel) ⟨Nat.le_of_ble_eq_true rfl, Nat.le_of_ble_eq_true rfl⟩) rfl 10 rfl [10, 11] rfl rfl rfl rfl (Nat.le_of_ble_eq_true rfl) ⟨Nat.le_of_ble_eq_true rfl, Nat.le_of_ble_eq_true rfl⟩ dX9_tell_34 ?_
        have hs1 := sigS_bd hln hbs pl
        refine lv_istore (lv' := [(6, .int (zI (sigS ln sgn pl - 65))), (5, .int (zI (kndS ln sgn pl))), (4, .int (zI ct)), (3, .int (zI pl)), (0, .ref ys), (1, .ref pd), (2, .ref oq)]) hx hb dX9_tell_37 hl (Nat.le_of_ble_eq_true rfl) rfl (fun ls hl => ?_)
        refine lv_aload_n hx hb dX9_tell_39 rfl (lv_at hl 5 rfl) ?_
        refine lv_iload_n hx hb dX9_tell_40 rfl (lv_at hl 3 rfl) ?_
        refine z_callVp (As := [.int (zI pl)]) (rest := []) (C := RX4) (T := TX4) (N := 2) F hK hz hl (c_X4_withAt l D cI cJ cZ pd sg sgn ln pl (by first | assumption | omega) (hbs) (by omega)) (cwV 1 hts gX9_tell_X4_withAt rfl rfl rfl (by decide +kernel) ⟨Nat.le_of_ble_eq_true rfl, Nat.le_of_ble_eq_true rfl⟩) rfl 10 rfl [10, 11] rfl rfl rfl rfl (Nat.le_of_ble_eq_true rfl) ⟨Nat.le_of_ble_eq_true rfl, Nat.le_of_ble_eq_true rfl⟩ dX9_tell_41 ?_
        have hw1 := wthS_bd hln hbs pl
        refine lv_istore (lv' := [(7, .int (zI (wthS ln sgn pl))), (6, .int (zI (sigS ln sgn pl - 65))), (5, .int (zI (kndS ln sgn pl))), (4, .int (zI ct)), (3, .int (zI pl)), (0, .ref ys), (1, .ref pd), (2, .ref oq)]) hx hb dX9_tell_44 hl (Nat.le_of_ble_eq_true rfl) rfl (fun ls hl => ?_)
        refine lv_aload_n hx hb dX9_tell_46 rfl (lv_at hl 5 rfl) ?_
        refine lv_aload_n hx hb dX9_tell_47 rfl (lv_at hl 5 rfl) ?_
        refine z_get (C := RX9) (T := TX9) (N := 6) (ref := "HornCity$Years") hx hb hts hin_X9_tell_X9 hown hK hz 0 rfl rfl 0 (by decide) (hts _ fl_X9_tell_12) rfl rfl dX9_tell_48 ?_
        refine lv_iload hx hb dX9_tell_51 (lv_at hl 2 rfl) ?_
        refine lv_iload hx hb dX9_tell_53 (lv_at hl 1 rfl) ?_
        refine lv_iload hx hb dX9_tell_55 (lv_at hl 0 rfl) ?_
        refine z_callVp (As := [.int (zI (kndS ln sgn pl)), .int (zI (sigS ln sgn pl - 65)), .int (zI (wthS ln sgn pl))]) (rest := [.ref ys]) (C := RX2) (T := TX2) (N := 8) F hK hz hl (c_X2_whyNot l D cI cJ cZ o ai ad am ah ch matx Tq tmx yrx (kndS ln sgn pl) (sigS ln sgn pl - 65) (wthS ln sgn pl) (by omega) (by first | assumption | omega) (hmx) (by omega)) (cwV 3 hts gX9_tell_X2_whyNot rfl rfl rfl (by decide +kernel) ⟨Nat.le_of_ble_eq_true rfl, Nat.le_of_ble_eq_true rfl⟩) rfl 2 rfl [2, 5] rfl rfl rfl rfl (Nat.le_of_ble_eq_true rfl) ⟨Nat.le_of_ble_eq_true rfl, Nat.le_of_ble_eq_true rfl⟩ dX9_tell_57 ?_
        refine z_put (C := RX9) (T := TX9) (N := 6) (ref := "HornCity$Years") (ty := .int) hx hb hts hin_X9_tell_X9 hown hK hz tyX9 tyX9_ok nmX9 0 rfl rfl 3 (by decide) (hts _ fl_X9_tell_46) rfl rfl (by decide +kernel) rfl rfl (Nat.le_of_ble_eq_true rfl) dX9_tell_60 (fun H locs hz => ?_)
        have hz : zH D (zF ws0) H0 [(ys, .inr (7, [.ref o, .ref kd, .int (zI acx), .int (zI (whyS Tq matx yrx (kndS ln sgn pl) (sigS ln sgn pl - 65) (wthS ln sgn pl))), .int (zI wax), .int (zI wox)])), (kd, .inl (cI, 9, .inl (zA kdx))), (o, .inr (2, [.ref ai, .ref ad, .ref am, .ref ah, .ref ch, .int (zI Tq), .int (zI tmx), .int (zI yrx)])), (ai, .inl (cI, 9, .inl (zA incx))), (ad, .inl (cI, 9, .inl (zA driq))), (am, .inl (cI, 9, .inl (zA matx))), (ah, .inl (cI, 9, .inl (zA ahx))), (ch, .inr (1, [.ref iy, .ref mk, .int (zI cnq)])), (iy, .inl (cI, 8, .inl (zA iyfq))), (mk, .inl (cI, 8, .inl (zA mkfq))), (pd, .inr (3, [.ref sg, .int (zI ln)])), (sg, .inl (cI, 60, .inl (zA sgn))), (oq, .inr (2, [.ref aiq, .ref adq, .ref amq, .ref ahq, .ref chq, .int (zI Tq), .int (zI tmq), .int (zI yrq)])), (aiq, .inl (cI, 9, .inl (zA incq))), (adq, .inl (cI, 9, .inl (zA driq))), (amq, .inl (cI, 9, .inl (zA matq))), (chq, .inr (1, [.ref iyq, .ref mkq, .int (zI cnq)])), (iyq, .inl (cI, 8, .inl (zA iyfq))), (mkq, .inl (cI, 8, .inl (zA mkfq)))] H locs := hz
        have hy1 := whyS_bd Tq matx yrx (kndS ln sgn pl) (sigS ln sgn pl - 65) (wthS ln sgn pl)
        refine lv_aload_n hx hb dX9_tell_63 rfl (lv_at hl 5 rfl) ?_
        refine z_get (C := RX9) (T := TX9) (N := 6) (ref := "HornCity$Years") hx hb hts hin_X9_tell_X9 hown hK hz 0 rfl rfl 3 (by decide) (hts _ fl_X9_tell_46) rfl rfl dX9_tell_64 ?_
        refine z_if_eq (tgt := 71) hx hb dX9_tell_67 (by decide) (by omega) (fun h67 => ?_) (fun h67 => ?_)
        ·
          refine lv_iload hx hb dX9_tell_71 (lv_at hl 2 rfl) ?_
          refine z_bipush hx hb dX9_tell_73 (by decide) ?_
          refine z_icmp_eq (tgt := 85) hx hb dX9_tell_75 (by decide) (by omega) (by decide) (fun h75 => ?_) (fun h75 => ?_)
          ·
            refine lv_aload_n hx hb dX9_tell_85 rfl (lv_at hl 5 rfl) ?_
            refine lv_iload hx hb dX9_tell_86 (lv_at hl 1 rfl) ?_
            refine lv_iload hx hb dX9_tell_88 (lv_at hl 2 rfl) ?_
            refine z_bipush hx hb dX9_tell_90 (by decide) ?_
            refine z_icmp_ne (tgt := 99) hx hb dX9_tell_92 (by decide) (by omega) (by decide) (fun h92 => ?_) (fun h92 => ?_)
            ·
              refine z_iconst hx hb dX9_tell_99 ?_
              refine z_callVwv (As := [.int (zI (sigS ln sgn pl - 65)), .int (zI 0)]) (rest := []) (C := RX9) (T := TX9) (N := 6) F hK hz hl (c_X9_putChalk l D cI cJ cZ ys o kd ai ad am ah ch kdx incx acx (whyS Tq matx yrx (kndS ln sgn pl) (sigS ln sgn pl - 65) (wthS ln sgn pl)) wax wox Tq tmx yrx (sigS ln sgn pl - 65) False (inS.rng (why0_in h67 (by omega))) (by first | assumption | omega) (hbx) (by omega) (by omega)) (cwV 2 hts gX9_tell_X9_putChalk rfl rfl rfl (by decide +kernel) ⟨Nat.le_of_ble_eq_true rfl, Nat.le_of_ble_eq_true rfl⟩) rfl 0 rfl [0, 1, 2, 3] rfl rfl (by decide +kernel) rfl rfl (Nat.le_of_ble_eq_true rfl) ⟨Nat.le_of_ble_eq_true rfl, Nat.le_of_ble_eq_true rfl⟩ dX9_tell_100 (fun u H locs hu hz => ?_)
              obtain ⟨kd1_15, wa1_16, wo1_17⟩ := u
              have hu : kd1_15 = zU kdx (sigS ln sgn pl - 65) (cvS Tq incx tmx (sigS ln sgn pl - 65) False) ∧ wa1_16 = (if ¬ cvS Tq incx tmx (sigS ln sgn pl - 65) False = inO Tq incx (sigS ln sgn pl - 65) ∧ wax = -6 then acx else wax) ∧ wo1_17 = (if ¬ cvS Tq incx tmx (sigS ln sgn pl - 65) False = inO Tq incx (sigS ln sgn pl - 65) ∧ wax = -6 then (sigS ln sgn pl - 65) else wox) := hu
              obtain ⟨g100_0, g100_1, g100_2⟩ := hu
              have g100_0 := g100_0.symm
              subst g100_0
              have g100_1 := g100_1.symm
              subst g100_1
              have g100_2 := g100_2.symm
              subst g100_2
              have hz : zH D (zF ws0) H0 [(ys, .inr (7, [.ref o, .ref kd, .int (zI acx), .int (zI (whyS Tq matx yrx (kndS ln sgn pl) (sigS ln sgn pl - 65) (wthS ln sgn pl))), .int (zI (if ¬ cvS Tq incx tmx (sigS ln sgn pl - 65) False = inO Tq incx (sigS ln sgn pl - 65) ∧ wax = -6 then acx else wax)), .int (zI (if ¬ cvS Tq incx tmx (sigS ln sgn pl - 65) False = inO Tq incx (sigS ln sgn pl - 65) ∧ wax = -6 then (sigS ln sgn pl - 65) else wox))])), (kd, .inl (cI, 9, .inl (zA (zU kdx (sigS ln sgn pl - 65) (cvS Tq incx tmx (sigS ln sgn pl - 65) False))))), (o, .inr (2, [.ref ai, .ref ad, .ref am, .ref ah, .ref ch, .int (zI Tq), .int (zI tmx), .int (zI yrx)])), (ai, .inl (cI, 9, .inl (zA incx))), (ad, .inl (cI, 9, .inl (zA driq))), (am, .inl (cI, 9, .inl (zA matx))), (ah, .inl (cI, 9, .inl (zA ahx))), (ch, .inr (1, [.ref iy, .ref mk, .int (zI cnq)])), (iy, .inl (cI, 8, .inl (zA iyfq))), (mk, .inl (cI, 8, .inl (zA mkfq))), (pd, .inr (3, [.ref sg, .int (zI ln)])), (sg, .inl (cI, 60, .inl (zA sgn))), (oq, .inr (2, [.ref aiq, .ref adq, .ref amq, .ref ahq, .ref chq, .int (zI Tq), .int (zI tmq), .int (zI yrq)])), (aiq, .inl (cI, 9, .inl (zA incq))), (adq, .inl (cI, 9, .inl (zA driq))), (amq, .inl (cI, 9, .inl (zA matq))), (chq, .inr (1, [.ref iyq, .ref mkq, .int (zI cnq)])), (iyq, .inl (cI, 8, .inl (zA iyfq))), (mkq, .inl (cI, 8, .inl (zA mkfq)))] H locs := hz
              refine lv_aload_n hx hb dX9_tell_103 rfl (lv_at hl 5 rfl) ?_
              refine z_get (C := RX9) (T := TX9) (N := 6) (ref := "HornCity$Years") hx hb hts hin_X9_tell_X9 hown hK hz 0 rfl rfl 0 (by decide) (hts _ fl_X9_tell_12) rfl rfl dX9_tell_104 ?_
              refine lv_iload hx hb dX9_tell_107 (lv_at hl 2 rfl) ?_
              refine lv_iload hx hb dX9_tell_109 (lv_at hl 1 rfl) ?_
              refine lv_iload hx hb dX9_tell_111 (lv_at hl 0 rfl) ?_
              refine z_callVwv (As := [.int (zI (kndS ln sgn pl)), .int (zI (sigS ln sgn pl - 65)), .int (zI (wthS ln sgn pl))]) (rest := []) (C := RX2) (T := TX2) (N := 8) F hK hz hl (c_X2_act l D cI cJ cZ o ai ad am ah ch incx driq matx ahx Tq tmx yrx (kndS ln sgn pl) (sigS ln sgn pl - 65) (wthS ln sgn pl) (by omega) (by first | assumption | omega) (hbx) (hbdq) (hmx) (by omega)) (cwV 3 hts gX9_tell_X2_act rfl rfl rfl (by decide +kernel) ⟨Nat.le_of_ble_eq_true rfl, Nat.le_of_ble_eq_true rfl⟩) rfl 2 rfl [2, 3, 4, 5, 6] rfl rfl (by decide +kernel) rfl rfl (Nat.le_of_ble_eq_true rfl) ⟨Nat.le_of_ble_eq_true rfl, Nat.le_of_ble_eq_true rfl⟩ dX9_tell_113 (fun u H locs hu hz => ?_)
              obtain ⟨inc1_18, mat1_19, ah1_20, tm1_21, yr1_22⟩ := u
              have hu : inc1_18 = actI Tq driq matx incx (kndS ln sgn pl) (sigS ln sgn pl - 65) (wthS ln sgn pl) ∧ mat1_19 = actM Tq matx (kndS ln sgn pl) (sigS ln sgn pl - 65) (wthS ln sgn pl) ∧ tm1_21 = actH tmx yrx (kndS ln sgn pl) ∧ yr1_22 = actY yrx (kndS ln sgn pl) := hu
              obtain ⟨g113_0, g113_1, g113_2, g113_3⟩ := hu
              have g113_0 := g113_0.symm
              subst g113_0
              have g113_1 := g113_1.symm
              subst g113_1
              have g113_2 := g113_2.symm
              subst g113_2
              have g113_3 := g113_3.symm
              subst g113_3
              have hz : zH D (zF ws0) H0 [(ys, .inr (7, [.ref o, .ref kd, .int (zI acx), .int (zI (whyS Tq matx yrx (kndS ln sgn pl) (sigS ln sgn pl - 65) (wthS ln sgn pl))), .int (zI (if ¬ cvS Tq incx tmx (sigS ln sgn pl - 65) False = inO Tq incx (sigS ln sgn pl - 65) ∧ wax = -6 then acx else wax)), .int (zI (if ¬ cvS Tq incx tmx (sigS ln sgn pl - 65) False = inO Tq incx (sigS ln sgn pl - 65) ∧ wax = -6 then (sigS ln sgn pl - 65) else wox))])), (kd, .inl (cI, 9, .inl (zA (zU kdx (sigS ln sgn pl - 65) (cvS Tq incx tmx (sigS ln sgn pl - 65) False))))), (o, .inr (2, [.ref ai, .ref ad, .ref am, .ref ah, .ref ch, .int (zI Tq), .int (zI (actH tmx yrx (kndS ln sgn pl))), .int (zI (actY yrx (kndS ln sgn pl)))])), (ai, .inl (cI, 9, .inl (zA (actI Tq driq matx incx (kndS ln sgn pl) (sigS ln sgn pl - 65) (wthS ln sgn pl))))), (ad, .inl (cI, 9, .inl (zA driq))), (am, .inl (cI, 9, .inl (zA (actM Tq matx (kndS ln sgn pl) (sigS ln sgn pl - 65) (wthS ln sgn pl))))), (ah, .inl (cI, 9, .inl (zA ah1_20))), (ch, .inr (1, [.ref iy, .ref mk, .int (zI cnq)])), (iy, .inl (cI, 8, .inl (zA iyfq))), (mk, .inl (cI, 8, .inl (zA mkfq))), (pd, .inr (3, [.ref sg, .int (zI ln)])), (sg, .inl (cI, 60, .inl (zA sgn))), (oq, .inr (2, [.ref aiq, .ref adq, .ref amq, .ref ahq, .ref chq, .int (zI Tq), .int (zI tmq), .int (zI yrq)])), (aiq, .inl (cI, 9, .inl (zA incq))), (adq, .inl (cI, 9, .inl (zA driq))), (amq, .inl (cI, 9, .inl (zA matq))), (chq, .inr (1, [.ref iyq, .ref mkq, .int (zI cnq)])), (iyq, .inl (cI, 8, .inl (zA iyfq))), (mkq, .inl (cI, 8, .inl (zA mkfq)))] H locs := hz
              refine lv_aload_n hx hb dX9_tell_116 rfl (lv_at hl 5 rfl) ?_
              refine lv_dup hx hb dX9_tell_117 rfl ?_
              refine z_get (C := RX9) (T := TX9) (N := 6) (ref := "HornCity$Years") hx hb hts hin_X9_tell_X9 hown hK hz 0 rfl rfl 2 (by decide) (hts _ fl_X9_tell_57) rfl rfl dX9_tell_118 ?_
              refine z_iconst hx hb dX9_tell_121 ?_
              refine z_iadd hx hb dX9_tell_122 ?_
              refine z_put (C := RX9) (T := TX9) (N := 6) (ref := "HornCity$Years") (ty := .int) hx hb hts hin_X9_tell_X9 hown hK hz tyX9 tyX9_ok nmX9 0 rfl rfl 2 (by decide) (hts _ fl_X9_tell_57) rfl rfl (by decide +kernel) rfl rfl (Nat.le_of_ble_eq_true rfl) dX9_tell_123 (fun H locs hz => ?_)
              have hz : zH D (zF ws0) H0 [(ys, .inr (7, [.ref o, .ref kd, .int (zI (acx + 1)), .int (zI (whyS Tq matx yrx (kndS ln sgn pl) (sigS ln sgn pl - 65) (wthS ln sgn pl))), .int (zI (if ¬ cvS Tq incx tmx (sigS ln sgn pl - 65) False = inO Tq incx (sigS ln sgn pl - 65) ∧ wax = -6 then acx else wax)), .int (zI (if ¬ cvS Tq incx tmx (sigS ln sgn pl - 65) False = inO Tq incx (sigS ln sgn pl - 65) ∧ wax = -6 then (sigS ln sgn pl - 65) else wox))])), (kd, .inl (cI, 9, .inl (zA (zU kdx (sigS ln sgn pl - 65) (cvS Tq incx tmx (sigS ln sgn pl - 65) False))))), (o, .inr (2, [.ref ai, .ref ad, .ref am, .ref ah, .ref ch, .int (zI Tq), .int (zI (actH tmx yrx (kndS ln sgn pl))), .int (zI (actY yrx (kndS ln sgn pl)))])), (ai, .inl (cI, 9, .inl (zA (actI Tq driq matx incx (kndS ln sgn pl) (sigS ln sgn pl - 65) (wthS ln sgn pl))))), (ad, .inl (cI, 9, .inl (zA driq))), (am, .inl (cI, 9, .inl (zA (actM Tq matx (kndS ln sgn pl) (sigS ln sgn pl - 65) (wthS ln sgn pl))))), (ah, .inl (cI, 9, .inl (zA ah1_20))), (ch, .inr (1, [.ref iy, .ref mk, .int (zI cnq)])), (iy, .inl (cI, 8, .inl (zA iyfq))), (mk, .inl (cI, 8, .inl (zA mkfq))), (pd, .inr (3, [.ref sg, .int (zI ln)])), (sg, .inl (cI, 60, .inl (zA sgn))), (oq, .inr (2, [.ref aiq, .ref adq, .ref amq, .ref ahq, .ref chq, .int (zI Tq), .int (zI tmq), .int (zI yrq)])), (aiq, .inl (cI, 9, .inl (zA incq))), (adq, .inl (cI, 9, .inl (zA driq))), (amq, .inl (cI, 9, .inl (zA matq))), (chq, .inr (1, [.ref iyq, .ref mkq, .int (zI cnq)])), (iyq, .inl (cI, 8, .inl (zA iyfq))), (mkq, .inl (cI, 8, .inl (zA mkfq)))] H locs := hz
              refine lv_iload_n hx hb dX9_tell_126 rfl (lv_at hl 4 rfl) ?_
              refine lv_aload_n hx hb dX9_tell_127 rfl (lv_at hl 6 rfl) ?_
              refine lv_iload_n hx hb dX9_tell_128 rfl (lv_at hl 4 rfl) ?_
              refine z_callVp (As := [.int (zI pl)]) (rest := [.int (zI pl)]) (C := RX4) (T := TX4) (N := 2) F hK hz hl (c_X4_lengthOfAct l D cI cJ cZ pd sg sgn ln pl (by first | assumption | omega) (hbs) (by omega)) (cwV 1 hts gX9_tell_X4_lengthOfAct rfl rfl rfl (by decide +kernel) ⟨Nat.le_of_ble_eq_true rfl, Nat.le_of_ble_eq_true rfl⟩) rfl 10 rfl [10, 11] rfl rfl rfl rfl (Nat.le_of_ble_eq_true rfl) ⟨Nat.le_of_ble_eq_true rfl, Nat.le_of_ble_eq_true rfl⟩ dX9_tell_129 ?_
              have hn1 := lenS_bd ln sgn pl
              refine z_iadd hx hb dX9_tell_132 ?_
              refine lv_istore_n (lv' := [(3, .int (zI (pl + (lenS ln sgn pl)))), (7, .int (zI (wthS ln sgn pl))), (6, .int (zI (sigS ln sgn pl - 65))), (5, .int (zI (kndS ln sgn pl))), (4, .int (zI ct)), (0, .ref ys), (1, .ref pd), (2, .ref oq)]) hx hb dX9_tell_133 rfl hl (Nat.le_of_ble_eq_true rfl) rfl (fun ls hl => ?_)
              refine z_iinc (lv' := [(4, .int (zI (ct + 1))), (3, .int (zI (pl + (lenS ln sgn pl)))), (7, .int (zI (wthS ln sgn pl))), (6, .int (zI (sigS ln sgn pl - 65))), (5, .int (zI (kndS ln sgn pl))), (0, .ref ys), (1, .ref pd), (2, .ref oq)]) hx hb dX9_tell_134 hl (k := 4) rfl (Nat.le_of_ble_eq_true rfl) rfl (fun ls hl => ?_)
              refine lv_goto (tgt := 10) hx hb dX9_tell_137 (by decide) ?_
              exact ih10 _ (by omega) (ct + 1) (pl + (lenS ln sgn pl)) (acx + 1) (whyS Tq matx yrx (kndS ln sgn pl) (sigS ln sgn pl - 65) (wthS ln sgn pl)) (if ¬ cvS Tq incx tmx (sigS ln sgn pl - 65) False = inO Tq incx (sigS ln sgn pl - 65) ∧ wax = -6 then acx else wax) (if ¬ cvS Tq incx tmx (sigS ln sgn pl - 65) False = inO Tq incx (sigS ln sgn pl - 65) ∧ wax = -6 then (sigS ln sgn pl - 65) else wox) (actH tmx yrx (kndS ln sgn pl)) (actY yrx (kndS ln sgn pl)) (zU kdx (sigS ln sgn pl - 65) (cvS Tq incx tmx (sigS ln sgn pl - 65) False)) (actI Tq driq matx incx (kndS ln sgn pl) (sigS ln sgn pl - 65) (wthS ln sgn pl)) (actM Tq matx (kndS ln sgn pl) (sigS ln sgn pl - 65) (wthS ln sgn pl)) ah1_20 H locs ls rfl (by omega) (by omega) (h67) (by omega) (by first | assumption | (split <;> omega)) (actI_bd hbx) (actM_bd hmx) (⟨actH_bd htx.1, actY_bd h67 htx.2⟩) (by rw [hf, runS_go (by omega) (by omega) h67]; congr 1; simp [stpS, cvS, h14, h22, h67, h75, h92]) hz (lv_sub hl [0, 1, 5, 6, 7] rfl)
            ·
              exfalso
              first | omega | (revert h92; simp_all; done) | simp_all
          ·
            refine lv_iload hx hb dX9_tell_78 (lv_at hl 2 rfl) ?_
            refine z_bipush hx hb dX9_tell_80 (by decide) ?_
            refine z_icmp_ne (tgt := 103) hx hb dX9_tell_82 (by decide) (by omega) (by decide) (fun h82 => ?_) (fun h82 => ?_)
            ·
              refine lv_aload_n hx hb dX9_tell_103 rfl (lv_at hl 5 rfl) ?_
              refine z_get (C := RX9) (T := TX9) (N := 6) (ref := "HornCity$Years") hx hb hts hin_X9_tell_X9 hown hK hz 0 rfl rfl 0 (by decide) (hts _ fl_X9_tell_12) rfl rfl dX9_tell_104 ?_
              refine lv_iload hx hb dX9_tell_107 (lv_at hl 2 rfl) ?_
              refine lv_iload hx hb dX9_tell_109 (lv_at hl 1 rfl) ?_
              refine lv_iload hx hb dX9_tell_111 (lv_at hl 0 rfl) ?_
              refine z_callVwv (As := [.int (zI (kndS ln sgn pl)), .int (zI (sigS ln sgn pl - 65)), .int (zI (wthS ln sgn pl))]) (rest := []) (C := RX2) (T := TX2) (N := 8) F hK hz hl (c_X2_act l D cI cJ cZ o ai ad am ah ch incx driq matx ahx Tq tmx yrx (kndS ln sgn pl) (sigS ln sgn pl - 65) (wthS ln sgn pl) (by omega) (by first | assumption | omega) (hbx) (hbdq) (hmx) (by omega)) (cwV 3 hts gX9_tell_X2_act rfl rfl rfl (by decide +kernel) ⟨Nat.le_of_ble_eq_true rfl, Nat.le_of_ble_eq_true rfl⟩) rfl 2 rfl [2, 3, 4, 5, 6] rfl rfl (by decide +kernel) rfl rfl (Nat.le_of_ble_eq_true rfl) ⟨Nat.le_of_ble_eq_true rfl, Nat.le_of_ble_eq_true rfl⟩ dX9_tell_113 (fun u H locs hu hz => ?_)
              obtain ⟨inc1_23, mat1_24, ah1_25, tm1_26, yr1_27⟩ := u
              have hu : inc1_23 = actI Tq driq matx incx (kndS ln sgn pl) (sigS ln sgn pl - 65) (wthS ln sgn pl) ∧ mat1_24 = actM Tq matx (kndS ln sgn pl) (sigS ln sgn pl - 65) (wthS ln sgn pl) ∧ tm1_26 = actH tmx yrx (kndS ln sgn pl) ∧ yr1_27 = actY yrx (kndS ln sgn pl) := hu
              obtain ⟨g113_0, g113_1, g113_2, g113_3⟩ := hu
              have g113_0 := g113_0.symm
              subst g113_0
              have g113_1 := g113_1.symm
              subst g113_1
              have g113_2 := g113_2.symm
              subst g113_2
              have g113_3 := g113_3.symm
              subst g113_3
              have hz : zH D (zF ws0) H0 [(ys, .inr (7, [.ref o, .ref kd, .int (zI acx), .int (zI (whyS Tq matx yrx (kndS ln sgn pl) (sigS ln sgn pl - 65) (wthS ln sgn pl))), .int (zI wax), .int (zI wox)])), (kd, .inl (cI, 9, .inl (zA kdx))), (o, .inr (2, [.ref ai, .ref ad, .ref am, .ref ah, .ref ch, .int (zI Tq), .int (zI (actH tmx yrx (kndS ln sgn pl))), .int (zI (actY yrx (kndS ln sgn pl)))])), (ai, .inl (cI, 9, .inl (zA (actI Tq driq matx incx (kndS ln sgn pl) (sigS ln sgn pl - 65) (wthS ln sgn pl))))), (ad, .inl (cI, 9, .inl (zA driq))), (am, .inl (cI, 9, .inl (zA (actM Tq matx (kndS ln sgn pl) (sigS ln sgn pl - 65) (wthS ln sgn pl))))), (ah, .inl (cI, 9, .inl (zA ah1_25))), (ch, .inr (1, [.ref iy, .ref mk, .int (zI cnq)])), (iy, .inl (cI, 8, .inl (zA iyfq))), (mk, .inl (cI, 8, .inl (zA mkfq))), (pd, .inr (3, [.ref sg, .int (zI ln)])), (sg, .inl (cI, 60, .inl (zA sgn))), (oq, .inr (2, [.ref aiq, .ref adq, .ref amq, .ref ahq, .ref chq, .int (zI Tq), .int (zI tmq), .int (zI yrq)])), (aiq, .inl (cI, 9, .inl (zA incq))), (adq, .inl (cI, 9, .inl (zA driq))), (amq, .inl (cI, 9, .inl (zA matq))), (chq, .inr (1, [.ref iyq, .ref mkq, .int (zI cnq)])), (iyq, .inl (cI, 8, .inl (zA iyfq))), (mkq, .inl (cI, 8, .inl (zA mkfq)))] H locs := hz
              refine lv_aload_n hx hb dX9_tell_116 rfl (lv_at hl 5 rfl) ?_
              refine lv_dup hx hb dX9_tell_117 rfl ?_
              refine z_get (C := RX9) (T := TX9) (N := 6) (ref := "HornCity$Years") hx hb hts hin_X9_tell_X9 hown hK hz 0 rfl rfl 2 (by decide) (hts _ fl_X9_tell_57) rfl rfl dX9_tell_118 ?_
              refine z_iconst hx hb dX9_tell_121 ?_
              refine z_iadd hx hb dX9_tell_122 ?_
              refine z_put (C := RX9) (T := TX9) (N := 6) (ref := "HornCity$Years") (ty := .int) hx hb hts hin_X9_tell_X9 hown hK hz tyX9 tyX9_ok nmX9 0 rfl rfl 2 (by decide) (hts _ fl_X9_tell_57) rfl rfl (by decide +kernel) rfl rfl (Nat.le_of_ble_eq_true rfl) dX9_tell_123 (fun H locs hz => ?_)
              have hz : zH D (zF ws0) H0 [(ys, .inr (7, [.ref o, .ref kd, .int (zI (acx + 1)), .int (zI (whyS Tq matx yrx (kndS ln sgn pl) (sigS ln sgn pl - 65) (wthS ln sgn pl))), .int (zI wax), .int (zI wox)])), (kd, .inl (cI, 9, .inl (zA kdx))), (o, .inr (2, [.ref ai, .ref ad, .ref am, .ref ah, .ref ch, .int (zI Tq), .int (zI (actH tmx yrx (kndS ln sgn pl))), .int (zI (actY yrx (kndS ln sgn pl)))])), (ai, .inl (cI, 9, .inl (zA (actI Tq driq matx incx (kndS ln sgn pl) (sigS ln sgn pl - 65) (wthS ln sgn pl))))), (ad, .inl (cI, 9, .inl (zA driq))), (am, .inl (cI, 9, .inl (zA (actM Tq matx (kndS ln sgn pl) (sigS ln sgn pl - 65) (wthS ln sgn pl))))), (ah, .inl (cI, 9, .inl (zA ah1_25))), (ch, .inr (1, [.ref iy, .ref mk, .int (zI cnq)])), (iy, .inl (cI, 8, .inl (zA iyfq))), (mk, .inl (cI, 8, .inl (zA mkfq))), (pd, .inr (3, [.ref sg, .int (zI ln)])), (sg, .inl (cI, 60, .inl (zA sgn))), (oq, .inr (2, [.ref aiq, .ref adq, .ref amq, .ref ahq, .ref chq, .int (zI Tq), .int (zI tmq), .int (zI yrq)])), (aiq, .inl (cI, 9, .inl (zA incq))), (adq, .inl (cI, 9, .inl (zA driq))), (amq, .inl (cI, 9, .inl (zA matq))), (chq, .inr (1, [.ref iyq, .ref mkq, .int (zI cnq)])), (iyq, .inl (cI, 8, .inl (zA iyfq))), (mkq, .inl (cI, 8, .inl (zA mkfq)))] H locs := hz
              refine lv_iload_n hx hb dX9_tell_126 rfl (lv_at hl 4 rfl) ?_
              refine lv_aload_n hx hb dX9_tell_127 rfl (lv_at hl 6 rfl) ?_
              refine lv_iload_n hx hb dX9_tell_128 rfl (lv_at hl 4 rfl) ?_
              refine z_callVp (As := [.int (zI pl)]) (rest := [.int (zI pl)]) (C := RX4) (T := TX4) (N := 2) F hK hz hl (c_X4_lengthOfAct l D cI cJ cZ pd sg sgn ln pl (by first | assumption | omega) (hbs) (by omega)) (cwV 1 hts gX9_tell_X4_lengthOfAct rfl rfl rfl (by decide +kernel) ⟨Nat.le_of_ble_eq_true rfl, Nat.le_of_ble_eq_true rfl⟩) rfl 10 rfl [10, 11] rfl rfl rfl rfl (Nat.le_of_ble_eq_true rfl) ⟨Nat.le_of_ble_eq_true rfl, Nat.le_of_ble_eq_true rfl⟩ dX9_tell_129 ?_
              have hn1 := lenS_bd ln sgn pl
              refine z_iadd hx hb dX9_tell_132 ?_
              refine lv_istore_n (lv' := [(3, .int (zI (pl + (lenS ln sgn pl)))), (7, .int (zI (wthS ln sgn pl))), (6, .int (zI (sigS ln sgn pl - 65))), (5, .int (zI (kndS ln sgn pl))), (4, .int (zI ct)), (0, .ref ys), (1, .ref pd), (2, .ref oq)]) hx hb dX9_tell_133 rfl hl (Nat.le_of_ble_eq_true rfl) rfl (fun ls hl => ?_)
              refine z_iinc (lv' := [(4, .int (zI (ct + 1))), (3, .int (zI (pl + (lenS ln sgn pl)))), (7, .int (zI (wthS ln sgn pl))), (6, .int (zI (sigS ln sgn pl - 65))), (5, .int (zI (kndS ln sgn pl))), (0, .ref ys), (1, .ref pd), (2, .ref oq)]) hx hb dX9_tell_134 hl (k := 4) rfl (Nat.le_of_ble_eq_true rfl) rfl (fun ls hl => ?_)
              refine lv_goto (tgt := 10) hx hb dX9_tell_137 (by decide) ?_
              exact ih10 _ (by omega) (ct + 1) (pl + (lenS ln sgn pl)) (acx + 1) (whyS Tq matx yrx (kndS ln sgn pl) (sigS ln sgn pl - 65) (wthS ln sgn pl)) wax wox (actH tmx yrx (kndS ln sgn pl)) (actY yrx (kndS ln sgn pl)) kdx (actI Tq driq matx incx (kndS ln sgn pl) (sigS ln sgn pl - 65) (wthS ln sgn pl)) (actM Tq matx (kndS ln sgn pl) (sigS ln sgn pl - 65) (wthS ln sgn pl)) ah1_25 H locs ls rfl (by omega) (by omega) (h67) (by omega) (by first | assumption | (split <;> omega)) (actI_bd hbx) (actM_bd hmx) (⟨actH_bd htx.1, actY_bd h67 htx.2⟩) (by rw [hf, runS_go (by omega) (by omega) h67]; congr 1; simp [stpS, cvS, h14, h22, h67, h75, h82]) hz (lv_sub hl [0, 1, 5, 6, 7] rfl)
            ·
              refine lv_aload_n hx hb dX9_tell_85 rfl (lv_at hl 5 rfl) ?_
              refine lv_iload hx hb dX9_tell_86 (lv_at hl 1 rfl) ?_
              refine lv_iload hx hb dX9_tell_88 (lv_at hl 2 rfl) ?_
              refine z_bipush hx hb dX9_tell_90 (by decide) ?_
              refine z_icmp_ne (tgt := 99) hx hb dX9_tell_92 (by decide) (by omega) (by decide) (fun h92 => ?_) (fun h92 => ?_)
              ·
                exfalso
                first | omega | (revert h92; simp_all; done) | simp_all
              ·
                refine z_iconst hx hb dX9_tell_95 ?_
                refine lv_goto (tgt := 100) hx hb dX9_tell_96 (by decide) ?_
                refine z_callVwv (As := [.int (zI (sigS ln sgn pl - 65)), .int (zI 1)]) (rest := []) (C := RX9) (T := TX9) (N := 6) F hK hz hl (c_X9_putChalk l D cI cJ cZ ys o kd ai ad am ah ch kdx incx acx (whyS Tq matx yrx (kndS ln sgn pl) (sigS ln sgn pl - 65) (wthS ln sgn pl)) wax wox Tq tmx yrx (sigS ln sgn pl - 65) True (inS.rng (why0_in h67 (by omega))) (by first | assumption | omega) (hbx) (by omega) (by omega)) (cwV 2 hts gX9_tell_X9_putChalk rfl rfl rfl (by decide +kernel) ⟨Nat.le_of_ble_eq_true rfl, Nat.le_of_ble_eq_true rfl⟩) rfl 0 rfl [0, 1, 2, 3] rfl rfl (by decide +kernel) rfl rfl (Nat.le_of_ble_eq_true rfl) ⟨Nat.le_of_ble_eq_true rfl, Nat.le_of_ble_eq_true rfl⟩ dX9_tell_100 (fun u H locs hu hz => ?_)
                obtain ⟨kd1_28, wa1_29, wo1_30⟩ := u
                have hu : kd1_28 = zU kdx (sigS ln sgn pl - 65) (cvS Tq incx tmx (sigS ln sgn pl - 65) True) ∧ wa1_29 = (if ¬ cvS Tq incx tmx (sigS ln sgn pl - 65) True = inO Tq incx (sigS ln sgn pl - 65) ∧ wax = -6 then acx else wax) ∧ wo1_30 = (if ¬ cvS Tq incx tmx (sigS ln sgn pl - 65) True = inO Tq incx (sigS ln sgn pl - 65) ∧ wax = -6 then (sigS ln sgn pl - 65) else wox) := hu
                obtain ⟨g100_0, g100_1, g100_2⟩ := hu
                have g100_0 := g100_0.symm
                subst g100_0
                have g100_1 := g100_1.symm
                subst g100_1
                have g100_2 := g100_2.symm
                subst g100_2
                have hz : zH D (zF ws0) H0 [(ys, .inr (7, [.ref o, .ref kd, .int (zI acx), .int (zI (whyS Tq matx yrx (kndS ln sgn pl) (sigS ln sgn pl - 65) (wthS ln sgn pl))), .int (zI (if ¬ cvS Tq incx tmx (sigS ln sgn pl - 65) True = inO Tq incx (sigS ln sgn pl - 65) ∧ wax = -6 then acx else wax)), .int (zI (if ¬ cvS Tq incx tmx (sigS ln sgn pl - 65) True = inO Tq incx (sigS ln sgn pl - 65) ∧ wax = -6 then (sigS ln sgn pl - 65) else wox))])), (kd, .inl (cI, 9, .inl (zA (zU kdx (sigS ln sgn pl - 65) (cvS Tq incx tmx (sigS ln sgn pl - 65) True))))), (o, .inr (2, [.ref ai, .ref ad, .ref am, .ref ah, .ref ch, .int (zI Tq), .int (zI tmx), .int (zI yrx)])), (ai, .inl (cI, 9, .inl (zA incx))), (ad, .inl (cI, 9, .inl (zA driq))), (am, .inl (cI, 9, .inl (zA matx))), (ah, .inl (cI, 9, .inl (zA ahx))), (ch, .inr (1, [.ref iy, .ref mk, .int (zI cnq)])), (iy, .inl (cI, 8, .inl (zA iyfq))), (mk, .inl (cI, 8, .inl (zA mkfq))), (pd, .inr (3, [.ref sg, .int (zI ln)])), (sg, .inl (cI, 60, .inl (zA sgn))), (oq, .inr (2, [.ref aiq, .ref adq, .ref amq, .ref ahq, .ref chq, .int (zI Tq), .int (zI tmq), .int (zI yrq)])), (aiq, .inl (cI, 9, .inl (zA incq))), (adq, .inl (cI, 9, .inl (zA driq))), (amq, .inl (cI, 9, .inl (zA matq))), (chq, .inr (1, [.ref iyq, .ref mkq, .int (zI cnq)])), (iyq, .inl (cI, 8, .inl (zA iyfq))), (mkq, .inl (cI, 8, .inl (zA mkfq)))] H locs := hz
                refine lv_aload_n hx hb dX9_tell_103 rfl (lv_at hl 5 rfl) ?_
                refine z_get (C := RX9) (T := TX9) (N := 6) (ref := "HornCity$Years") hx hb hts hin_X9_tell_X9 hown hK hz 0 rfl rfl 0 (by decide) (hts _ fl_X9_tell_12) rfl rfl dX9_tell_104 ?_
                refine lv_iload hx hb dX9_tell_107 (lv_at hl 2 rfl) ?_
                refine lv_iload hx hb dX9_tell_109 (lv_at hl 1 rfl) ?_
                refine lv_iload hx hb dX9_tell_111 (lv_at hl 0 rfl) ?_
                refine z_callVwv (As := [.int (zI (kndS ln sgn pl)), .int (zI (sigS ln sgn pl - 65)), .int (zI (wthS ln sgn pl))]) (rest := []) (C := RX2) (T := TX2) (N := 8) F hK hz hl (c_X2_act l D cI cJ cZ o ai ad am ah ch incx driq matx ahx Tq tmx yrx (kndS ln sgn pl) (sigS ln sgn pl - 65) (wthS ln sgn pl) (by omega) (by first | assumption | omega) (hbx) (hbdq) (hmx) (by omega)) (cwV 3 hts gX9_tell_X2_act rfl rfl rfl (by decide +kernel) ⟨Nat.le_of_ble_eq_true rfl, Nat.le_of_ble_eq_true rfl⟩) rfl 2 rfl [2, 3, 4, 5, 6] rfl rfl (by decide +kernel) rfl rfl (Nat.le_of_ble_eq_true rfl) ⟨Nat.le_of_ble_eq_true rfl, Nat.le_of_ble_eq_true rfl⟩ dX9_tell_113 (fun u H locs hu hz => ?_)
                obtain ⟨inc1_31, mat1_32, ah1_33, tm1_34, yr1_35⟩ := u
                have hu : inc1_31 = actI Tq driq matx incx (kndS ln sgn pl) (sigS ln sgn pl - 65) (wthS ln sgn pl) ∧ mat1_32 = actM Tq matx (kndS ln sgn pl) (sigS ln sgn pl - 65) (wthS ln sgn pl) ∧ tm1_34 = actH tmx yrx (kndS ln sgn pl) ∧ yr1_35 = actY yrx (kndS ln sgn pl) := hu
                obtain ⟨g113_0, g113_1, g113_2, g113_3⟩ := hu
                have g113_0 := g113_0.symm
                subst g113_0
                have g113_1 := g113_1.symm
                subst g113_1
                have g113_2 := g113_2.symm
                subst g113_2
                have g113_3 := g113_3.symm
                subst g113_3
                have hz : zH D (zF ws0) H0 [(ys, .inr (7, [.ref o, .ref kd, .int (zI acx), .int (zI (whyS Tq matx yrx (kndS ln sgn pl) (sigS ln sgn pl - 65) (wthS ln sgn pl))), .int (zI (if ¬ cvS Tq incx tmx (sigS ln sgn pl - 65) True = inO Tq incx (sigS ln sgn pl - 65) ∧ wax = -6 then acx else wax)), .int (zI (if ¬ cvS Tq incx tmx (sigS ln sgn pl - 65) True = inO Tq incx (sigS ln sgn pl - 65) ∧ wax = -6 then (sigS ln sgn pl - 65) else wox))])), (kd, .inl (cI, 9, .inl (zA (zU kdx (sigS ln sgn pl - 65) (cvS Tq incx tmx (sigS ln sgn pl - 65) True))))), (o, .inr (2, [.ref ai, .ref ad, .ref am, .ref ah, .ref ch, .int (zI Tq), .int (zI (actH tmx yrx (kndS ln sgn pl))), .int (zI (actY yrx (kndS ln sgn pl)))])), (ai, .inl (cI, 9, .inl (zA (actI Tq driq matx incx (kndS ln sgn pl) (sigS ln sgn pl - 65) (wthS ln sgn pl))))), (ad, .inl (cI, 9, .inl (zA driq))), (am, .inl (cI, 9, .inl (zA (actM Tq matx (kndS ln sgn pl) (sigS ln sgn pl - 65) (wthS ln sgn pl))))), (ah, .inl (cI, 9, .inl (zA ah1_33))), (ch, .inr (1, [.ref iy, .ref mk, .int (zI cnq)])), (iy, .inl (cI, 8, .inl (zA iyfq))), (mk, .inl (cI, 8, .inl (zA mkfq))), (pd, .inr (3, [.ref sg, .int (zI ln)])), (sg, .inl (cI, 60, .inl (zA sgn))), (oq, .inr (2, [.ref aiq, .ref adq, .ref amq, .ref ahq, .ref chq, .int (zI Tq), .int (zI tmq), .int (zI yrq)])), (aiq, .inl (cI, 9, .inl (zA incq))), (adq, .inl (cI, 9, .inl (zA driq))), (amq, .inl (cI, 9, .inl (zA matq))), (chq, .inr (1, [.ref iyq, .ref mkq, .int (zI cnq)])), (iyq, .inl (cI, 8, .inl (zA iyfq))), (mkq, .inl (cI, 8, .inl (zA mkfq)))] H locs := hz
                refine lv_aload_n hx hb dX9_tell_116 rfl (lv_at hl 5 rfl) ?_
                refine lv_dup hx hb dX9_tell_117 rfl ?_
                refine z_get (C := RX9) (T := TX9) (N := 6) (ref := "HornCity$Years") hx hb hts hin_X9_tell_X9 hown hK hz 0 rfl rfl 2 (by decide) (hts _ fl_X9_tell_57) rfl rfl dX9_tell_118 ?_
                refine z_iconst hx hb dX9_tell_121 ?_
                refine z_iadd hx hb dX9_tell_122 ?_
                refine z_put (C := RX9) (T := TX9) (N := 6) (ref := "HornCity$Years") (ty := .int) hx hb hts hin_X9_tell_X9 hown hK hz tyX9 tyX9_ok nmX9 0 rfl rfl 2 (by decide) (hts _ fl_X9_tell_57) rfl rfl (by decide +kernel) rfl rfl (Nat.le_of_ble_eq_true rfl) dX9_tell_123 (fun H locs hz => ?_)
                have hz : zH D (zF ws0) H0 [(ys, .inr (7, [.ref o, .ref kd, .int (zI (acx + 1)), .int (zI (whyS Tq matx yrx (kndS ln sgn pl) (sigS ln sgn pl - 65) (wthS ln sgn pl))), .int (zI (if ¬ cvS Tq incx tmx (sigS ln sgn pl - 65) True = inO Tq incx (sigS ln sgn pl - 65) ∧ wax = -6 then acx else wax)), .int (zI (if ¬ cvS Tq incx tmx (sigS ln sgn pl - 65) True = inO Tq incx (sigS ln sgn pl - 65) ∧ wax = -6 then (sigS ln sgn pl - 65) else wox))])), (kd, .inl (cI, 9, .inl (zA (zU kdx (sigS ln sgn pl - 65) (cvS Tq incx tmx (sigS ln sgn pl - 65) True))))), (o, .inr (2, [.ref ai, .ref ad, .ref am, .ref ah, .ref ch, .int (zI Tq), .int (zI (actH tmx yrx (kndS ln sgn pl))), .int (zI (actY yrx (kndS ln sgn pl)))])), (ai, .inl (cI, 9, .inl (zA (actI Tq driq matx incx (kndS ln sgn pl) (sigS ln sgn pl - 65) (wthS ln sgn pl))))), (ad, .inl (cI, 9, .inl (zA driq))), (am, .inl (cI, 9, .inl (zA (actM Tq matx (kndS ln sgn pl) (sigS ln sgn pl - 65) (wthS ln sgn pl))))), (ah, .inl (cI, 9, .inl (zA ah1_33))), (ch, .inr (1, [.ref iy, .ref mk, .int (zI cnq)])), (iy, .inl (cI, 8, .inl (zA iyfq))), (mk, .inl (cI, 8, .inl (zA mkfq))), (pd, .inr (3, [.ref sg, .int (zI ln)])), (sg, .inl (cI, 60, .inl (zA sgn))), (oq, .inr (2, [.ref aiq, .ref adq, .ref amq, .ref ahq, .ref chq, .int (zI Tq), .int (zI tmq), .int (zI yrq)])), (aiq, .inl (cI, 9, .inl (zA incq))), (adq, .inl (cI, 9, .inl (zA driq))), (amq, .inl (cI, 9, .inl (zA matq))), (chq, .inr (1, [.ref iyq, .ref mkq, .int (zI cnq)])), (iyq, .inl (cI, 8, .inl (zA iyfq))), (mkq, .inl (cI, 8, .inl (zA mkfq)))] H locs := hz
                refine lv_iload_n hx hb dX9_tell_126 rfl (lv_at hl 4 rfl) ?_
                refine lv_aload_n hx hb dX9_tell_127 rfl (lv_at hl 6 rfl) ?_
                refine lv_iload_n hx hb dX9_tell_128 rfl (lv_at hl 4 rfl) ?_
                refine z_callVp (As := [.int (zI pl)]) (rest := [.int (zI pl)]) (C := RX4) (T := TX4) (N := 2) F hK hz hl (c_X4_lengthOfAct l D cI cJ cZ pd sg sgn ln pl (by first | assumption | omega) (hbs) (by omega)) (cwV 1 hts gX9_tell_X4_lengthOfAct rfl rfl rfl (by decide +kernel) ⟨Nat.le_of_ble_eq_true rfl, Nat.le_of_ble_eq_true rfl⟩) rfl 10 rfl [10, 11] rfl rfl rfl rfl (Nat.le_of_ble_eq_true rfl) ⟨Nat.le_of_ble_eq_true rfl, Nat.le_of_ble_eq_true rfl⟩ dX9_tell_129 ?_
                have hn1 := lenS_bd ln sgn pl
                refine z_iadd hx hb dX9_tell_132 ?_
                refine lv_istore_n (lv' := [(3, .int (zI (pl + (lenS ln sgn pl)))), (7, .int (zI (wthS ln sgn pl))), (6, .int (zI (sigS ln sgn pl - 65))), (5, .int (zI (kndS ln sgn pl))), (4, .int (zI ct)), (0, .ref ys), (1, .ref pd), (2, .ref oq)]) hx hb dX9_tell_133 rfl hl (Nat.le_of_ble_eq_true rfl) rfl (fun ls hl => ?_)
                refine z_iinc (lv' := [(4, .int (zI (ct + 1))), (3, .int (zI (pl + (lenS ln sgn pl)))), (7, .int (zI (wthS ln sgn pl))), (6, .int (zI (sigS ln sgn pl - 65))), (5, .int (zI (kndS ln sgn pl))), (0, .ref ys), (1, .ref pd), (2, .ref oq)]) hx hb dX9_tell_134 hl (k := 4) rfl (Nat.le_of_ble_eq_true rfl) rfl (fun ls hl => ?_)
                refine lv_goto (tgt := 10) hx hb dX9_tell_137 (by decide) ?_
                exact ih10 _ (by omega) (ct + 1) (pl + (lenS ln sgn pl)) (acx + 1) (whyS Tq matx yrx (kndS ln sgn pl) (sigS ln sgn pl - 65) (wthS ln sgn pl)) (if ¬ cvS Tq incx tmx (sigS ln sgn pl - 65) True = inO Tq incx (sigS ln sgn pl - 65) ∧ wax = -6 then acx else wax) (if ¬ cvS Tq incx tmx (sigS ln sgn pl - 65) True = inO Tq incx (sigS ln sgn pl - 65) ∧ wax = -6 then (sigS ln sgn pl - 65) else wox) (actH tmx yrx (kndS ln sgn pl)) (actY yrx (kndS ln sgn pl)) (zU kdx (sigS ln sgn pl - 65) (cvS Tq incx tmx (sigS ln sgn pl - 65) True)) (actI Tq driq matx incx (kndS ln sgn pl) (sigS ln sgn pl - 65) (wthS ln sgn pl)) (actM Tq matx (kndS ln sgn pl) (sigS ln sgn pl - 65) (wthS ln sgn pl)) ah1_33 H locs ls rfl (by omega) (by omega) (h67) (by omega) (by first | assumption | (split <;> omega)) (actI_bd hbx) (actM_bd hmx) (⟨actH_bd htx.1, actY_bd h67 htx.2⟩) (by rw [hf, runS_go (by omega) (by omega) h67]; congr 1; simp [stpS, cvS, h14, h22, h67, h75, h82, h92]) hz (lv_sub hl [0, 1, 5, 6, 7] rfl)
        ·
          exact hret ((incx : Int → Int), (driq : Int → Int), (matx : Int → Int), (Tq : Int), (tmx : Int), (yrx : Int), (ahx : Int → Int), (iyfq : Int → Int), (mkfq : Int → Int), (cnq : Int), (kdx : Int → Int), (acx : Int), ((whyS Tq matx yrx (kndS ln sgn pl) (sigS ln sgn pl - 65) (wthS ln sgn pl)) : Int), (wax : Int), (wox : Int)) dX9_tell_70 (show driq = driq ∧ Tq = Tq ∧ iyfq = iyfq ∧ mkfq = mkfq ∧ cnq = cnq ∧ (incx, matx, tmx, yrx, kdx, wax, wox, acx, (whyS Tq matx yrx (kndS ln sgn pl) (sigS ln sgn pl - 65) (wthS ln sgn pl))) = rnW Tq driq ln sgn incq matq tmq yrq from ⟨rfl, rfl, rfl, rfl, rfl, by unfold rnW; rw [hf, runS_no (by omega) (by omega) h67]⟩) hz
  exact L10 _ 0 0 0 0 (-6) (-6) tmq yrq (fun _ => -6) incq matq ahe H locs ls rfl (by decide) (by decide) (rfl) (by decide) (by decide) (hbiq) (hbmq) (by omega) (rfl) hz (lv_sub hl [0, 1, 2, 3, 4] rfl)
