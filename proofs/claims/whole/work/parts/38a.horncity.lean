theorem zOr_bd {a b : Int} (ha : 0 ≤ a ∧ a < 512) (hb : 0 ≤ b ∧ b < 512) : 0 ≤ zOr a b ∧ zOr a b < 512 := by
  have : a.toNat ||| b.toNat < 2 ^ 9 := Nat.or_lt_two_pow (by omega) (by omega)
  unfold zOr; omega
abbrev oneOk (k i d : Int) : Prop := (0 ≤ k ∧ k ≤ 8) ∧ (0 ≤ i ∧ i ≤ 179) ∧ (-9 ≤ d ∧ d ≤ 9)
def oneR (T k i d : Int) : Int := if ¬ (0 ≤ k ∧ k ≤ 8) then -1 else if ¬ ((0 ≤ i ∧ i ≤ 179) ∧ (-9 ≤ d ∧ d ≤ 9)) then -2 else cnt9 (zOr T (2 ^ k.toNat))
def oneT (T k i d : Int) : Int := if oneOk k i d then zOr T (2 ^ k.toNat) else T
def oneI (inc : Int → Int) (k i d : Int) : Int → Int := if oneOk k i d then zU inc k i else inc
def oneD (dri : Int → Int) (k i d : Int) : Int → Int := if oneOk k i d then zU dri k d else dri
def oneM (T : Int) (mat : Int → Int) (k i d : Int) : Int → Int := if oneOk k i d then sepM T mat k else mat
def paR (T : Int) (mat : Int → Int) (a b : Int) (is : Prop) [Decidable is] : Int :=
  if inS T a = false ∨ inS T b = false ∨ a = b then -1 else if is then (if maO T mat a = -6 ∧ maO T mat b = -6 then pairS T (seaM T mat a b) else -3) else (if maO T mat a = b then pairS T (sepM T mat a) else -3)
def paM (T : Int) (mat : Int → Int) (a b : Int) (is : Prop) [Decidable is] : Int → Int :=
  if inS T a = false ∨ inS T b = false ∨ a = b then mat else if is then (if maO T mat a = -6 ∧ maO T mat b = -6 then seaM T mat a b else mat) else (if maO T mat a = b then sepM T mat a else mat)
def hoR (tm v : Int) : Int := if 0 ≤ v ∧ v ≤ 9 then tm else -2
def hoT (tm v : Int) : Int := if 0 ≤ v ∧ v ≤ 9 then v else tm
def saR (ln v : Int) : Int := if 33 ≤ v ∧ v ≤ 126 then (if ln < 60 then ln + 1 else -4) else -2
def saL (ln v : Int) : Int := if 33 ≤ v ∧ v ≤ 126 then (if ln < 60 then ln + 1 else ln) else ln
def saS (ln : Int) (sgn : Int → Int) (v : Int) : Int → Int := if 33 ≤ v ∧ v ≤ 126 then (if ln < 60 then zU sgn ln v else sgn) else sgn
def zRac (q : zR) : Int := q.2.2.2.2.2.2.2.1
def zRwh (q : zR) : Int := q.2.2.2.2.2.2.2.2
def juR (what f : Int) (q : zR) : Int := if 0 ≤ what ∧ what ≤ 1 then (if f = -6 then (if zRwh q = 0 then -6 else if what = 0 then zRac q else zRwh q) else -5) else -2
abbrev canS (f : Int) (q : zR) : Prop := f = -6 ∧ zRwh q = 0
def doR (f : Int) (q : zR) : Int := if canS f q then zRac q else -5
def beR (T k what f : Int) (q : zR) : Int := if inS T k = true then (if 0 ≤ what ∧ what ≤ 2 then (if canS f q then (if what = 0 then inO T q.1 k else if what = 1 then maO T q.2.1 k else q.2.2.2.2.1 k) else -5) else -2) else -1
def thR (T what f : Int) (q : zR) : Int := if 0 ≤ what ∧ what ≤ 4 then (if canS f q then (if what = 0 then q.2.2.1 else if what = 1 then q.2.2.2.1 else if what = 2 then pairS T q.2.1 else if what = 3 then q.2.2.2.2.2.1 else q.2.2.2.2.2.2.1) else -5) else -2
def apR (T : Int) (inc : Int → Int) (a b : Int) : Int := if inS T a = true ∧ inS T b = true then apS (inO T inc a) (inO T inc b) else -1
def trR (T : Int) (inc : Int → Int) (what : Int) : Int := if 0 ≤ what ∧ what ≤ 1 then (if what = 0 then sumZ (fun s => if triS T inc s = true then 1 else 0) 512 else lstS (triS T inc) 512 0) else -2
abbrev brOk (to a b c what : Int) : Prop := (0 ≤ to ∧ to ≤ 179) ∧ (1 ≤ a ∧ a ≤ 179) ∧ (1 ≤ b ∧ b ≤ 179) ∧ (1 ≤ c ∧ c ≤ 179) ∧ (0 ≤ what ∧ what ≤ 1)
def brR (T : Int) (inc : Int → Int) (k to a b c what : Int) : Int := if inS T k = true then (if brOk to a b c what then (if what = 0 then disS (dgS a b c) to (inO T inc k) else firS (dgS a b c) to (inO T inc k)) else -2) else -1
def leR (T : Int) (inc : Int → Int) (what : Int) : Int := if 0 ≤ what ∧ what ≤ 1 then (if what = 0 then (argm (afS T inc) 179).1 else afS T inc (argm (afS T inc) 179).1) else -2
def biR (T : Int) (inc : Int → Int) (what : Int) : Int := if 0 ≤ what ∧ what ≤ 1 then (if what = 0 then ahS T inc (bhS T inc 511).1 else (bhS T inc 511).1) else -2
def meR (T : Int) (inc dri : Int → Int) (a b : Int) : Int := if inS T a = true ∧ inS T b = true then lstS (fun n => decide ((inO T inc a - inO T inc b + (inO T dri a - inO T dri b) * n) % 180 = 0)) 360 0 else -1
abbrev chOk (y c : Int) : Prop := (0 ≤ y ∧ y ≤ 60) ∧ (0 ≤ c ∧ c ≤ 179)
def chR (cn y c : Int) : Int := if chOk y c then (if cn < 8 then cn + 1 else -4) else -2
def chN (cn y c : Int) : Int := if chOk y c ∧ cn < 8 then cn + 1 else cn
def chY (iy : Int → Int) (cn y c : Int) : Int → Int := if chOk y c ∧ cn < 8 then zU iy cn y else iy
def chM (mk : Int → Int) (cn y c : Int) : Int → Int := if chOk y c ∧ cn < 8 then zU mk cn c else mk
def waR (iy mk : Int → Int) (cn w i : Int) : Int := if 0 ≤ w ∧ w ≤ 2 then (if i = -1 then cntS iy mk cn w 3600 else fndS iy mk cn w i 3600 0 0) else -2
def asQ (iy mk : Int → Int) (cn : Int) : Int × Int := if cntS iy mk cn 0 3600 = 0 then (-6, -6) else askS iy mk cn 61
def asR (iy mk : Int → Int) (cn what : Int) : Int := if 0 ≤ what ∧ what ≤ 1 then (if what = 0 then (asQ iy mk cn).1 else (asQ iy mk cn).2) else -2
def taR (n what : Int) : Int := if (0 ≤ n ∧ n ≤ 179) ∧ (0 ≤ what ∧ what ≤ 1) then (if what = 0 then (if winS n = -6 then 0 else 1) else winS n) else -2
abbrev coOk (m p a b n q part : Int) : Prop := (2 ≤ m ∧ m ≤ 12) ∧ (0 ≤ p ∧ p ≤ m - 1) ∧ (0 ≤ q ∧ q ≤ m - 1) ∧ (0 ≤ a ∧ a ≤ 10) ∧ (0 ≤ b ∧ b ≤ 10 - a) ∧ (0 ≤ n ∧ n ≤ 16) ∧ (0 ≤ part ∧ part ≤ 1)
def coR (m p a b n q part : Int) : Int := if coOk m p a b n q part then cocS m p a b n.toNat q part else -1000000000000000002
abbrev boOk (seed m what : Int) : Prop := (0 ≤ seed ∧ seed ≤ 9999) ∧ (1 ≤ m ∧ m ≤ 99) ∧ (0 ≤ what ∧ what ≤ 2)
def boR (T : Int) (dri inc mat : Int → Int) (tm yr seed m what : Int) : Int :=
  if boOk seed m what then (if what = 0 then sumZ (inO T (drwS T dri m.toNat seed (inc, mat, tm, yr)).1) 9 else if what = 1 then pairS T (drwS T dri m.toNat seed (inc, mat, tm, yr)).2.1 else sumZ (fun s => if triS T (drwS T dri m.toNat seed (inc, mat, tm, yr)).1 s = true then 1 else 0) 512) else -2
def t1R (T : Int) (inc dri mat : Int → Int) (k part : Int) : Int := if inS T k = true then (if part = 0 then inO T inc k else if part = 1 then inO T dri k + 9 else if part = 2 then maO T mat k else -2) else -2
def toR (ln T tm yr cn : Int) (inc dri mat : Int → Int) (what : Int) : Int :=
  if what = 0 then ln else if what = 1 then T else if what = 2 then tm else if what = 3 then yr else if what = 4 then cn else if what = 5 then pairS T mat else t1R T inc dri mat (what.tdiv 10 - 1) (what.tmod 10)
theorem runS_why {T : Int} {dri : Int → Int} {ln : Int} {sgn : Int → Int} : ∀ (n : Nat) (p : Int) (q : zR), zRwh q = 0 → 0 ≤ zRwh (runS T dri ln sgn n p q) ∧ zRwh (runS T dri ln sgn n p q) ≤ 4
  | 0, p, q, h => by rw [show runS T dri ln sgn 0 p q = q from rfl, h]; decide
  | n + 1, p, q, h => by
    by_cases hp : p < ln
    · by_cases hw : whyS T q.2.1 q.2.2.2.1 (kndS ln sgn p) (sigS ln sgn p - 65) (wthS ln sgn p) = 0
      · have e : runS T dri ln sgn (n + 1) p q = runS T dri ln sgn n (p + lenS ln sgn p) (stpS T dri (kndS ln sgn p) (sigS ln sgn p - 65) (wthS ln sgn p) q) := by
          show (if p < ln then _ else _) = _
          rw [if_pos hp]; exact if_pos hw
        rw [e]; exact runS_why n _ _ rfl
      · have e : runS T dri ln sgn (n + 1) p q = (q.1, q.2.1, q.2.2.1, q.2.2.2.1, q.2.2.2.2.1, q.2.2.2.2.2.1, q.2.2.2.2.2.2.1, q.2.2.2.2.2.2.2.1, whyS T q.2.1 q.2.2.2.1 (kndS ln sgn p) (sigS ln sgn p - 65) (wthS ln sgn p)) := by
          show (if p < ln then _ else _) = _
          rw [if_pos hp]; exact if_neg hw
        rw [e]; exact whyS_bd _ _ _ _ _ _
    · have e : runS T dri ln sgn (n + 1) p q = q := runS_end hp
      rw [e, h]; decide
/-- all that a text leaves is in bounds -/
def okR (q : zR) : Prop := zBd q.1 9 0 179 ∧ zBd q.2.1 9 (-6) 8 ∧ (0 ≤ q.2.2.1 ∧ q.2.2.1 ≤ 9) ∧ (0 ≤ q.2.2.2.1 ∧ q.2.2.2.1 ≤ 999)
theorem stpS_ok {T : Int} {dri : Int → Int} {k o w : Int} {q : zR} (h : okR q) (hw : whyS T q.2.1 q.2.2.2.1 k o w = 0) : okR (stpS T dri k o w q) := by
  obtain ⟨inc, mat, tm, yr, kd, wa, wo, ac, wh⟩ := q
  exact ⟨actI_bd h.1, actM_bd h.2.1, actH_bd h.2.2.1, actY_bd hw h.2.2.2⟩
theorem runS_ok {T : Int} {dri : Int → Int} {ln : Int} {sgn : Int → Int} : ∀ (n : Nat) (p : Int) (q : zR), okR q → okR (runS T dri ln sgn n p q)
  | 0, p, q, h => h
  | n + 1, p, q, h => by
    by_cases hp : p < ln
    · by_cases hw : whyS T q.2.1 q.2.2.2.1 (kndS ln sgn p) (sigS ln sgn p - 65) (wthS ln sgn p) = 0
      · have e : runS T dri ln sgn (n + 1) p q = runS T dri ln sgn n (p + lenS ln sgn p) (stpS T dri (kndS ln sgn p) (sigS ln sgn p - 65) (wthS ln sgn p) q) := by
          show (if p < ln then _ else _) = _
          rw [if_pos hp]; exact if_pos hw
        rw [e]; exact runS_ok n _ _ (stpS_ok h hw)
      · have e : runS T dri ln sgn (n + 1) p q = (q.1, q.2.1, q.2.2.1, q.2.2.2.1, q.2.2.2.2.1, q.2.2.2.2.2.1, q.2.2.2.2.2.2.1, q.2.2.2.2.2.2.2.1, whyS T q.2.1 q.2.2.2.1 (kndS ln sgn p) (sigS ln sgn p - 65) (wthS ln sgn p)) := by
          show (if p < ln then _ else _) = _
          rw [if_pos hp]; exact if_neg hw
        rw [e]; exact h
    · have e : runS T dri ln sgn (n + 1) p q = q := runS_end hp
      rw [e]; exact h
theorem rnW_why (T : Int) (dri : Int → Int) (ln : Int) (sgn inc mat : Int → Int) (tm yr : Int) : 0 ≤ zRwh (rnW T dri ln sgn inc mat tm yr) ∧ zRwh (rnW T dri ln sgn inc mat tm yr) ≤ 4 := by
  unfold rnW; exact runS_why 60 0 _ rfl
theorem rnW_ok {T : Int} {dri : Int → Int} {ln : Int} {sgn inc mat : Int → Int} {tm yr : Int} (h1 : zBd inc 9 0 179) (h2 : zBd mat 9 (-6) 8) (h3 : (0 ≤ tm ∧ tm ≤ 9) ∧ 0 ≤ yr ∧ yr ≤ 999) : okR (rnW T dri ln sgn inc mat tm yr) := by
  unfold rnW; exact runS_ok 60 0 _ ⟨h1, h2, h3.1, h3.2⟩
theorem argm_bd (f : Int → Int) : ∀ n : Nat, 0 ≤ (argm f n).1 ∧ (argm f n).1 ≤ n
  | 0 => by show (0 : Int) ≤ 0 ∧ (0 : Int) ≤ ((0 : Nat) : Int); decide
  | n + 1 => by
    have := argm_bd f n
    show 0 ≤ (if _ then _ else argm f n).1 ∧ (if _ then _ else argm f n).1 ≤ _
    split
    · show 0 ≤ (n : Int) + 1 ∧ (n : Int) + 1 ≤ ((n + 1 : Nat) : Int); omega
    · omega
theorem bhS_bd (T : Int) (inc : Int → Int) : ∀ n : Nat, 0 ≤ (bhS T inc n).1 ∧ (bhS T inc n).1 ≤ n
  | 0 => by show (0 : Int) ≤ 0 ∧ (0 : Int) ≤ ((0 : Nat) : Int); decide
  | n + 1 => by
    have := bhS_bd T inc n
    show 0 ≤ (if _ then _ else bhS T inc n).1 ∧ (if _ then _ else bhS T inc n).1 ≤ _
    split
    · show 0 ≤ (n : Int) + 1 ∧ (n : Int) + 1 ≤ ((n + 1 : Nat) : Int); omega
    · omega
theorem pow16 (h : Int) (hh : 0 ≤ h ∧ h ≤ 16) : 1 ≤ (10 : Int) ^ h.toNat ∧ (10 : Int) ^ h.toNat ≤ 10000000000000000 := by
  have : ∀ n : Fin 17, 1 ≤ (10 : Int) ^ n.val ∧ (10 : Int) ^ n.val ≤ 10000000000000000 := by decide +kernel
  exact this ⟨h.toNat, by omega⟩

set_option maxRecDepth 20000 in
theorem hin_X10_one_X10 : ∀ w ∈ u_ws RX10 TX10 10, w ∈ wsX10_one := by decide +kernel
set_option maxRecDepth 20000 in
theorem fl_X10_one_10 : Cond.fieldLink RX10 10 "HornCity" "now" "LHornCity$City;" ∈ wsX10_one := by decide +kernel
set_option maxHeartbeats 4000000 in
set_option maxRecDepth 100000 in
theorem c_X10_one (l : Launch) (D : va_G) (cI cJ cZ : ClassId) (hc on of os kp pd ys tu as tk ck ain adn amn ahn chn : Nat) (incn drin matn : Int → Int) (Tn tmn yrn k i0 d0 : Int) (hr : (-2147483648 ≤ k ∧ k ≤ 2147483647) ∧ (-2147483648 ≤ i0 ∧ i0 ≤ 2147483647) ∧ (-2147483648 ≤ d0 ∧ d0 ≤ 2147483647)) (hTn : 0 ≤ Tn ∧ Tn < 512) (hbmn : zBd matn 9 (-6) 8) : zMw l yX10_one wsX10_one (zRm 4) D cI cJ cZ [.ref hc, .int (zI k), .int (zI i0), .int (zI d0)] [(hc, .inr (8, [.ref on, .ref of, .ref os, .ref kp, .ref pd, .ref ys, .ref tu, .ref as, .ref tk, .ref ck])), (on, .inr (2, [.ref ain, .ref adn, .ref amn, .ref ahn, .ref chn, .int (zI Tn), .int (zI tmn), .int (zI yrn)])), (ain, .inl (cI, 9, .inl (zA incn))), (adn, .inl (cI, 9, .inl (zA drin))), (amn, .inl (cI, 9, .inl (zA matn)))] (S := Int × (Int → Int) × (Int → Int) × (Int → Int) × Int) (fun u => u.1 = oneR Tn k i0 d0 ∧ u.2.1 = oneI incn k i0 d0 ∧ u.2.2.1 = oneD drin k i0 d0 ∧ u.2.2.2.1 = oneM Tn matn k i0 d0 ∧ u.2.2.2.2 = oneT Tn k i0 d0) (fun u => some (.int (zI u.1))) (fun u => [(hc, .inr (8, [.ref on, .ref of, .ref os, .ref kp, .ref pd, .ref ys, .ref tu, .ref as, .ref tk, .ref ck])), (on, .inr (2, [.ref ain, .ref adn, .ref amn, .ref ahn, .ref chn, .int (zI u.2.2.2.2), .int (zI tmn), .int (zI yrn)])), (ain, .inl (cI, 9, .inl (zA u.2.1))), (adn, .inl (cI, 9, .inl (zA u.2.2.1))), (amn, .inl (cI, 9, .inl (zA u.2.2.2.1)))]) := by
  refine zMw_i (cc := cX10_one) (maxL := 4) (by decide +kernel) rfl (Nat.le_of_ble_eq_true rfl) rfl (fun _ => rfl) ?_
  intro p e s m args below meth c Q H0 ls F hK hz hl hret
  obtain ⟨hx, hb, hml, hown0, hts⟩ := id F
  have hown : s.vm.findClass RX10 = some m.cls := hown0
  obtain ⟨ws0, hw0⟩ : ∃ w : va_W, w = [(hc, .inr (8, [.ref on, .ref of, .ref os, .ref kp, .ref pd, .ref ys, .ref tu, .ref as, .ref tk, .ref ck])), (on, .inr (2, [.ref ain, .ref adn, .ref amn, .ref ahn, .ref chn, .int (zI Tn), .int (zI tmn), .int (zI yrn)])), (ain, .inl (cI, 9, .inl (zA incn))), (adn, .inl (cI, 9, .inl (zA drin))), (amn, .inl (cI, 9, .inl (zA matn)))] := ⟨_, rfl⟩
  rw [← hw0] at hret
  have hz : zH D (zF ws0) H0 [(hc, .inr (8, [.ref on, .ref of, .ref os, .ref kp, .ref pd, .ref ys, .ref tu, .ref as, .ref tk, .ref ck])), (on, .inr (2, [.ref ain, .ref adn, .ref amn, .ref ahn, .ref chn, .int (zI Tn), .int (zI tmn), .int (zI yrn)])), (ain, .inl (cI, 9, .inl (zA incn))), (adn, .inl (cI, 9, .inl (zA drin))), (amn, .inl (cI, 9, .inl (zA matn)))] H0 [] := by rw [hw0]; exact hz
  have hl : lv_has ls 4 [(0, .ref hc), (1, .int (zI k)), (2, .int (zI i0)), (3, .int (zI d0))] := hl
  refine lv_iload_n hx hb dX10_one_0 rfl (lv_at hl 1 rfl) ?_
  refine z_iconst hx hb dX10_one_1 ?_
  refine z_bipush hx hb dX10_one_2 (by decide) ?_
  refine z_callSp (As := [.int (zI k), .int (zI 0), .int (zI 8)]) (rest := []) F hK hz hl (c_X10_isWithin l D cI cJ cZ k 0 8 (by omega)) (va_cwS 3 hts gX10_one_X10_isWithin rfl rfl rfl (by decide +kernel) ⟨Nat.le_of_ble_eq_true rfl, Nat.le_of_ble_eq_true rfl⟩) [] rfl rfl rfl rfl (Nat.le_of_ble_eq_true rfl) ⟨Nat.le_of_ble_eq_true rfl, Nat.le_of_ble_eq_true rfl⟩ dX10_one_4 ?_
  refine z_ifb_ne (tgt := 12) hx hb dX10_one_7 (by decide) (fun h7 => ?_) (fun h7 => ?_)
  ·
    refine lv_iload_n hx hb dX10_one_12 rfl (lv_at hl 2 rfl) ?_
    refine z_iconst hx hb dX10_one_13 ?_
    refine z_sipush hx hb dX10_one_14 (by decide) ?_
    refine z_callSp (As := [.int (zI i0), .int (zI 0), .int (zI 179)]) (rest := []) F hK hz hl (c_X10_isWithin l D cI cJ cZ i0 0 179 (by omega)) (va_cwS 3 hts gX10_one_X10_isWithin rfl rfl rfl (by decide +kernel) ⟨Nat.le_of_ble_eq_true rfl, Nat.le_of_ble_eq_true rfl⟩) [] rfl rfl rfl rfl (Nat.le_of_ble_eq_true rfl) ⟨Nat.le_of_ble_eq_true rfl, Nat.le_of_ble_eq_true rfl⟩ dX10_one_17 ?_
    refine z_ifb_eq (tgt := 34) hx hb dX10_one_20 (by decide) (fun h20 => ?_) (fun h20 => ?_)
    ·
      refine z_bipush hx hb dX10_one_34 (by decide) ?_
      exact hret (((-2) : Int), (incn : Int → Int), (drin : Int → Int), (matn : Int → Int), (Tn : Int)) dX10_one_36 (show (-2) = oneR Tn k i0 d0 ∧ incn = oneI incn k i0 d0 ∧ drin = oneD drin k i0 d0 ∧ matn = oneM Tn matn k i0 d0 ∧ Tn = oneT Tn k i0 d0 from ⟨by unfold oneR; rw [if_neg (by omega), if_pos (by omega)], by unfold oneI; rw [if_neg (by omega)], by unfold oneD; rw [if_neg (by omega)], by unfold oneM; rw [if_neg (by omega)], by unfold oneT; rw [if_neg (by omega)]⟩) hz
    ·
      refine lv_iload_n hx hb dX10_one_23 rfl (lv_at hl 3 rfl) ?_
      refine z_bipush hx hb dX10_one_24 (by decide) ?_
      refine z_bipush hx hb dX10_one_26 (by decide) ?_
      refine z_callSp (As := [.int (zI d0), .int (zI (-9)), .int (zI 9)]) (rest := []) F hK hz hl (c_X10_isWithin l D cI cJ cZ d0 (-9) 9 (by omega)) (va_cwS 3 hts gX10_one_X10_isWithin rfl rfl rfl (by decide +kernel) ⟨Nat.le_of_ble_eq_true rfl, Nat.le_of_ble_eq_true rfl⟩) [] rfl rfl rfl rfl (Nat.le_of_ble_eq_true rfl) ⟨Nat.le_of_ble_eq_true rfl, Nat.le_of_ble_eq_true rfl⟩ dX10_one_28 ?_
      refine z_ifb_ne (tgt := 37) hx hb dX10_one_31 (by decide) (fun h31 => ?_) (fun h31 => ?_)
      ·
        refine lv_aload_n hx hb dX10_one_37 rfl (lv_at hl 0 rfl) ?_
        refine z_get (C := RX10) (T := TX10) (N := 10) (ref := "HornCity") hx hb hts hin_X10_one_X10 hown hK hz 0 rfl rfl 0 (by decide) (hts _ fl_X10_one_10) rfl rfl dX10_one_38 ?_
        refine lv_iload_n hx hb dX10_one_41 rfl (lv_at hl 1 rfl) ?_
        refine lv_iload_n hx hb dX10_one_42 rfl (lv_at hl 2 rfl) ?_
        refine lv_iload_n hx hb dX10_one_43 rfl (lv_at hl 3 rfl) ?_
        refine z_callVwv (As := [.int (zI k), .int (zI i0), .int (zI d0)]) (rest := []) (C := RX2) (T := TX2) (N := 8) F hK hz hl (c_X2_settle l D cI cJ cZ on ain adn amn ahn chn incn drin matn Tn tmn yrn k i0 d0 (by omega) (by first | assumption | omega) (hbmn)) (cwV 3 hts gX10_one_X2_settle rfl rfl rfl (by decide +kernel) ⟨Nat.le_of_ble_eq_true rfl, Nat.le_of_ble_eq_true rfl⟩) rfl 1 rfl [1, 2, 3, 4] rfl rfl (by decide +kernel) rfl rfl (Nat.le_of_ble_eq_true rfl) ⟨Nat.le_of_ble_eq_true rfl, Nat.le_of_ble_eq_true rfl⟩ dX10_one_44 (fun u H locs hu hz => ?_)
        obtain ⟨inc1_1, dri1_2, mat1_3, T1_4⟩ := u
        have hu : inc1_1 = zU incn k i0 ∧ dri1_2 = zU drin k d0 ∧ mat1_3 = sepM Tn matn k ∧ T1_4 = zOr Tn (2 ^ k.toNat) := hu
        obtain ⟨g44_0, g44_1, g44_2, g44_3⟩ := hu
        have g44_0 := g44_0.symm
        subst g44_0
        have g44_1 := g44_1.symm
        subst g44_1
        have g44_2 := g44_2.symm
        subst g44_2
        have g44_3 := g44_3.symm
        subst g44_3
        have hz : zH D (zF ws0) H0 [(hc, .inr (8, [.ref on, .ref of, .ref os, .ref kp, .ref pd, .ref ys, .ref tu, .ref as, .ref tk, .ref ck])), (on, .inr (2, [.ref ain, .ref adn, .ref amn, .ref ahn, .ref chn, .int (zI (zOr Tn (2 ^ k.toNat))), .int (zI tmn), .int (zI yrn)])), (ain, .inl (cI, 9, .inl (zA (zU incn k i0)))), (adn, .inl (cI, 9, .inl (zA (zU drin k d0)))), (amn, .inl (cI, 9, .inl (zA (sepM Tn matn k))))] H locs := hz
        refine lv_aload_n hx hb dX10_one_47 rfl (lv_at hl 0 rfl) ?_
        refine z_get (C := RX10) (T := TX10) (N := 10) (ref := "HornCity") hx hb hts hin_X10_one_X10 hown hK hz 0 rfl rfl 0 (by decide) (hts _ fl_X10_one_10) rfl rfl dX10_one_48 ?_
        have hp9 := pow9 k (by omega)
        have ho9 := zOr_bd hTn (b := 2 ^ k.toNat) (by omega)
        refine z_callVp (As := []) (rest := []) (C := RX2) (T := TX2) (N := 8) F hK hz hl (c_X2_heads l D cI cJ cZ on ain adn amn ahn chn (zOr Tn (2 ^ k.toNat)) tmn yrn (by first | assumption | omega)) (cwV 0 hts gX10_one_X2_heads rfl rfl rfl (by decide +kernel) ⟨Nat.le_of_ble_eq_true rfl, Nat.le_of_ble_eq_true rfl⟩) rfl 1 rfl [1] rfl rfl rfl rfl (Nat.le_of_ble_eq_true rfl) ⟨Nat.le_of_ble_eq_true rfl, Nat.le_of_ble_eq_true rfl⟩ dX10_one_51 ?_
        exact hret (((cnt9 (zOr Tn (2 ^ k.toNat))) : Int), (zU incn k i0 : Int → Int), (zU drin k d0 : Int → Int), (sepM Tn matn k : Int → Int), ((zOr Tn (2 ^ k.toNat)) : Int)) dX10_one_54 (show (cnt9 (zOr Tn (2 ^ k.toNat))) = oneR Tn k i0 d0 ∧ (zU incn k i0) = oneI incn k i0 d0 ∧ (zU drin k d0) = oneD drin k i0 d0 ∧ (sepM Tn matn k) = oneM Tn matn k i0 d0 ∧ (zOr Tn (2 ^ k.toNat)) = oneT Tn k i0 d0 from ⟨by unfold oneR; rw [if_neg (by omega), if_neg (by omega)], by unfold oneI; rw [if_pos (by omega)], by unfold oneD; rw [if_pos (by omega)], by unfold oneM; rw [if_pos (by omega)], by unfold oneT; rw [if_pos (by omega)]⟩) hz
      ·
        refine z_bipush hx hb dX10_one_34 (by decide) ?_
        exact hret (((-2) : Int), (incn : Int → Int), (drin : Int → Int), (matn : Int → Int), (Tn : Int)) dX10_one_36 (show (-2) = oneR Tn k i0 d0 ∧ incn = oneI incn k i0 d0 ∧ drin = oneD drin k i0 d0 ∧ matn = oneM Tn matn k i0 d0 ∧ Tn = oneT Tn k i0 d0 from ⟨by unfold oneR; rw [if_neg (by omega), if_pos (by omega)], by unfold oneI; rw [if_neg (by omega)], by unfold oneD; rw [if_neg (by omega)], by unfold oneM; rw [if_neg (by omega)], by unfold oneT; rw [if_neg (by omega)]⟩) hz
  ·
    refine z_iconst hx hb dX10_one_10 ?_
    exact hret (((-1) : Int), (incn : Int → Int), (drin : Int → Int), (matn : Int → Int), (Tn : Int)) dX10_one_11 (show (-1) = oneR Tn k i0 d0 ∧ incn = oneI incn k i0 d0 ∧ drin = oneD drin k i0 d0 ∧ matn = oneM Tn matn k i0 d0 ∧ Tn = oneT Tn k i0 d0 from ⟨by unfold oneR; rw [if_pos h7], by unfold oneI; rw [if_neg (by omega)], by unfold oneD; rw [if_neg (by omega)], by unfold oneM; rw [if_neg (by omega)], by unfold oneT; rw [if_neg (by omega)]⟩) hz

set_option maxRecDepth 20000 in
theorem hin_X10_pair_X10 : ∀ w ∈ u_ws RX10 TX10 10, w ∈ wsX10_pair := by decide +kernel
set_option maxRecDepth 20000 in
theorem fl_X10_pair_10 : Cond.fieldLink RX10 10 "HornCity" "now" "LHornCity$City;" ∈ wsX10_pair := by decide +kernel
set_option maxHeartbeats 4000000 in
set_option maxRecDepth 100000 in
theorem c_X10_pair (l : Launch) (D : va_G) (cI cJ cZ : ClassId) (hc on of os kp pd ys tu as tk ck ain adn amn ahn chn : Nat) (matn : Int → Int) (Tn tmn yrn a b : Int) (is0 : Prop) [Decidable is0] (hr : (-2147483648 ≤ a ∧ a ≤ 2147483647) ∧ (-2147483648 ≤ b ∧ b ≤ 2147483647)) (hTn : 0 ≤ Tn ∧ Tn < 512) (hbmn : zBd matn 9 (-6) 8) : zMw l yX10_pair wsX10_pair (zRm 3) D cI cJ cZ [.ref hc, .int (zI a), .int (zI b), .int (zI (if is0 then 1 else 0))] [(hc, .inr (8, [.ref on, .ref of, .ref os, .ref kp, .ref pd, .ref ys, .ref tu, .ref as, .ref tk, .ref ck])), (on, .inr (2, [.ref ain, .ref adn, .ref amn, .ref ahn, .ref chn, .int (zI Tn), .int (zI tmn), .int (zI yrn)])), (amn, .inl (cI, 9, .inl (zA matn)))] (S := Int × (Int → Int)) (fun u => u.1 = paR Tn matn a b is0 ∧ u.2 = paM Tn matn a b is0) (fun u => some (.int (zI u.1))) (fun u => [(hc, .inr (8, [.ref on, .ref of, .ref os, .ref kp, .ref pd, .ref ys, .ref tu, .ref as, .ref tk, .ref ck])), (on, .inr (2, [.ref ain, .ref adn, .ref amn, .ref ahn, .ref chn, .int (zI Tn), .int (zI tmn), .int (zI yrn)])), (amn, .inl (cI, 9, .inl (zA u.2)))]) := by
  refine zMw_i (cc := cX10_pair) (maxL := 4) (by decide +kernel) rfl (Nat.le_of_ble_eq_true rfl) rfl (fun _ => rfl) ?_
  intro p e s m args below meth c Q H0 ls F hK hz hl hret
  obtain ⟨hx, hb, hml, hown0, hts⟩ := id F
  have hown : s.vm.findClass RX10 = some m.cls := hown0
  obtain ⟨ws0, hw0⟩ : ∃ w : va_W, w = [(hc, .inr (8, [.ref on, .ref of, .ref os, .ref kp, .ref pd, .ref ys, .ref tu, .ref as, .ref tk, .ref ck])), (on, .inr (2, [.ref ain, .ref adn, .ref amn, .ref ahn, .ref chn, .int (zI Tn), .int (zI tmn), .int (zI yrn)])), (amn, .inl (cI, 9, .inl (zA matn)))] := ⟨_, rfl⟩
  rw [← hw0] at hret
  have hz : zH D (zF ws0) H0 [(hc, .inr (8, [.ref on, .ref of, .ref os, .ref kp, .ref pd, .ref ys, .ref tu, .ref as, .ref tk, .ref ck])), (on, .inr (2, [.ref ain, .ref adn, .ref amn, .ref ahn, .ref chn, .int (zI Tn), .int (zI tmn), .int (zI yrn)])), (amn, .inl (cI, 9, .inl (zA matn)))] H0 [] := by rw [hw0]; exact hz
  have hl : lv_has ls 4 [(0, .ref hc), (1, .int (zI a)), (2, .int (zI b)), (3, .int (zI (if is0 then 1 else 0)))] := hl
  refine lv_aload_n hx hb dX10_pair_0 rfl (lv_at hl 0 rfl) ?_
  refine z_get (C := RX10) (T := TX10) (N := 10) (ref := "HornCity") hx hb hts hin_X10_pair_X10 hown hK hz 0 rfl rfl 0 (by decide) (hts _ fl_X10_pair_10) rfl rfl dX10_pair_1 ?_
  refine lv_iload_n hx hb dX10_pair_4 rfl (lv_at hl 1 rfl) ?_
  refine z_callVp (As := [.int (zI a)]) (rest := []) (C := RX2) (T := TX2) (N := 8) F hK hz hl (c_X2_isThere l D cI cJ cZ on ain adn amn ahn chn Tn tmn yrn a (by omega) (by first | assumption | omega)) (cwV 1 hts gX10_pair_X2_isThere rfl rfl rfl (by decide +kernel) ⟨Nat.le_of_ble_eq_true rfl, Nat.le_of_ble_eq_true rfl⟩) rfl 1 rfl [1] rfl rfl rfl rfl (Nat.le_of_ble_eq_true rfl) ⟨Nat.le_of_ble_eq_true rfl, Nat.le_of_ble_eq_true rfl⟩ dX10_pair_5 ?_
  refine z_ifb_eq (tgt := 27) hx hb dX10_pair_8 (by decide) (fun h8 => ?_) (fun h8 => ?_)
  ·
    refine z_iconst hx hb dX10_pair_27 ?_
    exact hret (((-1) : Int), (matn : Int → Int)) dX10_pair_28 (show (-1) = paR Tn matn a b is0 ∧ matn = paM Tn matn a b is0 from ⟨by simp [paR, h8], by simp [paM, h8]⟩) hz
  ·
    refine lv_aload_n hx hb dX10_pair_11 rfl (lv_at hl 0 rfl) ?_
    refine z_get (C := RX10) (T := TX10) (N := 10) (ref := "HornCity") hx hb hts hin_X10_pair_X10 hown hK hz 0 rfl rfl 0 (by decide) (hts _ fl_X10_pair_10) rfl rfl dX10_pair_12 ?_
    refine lv_iload_n hx hb dX10_pair_15 rfl (lv_at hl 2 rfl) ?_
    refine z_callVp (As := [.int (zI b)]) (rest := []) (C := RX2) (T := TX2) (N := 8) F hK hz hl (c_X2_isThere l D cI cJ cZ on ain adn amn ahn chn Tn tmn yrn b (by omega) (by first | assumption | omega)) (cwV 1 hts gX10_pair_X2_isThere rfl rfl rfl (by decide +kernel) ⟨Nat.le_of_ble_eq_true rfl, Nat.le_of_ble_eq_true rfl⟩) rfl 1 rfl [1] rfl rfl rfl rfl (Nat.le_of_ble_eq_true rfl) ⟨Nat.le_of_ble_eq_true rfl, Nat.le_of_ble_eq_true rfl⟩ dX10_pair_16 ?_
    refine z_ifb_eq (tgt := 27) hx hb dX10_pair_19 (by decide) (fun h19 => ?_) (fun h19 => ?_)
    ·
      refine z_iconst hx hb dX10_pair_27 ?_
      exact hret (((-1) : Int), (matn : Int → Int)) dX10_pair_28 (show (-1) = paR Tn matn a b is0 ∧ matn = paM Tn matn a b is0 from ⟨by simp [paR, h8, h19], by simp [paM, h8, h19]⟩) hz
    ·
      refine lv_iload_n hx hb dX10_pair_22 rfl (lv_at hl 1 rfl) ?_
      refine lv_iload_n hx hb dX10_pair_23 rfl (lv_at hl 2 rfl) ?_
      refine z_icmp_ne (tgt := 29) hx hb dX10_pair_24 (by decide) (by omega) (by omega) (fun h24 => ?_) (fun h24 => ?_)
      ·
        refine lv_iload_n hx hb dX10_pair_29 rfl (lv_at hl 3 rfl) ?_
        refine z_ifb_eq (tgt := 74) hx hb dX10_pair_30 (by decide) (fun h30 => ?_) (fun h30 => ?_)
        ·
          refine lv_aload_n hx hb dX10_pair_74 rfl (lv_at hl 0 rfl) ?_
          refine z_get (C := RX10) (T := TX10) (N := 10) (ref := "HornCity") hx hb hts hin_X10_pair_X10 hown hK hz 0 rfl rfl 0 (by decide) (hts _ fl_X10_pair_10) rfl rfl dX10_pair_75 ?_
          refine lv_iload_n hx hb dX10_pair_78 rfl (lv_at hl 1 rfl) ?_
          refine z_callVp (As := [.int (zI a)]) (rest := []) (C := RX2) (T := TX2) (N := 8) F hK hz hl (c_X2_mateOf l D cI cJ cZ on ain adn amn ahn chn matn Tn tmn yrn a (by omega) (by first | assumption | omega)) (cwV 1 hts gX10_pair_X2_mateOf rfl rfl rfl (by decide +kernel) ⟨Nat.le_of_ble_eq_true rfl, Nat.le_of_ble_eq_true rfl⟩) rfl 1 rfl [1, 2] rfl rfl rfl rfl (Nat.le_of_ble_eq_true rfl) ⟨Nat.le_of_ble_eq_true rfl, Nat.le_of_ble_eq_true rfl⟩ dX10_pair_79 ?_
          have hm3 := maO_bd (T := Tn) hbmn a
          refine lv_iload_n hx hb dX10_pair_82 rfl (lv_at hl 2 rfl) ?_
          refine z_icmp_eq (tgt := 89) hx hb dX10_pair_83 (by decide) (by omega) (by omega) (fun h83 => ?_) (fun h83 => ?_)
          ·
            refine lv_aload_n hx hb dX10_pair_89 rfl (lv_at hl 0 rfl) ?_
            refine z_get (C := RX10) (T := TX10) (N := 10) (ref := "HornCity") hx hb hts hin_X10_pair_X10 hown hK hz 0 rfl rfl 0 (by decide) (hts _ fl_X10_pair_10) rfl rfl dX10_pair_90 ?_
            refine lv_iload_n hx hb dX10_pair_93 rfl (lv_at hl 1 rfl) ?_
            refine z_callVwv (As := [.int (zI a)]) (rest := []) (C := RX2) (T := TX2) (N := 8) F hK hz hl (c_X2_separate l D cI cJ cZ on ain adn amn ahn chn matn Tn tmn yrn a (by omega) (by first | assumption | omega) (hbmn)) (cwV 1 hts gX10_pair_X2_separate rfl rfl rfl (by decide +kernel) ⟨Nat.le_of_ble_eq_true rfl, Nat.le_of_ble_eq_true rfl⟩) rfl 1 rfl [1, 2] rfl rfl (by decide +kernel) rfl rfl (Nat.le_of_ble_eq_true rfl) ⟨Nat.le_of_ble_eq_true rfl, Nat.le_of_ble_eq_true rfl⟩ dX10_pair_94 (fun u H locs hu hz => ?_)
            obtain ⟨mat1_1, hu9⟩ : ∃ z, z = u := ⟨_, rfl⟩
            subst hu9
            have hu : mat1_1 = sepM Tn matn a := hu
            have g94_0 := hu
            have g94_0 := g94_0.symm
            subst g94_0
            have hz : zH D (zF ws0) H0 [(hc, .inr (8, [.ref on, .ref of, .ref os, .ref kp, .ref pd, .ref ys, .ref tu, .ref as, .ref tk, .ref ck])), (on, .inr (2, [.ref ain, .ref adn, .ref amn, .ref ahn, .ref chn, .int (zI Tn), .int (zI tmn), .int (zI yrn)])), (amn, .inl (cI, 9, .inl (zA (sepM Tn matn a))))] H locs := hz
            refine lv_aload_n hx hb dX10_pair_97 rfl (lv_at hl 0 rfl) ?_
            refine z_get (C := RX10) (T := TX10) (N := 10) (ref := "HornCity") hx hb hts hin_X10_pair_X10 hown hK hz 0 rfl rfl 0 (by decide) (hts _ fl_X10_pair_10) rfl rfl dX10_pair_98 ?_
            refine z_callVp (As := []) (rest := []) (C := RX2) (T := TX2) (N := 8) F hK hz hl (c_X2_pairsSitting l D cI cJ cZ on ain adn amn ahn chn (sepM Tn matn a) Tn tmn yrn (by first | assumption | omega) (by first | exact seaM_bd hbmn | exact sepM_bd hbmn)) (cwV 0 hts gX10_pair_X2_pairsSitting rfl rfl rfl (by decide +kernel) ⟨Nat.le_of_ble_eq_true rfl, Nat.le_of_ble_eq_true rfl⟩) rfl 1 rfl [1, 2] rfl rfl rfl rfl (Nat.le_of_ble_eq_true rfl) ⟨Nat.le_of_ble_eq_true rfl, Nat.le_of_ble_eq_true rfl⟩ dX10_pair_101 ?_
            exact hret (((pairS Tn (sepM Tn matn a)) : Int), (sepM Tn matn a : Int → Int)) dX10_pair_104 (show (pairS Tn (sepM Tn matn a)) = paR Tn matn a b is0 ∧ (sepM Tn matn a) = paM Tn matn a b is0 from ⟨by simp [paR, h8, h19, h24, h30, h83], by simp [paM, h8, h19, h24, h30, h83]⟩) hz
          ·
            refine z_bipush hx hb dX10_pair_86 (by decide) ?_
            exact hret (((-3) : Int), (matn : Int → Int)) dX10_pair_88 (show (-3) = paR Tn matn a b is0 ∧ matn = paM Tn matn a b is0 from ⟨by simp [paR, h8, h19, h24, h30, h83], by simp [paM, h8, h19, h24, h30, h83]⟩) hz
        ·
          refine lv_aload_n hx hb dX10_pair_33 rfl (lv_at hl 0 rfl) ?_
          refine z_get (C := RX10) (T := TX10) (N := 10) (ref := "HornCity") hx hb hts hin_X10_pair_X10 hown hK hz 0 rfl rfl 0 (by decide) (hts _ fl_X10_pair_10) rfl rfl dX10_pair_34 ?_
          refine lv_iload_n hx hb dX10_pair_37 rfl (lv_at hl 1 rfl) ?_
          refine z_callVp (As := [.int (zI a)]) (rest := []) (C := RX2) (T := TX2) (N := 8) F hK hz hl (c_X2_mateOf l D cI cJ cZ on ain adn amn ahn chn matn Tn tmn yrn a (by omega) (by first | assumption | omega)) (cwV 1 hts gX10_pair_X2_mateOf rfl rfl rfl (by decide +kernel) ⟨Nat.le_of_ble_eq_true rfl, Nat.le_of_ble_eq_true rfl⟩) rfl 1 rfl [1, 2] rfl rfl rfl rfl (Nat.le_of_ble_eq_true rfl) ⟨Nat.le_of_ble_eq_true rfl, Nat.le_of_ble_eq_true rfl⟩ dX10_pair_38 ?_
          have hm1 := maO_bd (T := Tn) hbmn a
          refine z_bipush hx hb dX10_pair_41 (by decide) ?_
          refine z_icmp_ne (tgt := 59) hx hb dX10_pair_43 (by decide) (by omega) (by decide) (fun h43 => ?_) (fun h43 => ?_)
          ·
            refine z_bipush hx hb dX10_pair_59 (by decide) ?_
            exact hret (((-3) : Int), (matn : Int → Int)) dX10_pair_61 (show (-3) = paR Tn matn a b is0 ∧ matn = paM Tn matn a b is0 from ⟨by simp [paR, h8, h19, h24, h30, h43], by simp [paM, h8, h19, h24, h30, h43]⟩) hz
          ·
            refine lv_aload_n hx hb dX10_pair_46 rfl (lv_at hl 0 rfl) ?_
            refine z_get (C := RX10) (T := TX10) (N := 10) (ref := "HornCity") hx hb hts hin_X10_pair_X10 hown hK hz 0 rfl rfl 0 (by decide) (hts _ fl_X10_pair_10) rfl rfl dX10_pair_47 ?_
            refine lv_iload_n hx hb dX10_pair_50 rfl (lv_at hl 2 rfl) ?_
            refine z_callVp (As := [.int (zI b)]) (rest := []) (C := RX2) (T := TX2) (N := 8) F hK hz hl (c_X2_mateOf l D cI cJ cZ on ain adn amn ahn chn matn Tn tmn yrn b (by omega) (by first | assumption | omega)) (cwV 1 hts gX10_pair_X2_mateOf rfl rfl rfl (by decide +kernel) ⟨Nat.le_of_ble_eq_true rfl, Nat.le_of_ble_eq_true rfl⟩) rfl 1 rfl [1, 2] rfl rfl rfl rfl (Nat.le_of_ble_eq_true rfl) ⟨Nat.le_of_ble_eq_true rfl, Nat.le_of_ble_eq_true rfl⟩ dX10_pair_51 ?_
            have hm2 := maO_bd (T := Tn) hbmn b
            refine z_bipush hx hb dX10_pair_54 (by decide) ?_
            refine z_icmp_eq (tgt := 62) hx hb dX10_pair_56 (by decide) (by omega) (by decide) (fun h56 => ?_) (fun h56 => ?_)
            ·
              refine lv_aload_n hx hb dX10_pair_62 rfl (lv_at hl 0 rfl) ?_
              refine z_get (C := RX10) (T := TX10) (N := 10) (ref := "HornCity") hx hb hts hin_X10_pair_X10 hown hK hz 0 rfl rfl 0 (by decide) (hts _ fl_X10_pair_10) rfl rfl dX10_pair_63 ?_
              refine lv_iload_n hx hb dX10_pair_66 rfl (lv_at hl 1 rfl) ?_
              refine lv_iload_n hx hb dX10_pair_67 rfl (lv_at hl 2 rfl) ?_
              refine z_callVwv (As := [.int (zI a), .int (zI b)]) (rest := []) (C := RX2) (T := TX2) (N := 8) F hK hz hl (c_X2_seat l D cI cJ cZ on ain adn amn ahn chn matn Tn tmn yrn a b (by omega) (by first | assumption | omega)) (cwV 2 hts gX10_pair_X2_seat rfl rfl rfl (by decide +kernel) ⟨Nat.le_of_ble_eq_true rfl, Nat.le_of_ble_eq_true rfl⟩) rfl 1 rfl [1, 2] rfl rfl (by decide +kernel) rfl rfl (Nat.le_of_ble_eq_true rfl) ⟨Nat.le_of_ble_eq_true rfl, Nat.le_of_ble_eq_true rfl⟩ dX10_pair_68 (fun u H locs hu hz => ?_)
              obtain ⟨mat1_2, hu9⟩ : ∃ z, z = u := ⟨_, rfl⟩
              subst hu9
              have hu : mat1_2 = seaM Tn matn a b := hu
              have g68_0 := hu
              have g68_0 := g68_0.symm
              subst g68_0
              have hz : zH D (zF ws0) H0 [(hc, .inr (8, [.ref on, .ref of, .ref os, .ref kp, .ref pd, .ref ys, .ref tu, .ref as, .ref tk, .ref ck])), (on, .inr (2, [.ref ain, .ref adn, .ref amn, .ref ahn, .ref chn, .int (zI Tn), .int (zI tmn), .int (zI yrn)])), (amn, .inl (cI, 9, .inl (zA (seaM Tn matn a b))))] H locs := hz
              refine lv_goto (tgt := 97) hx hb dX10_pair_71 (by decide) ?_
              refine lv_aload_n hx hb dX10_pair_97 rfl (lv_at hl 0 rfl) ?_
              refine z_get (C := RX10) (T := TX10) (N := 10) (ref := "HornCity") hx hb hts hin_X10_pair_X10 hown hK hz 0 rfl rfl 0 (by decide) (hts _ fl_X10_pair_10) rfl rfl dX10_pair_98 ?_
              refine z_callVp (As := []) (rest := []) (C := RX2) (T := TX2) (N := 8) F hK hz hl (c_X2_pairsSitting l D cI cJ cZ on ain adn amn ahn chn (seaM Tn matn a b) Tn tmn yrn (by first | assumption | omega) (by first | exact seaM_bd hbmn | exact sepM_bd hbmn)) (cwV 0 hts gX10_pair_X2_pairsSitting rfl rfl rfl (by decide +kernel) ⟨Nat.le_of_ble_eq_true rfl, Nat.le_of_ble_eq_true rfl⟩) rfl 1 rfl [1, 2] rfl rfl rfl rfl (Nat.le_of_ble_eq_true rfl) ⟨Nat.le_of_ble_eq_true rfl, Nat.le_of_ble_eq_true rfl⟩ dX10_pair_101 ?_
              exact hret (((pairS Tn (seaM Tn matn a b)) : Int), (seaM Tn matn a b : Int → Int)) dX10_pair_104 (show (pairS Tn (seaM Tn matn a b)) = paR Tn matn a b is0 ∧ (seaM Tn matn a b) = paM Tn matn a b is0 from ⟨by simp [paR, h8, h19, h24, h30, h43, h56], by simp [paM, h8, h19, h24, h30, h43, h56]⟩) hz
            ·
              refine z_bipush hx hb dX10_pair_59 (by decide) ?_
              exact hret (((-3) : Int), (matn : Int → Int)) dX10_pair_61 (show (-3) = paR Tn matn a b is0 ∧ matn = paM Tn matn a b is0 from ⟨by simp [paR, h8, h19, h24, h30, h43, h56], by simp [paM, h8, h19, h24, h30, h43, h56]⟩) hz
      ·
        refine z_iconst hx hb dX10_pair_27 ?_
        exact hret (((-1) : Int), (matn : Int → Int)) dX10_pair_28 (show (-1) = paR Tn matn a b is0 ∧ matn = paM Tn matn a b is0 from ⟨by simp [paR, h8, h19, h24], by simp [paM, h8, h19, h24]⟩) hz

set_option maxRecDepth 20000 in
theorem hin_X10_horn_X10 : ∀ w ∈ u_ws RX10 TX10 10, w ∈ wsX10_horn := by decide +kernel
set_option maxRecDepth 20000 in
theorem fl_X10_horn_10 : Cond.fieldLink RX10 10 "HornCity" "now" "LHornCity$City;" ∈ wsX10_horn := by decide +kernel
set_option maxRecDepth 20000 in
theorem hin_X10_horn_X2 : ∀ w ∈ u_ws RX2 TX2 8, w ∈ wsX10_horn := by decide +kernel
set_option maxRecDepth 20000 in
theorem fl_X10_horn_99 : Cond.fieldLink RX10 99 "HornCity$City" "tooMuch" "I" ∈ wsX10_horn := by decide +kernel
set_option maxHeartbeats 4000000 in
set_option maxRecDepth 100000 in
theorem c_X10_horn (l : Launch) (D : va_G) (cI cJ cZ : ClassId) (hc on of os kp pd ys tu as tk ck ain adn amn ahn chn : Nat) (Tn tmn yrn v : Int) (hr : (-2147483648 ≤ v ∧ v ≤ 2147483647)) : zMw l yX10_horn wsX10_horn (zRm 1) D cI cJ cZ [.ref hc, .int (zI v)] [(hc, .inr (8, [.ref on, .ref of, .ref os, .ref kp, .ref pd, .ref ys, .ref tu, .ref as, .ref tk, .ref ck])), (on, .inr (2, [.ref ain, .ref adn, .ref amn, .ref ahn, .ref chn, .int (zI Tn), .int (zI tmn), .int (zI yrn)]))] (S := Int × Int) (fun u => u.1 = hoR tmn v ∧ u.2 = hoT tmn v) (fun u => some (.int (zI u.1))) (fun u => [(hc, .inr (8, [.ref on, .ref of, .ref os, .ref kp, .ref pd, .ref ys, .ref tu, .ref as, .ref tk, .ref ck])), (on, .inr (2, [.ref ain, .ref adn, .ref amn, .ref ahn, .ref chn, .int (zI Tn), .int (zI u.2), .int (zI yrn)]))]) := by
  refine zMw_i (cc := cX10_horn) (maxL := 3) (by decide +kernel) rfl (Nat.le_of_ble_eq_true rfl) rfl (fun _ => rfl) ?_
  intro p e s m args below meth c Q H0 ls F hK hz hl hret
  obtain ⟨hx, hb, hml, hown0, hts⟩ := id F
  have hown : s.vm.findClass RX10 = some m.cls := hown0
  obtain ⟨ws0, hw0⟩ : ∃ w : va_W, w = [(hc, .inr (8, [.ref on, .ref of, .ref os, .ref kp, .ref pd, .ref ys, .ref tu, .ref as, .ref tk, .ref ck])), (on, .inr (2, [.ref ain, .ref adn, .ref amn, .ref ahn, .ref chn, .int (zI Tn), .int (zI tmn), .int (zI yrn)]))] := ⟨_, rfl⟩
  rw [← hw0] at hret
  have hz : zH D (zF ws0) H0 [(hc, .inr (8, [.ref on, .ref of, .ref os, .ref kp, .ref pd, .ref ys, .ref tu, .ref as, .ref tk, .ref ck])), (on, .inr (2, [.ref ain, .ref adn, .ref amn, .ref ahn, .ref chn, .int (zI Tn), .int (zI tmn), .int (zI yrn)]))] H0 [] := by rw [hw0]; exact hz
  have hl : lv_has ls 3 [(0, .ref hc), (1, .int (zI v))] := hl
  refine lv_iload_n hx hb dX10_horn_0 rfl (lv_at hl 1 rfl) ?_
  refine z_iconst hx hb dX10_horn_1 ?_
  refine z_bipush hx hb dX10_horn_2 (by decide) ?_
  refine z_callSp (As := [.int (zI v), .int (zI 0), .int (zI 9)]) (rest := []) F hK hz hl (c_X10_isWithin l D cI cJ cZ v 0 9 (by omega)) (va_cwS 3 hts gX10_horn_X10_isWithin rfl rfl rfl (by decide +kernel) ⟨Nat.le_of_ble_eq_true rfl, Nat.le_of_ble_eq_true rfl⟩) [] rfl rfl rfl rfl (Nat.le_of_ble_eq_true rfl) ⟨Nat.le_of_ble_eq_true rfl, Nat.le_of_ble_eq_true rfl⟩ dX10_horn_4 ?_
  refine z_ifb_ne (tgt := 13) hx hb dX10_horn_7 (by decide) (fun h7 => ?_) (fun h7 => ?_)
  ·
    refine lv_aload_n hx hb dX10_horn_13 rfl (lv_at hl 0 rfl) ?_
    refine z_get (C := RX10) (T := TX10) (N := 10) (ref := "HornCity") hx hb hts hin_X10_horn_X10 hown hK hz 0 rfl rfl 0 (by decide) (hts _ fl_X10_horn_10) rfl rfl dX10_horn_14 ?_
    refine z_get (C := RX2) (T := TX2) (N := 8) (ref := "HornCity$City") hx hb hts hin_X10_horn_X2 hown hK hz 1 rfl rfl 6 (by decide) (hts _ fl_X10_horn_99) rfl rfl dX10_horn_17 ?_
    refine lv_istore_n (lv' := [(2, .int (zI tmn)), (0, .ref hc), (1, .int (zI v))]) hx hb dX10_horn_20 rfl hl (Nat.le_of_ble_eq_true rfl) rfl (fun ls hl => ?_)
    refine lv_aload_n hx hb dX10_horn_21 rfl (lv_at hl 1 rfl) ?_
    refine z_get (C := RX10) (T := TX10) (N := 10) (ref := "HornCity") hx hb hts hin_X10_horn_X10 hown hK hz 0 rfl rfl 0 (by decide) (hts _ fl_X10_horn_10) rfl rfl dX10_horn_22 ?_
    refine lv_iload_n hx hb dX10_horn_25 rfl (lv_at hl 2 rfl) ?_
    refine z_put (C := RX2) (T := TX2) (N := 8) (ref := "HornCity$City") (ty := .int) hx hb hts hin_X10_horn_X2 hown hK hz tyX2 tyX2_ok nmX2 1 rfl rfl 6 (by decide) (hts _ fl_X10_horn_99) rfl rfl (by decide +kernel) rfl rfl (Nat.le_of_ble_eq_true rfl) dX10_horn_26 (fun H locs hz => ?_)
    have hz : zH D (zF ws0) H0 [(hc, .inr (8, [.ref on, .ref of, .ref os, .ref kp, .ref pd, .ref ys, .ref tu, .ref as, .ref tk, .ref ck])), (on, .inr (2, [.ref ain, .ref adn, .ref amn, .ref ahn, .ref chn, .int (zI Tn), .int (zI v), .int (zI yrn)]))] H locs := hz
    refine lv_iload_n hx hb dX10_horn_29 rfl (lv_at hl 0 rfl) ?_
    exact hret ((tmn : Int), (v : Int)) dX10_horn_30 (show tmn = hoR tmn v ∧ v = hoT tmn v from ⟨by unfold hoR; rw [if_pos h7], by unfold hoT; rw [if_pos h7]⟩) hz
  ·
    refine z_bipush hx hb dX10_horn_10 (by decide) ?_
    exact hret (((-2) : Int), (tmn : Int)) dX10_horn_12 (show (-2) = hoR tmn v ∧ tmn = hoT tmn v from ⟨by unfold hoR; rw [if_neg h7], by unfold hoT; rw [if_neg h7]⟩) hz

set_option maxRecDepth 20000 in
theorem hin_X10_say_X10 : ∀ w ∈ u_ws RX10 TX10 10, w ∈ wsX10_say := by decide +kernel
set_option maxRecDepth 20000 in
theorem fl_X10_say_29 : Cond.fieldLink RX10 29 "HornCity" "pad" "LHornCity$Pad;" ∈ wsX10_say := by decide +kernel
set_option maxRecDepth 20000 in
theorem hin_X10_say_X4 : ∀ w ∈ u_ws RX4 TX4 2, w ∈ wsX10_say := by decide +kernel
set_option maxRecDepth 20000 in
theorem fl_X10_say_106 : Cond.fieldLink RX10 106 "HornCity$Pad" "length" "I" ∈ wsX10_say := by decide +kernel
set_option maxHeartbeats 4000000 in
set_option maxRecDepth 100000 in
theorem c_X10_say (l : Launch) (D : va_G) (cI cJ cZ : ClassId) (hc on of os kp pd ys tu as tk ck sg : Nat) (sgn : Int → Int) (ln v : Int) (hr : (-2147483648 ≤ v ∧ v ≤ 2147483647)) (hln : 0 ≤ ln ∧ ln ≤ 60) : zMw l yX10_say wsX10_say (zRm 1) D cI cJ cZ [.ref hc, .int (zI v)] [(hc, .inr (8, [.ref on, .ref of, .ref os, .ref kp, .ref pd, .ref ys, .ref tu, .ref as, .ref tk, .ref ck])), (pd, .inr (3, [.ref sg, .int (zI ln)])), (sg, .inl (cI, 60, .inl (zA sgn)))] (S := Int × (Int → Int) × Int) (fun u => u.1 = saR ln v ∧ u.2.1 = saS ln sgn v ∧ u.2.2 = saL ln v) (fun u => some (.int (zI u.1))) (fun u => [(hc, .inr (8, [.ref on, .ref of, .ref os, .ref kp, .ref pd, .ref ys, .ref tu, .ref as, .ref tk, .ref ck])), (pd, .inr (3, [.ref sg, .int (zI u.2.2)])), (sg, .inl (cI, 60, .inl (zA u.2.1)))]) := by
  refine zMw_i (cc := cX10_say) (maxL := 2) (by decide +kernel) rfl (Nat.le_of_ble_eq_true rfl) rfl (fun _ => rfl) ?_
  intro p e s m args below meth c Q H0 ls F hK hz hl hret
  obtain ⟨hx, hb, hml, hown0, hts⟩ := id F
  have hown : s.vm.findClass RX10 = some m.cls := hown0
  obtain ⟨ws0, hw0⟩ : ∃ w : va_W, w = [(hc, .inr (8, [.ref on, .ref of, .ref os, .ref kp, .ref pd, .ref ys, .ref tu, .ref as, .ref tk, .ref ck])), (pd, .inr (3, [.ref sg, .int (zI ln)])), (sg, .inl (cI, 60, .inl (zA sgn)))] := ⟨_, rfl⟩
  rw [← hw0] at hret
  have hz : zH D (zF ws0) H0 [(hc, .inr (8, [.ref on, .ref of, .ref os, .ref kp, .ref pd, .ref ys, .ref tu, .ref as, .ref tk, .ref ck])), (pd, .inr (3, [.ref sg, .int (zI ln)])), (sg, .inl (cI, 60, .inl (zA sgn)))] H0 [] := by rw [hw0]; exact hz
  have hl : lv_has ls 2 [(0, .ref hc), (1, .int (zI v))] := hl
  refine lv_iload_n hx hb dX10_say_0 rfl (lv_at hl 1 rfl) ?_
  refine z_bipush hx hb dX10_say_1 (by decide) ?_
  refine z_bipush hx hb dX10_say_3 (by decide) ?_
  refine z_callSp (As := [.int (zI v), .int (zI 33), .int (zI 126)]) (rest := []) F hK hz hl (c_X10_isWithin l D cI cJ cZ v 33 126 (by omega)) (va_cwS 3 hts gX10_say_X10_isWithin rfl rfl rfl (by decide +kernel) ⟨Nat.le_of_ble_eq_true rfl, Nat.le_of_ble_eq_true rfl⟩) [] rfl rfl rfl rfl (Nat.le_of_ble_eq_true rfl) ⟨Nat.le_of_ble_eq_true rfl, Nat.le_of_ble_eq_true rfl⟩ dX10_say_5 ?_
  refine z_ifb_ne (tgt := 14) hx hb dX10_say_8 (by decide) (fun h8 => ?_) (fun h8 => ?_)
  ·
    refine lv_aload_n hx hb dX10_say_14 rfl (lv_at hl 0 rfl) ?_
    refine z_get (C := RX10) (T := TX10) (N := 10) (ref := "HornCity") hx hb hts hin_X10_say_X10 hown hK hz 0 rfl rfl 4 (by decide) (hts _ fl_X10_say_29) rfl rfl dX10_say_15 ?_
    refine lv_iload_n hx hb dX10_say_18 rfl (lv_at hl 1 rfl) ?_
    refine z_callVw (As := [.int (zI v)]) (rest := []) (C := RX4) (T := TX4) (N := 2) F hK hz hl (c_X4_write l D cI cJ cZ pd sg sgn ln v (by first | assumption | omega)) (cwV 1 hts gX10_say_X4_write rfl rfl rfl (by decide +kernel) ⟨Nat.le_of_ble_eq_true rfl, Nat.le_of_ble_eq_true rfl⟩) rfl 1 rfl [1, 2] rfl rfl (by decide +kernel) rfl rfl (Nat.le_of_ble_eq_true rfl) ⟨Nat.le_of_ble_eq_true rfl, Nat.le_of_ble_eq_true rfl⟩ dX10_say_19 (fun u H locs hu hz => ?_)
    obtain ⟨r_1, s1_2, l1_3⟩ := u
    have hu : r_1 = (if ln < 60 then 1 else 0) ∧ s1_2 = (if ln < 60 then zU sgn ln v else sgn) ∧ l1_3 = (if ln < 60 then ln + 1 else ln) := hu
    obtain ⟨g19_0, g19_1, g19_2⟩ := hu
    have g19_0 := g19_0.symm
    subst g19_0
    have g19_1 := g19_1.symm
    subst g19_1
    have g19_2 := g19_2.symm
    subst g19_2
    have hz : zH D (zF ws0) H0 [(hc, .inr (8, [.ref on, .ref of, .ref os, .ref kp, .ref pd, .ref ys, .ref tu, .ref as, .ref tk, .ref ck])), (pd, .inr (3, [.ref sg, .int (zI (if ln < 60 then ln + 1 else ln))])), (sg, .inl (cI, 60, .inl (zA (if ln < 60 then zU sgn ln v else sgn))))] H locs := hz
    refine z_ifb_eq (tgt := 35) hx hb dX10_say_22 (by decide) (fun h22 => ?_) (fun h22 => ?_)
    ·
      refine z_bipush hx hb dX10_say_35 (by decide) ?_
      exact hret (((-4) : Int), (if ln < 60 then zU sgn ln v else sgn : Int → Int), ((if ln < 60 then ln + 1 else ln) : Int)) dX10_say_37 (show (-4) = saR ln v ∧ (if ln < 60 then zU sgn ln v else sgn) = saS ln sgn v ∧ (if ln < 60 then ln + 1 else ln) = saL ln v from ⟨by unfold saR; rw [if_pos h8]; simp [h22], by unfold saS; rw [if_pos h8], by unfold saL; rw [if_pos h8]⟩) hz
    ·
      refine lv_aload_n hx hb dX10_say_25 rfl (lv_at hl 0 rfl) ?_
      refine z_get (C := RX10) (T := TX10) (N := 10) (ref := "HornCity") hx hb hts hin_X10_say_X10 hown hK hz 0 rfl rfl 4 (by decide) (hts _ fl_X10_say_29) rfl rfl dX10_say_26 ?_
      refine z_get (C := RX4) (T := TX4) (N := 2) (ref := "HornCity$Pad") hx hb hts hin_X10_say_X4 hown hK hz 1 rfl rfl 1 (by decide) (hts _ fl_X10_say_106) rfl rfl dX10_say_29 ?_
      refine lv_goto (tgt := 37) hx hb dX10_say_32 (by decide) ?_
      exact hret (((if ln < 60 then ln + 1 else ln) : Int), (if ln < 60 then zU sgn ln v else sgn : Int → Int), ((if ln < 60 then ln + 1 else ln) : Int)) dX10_say_37 (show (if ln < 60 then ln + 1 else ln) = saR ln v ∧ (if ln < 60 then zU sgn ln v else sgn) = saS ln sgn v ∧ (if ln < 60 then ln + 1 else ln) = saL ln v from ⟨by unfold saR; rw [if_pos h8]; simp [h22], by unfold saS; rw [if_pos h8], by unfold saL; rw [if_pos h8]⟩) hz
  ·
    refine z_bipush hx hb dX10_say_11 (by decide) ?_
    exact hret (((-2) : Int), (sgn : Int → Int), (ln : Int)) dX10_say_13 (show (-2) = saR ln v ∧ sgn = saS ln sgn v ∧ ln = saL ln v from ⟨by unfold saR; rw [if_neg h8], by unfold saS; rw [if_neg h8], by unfold saL; rw [if_neg h8]⟩) hz

set_option maxRecDepth 20000 in
theorem hin_X10_wipe_X10 : ∀ w ∈ u_ws RX10 TX10 10, w ∈ wsX10_wipe := by decide +kernel
set_option maxRecDepth 20000 in
theorem fl_X10_wipe_29 : Cond.fieldLink RX10 29 "HornCity" "pad" "LHornCity$Pad;" ∈ wsX10_wipe := by decide +kernel
set_option maxRecDepth 20000 in
theorem hin_X10_wipe_X4 : ∀ w ∈ u_ws RX4 TX4 2, w ∈ wsX10_wipe := by decide +kernel
set_option maxRecDepth 20000 in
theorem fl_X10_wipe_106 : Cond.fieldLink RX10 106 "HornCity$Pad" "length" "I" ∈ wsX10_wipe := by decide +kernel
set_option maxHeartbeats 4000000 in
set_option maxRecDepth 100000 in
theorem c_X10_wipe (l : Launch) (D : va_G) (cI cJ cZ : ClassId) (hc on of os kp pd ys tu as tk ck sg : Nat) (ln : Int) : zMw l yX10_wipe wsX10_wipe (zRm 1) D cI cJ cZ [.ref hc] [(hc, .inr (8, [.ref on, .ref of, .ref os, .ref kp, .ref pd, .ref ys, .ref tu, .ref as, .ref tk, .ref ck])), (pd, .inr (3, [.ref sg, .int (zI ln)]))] (S := Int × Int) (fun u => u.1 = ln ∧ u.2 = 0) (fun u => some (.int (zI u.1))) (fun u => [(hc, .inr (8, [.ref on, .ref of, .ref os, .ref kp, .ref pd, .ref ys, .ref tu, .ref as, .ref tk, .ref ck])), (pd, .inr (3, [.ref sg, .int (zI u.2)]))]) := by
  refine zMw_i (cc := cX10_wipe) (maxL := 2) (by decide +kernel) rfl (Nat.le_of_ble_eq_true rfl) rfl (fun _ => rfl) ?_
  intro p e s m args below meth c Q H0 ls F hK hz hl hret
  obtain ⟨hx, hb, hml, hown0, hts⟩ := id F
  have hown : s.vm.findClass RX10 = some m.cls := hown0
  obtain ⟨ws0, hw0⟩ : ∃ w : va_W, w = [(hc, .inr (8, [.ref on, .ref of, .ref os, .ref kp, .ref pd, .ref ys, .ref tu, .ref as, .ref tk, .ref ck])), (pd, .inr (3, [.ref sg, .int (zI ln)]))] := ⟨_, rfl⟩
  rw [← hw0] at hret
  have hz : zH D (zF ws0) H0 [(hc, .inr (8, [.ref on, .ref of, .ref os, .ref kp, .ref pd, .ref ys, .ref tu, .ref as, .ref tk, .ref ck])), (pd, .inr (3, [.ref sg, .int (zI ln)]))] H0 [] := by rw [hw0]; exact hz
  have hl : lv_has ls 2 [(0, .ref hc)] := hl
  refine lv_aload_n hx hb dX10_wipe_0 rfl (lv_at hl 0 rfl) ?_
  refine z_get (C := RX10) (T := TX10) (N := 10) (ref := "HornCity") hx hb hts hin_X10_wipe_X10 hown hK hz 0 rfl rfl 4 (by decide) (hts _ fl_X10_wipe_29) rfl rfl dX10_wipe_1 ?_
  refine z_get (C := RX4) (T := TX4) (N := 2) (ref := "HornCity$Pad") hx hb hts hin_X10_wipe_X4 hown hK hz 1 rfl rfl 1 (by decide) (hts _ fl_X10_wipe_106) rfl rfl dX10_wipe_4 ?_
  refine lv_istore_n (lv' := [(1, .int (zI ln)), (0, .ref hc)]) hx hb dX10_wipe_7 rfl hl (Nat.le_of_ble_eq_true rfl) rfl (fun ls hl => ?_)
  refine lv_aload_n hx hb dX10_wipe_8 rfl (lv_at hl 1 rfl) ?_
  refine z_get (C := RX10) (T := TX10) (N := 10) (ref := "HornCity") hx hb hts hin_X10_wipe_X10 hown hK hz 0 rfl rfl 4 (by decide) (hts _ fl_X10_wipe_29) rfl rfl dX10_wipe_9 ?_
  refine z_iconst hx hb dX10_wipe_12 ?_
  refine z_put (C := RX4) (T := TX4) (N := 2) (ref := "HornCity$Pad") (ty := .int) hx hb hts hin_X10_wipe_X4 hown hK hz tyX4 tyX4_ok nmX4 1 rfl rfl 1 (by decide) (hts _ fl_X10_wipe_106) rfl rfl (by decide +kernel) rfl rfl (Nat.le_of_ble_eq_true rfl) dX10_wipe_13 (fun H locs hz => ?_)
  have hz : zH D (zF ws0) H0 [(hc, .inr (8, [.ref on, .ref of, .ref os, .ref kp, .ref pd, .ref ys, .ref tu, .ref as, .ref tk, .ref ck])), (pd, .inr (3, [.ref sg, .int (zI 0)]))] H locs := hz
  refine lv_iload_n hx hb dX10_wipe_16 rfl (lv_at hl 0 rfl) ?_
  exact hret ((ln : Int), (0 : Int)) dX10_wipe_17 (show ln = ln ∧ 0 = 0 from ⟨rfl, rfl⟩) hz

set_option maxRecDepth 20000 in
theorem hin_X10_fault_X10 : ∀ w ∈ u_ws RX10 TX10 10, w ∈ wsX10_fault := by decide +kernel
set_option maxRecDepth 20000 in
theorem fl_X10_fault_29 : Cond.fieldLink RX10 29 "HornCity" "pad" "LHornCity$Pad;" ∈ wsX10_fault := by decide +kernel
set_option maxHeartbeats 4000000 in
set_option maxRecDepth 100000 in
theorem c_X10_fault (l : Launch) (D : va_G) (cI cJ cZ : ClassId) (hc on of os kp pd ys tu as tk ck sg : Nat) (sgn : Int → Int) (ln : Int) (hln : 0 ≤ ln ∧ ln ≤ 60) (hbs : zBd sgn 60 0 126) : zMp l yX10_fault wsX10_fault (zRm 5) D cI cJ cZ [.ref hc] [(hc, .inr (8, [.ref on, .ref of, .ref os, .ref kp, .ref pd, .ref ys, .ref tu, .ref as, .ref tk, .ref ck])), (pd, .inr (3, [.ref sg, .int (zI ln)])), (sg, .inl (cI, 60, .inl (zA sgn)))] (some (.int (zI (fpW ln sgn)))) := by
  refine zMp_i (cc := cX10_fault) (maxL := 1) (by decide +kernel) rfl (Nat.le_of_ble_eq_true rfl) rfl ?_
  intro p e s m args below meth c Q H ls F hK hz hl hret
  obtain ⟨hx, hb, hml, hown0, hts⟩ := id F
  have hown : s.vm.findClass RX10 = some m.cls := hown0
  obtain ⟨ws0, hw0⟩ : ∃ w : va_W, w = [(hc, .inr (8, [.ref on, .ref of, .ref os, .ref kp, .ref pd, .ref ys, .ref tu, .ref as, .ref tk, .ref ck])), (pd, .inr (3, [.ref sg, .int (zI ln)])), (sg, .inl (cI, 60, .inl (zA sgn)))] := ⟨_, rfl⟩
  have hz : zH D (zF ws0) H [(hc, .inr (8, [.ref on, .ref of, .ref os, .ref kp, .ref pd, .ref ys, .ref tu, .ref as, .ref tk, .ref ck])), (pd, .inr (3, [.ref sg, .int (zI ln)])), (sg, .inl (cI, 60, .inl (zA sgn)))] H [] := by rw [hw0]; exact hz
  have hl : lv_has ls 1 [(0, .ref hc)] := hl
  refine lv_aload_n hx hb dX10_fault_0 rfl (lv_at hl 0 rfl) ?_
  refine z_get (C := RX10) (T := TX10) (N := 10) (ref := "HornCity") hx hb hts hin_X10_fault_X10 hown hK hz 0 rfl rfl 4 (by decide) (hts _ fl_X10_fault_29) rfl rfl dX10_fault_1 ?_
  refine z_callVp (As := []) (rest := []) (C := RX4) (T := TX4) (N := 2) F hK hz hl (c_X4_faultPlace l D cI cJ cZ pd sg sgn ln (by first | assumption | omega) (hbs)) (cwV 0 hts gX10_fault_X4_faultPlace rfl rfl rfl (by decide +kernel) ⟨Nat.le_of_ble_eq_true rfl, Nat.le_of_ble_eq_true rfl⟩) rfl 1 rfl [1, 2] rfl rfl rfl rfl (Nat.le_of_ble_eq_true rfl) ⟨Nat.le_of_ble_eq_true rfl, Nat.le_of_ble_eq_true rfl⟩ dX10_fault_4 ?_
  exact hret dX10_fault_7 (congrArg (fun z => some (Value.int (zI z))) (show ((fpW ln sgn) : Int) = (fpW ln sgn) by rfl))
