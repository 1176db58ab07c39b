/-- where the one of code c is in a year -/
def thnS (yr c : Int) : Int := (c / 20 + (c % 20 - 9) * yr) % 180
/-- of the first n codes, those that fit and are at v in the year -/
def alkS (iy mk : Int → Int) (cn yr v : Int) : Nat → Int := sumZ (fun c => if fitC iy mk cn 0 c = true ∧ thnS yr c = v then 1 else 0)
def mosS (iy mk : Int → Int) (cn yr : Int) : Nat → Int
  | 0 => 0
  | n + 1 => if fitC iy mk cn 0 (n : Int) = true then max (mosS iy mk cn yr n) (alkS iy mk cn yr (thnS yr (n : Int)) (n + 1)) else mosS iy mk cn yr n
theorem alkS_bd (iy mk : Int → Int) (cn yr v : Int) (n : Nat) : 0 ≤ alkS iy mk cn yr v n ∧ alkS iy mk cn yr v n ≤ n := by
  have := sumZ_bd (f := fun c => if fitC iy mk cn 0 c = true ∧ thnS yr c = v then 1 else 0) (lo := 0) (hi := 1) (fun j => by split <;> decide) n
  unfold alkS; omega
theorem mosS_bd (iy mk : Int → Int) (cn yr : Int) : ∀ n : Nat, 0 ≤ mosS iy mk cn yr n ∧ mosS iy mk cn yr n ≤ n
  | 0 => by show (0 : Int) ≤ 0 ∧ (0 : Int) ≤ ((0 : Nat) : Int); decide
  | n + 1 => by
    have h1 := mosS_bd iy mk cn yr n
    have h2 := alkS_bd iy mk cn yr (thnS yr (n : Int)) (n + 1)
    show 0 ≤ (if fitC iy mk cn 0 (n : Int) = true then _ else _) ∧ (if fitC iy mk cn 0 (n : Int) = true then _ else _) ≤ _
    split <;> omega
theorem alk_s {iy mk : Int → Int} {cn yr v c : Int} (h : 0 ≤ c) : alkS iy mk cn yr v (c + 1).toNat = alkS iy mk cn yr v c.toNat + (if fitC iy mk cn 0 c = true ∧ thnS yr c = v then 1 else 0) := sumZ_s h
theorem mos_s {iy mk : Int → Int} {cn yr c : Int} (h : 0 ≤ c) : mosS iy mk cn yr (c + 1).toNat = if fitC iy mk cn 0 c = true then max (mosS iy mk cn yr c.toNat) (alkS iy mk cn yr (thnS yr c) (c + 1).toNat) else mosS iy mk cn yr c.toNat := by
  have e : (c + 1).toNat = c.toNat + 1 := by omega
  rw [e]
  show (if fitC iy mk cn 0 ((c.toNat : Nat) : Int) = true then _ else _) = _
  rw [Int.toNat_of_nonneg h]
/-- what the row of counts holds behind the first n codes -/
def alkI (iy mk : Int → Int) (cn yr : Int) (al : Int → Int) (n : Nat) : Prop := ∀ v, 0 ≤ v → v < 180 → al v = alkS iy mk cn yr v n
theorem thn_at {yr b d : Int} (h : -9 ≤ d ∧ d ≤ 9) : thnS yr (20 * b + d + 9) = (b + d * yr) % 180 := by
  unfold thnS
  have h1 : (20 * b + d + 9) % 20 = d + 9 := by omega
  have h2 : (20 * b + d + 9) / 20 = b := by omega
  have h3 : d + 9 - 9 = d := by omega
  rw [h1, h2, h3]
theorem alkI_in {iy mk : Int → Int} {cn yr : Int} {al : Int → Int} {c : Int} (h : alkI iy mk cn yr al c.toNat) (h0 : 0 ≤ c) (hf : fitC iy mk cn 0 c = true) : alkI iy mk cn yr (zU al (thnS yr c) (al (thnS yr c) + 1)) (c + 1).toNat := by
  intro v h1 h2
  rw [alk_s h0]
  by_cases hv : v = thnS yr c
  · rw [if_pos ⟨hf, hv.symm⟩, ← hv, zU_same, h v h1 h2]
  · rw [if_neg (fun q => hv q.2.symm), zU_ne hv, h v h1 h2, Int.add_zero]
theorem alkI_out {iy mk : Int → Int} {cn yr : Int} {al : Int → Int} {c : Int} (h : alkI iy mk cn yr al c.toNat) (h0 : 0 ≤ c) (hf : ¬ fitC iy mk cn 0 c = true) : alkI iy mk cn yr al (c + 1).toNat := by
  intro v h1 h2
  rw [alk_s h0, if_neg (fun q => hf q.1), h v h1 h2, Int.add_zero]
theorem mos_in {iy mk : Int → Int} {cn yr : Int} {al : Int → Int} {c m x : Int} (ha : alkI iy mk cn yr al c.toNat) (hm : m = mosS iy mk cn yr c.toNat) (h0 : 0 ≤ c) (hf : fitC iy mk cn 0 c = true) (hx : x = thnS yr c) : max m (al x + 1) = mosS iy mk cn yr (c + 1).toNat := by
  have hb : 0 ≤ thnS yr c ∧ thnS yr c < 180 := by unfold thnS; omega
  rw [mos_s h0, if_pos hf, alk_s h0, if_pos ⟨hf, rfl⟩, hm, hx, ha _ hb.1 hb.2]
theorem mos_out {iy mk : Int → Int} {cn yr c m : Int} (hm : m = mosS iy mk cn yr c.toNat) (h0 : 0 ≤ c) (hf : ¬ fitC iy mk cn 0 c = true) : m = mosS iy mk cn yr (c + 1).toNat := by
  rw [mos_s h0, if_neg hf, hm]
theorem mul60 {d y : Int} (hd : -9 ≤ d ∧ d ≤ 9) (hy : 0 ≤ y ∧ y ≤ 1000) : -9000 ≤ d * y ∧ d * y ≤ 9000 := mul9 hd hy
/-- the years from 0 on, the least most so far: its year, the most -/
def askS (iy mk : Int → Int) (cn : Int) : Nat → Int × Int
  | 0 => (-6, -6)
  | n + 1 => if (askS iy mk cn n).2 = -6 ∨ mosS iy mk cn (n : Int) 3600 < (askS iy mk cn n).2 then ((n : Int), mosS iy mk cn (n : Int) 3600) else askS iy mk cn n
theorem ask_s {iy mk : Int → Int} {cn y b m : Int} (h : 0 ≤ y) (hm : (b, m) = askS iy mk cn y.toNat) : (if m = -6 ∨ mosS iy mk cn y 3600 < m then (y, mosS iy mk cn y 3600) else (b, m)) = askS iy mk cn (y + 1).toNat := by
  have e : (y + 1).toNat = y.toNat + 1 := by omega
  rw [e]
  show _ = if (askS iy mk cn y.toNat).2 = -6 ∨ mosS iy mk cn ((y.toNat : Nat) : Int) 3600 < (askS iy mk cn y.toNat).2 then _ else _
  rw [Int.toNat_of_nonneg h, ← hm]
/-- all that fit are spread over 180 places: one holds as many as it must -/
theorem sumZ_const (k : Int) : ∀ n : Nat, sumZ (fun _ => k) n = k * n
  | 0 => by show (0 : Int) = k * ((0 : Nat) : Int); omega
  | n + 1 => by
    show sumZ (fun _ => k) n + k = k * ((n + 1 : Nat) : Int)
    rw [sumZ_const k n, Int.natCast_succ, Int.mul_add, Int.mul_one]
theorem sumZ_le {f g : Int → Int} : ∀ n : Nat, (∀ j : Int, 0 ≤ j → j < (n : Int) → f j ≤ g j) → sumZ f n ≤ sumZ g n
  | 0, _ => Int.le_refl _
  | n + 1, h => by
    have h1 := sumZ_le n (fun j h0 h1 => h j h0 (by omega))
    have h2 := h (n : Int) (by omega) (by omega)
    show sumZ f n + f n ≤ sumZ g n + g n
    omega
theorem alk_mono {iy mk : Int → Int} {cn yr v : Int} (k n : Nat) : alkS iy mk cn yr v n ≤ alkS iy mk cn yr v (n + k) :=
  sumZ_mono (fun j => by split <;> decide) k n
theorem mos_ge {iy mk : Int → Int} {cn yr v : Int} : ∀ n : Nat, alkS iy mk cn yr v n ≤ mosS iy mk cn yr n
  | 0 => Int.le_refl _
  | n + 1 => by
    have ih := mos_ge (iy := iy) (mk := mk) (cn := cn) (yr := yr) (v := v) n
    have h1 := alk_s (iy := iy) (mk := mk) (cn := cn) (yr := yr) (v := v) (c := (n : Int)) (by omega)
    have h2 := mos_s (iy := iy) (mk := mk) (cn := cn) (yr := yr) (c := (n : Int)) (by omega)
    have e1 : ((n : Int) + 1).toNat = n + 1 := by omega
    have e2 : ((n : Int)).toNat = n := by omega
    rw [e1, e2] at h1 h2
    rw [h1, h2]
    by_cases hf : fitC iy mk cn 0 (n : Int) = true
    · rw [if_pos hf]
      by_cases hv : thnS yr (n : Int) = v
      · rw [if_pos ⟨hf, hv⟩, hv, h1, if_pos ⟨hf, hv⟩]; omega
      · rw [if_neg (fun q => hv q.2)]; omega
    · rw [if_neg hf, if_neg (fun q => hf q.1)]; omega
theorem sumZ_add {f g : Int → Int} : ∀ n : Nat, sumZ (fun j => f j + g j) n = sumZ f n + sumZ g n
  | 0 => rfl
  | n + 1 => by
    show sumZ (fun j => f j + g j) n + (f n + g n) = sumZ f n + f n + (sumZ g n + g n)
    rw [sumZ_add n]; omega
theorem alk_all {iy mk : Int → Int} {cn yr : Int} : ∀ n : Nat, sumZ (fun v => alkS iy mk cn yr v n) 180 = cntS iy mk cn 0 n
  | 0 => by
    show sumZ (fun _ => 0) 180 = 0
    exact sumZ_zero 180
  | n + 1 => by
    have e : (fun v => alkS iy mk cn yr v (n + 1)) = (fun v => alkS iy mk cn yr v n + (if fitC iy mk cn 0 (n : Int) = true ∧ thnS yr (n : Int) = v then 1 else 0)) := rfl
    have e2 : cntS iy mk cn 0 (n + 1) = cntS iy mk cn 0 n + (if fitC iy mk cn 0 (n : Int) = true then 1 else 0) := rfl
    rw [e, e2, sumZ_add, alk_all n]
    refine congrArg (fun z => cntS iy mk cn 0 n + z) ?_
    by_cases hf : fitC iy mk cn 0 (n : Int) = true
    · rw [if_pos hf]
      have hb : 0 ≤ thnS yr (n : Int) ∧ thnS yr (n : Int) < 180 := by unfold thnS; omega
      have := sumZ_one (f := fun _ => 0) (g := fun v => if fitC iy mk cn 0 (n : Int) = true ∧ thnS yr (n : Int) = v then 1 else 0) hb.1 (by show (if fitC iy mk cn 0 (n : Int) = true ∧ thnS yr (n : Int) = thnS yr (n : Int) then (1 : Int) else 0) = 0 + 1; rw [if_pos ⟨hf, rfl⟩]; rfl) (fun j hj => if_neg (fun q => hj q.2.symm)) 180
      rw [this, sumZ_zero, if_pos (by omega)]; rfl
    · rw [if_neg hf]
      have e3 : (fun v => if fitC iy mk cn 0 (n : Int) = true ∧ thnS yr (n : Int) = v then (1 : Int) else 0) = (fun _ => 0) := by funext v; exact if_neg (fun q => hf q.1)
      rw [e3]; exact sumZ_zero 180
theorem mos_least {iy mk : Int → Int} {cn yr : Int} : (cntS iy mk cn 0 3600 + 180 - 1) / 180 ≤ mosS iy mk cn yr 3600 := by
  have h1 := sumZ_le (f := fun v => alkS iy mk cn yr v 3600) (g := fun _ => mosS iy mk cn yr 3600) 180 (fun j _ _ => mos_ge 3600)
  rw [alk_all, sumZ_const] at h1
  omega
theorem ask_stop {iy mk : Int → Int} {cn b m : Int} (hm : 0 ≤ m) (hle : m = (cntS iy mk cn 0 3600 + 180 - 1) / 180) : ∀ (k n : Nat), (b, m) = askS iy mk cn n → (b, m) = askS iy mk cn (n + k)
  | 0, n, h => h
  | k + 1, n, h => by
    have h1 := ask_stop hm hle k n h
    have h4 : ¬ ((askS iy mk cn (n + k)).2 = -6 ∨ mosS iy mk cn ((n + k : Nat) : Int) 3600 < (askS iy mk cn (n + k)).2) := by
      rw [← h1]
      intro q
      have h2 := mos_least (iy := iy) (mk := mk) (cn := cn) (yr := ((n + k : Nat) : Int))
      have h3 : m = -6 ∨ mosS iy mk cn ((n + k : Nat) : Int) 3600 < m := q
      omega
    have h5 : askS iy mk cn (n + (k + 1)) = askS iy mk cn (n + k) := if_neg h4
    rw [h5]; exact h1
theorem cnt_bd (iy mk : Int → Int) (cn w : Int) : 0 ≤ cntS iy mk cn w 3600 ∧ cntS iy mk cn w 3600 ≤ 3600 := by
  have := sumZ_bd (f := fun c => if fitC iy mk cn w c = true then 1 else 0) (lo := 0) (hi := 1) (fun j => by split <;> decide) 3600
  unfold cntS; omega

def fstT (tb : Int → Int) (left : Int) : Int := if left ≤ 0 then -6 else if tb (left - 1) = 0 then 1 else if tb (left - max 1 (left / 3)) = 0 then max 1 (left / 3) else if tb (left - max 1 (left / 2)) = 0 then max 1 (left / 2) else -6
def tabT : Nat → Int → Int
  | 0 => fun _ => 0
  | n + 1 => zU (tabT n) ((n : Int) + 1) (if fstT (tabT n) ((n : Int) + 1) = -6 then 0 else 1)
theorem tabT_hi : ∀ (n : Nat) (j : Int), (n : Int) < j → tabT n j = 0
  | 0, _, _ => rfl
  | n + 1, j, h => by
    show zU (tabT n) ((n : Int) + 1) _ j = 0
    rw [zU_ne (by omega)]; exact tabT_hi n j (by omega)
theorem tabT_lo : ∀ (k n : Nat) (j : Int), j ≤ (n : Int) → tabT (n + k) j = tabT n j
  | 0, _, _, _ => rfl
  | k + 1, n, j, h => by
    show zU (tabT (n + k)) (((n + k : Nat) : Int) + 1) _ j = _
    rw [zU_ne (by omega)]; exact tabT_lo k n j h
def winS (n : Int) : Int := fstT (tabT 180) n
theorem fstT_cg {f g : Int → Int} {n : Int} (h : ∀ j, 0 ≤ j → j < n → f j = g j) : fstT f n = fstT g n := by
  unfold fstT
  by_cases h0 : n ≤ 0
  · rw [if_pos h0, if_pos h0]
  · rw [if_neg h0, if_neg h0, h (n - 1) (by omega) (by omega), h (n - max 1 (n / 3)) (by omega) (by omega), h (n - max 1 (n / 2)) (by omega) (by omega)]
/-- the table, right below n -/
def okT (f : Int → Int) (n : Int) : Prop := ∀ j, 0 ≤ j → j < n → f j = tabT 180 j
theorem tab_step {n : Int} (h : 1 ≤ n ∧ n < 180) : tabT 180 n = if winS n = -6 then 0 else 1 := by
  have e0 : (n.toNat - 1) + 1 = n.toNat := by omega
  have h1 := tabT_lo (180 - n.toNat) n.toNat n (by omega)
  have e1 : n.toNat + (180 - n.toNat) = 180 := by omega
  rw [e1] at h1
  rw [h1, ← e0]
  have e2 : (((n.toNat - 1 : Nat) : Int) + 1) = n := by omega
  show zU (tabT (n.toNat - 1)) (((n.toNat - 1 : Nat) : Int) + 1) (if fstT (tabT (n.toNat - 1)) (((n.toNat - 1 : Nat) : Int) + 1) = -6 then 0 else 1) n = _
  rw [e2, zU_same]
  have h3 : fstT (tabT (n.toNat - 1)) n = winS n := by
    unfold winS
    apply fstT_cg
    intro j h4 h5
    have h6 := tabT_lo (180 - (n.toNat - 1)) (n.toNat - 1) j (by omega)
    rw [show n.toNat - 1 + (180 - (n.toNat - 1)) = 180 by omega] at h6
    exact h6.symm
  rw [h3]
theorem tab_0 : tabT 180 0 = 0 := by
  have h1 := tabT_lo 180 0 0 (by omega)
  rw [show 0 + 180 = 180 by rfl] at h1
  rw [h1]; rfl
theorem okT_fst {f : Int → Int} {n : Int} (h : okT f n) : fstT f n = winS n := fstT_cg h
theorem okT_s {f : Int → Int} {n v : Int} (h : okT f n) (hn : 1 ≤ n ∧ n < 180) (hv : v = if winS n = -6 then 0 else 1) : okT (zU f n v) (n + 1) := by
  intro j h0 h1
  by_cases hj : j = n
  · rw [hj, zU_same, hv, tab_step hn]
  · rw [zU_ne hj]; exact h j h0 (by omega)
theorem fstT_bd (f : Int → Int) (n : Int) (h : n ≤ 200) : -6 ≤ fstT f n ∧ fstT f n ≤ 200 := by unfold fstT; split <;> (try split) <;> (try split) <;> (try split) <;> omega

set_option maxRecDepth 20000 in
theorem hin_X0_mostAlike_X0 : ∀ w ∈ u_ws RX0 TX0 3, w ∈ wsX0_mostAlike := by decide +kernel
set_option maxRecDepth 20000 in
theorem fl_X0_mostAlike_9 : Cond.fieldLink RX0 9 "HornCity$Asking" "alike" "[I" ∈ wsX0_mostAlike := by decide +kernel
set_option maxHeartbeats 4000000 in
set_option maxRecDepth 100000 in
theorem c_X0_mostAlike (l : Launch) (D : va_G) (cI cJ cZ : ClassId) (as al ch iy mk : Nat) (alf iyf mkf : Int → Int) (by0 bm0 cn yr : Int) (hcn : 0 ≤ cn ∧ cn ≤ 8) (hby : zBd iyf 8 0 60) (hbk : zBd mkf 8 0 179) (hyr : 0 ≤ yr ∧ yr ≤ 60) : zMw l yX0_mostAlike wsX0_mostAlike (zRm 2) D cI cJ cZ [.ref as, .ref ch, .int (zI yr)] [(as, .inr (0, [.ref al, .int (zI by0), .int (zI bm0)])), (al, .inl (cI, 180, .inl (zA alf))), (ch, .inr (1, [.ref iy, .ref mk, .int (zI cn)])), (iy, .inl (cI, 8, .inl (zA iyf))), (mk, .inl (cI, 8, .inl (zA mkf)))] (S := Int × (Int → Int)) (fun u => u.1 = mosS iyf mkf cn yr 3600) (fun u => some (.int (zI u.1))) (fun u => [(as, .inr (0, [.ref al, .int (zI by0), .int (zI bm0)])), (al, .inl (cI, 180, .inl (zA u.2))), (ch, .inr (1, [.ref iy, .ref mk, .int (zI cn)])), (iy, .inl (cI, 8, .inl (zA iyf))), (mk, .inl (cI, 8, .inl (zA mkf)))]) := by
  refine zMw_i (cc := cX0_mostAlike) (maxL := 7) (by decide +kernel) rfl (Nat.le_of_ble_eq_true rfl) rfl (fun _ => rfl) ?_
  intro p e s m args below meth c Q H0 ls F hK hz hl hret
  obtain ⟨hx, hb, hml, hown0, hts⟩ := id F
  have hown : s.vm.findClass RX0 = some m.cls := hown0
  obtain ⟨ws0, hw0⟩ : ∃ w : va_W, w = [(as, .inr (0, [.ref al, .int (zI by0), .int (zI bm0)])), (al, .inl (cI, 180, .inl (zA alf))), (ch, .inr (1, [.ref iy, .ref mk, .int (zI cn)])), (iy, .inl (cI, 8, .inl (zA iyf))), (mk, .inl (cI, 8, .inl (zA mkf)))] := ⟨_, rfl⟩
  rw [← hw0] at hret
  have hz : zH D (zF ws0) H0 [(as, .inr (0, [.ref al, .int (zI by0), .int (zI bm0)])), (al, .inl (cI, 180, .inl (zA alf))), (ch, .inr (1, [.ref iy, .ref mk, .int (zI cn)])), (iy, .inl (cI, 8, .inl (zA iyf))), (mk, .inl (cI, 8, .inl (zA mkf)))] H0 [] := by rw [hw0]; exact hz
  have hl : lv_has ls 7 [(0, .ref as), (1, .ref ch), (2, .int (zI yr))] := hl
  refine z_iconst hx hb dX0_mostAlike_0 ?_
  refine lv_istore_n (lv' := [(3, .int (zI 0)), (0, .ref as), (1, .ref ch), (2, .int (zI yr))]) hx hb dX0_mostAlike_1 rfl hl (Nat.le_of_ble_eq_true rfl) rfl (fun ls hl => ?_)
  have L2 : ∀ (n : Nat) (i : Int) (ax : Int → Int) (H : Heap) (locs : List Loc) (ls : Array Slot), ((180 - i).toNat = n) → (0 ≤ i ∧ i ≤ 180) → (∀ j, 0 ≤ j → j < i → ax j = (fun _ => 0 : Int → Int) j) → zH D (zF ws0) H0 [(as, .inr (0, [.ref al, .int (zI by0), .int (zI bm0)])), (al, .inl (cI, 180, .inl (zA ax))), (ch, .inr (1, [.ref iy, .ref mk, .int (zI cn)])), (iy, .inl (cI, 8, .inl (zA iyf))), (mk, .inl (cI, 8, .inl (zA mkf)))] H locs → lv_has ls 7 [(3, .int (zI i)), (0, .ref as), (1, .ref ch), (2, .int (zI yr))] → W p l e (zRm 2) s m args below meth c H locs 0 0 Q (F0 m 2 ls []) := by
    intro n
    refine Nat.strongRecOn n ?_
    intro n ih2 i ax H locs ls hn2 h0 hax hz hl
    refine lv_iload_n hx hb dX0_mostAlike_2 rfl (lv_at hl 0 rfl) ?_
    refine z_sipush hx hb dX0_mostAlike_3 (by decide) ?_
    refine z_icmp_ge (tgt := 22) hx hb dX0_mostAlike_6 (by decide) (by omega) (by decide) (fun h6 => ?_) (fun h6 => ?_)
    ·
      have hz := zH_ext hz 1 (fun _ => 0) rfl (fun j h1 h2 => hax j h1 (by omega))
      have hz : zH D (zF ws0) H0 [(as, .inr (0, [.ref al, .int (zI by0), .int (zI bm0)])), (al, .inl (cI, 180, .inl (zA (fun _ => 0)))), (ch, .inr (1, [.ref iy, .ref mk, .int (zI cn)])), (iy, .inl (cI, 8, .inl (zA iyf))), (mk, .inl (cI, 8, .inl (zA mkf)))] H locs := hz
      refine z_iconst hx hb dX0_mostAlike_22 ?_
      refine lv_istore_n (lv' := [(3, .int (zI 0)), (0, .ref as), (1, .ref ch), (2, .int (zI yr))]) hx hb dX0_mostAlike_23 rfl hl (Nat.le_of_ble_eq_true rfl) rfl (fun ls hl => ?_)
      refine z_iconst hx hb dX0_mostAlike_24 ?_
      refine lv_istore (lv' := [(4, .int (zI 0)), (3, .int (zI 0)), (0, .ref as), (1, .ref ch), (2, .int (zI yr))]) hx hb dX0_mostAlike_25 hl (Nat.le_of_ble_eq_true rfl) rfl (fun ls hl => ?_)
      have L27 : ∀ (n : Nat) (b mo : Int) (ax : Int → Int) (H : Heap) (locs : List Loc) (ls : Array Slot), ((180 - b).toNat = n) → (0 ≤ b ∧ b ≤ 180) → (alkI iyf mkf cn yr ax (20 * b).toNat) → (mo = mosS iyf mkf cn yr (20 * b).toNat) → zH D (zF ws0) H0 [(as, .inr (0, [.ref al, .int (zI by0), .int (zI bm0)])), (al, .inl (cI, 180, .inl (zA ax))), (ch, .inr (1, [.ref iy, .ref mk, .int (zI cn)])), (iy, .inl (cI, 8, .inl (zA iyf))), (mk, .inl (cI, 8, .inl (zA mkf)))] H locs → lv_has ls 7 [(4, .int (zI b)), (3, .int (zI mo)), (0, .ref as), (1, .ref ch), (2, .int (zI yr))] → W p l e (zRm 2) s m args below meth c H locs 0 0 Q (F0 m 27 ls []) := by
        intro n
        refine Nat.strongRecOn n ?_
        intro n ih27 b mo ax H locs ls hn27 h0b hal hmo hz hl
        refine lv_iload hx hb dX0_mostAlike_27 (lv_at hl 0 rfl) ?_
        refine z_sipush hx hb dX0_mostAlike_29 (by decide) ?_
        refine z_icmp_ge (tgt := 105) hx hb dX0_mostAlike_32 (by decide) (by omega) (by decide) (fun h32 => ?_) (fun h32 => ?_)
        ·
          refine lv_iload_n hx hb dX0_mostAlike_105 rfl (lv_at hl 1 rfl) ?_
          exact hret ((mo : Int), (ax : Int → Int)) dX0_mostAlike_106 (show mo = mosS iyf mkf cn yr 3600 from (by have e : b = 180 := (by omega); subst e; exact hmo)) hz
        ·
          refine z_bipush hx hb dX0_mostAlike_35 (by decide) ?_
          refine lv_istore (lv' := [(5, .int (zI (-9))), (4, .int (zI b)), (3, .int (zI mo)), (0, .ref as), (1, .ref ch), (2, .int (zI yr))]) hx hb dX0_mostAlike_37 hl (Nat.le_of_ble_eq_true rfl) rfl (fun ls hl => ?_)
          have L39 : ∀ (n : Nat) (d mp : Int) (ay : Int → Int) (H : Heap) (locs : List Loc) (ls : Array Slot), ((10 - d).toNat = n) → (-9 ≤ d ∧ d ≤ 10) → (alkI iyf mkf cn yr ay (20 * b + d + 9).toNat) → (mp = mosS iyf mkf cn yr (20 * b + d + 9).toNat) → zH D (zF ws0) H0 [(as, .inr (0, [.ref al, .int (zI by0), .int (zI bm0)])), (al, .inl (cI, 180, .inl (zA ay))), (ch, .inr (1, [.ref iy, .ref mk, .int (zI cn)])), (iy, .inl (cI, 8, .inl (zA iyf))), (mk, .inl (cI, 8, .inl (zA mkf)))] H locs → lv_has ls 7 [(5, .int (zI d)), (4, .int (zI b)), (3, .int (zI mp)), (0, .ref as), (1, .ref ch), (2, .int (zI yr))] → W p l e (zRm 2) s m args below meth c H locs 0 0 Q (F0 m 39 ls []) := by
            intro n
            refine Nat.strongRecOn n ?_
            intro n ih39 d mp ay H locs ls hn39 h1 hal2 hmo2 hz hl
            refine lv_iload hx hb dX0_mostAlike_39 (lv_at hl 0 rfl) ?_
            refine z_bipush hx hb dX0_mostAlike_41 (by decide) ?_
            refine z_icmp_gt (tgt := 99) hx hb dX0_mostAlike_43 (by decide) (by omega) (by decide) (fun h43 => ?_) (fun h43 => ?_)
            ·
              refine z_iinc (lv' := [(4, .int (zI (b + 1))), (5, .int (zI d)), (3, .int (zI mp)), (0, .ref as), (1, .ref ch), (2, .int (zI yr))]) hx hb dX0_mostAlike_99 hl (k := 1) rfl (Nat.le_of_ble_eq_true rfl) rfl (fun ls hl => ?_)
              refine lv_goto (tgt := 27) hx hb dX0_mostAlike_102 (by decide) ?_
              exact ih27 _ (by omega) (b + 1) mp ay H locs ls rfl (by omega) (by have h9 := alkI_out hal2 (by omega) (by rw [show 20 * b + d + 9 = 20 * b + 19 by omega, fitC_19]; decide); rwa [show 20 * b + d + 9 + 1 = 20 * (b + 1) by omega] at h9) (by have h9 := mos_out hmo2 (by omega) (by rw [show 20 * b + d + 9 = 20 * b + 19 by omega, fitC_19]; decide); rwa [show 20 * b + d + 9 + 1 = 20 * (b + 1) by omega] at h9) hz (lv_sub hl [0, 2, 3, 4, 5] rfl)
            ·
              refine lv_aload_n hx hb dX0_mostAlike_46 rfl (lv_at hl 4 rfl) ?_
              refine lv_iload hx hb dX0_mostAlike_47 (lv_at hl 1 rfl) ?_
              refine lv_iload hx hb dX0_mostAlike_49 (lv_at hl 0 rfl) ?_
              refine z_iconst hx hb dX0_mostAlike_51 ?_
              refine z_callVp (As := [.int (zI b), .int (zI d), .int (zI 0)]) (rest := []) (C := RX1) (T := TX1) (N := 3) F hK hz hl (c_X1_fit l D cI cJ cZ ch iy mk iyf mkf cn b d 0 (by omega) (by omega) (hby) (hbk)) (cwV 3 hts gX0_mostAlike_X1_fit rfl rfl rfl (by decide +kernel) ⟨Nat.le_of_ble_eq_true rfl, Nat.le_of_ble_eq_true rfl⟩) rfl 2 rfl [2, 3, 4] rfl rfl rfl rfl (Nat.le_of_ble_eq_true rfl) ⟨Nat.le_of_ble_eq_true rfl, Nat.le_of_ble_eq_true rfl⟩ dX0_mostAlike_52 ?_
              refine z_ifb_eq (tgt := 93) hx hb dX0_mostAlike_55 (by decide) (fun h55 => ?_) (fun h55 => ?_)
              ·
                refine z_iinc (lv' := [(5, .int (zI (d + 1))), (4, .int (zI b)), (3, .int (zI mp)), (0, .ref as), (1, .ref ch), (2, .int (zI yr))]) hx hb dX0_mostAlike_93 hl (k := 0) rfl (Nat.le_of_ble_eq_true rfl) rfl (fun ls hl => ?_)
                refine lv_goto (tgt := 39) hx hb dX0_mostAlike_96 (by decide) ?_
                exact ih39 _ (by omega) (d + 1) mp ay H locs ls rfl (by omega) (by rw [show 20 * b + (d + 1) + 9 = 20 * b + d + 9 + 1 by omega]; exact alkI_out hal2 (by omega) (by rw [fitC_at (by omega)]; exact h55)) (by rw [show 20 * b + (d + 1) + 9 = 20 * b + d + 9 + 1 by omega]; exact mos_out hmo2 (by omega) (by rw [fitC_at (by omega)]; exact h55)) hz (lv_sub hl [0, 1, 2, 3, 4, 5] rfl)
              ·
                refine lv_iload hx hb dX0_mostAlike_58 (lv_at hl 1 rfl) ?_
                refine lv_iload hx hb dX0_mostAlike_60 (lv_at hl 0 rfl) ?_
                refine lv_iload_n hx hb dX0_mostAlike_62 rfl (lv_at hl 5 rfl) ?_
                have hm6 := mul60 (d := d) (y := yr) (by omega) (by omega)
                refine z_imul hx hb dX0_mostAlike_63 ?_
                refine z_iadd hx hb dX0_mostAlike_64 ?_
                refine z_callSp (As := [.int (zI (b + (d * yr)))]) (rest := []) F hK hz hl (c_X5_leftOver l D cI cJ cZ (b + (d * yr)) (by omega)) (va_cwS 1 hts gX0_mostAlike_X5_leftOver rfl rfl rfl (by decide +kernel) ⟨Nat.le_of_ble_eq_true rfl, Nat.le_of_ble_eq_true rfl⟩) [] rfl rfl rfl rfl (Nat.le_of_ble_eq_true rfl) ⟨Nat.le_of_ble_eq_true rfl, Nat.le_of_ble_eq_true rfl⟩ dX0_mostAlike_65 ?_
                refine lv_istore (lv' := [(6, .int (zI ((b + (d * yr)) % 180))), (5, .int (zI d)), (4, .int (zI b)), (3, .int (zI mp)), (0, .ref as), (1, .ref ch), (2, .int (zI yr))]) hx hb dX0_mostAlike_68 hl (Nat.le_of_ble_eq_true rfl) rfl (fun ls hl => ?_)
                refine lv_aload_n hx hb dX0_mostAlike_70 rfl (lv_at hl 4 rfl) ?_
                refine z_get (C := RX0) (T := TX0) (N := 3) (ref := "HornCity$Asking") hx hb hts hin_X0_mostAlike_X0 hown hK hz 0 rfl rfl 0 (by decide) (hts _ fl_X0_mostAlike_9) rfl rfl dX0_mostAlike_71 ?_
                refine lv_iload hx hb dX0_mostAlike_74 (lv_at hl 0 rfl) ?_
                refine lv_dup2_11 hx hb dX0_mostAlike_76 rfl rfl ?_
                refine z_iald hx hb hK hz 1 rfl (by omega) (by decide) dX0_mostAlike_77 ?_
                have hv1 := hal2 ((b + d * yr) % 180) (by omega) (by omega)
                have hv2 := alkS_bd iyf mkf cn yr ((b + d * yr) % 180) (20 * b + d + 9).toNat
                have hv3 := mosS_bd iyf mkf cn yr (20 * b + d + 9).toNat
                refine z_iconst hx hb dX0_mostAlike_78 ?_
                refine z_iadd hx hb dX0_mostAlike_79 ?_
                refine z_iast hx hb hK hz 1 rfl (by omega) (by decide) dX0_mostAlike_80 (fun H locs hz => ?_)
                have hz : zH D (zF ws0) H0 [(as, .inr (0, [.ref al, .int (zI by0), .int (zI bm0)])), (al, .inl (cI, 180, .inl (zA (zU ay ((b + (d * yr)) % 180) ((ay ((b + (d * yr)) % 180)) + 1))))), (ch, .inr (1, [.ref iy, .ref mk, .int (zI cn)])), (iy, .inl (cI, 8, .inl (zA iyf))), (mk, .inl (cI, 8, .inl (zA mkf)))] H locs := hz
                refine lv_iload_n hx hb dX0_mostAlike_81 rfl (lv_at hl 3 rfl) ?_
                refine lv_aload_n hx hb dX0_mostAlike_82 rfl (lv_at hl 4 rfl) ?_
                refine z_get (C := RX0) (T := TX0) (N := 3) (ref := "HornCity$Asking") hx hb hts hin_X0_mostAlike_X0 hown hK hz 0 rfl rfl 0 (by decide) (hts _ fl_X0_mostAlike_9) rfl rfl dX0_mostAlike_83 ?_
                refine lv_iload hx hb dX0_mostAlike_86 (lv_at hl 0 rfl) ?_
                refine z_iald hx hb hK hz 1 rfl (by omega) (by decide) dX0_mostAlike_88 ?_
                rw [zU_same]
                refine z_mmax hx hb hl.1 hml hown (hts (.methodLink RX0 41 Lib.Math.max.name) (by decide +kernel)) (hts (.static Lib.Math.max.name) (by decide +kernel)) (hts (.initialized "java/lang/Math") (by decide +kernel)) (hts (.code Lib.Math.max.name Lib.Math.max.code 2 (some .int)) (by decide +kernel)) (Nat.le_of_ble_eq_true rfl) (Nat.le_of_ble_eq_true rfl) ⟨Nat.le_of_ble_eq_true rfl, Nat.le_of_ble_eq_true rfl⟩ (by omega) (by omega) dX0_mostAlike_89 ?_
                refine lv_istore_n (lv' := [(3, .int (zI (max mp ((ay ((b + (d * yr)) % 180)) + 1)))), (6, .int (zI ((b + (d * yr)) % 180))), (5, .int (zI d)), (4, .int (zI b)), (0, .ref as), (1, .ref ch), (2, .int (zI yr))]) hx hb dX0_mostAlike_92 rfl hl (Nat.le_of_ble_eq_true rfl) rfl (fun ls hl => ?_)
                refine z_iinc (lv' := [(5, .int (zI (d + 1))), (3, .int (zI (max mp ((ay ((b + (d * yr)) % 180)) + 1)))), (6, .int (zI ((b + (d * yr)) % 180))), (4, .int (zI b)), (0, .ref as), (1, .ref ch), (2, .int (zI yr))]) hx hb dX0_mostAlike_93 hl (k := 2) rfl (Nat.le_of_ble_eq_true rfl) rfl (fun ls hl => ?_)
                refine lv_goto (tgt := 39) hx hb dX0_mostAlike_96 (by decide) ?_
                exact ih39 _ (by omega) (d + 1) (max mp ((ay ((b + (d * yr)) % 180)) + 1)) (zU ay ((b + (d * yr)) % 180) ((ay ((b + (d * yr)) % 180)) + 1)) H locs ls rfl (by omega) (by rw [show 20 * b + (d + 1) + 9 = 20 * b + d + 9 + 1 by omega]; have h9 := alkI_in hal2 (by omega) (by rw [fitC_at (by omega)]; exact h55); rwa [thn_at (by omega)] at h9) (by rw [show 20 * b + (d + 1) + 9 = 20 * b + d + 9 + 1 by omega]; exact mos_in hal2 hmo2 (by omega) (by rw [fitC_at (by omega)]; exact h55) (thn_at (by omega)).symm) hz (lv_sub hl [0, 3, 1, 4, 5, 6] rfl)
          exact L39 _ (-9) mo ax H locs ls rfl (by decide) (by rw [show 20 * b + -9 + 9 = 20 * b by omega]; exact hal) (by rw [show 20 * b + -9 + 9 = 20 * b by omega]; exact hmo) hz (lv_sub hl [0, 1, 2, 3, 4, 5] rfl)
      exact L27 _ 0 0 (fun _ => 0) H locs ls rfl (by decide) (fun v h1 h2 => rfl) (rfl) hz (lv_sub hl [0, 1, 2, 3, 4] rfl)
    ·
      refine lv_aload_n hx hb dX0_mostAlike_9 rfl (lv_at hl 1 rfl) ?_
      refine z_get (C := RX0) (T := TX0) (N := 3) (ref := "HornCity$Asking") hx hb hts hin_X0_mostAlike_X0 hown hK hz 0 rfl rfl 0 (by decide) (hts _ fl_X0_mostAlike_9) rfl rfl dX0_mostAlike_10 ?_
      refine lv_iload_n hx hb dX0_mostAlike_13 rfl (lv_at hl 0 rfl) ?_
      refine z_iconst hx hb dX0_mostAlike_14 ?_
      refine z_iast hx hb hK hz 1 rfl (by omega) (by decide) dX0_mostAlike_15 (fun H locs hz => ?_)
      have hz : zH D (zF ws0) H0 [(as, .inr (0, [.ref al, .int (zI by0), .int (zI bm0)])), (al, .inl (cI, 180, .inl (zA (zU ax i 0)))), (ch, .inr (1, [.ref iy, .ref mk, .int (zI cn)])), (iy, .inl (cI, 8, .inl (zA iyf))), (mk, .inl (cI, 8, .inl (zA mkf)))] H locs := hz
      refine z_iinc (lv' := [(3, .int (zI (i + 1))), (0, .ref as), (1, .ref ch), (2, .int (zI yr))]) hx hb dX0_mostAlike_16 hl (k := 0) rfl (Nat.le_of_ble_eq_true rfl) rfl (fun ls hl => ?_)
      refine lv_goto (tgt := 2) hx hb dX0_mostAlike_19 (by decide) ?_
      exact ih2 _ (by omega) (i + 1) (zU ax i 0) H locs ls rfl (by omega) (zU_cp hax) hz (lv_sub hl [0, 1, 2, 3] rfl)
  exact L2 _ 0 alf H0 [] ls rfl (by decide) (fun j h1 h2 => absurd h1 (by omega)) hz (lv_sub hl [0, 1, 2, 3] rfl)

set_option maxRecDepth 20000 in
theorem hin_X0_weigh_X0 : ∀ w ∈ u_ws RX0 TX0 3, w ∈ wsX0_weigh := by decide +kernel
set_option maxRecDepth 20000 in
theorem fl_X0_weigh_15 : Cond.fieldLink RX0 15 "HornCity$Asking" "bestYear" "I" ∈ wsX0_weigh := by decide +kernel
set_option maxRecDepth 20000 in
theorem fl_X0_weigh_19 : Cond.fieldLink RX0 19 "HornCity$Asking" "bestMost" "I" ∈ wsX0_weigh := by decide +kernel
set_option maxHeartbeats 4000000 in
set_option maxRecDepth 100000 in
theorem c_X0_weigh (l : Launch) (D : va_G) (cI cJ cZ : ClassId) (as al ch iy mk : Nat) (alf iyf mkf : Int → Int) (by0 bm0 cn : Int) (hcn : 0 ≤ cn ∧ cn ≤ 8) (hby : zBd iyf 8 0 60) (hbk : zBd mkf 8 0 179) : zMw l yX0_weigh wsX0_weigh (zRm 3) D cI cJ cZ [.ref as, .ref ch] [(as, .inr (0, [.ref al, .int (zI by0), .int (zI bm0)])), (al, .inl (cI, 180, .inl (zA alf))), (ch, .inr (1, [.ref iy, .ref mk, .int (zI cn)])), (iy, .inl (cI, 8, .inl (zA iyf))), (mk, .inl (cI, 8, .inl (zA mkf)))] (S := (Int → Int) × Int × Int) (fun u => (u.2.1, u.2.2) = (if cntS iyf mkf cn 0 3600 = 0 then (-6, -6) else askS iyf mkf cn 61)) (fun _ => none) (fun u => [(as, .inr (0, [.ref al, .int (zI u.2.1), .int (zI u.2.2)])), (al, .inl (cI, 180, .inl (zA u.1))), (ch, .inr (1, [.ref iy, .ref mk, .int (zI cn)])), (iy, .inl (cI, 8, .inl (zA iyf))), (mk, .inl (cI, 8, .inl (zA mkf)))]) := by
  refine zMw_v (cc := cX0_weigh) (maxL := 6) (by decide +kernel) rfl (Nat.le_of_ble_eq_true rfl) rfl (fun _ => rfl) ?_
  intro p e s m args below meth c Q H0 ls F hK hz hl hret
  obtain ⟨hx, hb, hml, hown0, hts⟩ := id F
  have hown : s.vm.findClass RX0 = some m.cls := hown0
  obtain ⟨ws0, hw0⟩ : ∃ w : va_W, w = [(as, .inr (0, [.ref al, .int (zI by0), .int (zI bm0)])), (al, .inl (cI, 180, .inl (zA alf))), (ch, .inr (1, [.ref iy, .ref mk, .int (zI cn)])), (iy, .inl (cI, 8, .inl (zA iyf))), (mk, .inl (cI, 8, .inl (zA mkf)))] := ⟨_, rfl⟩
  rw [← hw0] at hret
  have hz : zH D (zF ws0) H0 [(as, .inr (0, [.ref al, .int (zI by0), .int (zI bm0)])), (al, .inl (cI, 180, .inl (zA alf))), (ch, .inr (1, [.ref iy, .ref mk, .int (zI cn)])), (iy, .inl (cI, 8, .inl (zA iyf))), (mk, .inl (cI, 8, .inl (zA mkf)))] H0 [] := by rw [hw0]; exact hz
  have hl : lv_has ls 6 [(0, .ref as), (1, .ref ch)] := hl
  refine lv_aload_n hx hb dX0_weigh_0 rfl (lv_at hl 0 rfl) ?_
  refine z_bipush hx hb dX0_weigh_1 (by decide) ?_
  refine z_put (C := RX0) (T := TX0) (N := 3) (ref := "HornCity$Asking") (ty := .int) hx hb hts hin_X0_weigh_X0 hown hK hz tyX0 tyX0_ok nmX0 0 rfl rfl 1 (by decide) (hts _ fl_X0_weigh_15) rfl rfl (by decide +kernel) rfl rfl (Nat.le_of_ble_eq_true rfl) dX0_weigh_3 (fun H locs hz => ?_)
  have hz : zH D (zF ws0) H0 [(as, .inr (0, [.ref al, .int (zI (-6)), .int (zI bm0)])), (al, .inl (cI, 180, .inl (zA alf))), (ch, .inr (1, [.ref iy, .ref mk, .int (zI cn)])), (iy, .inl (cI, 8, .inl (zA iyf))), (mk, .inl (cI, 8, .inl (zA mkf)))] H locs := hz
  refine lv_aload_n hx hb dX0_weigh_6 rfl (lv_at hl 0 rfl) ?_
  refine z_bipush hx hb dX0_weigh_7 (by decide) ?_
  refine z_put (C := RX0) (T := TX0) (N := 3) (ref := "HornCity$Asking") (ty := .int) hx hb hts hin_X0_weigh_X0 hown hK hz tyX0 tyX0_ok nmX0 0 rfl rfl 2 (by decide) (hts _ fl_X0_weigh_19) rfl rfl (by decide +kernel) rfl rfl (Nat.le_of_ble_eq_true rfl) dX0_weigh_9 (fun H locs hz => ?_)
  have hz : zH D (zF ws0) H0 [(as, .inr (0, [.ref al, .int (zI (-6)), .int (zI (-6))])), (al, .inl (cI, 180, .inl (zA alf))), (ch, .inr (1, [.ref iy, .ref mk, .int (zI cn)])), (iy, .inl (cI, 8, .inl (zA iyf))), (mk, .inl (cI, 8, .inl (zA mkf)))] H locs := hz
  refine lv_aload_n hx hb dX0_weigh_12 rfl (lv_at hl 1 rfl) ?_
  refine z_iconst hx hb dX0_weigh_13 ?_
  refine z_callVp (As := [.int (zI 0)]) (rest := []) (C := RX1) (T := TX1) (N := 3) F hK hz hl (c_X1_countFits l D cI cJ cZ ch iy mk iyf mkf cn 0 (by omega) (by omega) (hby) (hbk)) (cwV 1 hts gX0_weigh_X1_countFits rfl rfl rfl (by decide +kernel) ⟨Nat.le_of_ble_eq_true rfl, Nat.le_of_ble_eq_true rfl⟩) rfl 2 rfl [2, 3, 4] rfl rfl rfl rfl (Nat.le_of_ble_eq_true rfl) ⟨Nat.le_of_ble_eq_true rfl, Nat.le_of_ble_eq_true rfl⟩ dX0_weigh_14 ?_
  have hct := cnt_bd iyf mkf cn 0
  refine lv_istore_n (lv' := [(2, .int (zI (cntS iyf mkf cn 0 3600))), (0, .ref as), (1, .ref ch)]) hx hb dX0_weigh_17 rfl hl (Nat.le_of_ble_eq_true rfl) rfl (fun ls hl => ?_)
  refine lv_iload_n hx hb dX0_weigh_18 rfl (lv_at hl 0 rfl) ?_
  refine z_if_ne (tgt := 23) hx hb dX0_weigh_19 (by decide) (by omega) (fun h19 => ?_) (fun h19 => ?_)
  ·
    refine lv_iload_n hx hb dX0_weigh_23 rfl (lv_at hl 0 rfl) ?_
    refine z_sipush hx hb dX0_weigh_24 (by decide) ?_
    refine z_iadd hx hb dX0_weigh_27 ?_
    refine z_iconst hx hb dX0_weigh_28 ?_
    refine z_isub hx hb dX0_weigh_29 ?_
    refine z_sipush hx hb dX0_weigh_30 (by decide) ?_
    refine z_idiv hx hb dX0_weigh_33 (by omega) (by omega) ?_
    refine lv_istore_n (lv' := [(3, .int (zI ((((cntS iyf mkf cn 0 3600) + 180) - 1) / 180))), (2, .int (zI (cntS iyf mkf cn 0 3600))), (0, .ref as), (1, .ref ch)]) hx hb dX0_weigh_34 rfl hl (Nat.le_of_ble_eq_true rfl) rfl (fun ls hl => ?_)
    refine z_iconst hx hb dX0_weigh_35 ?_
    refine lv_istore (lv' := [(4, .int (zI 0)), (3, .int (zI ((((cntS iyf mkf cn 0 3600) + 180) - 1) / 180))), (2, .int (zI (cntS iyf mkf cn 0 3600))), (0, .ref as), (1, .ref ch)]) hx hb dX0_weigh_36 hl (Nat.le_of_ble_eq_true rfl) rfl (fun ls hl => ?_)
    have L38 : ∀ (n : Nat) (y bx mx : Int) (ax : Int → Int) (H : Heap) (locs : List Loc) (ls : Array Slot), ((61 - y).toNat = n) → (0 ≤ y ∧ y ≤ 61) → (-6 ≤ mx ∧ mx ≤ 3600) → ((bx, mx) = askS iyf mkf cn y.toNat) → zH D (zF ws0) H0 [(as, .inr (0, [.ref al, .int (zI bx), .int (zI mx)])), (al, .inl (cI, 180, .inl (zA ax))), (ch, .inr (1, [.ref iy, .ref mk, .int (zI cn)])), (iy, .inl (cI, 8, .inl (zA iyf))), (mk, .inl (cI, 8, .inl (zA mkf)))] H locs → lv_has ls 6 [(4, .int (zI y)), (3, .int (zI ((((cntS iyf mkf cn 0 3600) + 180) - 1) / 180))), (2, .int (zI (cntS iyf mkf cn 0 3600))), (0, .ref as), (1, .ref ch)] → W p l e (zRm 3) s m args below meth c H locs 0 0 Q (F0 m 38 ls []) := by
      intro n
      refine Nat.strongRecOn n ?_
      intro n ih38 y bx mx ax H locs ls hn38 h0 hmx hs hz hl
      refine lv_iload hx hb dX0_weigh_38 (lv_at hl 0 rfl) ?_
      refine z_bipush hx hb dX0_weigh_40 (by decide) ?_
      refine z_icmp_gt (tgt := 99) hx hb dX0_weigh_42 (by decide) (by omega) (by decide) (fun h42 => ?_) (fun h42 => ?_)
      ·
        exact hret ((ax : Int → Int), (bx : Int), (mx : Int)) dX0_weigh_99 (show (bx, mx) = (if cntS iyf mkf cn 0 3600 = 0 then (-6, -6) else askS iyf mkf cn 61) from (by rw [if_neg h19]; have e : y = 61 := (by omega); subst e; exact hs)) hz
      ·
        refine lv_aload_n hx hb dX0_weigh_45 rfl (lv_at hl 3 rfl) ?_
        refine lv_aload_n hx hb dX0_weigh_46 rfl (lv_at hl 4 rfl) ?_
        refine lv_iload hx hb dX0_weigh_47 (lv_at hl 0 rfl) ?_
        refine z_callVw (As := [.ref ch, .int (zI y)]) (rest := []) (C := RX0) (T := TX0) (N := 3) F hK hz hl (c_X0_mostAlike l D cI cJ cZ as al ch iy mk ax iyf mkf bx mx cn y (by omega) (hby) (hbk) (by omega)) (cwV 2 hts gX0_weigh_X0_mostAlike rfl rfl rfl (by decide +kernel) ⟨Nat.le_of_ble_eq_true rfl, Nat.le_of_ble_eq_true rfl⟩) rfl 0 rfl [0, 1, 2, 3, 4] rfl rfl (by decide +kernel) rfl rfl (Nat.le_of_ble_eq_true rfl) ⟨Nat.le_of_ble_eq_true rfl, Nat.le_of_ble_eq_true rfl⟩ dX0_weigh_49 (fun u H locs hu hz => ?_)
        obtain ⟨r_1, al1_2⟩ := u
        have hu : r_1 = mosS iyf mkf cn y 3600 := hu
        have g49_0 := hu
        have g49_0 := g49_0.symm
        subst g49_0
        have hz : zH D (zF ws0) H0 [(as, .inr (0, [.ref al, .int (zI bx), .int (zI mx)])), (al, .inl (cI, 180, .inl (zA al1_2))), (ch, .inr (1, [.ref iy, .ref mk, .int (zI cn)])), (iy, .inl (cI, 8, .inl (zA iyf))), (mk, .inl (cI, 8, .inl (zA mkf)))] H locs := hz
        have hms := mosS_bd iyf mkf cn y 3600
        refine lv_istore (lv' := [(5, .int (zI (mosS iyf mkf cn y 3600))), (4, .int (zI y)), (3, .int (zI ((((cntS iyf mkf cn 0 3600) + 180) - 1) / 180))), (2, .int (zI (cntS iyf mkf cn 0 3600))), (0, .ref as), (1, .ref ch)]) hx hb dX0_weigh_52 hl (Nat.le_of_ble_eq_true rfl) rfl (fun ls hl => ?_)
        refine lv_aload_n hx hb dX0_weigh_54 rfl (lv_at hl 4 rfl) ?_
        refine z_get (C := RX0) (T := TX0) (N := 3) (ref := "HornCity$Asking") hx hb hts hin_X0_weigh_X0 hown hK hz 0 rfl rfl 2 (by decide) (hts _ fl_X0_weigh_19) rfl rfl dX0_weigh_55 ?_
        refine z_bipush hx hb dX0_weigh_58 (by decide) ?_
        refine z_icmp_eq (tgt := 72) hx hb dX0_weigh_60 (by decide) (by omega) (by decide) (fun h60 => ?_) (fun h60 => ?_)
        ·
          refine lv_aload_n hx hb dX0_weigh_72 rfl (lv_at hl 4 rfl) ?_
          refine lv_iload hx hb dX0_weigh_73 (lv_at hl 0 rfl) ?_
          refine z_put (C := RX0) (T := TX0) (N := 3) (ref := "HornCity$Asking") (ty := .int) hx hb hts hin_X0_weigh_X0 hown hK hz tyX0 tyX0_ok nmX0 0 rfl rfl 2 (by decide) (hts _ fl_X0_weigh_19) rfl rfl (by decide +kernel) rfl rfl (Nat.le_of_ble_eq_true rfl) dX0_weigh_75 (fun H locs hz => ?_)
          have hz : zH D (zF ws0) H0 [(as, .inr (0, [.ref al, .int (zI bx), .int (zI (mosS iyf mkf cn y 3600))])), (al, .inl (cI, 180, .inl (zA al1_2))), (ch, .inr (1, [.ref iy, .ref mk, .int (zI cn)])), (iy, .inl (cI, 8, .inl (zA iyf))), (mk, .inl (cI, 8, .inl (zA mkf)))] H locs := hz
          refine lv_aload_n hx hb dX0_weigh_78 rfl (lv_at hl 4 rfl) ?_
          refine lv_iload hx hb dX0_weigh_79 (lv_at hl 1 rfl) ?_
          refine z_put (C := RX0) (T := TX0) (N := 3) (ref := "HornCity$Asking") (ty := .int) hx hb hts hin_X0_weigh_X0 hown hK hz tyX0 tyX0_ok nmX0 0 rfl rfl 1 (by decide) (hts _ fl_X0_weigh_15) rfl rfl (by decide +kernel) rfl rfl (Nat.le_of_ble_eq_true rfl) dX0_weigh_81 (fun H locs hz => ?_)
          have hz : zH D (zF ws0) H0 [(as, .inr (0, [.ref al, .int (zI y), .int (zI (mosS iyf mkf cn y 3600))])), (al, .inl (cI, 180, .inl (zA al1_2))), (ch, .inr (1, [.ref iy, .ref mk, .int (zI cn)])), (iy, .inl (cI, 8, .inl (zA iyf))), (mk, .inl (cI, 8, .inl (zA mkf)))] H locs := hz
          refine lv_aload_n hx hb dX0_weigh_84 rfl (lv_at hl 4 rfl) ?_
          refine z_get (C := RX0) (T := TX0) (N := 3) (ref := "HornCity$Asking") hx hb hts hin_X0_weigh_X0 hown hK hz 0 rfl rfl 2 (by decide) (hts _ fl_X0_weigh_19) rfl rfl dX0_weigh_85 ?_
          refine lv_iload_n hx hb dX0_weigh_88 rfl (lv_at hl 2 rfl) ?_
          refine z_icmp_ne (tgt := 93) hx hb dX0_weigh_89 (by decide) (by omega) (by omega) (fun h89 => ?_) (fun h89 => ?_)
          ·
            refine z_iinc (lv' := [(4, .int (zI (y + 1))), (5, .int (zI (mosS iyf mkf cn y 3600))), (3, .int (zI ((((cntS iyf mkf cn 0 3600) + 180) - 1) / 180))), (2, .int (zI (cntS iyf mkf cn 0 3600))), (0, .ref as), (1, .ref ch)]) hx hb dX0_weigh_93 hl (k := 1) rfl (Nat.le_of_ble_eq_true rfl) rfl (fun ls hl => ?_)
            refine lv_goto (tgt := 38) hx hb dX0_weigh_96 (by decide) ?_
            exact ih38 _ (by omega) (y + 1) y (mosS iyf mkf cn y 3600) al1_2 H locs ls rfl (by omega) (by omega) (by rw [← ask_s h0.1 hs]; rw [if_pos (by omega)]) hz (lv_sub hl [0, 2, 3, 4, 5] rfl)
          ·
            exact hret ((al1_2 : Int → Int), (y : Int), ((mosS iyf mkf cn y 3600) : Int)) dX0_weigh_92 (show (y, (mosS iyf mkf cn y 3600)) = (if cntS iyf mkf cn 0 3600 = 0 then (-6, -6) else askS iyf mkf cn 61) from (by rw [if_neg h19]; have h9 : (y, mosS iyf mkf cn y 3600) = askS iyf mkf cn (y + 1).toNat := (by rw [← ask_s h0.1 hs]; rw [if_pos (by omega)]); have h8 := ask_stop (by omega) h89 (61 - (y + 1).toNat) (y + 1).toNat h9; rwa [show (y + 1).toNat + (61 - (y + 1).toNat) = 61 by omega] at h8)) hz
        ·
          refine lv_iload hx hb dX0_weigh_63 (lv_at hl 0 rfl) ?_
          refine lv_aload_n hx hb dX0_weigh_65 rfl (lv_at hl 4 rfl) ?_
          refine z_get (C := RX0) (T := TX0) (N := 3) (ref := "HornCity$Asking") hx hb hts hin_X0_weigh_X0 hown hK hz 0 rfl rfl 2 (by decide) (hts _ fl_X0_weigh_19) rfl rfl dX0_weigh_66 ?_
          refine z_icmp_ge (tgt := 84) hx hb dX0_weigh_69 (by decide) (by omega) (by omega) (fun h69 => ?_) (fun h69 => ?_)
          ·
            refine lv_aload_n hx hb dX0_weigh_84 rfl (lv_at hl 4 rfl) ?_
            refine z_get (C := RX0) (T := TX0) (N := 3) (ref := "HornCity$Asking") hx hb hts hin_X0_weigh_X0 hown hK hz 0 rfl rfl 2 (by decide) (hts _ fl_X0_weigh_19) rfl rfl dX0_weigh_85 ?_
            refine lv_iload_n hx hb dX0_weigh_88 rfl (lv_at hl 2 rfl) ?_
            refine z_icmp_ne (tgt := 93) hx hb dX0_weigh_89 (by decide) (by omega) (by omega) (fun h89 => ?_) (fun h89 => ?_)
            ·
              refine z_iinc (lv' := [(4, .int (zI (y + 1))), (5, .int (zI (mosS iyf mkf cn y 3600))), (3, .int (zI ((((cntS iyf mkf cn 0 3600) + 180) - 1) / 180))), (2, .int (zI (cntS iyf mkf cn 0 3600))), (0, .ref as), (1, .ref ch)]) hx hb dX0_weigh_93 hl (k := 1) rfl (Nat.le_of_ble_eq_true rfl) rfl (fun ls hl => ?_)
              refine lv_goto (tgt := 38) hx hb dX0_weigh_96 (by decide) ?_
              exact ih38 _ (by omega) (y + 1) bx mx al1_2 H locs ls rfl (by omega) (by omega) (by rw [← ask_s h0.1 hs]; rw [if_neg (by omega)]) hz (lv_sub hl [0, 2, 3, 4, 5] rfl)
            ·
              exact hret ((al1_2 : Int → Int), (bx : Int), (mx : Int)) dX0_weigh_92 (show (bx, mx) = (if cntS iyf mkf cn 0 3600 = 0 then (-6, -6) else askS iyf mkf cn 61) from (by rw [if_neg h19]; have h9 : (bx, mx) = askS iyf mkf cn (y + 1).toNat := (by rw [← ask_s h0.1 hs]; rw [if_neg (by omega)]); have h8 := ask_stop (by omega) h89 (61 - (y + 1).toNat) (y + 1).toNat h9; rwa [show (y + 1).toNat + (61 - (y + 1).toNat) = 61 by omega] at h8)) hz
          ·
            refine lv_aload_n hx hb dX0_weigh_72 rfl (lv_at hl 4 rfl) ?_
            refine lv_iload hx hb dX0_weigh_73 (lv_at hl 0 rfl) ?_
            refine z_put (C := RX0) (T := TX0) (N := 3) (ref := "HornCity$Asking") (ty := .int) hx hb hts hin_X0_weigh_X0 hown hK hz tyX0 tyX0_ok nmX0 0 rfl rfl 2 (by decide) (hts _ fl_X0_weigh_19) rfl rfl (by decide +kernel) rfl rfl (Nat.le_of_ble_eq_true rfl) dX0_weigh_75 (fun H locs hz => ?_)
            have hz : zH D (zF ws0) H0 [(as, .inr (0, [.ref al, .int (zI bx), .int (zI (mosS iyf mkf cn y 3600))])), (al, .inl (cI, 180, .inl (zA al1_2))), (ch, .inr (1, [.ref iy, .ref mk, .int (zI cn)])), (iy, .inl (cI, 8, .inl (zA iyf))), (mk, .inl (cI, 8, .inl (zA mkf)))] H locs := hz
            refine lv_aload_n hx hb dX0_weigh_78 rfl (lv_at hl 4 rfl) ?_
            refine lv_iload hx hb dX0_weigh_79 (lv_at hl 1 rfl) ?_
            refine z_put (C := RX0) (T := TX0) (N := 3) (ref := "HornCity$Asking") (ty := .int) hx hb hts hin_X0_weigh_X0 hown hK hz tyX0 tyX0_ok nmX0 0 rfl rfl 1 (by decide) (hts _ fl_X0_weigh_15) rfl rfl (by decide +kernel) rfl rfl (Nat.le_of_ble_eq_true rfl) dX0_weigh_81 (fun H locs hz => ?_)
            have hz : zH D (zF ws0) H0 [(as, .inr (0, [.ref al, .int (zI y), .int (zI (mosS iyf mkf cn y 3600))])), (al, .inl (cI, 180, .inl (zA al1_2))), (ch, .inr (1, [.ref iy, .ref mk, .int (zI cn)])), (iy, .inl (cI, 8, .inl (zA iyf))), (mk, .inl (cI, 8, .inl (zA mkf)))] H locs := hz
            refine lv_aload_n hx hb dX0_weigh_84 rfl (lv_at hl 4 rfl) ?_
            refine z_get (C := RX0) (T := TX0) (N := 3) (ref := "HornCity$Asking") hx hb hts hin_X0_weigh_X0 hown hK hz 0 rfl rfl 2 (by decide) (hts _ fl_X0_weigh_19) rfl rfl dX0_weigh_85 ?_
            refine lv_iload_n hx hb dX0_weigh_88 rfl (lv_at hl 2 rfl) ?_
            refine z_icmp_ne (tgt := 93) hx hb dX0_weigh_89 (by decide) (by omega) (by omega) (fun h89 => ?_) (fun h89 => ?_)
            ·
              refine z_iinc (lv' := [(4, .int (zI (y + 1))), (5, .int (zI (mosS iyf mkf cn y 3600))), (3, .int (zI ((((cntS iyf mkf cn 0 3600) + 180) - 1) / 180))), (2, .int (zI (cntS iyf mkf cn 0 3600))), (0, .ref as), (1, .ref ch)]) hx hb dX0_weigh_93 hl (k := 1) rfl (Nat.le_of_ble_eq_true rfl) rfl (fun ls hl => ?_)
              refine lv_goto (tgt := 38) hx hb dX0_weigh_96 (by decide) ?_
              exact ih38 _ (by omega) (y + 1) y (mosS iyf mkf cn y 3600) al1_2 H locs ls rfl (by omega) (by omega) (by rw [← ask_s h0.1 hs]; rw [if_pos (by omega)]) hz (lv_sub hl [0, 2, 3, 4, 5] rfl)
            ·
              exact hret ((al1_2 : Int → Int), (y : Int), ((mosS iyf mkf cn y 3600) : Int)) dX0_weigh_92 (show (y, (mosS iyf mkf cn y 3600)) = (if cntS iyf mkf cn 0 3600 = 0 then (-6, -6) else askS iyf mkf cn 61) from (by rw [if_neg h19]; have h9 : (y, mosS iyf mkf cn y 3600) = askS iyf mkf cn (y + 1).toNat := (by rw [← ask_s h0.1 hs]; rw [if_pos (by omega)]); have h8 := ask_stop (by omega) h89 (61 - (y + 1).toNat) (y + 1).toNat h9; rwa [show (y + 1).toNat + (61 - (y + 1).toNat) = 61 by omega] at h8)) hz
    exact L38 _ 0 (-6) (-6) alf H locs ls rfl (by decide) (by decide) (rfl) hz (lv_sub hl [0, 1, 2, 3, 4] rfl)
  ·
    exact hret ((alf : Int → Int), ((-6) : Int), ((-6) : Int)) dX0_weigh_22 (show ((-6), (-6)) = (if cntS iyf mkf cn 0 3600 = 0 then (-6, -6) else askS iyf mkf cn 61) from (by rw [if_pos h19])) hz

set_option maxRecDepth 20000 in
theorem hin_X6_isLost_X6 : ∀ w ∈ u_ws RX6 TX6 1, w ∈ wsX6_isLost := by decide +kernel
set_option maxRecDepth 20000 in
theorem fl_X6_isLost_9 : Cond.fieldLink RX6 9 "HornCity$Taking" "wins" "[Z" ∈ wsX6_isLost := by decide +kernel
set_option maxHeartbeats 4000000 in
set_option maxRecDepth 100000 in
theorem c_X6_isLost (l : Launch) (D : va_G) (cI cJ cZ : ClassId) (tk wn : Nat) (wnf : Int → Int) (lf : Int) (hbw : zBd wnf 180 0 1) (hlf : -1000 ≤ lf ∧ lf < 180) : zMp l yX6_isLost wsX6_isLost (zRm 0) D cI cJ cZ [.ref tk, .int (zI lf)] [(tk, .inr (4, [.ref wn])), (wn, .inl (cZ, 180, .inl (zA wnf)))] (some (.int (zI (if (0 ≤ lf ∧ wnf lf = 0) then 1 else 0)))) := by
  refine zMp_z (cc := cX6_isLost) (maxL := 2) (by decide +kernel) rfl (Nat.le_of_ble_eq_true rfl) rfl ?_
  intro p e s m args below meth c Q H ls F hK hz hl hret
  obtain ⟨hx, hb, hml, hown0, hts⟩ := id F
  have hown : s.vm.findClass RX6 = some m.cls := hown0
  obtain ⟨ws0, hw0⟩ : ∃ w : va_W, w = [(tk, .inr (4, [.ref wn])), (wn, .inl (cZ, 180, .inl (zA wnf)))] := ⟨_, rfl⟩
  have hz : zH D (zF ws0) H [(tk, .inr (4, [.ref wn])), (wn, .inl (cZ, 180, .inl (zA wnf)))] H [] := by rw [hw0]; exact hz
  have hl : lv_has ls 2 [(0, .ref tk), (1, .int (zI lf))] := hl
  refine lv_iload_n hx hb dX6_isLost_0 rfl (lv_at hl 1 rfl) ?_
  refine z_if_lt (tgt := 24) hx hb dX6_isLost_1 (by decide) (by omega) (fun h1 => ?_) (fun h1 => ?_)
  ·
    refine z_iconst hx hb dX6_isLost_24 ?_
    exact hret dX6_isLost_25 (by first | decide | omega | (split <;> decide)) (congrArg (fun z => some (Value.int (zI z))) (show (0 : Int) = (if (0 ≤ lf ∧ wnf lf = 0) then 1 else 0) by first | rw [if_neg (by omega)] | rw [if_pos (by omega)]))
  ·
    refine lv_iload_n hx hb dX6_isLost_4 rfl (lv_at hl 1 rfl) ?_
    refine z_sipush hx hb dX6_isLost_5 (by decide) ?_
    refine z_icmp_ge (tgt := 24) hx hb dX6_isLost_8 (by decide) (by omega) (by decide) (fun h8 => ?_) (fun h8 => ?_)
    ·
      refine z_iconst hx hb dX6_isLost_24 ?_
      exact hret dX6_isLost_25 (by first | decide | omega | (split <;> decide)) (congrArg (fun z => some (Value.int (zI z))) (show (0 : Int) = (if (0 ≤ lf ∧ wnf lf = 0) then 1 else 0) by first | rw [if_neg (by omega)] | rw [if_pos (by omega)]))
    ·
      refine lv_aload_n hx hb dX6_isLost_11 rfl (lv_at hl 0 rfl) ?_
      refine z_get (C := RX6) (T := TX6) (N := 1) (ref := "HornCity$Taking") hx hb hts hin_X6_isLost_X6 hown hK hz 0 rfl rfl 0 (by decide) (hts _ fl_X6_isLost_9) rfl rfl dX6_isLost_12 ?_
      refine lv_iload_n hx hb dX6_isLost_15 rfl (lv_at hl 1 rfl) ?_
      refine z_zald hx hb hK hz 1 rfl (by omega) (by decide) dX6_isLost_16 ?_
      have hv16 := (hbw).ax lf (by omega)
      refine z_if_ne (tgt := 24) hx hb dX6_isLost_17 (by decide) (by omega) (fun h17 => ?_) (fun h17 => ?_)
      ·
        refine z_iconst hx hb dX6_isLost_24 ?_
        exact hret dX6_isLost_25 (by first | decide | omega | (split <;> decide)) (congrArg (fun z => some (Value.int (zI z))) (show (0 : Int) = (if (0 ≤ lf ∧ wnf lf = 0) then 1 else 0) by first | rw [if_neg (by omega)] | rw [if_pos (by omega)]))
      ·
        refine z_iconst hx hb dX6_isLost_20 ?_
        refine lv_goto (tgt := 25) hx hb dX6_isLost_21 (by decide) ?_
        exact hret dX6_isLost_25 (by first | decide | omega | (split <;> decide)) (congrArg (fun z => some (Value.int (zI z))) (show (1 : Int) = (if (0 ≤ lf ∧ wnf lf = 0) then 1 else 0) by first | rw [if_neg (by omega)] | rw [if_pos (by omega)]))

set_option maxHeartbeats 4000000 in
set_option maxRecDepth 100000 in
theorem c_X6_winningTake (l : Launch) (D : va_G) (cI cJ cZ : ClassId) (tk wn : Nat) (wnf : Int → Int) (lf : Int) (hbw : zBd wnf 180 0 1) (hlf : -1000 ≤ lf ∧ lf < 180) : zMp l yX6_winningTake wsX6_winningTake (zRm 1) D cI cJ cZ [.ref tk, .int (zI lf)] [(tk, .inr (4, [.ref wn])), (wn, .inl (cZ, 180, .inl (zA wnf)))] (some (.int (zI (fstT wnf lf)))) := by
  refine zMp_i (cc := cX6_winningTake) (maxL := 4) (by decide +kernel) rfl (Nat.le_of_ble_eq_true rfl) rfl ?_
  intro p e s m args below meth c Q H ls F hK hz hl hret
  obtain ⟨hx, hb, hml, hown0, hts⟩ := id F
  have hown : s.vm.findClass RX6 = some m.cls := hown0
  obtain ⟨ws0, hw0⟩ : ∃ w : va_W, w = [(tk, .inr (4, [.ref wn])), (wn, .inl (cZ, 180, .inl (zA wnf)))] := ⟨_, rfl⟩
  have hz : zH D (zF ws0) H [(tk, .inr (4, [.ref wn])), (wn, .inl (cZ, 180, .inl (zA wnf)))] H [] := by rw [hw0]; exact hz
  have hl : lv_has ls 4 [(0, .ref tk), (1, .int (zI lf))] := hl
  refine lv_iload_n hx hb dX6_winningTake_0 rfl (lv_at hl 1 rfl) ?_
  refine z_if_gt (tgt := 7) hx hb dX6_winningTake_1 (by decide) (by omega) (fun h1 => ?_) (fun h1 => ?_)
  ·
    refine lv_aload_n hx hb dX6_winningTake_7 rfl (lv_at hl 0 rfl) ?_
    refine lv_iload_n hx hb dX6_winningTake_8 rfl (lv_at hl 1 rfl) ?_
    refine z_iconst hx hb dX6_winningTake_9 ?_
    refine z_isub hx hb dX6_winningTake_10 ?_
    refine z_callVp (As := [.int (zI (lf - 1))]) (rest := []) (C := RX6) (T := TX6) (N := 1) F hK hz hl (c_X6_isLost l D cI cJ cZ tk wn wnf (lf - 1) (hbw) (by omega)) (cwV 1 hts gX6_winningTake_X6_isLost rfl rfl rfl (by decide +kernel) ⟨Nat.le_of_ble_eq_true rfl, Nat.le_of_ble_eq_true rfl⟩) rfl 0 rfl [0, 1] rfl rfl rfl rfl (Nat.le_of_ble_eq_true rfl) ⟨Nat.le_of_ble_eq_true rfl, Nat.le_of_ble_eq_true rfl⟩ dX6_winningTake_11 ?_
    refine z_ifb_eq (tgt := 19) hx hb dX6_winningTake_14 (by decide) (fun h14 => ?_) (fun h14 => ?_)
    ·
      refine z_iconst hx hb dX6_winningTake_19 ?_
      refine lv_iload_n hx hb dX6_winningTake_20 rfl (lv_at hl 1 rfl) ?_
      refine z_iconst hx hb dX6_winningTake_21 ?_
      refine z_idiv hx hb dX6_winningTake_22 (by omega) (by omega) ?_
      refine z_mmax hx hb hl.1 hml hown (hts (.methodLink RX6 23 Lib.Math.max.name) (by decide +kernel)) (hts (.static Lib.Math.max.name) (by decide +kernel)) (hts (.initialized "java/lang/Math") (by decide +kernel)) (hts (.code Lib.Math.max.name Lib.Math.max.code 2 (some .int)) (by decide +kernel)) (Nat.le_of_ble_eq_true rfl) (Nat.le_of_ble_eq_true rfl) ⟨Nat.le_of_ble_eq_true rfl, Nat.le_of_ble_eq_true rfl⟩ (by decide) (by omega) dX6_winningTake_23 ?_
      refine lv_istore_n (lv' := [(2, .int (zI (max 1 (lf / 3)))), (0, .ref tk), (1, .int (zI lf))]) hx hb dX6_winningTake_26 rfl hl (Nat.le_of_ble_eq_true rfl) rfl (fun ls hl => ?_)
      refine lv_aload_n hx hb dX6_winningTake_27 rfl (lv_at hl 1 rfl) ?_
      refine lv_iload_n hx hb dX6_winningTake_28 rfl (lv_at hl 2 rfl) ?_
      refine lv_iload_n hx hb dX6_winningTake_29 rfl (lv_at hl 0 rfl) ?_
      refine z_isub hx hb dX6_winningTake_30 ?_
      refine z_callVp (As := [.int (zI (lf - (max 1 (lf / 3))))]) (rest := []) (C := RX6) (T := TX6) (N := 1) F hK hz hl (c_X6_isLost l D cI cJ cZ tk wn wnf (lf - (max 1 (lf / 3))) (hbw) (by omega)) (cwV 1 hts gX6_winningTake_X6_isLost rfl rfl rfl (by decide +kernel) ⟨Nat.le_of_ble_eq_true rfl, Nat.le_of_ble_eq_true rfl⟩) rfl 0 rfl [0, 1] rfl rfl rfl rfl (Nat.le_of_ble_eq_true rfl) ⟨Nat.le_of_ble_eq_true rfl, Nat.le_of_ble_eq_true rfl⟩ dX6_winningTake_31 ?_
      refine z_ifb_eq (tgt := 39) hx hb dX6_winningTake_34 (by decide) (fun h34 => ?_) (fun h34 => ?_)
      ·
        refine z_iconst hx hb dX6_winningTake_39 ?_
        refine lv_iload_n hx hb dX6_winningTake_40 rfl (lv_at hl 2 rfl) ?_
        refine z_iconst hx hb dX6_winningTake_41 ?_
        refine z_idiv hx hb dX6_winningTake_42 (by omega) (by omega) ?_
        refine z_mmax hx hb hl.1 hml hown (hts (.methodLink RX6 23 Lib.Math.max.name) (by decide +kernel)) (hts (.static Lib.Math.max.name) (by decide +kernel)) (hts (.initialized "java/lang/Math") (by decide +kernel)) (hts (.code Lib.Math.max.name Lib.Math.max.code 2 (some .int)) (by decide +kernel)) (Nat.le_of_ble_eq_true rfl) (Nat.le_of_ble_eq_true rfl) ⟨Nat.le_of_ble_eq_true rfl, Nat.le_of_ble_eq_true rfl⟩ (by decide) (by omega) dX6_winningTake_43 ?_
        refine lv_istore_n (lv' := [(3, .int (zI (max 1 (lf / 2)))), (2, .int (zI (max 1 (lf / 3)))), (0, .ref tk), (1, .int (zI lf))]) hx hb dX6_winningTake_46 rfl hl (Nat.le_of_ble_eq_true rfl) rfl (fun ls hl => ?_)
        refine lv_aload_n hx hb dX6_winningTake_47 rfl (lv_at hl 2 rfl) ?_
        refine lv_iload_n hx hb dX6_winningTake_48 rfl (lv_at hl 3 rfl) ?_
        refine lv_iload_n hx hb dX6_winningTake_49 rfl (lv_at hl 0 rfl) ?_
        refine z_isub hx hb dX6_winningTake_50 ?_
        refine z_callVp (As := [.int (zI (lf - (max 1 (lf / 2))))]) (rest := []) (C := RX6) (T := TX6) (N := 1) F hK hz hl (c_X6_isLost l D cI cJ cZ tk wn wnf (lf - (max 1 (lf / 2))) (hbw) (by omega)) (cwV 1 hts gX6_winningTake_X6_isLost rfl rfl rfl (by decide +kernel) ⟨Nat.le_of_ble_eq_true rfl, Nat.le_of_ble_eq_true rfl⟩) rfl 0 rfl [0, 1] rfl rfl rfl rfl (Nat.le_of_ble_eq_true rfl) ⟨Nat.le_of_ble_eq_true rfl, Nat.le_of_ble_eq_true rfl⟩ dX6_winningTake_51 ?_
        refine z_ifb_eq (tgt := 61) hx hb dX6_winningTake_54 (by decide) (fun h54 => ?_) (fun h54 => ?_)
        ·
          refine z_bipush hx hb dX6_winningTake_61 (by decide) ?_
          exact hret dX6_winningTake_63 (congrArg (fun z => some (Value.int (zI z))) (show ((-6) : Int) = (fstT wnf lf) by unfold fstT; rw [if_neg (by omega), if_neg (by omega), if_neg (by omega), if_neg (by omega)]))
        ·
          refine lv_iload_n hx hb dX6_winningTake_57 rfl (lv_at hl 0 rfl) ?_
          refine lv_goto (tgt := 63) hx hb dX6_winningTake_58 (by decide) ?_
          exact hret dX6_winningTake_63 (congrArg (fun z => some (Value.int (zI z))) (show ((max 1 (lf / 2)) : Int) = (fstT wnf lf) by unfold fstT; rw [if_neg (by omega), if_neg (by omega), if_neg (by omega), if_pos (by omega)]))
      ·
        refine lv_iload_n hx hb dX6_winningTake_37 rfl (lv_at hl 0 rfl) ?_
        exact hret dX6_winningTake_38 (congrArg (fun z => some (Value.int (zI z))) (show ((max 1 (lf / 3)) : Int) = (fstT wnf lf) by unfold fstT; rw [if_neg (by omega), if_neg (by omega), if_pos (by omega)]))
    ·
      refine z_iconst hx hb dX6_winningTake_17 ?_
      exact hret dX6_winningTake_18 (congrArg (fun z => some (Value.int (zI z))) (show (1 : Int) = (fstT wnf lf) by unfold fstT; rw [if_neg (by omega), if_pos (by omega)]))
  ·
    refine z_bipush hx hb dX6_winningTake_4 (by decide) ?_
    exact hret dX6_winningTake_6 (congrArg (fun z => some (Value.int (zI z))) (show ((-6) : Int) = (fstT wnf lf) by unfold fstT; rw [if_pos (by omega)]))

set_option maxRecDepth 20000 in
theorem hin_X6_firstOf_X6 : ∀ w ∈ u_ws RX6 TX6 1, w ∈ wsX6_firstOf := by decide +kernel
set_option maxRecDepth 20000 in
theorem fl_X6_firstOf_9 : Cond.fieldLink RX6 9 "HornCity$Taking" "wins" "[Z" ∈ wsX6_firstOf := by decide +kernel
set_option maxHeartbeats 4000000 in
set_option maxRecDepth 100000 in
theorem c_X6_firstOf (l : Launch) (D : va_G) (cI cJ cZ : ClassId) (tk wn : Nat) (wnf : Int → Int) (dg : Int) (hbw : zBd wnf 180 0 1) (hwz : wnf 0 = 0) (hdg : 0 ≤ dg ∧ dg < 180) : zMw l yX6_firstOf wsX6_firstOf (zRm 2) D cI cJ cZ [.ref tk, .int (zI dg)] [(tk, .inr (4, [.ref wn])), (wn, .inl (cZ, 180, .inl (zA wnf)))] (S := Int × (Int → Int)) (fun u => u.1 = winS dg ∧ (zBd u.2 180 0 1 ∧ u.2 0 = 0)) (fun u => some (.int (zI u.1))) (fun u => [(tk, .inr (4, [.ref wn])), (wn, .inl (cZ, 180, .inl (zA u.2)))]) := by
  refine zMw_i (cc := cX6_firstOf) (maxL := 3) (by decide +kernel) rfl (Nat.le_of_ble_eq_true rfl) rfl (fun _ => rfl) ?_
  intro p e s m args below meth c Q H0 ls F hK hz hl hret
  obtain ⟨hx, hb, hml, hown0, hts⟩ := id F
  have hown : s.vm.findClass RX6 = some m.cls := hown0
  obtain ⟨ws0, hw0⟩ : ∃ w : va_W, w = [(tk, .inr (4, [.ref wn])), (wn, .inl (cZ, 180, .inl (zA wnf)))] := ⟨_, rfl⟩
  rw [← hw0] at hret
  have hz : zH D (zF ws0) H0 [(tk, .inr (4, [.ref wn])), (wn, .inl (cZ, 180, .inl (zA wnf)))] H0 [] := by rw [hw0]; exact hz
  have hl : lv_has ls 3 [(0, .ref tk), (1, .int (zI dg))] := hl
  refine z_iconst hx hb dX6_firstOf_0 ?_
  refine lv_istore_n (lv' := [(2, .int (zI 1)), (0, .ref tk), (1, .int (zI dg))]) hx hb dX6_firstOf_1 rfl hl (Nat.le_of_ble_eq_true rfl) rfl (fun ls hl => ?_)
  have L2 : ∀ (n : Nat) (lf : Int) (wx : Int → Int) (H : Heap) (locs : List Loc) (ls : Array Slot), ((180 - lf).toNat = n) → (1 ≤ lf ∧ (lf ≤ dg ∨ lf = 1)) → (zBd wx 180 0 1) → (wx 0 = 0) → (okT wx lf) → zH D (zF ws0) H0 [(tk, .inr (4, [.ref wn])), (wn, .inl (cZ, 180, .inl (zA wx)))] H locs → lv_has ls 3 [(2, .int (zI lf)), (0, .ref tk), (1, .int (zI dg))] → W p l e (zRm 2) s m args below meth c H locs 0 0 Q (F0 m 2 ls []) := by
    intro n
    refine Nat.strongRecOn n ?_
    intro n ih2 lf wx H locs ls hn2 h0 hbx hx0 hok hz hl
    refine lv_iload_n hx hb dX6_firstOf_2 rfl (lv_at hl 0 rfl) ?_
    refine lv_iload_n hx hb dX6_firstOf_3 rfl (lv_at hl 2 rfl) ?_
    refine z_icmp_ge (tgt := 41) hx hb dX6_firstOf_4 (by decide) (by omega) (by omega) (fun h4 => ?_) (fun h4 => ?_)
    ·
      refine lv_aload_n hx hb dX6_firstOf_41 rfl (lv_at hl 1 rfl) ?_
      refine lv_iload_n hx hb dX6_firstOf_42 rfl (lv_at hl 2 rfl) ?_
      refine z_callVp (As := [.int (zI dg)]) (rest := []) (C := RX6) (T := TX6) (N := 1) F hK hz hl (c_X6_winningTake l D cI cJ cZ tk wn wx dg (hbx) (by omega)) (cwV 1 hts gX6_firstOf_X6_winningTake rfl rfl rfl (by decide +kernel) ⟨Nat.le_of_ble_eq_true rfl, Nat.le_of_ble_eq_true rfl⟩) rfl 0 rfl [0, 1] rfl rfl rfl rfl (Nat.le_of_ble_eq_true rfl) ⟨Nat.le_of_ble_eq_true rfl, Nat.le_of_ble_eq_true rfl⟩ dX6_firstOf_43 ?_
      exact hret (((fstT wx dg) : Int), (wx : Int → Int)) dX6_firstOf_46 (show (fstT wx dg) = winS dg ∧ (zBd wx 180 0 1 ∧ wx 0 = 0) from ⟨by rw [← okT_fst (fun j h1 h2 => hok j h1 (by omega))], hbx, hx0⟩) hz
    ·
      refine lv_iload_n hx hb dX6_firstOf_7 rfl (lv_at hl 0 rfl) ?_
      refine z_sipush hx hb dX6_firstOf_8 (by decide) ?_
      refine z_icmp_ge (tgt := 41) hx hb dX6_firstOf_11 (by decide) (by omega) (by decide) (fun h11 => ?_) (fun h11 => ?_)
      ·
        refine lv_aload_n hx hb dX6_firstOf_41 rfl (lv_at hl 1 rfl) ?_
        refine lv_iload_n hx hb dX6_firstOf_42 rfl (lv_at hl 2 rfl) ?_
        refine z_callVp (As := [.int (zI dg)]) (rest := []) (C := RX6) (T := TX6) (N := 1) F hK hz hl (c_X6_winningTake l D cI cJ cZ tk wn wx dg (hbx) (by omega)) (cwV 1 hts gX6_firstOf_X6_winningTake rfl rfl rfl (by decide +kernel) ⟨Nat.le_of_ble_eq_true rfl, Nat.le_of_ble_eq_true rfl⟩) rfl 0 rfl [0, 1] rfl rfl rfl rfl (Nat.le_of_ble_eq_true rfl) ⟨Nat.le_of_ble_eq_true rfl, Nat.le_of_ble_eq_true rfl⟩ dX6_firstOf_43 ?_
        exact hret (((fstT wx dg) : Int), (wx : Int → Int)) dX6_firstOf_46 (show (fstT wx dg) = winS dg ∧ (zBd wx 180 0 1 ∧ wx 0 = 0) from ⟨by rw [← okT_fst (fun j h1 h2 => hok j h1 (by omega))], hbx, hx0⟩) hz
      ·
        refine lv_aload_n hx hb dX6_firstOf_14 rfl (lv_at hl 1 rfl) ?_
        refine z_get (C := RX6) (T := TX6) (N := 1) (ref := "HornCity$Taking") hx hb hts hin_X6_firstOf_X6 hown hK hz 0 rfl rfl 0 (by decide) (hts _ fl_X6_firstOf_9) rfl rfl dX6_firstOf_15 ?_
        refine lv_iload_n hx hb dX6_firstOf_18 rfl (lv_at hl 0 rfl) ?_
        refine lv_aload_n hx hb dX6_firstOf_19 rfl (lv_at hl 1 rfl) ?_
        refine lv_iload_n hx hb dX6_firstOf_20 rfl (lv_at hl 0 rfl) ?_
        refine z_callVp (As := [.int (zI lf)]) (rest := [.int (zI lf), .ref wn]) (C := RX6) (T := TX6) (N := 1) F hK hz hl (c_X6_winningTake l D cI cJ cZ tk wn wx lf (hbx) (by omega)) (cwV 1 hts gX6_firstOf_X6_winningTake rfl rfl rfl (by decide +kernel) ⟨Nat.le_of_ble_eq_true rfl, Nat.le_of_ble_eq_true rfl⟩) rfl 0 rfl [0, 1] rfl rfl rfl rfl (Nat.le_of_ble_eq_true rfl) ⟨Nat.le_of_ble_eq_true rfl, Nat.le_of_ble_eq_true rfl⟩ dX6_firstOf_21 ?_
        have hfb := fstT_bd wx lf (by omega)
        refine z_bipush hx hb dX6_firstOf_24 (by decide) ?_
        refine z_icmp_eq (tgt := 33) hx hb dX6_firstOf_26 (by decide) (by omega) (by decide) (fun h26 => ?_) (fun h26 => ?_)
        ·
          refine z_iconst hx hb dX6_firstOf_33 ?_
          refine z_zast hx hb hK hz 1 rfl (by omega) (by decide) (by first | decide | omega | (split <;> decide)) dX6_firstOf_34 (fun H locs hz => ?_)
          have hz : zH D (zF ws0) H0 [(tk, .inr (4, [.ref wn])), (wn, .inl (cZ, 180, .inl (zA (zU wx lf 0))))] H locs := hz
          refine z_iinc (lv' := [(2, .int (zI (lf + 1))), (0, .ref tk), (1, .int (zI dg))]) hx hb dX6_firstOf_35 hl (k := 0) rfl (Nat.le_of_ble_eq_true rfl) rfl (fun ls hl => ?_)
          refine lv_goto (tgt := 2) hx hb dX6_firstOf_38 (by decide) ?_
          exact ih2 _ (by omega) (lf + 1) (zU wx lf 0) H locs ls rfl (by omega) (hbx.up (by decide)) (by rw [zU_ne (by omega)]; exact hx0) (okT_s hok (by omega) (by rw [← okT_fst hok]; rw [if_pos h26])) hz (lv_sub hl [0, 1, 2] rfl)
        ·
          refine z_iconst hx hb dX6_firstOf_29 ?_
          refine lv_goto (tgt := 34) hx hb dX6_firstOf_30 (by decide) ?_
          refine z_zast hx hb hK hz 1 rfl (by omega) (by decide) (by first | decide | omega | (split <;> decide)) dX6_firstOf_34 (fun H locs hz => ?_)
          have hz : zH D (zF ws0) H0 [(tk, .inr (4, [.ref wn])), (wn, .inl (cZ, 180, .inl (zA (zU wx lf 1))))] H locs := hz
          refine z_iinc (lv' := [(2, .int (zI (lf + 1))), (0, .ref tk), (1, .int (zI dg))]) hx hb dX6_firstOf_35 hl (k := 0) rfl (Nat.le_of_ble_eq_true rfl) rfl (fun ls hl => ?_)
          refine lv_goto (tgt := 2) hx hb dX6_firstOf_38 (by decide) ?_
          exact ih2 _ (by omega) (lf + 1) (zU wx lf 1) H locs ls rfl (by omega) (hbx.up (by decide)) (by rw [zU_ne (by omega)]; exact hx0) (okT_s hok (by omega) (by rw [← okT_fst hok]; rw [if_neg h26])) hz (lv_sub hl [0, 1, 2] rfl)
  exact L2 _ 1 wnf H0 [] ls rfl (by omega) (hbw) (hwz) (fun j h1 h2 => by rw [show j = 0 by omega, hwz, tab_0]) hz (lv_sub hl [0, 1, 2] rfl)
