def nwS (inc mat kd : Int → Int) (tm yr : Int) : Int → Int := fun j => if j < 9 then inc j else if j < 18 then mat (j - 9) else if j < 27 then kd (j - 18) else if j = 27 then tm else yr
theorem nwS_27 {inc mat kd : Int → Int} {tm yr : Int} : nwS inc mat kd tm yr 27 = tm := rfl
theorem nwS_28 {inc mat kd : Int → Int} {tm yr : Int} : nwS inc mat kd tm yr 28 = yr := rfl
theorem nwS_i {inc mat kd : Int → Int} {tm yr k : Int} (h : 0 ≤ k ∧ k < 9) : nwS inc mat kd tm yr k = inc k := if_pos h.2
theorem nwS_m {inc mat kd : Int → Int} {tm yr k : Int} (h : 0 ≤ k ∧ k < 9) : nwS inc mat kd tm yr (9 + k) = mat k := by
  unfold nwS; rw [if_neg (by omega), if_pos (by omega)]; congr 1; omega
theorem nwS_k {inc mat kd : Int → Int} {tm yr k : Int} (h : 0 ≤ k ∧ k < 9) : nwS inc mat kd tm yr (18 + k) = kd k := by
  unfold nwS; rw [if_neg (by omega), if_neg (by omega), if_pos (by omega)]; congr 1; omega
theorem nwS_u27 {inc mat kd : Int → Int} {tm yr v : Int} : zU (nwS inc mat kd tm yr) 27 v = nwS inc mat kd v yr := by
  funext j; unfold zU nwS
  by_cases h : j = 27
  · subst h; rfl
  · rw [if_neg h]; simp only [h, if_false]
theorem nwS_u28 {inc mat kd : Int → Int} {tm yr v : Int} : ∀ j : Int, 0 ≤ j → j < 29 → zU (nwS inc mat kd tm yr) 28 v j = nwS inc mat kd tm v j := by
  intro j h0 h1; unfold zU nwS
  by_cases h : j = 28
  · subst h; rfl
  · rw [if_neg h]
    by_cases h2 : j < 27
    · simp only [h2, if_true]
    · have e : j = 27 := by omega
      subst e; rfl
theorem nwS_ui {inc mat kd : Int → Int} {tm yr k v : Int} (h : 0 ≤ k ∧ k < 9) : zU (nwS inc mat kd tm yr) k v = nwS (zU inc k v) mat kd tm yr := by
  funext j
  by_cases hj : j = k
  · rw [hj, zU_same, nwS_i h, zU_same]
  · rw [zU_ne hj]; unfold nwS
    by_cases h2 : j < 9
    · rw [if_pos h2, if_pos h2, zU_ne hj]
    · rw [if_neg h2, if_neg h2]
theorem nwS_um {inc mat kd : Int → Int} {tm yr k v : Int} (h : 0 ≤ k ∧ k < 9) : zU (nwS inc mat kd tm yr) (9 + k) v = nwS inc (zU mat k v) kd tm yr := by
  funext j
  by_cases hj : j = 9 + k
  · rw [hj, zU_same, nwS_m h, zU_same]
  · rw [zU_ne hj]; unfold nwS
    by_cases h2 : j < 9
    · rw [if_pos h2, if_pos h2]
    · rw [if_neg h2, if_neg h2]
      by_cases h3 : j < 18
      · rw [if_pos h3, if_pos h3, zU_ne (by omega)]
      · rw [if_neg h3, if_neg h3]
theorem nwS_uk {inc mat kd : Int → Int} {tm yr k v : Int} (h : 0 ≤ k ∧ k < 9) : zU (nwS inc mat kd tm yr) (18 + k) v = nwS inc mat (zU kd k v) tm yr := by
  funext j
  by_cases hj : j = 18 + k
  · rw [hj, zU_same, nwS_k h, zU_same]
  · rw [zU_ne hj]; unfold nwS
    by_cases h2 : j < 9
    · rw [if_pos h2, if_pos h2]
    · rw [if_neg h2, if_neg h2]
      by_cases h3 : j < 18
      · rw [if_pos h3, if_pos h3]
      · rw [if_neg h3, if_neg h3]
        by_cases h4 : j < 27
        · rw [if_pos h4, if_pos h4, zU_ne (by omega)]
        · rw [if_neg h4, if_neg h4]
def chS (iy mk : Int → Int) : Int → Int := fun j => if j % 2 = 0 then iy (j / 2) else mk (j / 2)
theorem chS_y {iy mk : Int → Int} {i : Int} : chS iy mk (2 * i) = iy i := by
  unfold chS; rw [if_pos (by omega)]; congr 1; omega
theorem chS_c {iy mk : Int → Int} {i : Int} : chS iy mk (2 * i + 1) = mk i := by
  unfold chS; rw [if_neg (by omega)]; congr 1; omega
theorem chS_uy {iy mk : Int → Int} {i v : Int} : zU (chS iy mk) (2 * i) v = chS (zU iy i v) mk := by
  funext j
  by_cases hj : j = 2 * i
  · rw [hj, zU_same, chS_y, zU_same]
  · rw [zU_ne hj]; unfold chS
    by_cases h2 : j % 2 = 0
    · rw [if_pos h2, if_pos h2, zU_ne (by omega)]
    · rw [if_neg h2, if_neg h2]
theorem chS_uc {iy mk : Int → Int} {i v : Int} : zU (chS iy mk) (2 * i + 1) v = chS iy (zU mk i v) := by
  funext j
  by_cases hj : j = 2 * i + 1
  · rw [hj, zU_same, chS_c, zU_same]
  · rw [zU_ne hj]; unfold chS
    by_cases h2 : j % 2 = 0
    · rw [if_pos h2, if_pos h2]
    · rw [if_neg h2, if_neg h2, zU_ne (by omega)]
/-- who sits by whom is in order -/
def mOk (T : Int) (mat : Int → Int) : Prop := ∀ k, 0 ≤ k → k < 9 → mat k = -6 ∨ (inS T k = true ∧ inS T (mat k) = true ∧ mat (mat k) = k ∧ ¬ mat k = k)
theorem mOk_bd {T : Int} {mat : Int → Int} (h : mOk T mat) : zBd mat 9 (-6) 8 := by
  intro j h0 h1
  rcases h j h0 h1 with h2 | h2
  · omega
  · have := inS.rng h2.2.1; omega
theorem mOk_neg {T : Int} {mat : Int → Int} (h : mOk T mat) {k : Int} (hk : 0 ≤ k ∧ k < 9) : mat k = -6 ∨ (0 ≤ mat k ∧ mat k < 9 ∧ inS T k = true ∧ inS T (mat k) = true ∧ mat (mat k) = k ∧ ¬ mat k = k) := by
  rcases h k hk.1 hk.2 with h2 | h2
  · exact Or.inl h2
  · have := inS.rng h2.2.1; exact Or.inr ⟨this.1, this.2, h2⟩
theorem mOk_sea {T : Int} {mat : Int → Int} (h : mOk T mat) {a b : Int} (ha : mat a = -6) (hb : mat b = -6) (hab : ¬ a = b) : mOk T (seaM T mat a b) := by
  unfold seaM
  by_cases hi : inS T a = true ∧ inS T b = true
  · rw [if_pos hi]
    have hra := inS.rng hi.1
    have hrb := inS.rng hi.2
    intro k h0 h1
    by_cases hkb : k = b
    · subst hkb
      refine Or.inr ?_
      rw [zU_same, zU_ne (by omega), zU_same]
      exact ⟨hi.2, hi.1, rfl, hab⟩
    · by_cases hka : k = a
      · subst hka
        refine Or.inr ?_
        rw [zU_ne hkb, zU_same, zU_same]
        exact ⟨hi.1, hi.2, rfl, by omega⟩
      · rw [zU_ne hkb, zU_ne hka]
        rcases h k h0 h1 with h2 | h2
        · exact Or.inl h2
        · refine Or.inr ⟨h2.1, h2.2.1, ?_, h2.2.2.2⟩
          have n1 : ¬ mat k = b := fun e => by have := h2.2.2.1; rw [e, hb] at this; omega
          have n2 : ¬ mat k = a := fun e => by have := h2.2.2.1; rw [e, ha] at this; omega
          rw [zU_ne n1, zU_ne n2]; exact h2.2.2.1
  · rw [if_neg hi]; exact h
theorem sepM_is {T : Int} {mat : Int → Int} (h : mOk T mat) {k : Int} (hk : inS T k = true) : sepM T mat k = if mat k = -6 then mat else zU (zU mat k (-6)) (mat k) (-6) := by
  have hr := inS.rng hk
  unfold sepM maO
  rw [if_pos hk]
  rcases h k hr.1 hr.2 with h2 | h2
  · rw [h2, if_neg (fun q => absurd (inS.rng q.2) (by omega)), if_pos rfl]
  · rw [if_pos ⟨hk, h2.2.1⟩, if_neg (by have := inS.rng h2.2.1; omega)]
theorem mOk_sep {T : Int} {mat : Int → Int} (h : mOk T mat) {a : Int} (ha : inS T a = true) : mOk T (sepM T mat a) := by
  rw [sepM_is h ha]
  by_cases h6 : mat a = -6
  · rw [if_pos h6]; exact h
  · rw [if_neg h6]
    have hra := inS.rng ha
    rcases h a hra.1 hra.2 with h7 | h7
    · exact absurd h7 h6
    · intro k h0 h1
      by_cases hkm : k = mat a
      · subst hkm; rw [zU_same]; exact Or.inl rfl
      · by_cases hka : k = a
        · subst hka; rw [zU_ne hkm, zU_same]; exact Or.inl rfl
        · rw [zU_ne hkm, zU_ne hka]
          rcases h k h0 h1 with h2 | h2
          · exact Or.inl h2
          · refine Or.inr ⟨h2.1, h2.2.1, ?_, h2.2.2.2⟩
            have n1 : ¬ mat k = mat a := fun e => by have h8 := h2.2.2.1; rw [e, h7.2.2.1] at h8; omega
            have n2 : ¬ mat k = a := fun e => by have h8 := h2.2.2.1; rw [e] at h8; omega
            rw [zU_ne n1, zU_ne n2]; exact h2.2.2.1
/-- pairs, as all who sit by one, by two -/
def pa2S (T : Int) (mat : Int → Int) : Int := sumZ (fun k => if inS T k = true ∧ 0 ≤ mat k then 1 else 0) 9 / 2
theorem cnt9_at {st k : Int} (h : 0 ≤ st) (hk : 0 ≤ k ∧ k < 9) : st / 2 ^ k.toNat % 2 = if inS st k = true then 1 else 0 := by
  by_cases hi : inS st k = true
  · rw [if_pos hi]; exact (inS_iff.mp hi).2
  · rw [if_neg hi]
    have : ¬ st / 2 ^ k.toNat % 2 = 1 := fun q => hi (inS_iff.mpr ⟨hk, q⟩)
    omega
theorem why38n {T : Int} {mat : Int → Int} {yr k x : Int} (h : ¬ inS T k = true ∨ ¬ inS T x = true) : whyS T mat yr 38 k x = 1 := by
  have e : inS T k = false ∨ ((38 : Int) = 38 ∧ inS T x = false) := by
    rcases h with h | h
    · exact Or.inl (Bool.eq_false_iff.mpr h)
    · exact Or.inr ⟨rfl, Bool.eq_false_iff.mpr h⟩
  unfold whyS
  rw [if_neg (by decide), if_pos e]
theorem why38 {T : Int} {mat : Int → Int} {yr k x : Int} (h : mOk T mat) (hk : inS T k = true) (hx : inS T x = true) : whyS T mat yr 38 k x = if k = x then 2 else if 0 ≤ mat k ∨ 0 ≤ mat x then 3 else 0 := by
  have h1 := mOk_neg h (inS.rng hk)
  have h2 := mOk_neg h (inS.rng hx)
  unfold whyS maO
  rw [if_neg (by decide), if_neg (by simp [hk, hx]), if_pos rfl, if_pos hk, if_pos hx]
  by_cases e : k = x
  · rw [if_pos e, if_pos e]
  · rw [if_neg e, if_neg e]
    by_cases h3 : mat k = -6 ∧ mat x = -6
    · rw [if_pos h3, if_neg (by omega)]
    · rw [if_neg h3, if_pos (by omega)]
theorem why47 {T : Int} {mat : Int → Int} {yr k w : Int} (h : mOk T mat) : whyS T mat yr 47 k w = if inS T k = true then (if 0 ≤ mat k then 0 else 3) else 1 := by
  unfold whyS maO
  rw [if_neg (by decide)]
  by_cases hk : inS T k = true
  · rw [if_neg (by simp [hk]), if_neg (by decide), if_pos hk, if_pos hk]
    rcases mOk_neg h (inS.rng hk) with h1 | h1
    · rw [if_pos ⟨rfl, h1⟩, if_neg (by omega)]
    · rw [if_neg (fun q => by omega), if_pos h1.1]
  · rw [if_pos (Or.inl (Bool.eq_false_iff.mpr hk)), if_neg hk]
theorem whyT {T : Int} {mat : Int → Int} {yr kind k w : Int} (h1 : ¬ kind = 46) (h2 : ¬ kind = 38) (h3 : ¬ kind = 47) : whyS T mat yr kind k w = if inS T k = true then 0 else 1 := by
  unfold whyS
  rw [if_neg h1]
  by_cases hk : inS T k = true
  · rw [if_neg (by simp [hk, h2]), if_neg h2, if_neg (fun q => h3 q.1), if_pos hk]
  · rw [if_pos (Or.inl (Bool.eq_false_iff.mpr hk)), if_neg hk]
theorem zU_cm {f : Int → Int} {a b v : Int} (h : ¬ a = b) : zU (zU f a v) b v = zU (zU f b v) a v := by
  funext j; unfold zU
  by_cases h1 : j = a
  · by_cases h2 : j = b
    · omega
    · rw [if_neg h2, if_pos h1, if_pos h1]
  · by_cases h2 : j = b
    · rw [if_pos h2, if_neg h1, if_pos h2]
    · rw [if_neg h2, if_neg h1, if_neg h1, if_neg h2]
def toS (mat inc : Int → Int) (k : Int) : Int := if mat k < 0 then 0 else (inc (mat k) - inc k) % 180
def nexS (dri mat inc : Int → Int) (k : Int) : Int := (inc k + dri k + (if toS mat inc k = 0 then 0 else if toS mat inc k ≤ 90 then 1 else -1)) % 180
theorem nexS_is {T : Int} {dri mat inc : Int → Int} (h : mOk T mat) {k : Int} (hk : inS T k = true) : nexS dri mat inc k = (inc k + dri k + drS T mat inc k) % 180 := by
  unfold nexS drS
  rcases mOk_neg h (inS.rng hk) with h1 | h1
  · have e : toS mat inc k = 0 := if_pos (by omega)
    rw [e, if_pos rfl, if_neg (fun q => absurd (inS.rng q.2) (by omega))]
  · have e : toS mat inc k = (inc (mat k) - inc k) % 180 := if_neg (by omega)
    rw [e, if_pos (show inS T k = true ∧ inS T (mat k) = true from ⟨hk, h1.2.2.2.1⟩)]
theorem nwS_cg {inc inc2 mat kd : Int → Int} {tm yr : Int} (h : ∀ q, 0 ≤ q → q < 9 → inc q = inc2 q) : ∀ j, 0 ≤ j → j < 29 → nwS inc mat kd tm yr j = nwS inc2 mat kd tm yr j := by
  intro j h0 h1; unfold nwS
  by_cases h2 : j < 9
  · rw [if_pos h2, if_pos h2]; exact h j h0 h2
  · rw [if_neg h2, if_neg h2]
theorem yeaN_self {T : Int} {dri mat inc : Int → Int} {k : Int} : zU (yeaN T dri mat inc k) k (inc k) = yeaN T dri mat inc k := by
  funext j; unfold zU yeaN
  by_cases h : j = k
  · rw [if_pos h, if_neg (by omega), h]
  · rw [if_neg h]

set_option maxHeartbeats 4000000 in
set_option maxRecDepth 100000 in
theorem c_X11_in (l : Launch) (D : va_G) (cI cJ cZ : ClassId) (number least most : Int) (hr : (-2147483648 ≤ number ∧ number ≤ 2147483647) ∧ (-2147483648 ≤ least ∧ least ≤ 2147483647) ∧ (-2147483648 ≤ most ∧ most ≤ 2147483647)) : zMp l yX11_in wsX11_in (zRm 0) D cI cJ cZ [.int (zI number), .int (zI least), .int (zI most)] [] (some (.int (zI (if (least ≤ number ∧ number ≤ most) then 1 else 0)))) := by
  refine zMp_z (cc := cX11_in) (maxL := 3) (by decide +kernel) rfl (Nat.le_of_ble_eq_true rfl) rfl ?_
  intro p e s m args below meth c Q H ls F hK hz hl hret
  obtain ⟨hx, hb, hml, hown0, hts⟩ := id F
  have hown : s.vm.findClass RX11 = some m.cls := hown0
  obtain ⟨ws0, hw0⟩ : ∃ w : va_W, w = [] := ⟨_, rfl⟩
  have hz : zH D (zF ws0) H [] H [] := by rw [hw0]; exact hz
  have hl : lv_has ls 3 [(0, .int (zI number)), (1, .int (zI least)), (2, .int (zI most))] := hl
  refine lv_iload_n hx hb dX11_in_0 rfl (lv_at hl 0 rfl) ?_
  refine lv_iload_n hx hb dX11_in_1 rfl (lv_at hl 1 rfl) ?_
  refine z_icmp_lt (tgt := 14) hx hb dX11_in_2 (by decide) (by omega) (by omega) (fun h2 => ?_) (fun h2 => ?_)
  ·
    refine z_iconst hx hb dX11_in_14 ?_
    exact hret dX11_in_15 (by first | decide | omega | (split <;> decide)) (congrArg (fun z => some (Value.int (zI z))) (show (0 : Int) = (if (least ≤ number ∧ number ≤ most) then 1 else 0) by first | rw [if_pos (by omega)] | rw [if_neg (by omega)]))
  ·
    refine lv_iload_n hx hb dX11_in_5 rfl (lv_at hl 0 rfl) ?_
    refine lv_iload_n hx hb dX11_in_6 rfl (lv_at hl 2 rfl) ?_
    refine z_icmp_gt (tgt := 14) hx hb dX11_in_7 (by decide) (by omega) (by omega) (fun h7 => ?_) (fun h7 => ?_)
    ·
      refine z_iconst hx hb dX11_in_14 ?_
      exact hret dX11_in_15 (by first | decide | omega | (split <;> decide)) (congrArg (fun z => some (Value.int (zI z))) (show (0 : Int) = (if (least ≤ number ∧ number ≤ most) then 1 else 0) by first | rw [if_pos (by omega)] | rw [if_neg (by omega)]))
    ·
      refine z_iconst hx hb dX11_in_10 ?_
      refine lv_goto (tgt := 15) hx hb dX11_in_11 (by decide) ?_
      exact hret dX11_in_15 (by first | decide | omega | (split <;> decide)) (congrArg (fun z => some (Value.int (zI z))) (show (1 : Int) = (if (least ≤ number ∧ number ≤ most) then 1 else 0) by first | rw [if_pos (by omega)] | rw [if_neg (by omega)]))

set_option maxHeartbeats 4000000 in
set_option maxRecDepth 100000 in
theorem c_X11_has (l : Launch) (D : va_G) (cI cJ cZ : ClassId) (st k : Int) (hst : (0 ≤ st ∧ st < 512) ∧ 0 ≤ k ∧ k < 32) : zMp l yX11_has wsX11_has (zRm 0) D cI cJ cZ [.int (zI st), .int (zI k)] [] (some (.int (zI (if (st / 2 ^ k.toNat % 2 = 1) then 1 else 0)))) := by
  refine zMp_z (cc := cX11_has) (maxL := 2) (by decide +kernel) rfl (Nat.le_of_ble_eq_true rfl) rfl ?_
  intro p e s m args below meth c Q H ls F hK hz hl hret
  obtain ⟨hx, hb, hml, hown0, hts⟩ := id F
  have hown : s.vm.findClass RX11 = some m.cls := hown0
  obtain ⟨ws0, hw0⟩ : ∃ w : va_W, w = [] := ⟨_, rfl⟩
  have hz : zH D (zF ws0) H [] H [] := by rw [hw0]; exact hz
  have hl : lv_has ls 2 [(0, .int (zI st)), (1, .int (zI k))] := hl
  refine lv_iload_n hx hb dX11_has_0 rfl (lv_at hl 0 rfl) ?_
  refine lv_iload_n hx hb dX11_has_1 rfl (lv_at hl 1 rfl) ?_
  refine z_ishr hx hb dX11_has_2 (by omega) (by omega) ?_
  refine z_iconst hx hb dX11_has_3 ?_
  refine z_iand1 hx hb dX11_has_4 ?_
  refine z_iconst hx hb dX11_has_5 ?_
  refine z_icmp_ne (tgt := 13) hx hb dX11_has_6 (by decide) (by omega) (by decide) (fun h6 => ?_) (fun h6 => ?_)
  ·
    refine z_iconst hx hb dX11_has_13 ?_
    exact hret dX11_has_14 (by first | decide | omega | (split <;> decide)) (congrArg (fun z => some (Value.int (zI z))) (show (0 : Int) = (if (st / 2 ^ k.toNat % 2 = 1) then 1 else 0) by first | rw [if_pos (by omega)] | rw [if_neg (by omega)]))
  ·
    refine z_iconst hx hb dX11_has_9 ?_
    refine lv_goto (tgt := 14) hx hb dX11_has_10 (by decide) ?_
    exact hret dX11_has_14 (by first | decide | omega | (split <;> decide)) (congrArg (fun z => some (Value.int (zI z))) (show (1 : Int) = (if (st / 2 ^ k.toNat % 2 = 1) then 1 else 0) by first | rw [if_pos (by omega)] | rw [if_neg (by omega)]))

set_option maxHeartbeats 4000000 in
set_option maxRecDepth 100000 in
theorem c_X11_bits (l : Launch) (D : va_G) (cI cJ cZ : ClassId) (st : Int) (hst : 0 ≤ st ∧ st < 512) : zMp l yX11_bits wsX11_bits (zRm 0) D cI cJ cZ [.int (zI st)] [] (some (.int (zI (cnt9 st)))) := by
  refine zMp_i (cc := cX11_bits) (maxL := 3) (by decide +kernel) rfl (Nat.le_of_ble_eq_true rfl) rfl ?_
  intro p e s m args below meth c Q H ls F hK hz hl hret
  obtain ⟨hx, hb, hml, hown0, hts⟩ := id F
  have hown : s.vm.findClass RX11 = some m.cls := hown0
  obtain ⟨ws0, hw0⟩ : ∃ w : va_W, w = [] := ⟨_, rfl⟩
  have hz : zH D (zF ws0) H [] H [] := by rw [hw0]; exact hz
  have hl : lv_has ls 3 [(0, .int (zI st))] := hl
  refine z_iconst hx hb dX11_bits_0 ?_
  refine lv_istore_n (lv' := [(1, .int (zI 0)), (0, .int (zI st))]) hx hb dX11_bits_1 rfl hl (Nat.le_of_ble_eq_true rfl) rfl (fun ls hl => ?_)
  refine z_iconst hx hb dX11_bits_2 ?_
  refine lv_istore_n (lv' := [(2, .int (zI 0)), (1, .int (zI 0)), (0, .int (zI st))]) hx hb dX11_bits_3 rfl hl (Nat.le_of_ble_eq_true rfl) rfl (fun ls hl => ?_)
  have L4 : ∀ (n : Nat) (k su : Int) (ls : Array Slot), ((9 - k).toNat = n) → (0 ≤ k ∧ k ≤ 9) → (su = sumZ (fun k => if inS st k = true then 1 else 0) k.toNat) → lv_has ls 3 [(2, .int (zI k)), (1, .int (zI su)), (0, .int (zI st))] → W p l e (zRm 0) s m args below meth c H [] 0 0 Q (F0 m 4 ls []) := by
    intro n
    refine Nat.strongRecOn n ?_
    intro n ih4 k su ls hn4 h0 hs hl
    refine lv_iload_n hx hb dX11_bits_4 rfl (lv_at hl 0 rfl) ?_
    refine z_bipush hx hb dX11_bits_5 (by decide) ?_
    refine z_icmp_ge (tgt := 24) hx hb dX11_bits_7 (by decide) (by omega) (by decide) (fun h7 => ?_) (fun h7 => ?_)
    ·
      refine lv_iload_n hx hb dX11_bits_24 rfl (lv_at hl 1 rfl) ?_
      exact hret dX11_bits_25 (congrArg (fun z => some (Value.int (zI z))) (show (su : Int) = (cnt9 st) by have e : k = 9 := (by omega); subst e; exact hs))
    ·
      refine lv_iload_n hx hb dX11_bits_10 rfl (lv_at hl 1 rfl) ?_
      refine lv_iload_n hx hb dX11_bits_11 rfl (lv_at hl 2 rfl) ?_
      refine lv_iload_n hx hb dX11_bits_12 rfl (lv_at hl 0 rfl) ?_
      refine z_ishr hx hb dX11_bits_13 (by omega) (by omega) ?_
      refine z_iconst hx hb dX11_bits_14 ?_
      refine z_iand1 hx hb dX11_bits_15 ?_
      refine z_iadd hx hb dX11_bits_16 ?_
      refine lv_istore_n (lv' := [(1, .int (zI (su + ((st / 2 ^ k.toNat) % 2)))), (2, .int (zI k)), (0, .int (zI st))]) hx hb dX11_bits_17 rfl hl (Nat.le_of_ble_eq_true rfl) rfl (fun ls hl => ?_)
      refine z_iinc (lv' := [(2, .int (zI (k + 1))), (1, .int (zI (su + ((st / 2 ^ k.toNat) % 2)))), (0, .int (zI st))]) hx hb dX11_bits_18 hl (k := 1) rfl (Nat.le_of_ble_eq_true rfl) rfl (fun ls hl => ?_)
      refine lv_goto (tgt := 4) hx hb dX11_bits_21 (by decide) ?_
      exact ih4 _ (by omega) (k + 1) (su + ((st / 2 ^ k.toNat) % 2)) ls rfl (by omega) (by rw [sumZ_s h0.1, ← hs, cnt9_at hst.1 (by omega)]) (lv_sub hl [0, 1, 2] rfl)
  exact L4 _ 0 0 ls rfl (by decide) (rfl) (lv_sub hl [0, 1, 2] rfl)

set_option maxHeartbeats 4000000 in
set_option maxRecDepth 100000 in
theorem c_X11_over (l : Launch) (D : va_G) (cI cJ cZ : ClassId) (v : Int) (hr : (-2147483648 ≤ v ∧ v ≤ 2147483647)) : zMp l yX11_over wsX11_over (zRm 0) D cI cJ cZ [.int (zI v)] [] (some (.int (zI (v % 180)))) := by
  refine zMp_i (cc := cX11_over) (maxL := 1) (by decide +kernel) rfl (Nat.le_of_ble_eq_true rfl) rfl ?_
  intro p e s m args below meth c Q H ls F hK hz hl hret
  obtain ⟨hx, hb, hml, hown0, hts⟩ := id F
  have hown : s.vm.findClass RX11 = some m.cls := hown0
  obtain ⟨ws0, hw0⟩ : ∃ w : va_W, w = [] := ⟨_, rfl⟩
  have hz : zH D (zF ws0) H [] H [] := by rw [hw0]; exact hz
  have hl : lv_has ls 1 [(0, .int (zI v))] := hl
  refine lv_iload_n hx hb dX11_over_0 rfl (lv_at hl 0 rfl) ?_
  refine z_sipush hx hb dX11_over_1 (by decide) ?_
  refine z_iremT hx hb dX11_over_4 (by omega) (by omega) ?_
  have ht := ztm v 180
  refine z_sipush hx hb dX11_over_5 (by decide) ?_
  refine z_iadd hx hb dX11_over_8 ?_
  refine z_sipush hx hb dX11_over_9 (by decide) ?_
  refine z_irem hx hb dX11_over_12 (by omega) (by omega) ?_
  exact hret dX11_over_13 (congrArg (fun z => some (Value.int (zI z))) (show ((((v.tmod 180) + 180) % 180) : Int) = (v % 180) by omega))

set_option maxHeartbeats 4000000 in
set_option maxRecDepth 100000 in
theorem c_X11_apartOf (l : Launch) (D : va_G) (cI cJ cZ : ClassId) (a b : Int) (hr : (-100000 ≤ a ∧ a ≤ 100000) ∧ (-100000 ≤ b ∧ b ≤ 100000)) : zMp l yX11_apartOf wsX11_apartOf (zRm 1) D cI cJ cZ [.int (zI a), .int (zI b)] [] (some (.int (zI (apS a b)))) := by
  refine zMp_i (cc := cX11_apartOf) (maxL := 3) (by decide +kernel) rfl (Nat.le_of_ble_eq_true rfl) rfl ?_
  intro p e s m args below meth c Q H ls F hK hz hl hret
  obtain ⟨hx, hb, hml, hown0, hts⟩ := id F
  have hown : s.vm.findClass RX11 = some m.cls := hown0
  obtain ⟨ws0, hw0⟩ : ∃ w : va_W, w = [] := ⟨_, rfl⟩
  have hz : zH D (zF ws0) H [] H [] := by rw [hw0]; exact hz
  have hl : lv_has ls 3 [(0, .int (zI a)), (1, .int (zI b))] := hl
  refine lv_iload_n hx hb dX11_apartOf_0 rfl (lv_at hl 0 rfl) ?_
  refine lv_iload_n hx hb dX11_apartOf_1 rfl (lv_at hl 1 rfl) ?_
  refine z_isub hx hb dX11_apartOf_2 ?_
  refine z_callSp (As := [.int (zI (a - b))]) (rest := []) F hK hz hl (c_X11_over l D cI cJ cZ (a - b) (by omega)) (va_cwS 1 hts gX11_apartOf_X11_over rfl rfl rfl (by decide +kernel) ⟨Nat.le_of_ble_eq_true rfl, Nat.le_of_ble_eq_true rfl⟩) [] rfl rfl rfl rfl (Nat.le_of_ble_eq_true rfl) ⟨Nat.le_of_ble_eq_true rfl, Nat.le_of_ble_eq_true rfl⟩ dX11_apartOf_3 ?_
  refine lv_istore_n (lv' := [(2, .int (zI ((a - b) % 180))), (0, .int (zI a)), (1, .int (zI b))]) hx hb dX11_apartOf_6 rfl hl (Nat.le_of_ble_eq_true rfl) rfl (fun ls hl => ?_)
  refine lv_iload_n hx hb dX11_apartOf_7 rfl (lv_at hl 0 rfl) ?_
  refine z_bipush hx hb dX11_apartOf_8 (by decide) ?_
  refine z_icmp_le (tgt := 21) hx hb dX11_apartOf_10 (by decide) (by omega) (by decide) (fun h10 => ?_) (fun h10 => ?_)
  ·
    refine lv_iload_n hx hb dX11_apartOf_21 rfl (lv_at hl 0 rfl) ?_
    exact hret dX11_apartOf_22 (congrArg (fun z => some (Value.int (zI z))) (show (((a - b) % 180) : Int) = (apS a b) by unfold apS; omega))
  ·
    refine z_sipush hx hb dX11_apartOf_13 (by decide) ?_
    refine lv_iload_n hx hb dX11_apartOf_16 rfl (lv_at hl 0 rfl) ?_
    refine z_isub hx hb dX11_apartOf_17 ?_
    refine lv_goto (tgt := 22) hx hb dX11_apartOf_18 (by decide) ?_
    exact hret dX11_apartOf_22 (congrArg (fun z => some (Value.int (zI z))) (show ((180 - ((a - b) % 180)) : Int) = (apS a b) by unfold apS; omega))

set_option maxRecDepth 20000 in
theorem hin_X11_isThere_X11 : ∀ w ∈ u_ws RX11 TX11 23, w ∈ wsX11_isThere := by decide +kernel
set_option maxRecDepth 20000 in
theorem fl_X11_isThere_65 : Cond.fieldLink RX11 65 "HornCityModel" "there" "I" ∈ wsX11_isThere := by decide +kernel
set_option maxHeartbeats 4000000 in
set_option maxRecDepth 100000 in
theorem c_X11_isThere (l : Launch) (D : va_G) (cI cJ cZ : ClassId) (md bk nw nt df chk pa rc qu ct ft wn wy nx im ik : Nat) (T cn ln wat who rs act fse k : Int) (hr : (-2147483648 ≤ k ∧ k ≤ 2147483647)) (hT : 0 ≤ T ∧ T < 512) : zMp l yX11_isThere wsX11_isThere (zRm 1) D cI cJ cZ [.ref md, .int (zI k)] [(md, .inr (9, [.ref bk, .ref nw, .ref nt, .int (zI T), .ref df, .int (zI cn), .ref chk, .int (zI ln), .ref pa, .int (zI wat), .int (zI who), .int (zI rs), .int (zI act), .int (zI fse), .ref rc, .ref qu, .ref ct, .ref ft, .ref wn, .ref wy, .ref nx, .ref im, .ref ik]))] (some (.int (zI (if inS T k = true then 1 else 0)))) := by
  refine zMp_z (cc := cX11_isThere) (maxL := 2) (by decide +kernel) rfl (Nat.le_of_ble_eq_true rfl) rfl ?_
  intro p e s m args below meth c Q H ls F hK hz hl hret
  obtain ⟨hx, hb, hml, hown0, hts⟩ := id F
  have hown : s.vm.findClass RX11 = some m.cls := hown0
  obtain ⟨ws0, hw0⟩ : ∃ w : va_W, w = [(md, .inr (9, [.ref bk, .ref nw, .ref nt, .int (zI T), .ref df, .int (zI cn), .ref chk, .int (zI ln), .ref pa, .int (zI wat), .int (zI who), .int (zI rs), .int (zI act), .int (zI fse), .ref rc, .ref qu, .ref ct, .ref ft, .ref wn, .ref wy, .ref nx, .ref im, .ref ik]))] := ⟨_, rfl⟩
  have hz : zH D (zF ws0) H [(md, .inr (9, [.ref bk, .ref nw, .ref nt, .int (zI T), .ref df, .int (zI cn), .ref chk, .int (zI ln), .ref pa, .int (zI wat), .int (zI who), .int (zI rs), .int (zI act), .int (zI fse), .ref rc, .ref qu, .ref ct, .ref ft, .ref wn, .ref wy, .ref nx, .ref im, .ref ik]))] H [] := by rw [hw0]; exact hz
  have hl : lv_has ls 2 [(0, .ref md), (1, .int (zI k))] := hl
  refine lv_iload_n hx hb dX11_isThere_0 rfl (lv_at hl 1 rfl) ?_
  refine z_iconst hx hb dX11_isThere_1 ?_
  refine z_bipush hx hb dX11_isThere_2 (by decide) ?_
  refine z_callSp (As := [.int (zI k), .int (zI 0), .int (zI 8)]) (rest := []) F hK hz hl (c_X11_in l D cI cJ cZ k 0 8 (by omega)) (va_cwS 3 hts gX11_isThere_X11_in rfl rfl rfl (by decide +kernel) ⟨Nat.le_of_ble_eq_true rfl, Nat.le_of_ble_eq_true rfl⟩) [] rfl rfl rfl rfl (Nat.le_of_ble_eq_true rfl) ⟨Nat.le_of_ble_eq_true rfl, Nat.le_of_ble_eq_true rfl⟩ dX11_isThere_4 ?_
  refine z_ifb_eq (tgt := 25) hx hb dX11_isThere_7 (by decide) (fun h7 => ?_) (fun h7 => ?_)
  ·
    refine z_iconst hx hb dX11_isThere_25 ?_
    exact hret dX11_isThere_26 (by first | decide | omega | (split <;> decide)) (congrArg (fun z => some (Value.int (zI z))) (show (0 : Int) = (if inS T k = true then 1 else 0) by first | rw [if_pos (inS_iff.mpr (by omega))] | rw [if_neg (fun q => absurd (inS_iff.mp q) (by omega))]))
  ·
    refine lv_aload_n hx hb dX11_isThere_10 rfl (lv_at hl 0 rfl) ?_
    refine z_get (C := RX11) (T := TX11) (N := 23) (ref := "HornCityModel") hx hb hts hin_X11_isThere_X11 hown hK hz 0 rfl rfl 3 (by decide) (hts _ fl_X11_isThere_65) rfl rfl dX11_isThere_11 ?_
    refine lv_iload_n hx hb dX11_isThere_14 rfl (lv_at hl 1 rfl) ?_
    refine z_callSp (As := [.int (zI T), .int (zI k)]) (rest := []) F hK hz hl (c_X11_has l D cI cJ cZ T k (by omega)) (va_cwS 2 hts gX11_isThere_X11_has rfl rfl rfl (by decide +kernel) ⟨Nat.le_of_ble_eq_true rfl, Nat.le_of_ble_eq_true rfl⟩) [] rfl rfl rfl rfl (Nat.le_of_ble_eq_true rfl) ⟨Nat.le_of_ble_eq_true rfl, Nat.le_of_ble_eq_true rfl⟩ dX11_isThere_15 ?_
    refine z_ifb_eq (tgt := 25) hx hb dX11_isThere_18 (by decide) (fun h18 => ?_) (fun h18 => ?_)
    ·
      refine z_iconst hx hb dX11_isThere_25 ?_
      exact hret dX11_isThere_26 (by first | decide | omega | (split <;> decide)) (congrArg (fun z => some (Value.int (zI z))) (show (0 : Int) = (if inS T k = true then 1 else 0) by first | rw [if_pos (inS_iff.mpr (by omega))] | rw [if_neg (fun q => absurd (inS_iff.mp q) (by omega))]))
    ·
      refine z_iconst hx hb dX11_isThere_21 ?_
      refine lv_goto (tgt := 26) hx hb dX11_isThere_22 (by decide) ?_
      exact hret dX11_isThere_26 (by first | decide | omega | (split <;> decide)) (congrArg (fun z => some (Value.int (zI z))) (show (1 : Int) = (if inS T k = true then 1 else 0) by first | rw [if_pos (inS_iff.mpr (by omega))] | rw [if_neg (fun q => absurd (inS_iff.mp q) (by omega))]))

set_option maxRecDepth 20000 in
theorem hin_X11_pairsOf_X11 : ∀ w ∈ u_ws RX11 TX11 23, w ∈ wsX11_pairsOf := by decide +kernel
set_option maxRecDepth 20000 in
theorem fl_X11_pairsOf_13 : Cond.fieldLink RX11 13 "HornCityModel" "now" "[I" ∈ wsX11_pairsOf := by decide +kernel
set_option maxHeartbeats 4000000 in
set_option maxRecDepth 100000 in
theorem c_X11_pairsOf (l : Launch) (D : va_G) (cI cJ cZ : ClassId) (md bk nw nt df chk pa rc qu ct ft wn wy nx im ik : Nat) (inc mat kd : Int → Int) (T cn ln wat who rs act fse tm yr : Int) (hT : 0 ≤ T ∧ T < 512) (hbm : zBd mat 9 (-6) 8) : zMp l yX11_pairsOf wsX11_pairsOf (zRm 2) D cI cJ cZ [.ref md] [(md, .inr (9, [.ref bk, .ref nw, .ref nt, .int (zI T), .ref df, .int (zI cn), .ref chk, .int (zI ln), .ref pa, .int (zI wat), .int (zI who), .int (zI rs), .int (zI act), .int (zI fse), .ref rc, .ref qu, .ref ct, .ref ft, .ref wn, .ref wy, .ref nx, .ref im, .ref ik])), (nw, .inl (cI, 29, .inl (zA (nwS inc mat kd tm yr))))] (some (.int (zI (pa2S T mat)))) := by
  refine zMp_i (cc := cX11_pairsOf) (maxL := 3) (by decide +kernel) rfl (Nat.le_of_ble_eq_true rfl) rfl ?_
  intro p e s m args below meth c Q H ls F hK hz hl hret
  obtain ⟨hx, hb, hml, hown0, hts⟩ := id F
  have hown : s.vm.findClass RX11 = some m.cls := hown0
  obtain ⟨ws0, hw0⟩ : ∃ w : va_W, w = [(md, .inr (9, [.ref bk, .ref nw, .ref nt, .int (zI T), .ref df, .int (zI cn), .ref chk, .int (zI ln), .ref pa, .int (zI wat), .int (zI who), .int (zI rs), .int (zI act), .int (zI fse), .ref rc, .ref qu, .ref ct, .ref ft, .ref wn, .ref wy, .ref nx, .ref im, .ref ik])), (nw, .inl (cI, 29, .inl (zA (nwS inc mat kd tm yr))))] := ⟨_, rfl⟩
  have hz : zH D (zF ws0) H [(md, .inr (9, [.ref bk, .ref nw, .ref nt, .int (zI T), .ref df, .int (zI cn), .ref chk, .int (zI ln), .ref pa, .int (zI wat), .int (zI who), .int (zI rs), .int (zI act), .int (zI fse), .ref rc, .ref qu, .ref ct, .ref ft, .ref wn, .ref wy, .ref nx, .ref im, .ref ik])), (nw, .inl (cI, 29, .inl (zA (nwS inc mat kd tm yr))))] H [] := by rw [hw0]; exact hz
  have hl : lv_has ls 3 [(0, .ref md)] := hl
  refine z_iconst hx hb dX11_pairsOf_0 ?_
  refine lv_istore_n (lv' := [(1, .int (zI 0)), (0, .ref md)]) hx hb dX11_pairsOf_1 rfl hl (Nat.le_of_ble_eq_true rfl) rfl (fun ls hl => ?_)
  refine z_iconst hx hb dX11_pairsOf_2 ?_
  refine lv_istore_n (lv' := [(2, .int (zI 0)), (1, .int (zI 0)), (0, .ref md)]) hx hb dX11_pairsOf_3 rfl hl (Nat.le_of_ble_eq_true rfl) rfl (fun ls hl => ?_)
  have L4 : ∀ (n : Nat) (k su : Int) (ls : Array Slot), ((9 - k).toNat = n) → (0 ≤ k ∧ k ≤ 9) → (0 ≤ su ∧ su ≤ k) → (su = sumZ (fun k => if inS T k = true ∧ 0 ≤ mat k then 1 else 0) k.toNat) → lv_has ls 3 [(2, .int (zI k)), (1, .int (zI su)), (0, .ref md)] → W p l e (zRm 2) s m args below meth c H [] 0 0 Q (F0 m 4 ls []) := by
    intro n
    refine Nat.strongRecOn n ?_
    intro n ih4 k su ls hn4 h0 hs0 hs hl
    refine lv_iload_n hx hb dX11_pairsOf_4 rfl (lv_at hl 0 rfl) ?_
    refine z_bipush hx hb dX11_pairsOf_5 (by decide) ?_
    refine z_icmp_ge (tgt := 44) hx hb dX11_pairsOf_7 (by decide) (by omega) (by decide) (fun h7 => ?_) (fun h7 => ?_)
    ·
      refine lv_iload_n hx hb dX11_pairsOf_44 rfl (lv_at hl 1 rfl) ?_
      refine z_iconst hx hb dX11_pairsOf_45 ?_
      refine z_idiv hx hb dX11_pairsOf_46 (by omega) (by omega) ?_
      exact hret dX11_pairsOf_47 (congrArg (fun z => some (Value.int (zI z))) (show ((su / 2) : Int) = (pa2S T mat) by have e : k = 9 := (by omega); subst e; exact congrArg (fun z => z / 2) hs))
    ·
      refine lv_iload_n hx hb dX11_pairsOf_10 rfl (lv_at hl 1 rfl) ?_
      refine lv_aload_n hx hb dX11_pairsOf_11 rfl (lv_at hl 2 rfl) ?_
      refine lv_iload_n hx hb dX11_pairsOf_12 rfl (lv_at hl 0 rfl) ?_
      refine z_callVp (As := [.int (zI k)]) (rest := [.int (zI su)]) (C := RX11) (T := TX11) (N := 23) F hK hz hl (c_X11_isThere l D cI cJ cZ md bk nw nt df chk pa rc qu ct ft wn wy nx im ik T cn ln wat who rs act fse k (by omega) (by first | assumption | omega)) (cwV 1 hts gX11_pairsOf_X11_isThere rfl rfl rfl (by decide +kernel) ⟨Nat.le_of_ble_eq_true rfl, Nat.le_of_ble_eq_true rfl⟩) rfl 0 rfl [0] rfl rfl rfl rfl (Nat.le_of_ble_eq_true rfl) ⟨Nat.le_of_ble_eq_true rfl, Nat.le_of_ble_eq_true rfl⟩ dX11_pairsOf_13 ?_
      refine z_ifb_eq (tgt := 35) hx hb dX11_pairsOf_16 (by decide) (fun h16 => ?_) (fun h16 => ?_)
      ·
        refine z_iconst hx hb dX11_pairsOf_35 ?_
        refine z_iadd hx hb dX11_pairsOf_36 ?_
        refine lv_istore_n (lv' := [(1, .int (zI (su + 0))), (2, .int (zI k)), (0, .ref md)]) hx hb dX11_pairsOf_37 rfl hl (Nat.le_of_ble_eq_true rfl) rfl (fun ls hl => ?_)
        refine z_iinc (lv' := [(2, .int (zI (k + 1))), (1, .int (zI (su + 0))), (0, .ref md)]) hx hb dX11_pairsOf_38 hl (k := 1) rfl (Nat.le_of_ble_eq_true rfl) rfl (fun ls hl => ?_)
        refine lv_goto (tgt := 4) hx hb dX11_pairsOf_41 (by decide) ?_
        exact ih4 _ (by omega) (k + 1) (su + 0) ls rfl (by omega) (by omega) (by rw [sumZ_s h0.1, ← hs]; rw [if_neg (fun q => h16 q.1)]) (lv_sub hl [0, 1, 2] rfl)
      ·
        have hk19 := inS.rng h16
        refine lv_aload_n hx hb dX11_pairsOf_19 rfl (lv_at hl 2 rfl) ?_
        refine z_get (C := RX11) (T := TX11) (N := 23) (ref := "HornCityModel") hx hb hts hin_X11_pairsOf_X11 hown hK hz 0 rfl rfl 1 (by decide) (hts _ fl_X11_pairsOf_13) rfl rfl dX11_pairsOf_20 ?_
        refine z_bipush hx hb dX11_pairsOf_23 (by decide) ?_
        refine lv_iload_n hx hb dX11_pairsOf_25 rfl (lv_at hl 0 rfl) ?_
        refine z_iadd hx hb dX11_pairsOf_26 ?_
        refine z_iald hx hb hK hz 1 rfl (by omega) (by decide) dX11_pairsOf_27 ?_
        rw [nwS_m (k := k) (by omega)]
        have hv27 := (hbm).ax k (by omega)
        refine z_if_lt (tgt := 35) hx hb dX11_pairsOf_28 (by decide) (by omega) (fun h28 => ?_) (fun h28 => ?_)
        ·
          refine z_iconst hx hb dX11_pairsOf_35 ?_
          refine z_iadd hx hb dX11_pairsOf_36 ?_
          refine lv_istore_n (lv' := [(1, .int (zI (su + 0))), (2, .int (zI k)), (0, .ref md)]) hx hb dX11_pairsOf_37 rfl hl (Nat.le_of_ble_eq_true rfl) rfl (fun ls hl => ?_)
          refine z_iinc (lv' := [(2, .int (zI (k + 1))), (1, .int (zI (su + 0))), (0, .ref md)]) hx hb dX11_pairsOf_38 hl (k := 1) rfl (Nat.le_of_ble_eq_true rfl) rfl (fun ls hl => ?_)
          refine lv_goto (tgt := 4) hx hb dX11_pairsOf_41 (by decide) ?_
          exact ih4 _ (by omega) (k + 1) (su + 0) ls rfl (by omega) (by omega) (by rw [sumZ_s h0.1, ← hs]; rw [if_neg (fun q => absurd q.2 (by omega))]) (lv_sub hl [0, 1, 2] rfl)
        ·
          refine z_iconst hx hb dX11_pairsOf_31 ?_
          refine lv_goto (tgt := 36) hx hb dX11_pairsOf_32 (by decide) ?_
          refine z_iadd hx hb dX11_pairsOf_36 ?_
          refine lv_istore_n (lv' := [(1, .int (zI (su + 1))), (2, .int (zI k)), (0, .ref md)]) hx hb dX11_pairsOf_37 rfl hl (Nat.le_of_ble_eq_true rfl) rfl (fun ls hl => ?_)
          refine z_iinc (lv' := [(2, .int (zI (k + 1))), (1, .int (zI (su + 1))), (0, .ref md)]) hx hb dX11_pairsOf_38 hl (k := 1) rfl (Nat.le_of_ble_eq_true rfl) rfl (fun ls hl => ?_)
          refine lv_goto (tgt := 4) hx hb dX11_pairsOf_41 (by decide) ?_
          exact ih4 _ (by omega) (k + 1) (su + 1) ls rfl (by omega) (by omega) (by rw [sumZ_s h0.1, ← hs]; rw [if_pos (by exact ⟨h16, by omega⟩)]) (lv_sub hl [0, 1, 2] rfl)
  exact L4 _ 0 0 ls rfl (by decide) (by decide) (rfl) (lv_sub hl [0, 1, 2] rfl)

set_option maxRecDepth 20000 in
theorem hin_X11_asNow_X11 : ∀ w ∈ u_ws RX11 TX11 23, w ∈ wsX11_asNow := by decide +kernel
set_option maxRecDepth 20000 in
theorem fl_X11_asNow_93 : Cond.fieldLink RX11 93 "HornCityModel" "wrongAt" "I" ∈ wsX11_asNow := by decide +kernel
set_option maxRecDepth 20000 in
theorem fl_X11_asNow_96 : Cond.fieldLink RX11 96 "HornCityModel" "wrongWho" "I" ∈ wsX11_asNow := by decide +kernel
set_option maxRecDepth 20000 in
theorem fl_X11_asNow_13 : Cond.fieldLink RX11 13 "HornCityModel" "now" "[I" ∈ wsX11_asNow := by decide +kernel
set_option maxRecDepth 20000 in
theorem fl_X11_asNow_7 : Cond.fieldLink RX11 7 "HornCityModel" "book" "[I" ∈ wsX11_asNow := by decide +kernel
set_option maxHeartbeats 4000000 in
set_option maxRecDepth 100000 in
theorem c_X11_asNow (l : Launch) (D : va_G) (cI cJ cZ : ClassId) (md bk nw nt df chk pa rc qu ct ft wn wy nx im ik : Nat) (incb matb kdb nwf : Int → Int) (T cn ln wat who rs act fse tmb yrb : Int) : zMw l yX11_asNow wsX11_asNow (zRm 1) D cI cJ cZ [.ref md] [(md, .inr (9, [.ref bk, .ref nw, .ref nt, .int (zI T), .ref df, .int (zI cn), .ref chk, .int (zI ln), .ref pa, .int (zI wat), .int (zI who), .int (zI rs), .int (zI act), .int (zI fse), .ref rc, .ref qu, .ref ct, .ref ft, .ref wn, .ref wy, .ref nx, .ref im, .ref ik])), (bk, .inl (cI, 29, .inl (zA (nwS incb matb kdb tmb yrb)))), (nw, .inl (cI, 29, .inl (zA nwf)))] (S := (Int → Int) × (Int → Int) × (Int → Int) × Int × Int × Int × Int) (fun u => u.1 = incb ∧ u.2.1 = matb ∧ u.2.2.1 = (fun _ => -6) ∧ u.2.2.2.1 = tmb ∧ u.2.2.2.2.1 = yrb ∧ u.2.2.2.2.2.1 = -6 ∧ u.2.2.2.2.2.2 = -6) (fun _ => none) (fun u => [(md, .inr (9, [.ref bk, .ref nw, .ref nt, .int (zI T), .ref df, .int (zI cn), .ref chk, .int (zI ln), .ref pa, .int (zI u.2.2.2.2.2.1), .int (zI u.2.2.2.2.2.2), .int (zI rs), .int (zI act), .int (zI fse), .ref rc, .ref qu, .ref ct, .ref ft, .ref wn, .ref wy, .ref nx, .ref im, .ref ik])), (bk, .inl (cI, 29, .inl (zA (nwS incb matb kdb tmb yrb)))), (nw, .inl (cI, 29, .inl (zA (nwS u.1 u.2.1 u.2.2.1 u.2.2.2.1 u.2.2.2.2.1))))]) := by
  refine zMw_v (cc := cX11_asNow) (maxL := 2) (by decide +kernel) rfl (Nat.le_of_ble_eq_true rfl) rfl (fun _ => rfl) ?_
  intro p e s m args below meth c Q H0 ls F hK hz hl hret
  obtain ⟨hx, hb, hml, hown0, hts⟩ := id F
  have hown : s.vm.findClass RX11 = some m.cls := hown0
  obtain ⟨ws0, hw0⟩ : ∃ w : va_W, w = [(md, .inr (9, [.ref bk, .ref nw, .ref nt, .int (zI T), .ref df, .int (zI cn), .ref chk, .int (zI ln), .ref pa, .int (zI wat), .int (zI who), .int (zI rs), .int (zI act), .int (zI fse), .ref rc, .ref qu, .ref ct, .ref ft, .ref wn, .ref wy, .ref nx, .ref im, .ref ik])), (bk, .inl (cI, 29, .inl (zA (nwS incb matb kdb tmb yrb)))), (nw, .inl (cI, 29, .inl (zA nwf)))] := ⟨_, rfl⟩
  rw [← hw0] at hret
  have hz : zH D (zF ws0) H0 [(md, .inr (9, [.ref bk, .ref nw, .ref nt, .int (zI T), .ref df, .int (zI cn), .ref chk, .int (zI ln), .ref pa, .int (zI wat), .int (zI who), .int (zI rs), .int (zI act), .int (zI fse), .ref rc, .ref qu, .ref ct, .ref ft, .ref wn, .ref wy, .ref nx, .ref im, .ref ik])), (bk, .inl (cI, 29, .inl (zA (nwS incb matb kdb tmb yrb)))), (nw, .inl (cI, 29, .inl (zA nwf)))] H0 [] := by rw [hw0]; exact hz
  have hl : lv_has ls 2 [(0, .ref md)] := hl
  refine z_iconst hx hb dX11_asNow_0 ?_
  refine lv_istore_n (lv' := [(1, .int (zI 0)), (0, .ref md)]) hx hb dX11_asNow_1 rfl hl (Nat.le_of_ble_eq_true rfl) rfl (fun ls hl => ?_)
  have L2 : ∀ (n : Nat) (j : Int) (nx9 : Int → Int) (H : Heap) (locs : List Loc) (ls : Array Slot), ((29 - j).toNat = n) → (0 ≤ j ∧ j ≤ 29) → (∀ q, 0 ≤ q → q < j → nx9 q = nwS incb matb (fun _ => -6) tmb yrb q) → zH D (zF ws0) H0 [(md, .inr (9, [.ref bk, .ref nw, .ref nt, .int (zI T), .ref df, .int (zI cn), .ref chk, .int (zI ln), .ref pa, .int (zI wat), .int (zI who), .int (zI rs), .int (zI act), .int (zI fse), .ref rc, .ref qu, .ref ct, .ref ft, .ref wn, .ref wy, .ref nx, .ref im, .ref ik])), (bk, .inl (cI, 29, .inl (zA (nwS incb matb kdb tmb yrb)))), (nw, .inl (cI, 29, .inl (zA nx9)))] H locs → lv_has ls 2 [(1, .int (zI j)), (0, .ref md)] → W p l e (zRm 1) s m args below meth c H locs 0 0 Q (F0 m 2 ls []) := by
    intro n
    refine Nat.strongRecOn n ?_
    intro n ih2 j nx9 H locs ls hn2 h0 hc hz hl
    refine lv_iload_n hx hb dX11_asNow_2 rfl (lv_at hl 0 rfl) ?_
    refine z_bipush hx hb dX11_asNow_3 (by decide) ?_
    refine z_icmp_ge (tgt := 42) hx hb dX11_asNow_5 (by decide) (by omega) (by decide) (fun h5 => ?_) (fun h5 => ?_)
    ·
      have hz := zH_ext hz 2 (nwS incb matb (fun _ => -6) tmb yrb) rfl (fun q a b => hc q a (by omega))
      have hz : zH D (zF ws0) H0 [(md, .inr (9, [.ref bk, .ref nw, .ref nt, .int (zI T), .ref df, .int (zI cn), .ref chk, .int (zI ln), .ref pa, .int (zI wat), .int (zI who), .int (zI rs), .int (zI act), .int (zI fse), .ref rc, .ref qu, .ref ct, .ref ft, .ref wn, .ref wy, .ref nx, .ref im, .ref ik])), (bk, .inl (cI, 29, .inl (zA (nwS incb matb kdb tmb yrb)))), (nw, .inl (cI, 29, .inl (zA (nwS incb matb (fun _ => -6) tmb yrb))))] H locs := hz
      refine lv_aload_n hx hb dX11_asNow_42 rfl (lv_at hl 1 rfl) ?_
      refine z_bipush hx hb dX11_asNow_43 (by decide) ?_
      refine z_put (C := RX11) (T := TX11) (N := 23) (ref := "HornCityModel") (ty := .int) hx hb hts hin_X11_asNow_X11 hown hK hz tyX11 tyX11_ok nmX11 0 rfl rfl 9 (by decide) (hts _ fl_X11_asNow_93) rfl rfl (by decide +kernel) rfl rfl (Nat.le_of_ble_eq_true rfl) dX11_asNow_45 (fun H locs hz => ?_)
      have hz : zH D (zF ws0) H0 [(md, .inr (9, [.ref bk, .ref nw, .ref nt, .int (zI T), .ref df, .int (zI cn), .ref chk, .int (zI ln), .ref pa, .int (zI (-6)), .int (zI who), .int (zI rs), .int (zI act), .int (zI fse), .ref rc, .ref qu, .ref ct, .ref ft, .ref wn, .ref wy, .ref nx, .ref im, .ref ik])), (bk, .inl (cI, 29, .inl (zA (nwS incb matb kdb tmb yrb)))), (nw, .inl (cI, 29, .inl (zA (nwS incb matb (fun _ => -6) tmb yrb))))] H locs := hz
      refine lv_aload_n hx hb dX11_asNow_48 rfl (lv_at hl 1 rfl) ?_
      refine z_bipush hx hb dX11_asNow_49 (by decide) ?_
      refine z_put (C := RX11) (T := TX11) (N := 23) (ref := "HornCityModel") (ty := .int) hx hb hts hin_X11_asNow_X11 hown hK hz tyX11 tyX11_ok nmX11 0 rfl rfl 10 (by decide) (hts _ fl_X11_asNow_96) rfl rfl (by decide +kernel) rfl rfl (Nat.le_of_ble_eq_true rfl) dX11_asNow_51 (fun H locs hz => ?_)
      have hz : zH D (zF ws0) H0 [(md, .inr (9, [.ref bk, .ref nw, .ref nt, .int (zI T), .ref df, .int (zI cn), .ref chk, .int (zI ln), .ref pa, .int (zI (-6)), .int (zI (-6)), .int (zI rs), .int (zI act), .int (zI fse), .ref rc, .ref qu, .ref ct, .ref ft, .ref wn, .ref wy, .ref nx, .ref im, .ref ik])), (bk, .inl (cI, 29, .inl (zA (nwS incb matb kdb tmb yrb)))), (nw, .inl (cI, 29, .inl (zA (nwS incb matb (fun _ => -6) tmb yrb))))] H locs := hz
      exact hret ((incb : Int → Int), (matb : Int → Int), (fun _ => -6 : Int → Int), (tmb : Int), (yrb : Int), ((-6) : Int), ((-6) : Int)) dX11_asNow_54 (show incb = incb ∧ matb = matb ∧ (fun _ => -6) = (fun _ => -6) ∧ tmb = tmb ∧ yrb = yrb ∧ (-6) = -6 ∧ (-6) = -6 from ⟨rfl, rfl, rfl, rfl, rfl, rfl, rfl⟩) hz
    ·
      refine lv_aload_n hx hb dX11_asNow_8 rfl (lv_at hl 1 rfl) ?_
      refine z_get (C := RX11) (T := TX11) (N := 23) (ref := "HornCityModel") hx hb hts hin_X11_asNow_X11 hown hK hz 0 rfl rfl 1 (by decide) (hts _ fl_X11_asNow_13) rfl rfl dX11_asNow_9 ?_
      refine lv_iload_n hx hb dX11_asNow_12 rfl (lv_at hl 0 rfl) ?_
      refine lv_iload_n hx hb dX11_asNow_13 rfl (lv_at hl 0 rfl) ?_
      refine z_bipush hx hb dX11_asNow_14 (by decide) ?_
      refine z_bipush hx hb dX11_asNow_16 (by decide) ?_
      refine z_callSp (As := [.int (zI j), .int (zI 18), .int (zI 26)]) (rest := [.int (zI j), .ref nw]) F hK hz hl (c_X11_in l D cI cJ cZ j 18 26 (by omega)) (va_cwS 3 hts gX11_asNow_X11_in rfl rfl rfl (by decide +kernel) ⟨Nat.le_of_ble_eq_true rfl, Nat.le_of_ble_eq_true rfl⟩) [] rfl rfl rfl rfl (Nat.le_of_ble_eq_true rfl) ⟨Nat.le_of_ble_eq_true rfl, Nat.le_of_ble_eq_true rfl⟩ dX11_asNow_18 ?_
      refine z_ifb_eq (tgt := 29) hx hb dX11_asNow_21 (by decide) (fun h21 => ?_) (fun h21 => ?_)
      ·
        refine lv_aload_n hx hb dX11_asNow_29 rfl (lv_at hl 1 rfl) ?_
        refine z_get (C := RX11) (T := TX11) (N := 23) (ref := "HornCityModel") hx hb hts hin_X11_asNow_X11 hown hK hz 0 rfl rfl 0 (by decide) (hts _ fl_X11_asNow_7) rfl rfl dX11_asNow_30 ?_
        refine lv_iload_n hx hb dX11_asNow_33 rfl (lv_at hl 0 rfl) ?_
        refine z_iald hx hb hK hz 1 rfl (by omega) (by decide) dX11_asNow_34 ?_
        refine z_iast hx hb hK hz 2 rfl (by omega) (by decide) dX11_asNow_35 (fun H locs hz => ?_)
        have hz : zH D (zF ws0) H0 [(md, .inr (9, [.ref bk, .ref nw, .ref nt, .int (zI T), .ref df, .int (zI cn), .ref chk, .int (zI ln), .ref pa, .int (zI wat), .int (zI who), .int (zI rs), .int (zI act), .int (zI fse), .ref rc, .ref qu, .ref ct, .ref ft, .ref wn, .ref wy, .ref nx, .ref im, .ref ik])), (bk, .inl (cI, 29, .inl (zA (nwS incb matb kdb tmb yrb)))), (nw, .inl (cI, 29, .inl (zA (zU nx9 j ((nwS incb matb kdb tmb yrb) j)))))] H locs := hz
        refine z_iinc (lv' := [(1, .int (zI (j + 1))), (0, .ref md)]) hx hb dX11_asNow_36 hl (k := 0) rfl (Nat.le_of_ble_eq_true rfl) rfl (fun ls hl => ?_)
        refine lv_goto (tgt := 2) hx hb dX11_asNow_39 (by decide) ?_
        exact ih2 _ (by omega) (j + 1) (zU nx9 j ((nwS incb matb kdb tmb yrb) j)) H locs ls rfl (by omega) (by have e9 : nwS incb matb (fun _ => -6) tmb yrb j = nwS incb matb kdb tmb yrb j := (by unfold nwS; exact if h7 : j < 18 then by simp only [h7, if_true] else by (have h8 : ¬ j < 27 := (by omega); simp only [h7, h8, if_false])); have h9 := zU_cp hc; rw [e9] at h9; exact h9) hz (lv_sub hl [0, 1] rfl)
      ·
        refine z_bipush hx hb dX11_asNow_24 (by decide) ?_
        refine lv_goto (tgt := 35) hx hb dX11_asNow_26 (by decide) ?_
        refine z_iast hx hb hK hz 2 rfl (by omega) (by decide) dX11_asNow_35 (fun H locs hz => ?_)
        have hz : zH D (zF ws0) H0 [(md, .inr (9, [.ref bk, .ref nw, .ref nt, .int (zI T), .ref df, .int (zI cn), .ref chk, .int (zI ln), .ref pa, .int (zI wat), .int (zI who), .int (zI rs), .int (zI act), .int (zI fse), .ref rc, .ref qu, .ref ct, .ref ft, .ref wn, .ref wy, .ref nx, .ref im, .ref ik])), (bk, .inl (cI, 29, .inl (zA (nwS incb matb kdb tmb yrb)))), (nw, .inl (cI, 29, .inl (zA (zU nx9 j (-6)))))] H locs := hz
        refine z_iinc (lv' := [(1, .int (zI (j + 1))), (0, .ref md)]) hx hb dX11_asNow_36 hl (k := 0) rfl (Nat.le_of_ble_eq_true rfl) rfl (fun ls hl => ?_)
        refine lv_goto (tgt := 2) hx hb dX11_asNow_39 (by decide) ?_
        exact ih2 _ (by omega) (j + 1) (zU nx9 j (-6)) H locs ls rfl (by omega) (by have e9 : nwS incb matb (fun _ => -6) tmb yrb j = (-6) := (by unfold nwS; rw [if_neg (by omega), if_neg (by omega), if_pos (by omega)]); have h9 := zU_cp hc; rw [e9] at h9; exact h9) hz (lv_sub hl [0, 1] rfl)
  exact L2 _ 0 nwf H0 [] ls rfl (by decide) (fun q h1 h2 => absurd h1 (by omega)) hz (lv_sub hl [0, 1] rfl)

set_option maxRecDepth 20000 in
theorem hin_X11_turn_X11 : ∀ w ∈ u_ws RX11 TX11 23, w ∈ wsX11_turn := by decide +kernel
set_option maxRecDepth 20000 in
theorem fl_X11_turn_13 : Cond.fieldLink RX11 13 "HornCityModel" "now" "[I" ∈ wsX11_turn := by decide +kernel
set_option maxHeartbeats 4000000 in
set_option maxRecDepth 100000 in
theorem c_X11_turn (l : Launch) (D : va_G) (cI cJ cZ : ClassId) (md bk nw nt df chk pa rc qu ct ft wn wy nx im ik : Nat) (inc mat kd : Int → Int) (T cn ln wat who rs act fse tm yr k by0 : Int) (hr : (-2147483648 ≤ k ∧ k ≤ 2147483647)) (hT : 0 ≤ T ∧ T < 512) (hbi : zBd inc 9 0 179) (hby : -1000 ≤ by0 ∧ by0 ≤ 1000) : zMw l yX11_turn wsX11_turn (zRm 2) D cI cJ cZ [.ref md, .int (zI k), .int (zI by0)] [(md, .inr (9, [.ref bk, .ref nw, .ref nt, .int (zI T), .ref df, .int (zI cn), .ref chk, .int (zI ln), .ref pa, .int (zI wat), .int (zI who), .int (zI rs), .int (zI act), .int (zI fse), .ref rc, .ref qu, .ref ct, .ref ft, .ref wn, .ref wy, .ref nx, .ref im, .ref ik])), (nw, .inl (cI, 29, .inl (zA (nwS inc mat kd tm yr))))] (S := Int × (Int → Int)) (fun u => u.1 = (if inS T k = true then 0 else 1) ∧ u.2 = turI T inc k by0) (fun u => some (.int (zI u.1))) (fun u => [(md, .inr (9, [.ref bk, .ref nw, .ref nt, .int (zI T), .ref df, .int (zI cn), .ref chk, .int (zI ln), .ref pa, .int (zI wat), .int (zI who), .int (zI rs), .int (zI act), .int (zI fse), .ref rc, .ref qu, .ref ct, .ref ft, .ref wn, .ref wy, .ref nx, .ref im, .ref ik])), (nw, .inl (cI, 29, .inl (zA (nwS u.2 mat kd tm yr))))]) := by
  refine zMw_i (cc := cX11_turn) (maxL := 3) (by decide +kernel) rfl (Nat.le_of_ble_eq_true rfl) rfl (fun _ => rfl) ?_
  intro p e s m args below meth c Q H0 ls F hK hz hl hret
  obtain ⟨hx, hb, hml, hown0, hts⟩ := id F
  have hown : s.vm.findClass RX11 = some m.cls := hown0
  obtain ⟨ws0, hw0⟩ : ∃ w : va_W, w = [(md, .inr (9, [.ref bk, .ref nw, .ref nt, .int (zI T), .ref df, .int (zI cn), .ref chk, .int (zI ln), .ref pa, .int (zI wat), .int (zI who), .int (zI rs), .int (zI act), .int (zI fse), .ref rc, .ref qu, .ref ct, .ref ft, .ref wn, .ref wy, .ref nx, .ref im, .ref ik])), (nw, .inl (cI, 29, .inl (zA (nwS inc mat kd tm yr))))] := ⟨_, rfl⟩
  rw [← hw0] at hret
  have hz : zH D (zF ws0) H0 [(md, .inr (9, [.ref bk, .ref nw, .ref nt, .int (zI T), .ref df, .int (zI cn), .ref chk, .int (zI ln), .ref pa, .int (zI wat), .int (zI who), .int (zI rs), .int (zI act), .int (zI fse), .ref rc, .ref qu, .ref ct, .ref ft, .ref wn, .ref wy, .ref nx, .ref im, .ref ik])), (nw, .inl (cI, 29, .inl (zA (nwS inc mat kd tm yr))))] H0 [] := by rw [hw0]; exact hz
  have hl : lv_has ls 3 [(0, .ref md), (1, .int (zI k)), (2, .int (zI by0))] := hl
  refine lv_aload_n hx hb dX11_turn_0 rfl (lv_at hl 0 rfl) ?_
  refine lv_iload_n hx hb dX11_turn_1 rfl (lv_at hl 1 rfl) ?_
  refine z_callVp (As := [.int (zI k)]) (rest := []) (C := RX11) (T := TX11) (N := 23) F hK hz hl (c_X11_isThere l D cI cJ cZ md bk nw nt df chk pa rc qu ct ft wn wy nx im ik T cn ln wat who rs act fse k (by omega) (by first | assumption | omega)) (cwV 1 hts gX11_turn_X11_isThere rfl rfl rfl (by decide +kernel) ⟨Nat.le_of_ble_eq_true rfl, Nat.le_of_ble_eq_true rfl⟩) rfl 0 rfl [0] rfl rfl rfl rfl (Nat.le_of_ble_eq_true rfl) ⟨Nat.le_of_ble_eq_true rfl, Nat.le_of_ble_eq_true rfl⟩ dX11_turn_2 ?_
  refine z_ifb_ne (tgt := 10) hx hb dX11_turn_5 (by decide) (fun h5 => ?_) (fun h5 => ?_)
  ·
    have hk10 := inS.rng h5
    refine lv_aload_n hx hb dX11_turn_10 rfl (lv_at hl 0 rfl) ?_
    refine z_get (C := RX11) (T := TX11) (N := 23) (ref := "HornCityModel") hx hb hts hin_X11_turn_X11 hown hK hz 0 rfl rfl 1 (by decide) (hts _ fl_X11_turn_13) rfl rfl dX11_turn_11 ?_
    refine lv_iload_n hx hb dX11_turn_14 rfl (lv_at hl 1 rfl) ?_
    refine lv_aload_n hx hb dX11_turn_15 rfl (lv_at hl 0 rfl) ?_
    refine z_get (C := RX11) (T := TX11) (N := 23) (ref := "HornCityModel") hx hb hts hin_X11_turn_X11 hown hK hz 0 rfl rfl 1 (by decide) (hts _ fl_X11_turn_13) rfl rfl dX11_turn_16 ?_
    refine lv_iload_n hx hb dX11_turn_19 rfl (lv_at hl 1 rfl) ?_
    refine z_iald hx hb hK hz 1 rfl (by omega) (by decide) dX11_turn_20 ?_
    rw [nwS_i (k := k) (by omega)]
    have hv20 := (hbi).ax k (by omega)
    refine lv_iload_n hx hb dX11_turn_21 rfl (lv_at hl 2 rfl) ?_
    refine z_iadd hx hb dX11_turn_22 ?_
    refine z_callSp (As := [.int (zI ((inc k) + by0))]) (rest := [.int (zI k), .ref nw]) F hK hz hl (c_X11_over l D cI cJ cZ ((inc k) + by0) (by omega)) (va_cwS 1 hts gX11_turn_X11_over rfl rfl rfl (by decide +kernel) ⟨Nat.le_of_ble_eq_true rfl, Nat.le_of_ble_eq_true rfl⟩) [] rfl rfl rfl rfl (Nat.le_of_ble_eq_true rfl) ⟨Nat.le_of_ble_eq_true rfl, Nat.le_of_ble_eq_true rfl⟩ dX11_turn_23 ?_
    refine z_iast hx hb hK hz 1 rfl (by omega) (by decide) dX11_turn_26 (fun H locs hz => ?_)
    rw [nwS_ui (k := k) (by omega)] at hz
    have hz : zH D (zF ws0) H0 [(md, .inr (9, [.ref bk, .ref nw, .ref nt, .int (zI T), .ref df, .int (zI cn), .ref chk, .int (zI ln), .ref pa, .int (zI wat), .int (zI who), .int (zI rs), .int (zI act), .int (zI fse), .ref rc, .ref qu, .ref ct, .ref ft, .ref wn, .ref wy, .ref nx, .ref im, .ref ik])), (nw, .inl (cI, 29, .inl (zA (nwS (zU inc k (((inc k) + by0) % 180)) mat kd tm yr))))] H locs := hz
    refine z_iconst hx hb dX11_turn_27 ?_
    exact hret ((0 : Int), (zU inc k (((inc k) + by0) % 180) : Int → Int)) dX11_turn_28 (show 0 = (if inS T k = true then 0 else 1) ∧ (zU inc k (((inc k) + by0) % 180)) = turI T inc k by0 from ⟨by simp [h5], by simp [turI, h5]⟩) hz
  ·
    refine z_iconst hx hb dX11_turn_8 ?_
    exact hret ((1 : Int), (inc : Int → Int)) dX11_turn_9 (show 1 = (if inS T k = true then 0 else 1) ∧ inc = turI T inc k by0 from ⟨by simp [h5], by simp [turI, h5]⟩) hz

set_option maxRecDepth 20000 in
theorem hin_X11_sit_X11 : ∀ w ∈ u_ws RX11 TX11 23, w ∈ wsX11_sit := by decide +kernel
set_option maxRecDepth 20000 in
theorem fl_X11_sit_13 : Cond.fieldLink RX11 13 "HornCityModel" "now" "[I" ∈ wsX11_sit := by decide +kernel
set_option maxHeartbeats 4000000 in
set_option maxRecDepth 100000 in
theorem c_X11_sit (l : Launch) (D : va_G) (cI cJ cZ : ClassId) (md bk nw nt df chk pa rc qu ct ft wn wy nx im ik : Nat) (inc mat kd : Int → Int) (T cn ln wat who rs act fse tm yr k x : Int) (hr : (-2147483648 ≤ k ∧ k ≤ 2147483647) ∧ (-2147483648 ≤ x ∧ x ≤ 2147483647)) (hT : 0 ≤ T ∧ T < 512) (hmo : mOk T mat) (hyr : yr ≤ 999) : zMw l yX11_sit wsX11_sit (zRm 2) D cI cJ cZ [.ref md, .int (zI k), .int (zI x)] [(md, .inr (9, [.ref bk, .ref nw, .ref nt, .int (zI T), .ref df, .int (zI cn), .ref chk, .int (zI ln), .ref pa, .int (zI wat), .int (zI who), .int (zI rs), .int (zI act), .int (zI fse), .ref rc, .ref qu, .ref ct, .ref ft, .ref wn, .ref wy, .ref nx, .ref im, .ref ik])), (nw, .inl (cI, 29, .inl (zA (nwS inc mat kd tm yr))))] (S := Int × (Int → Int)) (fun u => u.1 = whyS T mat yr 38 k x ∧ u.2 = (if whyS T mat yr 38 k x = 0 then seaM T mat k x else mat)) (fun u => some (.int (zI u.1))) (fun u => [(md, .inr (9, [.ref bk, .ref nw, .ref nt, .int (zI T), .ref df, .int (zI cn), .ref chk, .int (zI ln), .ref pa, .int (zI wat), .int (zI who), .int (zI rs), .int (zI act), .int (zI fse), .ref rc, .ref qu, .ref ct, .ref ft, .ref wn, .ref wy, .ref nx, .ref im, .ref ik])), (nw, .inl (cI, 29, .inl (zA (nwS inc u.2 kd tm yr))))]) := by
  refine zMw_i (cc := cX11_sit) (maxL := 3) (by decide +kernel) rfl (Nat.le_of_ble_eq_true rfl) rfl (fun _ => rfl) ?_
  intro p e s m args below meth c Q H0 ls F hK hz hl hret
  obtain ⟨hx, hb, hml, hown0, hts⟩ := id F
  have hown : s.vm.findClass RX11 = some m.cls := hown0
  obtain ⟨ws0, hw0⟩ : ∃ w : va_W, w = [(md, .inr (9, [.ref bk, .ref nw, .ref nt, .int (zI T), .ref df, .int (zI cn), .ref chk, .int (zI ln), .ref pa, .int (zI wat), .int (zI who), .int (zI rs), .int (zI act), .int (zI fse), .ref rc, .ref qu, .ref ct, .ref ft, .ref wn, .ref wy, .ref nx, .ref im, .ref ik])), (nw, .inl (cI, 29, .inl (zA (nwS inc mat kd tm yr))))] := ⟨_, rfl⟩
  rw [← hw0] at hret
  have hz : zH D (zF ws0) H0 [(md, .inr (9, [.ref bk, .ref nw, .ref nt, .int (zI T), .ref df, .int (zI cn), .ref chk, .int (zI ln), .ref pa, .int (zI wat), .int (zI who), .int (zI rs), .int (zI act), .int (zI fse), .ref rc, .ref qu, .ref ct, .ref ft, .ref wn, .ref wy, .ref nx, .ref im, .ref ik])), (nw, .inl (cI, 29, .inl (zA (nwS inc mat kd tm yr))))] H0 [] := by rw [hw0]; exact hz
  have hl : lv_has ls 3 [(0, .ref md), (1, .int (zI k)), (2, .int (zI x))] := hl
  refine lv_aload_n hx hb dX11_sit_0 rfl (lv_at hl 0 rfl) ?_
  refine lv_iload_n hx hb dX11_sit_1 rfl (lv_at hl 1 rfl) ?_
  refine z_callVp (As := [.int (zI k)]) (rest := []) (C := RX11) (T := TX11) (N := 23) F hK hz hl (c_X11_isThere l D cI cJ cZ md bk nw nt df chk pa rc qu ct ft wn wy nx im ik T cn ln wat who rs act fse k (by omega) (by first | assumption | omega)) (cwV 1 hts gX11_sit_X11_isThere rfl rfl rfl (by decide +kernel) ⟨Nat.le_of_ble_eq_true rfl, Nat.le_of_ble_eq_true rfl⟩) rfl 0 rfl [0] rfl rfl rfl rfl (Nat.le_of_ble_eq_true rfl) ⟨Nat.le_of_ble_eq_true rfl, Nat.le_of_ble_eq_true rfl⟩ dX11_sit_2 ?_
  refine z_ifb_eq (tgt := 16) hx hb dX11_sit_5 (by decide) (fun h5 => ?_) (fun h5 => ?_)
  ·
    refine z_iconst hx hb dX11_sit_16 ?_
    exact hret ((1 : Int), (mat : Int → Int)) dX11_sit_17 (show 1 = whyS T mat yr 38 k x ∧ mat = (if whyS T mat yr 38 k x = 0 then seaM T mat k x else mat) from ⟨(why38n (yr := yr) (mat := mat) (Or.inl h5)).symm, by rw [why38n (yr := yr) (mat := mat) (Or.inl h5)]; rfl⟩) hz
  ·
    refine lv_aload_n hx hb dX11_sit_8 rfl (lv_at hl 0 rfl) ?_
    refine lv_iload_n hx hb dX11_sit_9 rfl (lv_at hl 2 rfl) ?_
    refine z_callVp (As := [.int (zI x)]) (rest := []) (C := RX11) (T := TX11) (N := 23) F hK hz hl (c_X11_isThere l D cI cJ cZ md bk nw nt df chk pa rc qu ct ft wn wy nx im ik T cn ln wat who rs act fse x (by omega) (by first | assumption | omega)) (cwV 1 hts gX11_sit_X11_isThere rfl rfl rfl (by decide +kernel) ⟨Nat.le_of_ble_eq_true rfl, Nat.le_of_ble_eq_true rfl⟩) rfl 0 rfl [0] rfl rfl rfl rfl (Nat.le_of_ble_eq_true rfl) ⟨Nat.le_of_ble_eq_true rfl, Nat.le_of_ble_eq_true rfl⟩ dX11_sit_10 ?_
    refine z_ifb_ne (tgt := 18) hx hb dX11_sit_13 (by decide) (fun h13 => ?_) (fun h13 => ?_)
    ·
      have hkr := inS.rng h5
      have hxr := inS.rng h13
      have hwy := why38 hmo (yr := yr) h5 h13
      refine lv_iload_n hx hb dX11_sit_18 rfl (lv_at hl 1 rfl) ?_
      refine lv_iload_n hx hb dX11_sit_19 rfl (lv_at hl 2 rfl) ?_
      refine z_icmp_ne (tgt := 25) hx hb dX11_sit_20 (by decide) (by omega) (by omega) (fun h20 => ?_) (fun h20 => ?_)
      ·
        refine lv_aload_n hx hb dX11_sit_25 rfl (lv_at hl 0 rfl) ?_
        refine z_get (C := RX11) (T := TX11) (N := 23) (ref := "HornCityModel") hx hb hts hin_X11_sit_X11 hown hK hz 0 rfl rfl 1 (by decide) (hts _ fl_X11_sit_13) rfl rfl dX11_sit_26 ?_
        refine z_bipush hx hb dX11_sit_29 (by decide) ?_
        refine lv_iload_n hx hb dX11_sit_31 rfl (lv_at hl 1 rfl) ?_
        refine z_iadd hx hb dX11_sit_32 ?_
        refine z_iald hx hb hK hz 1 rfl (by omega) (by decide) dX11_sit_33 ?_
        rw [nwS_m (k := k) (by omega)]
        have hv33 := (mOk_bd hmo).ax k (by omega)
        refine z_if_ge (tgt := 49) hx hb dX11_sit_34 (by decide) (by omega) (fun h34 => ?_) (fun h34 => ?_)
        ·
          refine z_iconst hx hb dX11_sit_49 ?_
          exact hret ((3 : Int), (mat : Int → Int)) dX11_sit_50 (show 3 = whyS T mat yr 38 k x ∧ mat = (if whyS T mat yr 38 k x = 0 then seaM T mat k x else mat) from ⟨by rw [hwy, if_neg h20, if_pos (by omega)], by rw [show whyS T mat yr 38 k x = 3 by rw [hwy, if_neg h20, if_pos (by omega)]]; simp⟩) hz
        ·
          refine lv_aload_n hx hb dX11_sit_37 rfl (lv_at hl 0 rfl) ?_
          refine z_get (C := RX11) (T := TX11) (N := 23) (ref := "HornCityModel") hx hb hts hin_X11_sit_X11 hown hK hz 0 rfl rfl 1 (by decide) (hts _ fl_X11_sit_13) rfl rfl dX11_sit_38 ?_
          refine z_bipush hx hb dX11_sit_41 (by decide) ?_
          refine lv_iload_n hx hb dX11_sit_43 rfl (lv_at hl 2 rfl) ?_
          refine z_iadd hx hb dX11_sit_44 ?_
          refine z_iald hx hb hK hz 1 rfl (by omega) (by decide) dX11_sit_45 ?_
          rw [nwS_m (k := x) (by omega)]
          have hv45 := (mOk_bd hmo).ax x (by omega)
          refine z_if_lt (tgt := 51) hx hb dX11_sit_46 (by decide) (by omega) (fun h46 => ?_) (fun h46 => ?_)
          ·
            refine lv_aload_n hx hb dX11_sit_51 rfl (lv_at hl 0 rfl) ?_
            refine z_get (C := RX11) (T := TX11) (N := 23) (ref := "HornCityModel") hx hb hts hin_X11_sit_X11 hown hK hz 0 rfl rfl 1 (by decide) (hts _ fl_X11_sit_13) rfl rfl dX11_sit_52 ?_
            refine z_bipush hx hb dX11_sit_55 (by decide) ?_
            refine lv_iload_n hx hb dX11_sit_57 rfl (lv_at hl 1 rfl) ?_
            refine z_iadd hx hb dX11_sit_58 ?_
            refine lv_iload_n hx hb dX11_sit_59 rfl (lv_at hl 2 rfl) ?_
            refine z_iast hx hb hK hz 1 rfl (by omega) (by decide) dX11_sit_60 (fun H locs hz => ?_)
            rw [nwS_um (k := k) (by omega)] at hz
            have hz : zH D (zF ws0) H0 [(md, .inr (9, [.ref bk, .ref nw, .ref nt, .int (zI T), .ref df, .int (zI cn), .ref chk, .int (zI ln), .ref pa, .int (zI wat), .int (zI who), .int (zI rs), .int (zI act), .int (zI fse), .ref rc, .ref qu, .ref ct, .ref ft, .ref wn, .ref wy, .ref nx, .ref im, .ref ik])), (nw, .inl (cI, 29, .inl (zA (nwS inc (zU mat k x) kd tm yr))))] H locs := hz
            refine lv_aload_n hx hb dX11_sit_61 rfl (lv_at hl 0 rfl) ?_
            refine z_get (C := RX11) (T := TX11) (N := 23) (ref := "HornCityModel") hx hb hts hin_X11_sit_X11 hown hK hz 0 rfl rfl 1 (by decide) (hts _ fl_X11_sit_13) rfl rfl dX11_sit_62 ?_
            refine z_bipush hx hb dX11_sit_65 (by decide) ?_
            refine lv_iload_n hx hb dX11_sit_67 rfl (lv_at hl 2 rfl) ?_
            refine z_iadd hx hb dX11_sit_68 ?_
            refine lv_iload_n hx hb dX11_sit_69 rfl (lv_at hl 1 rfl) ?_
            refine z_iast hx hb hK hz 1 rfl (by omega) (by decide) dX11_sit_70 (fun H locs hz => ?_)
            rw [nwS_um (k := x) (by omega)] at hz
            have hz : zH D (zF ws0) H0 [(md, .inr (9, [.ref bk, .ref nw, .ref nt, .int (zI T), .ref df, .int (zI cn), .ref chk, .int (zI ln), .ref pa, .int (zI wat), .int (zI who), .int (zI rs), .int (zI act), .int (zI fse), .ref rc, .ref qu, .ref ct, .ref ft, .ref wn, .ref wy, .ref nx, .ref im, .ref ik])), (nw, .inl (cI, 29, .inl (zA (nwS inc (zU (zU mat k x) x k) kd tm yr))))] H locs := hz
            refine z_iconst hx hb dX11_sit_71 ?_
            exact hret ((0 : Int), (zU (zU mat k x) x k : Int → Int)) dX11_sit_72 (show 0 = whyS T mat yr 38 k x ∧ (zU (zU mat k x) x k) = (if whyS T mat yr 38 k x = 0 then seaM T mat k x else mat) from ⟨by rw [hwy, if_neg h20, if_neg (by omega)], by rw [show whyS T mat yr 38 k x = 0 by rw [hwy, if_neg h20, if_neg (by omega)], if_pos rfl]; unfold seaM; rw [if_pos (show inS T k = true ∧ inS T x = true from ⟨h5, h13⟩)]⟩) hz
          ·
            refine z_iconst hx hb dX11_sit_49 ?_
            exact hret ((3 : Int), (mat : Int → Int)) dX11_sit_50 (show 3 = whyS T mat yr 38 k x ∧ mat = (if whyS T mat yr 38 k x = 0 then seaM T mat k x else mat) from ⟨by rw [hwy, if_neg h20, if_pos (by omega)], by rw [show whyS T mat yr 38 k x = 3 by rw [hwy, if_neg h20, if_pos (by omega)]]; simp⟩) hz
      ·
        refine z_iconst hx hb dX11_sit_23 ?_
        exact hret ((2 : Int), (mat : Int → Int)) dX11_sit_24 (show 2 = whyS T mat yr 38 k x ∧ mat = (if whyS T mat yr 38 k x = 0 then seaM T mat k x else mat) from ⟨by rw [hwy]; simp [h20], by rw [hwy]; simp [h20]⟩) hz
    ·
      refine z_iconst hx hb dX11_sit_16 ?_
      exact hret ((1 : Int), (mat : Int → Int)) dX11_sit_17 (show 1 = whyS T mat yr 38 k x ∧ mat = (if whyS T mat yr 38 k x = 0 then seaM T mat k x else mat) from ⟨(why38n (yr := yr) (mat := mat) (Or.inr h13)).symm, by rw [why38n (yr := yr) (mat := mat) (Or.inr h13)]; rfl⟩) hz

set_option maxRecDepth 20000 in
theorem hin_X11_rise_X11 : ∀ w ∈ u_ws RX11 TX11 23, w ∈ wsX11_rise := by decide +kernel
set_option maxRecDepth 20000 in
theorem fl_X11_rise_13 : Cond.fieldLink RX11 13 "HornCityModel" "now" "[I" ∈ wsX11_rise := by decide +kernel
set_option maxHeartbeats 4000000 in
set_option maxRecDepth 100000 in
theorem c_X11_rise (l : Launch) (D : va_G) (cI cJ cZ : ClassId) (md bk nw nt df chk pa rc qu ct ft wn wy nx im ik : Nat) (inc mat kd : Int → Int) (T cn ln wat who rs act fse tm yr k : Int) (hr : (-2147483648 ≤ k ∧ k ≤ 2147483647)) (hT : 0 ≤ T ∧ T < 512) (hmo : mOk T mat) : zMw l yX11_rise wsX11_rise (zRm 2) D cI cJ cZ [.ref md, .int (zI k)] [(md, .inr (9, [.ref bk, .ref nw, .ref nt, .int (zI T), .ref df, .int (zI cn), .ref chk, .int (zI ln), .ref pa, .int (zI wat), .int (zI who), .int (zI rs), .int (zI act), .int (zI fse), .ref rc, .ref qu, .ref ct, .ref ft, .ref wn, .ref wy, .ref nx, .ref im, .ref ik])), (nw, .inl (cI, 29, .inl (zA (nwS inc mat kd tm yr))))] (S := Int × (Int → Int)) (fun u => u.1 = whyS T mat yr 47 k 0 ∧ u.2 = (if whyS T mat yr 47 k 0 = 0 then sepM T mat k else mat)) (fun u => some (.int (zI u.1))) (fun u => [(md, .inr (9, [.ref bk, .ref nw, .ref nt, .int (zI T), .ref df, .int (zI cn), .ref chk, .int (zI ln), .ref pa, .int (zI wat), .int (zI who), .int (zI rs), .int (zI act), .int (zI fse), .ref rc, .ref qu, .ref ct, .ref ft, .ref wn, .ref wy, .ref nx, .ref im, .ref ik])), (nw, .inl (cI, 29, .inl (zA (nwS inc u.2 kd tm yr))))]) := by
  refine zMw_i (cc := cX11_rise) (maxL := 2) (by decide +kernel) rfl (Nat.le_of_ble_eq_true rfl) rfl (fun _ => rfl) ?_
  intro p e s m args below meth c Q H0 ls F hK hz hl hret
  obtain ⟨hx, hb, hml, hown0, hts⟩ := id F
  have hown : s.vm.findClass RX11 = some m.cls := hown0
  obtain ⟨ws0, hw0⟩ : ∃ w : va_W, w = [(md, .inr (9, [.ref bk, .ref nw, .ref nt, .int (zI T), .ref df, .int (zI cn), .ref chk, .int (zI ln), .ref pa, .int (zI wat), .int (zI who), .int (zI rs), .int (zI act), .int (zI fse), .ref rc, .ref qu, .ref ct, .ref ft, .ref wn, .ref wy, .ref nx, .ref im, .ref ik])), (nw, .inl (cI, 29, .inl (zA (nwS inc mat kd tm yr))))] := ⟨_, rfl⟩
  rw [← hw0] at hret
  have hz : zH D (zF ws0) H0 [(md, .inr (9, [.ref bk, .ref nw, .ref nt, .int (zI T), .ref df, .int (zI cn), .ref chk, .int (zI ln), .ref pa, .int (zI wat), .int (zI who), .int (zI rs), .int (zI act), .int (zI fse), .ref rc, .ref qu, .ref ct, .ref ft, .ref wn, .ref wy, .ref nx, .ref im, .ref ik])), (nw, .inl (cI, 29, .inl (zA (nwS inc mat kd tm yr))))] H0 [] := by rw [hw0]; exact hz
  have hl : lv_has ls 2 [(0, .ref md), (1, .int (zI k))] := hl
  refine lv_aload_n hx hb dX11_rise_0 rfl (lv_at hl 0 rfl) ?_
  refine lv_iload_n hx hb dX11_rise_1 rfl (lv_at hl 1 rfl) ?_
  refine z_callVp (As := [.int (zI k)]) (rest := []) (C := RX11) (T := TX11) (N := 23) F hK hz hl (c_X11_isThere l D cI cJ cZ md bk nw nt df chk pa rc qu ct ft wn wy nx im ik T cn ln wat who rs act fse k (by omega) (by first | assumption | omega)) (cwV 1 hts gX11_rise_X11_isThere rfl rfl rfl (by decide +kernel) ⟨Nat.le_of_ble_eq_true rfl, Nat.le_of_ble_eq_true rfl⟩) rfl 0 rfl [0] rfl rfl rfl rfl (Nat.le_of_ble_eq_true rfl) ⟨Nat.le_of_ble_eq_true rfl, Nat.le_of_ble_eq_true rfl⟩ dX11_rise_2 ?_
  refine z_ifb_ne (tgt := 10) hx hb dX11_rise_5 (by decide) (fun h5 => ?_) (fun h5 => ?_)
  ·
    have hk10 := inS.rng h5
    have hng := mOk_neg hmo hk10
    have hsp := sepM_is hmo h5
    refine lv_aload_n hx hb dX11_rise_10 rfl (lv_at hl 0 rfl) ?_
    refine z_get (C := RX11) (T := TX11) (N := 23) (ref := "HornCityModel") hx hb hts hin_X11_rise_X11 hown hK hz 0 rfl rfl 1 (by decide) (hts _ fl_X11_rise_13) rfl rfl dX11_rise_11 ?_
    refine z_bipush hx hb dX11_rise_14 (by decide) ?_
    refine lv_iload_n hx hb dX11_rise_16 rfl (lv_at hl 1 rfl) ?_
    refine z_iadd hx hb dX11_rise_17 ?_
    refine z_iald hx hb hK hz 1 rfl (by omega) (by decide) dX11_rise_18 ?_
    rw [nwS_m (k := k) (by omega)]
    have hv18 := (mOk_bd hmo).ax k (by omega)
    refine z_if_ge (tgt := 24) hx hb dX11_rise_19 (by decide) (by omega) (fun h19 => ?_) (fun h19 => ?_)
    ·
      refine lv_aload_n hx hb dX11_rise_24 rfl (lv_at hl 0 rfl) ?_
      refine z_get (C := RX11) (T := TX11) (N := 23) (ref := "HornCityModel") hx hb hts hin_X11_rise_X11 hown hK hz 0 rfl rfl 1 (by decide) (hts _ fl_X11_rise_13) rfl rfl dX11_rise_25 ?_
      refine z_bipush hx hb dX11_rise_28 (by decide) ?_
      refine lv_aload_n hx hb dX11_rise_30 rfl (lv_at hl 0 rfl) ?_
      refine z_get (C := RX11) (T := TX11) (N := 23) (ref := "HornCityModel") hx hb hts hin_X11_rise_X11 hown hK hz 0 rfl rfl 1 (by decide) (hts _ fl_X11_rise_13) rfl rfl dX11_rise_31 ?_
      refine z_bipush hx hb dX11_rise_34 (by decide) ?_
      refine lv_iload_n hx hb dX11_rise_36 rfl (lv_at hl 1 rfl) ?_
      refine z_iadd hx hb dX11_rise_37 ?_
      refine z_iald hx hb hK hz 1 rfl (by omega) (by decide) dX11_rise_38 ?_
      rw [nwS_m (k := k) (by omega)]
      have hv38 := (mOk_bd hmo).ax k (by omega)
      refine z_iadd hx hb dX11_rise_39 ?_
      refine z_bipush hx hb dX11_rise_40 (by decide) ?_
      refine z_iast hx hb hK hz 1 rfl (by omega) (by decide) dX11_rise_42 (fun H locs hz => ?_)
      rw [nwS_um (k := (mat k)) (by omega)] at hz
      have hz : zH D (zF ws0) H0 [(md, .inr (9, [.ref bk, .ref nw, .ref nt, .int (zI T), .ref df, .int (zI cn), .ref chk, .int (zI ln), .ref pa, .int (zI wat), .int (zI who), .int (zI rs), .int (zI act), .int (zI fse), .ref rc, .ref qu, .ref ct, .ref ft, .ref wn, .ref wy, .ref nx, .ref im, .ref ik])), (nw, .inl (cI, 29, .inl (zA (nwS inc (zU mat (mat k) (-6)) kd tm yr))))] H locs := hz
      refine lv_aload_n hx hb dX11_rise_43 rfl (lv_at hl 0 rfl) ?_
      refine z_get (C := RX11) (T := TX11) (N := 23) (ref := "HornCityModel") hx hb hts hin_X11_rise_X11 hown hK hz 0 rfl rfl 1 (by decide) (hts _ fl_X11_rise_13) rfl rfl dX11_rise_44 ?_
      refine z_bipush hx hb dX11_rise_47 (by decide) ?_
      refine lv_iload_n hx hb dX11_rise_49 rfl (lv_at hl 1 rfl) ?_
      refine z_iadd hx hb dX11_rise_50 ?_
      refine z_bipush hx hb dX11_rise_51 (by decide) ?_
      refine z_iast hx hb hK hz 1 rfl (by omega) (by decide) dX11_rise_53 (fun H locs hz => ?_)
      rw [nwS_um (k := k) (by omega)] at hz
      have hz : zH D (zF ws0) H0 [(md, .inr (9, [.ref bk, .ref nw, .ref nt, .int (zI T), .ref df, .int (zI cn), .ref chk, .int (zI ln), .ref pa, .int (zI wat), .int (zI who), .int (zI rs), .int (zI act), .int (zI fse), .ref rc, .ref qu, .ref ct, .ref ft, .ref wn, .ref wy, .ref nx, .ref im, .ref ik])), (nw, .inl (cI, 29, .inl (zA (nwS inc (zU (zU mat (mat k) (-6)) k (-6)) kd tm yr))))] H locs := hz
      refine z_iconst hx hb dX11_rise_54 ?_
      exact hret ((0 : Int), (zU (zU mat (mat k) (-6)) k (-6) : Int → Int)) dX11_rise_55 (show 0 = whyS T mat yr 47 k 0 ∧ (zU (zU mat (mat k) (-6)) k (-6)) = (if whyS T mat yr 47 k 0 = 0 then sepM T mat k else mat) from ⟨by rw [why47 hmo, if_pos h5, if_pos (by omega)], by rw [show whyS T mat yr 47 k 0 = 0 by rw [why47 hmo, if_pos h5, if_pos (by omega)], if_pos rfl, hsp, if_neg (by omega)]; exact zU_cm (by omega)⟩) hz
    ·
      refine z_iconst hx hb dX11_rise_22 ?_
      exact hret ((3 : Int), (mat : Int → Int)) dX11_rise_23 (show 3 = whyS T mat yr 47 k 0 ∧ mat = (if whyS T mat yr 47 k 0 = 0 then sepM T mat k else mat) from ⟨by rw [why47 hmo, if_pos h5, if_neg (by omega)], by rw [show whyS T mat yr 47 k 0 = 3 by rw [why47 hmo, if_pos h5, if_neg (by omega)]]; simp⟩) hz
  ·
    refine z_iconst hx hb dX11_rise_8 ?_
    exact hret ((1 : Int), (mat : Int → Int)) dX11_rise_9 (show 1 = whyS T mat yr 47 k 0 ∧ mat = (if whyS T mat yr 47 k 0 = 0 then sepM T mat k else mat) from ⟨by rw [why47 hmo, if_neg h5], by rw [why47 hmo, if_neg h5]; simp⟩) hz

set_option maxRecDepth 20000 in
theorem hin_X11_mark_X11 : ∀ w ∈ u_ws RX11 TX11 23, w ∈ wsX11_mark := by decide +kernel
set_option maxRecDepth 20000 in
theorem fl_X11_mark_13 : Cond.fieldLink RX11 13 "HornCityModel" "now" "[I" ∈ wsX11_mark := by decide +kernel
set_option maxHeartbeats 4000000 in
set_option maxRecDepth 100000 in
theorem c_X11_mark (l : Launch) (D : va_G) (cI cJ cZ : ClassId) (md bk nw nt df chk pa rc qu ct ft wn wy nx im ik : Nat) (inc mat kd : Int → Int) (T cn ln wat who rs act fse tm yr k : Int) (fw : Prop) [Decidable fw] (hr : (-2147483648 ≤ k ∧ k ≤ 2147483647)) (hT : 0 ≤ T ∧ T < 512) (hbi : zBd inc 9 0 179) (hty : (0 ≤ tm ∧ tm ≤ 9) ∧ 0 ≤ yr ∧ yr ≤ 999) : zMw l yX11_mark wsX11_mark (zRm 2) D cI cJ cZ [.ref md, .int (zI k), .int (zI (if fw then 1 else 0))] [(md, .inr (9, [.ref bk, .ref nw, .ref nt, .int (zI T), .ref df, .int (zI cn), .ref chk, .int (zI ln), .ref pa, .int (zI wat), .int (zI who), .int (zI rs), .int (zI act), .int (zI fse), .ref rc, .ref qu, .ref ct, .ref ft, .ref wn, .ref wy, .ref nx, .ref im, .ref ik])), (nw, .inl (cI, 29, .inl (zA (nwS inc mat kd tm yr))))] (S := Int × (Int → Int)) (fun u => u.1 = (if inS T k = true then 0 else 1) ∧ u.2 = (if inS T k = true then zU kd k (cvS T inc tm k fw) else kd)) (fun u => some (.int (zI u.1))) (fun u => [(md, .inr (9, [.ref bk, .ref nw, .ref nt, .int (zI T), .ref df, .int (zI cn), .ref chk, .int (zI ln), .ref pa, .int (zI wat), .int (zI who), .int (zI rs), .int (zI act), .int (zI fse), .ref rc, .ref qu, .ref ct, .ref ft, .ref wn, .ref wy, .ref nx, .ref im, .ref ik])), (nw, .inl (cI, 29, .inl (zA (nwS inc mat u.2 tm yr))))]) := by
  refine zMw_i (cc := cX11_mark) (maxL := 4) (by decide +kernel) rfl (Nat.le_of_ble_eq_true rfl) rfl (fun _ => rfl) ?_
  intro p e s m args below meth c Q H0 ls F hK hz hl hret
  obtain ⟨hx, hb, hml, hown0, hts⟩ := id F
  have hown : s.vm.findClass RX11 = some m.cls := hown0
  obtain ⟨ws0, hw0⟩ : ∃ w : va_W, w = [(md, .inr (9, [.ref bk, .ref nw, .ref nt, .int (zI T), .ref df, .int (zI cn), .ref chk, .int (zI ln), .ref pa, .int (zI wat), .int (zI who), .int (zI rs), .int (zI act), .int (zI fse), .ref rc, .ref qu, .ref ct, .ref ft, .ref wn, .ref wy, .ref nx, .ref im, .ref ik])), (nw, .inl (cI, 29, .inl (zA (nwS inc mat kd tm yr))))] := ⟨_, rfl⟩
  rw [← hw0] at hret
  have hz : zH D (zF ws0) H0 [(md, .inr (9, [.ref bk, .ref nw, .ref nt, .int (zI T), .ref df, .int (zI cn), .ref chk, .int (zI ln), .ref pa, .int (zI wat), .int (zI who), .int (zI rs), .int (zI act), .int (zI fse), .ref rc, .ref qu, .ref ct, .ref ft, .ref wn, .ref wy, .ref nx, .ref im, .ref ik])), (nw, .inl (cI, 29, .inl (zA (nwS inc mat kd tm yr))))] H0 [] := by rw [hw0]; exact hz
  have hl : lv_has ls 4 [(0, .ref md), (1, .int (zI k)), (2, .int (zI (if fw then 1 else 0)))] := hl
  refine lv_aload_n hx hb dX11_mark_0 rfl (lv_at hl 0 rfl) ?_
  refine lv_iload_n hx hb dX11_mark_1 rfl (lv_at hl 1 rfl) ?_
  refine z_callVp (As := [.int (zI k)]) (rest := []) (C := RX11) (T := TX11) (N := 23) F hK hz hl (c_X11_isThere l D cI cJ cZ md bk nw nt df chk pa rc qu ct ft wn wy nx im ik T cn ln wat who rs act fse k (by omega) (by first | assumption | omega)) (cwV 1 hts gX11_mark_X11_isThere rfl rfl rfl (by decide +kernel) ⟨Nat.le_of_ble_eq_true rfl, Nat.le_of_ble_eq_true rfl⟩) rfl 0 rfl [0] rfl rfl rfl rfl (Nat.le_of_ble_eq_true rfl) ⟨Nat.le_of_ble_eq_true rfl, Nat.le_of_ble_eq_true rfl⟩ dX11_mark_2 ?_
  refine z_ifb_ne (tgt := 10) hx hb dX11_mark_5 (by decide) (fun h5 => ?_) (fun h5 => ?_)
  ·
    have hk10 := inS.rng h5
    refine lv_aload_n hx hb dX11_mark_10 rfl (lv_at hl 0 rfl) ?_
    refine z_get (C := RX11) (T := TX11) (N := 23) (ref := "HornCityModel") hx hb hts hin_X11_mark_X11 hown hK hz 0 rfl rfl 1 (by decide) (hts _ fl_X11_mark_13) rfl rfl dX11_mark_11 ?_
    refine lv_iload_n hx hb dX11_mark_14 rfl (lv_at hl 1 rfl) ?_
    refine z_iald hx hb hK hz 1 rfl (by omega) (by decide) dX11_mark_15 ?_
    rw [nwS_i (k := k) (by omega)]
    have hv15 := (hbi).ax k (by omega)
    refine lv_aload_n hx hb dX11_mark_16 rfl (lv_at hl 0 rfl) ?_
    refine z_get (C := RX11) (T := TX11) (N := 23) (ref := "HornCityModel") hx hb hts hin_X11_mark_X11 hown hK hz 0 rfl rfl 1 (by decide) (hts _ fl_X11_mark_13) rfl rfl dX11_mark_17 ?_
    refine z_bipush hx hb dX11_mark_20 (by decide) ?_
    refine z_iald hx hb hK hz 1 rfl (by omega) (by decide) dX11_mark_22 ?_
    rw [nwS_27]
    refine z_iadd hx hb dX11_mark_23 ?_
    refine z_callSp (As := [.int (zI ((inc k) + tm))]) (rest := []) F hK hz hl (c_X11_over l D cI cJ cZ ((inc k) + tm) (by omega)) (va_cwS 1 hts gX11_mark_X11_over rfl rfl rfl (by decide +kernel) ⟨Nat.le_of_ble_eq_true rfl, Nat.le_of_ble_eq_true rfl⟩) [] rfl rfl rfl rfl (Nat.le_of_ble_eq_true rfl) ⟨Nat.le_of_ble_eq_true rfl, Nat.le_of_ble_eq_true rfl⟩ dX11_mark_24 ?_
    refine lv_istore_n (lv' := [(3, .int (zI (((inc k) + tm) % 180))), (0, .ref md), (1, .int (zI k)), (2, .int (zI (if fw then 1 else 0)))]) hx hb dX11_mark_27 rfl hl (Nat.le_of_ble_eq_true rfl) rfl (fun ls hl => ?_)
    refine lv_aload_n hx hb dX11_mark_28 rfl (lv_at hl 1 rfl) ?_
    refine z_get (C := RX11) (T := TX11) (N := 23) (ref := "HornCityModel") hx hb hts hin_X11_mark_X11 hown hK hz 0 rfl rfl 1 (by decide) (hts _ fl_X11_mark_13) rfl rfl dX11_mark_29 ?_
    refine z_bipush hx hb dX11_mark_32 (by decide) ?_
    refine lv_iload_n hx hb dX11_mark_34 rfl (lv_at hl 2 rfl) ?_
    refine z_iadd hx hb dX11_mark_35 ?_
    refine lv_iload_n hx hb dX11_mark_36 rfl (lv_at hl 3 rfl) ?_
    refine z_ifb_eq (tgt := 51) hx hb dX11_mark_37 (by decide) (fun h37 => ?_) (fun h37 => ?_)
    ·
      refine lv_iload_n hx hb dX11_mark_51 rfl (lv_at hl 0 rfl) ?_
      refine z_iast hx hb hK hz 1 rfl (by omega) (by decide) dX11_mark_52 (fun H locs hz => ?_)
      rw [nwS_uk (k := k) (by omega)] at hz
      have hz : zH D (zF ws0) H0 [(md, .inr (9, [.ref bk, .ref nw, .ref nt, .int (zI T), .ref df, .int (zI cn), .ref chk, .int (zI ln), .ref pa, .int (zI wat), .int (zI who), .int (zI rs), .int (zI act), .int (zI fse), .ref rc, .ref qu, .ref ct, .ref ft, .ref wn, .ref wy, .ref nx, .ref im, .ref ik])), (nw, .inl (cI, 29, .inl (zA (nwS inc mat (zU kd k (((inc k) + tm) % 180)) tm yr))))] H locs := hz
      refine z_iconst hx hb dX11_mark_53 ?_
      exact hret ((0 : Int), (zU kd k (((inc k) + tm) % 180) : Int → Int)) dX11_mark_54 (show 0 = (if inS T k = true then 0 else 1) ∧ (zU kd k (((inc k) + tm) % 180)) = (if inS T k = true then zU kd k (cvS T inc tm k fw) else kd) from ⟨by simp [h5], by rw [if_pos h5, show cvS T inc tm k fw = _ from if_neg h37]; unfold inO; rw [if_pos h5]⟩) hz
    ·
      refine z_sipush hx hb dX11_mark_40 (by decide) ?_
      refine lv_iload_n hx hb dX11_mark_43 rfl (lv_at hl 0 rfl) ?_
      refine z_isub hx hb dX11_mark_44 ?_
      refine z_callSp (As := [.int (zI (180 - (((inc k) + tm) % 180)))]) (rest := [.int (zI (18 + k)), .ref nw]) F hK hz hl (c_X11_over l D cI cJ cZ (180 - (((inc k) + tm) % 180)) (by omega)) (va_cwS 1 hts gX11_mark_X11_over rfl rfl rfl (by decide +kernel) ⟨Nat.le_of_ble_eq_true rfl, Nat.le_of_ble_eq_true rfl⟩) [] rfl rfl rfl rfl (Nat.le_of_ble_eq_true rfl) ⟨Nat.le_of_ble_eq_true rfl, Nat.le_of_ble_eq_true rfl⟩ dX11_mark_45 ?_
      refine lv_goto (tgt := 52) hx hb dX11_mark_48 (by decide) ?_
      refine z_iast hx hb hK hz 1 rfl (by omega) (by decide) dX11_mark_52 (fun H locs hz => ?_)
      rw [nwS_uk (k := k) (by omega)] at hz
      have hz : zH D (zF ws0) H0 [(md, .inr (9, [.ref bk, .ref nw, .ref nt, .int (zI T), .ref df, .int (zI cn), .ref chk, .int (zI ln), .ref pa, .int (zI wat), .int (zI who), .int (zI rs), .int (zI act), .int (zI fse), .ref rc, .ref qu, .ref ct, .ref ft, .ref wn, .ref wy, .ref nx, .ref im, .ref ik])), (nw, .inl (cI, 29, .inl (zA (nwS inc mat (zU kd k ((180 - (((inc k) + tm) % 180)) % 180)) tm yr))))] H locs := hz
      refine z_iconst hx hb dX11_mark_53 ?_
      exact hret ((0 : Int), (zU kd k ((180 - (((inc k) + tm) % 180)) % 180) : Int → Int)) dX11_mark_54 (show 0 = (if inS T k = true then 0 else 1) ∧ (zU kd k ((180 - (((inc k) + tm) % 180)) % 180)) = (if inS T k = true then zU kd k (cvS T inc tm k fw) else kd) from ⟨by simp [h5], by rw [if_pos h5, show cvS T inc tm k fw = _ from if_pos h37]; unfold inO; rw [if_pos h5]⟩) hz
  ·
    refine z_iconst hx hb dX11_mark_8 ?_
    exact hret ((1 : Int), (kd : Int → Int)) dX11_mark_9 (show 1 = (if inS T k = true then 0 else 1) ∧ kd = (if inS T k = true then zU kd k (cvS T inc tm k fw) else kd) from ⟨by simp [h5], by simp [h5]⟩) hz

set_option maxRecDepth 20000 in
theorem hin_X11_endYear_X11 : ∀ w ∈ u_ws RX11 TX11 23, w ∈ wsX11_endYear := by decide +kernel
set_option maxRecDepth 20000 in
theorem fl_X11_endYear_13 : Cond.fieldLink RX11 13 "HornCityModel" "now" "[I" ∈ wsX11_endYear := by decide +kernel
set_option maxRecDepth 20000 in
theorem fl_X11_endYear_16 : Cond.fieldLink RX11 16 "HornCityModel" "next" "[I" ∈ wsX11_endYear := by decide +kernel
set_option maxRecDepth 20000 in
theorem fl_X11_endYear_19 : Cond.fieldLink RX11 19 "HornCityModel" "drifts" "[I" ∈ wsX11_endYear := by decide +kernel
set_option maxHeartbeats 4000000 in
set_option maxRecDepth 100000 in
theorem c_X11_endYear (l : Launch) (D : va_G) (cI cJ cZ : ClassId) (md bk nw nt df chk pa rc qu ct ft wn wy nx im ik : Nat) (inc mat kd ntf dri : Int → Int) (T cn ln wat who rs act fse tm yr : Int) (hT : 0 ≤ T ∧ T < 512) (hbi : zBd inc 9 0 179) (hbd : zBd dri 9 (-9) 9) (hmo : mOk T mat) (hty : (0 ≤ tm ∧ tm ≤ 9) ∧ 0 ≤ yr ∧ yr ≤ 999) : zMw l yX11_endYear wsX11_endYear (zRm 2) D cI cJ cZ [.ref md] [(md, .inr (9, [.ref bk, .ref nw, .ref nt, .int (zI T), .ref df, .int (zI cn), .ref chk, .int (zI ln), .ref pa, .int (zI wat), .int (zI who), .int (zI rs), .int (zI act), .int (zI fse), .ref rc, .ref qu, .ref ct, .ref ft, .ref wn, .ref wy, .ref nx, .ref im, .ref ik])), (nw, .inl (cI, 29, .inl (zA (nwS inc mat kd tm yr)))), (nt, .inl (cI, 9, .inl (zA ntf))), (df, .inl (cI, 9, .inl (zA dri)))] (S := Int × (Int → Int) × Int × Int × (Int → Int)) (fun u => u.1 = whyS T mat yr 46 0 0 ∧ u.2.1 = (if yr < 999 then yeaI T dri mat inc else inc) ∧ u.2.2.1 = (if yr < 999 then yeaH tm yr else tm) ∧ u.2.2.2.1 = (if yr < 999 then yr + 1 else yr)) (fun u => some (.int (zI u.1))) (fun u => [(md, .inr (9, [.ref bk, .ref nw, .ref nt, .int (zI T), .ref df, .int (zI cn), .ref chk, .int (zI ln), .ref pa, .int (zI wat), .int (zI who), .int (zI rs), .int (zI act), .int (zI fse), .ref rc, .ref qu, .ref ct, .ref ft, .ref wn, .ref wy, .ref nx, .ref im, .ref ik])), (nw, .inl (cI, 29, .inl (zA (nwS u.2.1 mat kd u.2.2.1 u.2.2.2.1)))), (nt, .inl (cI, 9, .inl (zA u.2.2.2.2))), (df, .inl (cI, 9, .inl (zA dri)))]) := by
  refine zMw_i (cc := cX11_endYear) (maxL := 3) (by decide +kernel) rfl (Nat.le_of_ble_eq_true rfl) rfl (fun _ => rfl) ?_
  intro p e s m args below meth c Q H0 ls F hK hz hl hret
  obtain ⟨hx, hb, hml, hown0, hts⟩ := id F
  have hown : s.vm.findClass RX11 = some m.cls := hown0
  obtain ⟨ws0, hw0⟩ : ∃ w : va_W, w = [(md, .inr (9, [.ref bk, .ref nw, .ref nt, .int (zI T), .ref df, .int (zI cn), .ref chk, .int (zI ln), .ref pa, .int (zI wat), .int (zI who), .int (zI rs), .int (zI act), .int (zI fse), .ref rc, .ref qu, .ref ct, .ref ft, .ref wn, .ref wy, .ref nx, .ref im, .ref ik])), (nw, .inl (cI, 29, .inl (zA (nwS inc mat kd tm yr)))), (nt, .inl (cI, 9, .inl (zA ntf))), (df, .inl (cI, 9, .inl (zA dri)))] := ⟨_, rfl⟩
  rw [← hw0] at hret
  have hz : zH D (zF ws0) H0 [(md, .inr (9, [.ref bk, .ref nw, .ref nt, .int (zI T), .ref df, .int (zI cn), .ref chk, .int (zI ln), .ref pa, .int (zI wat), .int (zI who), .int (zI rs), .int (zI act), .int (zI fse), .ref rc, .ref qu, .ref ct, .ref ft, .ref wn, .ref wy, .ref nx, .ref im, .ref ik])), (nw, .inl (cI, 29, .inl (zA (nwS inc mat kd tm yr)))), (nt, .inl (cI, 9, .inl (zA ntf))), (df, .inl (cI, 9, .inl (zA dri)))] H0 [] := by rw [hw0]; exact hz
  have hl : lv_has ls 3 [(0, .ref md)] := hl
  refine lv_aload_n hx hb dX11_endYear_0 rfl (lv_at hl 0 rfl) ?_
  refine z_get (C := RX11) (T := TX11) (N := 23) (ref := "HornCityModel") hx hb hts hin_X11_endYear_X11 hown hK hz 0 rfl rfl 1 (by decide) (hts _ fl_X11_endYear_13) rfl rfl dX11_endYear_1 ?_
  refine z_bipush hx hb dX11_endYear_4 (by decide) ?_
  refine z_iald hx hb hK hz 1 rfl (by omega) (by decide) dX11_endYear_6 ?_
  rw [nwS_28]
  refine z_sipush hx hb dX11_endYear_7 (by decide) ?_
  refine z_icmp_ne (tgt := 15) hx hb dX11_endYear_10 (by decide) (by omega) (by decide) (fun h10 => ?_) (fun h10 => ?_)
  ·
    refine z_iconst hx hb dX11_endYear_15 ?_
    refine lv_istore_n (lv' := [(1, .int (zI 0)), (0, .ref md)]) hx hb dX11_endYear_16 rfl hl (Nat.le_of_ble_eq_true rfl) rfl (fun ls hl => ?_)
    have L17 : ∀ (n : Nat) (k : Int) (nx9 : Int → Int) (H : Heap) (locs : List Loc) (ls : Array Slot), ((9 - k).toNat = n) → (0 ≤ k ∧ k ≤ 9) → (∀ q, 0 ≤ q → q < k → nx9 q = nexS dri mat inc q) → zH D (zF ws0) H0 [(md, .inr (9, [.ref bk, .ref nw, .ref nt, .int (zI T), .ref df, .int (zI cn), .ref chk, .int (zI ln), .ref pa, .int (zI wat), .int (zI who), .int (zI rs), .int (zI act), .int (zI fse), .ref rc, .ref qu, .ref ct, .ref ft, .ref wn, .ref wy, .ref nx, .ref im, .ref ik])), (nw, .inl (cI, 29, .inl (zA (nwS inc mat kd tm yr)))), (nt, .inl (cI, 9, .inl (zA nx9))), (df, .inl (cI, 9, .inl (zA dri)))] H locs → lv_has ls 3 [(1, .int (zI k)), (0, .ref md)] → W p l e (zRm 2) s m args below meth c H locs 0 0 Q (F0 m 17 ls []) := by
      intro n
      refine Nat.strongRecOn n ?_
      intro n ih17 k nx9 H locs ls hn17 h0 hc hz hl
      refine lv_iload_n hx hb dX11_endYear_17 rfl (lv_at hl 0 rfl) ?_
      refine z_bipush hx hb dX11_endYear_18 (by decide) ?_
      refine z_icmp_ge (tgt := 128) hx hb dX11_endYear_20 (by decide) (by omega) (by decide) (fun h20 => ?_) (fun h20 => ?_)
      ·
        refine z_iconst hx hb dX11_endYear_128 ?_
        refine lv_istore_n (lv' := [(1, .int (zI 0)), (0, .ref md)]) hx hb dX11_endYear_129 rfl hl (Nat.le_of_ble_eq_true rfl) rfl (fun ls hl => ?_)
        have L130 : ∀ (n : Nat) (k : Int) (inx : Int → Int) (H : Heap) (locs : List Loc) (ls : Array Slot), ((9 - k).toNat = n) → (0 ≤ k ∧ k ≤ 9) → (inx = yeaN T dri mat inc k) → zH D (zF ws0) H0 [(md, .inr (9, [.ref bk, .ref nw, .ref nt, .int (zI T), .ref df, .int (zI cn), .ref chk, .int (zI ln), .ref pa, .int (zI wat), .int (zI who), .int (zI rs), .int (zI act), .int (zI fse), .ref rc, .ref qu, .ref ct, .ref ft, .ref wn, .ref wy, .ref nx, .ref im, .ref ik])), (nw, .inl (cI, 29, .inl (zA (nwS inx mat kd tm yr)))), (nt, .inl (cI, 9, .inl (zA nx9))), (df, .inl (cI, 9, .inl (zA dri)))] H locs → lv_has ls 3 [(1, .int (zI k)), (0, .ref md)] → W p l e (zRm 2) s m args below meth c H locs 0 0 Q (F0 m 130 ls []) := by
          intro n
          refine Nat.strongRecOn n ?_
          intro n ih130 k inx H locs ls hn130 h0b hi hz hl
          refine lv_iload_n hx hb dX11_endYear_130 rfl (lv_at hl 0 rfl) ?_
          refine z_bipush hx hb dX11_endYear_131 (by decide) ?_
          refine z_icmp_ge (tgt := 171) hx hb dX11_endYear_133 (by decide) (by omega) (by decide) (fun h133 => ?_) (fun h133 => ?_)
          ·
            have hz := zH_ext hz 1 (nwS (yeaI T dri mat inc) mat kd tm yr) rfl (fun j a b => by rw [hi, show k = 9 by omega]; exact nwS_cg (fun q c d => by unfold yeaN; rw [if_pos d]) j a b)
            have hz : zH D (zF ws0) H0 [(md, .inr (9, [.ref bk, .ref nw, .ref nt, .int (zI T), .ref df, .int (zI cn), .ref chk, .int (zI ln), .ref pa, .int (zI wat), .int (zI who), .int (zI rs), .int (zI act), .int (zI fse), .ref rc, .ref qu, .ref ct, .ref ft, .ref wn, .ref wy, .ref nx, .ref im, .ref ik])), (nw, .inl (cI, 29, .inl (zA (nwS (yeaI T dri mat inc) mat kd tm yr)))), (nt, .inl (cI, 9, .inl (zA nx9))), (df, .inl (cI, 9, .inl (zA dri)))] H locs := hz
            refine lv_aload_n hx hb dX11_endYear_171 rfl (lv_at hl 1 rfl) ?_
            refine z_get (C := RX11) (T := TX11) (N := 23) (ref := "HornCityModel") hx hb hts hin_X11_endYear_X11 hown hK hz 0 rfl rfl 1 (by decide) (hts _ fl_X11_endYear_13) rfl rfl dX11_endYear_172 ?_
            refine z_bipush hx hb dX11_endYear_175 (by decide) ?_
            refine lv_dup2_11 hx hb dX11_endYear_177 rfl rfl ?_
            refine z_iald hx hb hK hz 1 rfl (by omega) (by decide) dX11_endYear_178 ?_
            rw [nwS_28]
            refine z_iconst hx hb dX11_endYear_179 ?_
            refine z_iadd hx hb dX11_endYear_180 ?_
            refine z_iast hx hb hK hz 1 rfl (by omega) (by decide) dX11_endYear_181 (fun H locs hz => ?_)
            have hz := zH_ext hz 1 (nwS (yeaI T dri mat inc) mat kd tm (yr + 1)) rfl nwS_u28
            have hz : zH D (zF ws0) H0 [(md, .inr (9, [.ref bk, .ref nw, .ref nt, .int (zI T), .ref df, .int (zI cn), .ref chk, .int (zI ln), .ref pa, .int (zI wat), .int (zI who), .int (zI rs), .int (zI act), .int (zI fse), .ref rc, .ref qu, .ref ct, .ref ft, .ref wn, .ref wy, .ref nx, .ref im, .ref ik])), (nw, .inl (cI, 29, .inl (zA (nwS (yeaI T dri mat inc) mat kd tm (yr + 1))))), (nt, .inl (cI, 9, .inl (zA nx9))), (df, .inl (cI, 9, .inl (zA dri)))] H locs := hz
            refine lv_aload_n hx hb dX11_endYear_182 rfl (lv_at hl 1 rfl) ?_
            refine z_get (C := RX11) (T := TX11) (N := 23) (ref := "HornCityModel") hx hb hts hin_X11_endYear_X11 hown hK hz 0 rfl rfl 1 (by decide) (hts _ fl_X11_endYear_13) rfl rfl dX11_endYear_183 ?_
            refine z_bipush hx hb dX11_endYear_186 (by decide) ?_
            refine lv_dup2_11 hx hb dX11_endYear_188 rfl rfl ?_
            refine z_iald hx hb hK hz 1 rfl (by omega) (by decide) dX11_endYear_189 ?_
            rw [nwS_27]
            refine lv_aload_n hx hb dX11_endYear_190 rfl (lv_at hl 1 rfl) ?_
            refine z_get (C := RX11) (T := TX11) (N := 23) (ref := "HornCityModel") hx hb hts hin_X11_endYear_X11 hown hK hz 0 rfl rfl 1 (by decide) (hts _ fl_X11_endYear_13) rfl rfl dX11_endYear_191 ?_
            refine z_bipush hx hb dX11_endYear_194 (by decide) ?_
            refine z_iald hx hb hK hz 1 rfl (by omega) (by decide) dX11_endYear_196 ?_
            rw [nwS_28]
            refine z_iconst hx hb dX11_endYear_197 ?_
            refine z_irem hx hb dX11_endYear_198 (by omega) (by omega) ?_
            refine z_if_ne (tgt := 218) hx hb dX11_endYear_199 (by decide) (by omega) (fun h199 => ?_) (fun h199 => ?_)
            ·
              refine z_iconst hx hb dX11_endYear_218 ?_
              refine z_iadd hx hb dX11_endYear_219 ?_
              refine z_iast hx hb hK hz 1 rfl (by omega) (by decide) dX11_endYear_220 (fun H locs hz => ?_)
              rw [nwS_u27] at hz
              have hz : zH D (zF ws0) H0 [(md, .inr (9, [.ref bk, .ref nw, .ref nt, .int (zI T), .ref df, .int (zI cn), .ref chk, .int (zI ln), .ref pa, .int (zI wat), .int (zI who), .int (zI rs), .int (zI act), .int (zI fse), .ref rc, .ref qu, .ref ct, .ref ft, .ref wn, .ref wy, .ref nx, .ref im, .ref ik])), (nw, .inl (cI, 29, .inl (zA (nwS (yeaI T dri mat inc) mat kd (tm + 0) (yr + 1))))), (nt, .inl (cI, 9, .inl (zA nx9))), (df, .inl (cI, 9, .inl (zA dri)))] H locs := hz
              refine z_iconst hx hb dX11_endYear_221 ?_
              exact hret ((0 : Int), (yeaI T dri mat inc : Int → Int), (tm + 0 : Int), (yr + 1 : Int), (nx9 : Int → Int)) dX11_endYear_222 (show 0 = whyS T mat yr 46 0 0 ∧ (yeaI T dri mat inc) = (if yr < 999 then yeaI T dri mat inc else inc) ∧ (tm + 0) = (if yr < 999 then yeaH tm yr else tm) ∧ (yr + 1) = (if yr < 999 then yr + 1 else yr) from ⟨by unfold whyS; rw [if_pos rfl, if_pos (by omega)], by rw [if_pos (by omega)], by rw [if_pos (by omega)]; unfold yeaH; first | rw [if_pos (by omega)] | (rw [if_neg (by omega)]; omega), by rw [if_pos (by omega)]⟩) hz
            ·
              refine lv_aload_n hx hb dX11_endYear_202 rfl (lv_at hl 1 rfl) ?_
              refine z_get (C := RX11) (T := TX11) (N := 23) (ref := "HornCityModel") hx hb hts hin_X11_endYear_X11 hown hK hz 0 rfl rfl 1 (by decide) (hts _ fl_X11_endYear_13) rfl rfl dX11_endYear_203 ?_
              refine z_bipush hx hb dX11_endYear_206 (by decide) ?_
              refine z_iald hx hb hK hz 1 rfl (by omega) (by decide) dX11_endYear_208 ?_
              rw [nwS_27]
              refine z_bipush hx hb dX11_endYear_209 (by decide) ?_
              refine z_icmp_ge (tgt := 218) hx hb dX11_endYear_211 (by decide) (by omega) (by decide) (fun h211 => ?_) (fun h211 => ?_)
              ·
                refine z_iconst hx hb dX11_endYear_218 ?_
                refine z_iadd hx hb dX11_endYear_219 ?_
                refine z_iast hx hb hK hz 1 rfl (by omega) (by decide) dX11_endYear_220 (fun H locs hz => ?_)
                rw [nwS_u27] at hz
                have hz : zH D (zF ws0) H0 [(md, .inr (9, [.ref bk, .ref nw, .ref nt, .int (zI T), .ref df, .int (zI cn), .ref chk, .int (zI ln), .ref pa, .int (zI wat), .int (zI who), .int (zI rs), .int (zI act), .int (zI fse), .ref rc, .ref qu, .ref ct, .ref ft, .ref wn, .ref wy, .ref nx, .ref im, .ref ik])), (nw, .inl (cI, 29, .inl (zA (nwS (yeaI T dri mat inc) mat kd (tm + 0) (yr + 1))))), (nt, .inl (cI, 9, .inl (zA nx9))), (df, .inl (cI, 9, .inl (zA dri)))] H locs := hz
                refine z_iconst hx hb dX11_endYear_221 ?_
                exact hret ((0 : Int), (yeaI T dri mat inc : Int → Int), (tm + 0 : Int), (yr + 1 : Int), (nx9 : Int → Int)) dX11_endYear_222 (show 0 = whyS T mat yr 46 0 0 ∧ (yeaI T dri mat inc) = (if yr < 999 then yeaI T dri mat inc else inc) ∧ (tm + 0) = (if yr < 999 then yeaH tm yr else tm) ∧ (yr + 1) = (if yr < 999 then yr + 1 else yr) from ⟨by unfold whyS; rw [if_pos rfl, if_pos (by omega)], by rw [if_pos (by omega)], by rw [if_pos (by omega)]; unfold yeaH; first | rw [if_pos (by omega)] | (rw [if_neg (by omega)]; omega), by rw [if_pos (by omega)]⟩) hz
              ·
                refine z_iconst hx hb dX11_endYear_214 ?_
                refine lv_goto (tgt := 219) hx hb dX11_endYear_215 (by decide) ?_
                refine z_iadd hx hb dX11_endYear_219 ?_
                refine z_iast hx hb hK hz 1 rfl (by omega) (by decide) dX11_endYear_220 (fun H locs hz => ?_)
                rw [nwS_u27] at hz
                have hz : zH D (zF ws0) H0 [(md, .inr (9, [.ref bk, .ref nw, .ref nt, .int (zI T), .ref df, .int (zI cn), .ref chk, .int (zI ln), .ref pa, .int (zI wat), .int (zI who), .int (zI rs), .int (zI act), .int (zI fse), .ref rc, .ref qu, .ref ct, .ref ft, .ref wn, .ref wy, .ref nx, .ref im, .ref ik])), (nw, .inl (cI, 29, .inl (zA (nwS (yeaI T dri mat inc) mat kd (tm + 1) (yr + 1))))), (nt, .inl (cI, 9, .inl (zA nx9))), (df, .inl (cI, 9, .inl (zA dri)))] H locs := hz
                refine z_iconst hx hb dX11_endYear_221 ?_
                exact hret ((0 : Int), (yeaI T dri mat inc : Int → Int), (tm + 1 : Int), (yr + 1 : Int), (nx9 : Int → Int)) dX11_endYear_222 (show 0 = whyS T mat yr 46 0 0 ∧ (yeaI T dri mat inc) = (if yr < 999 then yeaI T dri mat inc else inc) ∧ (tm + 1) = (if yr < 999 then yeaH tm yr else tm) ∧ (yr + 1) = (if yr < 999 then yr + 1 else yr) from ⟨by unfold whyS; rw [if_pos rfl, if_pos (by omega)], by rw [if_pos (by omega)], by rw [if_pos (by omega)]; unfold yeaH; first | rw [if_pos (by omega)] | (rw [if_neg (by omega)]; omega), by rw [if_pos (by omega)]⟩) hz
          ·
            refine lv_aload_n hx hb dX11_endYear_136 rfl (lv_at hl 1 rfl) ?_
            refine z_get (C := RX11) (T := TX11) (N := 23) (ref := "HornCityModel") hx hb hts hin_X11_endYear_X11 hown hK hz 0 rfl rfl 1 (by decide) (hts _ fl_X11_endYear_13) rfl rfl dX11_endYear_137 ?_
            refine lv_iload_n hx hb dX11_endYear_140 rfl (lv_at hl 0 rfl) ?_
            refine lv_aload_n hx hb dX11_endYear_141 rfl (lv_at hl 1 rfl) ?_
            refine lv_iload_n hx hb dX11_endYear_142 rfl (lv_at hl 0 rfl) ?_
            refine z_callVp (As := [.int (zI k)]) (rest := [.int (zI k), .ref nw]) (C := RX11) (T := TX11) (N := 23) F hK hz hl (c_X11_isThere l D cI cJ cZ md bk nw nt df chk pa rc qu ct ft wn wy nx im ik T cn ln wat who rs act fse k (by omega) (by first | assumption | omega)) (cwV 1 hts gX11_endYear_X11_isThere rfl rfl rfl (by decide +kernel) ⟨Nat.le_of_ble_eq_true rfl, Nat.le_of_ble_eq_true rfl⟩) rfl 0 rfl [0] rfl rfl rfl rfl (Nat.le_of_ble_eq_true rfl) ⟨Nat.le_of_ble_eq_true rfl, Nat.le_of_ble_eq_true rfl⟩ dX11_endYear_143 ?_
            refine z_ifb_eq (tgt := 158) hx hb dX11_endYear_146 (by decide) (fun h146 => ?_) (fun h146 => ?_)
            ·
              refine lv_aload_n hx hb dX11_endYear_158 rfl (lv_at hl 1 rfl) ?_
              refine z_get (C := RX11) (T := TX11) (N := 23) (ref := "HornCityModel") hx hb hts hin_X11_endYear_X11 hown hK hz 0 rfl rfl 1 (by decide) (hts _ fl_X11_endYear_13) rfl rfl dX11_endYear_159 ?_
              refine lv_iload_n hx hb dX11_endYear_162 rfl (lv_at hl 0 rfl) ?_
              refine z_iald hx hb hK hz 1 rfl (by omega) (by decide) dX11_endYear_163 ?_
              rw [nwS_i (k := k) (by omega)]
              refine z_iast hx hb hK hz 1 rfl (by omega) (by decide) dX11_endYear_164 (fun H locs hz => ?_)
              rw [nwS_ui (k := k) (by omega)] at hz
              have hz : zH D (zF ws0) H0 [(md, .inr (9, [.ref bk, .ref nw, .ref nt, .int (zI T), .ref df, .int (zI cn), .ref chk, .int (zI ln), .ref pa, .int (zI wat), .int (zI who), .int (zI rs), .int (zI act), .int (zI fse), .ref rc, .ref qu, .ref ct, .ref ft, .ref wn, .ref wy, .ref nx, .ref im, .ref ik])), (nw, .inl (cI, 29, .inl (zA (nwS (zU inx k (inx k)) mat kd tm yr)))), (nt, .inl (cI, 9, .inl (zA nx9))), (df, .inl (cI, 9, .inl (zA dri)))] H locs := hz
              refine z_iinc (lv' := [(1, .int (zI (k + 1))), (0, .ref md)]) hx hb dX11_endYear_165 hl (k := 0) rfl (Nat.le_of_ble_eq_true rfl) rfl (fun ls hl => ?_)
              refine lv_goto (tgt := 130) hx hb dX11_endYear_168 (by decide) ?_
              exact ih130 _ (by omega) (k + 1) (zU inx k (inx k)) H locs ls rfl (by omega) (by rw [hi]; rw [show (yeaN T dri mat inc k) k = inc k from by unfold yeaN; rw [if_neg (by omega)]]; rw [yeaN_self]; exact yeaN_out h146) hz (lv_sub hl [0, 1] rfl)
            ·
              refine lv_aload_n hx hb dX11_endYear_149 rfl (lv_at hl 1 rfl) ?_
              refine z_get (C := RX11) (T := TX11) (N := 23) (ref := "HornCityModel") hx hb hts hin_X11_endYear_X11 hown hK hz 0 rfl rfl 2 (by decide) (hts _ fl_X11_endYear_16) rfl rfl dX11_endYear_150 ?_
              refine lv_iload_n hx hb dX11_endYear_153 rfl (lv_at hl 0 rfl) ?_
              refine z_iald hx hb hK hz 2 rfl (by omega) (by decide) dX11_endYear_154 ?_
              refine lv_goto (tgt := 164) hx hb dX11_endYear_155 (by decide) ?_
              refine z_iast hx hb hK hz 1 rfl (by omega) (by decide) dX11_endYear_164 (fun H locs hz => ?_)
              rw [nwS_ui (k := k) (by omega)] at hz
              have hz : zH D (zF ws0) H0 [(md, .inr (9, [.ref bk, .ref nw, .ref nt, .int (zI T), .ref df, .int (zI cn), .ref chk, .int (zI ln), .ref pa, .int (zI wat), .int (zI who), .int (zI rs), .int (zI act), .int (zI fse), .ref rc, .ref qu, .ref ct, .ref ft, .ref wn, .ref wy, .ref nx, .ref im, .ref ik])), (nw, .inl (cI, 29, .inl (zA (nwS (zU inx k (nx9 k)) mat kd tm yr)))), (nt, .inl (cI, 9, .inl (zA nx9))), (df, .inl (cI, 9, .inl (zA dri)))] H locs := hz
              refine z_iinc (lv' := [(1, .int (zI (k + 1))), (0, .ref md)]) hx hb dX11_endYear_165 hl (k := 0) rfl (Nat.le_of_ble_eq_true rfl) rfl (fun ls hl => ?_)
              refine lv_goto (tgt := 130) hx hb dX11_endYear_168 (by decide) ?_
              exact ih130 _ (by omega) (k + 1) (zU inx k (nx9 k)) H locs ls rfl (by omega) (by rw [hi]; rw [hc k (by omega) (by omega), nexS_is hmo h146]; exact yeaN_in h146) hz (lv_sub hl [0, 1] rfl)
        exact L130 _ 0 inc H locs ls rfl (by decide) (yeaN_0) hz (lv_sub hl [0, 1] rfl)
      ·
        refine lv_aload_n hx hb dX11_endYear_23 rfl (lv_at hl 1 rfl) ?_
        refine z_get (C := RX11) (T := TX11) (N := 23) (ref := "HornCityModel") hx hb hts hin_X11_endYear_X11 hown hK hz 0 rfl rfl 1 (by decide) (hts _ fl_X11_endYear_13) rfl rfl dX11_endYear_24 ?_
        refine z_bipush hx hb dX11_endYear_27 (by decide) ?_
        refine lv_iload_n hx hb dX11_endYear_29 rfl (lv_at hl 0 rfl) ?_
        refine z_iadd hx hb dX11_endYear_30 ?_
        refine z_iald hx hb hK hz 1 rfl (by omega) (by decide) dX11_endYear_31 ?_
        rw [nwS_m (k := k) (by omega)]
        have hv31 := (mOk_bd hmo).ax k (by omega)
        refine z_if_ge (tgt := 39) hx hb dX11_endYear_32 (by decide) (by omega) (fun h32 => ?_) (fun h32 => ?_)
        ·
          refine lv_aload_n hx hb dX11_endYear_39 rfl (lv_at hl 1 rfl) ?_
          refine z_get (C := RX11) (T := TX11) (N := 23) (ref := "HornCityModel") hx hb hts hin_X11_endYear_X11 hown hK hz 0 rfl rfl 1 (by decide) (hts _ fl_X11_endYear_13) rfl rfl dX11_endYear_40 ?_
          refine lv_aload_n hx hb dX11_endYear_43 rfl (lv_at hl 1 rfl) ?_
          refine z_get (C := RX11) (T := TX11) (N := 23) (ref := "HornCityModel") hx hb hts hin_X11_endYear_X11 hown hK hz 0 rfl rfl 1 (by decide) (hts _ fl_X11_endYear_13) rfl rfl dX11_endYear_44 ?_
          refine z_bipush hx hb dX11_endYear_47 (by decide) ?_
          refine lv_iload_n hx hb dX11_endYear_49 rfl (lv_at hl 0 rfl) ?_
          refine z_iadd hx hb dX11_endYear_50 ?_
          refine z_iald hx hb hK hz 1 rfl (by omega) (by decide) dX11_endYear_51 ?_
          rw [nwS_m (k := k) (by omega)]
          have hv51 := (mOk_bd hmo).ax k (by omega)
          refine z_if_ge (tgt := 59) hx hb dX11_endYear_52 (by decide) (by omega) (fun h52 => ?_) (fun h52 => ?_)
          ·
            refine lv_aload_n hx hb dX11_endYear_59 rfl (lv_at hl 1 rfl) ?_
            refine z_get (C := RX11) (T := TX11) (N := 23) (ref := "HornCityModel") hx hb hts hin_X11_endYear_X11 hown hK hz 0 rfl rfl 1 (by decide) (hts _ fl_X11_endYear_13) rfl rfl dX11_endYear_60 ?_
            refine z_bipush hx hb dX11_endYear_63 (by decide) ?_
            refine lv_iload_n hx hb dX11_endYear_65 rfl (lv_at hl 0 rfl) ?_
            refine z_iadd hx hb dX11_endYear_66 ?_
            refine z_iald hx hb hK hz 1 rfl (by omega) (by decide) dX11_endYear_67 ?_
            rw [nwS_m (k := k) (by omega)]
            have hv67 := (mOk_bd hmo).ax k (by omega)
            refine z_iald hx hb hK hz 1 rfl (by omega) (by decide) dX11_endYear_68 ?_
            rw [nwS_i (k := mat k) (by omega)]
            have hv68 := (hbi).ax (mat k) (by omega)
            refine lv_aload_n hx hb dX11_endYear_69 rfl (lv_at hl 1 rfl) ?_
            refine z_get (C := RX11) (T := TX11) (N := 23) (ref := "HornCityModel") hx hb hts hin_X11_endYear_X11 hown hK hz 0 rfl rfl 1 (by decide) (hts _ fl_X11_endYear_13) rfl rfl dX11_endYear_70 ?_
            refine lv_iload_n hx hb dX11_endYear_73 rfl (lv_at hl 0 rfl) ?_
            refine z_iald hx hb hK hz 1 rfl (by omega) (by decide) dX11_endYear_74 ?_
            rw [nwS_i (k := k) (by omega)]
            have hv74 := (hbi).ax k (by omega)
            refine z_isub hx hb dX11_endYear_75 ?_
            refine z_callSp (As := [.int (zI ((inc (mat k)) - (inc k)))]) (rest := []) F hK hz hl (c_X11_over l D cI cJ cZ ((inc (mat k)) - (inc k)) (by omega)) (va_cwS 1 hts gX11_endYear_X11_over rfl rfl rfl (by decide +kernel) ⟨Nat.le_of_ble_eq_true rfl, Nat.le_of_ble_eq_true rfl⟩) [] rfl rfl rfl rfl (Nat.le_of_ble_eq_true rfl) ⟨Nat.le_of_ble_eq_true rfl, Nat.le_of_ble_eq_true rfl⟩ dX11_endYear_76 ?_
            refine lv_istore_n (lv' := [(2, .int (zI (((inc (mat k)) - (inc k)) % 180))), (1, .int (zI k)), (0, .ref md)]) hx hb dX11_endYear_79 rfl hl (Nat.le_of_ble_eq_true rfl) rfl (fun ls hl => ?_)
            refine lv_aload_n hx hb dX11_endYear_80 rfl (lv_at hl 2 rfl) ?_
            refine z_get (C := RX11) (T := TX11) (N := 23) (ref := "HornCityModel") hx hb hts hin_X11_endYear_X11 hown hK hz 0 rfl rfl 2 (by decide) (hts _ fl_X11_endYear_16) rfl rfl dX11_endYear_81 ?_
            refine lv_iload_n hx hb dX11_endYear_84 rfl (lv_at hl 1 rfl) ?_
            refine lv_aload_n hx hb dX11_endYear_85 rfl (lv_at hl 2 rfl) ?_
            refine z_get (C := RX11) (T := TX11) (N := 23) (ref := "HornCityModel") hx hb hts hin_X11_endYear_X11 hown hK hz 0 rfl rfl 1 (by decide) (hts _ fl_X11_endYear_13) rfl rfl dX11_endYear_86 ?_
            refine lv_iload_n hx hb dX11_endYear_89 rfl (lv_at hl 1 rfl) ?_
            refine z_iald hx hb hK hz 1 rfl (by omega) (by decide) dX11_endYear_90 ?_
            rw [nwS_i (k := k) (by omega)]
            have hv90 := (hbi).ax k (by omega)
            refine lv_aload_n hx hb dX11_endYear_91 rfl (lv_at hl 2 rfl) ?_
            refine z_get (C := RX11) (T := TX11) (N := 23) (ref := "HornCityModel") hx hb hts hin_X11_endYear_X11 hown hK hz 0 rfl rfl 4 (by decide) (hts _ fl_X11_endYear_19) rfl rfl dX11_endYear_92 ?_
            refine lv_iload_n hx hb dX11_endYear_95 rfl (lv_at hl 1 rfl) ?_
            refine z_iald hx hb hK hz 3 rfl (by omega) (by decide) dX11_endYear_96 ?_
            have hv96 := (hbd).ax k (by omega)
            refine z_iadd hx hb dX11_endYear_97 ?_
            refine lv_iload_n hx hb dX11_endYear_98 rfl (lv_at hl 0 rfl) ?_
            refine z_if_ne (tgt := 106) hx hb dX11_endYear_99 (by decide) (by omega) (fun h99 => ?_) (fun h99 => ?_)
            ·
              refine lv_iload_n hx hb dX11_endYear_106 rfl (lv_at hl 0 rfl) ?_
              refine z_bipush hx hb dX11_endYear_107 (by decide) ?_
              refine z_icmp_le (tgt := 116) hx hb dX11_endYear_109 (by decide) (by omega) (by decide) (fun h109 => ?_) (fun h109 => ?_)
              ·
                refine z_iconst hx hb dX11_endYear_116 ?_
                refine z_iadd hx hb dX11_endYear_117 ?_
                refine z_callSp (As := [.int (zI (((inc k) + (dri k)) + 1))]) (rest := [.int (zI k), .ref nt]) F hK hz hl (c_X11_over l D cI cJ cZ (((inc k) + (dri k)) + 1) (by omega)) (va_cwS 1 hts gX11_endYear_X11_over rfl rfl rfl (by decide +kernel) ⟨Nat.le_of_ble_eq_true rfl, Nat.le_of_ble_eq_true rfl⟩) [] rfl rfl rfl rfl (Nat.le_of_ble_eq_true rfl) ⟨Nat.le_of_ble_eq_true rfl, Nat.le_of_ble_eq_true rfl⟩ dX11_endYear_118 ?_
                refine z_iast hx hb hK hz 2 rfl (by omega) (by decide) dX11_endYear_121 (fun H locs hz => ?_)
                have hz : zH D (zF ws0) H0 [(md, .inr (9, [.ref bk, .ref nw, .ref nt, .int (zI T), .ref df, .int (zI cn), .ref chk, .int (zI ln), .ref pa, .int (zI wat), .int (zI who), .int (zI rs), .int (zI act), .int (zI fse), .ref rc, .ref qu, .ref ct, .ref ft, .ref wn, .ref wy, .ref nx, .ref im, .ref ik])), (nw, .inl (cI, 29, .inl (zA (nwS inc mat kd tm yr)))), (nt, .inl (cI, 9, .inl (zA (zU nx9 k ((((inc k) + (dri k)) + 1) % 180))))), (df, .inl (cI, 9, .inl (zA dri)))] H locs := hz
                refine z_iinc (lv' := [(1, .int (zI (k + 1))), (2, .int (zI (((inc (mat k)) - (inc k)) % 180))), (0, .ref md)]) hx hb dX11_endYear_122 hl (k := 1) rfl (Nat.le_of_ble_eq_true rfl) rfl (fun ls hl => ?_)
                refine lv_goto (tgt := 17) hx hb dX11_endYear_125 (by decide) ?_
                exact ih17 _ (by omega) (k + 1) (zU nx9 k ((((inc k) + (dri k)) + 1) % 180)) H locs ls rfl (by omega) (by have e9 : nexS dri mat inc k = ((((inc k) + (dri k)) + 1) % 180) := (by unfold nexS; rw [show toS mat inc k = (inc (mat k) - inc k) % 180 from if_neg (by omega)]; first | rw [if_pos (by omega)] | rw [if_neg (by omega), if_pos (by omega)] | rw [if_neg (by omega), if_neg (by omega)]); have h9 := zU_cp hc; rw [e9] at h9; exact h9) hz (lv_sub hl [0, 2] rfl)
              ·
                refine z_iconst hx hb dX11_endYear_112 ?_
                refine lv_goto (tgt := 117) hx hb dX11_endYear_113 (by decide) ?_
                refine z_iadd hx hb dX11_endYear_117 ?_
                refine z_callSp (As := [.int (zI (((inc k) + (dri k)) + (-1)))]) (rest := [.int (zI k), .ref nt]) F hK hz hl (c_X11_over l D cI cJ cZ (((inc k) + (dri k)) + (-1)) (by omega)) (va_cwS 1 hts gX11_endYear_X11_over rfl rfl rfl (by decide +kernel) ⟨Nat.le_of_ble_eq_true rfl, Nat.le_of_ble_eq_true rfl⟩) [] rfl rfl rfl rfl (Nat.le_of_ble_eq_true rfl) ⟨Nat.le_of_ble_eq_true rfl, Nat.le_of_ble_eq_true rfl⟩ dX11_endYear_118 ?_
                refine z_iast hx hb hK hz 2 rfl (by omega) (by decide) dX11_endYear_121 (fun H locs hz => ?_)
                have hz : zH D (zF ws0) H0 [(md, .inr (9, [.ref bk, .ref nw, .ref nt, .int (zI T), .ref df, .int (zI cn), .ref chk, .int (zI ln), .ref pa, .int (zI wat), .int (zI who), .int (zI rs), .int (zI act), .int (zI fse), .ref rc, .ref qu, .ref ct, .ref ft, .ref wn, .ref wy, .ref nx, .ref im, .ref ik])), (nw, .inl (cI, 29, .inl (zA (nwS inc mat kd tm yr)))), (nt, .inl (cI, 9, .inl (zA (zU nx9 k ((((inc k) + (dri k)) + (-1)) % 180))))), (df, .inl (cI, 9, .inl (zA dri)))] H locs := hz
                refine z_iinc (lv' := [(1, .int (zI (k + 1))), (2, .int (zI (((inc (mat k)) - (inc k)) % 180))), (0, .ref md)]) hx hb dX11_endYear_122 hl (k := 1) rfl (Nat.le_of_ble_eq_true rfl) rfl (fun ls hl => ?_)
                refine lv_goto (tgt := 17) hx hb dX11_endYear_125 (by decide) ?_
                exact ih17 _ (by omega) (k + 1) (zU nx9 k ((((inc k) + (dri k)) + (-1)) % 180)) H locs ls rfl (by omega) (by have e9 : nexS dri mat inc k = ((((inc k) + (dri k)) + (-1)) % 180) := (by unfold nexS; rw [show toS mat inc k = (inc (mat k) - inc k) % 180 from if_neg (by omega)]; first | rw [if_pos (by omega)] | rw [if_neg (by omega), if_pos (by omega)] | rw [if_neg (by omega), if_neg (by omega)]); have h9 := zU_cp hc; rw [e9] at h9; exact h9) hz (lv_sub hl [0, 2] rfl)
            ·
              refine z_iconst hx hb dX11_endYear_102 ?_
              refine lv_goto (tgt := 117) hx hb dX11_endYear_103 (by decide) ?_
              refine z_iadd hx hb dX11_endYear_117 ?_
              refine z_callSp (As := [.int (zI (((inc k) + (dri k)) + 0))]) (rest := [.int (zI k), .ref nt]) F hK hz hl (c_X11_over l D cI cJ cZ (((inc k) + (dri k)) + 0) (by omega)) (va_cwS 1 hts gX11_endYear_X11_over rfl rfl rfl (by decide +kernel) ⟨Nat.le_of_ble_eq_true rfl, Nat.le_of_ble_eq_true rfl⟩) [] rfl rfl rfl rfl (Nat.le_of_ble_eq_true rfl) ⟨Nat.le_of_ble_eq_true rfl, Nat.le_of_ble_eq_true rfl⟩ dX11_endYear_118 ?_
              refine z_iast hx hb hK hz 2 rfl (by omega) (by decide) dX11_endYear_121 (fun H locs hz => ?_)
              have hz : zH D (zF ws0) H0 [(md, .inr (9, [.ref bk, .ref nw, .ref nt, .int (zI T), .ref df, .int (zI cn), .ref chk, .int (zI ln), .ref pa, .int (zI wat), .int (zI who), .int (zI rs), .int (zI act), .int (zI fse), .ref rc, .ref qu, .ref ct, .ref ft, .ref wn, .ref wy, .ref nx, .ref im, .ref ik])), (nw, .inl (cI, 29, .inl (zA (nwS inc mat kd tm yr)))), (nt, .inl (cI, 9, .inl (zA (zU nx9 k ((((inc k) + (dri k)) + 0) % 180))))), (df, .inl (cI, 9, .inl (zA dri)))] H locs := hz
              refine z_iinc (lv' := [(1, .int (zI (k + 1))), (2, .int (zI (((inc (mat k)) - (inc k)) % 180))), (0, .ref md)]) hx hb dX11_endYear_122 hl (k := 1) rfl (Nat.le_of_ble_eq_true rfl) rfl (fun ls hl => ?_)
              refine lv_goto (tgt := 17) hx hb dX11_endYear_125 (by decide) ?_
              exact ih17 _ (by omega) (k + 1) (zU nx9 k ((((inc k) + (dri k)) + 0) % 180)) H locs ls rfl (by omega) (by have e9 : nexS dri mat inc k = ((((inc k) + (dri k)) + 0) % 180) := (by unfold nexS; rw [show toS mat inc k = (inc (mat k) - inc k) % 180 from if_neg (by omega)]; first | rw [if_pos (by omega)] | rw [if_neg (by omega), if_pos (by omega)] | rw [if_neg (by omega), if_neg (by omega)]); have h9 := zU_cp hc; rw [e9] at h9; exact h9) hz (lv_sub hl [0, 2] rfl)
          ·
            exfalso
            first | omega | (revert h52; simp_all; done) | simp_all
        ·
          refine z_iconst hx hb dX11_endYear_35 ?_
          refine lv_goto (tgt := 79) hx hb dX11_endYear_36 (by decide) ?_
          refine lv_istore_n (lv' := [(2, .int (zI 0)), (1, .int (zI k)), (0, .ref md)]) hx hb dX11_endYear_79 rfl hl (Nat.le_of_ble_eq_true rfl) rfl (fun ls hl => ?_)
          refine lv_aload_n hx hb dX11_endYear_80 rfl (lv_at hl 2 rfl) ?_
          refine z_get (C := RX11) (T := TX11) (N := 23) (ref := "HornCityModel") hx hb hts hin_X11_endYear_X11 hown hK hz 0 rfl rfl 2 (by decide) (hts _ fl_X11_endYear_16) rfl rfl dX11_endYear_81 ?_
          refine lv_iload_n hx hb dX11_endYear_84 rfl (lv_at hl 1 rfl) ?_
          refine lv_aload_n hx hb dX11_endYear_85 rfl (lv_at hl 2 rfl) ?_
          refine z_get (C := RX11) (T := TX11) (N := 23) (ref := "HornCityModel") hx hb hts hin_X11_endYear_X11 hown hK hz 0 rfl rfl 1 (by decide) (hts _ fl_X11_endYear_13) rfl rfl dX11_endYear_86 ?_
          refine lv_iload_n hx hb dX11_endYear_89 rfl (lv_at hl 1 rfl) ?_
          refine z_iald hx hb hK hz 1 rfl (by omega) (by decide) dX11_endYear_90 ?_
          rw [nwS_i (k := k) (by omega)]
          have hv90 := (hbi).ax k (by omega)
          refine lv_aload_n hx hb dX11_endYear_91 rfl (lv_at hl 2 rfl) ?_
          refine z_get (C := RX11) (T := TX11) (N := 23) (ref := "HornCityModel") hx hb hts hin_X11_endYear_X11 hown hK hz 0 rfl rfl 4 (by decide) (hts _ fl_X11_endYear_19) rfl rfl dX11_endYear_92 ?_
          refine lv_iload_n hx hb dX11_endYear_95 rfl (lv_at hl 1 rfl) ?_
          refine z_iald hx hb hK hz 3 rfl (by omega) (by decide) dX11_endYear_96 ?_
          have hv96 := (hbd).ax k (by omega)
          refine z_iadd hx hb dX11_endYear_97 ?_
          refine lv_iload_n hx hb dX11_endYear_98 rfl (lv_at hl 0 rfl) ?_
          refine z_if_ne (tgt := 106) hx hb dX11_endYear_99 (by decide) (by decide) (fun h99 => ?_) (fun h99 => ?_)
          ·
            exfalso
            first | omega | (revert h99; simp_all; done) | simp_all
          ·
            refine z_iconst hx hb dX11_endYear_102 ?_
            refine lv_goto (tgt := 117) hx hb dX11_endYear_103 (by decide) ?_
            refine z_iadd hx hb dX11_endYear_117 ?_
            refine z_callSp (As := [.int (zI (((inc k) + (dri k)) + 0))]) (rest := [.int (zI k), .ref nt]) F hK hz hl (c_X11_over l D cI cJ cZ (((inc k) + (dri k)) + 0) (by omega)) (va_cwS 1 hts gX11_endYear_X11_over rfl rfl rfl (by decide +kernel) ⟨Nat.le_of_ble_eq_true rfl, Nat.le_of_ble_eq_true rfl⟩) [] rfl rfl rfl rfl (Nat.le_of_ble_eq_true rfl) ⟨Nat.le_of_ble_eq_true rfl, Nat.le_of_ble_eq_true rfl⟩ dX11_endYear_118 ?_
            refine z_iast hx hb hK hz 2 rfl (by omega) (by decide) dX11_endYear_121 (fun H locs hz => ?_)
            have hz : zH D (zF ws0) H0 [(md, .inr (9, [.ref bk, .ref nw, .ref nt, .int (zI T), .ref df, .int (zI cn), .ref chk, .int (zI ln), .ref pa, .int (zI wat), .int (zI who), .int (zI rs), .int (zI act), .int (zI fse), .ref rc, .ref qu, .ref ct, .ref ft, .ref wn, .ref wy, .ref nx, .ref im, .ref ik])), (nw, .inl (cI, 29, .inl (zA (nwS inc mat kd tm yr)))), (nt, .inl (cI, 9, .inl (zA (zU nx9 k ((((inc k) + (dri k)) + 0) % 180))))), (df, .inl (cI, 9, .inl (zA dri)))] H locs := hz
            refine z_iinc (lv' := [(1, .int (zI (k + 1))), (2, .int (zI 0)), (0, .ref md)]) hx hb dX11_endYear_122 hl (k := 1) rfl (Nat.le_of_ble_eq_true rfl) rfl (fun ls hl => ?_)
            refine lv_goto (tgt := 17) hx hb dX11_endYear_125 (by decide) ?_
            exact ih17 _ (by omega) (k + 1) (zU nx9 k ((((inc k) + (dri k)) + 0) % 180)) H locs ls rfl (by omega) (by have e9 : nexS dri mat inc k = ((((inc k) + (dri k)) + 0) % 180) := (by unfold nexS; rw [show toS mat inc k = 0 from if_pos (by omega), if_pos rfl]); have h9 := zU_cp hc; rw [e9] at h9; exact h9) hz (lv_sub hl [0, 2] rfl)
    exact L17 _ 0 ntf H0 [] ls rfl (by decide) (fun q h1 h2 => absurd h1 (by omega)) hz (lv_sub hl [0, 1] rfl)
  ·
    refine z_iconst hx hb dX11_endYear_13 ?_
    exact hret ((4 : Int), (inc : Int → Int), (tm : Int), (yr : Int), (ntf : Int → Int)) dX11_endYear_14 (show 4 = whyS T mat yr 46 0 0 ∧ inc = (if yr < 999 then yeaI T dri mat inc else inc) ∧ tm = (if yr < 999 then yeaH tm yr else tm) ∧ yr = (if yr < 999 then yr + 1 else yr) from ⟨by unfold whyS; rw [if_pos rfl, if_neg (by omega)], by rw [if_neg (by omega)], by rw [if_neg (by omega)], by rw [if_neg (by omega)]⟩) hz
