theorem bk_turn {T : Int} {dri inc mat : Int → Int} {tm yr c a x0 : Int} (h : 0 ≤ a ∧ a < c) (hk : (75 * x0 + 74) % 65537 / 9 % 8 < 2) (hx : 0 ≤ x0) :
    drwS T dri (c - a).toNat x0 (inc, mat, tm, yr) = drwS T dri (c - (a + 1)).toNat ((75 * x0 + 74) % 65537) (turI T inc ((75 * x0 + 74) % 65537 % 9) (1 + (75 * x0 + 74) % 65537 / 72 % 9), mat, tm, yr) := by
  have hK : drwK ((75 * x0 + 74) % 65537) = 43 := by unfold drwK kolS; rw [if_pos (by omega)]
  have hW : drwW ((75 * x0 + 74) % 65537) = 1 + (75 * x0 + 74) % 65537 / 72 % 9 := by unfold drwW; rw [hK]; rfl
  by_cases hi : inS T ((75 * x0 + 74) % 65537 % 9) = true
  · rw [drwS_go h (by rw [hK, whyT (by decide) (by decide) (by decide), if_pos hi]), hK, hW]; rfl
  · rw [drwS_no h (by rw [hK, whyT (by decide) (by decide) (by decide), if_neg hi]; decide)]
    unfold turI; rw [if_neg hi]
theorem bk_back {T : Int} {dri inc mat : Int → Int} {tm yr c a x0 : Int} (h : 0 ≤ a ∧ a < c) (hk : (75 * x0 + 74) % 65537 / 9 % 8 = 2) :
    drwS T dri (c - a).toNat x0 (inc, mat, tm, yr) = drwS T dri (c - (a + 1)).toNat ((75 * x0 + 74) % 65537) (turI T inc ((75 * x0 + 74) % 65537 % 9) (-1 - (75 * x0 + 74) % 65537 / 72 % 9), mat, tm, yr) := by
  have hK : drwK ((75 * x0 + 74) % 65537) = 45 := by unfold drwK kolS; rw [if_neg (by omega), if_pos hk]
  have hW : drwW ((75 * x0 + 74) % 65537) = 1 + (75 * x0 + 74) % 65537 / 72 % 9 := by unfold drwW; rw [hK]; rfl
  rw [show -1 - (75 * x0 + 74) % 65537 / 72 % 9 = -(1 + (75 * x0 + 74) % 65537 / 72 % 9) by omega]
  by_cases hi : inS T ((75 * x0 + 74) % 65537 % 9) = true
  · rw [drwS_go h (by rw [hK, whyT (by decide) (by decide) (by decide), if_pos hi]), hK, hW]; rfl
  · rw [drwS_no h (by rw [hK, whyT (by decide) (by decide) (by decide), if_neg hi]; decide)]
    unfold turI; rw [if_neg hi]
theorem bk_sit {T : Int} {dri inc mat : Int → Int} {tm yr c a x0 : Int} (h : 0 ≤ a ∧ a < c) (hk : (75 * x0 + 74) % 65537 / 9 % 8 = 3) :
    drwS T dri (c - a).toNat x0 (inc, mat, tm, yr) = drwS T dri (c - (a + 1)).toNat ((75 * x0 + 74) % 65537) (inc, (if whyS T mat yr 38 ((75 * x0 + 74) % 65537 % 9) ((75 * x0 + 74) % 65537 / 72 % 9) = 0 then seaM T mat ((75 * x0 + 74) % 65537 % 9) ((75 * x0 + 74) % 65537 / 72 % 9) else mat), tm, yr) := by
  have hK : drwK ((75 * x0 + 74) % 65537) = 38 := by unfold drwK kolS; rw [if_neg (by omega), if_neg (by omega), if_pos hk]
  have hW : drwW ((75 * x0 + 74) % 65537) = (75 * x0 + 74) % 65537 / 72 % 9 := by unfold drwW; rw [hK]; rfl
  by_cases hi : whyS T mat yr 38 ((75 * x0 + 74) % 65537 % 9) ((75 * x0 + 74) % 65537 / 72 % 9) = 0
  · rw [drwS_go h (by rw [hK, hW]; exact hi), hK, hW, if_pos hi]; rfl
  · rw [drwS_no h (by rw [hK, hW]; exact hi), if_neg hi]
theorem bk_rise {T : Int} {dri inc mat : Int → Int} {tm yr c a x0 : Int} (h : 0 ≤ a ∧ a < c) (hk : (75 * x0 + 74) % 65537 / 9 % 8 = 4) (hm : mOk T mat) :
    drwS T dri (c - a).toNat x0 (inc, mat, tm, yr) = drwS T dri (c - (a + 1)).toNat ((75 * x0 + 74) % 65537) (inc, (if whyS T mat yr 47 ((75 * x0 + 74) % 65537 % 9) 0 = 0 then sepM T mat ((75 * x0 + 74) % 65537 % 9) else mat), tm, yr) := by
  have hK : drwK ((75 * x0 + 74) % 65537) = 47 := by unfold drwK kolS; rw [if_neg (by omega), if_neg (by omega), if_neg (by omega), if_pos hk]
  by_cases hi : whyS T mat yr 47 ((75 * x0 + 74) % 65537 % 9) 0 = 0
  · rw [drwS_go h (by rw [hK, why47w hm]; exact hi), hK, if_pos hi]; rfl
  · rw [drwS_no h (by rw [hK, why47w hm]; exact hi), if_neg hi]
theorem bk_year {T : Int} {dri inc mat : Int → Int} {tm yr c a x0 : Int} (h : 0 ≤ a ∧ a < c) (hk : 4 < (75 * x0 + 74) % 65537 / 9 % 8) :
    drwS T dri (c - a).toNat x0 (inc, mat, tm, yr) = drwS T dri (c - (a + 1)).toNat ((75 * x0 + 74) % 65537) ((if yr < 999 then yeaI T dri mat inc else inc), mat, (if yr < 999 then yeaH tm yr else tm), (if yr < 999 then yr + 1 else yr)) := by
  have hK : drwK ((75 * x0 + 74) % 65537) = 46 := by unfold drwK kolS; rw [if_neg (by omega), if_neg (by omega), if_neg (by omega), if_neg (by omega)]
  by_cases hi : yr < 999
  · rw [drwS_go h (by rw [hK]; unfold whyS; rw [if_pos rfl, if_pos hi]), hK, if_pos hi, if_pos hi, if_pos hi]; rfl
  · rw [drwS_no h (by rw [hK]; unfold whyS; rw [if_pos rfl, if_neg hi]; decide), if_neg hi, if_neg hi, if_neg hi]
theorem mOk_sit {T : Int} {mat : Int → Int} {yr k x : Int} (h : mOk T mat) : mOk T (if whyS T mat yr 38 k x = 0 then seaM T mat k x else mat) := by
  by_cases hq : whyS T mat yr 38 k x = 0
  · rw [if_pos hq]
    have := mOk_act (k := 38) h hq
    unfold actM at this; rwa [if_pos rfl] at this
  · rw [if_neg hq]; exact h
theorem mOk_rise {T : Int} {mat : Int → Int} {yr k : Int} (h : mOk T mat) : mOk T (if whyS T mat yr 47 k 0 = 0 then sepM T mat k else mat) := by
  by_cases hq : whyS T mat yr 47 k 0 = 0
  · rw [if_pos hq]
    have := mOk_act (k := 47) h hq
    unfold actM at this; rwa [if_neg (by decide), if_pos rfl] at this
  · rw [if_neg hq]; exact h
theorem turI_bd2 {T : Int} {inc : Int → Int} {k d : Int} (h : zBd inc 9 0 179) : zBd (turI T inc k d) 9 0 179 := by
  unfold turI
  split
  · exact h.up (by omega)
  · exact h
theorem yeaI_bd2 {T : Int} {dri mat inc : Int → Int} {yr : Int} (h : zBd inc 9 0 179) : zBd (if yr < 999 then yeaI T dri mat inc else inc) 9 0 179 := by
  by_cases hq : yr < 999
  · rw [if_pos hq]
    have := actI_bd (T := T) (dri := dri) (mat := mat) (k := 46) (o := 0) (w := 0) h
    unfold actI at this; rwa [if_neg (by decide), if_neg (by decide), if_pos rfl] at this
  · rw [if_neg hq]; exact h
theorem yr_ok {tm yr : Int} (h : (0 ≤ tm ∧ tm ≤ 9) ∧ 0 ≤ yr ∧ yr ≤ 999) : (0 ≤ (if yr < 999 then yeaH tm yr else tm) ∧ (if yr < 999 then yeaH tm yr else tm) ≤ 9) ∧ 0 ≤ (if yr < 999 then yr + 1 else yr) ∧ (if yr < 999 then yr + 1 else yr) ≤ 999 := by
  by_cases hq : yr < 999
  · rw [if_pos hq, if_pos hq]
    unfold yeaH
    split <;> omega
  · rw [if_neg hq, if_neg hq]; exact h
