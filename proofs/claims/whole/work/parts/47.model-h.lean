theorem y999 {T : Int} {mat : Int → Int} {yr o w : Int} (h : whyS T mat yr 46 o w = 0) : yr < 999 := by
  unfold whyS at h; rw [if_pos rfl] at h
  by_cases q : yr < 999
  · exact q
  · rw [if_neg q] at h; cases h
theorem run46 {T : Int} {dri : Int → Int} {ln : Int} {sgn : Int → Int} {a p : Int} {inc mat kd : Int → Int} {tm yr wa wo ac : Int} (ha : 0 ≤ a ∧ a < 60) (hp : 0 ≤ p ∧ p < ln) (hs : sgn p = 46) (hw : whyS T mat yr 46 0 0 = 0) :
    runS T dri ln sgn (60 - a).toNat p (inc, mat, tm, yr, kd, wa, wo, ac, 0) = runS T dri ln sgn (60 - (a + 1)).toNat (p + 1) ((if yr < 999 then yeaI T dri mat inc else inc), mat, (if yr < 999 then yeaH tm yr else tm), (if yr < 999 then yr + 1 else yr), kd, wa, wo, ac + 1, 0) := by
  have hk := knd46 (sgn := sgn) hp.1 hp.2 hs
  rw [runS_go ha hp.2 (by rw [hk, why46 (o' := 0) (w' := 0)]; exact hw), len46 hk, hk, if_pos (y999 hw), if_pos (y999 hw), if_pos (y999 hw)]
  rfl
theorem no46 {T : Int} {dri : Int → Int} {ln : Int} {sgn : Int → Int} {a p : Int} {inc mat kd : Int → Int} {tm yr wa wo ac : Int} (ha : 0 ≤ a ∧ a < 60) (hp : 0 ≤ p ∧ p < ln) (hs : sgn p = 46) (hw : ¬ whyS T mat yr 46 0 0 = 0) :
    runS T dri ln sgn (60 - a).toNat p (inc, mat, tm, yr, kd, wa, wo, ac, 0) = (inc, mat, tm, yr, kd, wa, wo, ac, whyS T mat yr 46 0 0) := by
  have hk := knd46 (sgn := sgn) hp.1 hp.2 hs
  have e : whyS T mat yr (kndS ln sgn p) (sigS ln sgn p - 65) (wthS ln sgn p) = whyS T mat yr 46 0 0 := by rw [hk]; exact why46
  rw [runS_no ha hp.2 (by rw [e]; exact hw), e]
abbrev laS (how la : Int) : Int := if how = 38 then la - 65 else la - 48
/-- what stands at the begin of an act with a letter -/
abbrev okB (ln : Int) (sgn : Int → Int) (p : Int) : Prop := ¬ sgn p = 46 ∧ (65 ≤ sgn p ∧ sgn p ≤ 73) ∧ p + 1 < ln ∧ isKS (sgn (p + 1)) = true ∧ kndS ln sgn p = sgn (p + 1) ∧ ((sgn (p + 1) = 43 ∨ sgn (p + 1) = 45 ∨ sgn (p + 1) = 38) → p + 2 < ln)
theorem wB {T : Int} {dri inc mat : Int → Int} {ln : Int} {sgn : Int → Int} {yr p la : Int} (hp : 0 ≤ p ∧ p < ln) (h : okB ln sgn p) (hla : (sgn (p + 1) = 43 ∨ sgn (p + 1) = 45 ∨ sgn (p + 1) = 38) → la = sgn (p + 2)) :
    whyS T mat yr (kndS ln sgn p) (sigS ln sgn p - 65) (wthS ln sgn p) = whyS T mat yr (sgn (p + 1)) (sgn p - 65) (laS (sgn (p + 1)) la) ∧
    actI T dri mat inc (kndS ln sgn p) (sigS ln sgn p - 65) (wthS ln sgn p) = actI T dri mat inc (sgn (p + 1)) (sgn p - 65) (laS (sgn (p + 1)) la) ∧
    actM T mat (kndS ln sgn p) (sigS ln sgn p - 65) (wthS ln sgn p) = actM T mat (sgn (p + 1)) (sgn p - 65) (laS (sgn (p + 1)) la) := by
  obtain ⟨h1, h2, h3, h4, h5, h6⟩ := h
  rw [h5, sig_in hp]
  rcases isKS_or h4 with k | k | k | k | k | k
  case inl => 
    have e : wthS ln sgn p = laS (sgn (p + 1)) la := by
      unfold wthS laS; rw [h5, sig_in (p := p + 2) ⟨by omega, h6 (by omega)⟩, hla (by omega), if_neg (by omega), if_neg (by omega)]
    rw [e]; exact ⟨rfl, rfl, rfl⟩
  case inr.inl =>
    have e : wthS ln sgn p = laS (sgn (p + 1)) la := by
      unfold wthS laS; rw [h5, sig_in (p := p + 2) ⟨by omega, h6 (by omega)⟩, hla (by omega), if_neg (by omega), if_neg (by omega)]
    rw [e]; exact ⟨rfl, rfl, rfl⟩
  case inr.inr.inl =>
    have e : wthS ln sgn p = laS (sgn (p + 1)) la := by
      unfold wthS laS; rw [h5, sig_in (p := p + 2) ⟨by omega, h6 (by omega)⟩, hla (by omega), if_pos (by omega), if_pos (by omega)]
    rw [e]; exact ⟨rfl, rfl, rfl⟩
  all_goals
    have a := act_w (T := T) (dri := dri) (mat := mat) (inc := inc) (k := sgn (p + 1)) (o := sgn p - 65) (w := wthS ln sgn p) (w' := laS (sgn (p + 1)) la) (by omega)
    exact ⟨why_w (by omega), a.1, a.2⟩
theorem runB {T : Int} {dri : Int → Int} {ln : Int} {sgn : Int → Int} {a p la : Int} {inc mat kd : Int → Int} {tm yr wa wo ac : Int} (ha : 0 ≤ a ∧ a < 60) (hp : 0 ≤ p ∧ p < ln) (h : okB ln sgn p) (hla : (sgn (p + 1) = 43 ∨ sgn (p + 1) = 45 ∨ sgn (p + 1) = 38) → la = sgn (p + 2)) (hw : whyS T mat yr (sgn (p + 1)) (sgn p - 65) (laS (sgn (p + 1)) la) = 0) :
    runS T dri ln sgn (60 - a).toNat p (inc, mat, tm, yr, kd, wa, wo, ac, 0) = runS T dri ln sgn (60 - (a + 1)).toNat (p + lenS ln sgn p) (stpS T dri (sgn (p + 1)) (sgn p - 65) (laS (sgn (p + 1)) la) (inc, mat, tm, yr, kd, wa, wo, ac, 0)) := by
  have hB := wB (T := T) (dri := dri) (inc := inc) (mat := mat) (yr := yr) hp h hla
  rw [runS_go ha hp.2 (by rw [hB.1]; exact hw)]
  congr 1
  simp only [stpS]
  rw [hB.2.1, hB.2.2, h.2.2.2.2.1, sig_in hp]
theorem noB {T : Int} {dri : Int → Int} {ln : Int} {sgn : Int → Int} {a p la : Int} {inc mat kd : Int → Int} {tm yr wa wo ac : Int} (ha : 0 ≤ a ∧ a < 60) (hp : 0 ≤ p ∧ p < ln) (h : okB ln sgn p) (hla : (sgn (p + 1) = 43 ∨ sgn (p + 1) = 45 ∨ sgn (p + 1) = 38) → la = sgn (p + 2)) (hw : ¬ whyS T mat yr (sgn (p + 1)) (sgn p - 65) (laS (sgn (p + 1)) la) = 0) :
    runS T dri ln sgn (60 - a).toNat p (inc, mat, tm, yr, kd, wa, wo, ac, 0) = (inc, mat, tm, yr, kd, wa, wo, ac, whyS T mat yr (sgn (p + 1)) (sgn p - 65) (laS (sgn (p + 1)) la)) := by
  have hB := wB (T := T) (dri := dri) (inc := inc) (mat := mat) (yr := yr) hp h hla
  rw [runS_no ha hp.2 (by rw [hB.1]; exact hw), hB.1]
