theorem fp_next {ln : Int} {sgn : Int → Int} {a p : Int} (h : fpS ln sgn (60 - a).toNat p = -6) (ha : 0 ≤ a ∧ a < 60) (hp : p < ln) : faS ln sgn p = -6 ∧ fpS ln sgn (60 - (a + 1)).toNat (p + lenS ln sgn p) = -6 := by
  rw [fpS_at ha, if_pos hp] at h
  by_cases hf : faS ln sgn p = -6
  · rw [if_pos hf] at h; exact ⟨hf, h⟩
  · rw [if_neg hf] at h; exact absurd h hf
theorem sig_in {ln : Int} {sgn : Int → Int} {p : Int} (h : 0 ≤ p ∧ p < ln) : sigS ln sgn p = sgn p := if_pos h
theorem sig_out {ln : Int} {sgn : Int → Int} {p : Int} (h : ¬ p < ln) : sigS ln sgn p = 0 := if_neg (fun q => h q.2)
/-- a text without a fault: what stands at the begin of an act -/
theorem fa_ok {ln : Int} {sgn : Int → Int} {p : Int} (h : faS ln sgn p = -6) (h0 : 0 ≤ p) (hp : p < ln) : sgn p = 46 ∨ (¬ sgn p = 46 ∧ (65 ≤ sgn p ∧ sgn p ≤ 73) ∧ p + 1 < ln ∧ isKS (sgn (p + 1)) = true ∧ kndS ln sgn p = sgn (p + 1) ∧ ((sgn (p + 1) = 43 ∨ sgn (p + 1) = 45 ∨ sgn (p + 1) = 38) → p + 2 < ln)) := by
  by_cases h46 : sgn p = 46
  · exact Or.inl h46
  · refine Or.inr ⟨h46, ?_⟩
    have hs := sig_in (sgn := sgn) ⟨h0, hp⟩
    unfold faS at h
    rw [hs, if_neg h46] at h
    by_cases hl : letS (sgn p) = false
    · rw [if_pos hl] at h; omega
    · rw [if_neg hl] at h
      have hl2 : 65 ≤ sgn p ∧ sgn p ≤ 73 := of_decide_eq_true (show letS (sgn p) = true by cases hq : letS (sgn p) with | true => rfl | false => exact absurd hq hl)
      by_cases hk : isKS (sigS ln sgn (p + 1)) = false
      · rw [if_pos hk] at h; omega
      · rw [if_neg hk] at h
        have hk2 : isKS (sigS ln sgn (p + 1)) = true := by cases hq : isKS (sigS ln sgn (p + 1)) with | true => rfl | false => exact absurd hq hk
        have hp1 : p + 1 < ln := by
          by_cases hq : p + 1 < ln
          · exact hq
          · rw [sig_out hq] at hk2; exact absurd hk2 (by decide)
        have hs1 := sig_in (sgn := sgn) (p := p + 1) ⟨by omega, hp1⟩
        rw [hs1] at hk2
        have hkn : kndS ln sgn p = sgn (p + 1) := by unfold kndS; rw [hs, if_neg h46, hs1]
        refine ⟨hl2, hp1, hk2, hkn, fun h3 => ?_⟩
        have hlen : ¬ lenS ln sgn p = 2 := by unfold lenS; rw [hkn, if_neg (by omega), if_neg (by omega)]; decide
        rw [if_neg hlen] at h
        by_cases hq : p + 2 < ln
        · exact hq
        · unfold feS at h
          rw [sig_out hq] at h
          by_cases h38 : kndS ln sgn p = 38
          · rw [if_pos h38, if_neg (by decide)] at h; omega
          · rw [if_neg h38, if_neg (by decide)] at h; omega
theorem len46 {ln : Int} {sgn : Int → Int} {p : Int} (h : kndS ln sgn p = 46) : lenS ln sgn p = 1 := if_pos h
theorem len2 {ln : Int} {sgn : Int → Int} {p : Int} (h : kndS ln sgn p = 47 ∨ kndS ln sgn p = 58 ∨ kndS ln sgn p = 63) : lenS ln sgn p = 2 := by unfold lenS; rw [if_neg (by omega), if_pos h]
theorem len3 {ln : Int} {sgn : Int → Int} {p : Int} (h : kndS ln sgn p = 43 ∨ kndS ln sgn p = 45 ∨ kndS ln sgn p = 38) : lenS ln sgn p = 3 := by unfold lenS; rw [if_neg (by omega), if_neg (by omega)]
theorem knd46 {ln : Int} {sgn : Int → Int} {p : Int} (h0 : 0 ≤ p) (hp : p < ln) (h : sgn p = 46) : kndS ln sgn p = 46 := by unfold kndS; rw [sig_in ⟨h0, hp⟩, if_pos h]
theorem why_w {T : Int} {mat : Int → Int} {yr k o w w' : Int} (h : ¬ k = 38) : whyS T mat yr k o w = whyS T mat yr k o w' := by
  unfold whyS; simp only [h, false_and, or_false, if_false]
theorem why46 {T : Int} {mat : Int → Int} {yr o w o' w' : Int} : whyS T mat yr 46 o w = whyS T mat yr 46 o' w' := by unfold whyS; rw [if_pos rfl, if_pos rfl]
theorem act_w {T : Int} {dri mat inc : Int → Int} {k o w w' : Int} (h : k = 47 ∨ k = 58 ∨ k = 63) : actI T dri mat inc k o w = actI T dri mat inc k o w' ∧ actM T mat k o w = actM T mat k o w' := by
  unfold actI actM
  have a1 : ¬ k = 43 := by omega
  have a2 : ¬ k = 45 := by omega
  have a3 : ¬ k = 46 := by omega
  have a4 : ¬ k = 38 := by omega
  simp only [a1, a2, a3, a4, if_false, and_self]
theorem mOk_act {T : Int} {mat : Int → Int} {yr k o w : Int} (h : mOk T mat) (hw : whyS T mat yr k o w = 0) : mOk T (actM T mat k o w) := by
  unfold actM
  by_cases h38 : k = 38
  · rw [if_pos h38]
    subst h38
    by_cases hi : inS T o = true ∧ inS T w = true
    · rw [why38 h hi.1 hi.2] at hw
      by_cases e : o = w
      · rw [if_pos e] at hw; cases hw
      · rw [if_neg e] at hw
        by_cases h3 : 0 ≤ mat o ∨ 0 ≤ mat w
        · rw [if_pos h3] at hw; cases hw
        · have h1 := mOk_neg h (inS.rng hi.1)
          have h2 := mOk_neg h (inS.rng hi.2)
          exact mOk_sea h (by omega) (by omega) e
    · unfold seaM; rw [if_neg hi]; exact h
  · rw [if_neg h38]
    by_cases h47 : k = 47
    · rw [if_pos h47]
      exact mOk_sep h (why0_in hw (by omega))
    · rw [if_neg h47]; exact h
