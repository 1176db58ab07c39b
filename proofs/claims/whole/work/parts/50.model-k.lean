theorem fq_s {ln k st : Int} {sgn : Int → Int} (h : 0 ≤ k ∧ k < ln) {v : Int} (hv : stF st (sgn k) = v) : fqS ln sgn (ln - k).toNat k st = if v = -1 then k else fqS ln sgn (ln - (k + 1)).toNat (k + 1) v := by rw [fqS_at h, hv]
theorem fq_e {ln st : Int} {sgn : Int → Int} : fqS ln sgn (ln - ln).toNat ln st = if st = 0 then -6 else ln := by rw [Int.sub_self]; rfl
theorem fa_eq {ln p : Int} {sgn : Int → Int} (h0 : 0 ≤ p) (hp : p < ln) :
    fqS ln sgn (ln - p).toNat p 0 = if faS ln sgn p = -6 then fqS ln sgn (ln - (p + lenS ln sgn p)).toNat (p + lenS ln sgn p) 0 else faS ln sgn p := by
  have hs := sig_in (sgn := sgn) ⟨h0, hp⟩
  by_cases h46 : sgn p = 46
  · have hk := knd46 (sgn := sgn) h0 hp h46
    have hf : faS ln sgn p = -6 := by unfold faS; rw [hs, if_pos h46]
    rw [fq_s ⟨h0, hp⟩ (v := 0) (by unfold stF; rw [if_pos rfl, if_neg (by omega), if_pos h46]), if_neg (by decide), if_pos hf, len46 hk]
  · by_cases hl : 65 ≤ sgn p ∧ sgn p ≤ 73
    · rw [fq_s ⟨h0, hp⟩ (v := 1) (by unfold stF; rw [if_pos rfl, if_pos hl]), if_neg (by decide)]
      have hl2 : ¬ letS (sgn p) = false := by unfold letS; rw [decide_eq_true hl]; decide
      by_cases hp1 : p + 1 < ln
      · have hs1 := sig_in (sgn := sgn) (p := p + 1) ⟨by omega, hp1⟩
        have hkn : kndS ln sgn p = sgn (p + 1) := by unfold kndS; rw [hs, if_neg h46, hs1]
        by_cases hk : isKS (sgn (p + 1)) = true
        · have hko := isKS_or hk
          by_cases h2 : sgn (p + 1) = 47 ∨ sgn (p + 1) = 58 ∨ sgn (p + 1) = 63
          · have hlen := len2 (ln := ln) (sgn := sgn) (p := p) (by rw [hkn]; exact h2)
            have hf : faS ln sgn p = -6 := by unfold faS; rw [hs, if_neg h46, if_neg hl2, hs1, if_neg (by rw [hk]; decide), if_pos hlen]
            rw [fq_s (k := p + 1) ⟨by omega, hp1⟩ (v := 0) (by unfold stF; rw [if_neg (by decide), if_pos rfl, if_neg (by omega), if_neg (by omega), if_pos h2]), if_neg (by decide), if_pos hf, hlen, show p + 1 + 1 = p + 2 by omega]
          · have hlen := len3 (ln := ln) (sgn := sgn) (p := p) (by rw [hkn]; omega)
            have hfe : faS ln sgn p = feS ln sgn p := by unfold faS; rw [hs, if_neg h46, if_neg hl2, hs1, if_neg (by rw [hk]; decide), if_neg (by omega)]
            obtain ⟨v, hv, hv2⟩ : ∃ v, stF 1 (sgn (p + 1)) = v ∧ ((v = 2 ∧ ¬ sgn (p + 1) = 38) ∨ (v = 3 ∧ sgn (p + 1) = 38)) := by
              by_cases h38 : sgn (p + 1) = 38
              · exact ⟨3, by unfold stF; rw [if_neg (by decide), if_pos rfl, if_neg (by omega), if_pos h38], Or.inr ⟨rfl, h38⟩⟩
              · exact ⟨2, by unfold stF; rw [if_neg (by decide), if_pos rfl, if_pos (by omega)], Or.inl ⟨rfl, h38⟩⟩
            rw [fq_s (k := p + 1) ⟨by omega, hp1⟩ hv, if_neg (by omega), show p + 1 + 1 = p + 2 by omega, hfe, hlen]
            by_cases hp2 : p + 2 < ln
            · have hs2 := sig_in (sgn := sgn) (p := p + 2) ⟨by omega, hp2⟩
              rw [fqS_at ⟨by omega, hp2⟩, show p + 2 + 1 = p + 3 by omega]
              rcases hv2 with ⟨e, h38⟩ | ⟨e, h38⟩
              · by_cases hd : 49 ≤ sgn (p + 2) ∧ sgn (p + 2) ≤ 57
                · have e1 : stF v (sgn (p + 2)) = 0 := by rw [e]; unfold stF; rw [if_neg (by decide), if_neg (by decide), if_pos rfl, if_pos hd]
                  have e2 : feS ln sgn p = -6 := by unfold feS; rw [hkn, if_neg h38, hs2, if_pos (decide_eq_true hd)]
                  rw [e1, if_neg (by decide), e2, if_pos rfl]
                · have e1 : stF v (sgn (p + 2)) = -1 := by rw [e]; unfold stF; rw [if_neg (by decide), if_neg (by decide), if_pos rfl, if_neg hd]
                  have e2 : feS ln sgn p = p + 2 := by unfold feS; rw [hkn, if_neg h38, hs2, if_neg (by rw [decide_eq_false hd]; decide)]
                  rw [e1, if_pos rfl, e2, if_neg (by omega)]
              · by_cases hd : 65 ≤ sgn (p + 2) ∧ sgn (p + 2) ≤ 73
                · have e1 : stF v (sgn (p + 2)) = 0 := by rw [e]; unfold stF; rw [if_neg (by decide), if_neg (by decide), if_neg (by decide), if_pos hd]
                  have e2 : feS ln sgn p = -6 := by unfold feS; rw [hkn, if_pos h38, hs2, if_pos (show letS (sgn (p + 2)) = true from decide_eq_true hd)]
                  rw [e1, if_neg (by decide), e2, if_pos rfl]
                · have e1 : stF v (sgn (p + 2)) = -1 := by rw [e]; unfold stF; rw [if_neg (by decide), if_neg (by decide), if_neg (by decide), if_neg hd]
                  have e2 : feS ln sgn p = p + 2 := by unfold feS; rw [hkn, if_pos h38, hs2, if_neg (by rw [show letS (sgn (p + 2)) = false from decide_eq_false hd]; decide)]
                  rw [e1, if_pos rfl, e2, if_neg (by omega)]
            · have ep : ln = p + 2 := by omega
              have e2 : feS ln sgn p = p + 2 := by
                unfold feS; rw [hkn, sig_out hp2]
                by_cases h38 : sgn (p + 1) = 38
                · rw [if_pos h38, if_neg (by decide)]
                · rw [if_neg h38, if_neg (by decide)]
              rw [e2, if_neg (by omega), ← ep, fq_e, if_neg (by omega)]
        · have hk2 : isKS (sgn (p + 1)) = false := by cases hq : isKS (sgn (p + 1)) with | true => exact absurd hq hk | false => rfl
          have hf : faS ln sgn p = p + 1 := by unfold faS; rw [hs, if_neg h46, if_neg hl2, hs1, if_pos hk2]
          have hn : ¬ (sgn (p + 1) = 43 ∨ sgn (p + 1) = 45 ∨ sgn (p + 1) = 38 ∨ sgn (p + 1) = 47 ∨ sgn (p + 1) = 58 ∨ sgn (p + 1) = 63) := of_decide_eq_false hk2
          rw [fq_s (k := p + 1) ⟨by omega, hp1⟩ (v := -1) (by unfold stF; rw [if_neg (by decide), if_pos rfl, if_neg (by omega), if_neg (by omega), if_neg (by omega)]), if_pos rfl, hf, if_neg (by omega)]
      · have ep : ln = p + 1 := by omega
        have hf : faS ln sgn p = p + 1 := by unfold faS; rw [hs, if_neg h46, if_neg hl2, sig_out hp1, if_pos (by decide)]
        rw [hf, if_neg (by omega), ← ep, fq_e, if_neg (by decide)]
    · have hf : faS ln sgn p = p := by unfold faS; rw [hs, if_neg h46, if_pos (show letS (sgn p) = false from decide_eq_false hl)]
      rw [fq_s ⟨h0, hp⟩ (v := -1) (by unfold stF; rw [if_pos rfl, if_neg hl, if_neg h46]), if_pos rfl, hf, if_neg (by omega)]
