theorem tbn {s T : Int} {m : Nat} (hm : m < 9) (hT : 0 ≤ T ∧ T < 512) : (s.toNat &&& (511 - T.toNat)).testBit m = (s.toNat.testBit m && !T.toNat.testBit m) := by
  have hbit : (511 - T.toNat).testBit m = (decide (m < 9) && !T.toNat.testBit m) := by
    have := Nat.testBit_two_pow_sub_succ (n := 9) (show T.toNat < 2 ^ 9 by omega) m
    rw [show 2 ^ 9 - (T.toNat + 1) = 511 - T.toNat by omega] at this
    exact this
  rw [Nat.testBit_and, hbit, decide_eq_true hm, Bool.true_and]
theorem inS_andn {s T k : Int} (hs : 0 ≤ s ∧ s < 512) (hT : 0 ≤ T ∧ T < 512) (hk : 0 ≤ k ∧ k < 9) : inS (zAndn s T) k = (inS s k && !inS T k) := by
  obtain ⟨m, hm⟩ : ∃ m : Nat, k = m := ⟨k.toNat, by omega⟩
  rw [hm, ← tb_in hs.1 (by omega), ← tb_in hT.1 (by omega), ← tb_in (zAndn_bd hs).1 (by omega), ← tbn (s := s) (by omega) hT]
  rfl
theorem cnt_andn {h T : Int} (hh : 0 ≤ h ∧ h < 512) (hT : 0 ≤ T ∧ T < 512) (hs : zAndn h T = 0) : cnt9 (zAndn T h) = cnt9 T - cnt9 h := by
  have e : cnt9 T = cnt9 h + cnt9 (zAndn T h) := by
    unfold cnt9
    rw [← sumZ_add]
    apply sumZ_cg
    intro k h0 h1
    rw [inS_andn hT hh ⟨h0, h1⟩]
    have hz := (andn0 hh hT).mp hs k
    cases ha : inS h k with
    | true => rw [hz ha]; rfl
    | false => cases inS T k <;> rfl
  omega
theorem low_is : ∀ T : Fin 512, ∀ k : Fin 9, inS (T.val : Int) (k.val : Int) = true → (∀ j : Fin 9, j < k → inS (T.val : Int) (j.val : Int) = false) → zLow (T.val : Int) = 2 ^ k.val := by decide +kernel
theorem and_pw : ∀ h : Fin 512, ∀ k : Fin 9, (zAnd (h.val : Int) (2 ^ k.val) = 0 ↔ inS (h.val : Int) (k.val : Int) = false) := by decide +kernel
theorem fin512 {a : Int} (h : 0 ≤ a ∧ a < 512) : ∃ f : Fin 512, a = (f.val : Int) := ⟨⟨a.toNat, by omega⟩, by show a = ((a.toNat : Nat) : Int); omega⟩
theorem low_has {T h k : Int} (hT : 0 ≤ T ∧ T < 512) (hh : 0 ≤ h ∧ h < 512) (hk : inS T k = true) (hl : ∀ j, 0 ≤ j → j < k → inS T j = false) : ¬ zAnd h (zLow T) = 0 ↔ inS h k = true := by
  obtain ⟨fk, ek⟩ := fin9 (inS.rng hk)
  obtain ⟨fT, eT⟩ := fin512 hT
  obtain ⟨fh, eh⟩ := fin512 hh
  subst ek; subst eT; subst eh
  rw [low_is fT fk hk (fun j hj => hl _ (by omega) (by have : j.val < fk.val := hj; omega)), and_pw fh fk]
  simp
def witS (T : Int) : Int := sumZ (fun k => if inS T k = true ∧ sumZ (fun j => if inS T j = true then 1 else 0) k.toNat % 2 = 0 then 2 ^ k.toNat else 0) 9
theorem wit_ok : ∀ T : Fin 512, ¬ (T.val : Int) = 0 → hfS (T.val : Int) (witS (T.val : Int)) = true ∧ 1 ≤ witS (T.val : Int) ∧ witS (T.val : Int) ≤ 511 := by decide +kernel
theorem ahS_bd (T : Int) (inc : Int → Int) (h : Int) : 0 ≤ ahS T inc h ∧ ahS T inc h ≤ 14580 := by
  have h1 := awS_bd T inc h
  have h2 := awS_bd T inc (zAndn T h)
  unfold ahS; omega
theorem bhS_inv {T : Int} {inc : Int → Int} : ∀ n : Nat, (bhS T inc n = (0, -6) ∧ ∀ h : Int, 1 ≤ h → h ≤ (n : Int) → hfS T h = false) ∨ (bhS T inc n).2 = ahS T inc (bhS T inc n).1
  | 0 => Or.inl ⟨rfl, fun h h1 h2 => by omega⟩
  | n + 1 => by
    have e : bhS T inc (n + 1) = if hfS T ((n : Int) + 1) = true ∧ ((bhS T inc n).2 = -6 ∨ ahS T inc ((n : Int) + 1) < (bhS T inc n).2) then ((n : Int) + 1, ahS T inc ((n : Int) + 1)) else bhS T inc n := rfl
    rw [e]
    by_cases hc : hfS T ((n : Int) + 1) = true ∧ ((bhS T inc n).2 = -6 ∨ ahS T inc ((n : Int) + 1) < (bhS T inc n).2)
    · rw [if_pos hc]; exact Or.inr rfl
    · rw [if_neg hc]
      rcases bhS_inv n with h | h
      · refine Or.inl ⟨h.1, fun k h1 h2 => ?_⟩
        by_cases hk : k = (n : Int) + 1
        · rw [hk]
          cases hq : hfS T ((n : Int) + 1) with
          | false => rfl
          | true => exact absurd ⟨hq, Or.inl (by rw [h.1])⟩ hc
        · exact h.2 k h1 (by omega)
      · exact Or.inr h
theorem bhS_T0 {inc : Int → Int} (n : Nat) (hn : n ≤ 511) : (bhS 0 inc n) = (0, -6) := by
  induction n with
  | zero => rfl
  | succ n ih =>
    have e : bhS 0 inc (n + 1) = if hfS 0 ((n : Int) + 1) = true ∧ ((bhS 0 inc n).2 = -6 ∨ ahS 0 inc ((n : Int) + 1) < (bhS 0 inc n).2) then ((n : Int) + 1, ahS 0 inc ((n : Int) + 1)) else bhS 0 inc n := rfl
    rw [e, if_neg, ih (by omega)]
    intro q
    have h1 := q.1
    unfold hfS at h1
    rw [Bool.and_eq_true, decide_eq_true_eq] at h1
    have h2 : ∀ h : Fin 512, zAndn (h.val : Int) 0 = (h.val : Int) := by decide +kernel
    have h3 := h2 ⟨n + 1, by omega⟩
    have h4 : (((⟨n + 1, by omega⟩ : Fin 512).val : Nat) : Int) = (n : Int) + 1 := rfl
    rw [h4] at h3
    rw [h3] at h1
    omega
theorem awS_T0 {inc : Int → Int} {s : Int} : awS 0 inc s = 0 := by
  have hp : ∀ i j : Int, prS 0 inc s i j = 0 := by
    intro i j
    unfold prS
    have h0 : ∀ k, inO 0 inc k = 0 := fun k => by
      unfold inO
      rw [if_neg (fun q => by have := (inS_iff.mp q).2; rw [Int.zero_ediv] at this; exact absurd this (by decide))]
    rw [h0, h0]
    split <;> rfl
  unfold awS
  have h1 : sumZ (fun i => sumZ (fun j => prS 0 inc s i j) i.toNat) 9 = sumZ (fun _ => 0) 9 := by
    apply sumZ_cg
    intro i h2 h3
    have h4 : sumZ (fun j => prS 0 inc s i j) i.toNat = sumZ (fun _ => 0) i.toNat := by
      apply sumZ_cg
      intro j h5 h6
      exact hp i j
    rw [h4, sumZ_zero]
  rw [h1, sumZ_zero]
/-- where the model's search for a half stands, ahead of the half hf -/
def biI (T : Int) (inc : Int → Int) (hf fo le : Int) : Prop := (le = 1000000 ∧ fo = 0 ∧ bhS T inc (hf - 1).toNat = (0, -6)) ∨ ((0 ≤ le ∧ le ≤ 14580) ∧ (fo, le) = bhS T inc (hf - 1).toNat)
theorem biI_bd {T : Int} {inc : Int → Int} {hf fo le : Int} (h : biI T inc hf fo le) : 0 ≤ le ∧ le ≤ 1000000 := by
  rcases h with h | h <;> omega
theorem bi_no {T : Int} {inc : Int → Int} {hf fo le : Int} (h : biI T inc hf fo le) (h0 : 0 ≤ hf) (hn : hfS T hf = false) : biI T inc (hf + 1) fo le := by
  have e : bhS T inc ((hf + 1) - 1).toNat = bhS T inc (hf - 1).toNat := by
    by_cases h1 : hf = 0
    · subst h1; rfl
    · have h2 := bhS_s (T := T) (inc := inc) (i := hf) (b := (bhS T inc (hf - 1).toNat).1) (m := (bhS T inc (hf - 1).toNat).2) (by omega) rfl
      rw [if_neg (fun q => by rw [hn] at q; exact absurd q.1 (by decide))] at h2
      exact h2.symm
  unfold biI
  rw [e]; exact h
theorem bi_yes {T : Int} {inc : Int → Int} {hf fo le : Int} (h : biI T inc hf fo le) (h0 : 1 ≤ hf) (hy : hfS T hf = true) : biI T inc (hf + 1) (if ahS T inc hf < le then hf else fo) (if ahS T inc hf < le then ahS T inc hf else le) := by
  have hb := ahS_bd T inc hf
  have h2 := bhS_s (T := T) (inc := inc) (i := hf) (b := (bhS T inc (hf - 1).toNat).1) (m := (bhS T inc (hf - 1).toNat).2) h0 rfl
  unfold biI
  rw [← h2]
  rcases h with ⟨h3, h4, h5⟩ | ⟨h3, h4⟩
  · have e : (if hfS T hf = true ∧ ((bhS T inc (hf - 1).toNat).2 = -6 ∨ ahS T inc hf < (bhS T inc (hf - 1).toNat).2) then (hf, ahS T inc hf) else ((bhS T inc (hf - 1).toNat).1, (bhS T inc (hf - 1).toNat).2)) = (hf, ahS T inc hf) := if_pos ⟨hy, Or.inl (by rw [h5])⟩
    rw [e, h3, if_pos (show ahS T inc hf < 1000000 by omega), if_pos (show ahS T inc hf < 1000000 by omega)]
    exact Or.inr ⟨hb, rfl⟩
  · rw [← h4]
    by_cases h6 : ahS T inc hf < le
    · rw [if_pos h6, if_pos h6, if_pos ⟨hy, Or.inr h6⟩]
      exact Or.inr ⟨hb, rfl⟩
    · rw [if_neg h6, if_neg h6, if_neg (fun q => q.2.elim (fun z => by have : le = -6 := z; omega) (fun z => h6 z))]
      exact Or.inr ⟨h3, rfl⟩
theorem bi_end {T : Int} {inc : Int → Int} {fo le what : Int} (hT : 0 ≤ T ∧ T < 512) (hT0 : ¬ T = 0) (h : biI T inc 512 fo le) (hw : 0 ≤ what ∧ what ≤ 1) : (if what = 0 then le else fo) = biR T inc what := by
  unfold biR
  rw [if_pos hw]
  have e : (512 - 1 : Int).toNat = 511 := rfl
  unfold biI at h
  rw [e] at h
  rcases bhS_inv (T := T) (inc := inc) 511 with h1 | h1
  · obtain ⟨fT, eT⟩ := fin512 hT
    have h2 := wit_ok fT (by rw [← eT]; exact hT0)
    rw [← eT] at h2
    have h3 := h1.2 (witS T) h2.2.1 (by have := h2.2.2; omega)
    rw [h2.1] at h3; cases h3
  · rcases h with h2 | h2
    · rw [h2.2.2] at h1
      have := ahS_bd T inc 0
      have h3 : (-6 : Int) = ahS T inc 0 := h1
      omega
    · rw [← h2.2] at h1 ⊢
      have h3 : le = ahS T inc fo := h1
      rw [← h3]
theorem bi_end0 {inc : Int → Int} {what : Int} (hw : 0 ≤ what ∧ what ≤ 1) : 0 = biR 0 inc what := by
  unfold biR
  rw [if_pos hw, bhS_T0 511 (by decide)]
  unfold ahS
  rw [awS_T0, awS_T0]
  split <;> rfl
def biP (T : Int) (inc : Int → Int) (h i j : Int) : Int := if (inS T i = true ∧ inS T j = true) ∧ ((if h / 2 ^ i.toNat % 2 = 1 then (1 : Int) else 0) = (if h / 2 ^ j.toNat % 2 = 1 then 1 else 0)) then apS (inc i) (inc j) else 0
theorem biP_bd (T : Int) (inc : Int → Int) (h i j : Int) : 0 ≤ biP T inc h i j ∧ biP T inc h i j ≤ 90 := by
  have := apS_bd (inc i) (inc j)
  unfold biP; split <;> omega
theorem bit_if {h i : Int} (hi : 0 ≤ i ∧ i < 9) : (if h / 2 ^ i.toNat % 2 = 1 then (1 : Int) else 0) = if inS h i = true then 1 else 0 := by
  by_cases hq : inS h i = true
  · rw [if_pos hq, if_pos (inS_iff.mp hq).2]
  · rw [if_neg hq, if_neg (fun z => hq (inS_iff.mpr ⟨hi, z⟩))]
theorem bi_pr {T : Int} {inc : Int → Int} {h i j : Int} (hT : 0 ≤ T ∧ T < 512) (hh : 0 ≤ h ∧ h < 512) (hs : zAndn h T = 0) (hi : 0 ≤ i ∧ i < 9) (hj : 0 ≤ j ∧ j < 9) : prS T inc h i j + prS T inc (zAndn T h) i j = biP T inc h i j := by
  unfold prS biP
  rw [inS_andn hT hh hi, inS_andn hT hh hj]
  have hzi := (andn0 hh hT).mp hs i
  have hzj := (andn0 hh hT).mp hs j
  rw [bit_if hi, bit_if hj]
  unfold inO
  cases ha : inS h i with
  | true =>
    rw [hzi ha]
    cases hb : inS h j with
    | true => rw [hzj hb]; simp
    | false => cases hc : inS T j <;> simp
  | false =>
    cases hb : inS h j with
    | true => rw [hzj hb]; cases hc : inS T i <;> simp
    | false => cases hc : inS T i <;> cases hd : inS T j <;> simp
theorem bi_ah {T : Int} {inc : Int → Int} {h : Int} (hT : 0 ≤ T ∧ T < 512) (hh : 0 ≤ h ∧ h < 512) (hs : zAndn h T = 0) : sumZ (fun i => sumZ (fun j => biP T inc h i j) i.toNat) 9 = ahS T inc h := by
  unfold ahS awS
  rw [← sumZ_add]
  apply sumZ_cg
  intro i h0 h1
  rw [← sumZ_add]
  apply sumZ_cg
  intro j h2 h3
  exact (bi_pr hT hh hs ⟨h0, h1⟩ ⟨h2, by omega⟩).symm
theorem biRow_bd (T : Int) (inc : Int → Int) (h i : Int) (n : Nat) (hn : n ≤ 9) : 0 ≤ sumZ (fun j => biP T inc h i j) n ∧ sumZ (fun j => biP T inc h i j) n ≤ 810 := by
  have := sumZ_bd (f := fun j => biP T inc h i j) (lo := 0) (hi := 90) (fun j => biP_bd T inc h i j) n
  omega
theorem hf_is {T h low : Int} (hT : 0 ≤ T ∧ T < 512) (hh : 0 ≤ h ∧ h < 512) (hl : inS T low = true) (hlo : ∀ j, 0 ≤ j → j < low → inS T j = false) : hfS T h = true ↔ zAndn h T = 0 ∧ h / 2 ^ low.toNat % 2 = 1 ∧ (-1 ≤ cnt9 h - cnt9 (zAndn T h) ∧ cnt9 h - cnt9 (zAndn T h) ≤ 1) := by
  unfold hfS
  rw [Bool.and_eq_true, Bool.and_eq_true, decide_eq_true_eq, decide_eq_true_eq, decide_eq_true_eq, low_has hT hh hl hlo]
  constructor
  · rintro ⟨h1, h2, h3⟩
    have h4 := cnt_andn hh hT h1
    exact ⟨h1, (inS_iff.mp h2).2, by omega, by omega⟩
  · rintro ⟨h1, h2, h3⟩
    have h4 := cnt_andn hh hT h1
    exact ⟨h1, inS_iff.mpr ⟨inS.rng hl, h2⟩, by omega, by omega⟩
theorem T0_of {T : Int} (hT : 0 ≤ T ∧ T < 512) (h : ∀ j, 0 ≤ j → j < 9 → inS T j = false) : T = 0 := by
  have : ∀ t : Fin 512, (∀ j : Fin 9, inS (t.val : Int) (j.val : Int) = false) → t.val = 0 := by decide +kernel
  obtain ⟨f, e⟩ := fin512 hT
  have h1 := this f (fun j => by rw [← e]; exact h _ (by omega) (by omega))
  omega
