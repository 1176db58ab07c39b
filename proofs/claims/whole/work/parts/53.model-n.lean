theorem allB_iff {f : Int → Bool} : ∀ {n : Nat}, allB f n = true ↔ ∀ j : Int, 0 ≤ j → j < (n : Int) → f j = true
  | 0 => ⟨fun _ j h0 h1 => absurd h1 (by omega), fun _ => rfl⟩
  | n + 1 => by
    have e : allB f (n + 1) = (allB f n && f (n : Int)) := rfl
    rw [e, Bool.and_eq_true, allB_iff (n := n)]
    constructor
    · rintro ⟨h1, h2⟩ j h0 hj
      by_cases hq : j = (n : Int)
      · rw [hq]; exact h2
      · exact h1 j h0 (by omega)
    · intro h
      exact ⟨fun j h0 hj => h j h0 (by omega), h n (by omega) (by omega)⟩
theorem tb_in {T : Int} (hT : 0 ≤ T) {k : Nat} (hk : k < 9) : T.toNat.testBit k = inS T (k : Int) := by
  obtain ⟨t, ht⟩ : ∃ t : Nat, T = t := ⟨T.toNat, by omega⟩
  rw [ht, Int.toNat_natCast, Nat.testBit_eq_decide_div_mod_eq]
  unfold inS
  rw [Int.toNat_natCast, decide_eq_true (show (0 : Int) ≤ (k : Int) by omega), decide_eq_true (show (k : Int) < 9 by omega), Bool.true_and, Bool.true_and]
  have e : (t : Int) / 2 ^ k % 2 = ((t / 2 ^ k % 2 : Nat) : Int) := by norm_cast
  rw [e]
  apply decide_eq_decide.mpr
  omega
theorem andn0 {s T : Int} (hs : 0 ≤ s ∧ s < 512) (hT : 0 ≤ T ∧ T < 512) : zAndn s T = 0 ↔ ∀ k, inS s k = true → inS T k = true := by
  have hbit : ∀ i, (511 - T.toNat).testBit i = (decide (i < 9) && !T.toNat.testBit i) := by
    intro i
    have := Nat.testBit_two_pow_sub_succ (n := 9) (show T.toNat < 2 ^ 9 by omega) i
    rw [show 2 ^ 9 - (T.toNat + 1) = 511 - T.toNat by omega] at this
    exact this
  unfold zAndn
  constructor
  · intro h k hk
    have hr := inS.rng hk
    obtain ⟨m, hm⟩ : ∃ m : Nat, k = m := ⟨k.toNat, by omega⟩
    rw [hm] at hk ⊢
    rw [← tb_in hs.1 (by omega)] at hk
    rw [← tb_in hT.1 (by omega)]
    have h0 : s.toNat &&& (511 - T.toNat) = 0 := by omega
    have h1 := congrArg (fun z => Nat.testBit z m) h0
    simp only [Nat.testBit_and, hbit, hk, Nat.zero_testBit] at h1
    simpa [show m < 9 by omega] using h1
  · intro h
    have h0 : s.toNat &&& (511 - T.toNat) = 0 := by
      apply Nat.eq_of_testBit_eq
      intro i
      rw [Nat.testBit_and, hbit, Nat.zero_testBit]
      by_cases hi : i < 9
      · rw [tb_in hs.1 hi, tb_in hT.1 hi]
        cases h1 : inS s i with
        | false => simp
        | true => simp [h i h1]
      · simp [hi]
    rw [h0]; rfl
theorem triS_iff {T : Int} {inc : Int → Int} {s : Int} : triS T inc s = true ↔ zAndn s T = 0 ∧ cnt9 s = 3 ∧ ∀ i j, 0 ≤ j → j < i → i < 9 → inS s i = true → inS s j = true → 20 ≤ apS (inO T inc i) (inO T inc j) := by
  unfold triS
  rw [Bool.and_eq_true, Bool.and_eq_true, decide_eq_true_eq, decide_eq_true_eq, allB_iff]
  constructor
  · rintro ⟨h1, h2, h3⟩
    refine ⟨h1, h2, fun i j hj hi h9 a b => ?_⟩
    have := allB_iff.mp (h3 i (by omega) (by omega)) j hj (by omega)
    rw [a, b] at this
    simpa using this
  · rintro ⟨h1, h2, h3⟩
    refine ⟨h1, h2, fun i h0 h9 => allB_iff.mpr (fun j hj hi => ?_)⟩
    cases ha : inS s i with
    | false => simp
    | true =>
      cases hb : inS s j with
      | false => simp
      | true => simp [h3 i j hj (by omega) (by omega) ha hb]
theorem apS_sy (a b : Int) : apS a b = apS b a := by unfold apS; omega
theorem s3_all : ∀ a b x : Fin 9, a < b → b < x → zOr (zOr (2 ^ a.val) (2 ^ b.val)) (2 ^ x.val) = 2 ^ x.val + 2 ^ b.val + 2 ^ a.val ∧ cnt9 (2 ^ x.val + 2 ^ b.val + 2 ^ a.val) = 3 ∧ ((2 : Int) ^ x.val + 2 ^ b.val + 2 ^ a.val < 512) ∧ ∀ k : Fin 9, (inS (2 ^ x.val + 2 ^ b.val + 2 ^ a.val) (k.val : Int) = true ↔ k = a ∨ k = b ∨ k = x) := by decide +kernel
theorem g3 : ∀ a b x : Fin 9, a < b → b < x → ∀ d : Fin 256, 0 < d.val → d.val < 2 ^ a.val → ¬ cnt9 ((2 : Int) ^ x.val + 2 ^ b.val + 2 ^ a.val + (d.val : Int)) = 3 := by decide +kernel
theorem g2 : ∀ b x : Fin 9, b < x → ¬ cnt9 ((2 : Int) ^ x.val + 2 ^ b.val) = 3 := by decide +kernel
theorem g1 : ∀ x : Fin 9, ¬ cnt9 ((2 : Int) ^ x.val) = 3 := by decide +kernel
def trC (P : Int → Bool) (cur : Int) : Int := sumZ (fun s => if P s = true then 1 else 0) 512 - sumZ (fun s => if P s = true then 1 else 0) cur.toNat
def trL (P : Int → Bool) (cur : Int) : Int := lstS P (512 - cur).toNat cur
theorem tr_top {P : Int → Bool} : trC P 512 = 0 ∧ trL P 512 = -6 := ⟨Int.sub_self _, rfl⟩
theorem tr_hit {P : Int → Bool} {s : Int} (h : 0 ≤ s ∧ s < 512) : trC P s = trC P (s + 1) + (if P s = true then 1 else 0) ∧ trL P s = if P s = true then s else trL P (s + 1) := by
  refine ⟨?_, lstS_at h⟩
  unfold trC
  rw [sumZ_s h.1]; omega
theorem tr_skip {P : Int → Bool} {lo : Int} : ∀ n : Nat, (∀ s, lo ≤ s → s < lo + n → P s = false) → 0 ≤ lo → lo + n ≤ 512 → trC P lo = trC P (lo + n) ∧ trL P lo = trL P (lo + n)
  | 0, _, _, _ => by rw [show lo + ((0 : Nat) : Int) = lo by omega]; exact ⟨rfl, rfl⟩
  | n + 1, h, h0, h1 => by
    have ih := tr_skip n (fun s a b => h s a (by omega)) h0 (by omega)
    have hq := tr_hit (P := P) (s := lo + n) (by omega)
    have hf := h (lo + n) (by omega) (by omega)
    rw [hf] at hq
    rw [ih.1, ih.2, hq.1, hq.2, show lo + ((n + 1 : Nat) : Int) = lo + n + 1 by omega]
    exact ⟨by simp, by simp⟩
theorem tr_skip' {P : Int → Bool} {lo hi : Int} (h : ∀ s, lo ≤ s → s < hi → P s = false) (h0 : 0 ≤ lo) (hh : lo ≤ hi) (h1 : hi ≤ 512) : trC P lo = trC P hi ∧ trL P lo = trL P hi := by
  have := tr_skip (P := P) (lo := lo) (hi - lo).toNat (fun s a b => h s a (by omega)) h0 (by omega)
  rw [show lo + ((hi - lo).toNat : Int) = hi by omega] at this
  exact this
theorem tri_c {T : Int} {inc : Int → Int} {s : Int} (h : ¬ cnt9 s = 3) : triS T inc s = false := by
  cases hq : triS T inc s with
  | false => rfl
  | true => exact absurd (triS_iff.mp hq).2.1 h
theorem fin9 {a : Int} (h : 0 ≤ a ∧ a < 9) : ∃ f : Fin 9, a = (f.val : Int) := ⟨⟨a.toNat, by omega⟩, by show a = ((a.toNat : Nat) : Int); omega⟩
theorem pw_s {a : Int} (h : 0 ≤ a) : (2 : Int) ^ (a + 1).toNat = 2 ^ a.toNat + 2 ^ a.toNat := by
  rw [show (a + 1).toNat = a.toNat + 1 by omega, Int.pow_succ]; omega
theorem pw_m {a : Int} : (2 : Int) ^ ((a + (-1)) + 1).toNat = 2 ^ a.toNat := by rw [show a + (-1) + 1 = a by omega]
theorem tri_in {T : Int} {inc : Int → Int} {a b x : Int} (h : 0 ≤ a ∧ a < b ∧ b < x ∧ x < 9) :
    trC (triS T inc) (2 ^ x.toNat + 2 ^ b.toNat + 2 ^ ((a + (-1)) + 1).toNat) = trC (triS T inc) (2 ^ x.toNat + 2 ^ b.toNat + 2 ^ (a + 1).toNat) + (if triS T inc (2 ^ x.toNat + 2 ^ b.toNat + 2 ^ a.toNat) = true then 1 else 0) ∧
    trL (triS T inc) (2 ^ x.toNat + 2 ^ b.toNat + 2 ^ ((a + (-1)) + 1).toNat) = if triS T inc (2 ^ x.toNat + 2 ^ b.toNat + 2 ^ a.toNat) = true then 2 ^ x.toNat + 2 ^ b.toNat + 2 ^ a.toNat else trL (triS T inc) (2 ^ x.toNat + 2 ^ b.toNat + 2 ^ (a + 1).toNat) := by
  obtain ⟨fa, ha⟩ := fin9 (a := a) (by omega)
  obtain ⟨fb, hb⟩ := fin9 (a := b) (by omega)
  obtain ⟨fx, hx⟩ := fin9 (a := x) (by omega)
  have hab : fa < fb := by show fa.val < fb.val; omega
  have hbx : fb < fx := by show fb.val < fx.val; omega
  have hs := s3_all fa fb fx hab hbx
  rw [pw_m, pw_s h.1]
  have e1 : a.toNat = fa.val := by omega
  have e2 : b.toNat = fb.val := by omega
  have e3 : x.toNat = fx.val := by omega
  rw [e1, e2, e3]
  have hpa := pow9 (fa.val : Int) (by omega)
  have hpb := pow9 (fb.val : Int) (by omega)
  have hpx := pow9 (fx.val : Int) (by omega)
  rw [Int.toNat_natCast] at hpa hpb hpx
  have hle : (2 : Int) ^ fx.val + 2 ^ fb.val + (2 ^ fa.val + 2 ^ fa.val) ≤ 512 := by
    have : ∀ a b x : Fin 9, a < b → b < x → (2 : Int) ^ x.val + 2 ^ b.val + (2 ^ a.val + 2 ^ a.val) ≤ 512 := by decide +kernel
    exact this fa fb fx hab hbx
  have hsk := tr_skip' (P := triS T inc) (lo := 2 ^ fx.val + 2 ^ fb.val + 2 ^ fa.val + 1) (hi := 2 ^ fx.val + 2 ^ fb.val + (2 ^ fa.val + 2 ^ fa.val)) (fun s h1 h2 => by
    apply tri_c
    have := g3 fa fb fx hab hbx ⟨(s - (2 ^ fx.val + 2 ^ fb.val + 2 ^ fa.val)).toNat, by omega⟩ (by show 0 < (s - (2 ^ fx.val + 2 ^ fb.val + 2 ^ fa.val)).toNat; omega) (by
      have e : ((2 ^ fa.val : Nat) : Int) = (2 : Int) ^ fa.val := by norm_cast
      show (s - (2 ^ fx.val + 2 ^ fb.val + 2 ^ fa.val)).toNat < 2 ^ fa.val
      omega)
    rw [show (2 : Int) ^ fx.val + 2 ^ fb.val + 2 ^ fa.val + (((s - (2 ^ fx.val + 2 ^ fb.val + 2 ^ fa.val)).toNat : Nat) : Int) = s by omega] at this
    exact this) (by omega) (by omega) hle
  have hh := tr_hit (P := triS T inc) (s := 2 ^ fx.val + 2 ^ fb.val + 2 ^ fa.val) (by omega)
  rw [hsk.1, hsk.2] at hh
  exact hh
theorem tri_2 {T : Int} {inc : Int → Int} {b x : Int} (h : 0 ≤ b ∧ b < x ∧ x < 9) :
    trC (triS T inc) (2 ^ x.toNat + 2 ^ ((b + (-1)) + 1).toNat) = trC (triS T inc) (2 ^ x.toNat + 2 ^ b.toNat + 1) ∧ trL (triS T inc) (2 ^ x.toNat + 2 ^ ((b + (-1)) + 1).toNat) = trL (triS T inc) (2 ^ x.toNat + 2 ^ b.toNat + 1) := by
  obtain ⟨fb, hb⟩ := fin9 (a := b) (by omega)
  obtain ⟨fx, hx⟩ := fin9 (a := x) (by omega)
  have e2 : b.toNat = fb.val := by omega
  have e3 : x.toNat = fx.val := by omega
  have hbx : fb < fx := by show fb.val < fx.val; omega
  rw [pw_m, e2, e3]
  have hpb := pow9 (fb.val : Int) (by omega)
  have hpx := pow9 (fx.val : Int) (by omega)
  rw [Int.toNat_natCast] at hpb hpx
  have hlt : (2 : Int) ^ fx.val + 2 ^ fb.val < 512 := by
    have : ∀ b x : Fin 9, b < x → (2 : Int) ^ x.val + 2 ^ b.val < 512 := by decide +kernel
    exact this fb fx hbx
  exact tr_skip' (fun s h1 h2 => by
    have e : s = 2 ^ fx.val + 2 ^ fb.val := by omega
    rw [e]; exact tri_c (g2 fb fx hbx)) (by omega) (by omega) (by omega)
theorem tri_1 {T : Int} {inc : Int → Int} {x : Int} (h : 0 ≤ x ∧ x < 9) :
    trC (triS T inc) (2 ^ ((x + (-1)) + 1).toNat) = trC (triS T inc) (2 ^ x.toNat + 1) ∧ trL (triS T inc) (2 ^ ((x + (-1)) + 1).toNat) = trL (triS T inc) (2 ^ x.toNat + 1) := by
  obtain ⟨fx, hx⟩ := fin9 (a := x) (by omega)
  have e3 : x.toNat = fx.val := by omega
  rw [pw_m, e3]
  have hpx := pow9 (fx.val : Int) (by omega)
  rw [Int.toNat_natCast] at hpx
  exact tr_skip' (fun s h1 h2 => by
    have e : s = 2 ^ fx.val := by omega
    rw [e]; exact tri_c (g1 fx)) (by omega) (by omega) (by omega)
theorem tri_0 {T : Int} {inc : Int → Int} : trC (triS T inc) 1 = sumZ (fun s => if triS T inc s = true then 1 else 0) 512 ∧ trL (triS T inc) 1 = lstS (triS T inc) 512 0 := by
  have h := tr_skip' (P := triS T inc) (lo := 0) (hi := 1) (fun s h1 h2 => by
    have e : s = 0 := by omega
    rw [e]; exact tri_c (by decide +kernel)) (by omega) (by omega) (by omega)
  refine ⟨h.1.symm.trans ?_, h.2.symm.trans rfl⟩
  unfold trC
  show _ - sumZ _ 0 = _
  exact Int.sub_zero _
theorem tri3 {T : Int} {inc : Int → Int} {a b x : Int} (hT : 0 ≤ T ∧ T < 512) (h : 0 ≤ a ∧ a < b ∧ b < x ∧ x < 9) :
    triS T inc (2 ^ x.toNat + 2 ^ b.toNat + 2 ^ a.toNat) = true ↔ (inS T a = true ∧ inS T b = true ∧ inS T x = true) ∧ 19 < apS (inc a) (inc b) ∧ 19 < apS (inc a) (inc x) ∧ 19 < apS (inc b) (inc x) := by
  obtain ⟨fa, ha⟩ := fin9 (a := a) (by omega)
  obtain ⟨fb, hb⟩ := fin9 (a := b) (by omega)
  obtain ⟨fx, hx⟩ := fin9 (a := x) (by omega)
  have hab : fa < fb := by show fa.val < fb.val; omega
  have hbx : fb < fx := by show fb.val < fx.val; omega
  obtain ⟨h1, h2, h3, h4⟩ := s3_all fa fb fx hab hbx
  have e1 : a.toNat = fa.val := by omega
  have e2 : b.toNat = fb.val := by omega
  have e3 : x.toNat = fx.val := by omega
  rw [e1, e2, e3]
  have hp0 : 0 ≤ (2 : Int) ^ fx.val + 2 ^ fb.val + 2 ^ fa.val := by
    have hpa := pow9 (fa.val : Int) (by omega)
    have hpb := pow9 (fb.val : Int) (by omega)
    have hpx := pow9 (fx.val : Int) (by omega)
    rw [Int.toNat_natCast] at hpa hpb hpx
    omega
  have hm : ∀ k, inS (2 ^ fx.val + 2 ^ fb.val + 2 ^ fa.val) k = true ↔ k = a ∨ k = b ∨ k = x := by
    intro k
    constructor
    · intro hk
      obtain ⟨fk, hk2⟩ := fin9 (inS.rng hk)
      rw [hk2] at hk
      rcases (h4 fk).mp hk with q | q | q <;> subst q <;> omega
    · intro hk
      rcases hk with q | q | q
      · rw [q, ha]; exact (h4 fa).mpr (Or.inl rfl)
      · rw [q, hb]; exact (h4 fb).mpr (Or.inr (Or.inl rfl))
      · rw [q, hx]; exact (h4 fx).mpr (Or.inr (Or.inr rfl))
  rw [triS_iff, andn0 ⟨hp0, h3⟩ hT]
  constructor
  · rintro ⟨q1, _, q3⟩
    have ia := q1 a ((hm a).mpr (Or.inl rfl))
    have ib := q1 b ((hm b).mpr (Or.inr (Or.inl rfl)))
    have ix := q1 x ((hm x).mpr (Or.inr (Or.inr rfl)))
    have w1 := q3 b a (by omega) (by omega) (by omega) ((hm b).mpr (Or.inr (Or.inl rfl))) ((hm a).mpr (Or.inl rfl))
    have w2 := q3 x a (by omega) (by omega) (by omega) ((hm x).mpr (Or.inr (Or.inr rfl))) ((hm a).mpr (Or.inl rfl))
    have w3 := q3 x b (by omega) (by omega) (by omega) ((hm x).mpr (Or.inr (Or.inr rfl))) ((hm b).mpr (Or.inr (Or.inl rfl)))
    rw [show inO T inc a = inc a from if_pos ia, show inO T inc b = inc b from if_pos ib] at w1
    rw [show inO T inc a = inc a from if_pos ia, show inO T inc x = inc x from if_pos ix] at w2
    rw [show inO T inc b = inc b from if_pos ib, show inO T inc x = inc x from if_pos ix] at w3
    rw [apS_sy (inc a) (inc b), apS_sy (inc a) (inc x), apS_sy (inc b) (inc x)]
    exact ⟨⟨ia, ib, ix⟩, by omega, by omega, by omega⟩
  · rintro ⟨⟨ia, ib, ix⟩, w1, w2, w3⟩
    rw [apS_sy (inc a) (inc b)] at w1
    rw [apS_sy (inc a) (inc x)] at w2
    rw [apS_sy (inc b) (inc x)] at w3
    refine ⟨fun k hk => ?_, h2, fun i j h0 hji hi pi pj => ?_⟩
    · rcases (hm k).mp hk with q | q | q <;> rw [q] <;> assumption
    · have ci := (hm i).mp pi
      have cj := (hm j).mp pj
      rcases (by omega : (i = b ∧ j = a) ∨ (i = x ∧ j = a) ∨ (i = x ∧ j = b)) with ⟨q, r⟩ | ⟨q, r⟩ | ⟨q, r⟩
      · rw [q, r, show inO T inc a = inc a from if_pos ia, show inO T inc b = inc b from if_pos ib]; omega
      · rw [q, r, show inO T inc a = inc a from if_pos ia, show inO T inc x = inc x from if_pos ix]; omega
      · rw [q, r, show inO T inc b = inc b from if_pos ib, show inO T inc x = inc x from if_pos ix]; omega
