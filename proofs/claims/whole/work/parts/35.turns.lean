def dgS (a b c : Int) : Int → Int := fun t => if t = 0 then a else if t = 1 then b else if t = 2 then c else if t = 3 then -a else if t = 4 then -b else -c
def nbS (g : Int → Int) (v t : Int) : Int := (v + g t) % 180
def anyB (f : Int → Bool) : Nat → Bool
  | 0 => false
  | n + 1 => anyB f n || f (n : Int)
theorem anyB_of {f : Int → Bool} {i : Int} (h : f i = true) (h0 : 0 ≤ i) : ∀ n : Nat, i < (n : Int) → anyB f n = true
  | 0, q => by omega
  | n + 1, q => by
    show (anyB f n || f (n : Int)) = true
    by_cases hn : i < (n : Int)
    · rw [anyB_of h h0 n hn]; rfl
    · have : (n : Int) = i := by omega
      rw [this, h]; simp
theorem anyB_ex {f : Int → Bool} : ∀ n : Nat, anyB f n = true → ∃ i : Int, 0 ≤ i ∧ i < (n : Int) ∧ f i = true
  | 0, h => by cases h
  | n + 1, h => by
    have h' : (anyB f n || f (n : Int)) = true := h
    rw [Bool.or_eq_true] at h'
    rcases h' with h1 | h1
    · obtain ⟨i, a, b, c⟩ := anyB_ex n h1
      exact ⟨i, a, by omega, c⟩
    · exact ⟨(n : Int), by omega, by omega, h1⟩
/-- within n turns of r -/
def bal (g : Int → Int) (r : Int) : Nat → Int → Bool
  | 0, v => decide (v = r)
  | n + 1, v => bal g r n v || anyB (fun t => bal g r n (nbS g v t)) 6
def disS (g : Int → Int) (r v : Int) : Int := lstS (fun n => bal g r n.toNat v) 180 0
theorem bal_mono {g : Int → Int} {r v : Int} : ∀ (k n : Nat), bal g r n v = true → bal g r (n + k) v = true
  | 0, n, h => h
  | k + 1, n, h => by
    show (bal g r (n + k) v || _) = true
    rw [bal_mono k n h]; rfl
/-- each turn has one back -/
def invS (g : Int → Int) : Prop := ∀ t, 0 ≤ t → t < 6 → ∃ t', 0 ≤ t' ∧ t' < 6 ∧ ∀ v, (v + g t + g t') = v
theorem dgS_inv (a b c : Int) : invS (dgS a b c) := by
  intro t h0 h1
  by_cases h : t < 3
  · refine ⟨t + 3, by omega, by omega, fun v => ?_⟩
    rcases (by omega : t = 0 ∨ t = 1 ∨ t = 2) with rfl | rfl | rfl <;> simp [dgS] <;> omega
  · refine ⟨t - 3, by omega, by omega, fun v => ?_⟩
    rcases (by omega : t = 3 ∨ t = 4 ∨ t = 5) with rfl | rfl | rfl <;> simp [dgS] <;> omega
theorem nbS_bd (g : Int → Int) (v t : Int) : 0 ≤ nbS g v t ∧ nbS g v t < 180 := by unfold nbS; omega
theorem nbS_back {g : Int → Int} (hg : invS g) {v t : Int} (hv : 0 ≤ v ∧ v < 180) (ht : 0 ≤ t ∧ t < 6) : ∃ t', (0 ≤ t' ∧ t' < 6) ∧ nbS g (nbS g v t) t' = v := by
  obtain ⟨t', h1, h2, h3⟩ := hg t ht.1 ht.2
  refine ⟨t', ⟨h1, h2⟩, ?_⟩
  have := h3 v
  unfold nbS
  omega
theorem bal_step {g : Int → Int} {r v : Int} {n : Nat} {t : Int} (ht : 0 ≤ t ∧ t < 6) (h : bal g r n (nbS g v t) = true) : bal g r (n + 1) v = true := by
  show (bal g r n v || _) = true
  rw [anyB_of (f := fun t => bal g r n (nbS g v t)) h ht.1 6 (by omega)]
  simp
/-- the search, in the middle of the i-th waiting one, t of its turns tried -/
def bfs (g : Int → Int) (r : Int) (far q : Int → Int) (i en t : Int) : Prop :=
  (0 ≤ i ∧ i ≤ en ∧ 1 ≤ en ∧ en ≤ 180) ∧
  (∀ k, 0 ≤ k → k < en → (0 ≤ q k ∧ q k < 180) ∧ 0 ≤ far (q k) ∧ far (q k) ≤ k) ∧
  (∀ v, 0 ≤ v → v < 180 → far v = -6 ∨ ∃ k, (0 ≤ k ∧ k < en) ∧ q k = v) ∧
  (∀ k m, 0 ≤ k → k ≤ m → m < en → far (q k) ≤ far (q m)) ∧
  (i < en → ∀ k, 0 ≤ k → k < en → far (q k) ≤ far (q i) + 1) ∧
  (∀ v, 0 ≤ v → v < 180 → 0 ≤ far v → bal g r (far v).toNat v = true) ∧
  (∀ k u, 0 ≤ k → 0 ≤ u → u < 6 → (k < i ∨ (k = i ∧ u < t)) → ¬ far (nbS g (q k) u) = -6 ∧ far (nbS g (q k) u) ≤ far (q k) + 1) ∧
  en = sumZ (fun v => if far v = -6 then 0 else 1) 180 ∧
  (far r = 0 ∧ q 0 = r)
theorem sumZ_one {f g : Int → Int} {v : Int} (h0 : 0 ≤ v) (h1 : g v = f v + 1) (h : ∀ j, ¬ j = v → g j = f j) : ∀ n : Nat, sumZ g n = sumZ f n + (if v < (n : Int) then 1 else 0)
  | 0 => by rw [if_neg (by omega)]; rfl
  | n + 1 => by
    show sumZ g n + g n = sumZ f n + f n + _
    rw [sumZ_one h0 h1 h n]
    by_cases hn : (n : Int) = v
    · rw [if_neg (by omega), if_pos (by omega), hn, h1]; omega
    · rw [h _ hn]
      by_cases h2 : v < (n : Int)
      · rw [if_pos h2, if_pos (by omega)]; omega
      · rw [if_neg h2, if_neg (by omega)]; omega
theorem sumZ_zero : ∀ n : Nat, sumZ (fun _ => 0) n = 0
  | 0 => rfl
  | n + 1 => by show sumZ _ n + 0 = 0; rw [sumZ_zero n]; rfl
theorem bfs_0 {g : Int → Int} {r : Int} {q : Int → Int} (hr : 0 ≤ r ∧ r < 180) : bfs g r (zU (fun _ => -6) r 0) (zU q 0 r) 0 1 0 := by
  have hq : zU q 0 r 0 = r := zU_same
  have hf : zU (fun _ => -6) r 0 r = 0 := zU_same
  refine ⟨by omega, ?_, ?_, ?_, ?_, ?_, ?_, ?_, hf, hq⟩
  · intro k h0 h1
    have : k = 0 := by omega
    subst this
    rw [hq, hf]; omega
  · intro v h0 h1
    by_cases hv : v = r
    · exact Or.inr ⟨0, by omega, by rw [hq, hv]⟩
    · exact Or.inl (by rw [zU_ne hv])
  · intro k m h0 h1 h2
    have e1 : k = 0 := by omega
    have e2 : m = 0 := by omega
    rw [e1, e2]; exact Int.le_refl _
  · intro _ k h0 h1
    have e1 : k = 0 := by omega
    rw [e1]; omega
  · intro v h0 h1 h2
    by_cases hv : v = r
    · rw [hv, hf]; show decide (r = r) = true; simp
    · rw [zU_ne hv] at h2; omega
  · intro k u h0 h1 h2 h3; omega
  · rw [sumZ_one (f := fun _ => 0) (v := r) hr.1 (by show (if zU (fun _ => -6) r 0 r = -6 then (0 : Int) else 1) = 0 + 1; rw [hf]; rfl) (by intro j hj; show (if zU (fun _ => -6) r 0 j = -6 then (0 : Int) else 1) = 0; rw [zU_ne hj]; rfl) 180, sumZ_zero, if_pos (by omega)]; rfl
theorem bfs_skip {g : Int → Int} {r : Int} {far q : Int → Int} {i en t : Int} (h : bfs g r far q i en t) (hi : i < en) (ht : 0 ≤ t ∧ t < 6) (hs : ¬ far (nbS g (q i) t) = -6) : bfs g r far q i en (t + 1) := by
  obtain ⟨hA, hB, hC, hD, hE, hF, hG, hH, hI⟩ := h
  refine ⟨hA, hB, hC, hD, hE, hF, ?_, hH, hI⟩
  intro k u h0 h1 h2 h3
  by_cases hu : k = i ∧ u = t
  · rw [hu.1, hu.2]
    refine ⟨hs, ?_⟩
    rcases hC (nbS g (q i) t) (nbS_bd g _ _).1 (nbS_bd g _ _).2 with h4 | ⟨m, h5, h6⟩
    · exact absurd h4 hs
    · rw [← h6]; exact hE hi m h5.1 h5.2
  · exact hG k u h0 h1 h2 (by omega)
theorem bfs_room {g : Int → Int} {r : Int} {far q : Int → Int} {i en t v : Int} (h : bfs g r far q i en t) (hv : 0 ≤ v ∧ v < 180) (hs : far v = -6) : en < 180 := by
  obtain ⟨hA, hB, hC, hD, hE, hF, hG, hH, hI⟩ := h
  have h1 := sumZ_one (f := fun j => if far j = -6 then 0 else 1) (g := fun j => if j = v then 1 else if far j = -6 then 0 else 1) hv.1 (by show (if v = v then (1 : Int) else _) = (if far v = -6 then (0 : Int) else 1) + 1; rw [if_pos rfl, if_pos hs]; rfl) (by intro j hj; exact if_neg hj) 180
  rw [if_pos (by omega), ← hH] at h1
  have h2 := sumZ_bd (f := fun j => if j = v then 1 else if far j = -6 then 0 else 1) (lo := 0) (hi := 1) (fun j => by split <;> (try split) <;> decide) 180
  omega
theorem bfs_new {g : Int → Int} {r : Int} {far q : Int → Int} {i en t : Int} (hg : invS g) (h : bfs g r far q i en t) (hi : i < en) (ht : 0 ≤ t ∧ t < 6) (hs : far (nbS g (q i) t) = -6) : bfs g r (zU far (nbS g (q i) t) (far (q i) + 1)) (zU q en (nbS g (q i) t)) i (en + 1) (t + 1) := by
  have hroom := bfs_room h (nbS_bd g (q i) t) hs
  obtain ⟨hA, hB, hC, hD, hE, hF, hG, hH, hI⟩ := h
  have hx := nbS_bd g (q i) t
  generalize hxe : nbS g (q i) t = x at hx hs ⊢
  have hqi := hB i hA.1 hi
  have hold : ∀ k, 0 ≤ k → k < en → zU q en x k = q k := fun k h0 h1 => zU_ne (by omega)
  have hnx : ∀ k, 0 ≤ k → k < en → ¬ q k = x := fun k h0 h1 e => by
    have := (hB k h0 h1).2.1; rw [e, hs] at this; omega
  have hfo : ∀ k, 0 ≤ k → k < en → zU far x (far (q i) + 1) (q k) = far (q k) := fun k h0 h1 => zU_ne (hnx k h0 h1)
  have hqn : zU q en x en = x := zU_same
  have hfn : zU far x (far (q i) + 1) x = far (q i) + 1 := zU_same
  have hle : ∀ k, 0 ≤ k → k < en + 1 → zU far x (far (q i) + 1) (zU q en x k) ≤ far (q i) + 1 := by
    intro k h0 h1
    by_cases hk : k = en
    · rw [hk, hqn, hfn]; exact Int.le_refl _
    · rw [hold k h0 (by omega), hfo k h0 (by omega)]; exact hE hi k h0 (by omega)
  have hii : zU far x (far (q i) + 1) (zU q en x i) = far (q i) := by rw [hold i hA.1 hi, hfo i hA.1 hi]
  have hkeep : ∀ v, ¬ far v = -6 → zU far x (far (q i) + 1) v = far v := fun v hv => zU_ne (fun e => hv (by rw [e]; exact hs))
  refine ⟨by omega, ?_, ?_, ?_, ?_, ?_, ?_, ?_, ?_, ?_⟩
  · intro k h0 h1
    by_cases hk : k = en
    · rw [hk, hqn, hfn]; omega
    · rw [hold k h0 (by omega), hfo k h0 (by omega)]; exact hB k h0 (by omega)
  · intro v h0 h1
    by_cases hv : v = x
    · exact Or.inr ⟨en, by omega, by rw [hqn, hv]⟩
    · rw [zU_ne hv]
      rcases hC v h0 h1 with h2 | ⟨k, h3, h4⟩
      · exact Or.inl h2
      · exact Or.inr ⟨k, by omega, by rw [hold k h3.1 h3.2, h4]⟩
  · intro k m h0 h1 h2
    by_cases hm : m = en
    · rw [hm, hqn, hfn]; exact hle k h0 (by omega)
    · rw [hold m (by omega) (by omega), hfo m (by omega) (by omega), hold k h0 (by omega), hfo k h0 (by omega)]
      exact hD k m h0 h1 (by omega)
  · intro _ k h0 h1
    rw [hii]; exact hle k h0 h1
  · intro v h0 h1 h2
    by_cases hv : v = x
    · rw [hv, hfn]
      have e : (far (q i) + 1).toNat = (far (q i)).toNat + 1 := by omega
      rw [e]
      obtain ⟨t', ht', hb⟩ := nbS_back hg hqi.1 ht
      rw [hxe] at hb
      exact bal_step ht' (by rw [hb]; exact hF (q i) hqi.1.1 hqi.1.2 hqi.2.1)
    · rw [zU_ne hv] at h2 ⊢
      exact hF v h0 h1 h2
  · intro k u h0 h1 h2 h3
    by_cases hu : k = i ∧ u = t
    · rw [hu.1, hu.2, hold i hA.1 hi, hxe, hfn, hfo i hA.1 hi]
      exact ⟨by omega, Int.le_refl _⟩
    · have hk : k < en := by omega
      rw [hold k h0 hk, hfo k h0 hk]
      have := hG k u h0 h1 h2 (by omega)
      rw [hkeep _ this.1]; exact this
  · have h9 := sumZ_one (f := fun j => if far j = -6 then 0 else 1) (g := fun j => if zU far x (far (q i) + 1) j = -6 then 0 else 1) hx.1 (by show (if zU far x (far (q i) + 1) x = -6 then (0 : Int) else 1) = (if far x = -6 then (0 : Int) else 1) + 1; rw [hfn, if_neg (by omega), if_pos hs]; rfl) (by intro j hj; show (if zU far x (far (q i) + 1) j = -6 then (0 : Int) else 1) = _; rw [zU_ne hj]) 180
    rw [h9, if_pos (by omega), ← hH]
  · rw [hkeep r (by omega)]; exact hI.1
  · rw [hold 0 (by omega) (by omega)]; exact hI.2
theorem bfs_adv {g : Int → Int} {r : Int} {far q : Int → Int} {i en : Int} (h : bfs g r far q i en 6) (hi : i < en) : bfs g r far q (i + 1) en 0 := by
  obtain ⟨hA, hB, hC, hD, hE, hF, hG, hH, hI⟩ := h
  refine ⟨by omega, hB, hC, hD, ?_, hF, ?_, hH, hI⟩
  · intro h1 k h2 h3
    have h4 := hE hi k h2 h3
    have h5 := hD i (i + 1) hA.1 (by omega) h1
    omega
  · intro k u h0 h1 h2 h3
    exact hG k u h0 h1 h2 (by omega)
theorem lst_is {P : Int → Bool} {d : Int} : ∀ (n : Nat) (i : Int), i ≤ d → d < i + n → P d = true → (∀ j, i ≤ j → j < d → P j = false) → lstS P n i = d
  | 0, i, h1, h2, _, _ => by omega
  | n + 1, i, h1, h2, hp, hn => by
    show (if P i = true then i else lstS P n (i + 1)) = d
    by_cases hd : i = d
    · rw [hd, if_pos hp]
    · rw [hn i (Int.le_refl _) (by omega), if_neg (by decide)]
      exact lst_is n (i + 1) (by omega) (by omega) hp (fun j h3 h4 => hn j (by omega) h4)
theorem lst_no {P : Int → Bool} : ∀ (n : Nat) (i : Int), (∀ j, i ≤ j → j < i + n → P j = false) → lstS P n i = -6
  | 0, i, _ => rfl
  | n + 1, i, h => by
    show (if P i = true then i else lstS P n (i + 1)) = -6
    rw [h i (Int.le_refl _) (by omega), if_neg (by decide)]
    exact lst_no n (i + 1) (fun j h3 h4 => h j (by omega) (by omega))
theorem bfs_near {g : Int → Int} {r : Int} {far q : Int → Int} {en : Int} (hg : invS g) (h : bfs g r far q en en 0) : ∀ (n : Nat) (v : Int), 0 ≤ v → v < 180 → bal g r n v = true → ¬ far v = -6 ∧ far v ≤ (n : Int)
  | 0, v, h0, h1, hb => by
    have e : v = r := by simpa [bal] using hb
    rw [e, h.2.2.2.2.2.2.2.2.1]; exact ⟨by decide, by omega⟩
  | n + 1, v, h0, h1, hb => by
    have hb' : (bal g r n v || anyB (fun t => bal g r n (nbS g v t)) 6) = true := hb
    rw [Bool.or_eq_true] at hb'
    rcases hb' with h2 | h2
    · have := bfs_near hg h n v h0 h1 h2
      exact ⟨this.1, by omega⟩
    · obtain ⟨t, h3, h4, h5⟩ := anyB_ex 6 h2
      have hx := nbS_bd g v t
      have h6 := bfs_near hg h n (nbS g v t) hx.1 hx.2 h5
      obtain ⟨hA, hB, hC, hD, hE, hF, hG, hH, hI⟩ := h
      rcases hC (nbS g v t) hx.1 hx.2 with h7 | ⟨k, h8, h9⟩
      · exact absurd h7 h6.1
      · obtain ⟨t', ht', hb2⟩ := nbS_back hg ⟨h0, h1⟩ ⟨h3, h4⟩
        have h10 := hG k t' h8.1 ht'.1 ht'.2 (Or.inl h8.2)
        rw [h9, hb2] at h10
        exact ⟨h10.1, by omega⟩
theorem bfs_end {g : Int → Int} {r : Int} {far q : Int → Int} {i en : Int} (hg : invS g) (h : bfs g r far q i en 0) (hi : ¬ i < en) {v : Int} (hv : 0 ≤ v ∧ v < 180) : far v = disS g r v := by
  have e : i = en := by have := h.1; omega
  subst e
  have hnear := bfs_near hg h
  obtain ⟨hA, hB, hC, hD, hE, hF, hG, hH, hI⟩ := h
  unfold disS
  rcases hC v hv.1 hv.2 with h1 | ⟨k, h2, h3⟩
  · rw [h1, lst_no]
    intro j h4 h5
    cases hb : bal g r j.toNat v with
    | false => rfl
    | true => exact absurd h1 (hnear _ v hv.1 hv.2 hb).1
  · have hk := hB k h2.1 h2.2
    rw [h3] at hk
    symm
    refine lst_is 180 0 hk.2.1 (by omega) (hF v hv.1 hv.2 hk.2.1) ?_
    intro j h4 h5
    cases hb : bal g r j.toNat v with
    | false => rfl
    | true =>
      have := (hnear _ v hv.1 hv.2 hb).2
      omega
def firS (g : Int → Int) (r v : Int) : Int := if disS g r v = -6 ∨ disS g r v = 0 then -6 else lstS (fun t => decide (disS g r (nbS g v t) = disS g r v - 1)) 6 0
theorem lstS_bd {P : Int → Bool} : ∀ (n : Nat) (i : Int), 0 ≤ i → -6 ≤ lstS P n i ∧ lstS P n i < i + n + 1
  | 0, i, h => by unfold lstS; omega
  | n + 1, i, h => by
    have := lstS_bd (P := P) n (i + 1) (by omega)
    show -6 ≤ (if P i = true then i else lstS P n (i + 1)) ∧ (if P i = true then i else lstS P n (i + 1)) < _
    split <;> omega
theorem disS_bd (g : Int → Int) (r v : Int) : -6 ≤ disS g r v ∧ disS g r v ≤ 180 := by
  have := lstS_bd (P := fun n => bal g r n.toNat v) 180 0 (by decide)
  unfold disS; omega
theorem dgS_bd {a b c : Int} (h : (1 ≤ a ∧ a ≤ 179) ∧ (1 ≤ b ∧ b ≤ 179) ∧ (1 ≤ c ∧ c ≤ 179)) (t : Int) : -179 ≤ dgS a b c t ∧ dgS a b c t ≤ 179 := by
  unfold dgS; split <;> (try split) <;> (try split) <;> (try split) <;> (try split) <;> omega
theorem lstS_ix {P : Int → Bool} {i : Int} (hp : P i = true) (h0 : 0 ≤ i) : ∀ (N : Nat), True := fun _ => trivial
theorem bfs_val {g : Int → Int} {r : Int} {far q : Int → Int} {i en t v : Int} (h : bfs g r far q i en t) (hv : 0 ≤ v ∧ v < 180) : -6 ≤ far v ∧ far v ≤ 180 := by
  rcases h.2.2.1 v hv.1 hv.2 with h1 | ⟨k, h2, h3⟩
  · rw [h1]; decide
  · have := (h.2.1 k h2.1 h2.2).2
    have h4 := h.1
    rw [h3] at this; omega

set_option maxRecDepth 20000 in
theorem hin_X7_tellTurns_X7 : ∀ w ∈ u_ws RX7 TX7 3, w ∈ wsX7_tellTurns := by decide +kernel
set_option maxRecDepth 20000 in
theorem fl_X7_tellTurns_18 : Cond.fieldLink RX7 18 "HornCity$Turns" "degrees" "[I" ∈ wsX7_tellTurns := by decide +kernel
set_option maxHeartbeats 4000000 in
set_option maxRecDepth 100000 in
theorem c_X7_tellTurns (l : Launch) (D : va_G) (cI cJ cZ : ClassId) (tu fa wt dg : Nat) (dgf : Int → Int) (a b c0 : Int) : zMw l yX7_tellTurns wsX7_tellTurns (zRm 0) D cI cJ cZ [.ref tu, .int (zI a), .int (zI b), .int (zI c0)] [(tu, .inr (5, [.ref fa, .ref wt, .ref dg])), (dg, .inl (cI, 6, .inl (zA dgf)))] (S := (Int → Int)) (fun u => u = dgS a b c0) (fun _ => none) (fun u => [(tu, .inr (5, [.ref fa, .ref wt, .ref dg])), (dg, .inl (cI, 6, .inl (zA u)))]) := by
  refine zMw_v (cc := cX7_tellTurns) (maxL := 4) (by decide +kernel) rfl (Nat.le_of_ble_eq_true rfl) rfl (fun _ => rfl) ?_
  intro p e s m args below meth c Q H0 ls F hK hz hl hret
  obtain ⟨hx, hb, hml, hown0, hts⟩ := id F
  have hown : s.vm.findClass RX7 = some m.cls := hown0
  obtain ⟨ws0, hw0⟩ : ∃ w : va_W, w = [(tu, .inr (5, [.ref fa, .ref wt, .ref dg])), (dg, .inl (cI, 6, .inl (zA dgf)))] := ⟨_, rfl⟩
  rw [← hw0] at hret
  have hz : zH D (zF ws0) H0 [(tu, .inr (5, [.ref fa, .ref wt, .ref dg])), (dg, .inl (cI, 6, .inl (zA dgf)))] H0 [] := by rw [hw0]; exact hz
  have hl : lv_has ls 4 [(0, .ref tu), (1, .int (zI a)), (2, .int (zI b)), (3, .int (zI c0))] := hl
  refine lv_aload_n hx hb dX7_tellTurns_0 rfl (lv_at hl 0 rfl) ?_
  refine z_get (C := RX7) (T := TX7) (N := 3) (ref := "HornCity$Turns") hx hb hts hin_X7_tellTurns_X7 hown hK hz 0 rfl rfl 2 (by decide) (hts _ fl_X7_tellTurns_18) rfl rfl dX7_tellTurns_1 ?_
  refine z_iconst hx hb dX7_tellTurns_4 ?_
  refine lv_iload_n hx hb dX7_tellTurns_5 rfl (lv_at hl 1 rfl) ?_
  refine z_iast hx hb hK hz 1 rfl (by omega) (by decide) dX7_tellTurns_6 (fun H locs hz => ?_)
  have hz : zH D (zF ws0) H0 [(tu, .inr (5, [.ref fa, .ref wt, .ref dg])), (dg, .inl (cI, 6, .inl (zA (zU dgf 0 a))))] H locs := hz
  refine lv_aload_n hx hb dX7_tellTurns_7 rfl (lv_at hl 0 rfl) ?_
  refine z_get (C := RX7) (T := TX7) (N := 3) (ref := "HornCity$Turns") hx hb hts hin_X7_tellTurns_X7 hown hK hz 0 rfl rfl 2 (by decide) (hts _ fl_X7_tellTurns_18) rfl rfl dX7_tellTurns_8 ?_
  refine z_iconst hx hb dX7_tellTurns_11 ?_
  refine lv_iload_n hx hb dX7_tellTurns_12 rfl (lv_at hl 2 rfl) ?_
  refine z_iast hx hb hK hz 1 rfl (by omega) (by decide) dX7_tellTurns_13 (fun H locs hz => ?_)
  have hz : zH D (zF ws0) H0 [(tu, .inr (5, [.ref fa, .ref wt, .ref dg])), (dg, .inl (cI, 6, .inl (zA (zU (zU dgf 0 a) 1 b))))] H locs := hz
  refine lv_aload_n hx hb dX7_tellTurns_14 rfl (lv_at hl 0 rfl) ?_
  refine z_get (C := RX7) (T := TX7) (N := 3) (ref := "HornCity$Turns") hx hb hts hin_X7_tellTurns_X7 hown hK hz 0 rfl rfl 2 (by decide) (hts _ fl_X7_tellTurns_18) rfl rfl dX7_tellTurns_15 ?_
  refine z_iconst hx hb dX7_tellTurns_18 ?_
  refine lv_iload_n hx hb dX7_tellTurns_19 rfl (lv_at hl 3 rfl) ?_
  refine z_iast hx hb hK hz 1 rfl (by omega) (by decide) dX7_tellTurns_20 (fun H locs hz => ?_)
  have hz : zH D (zF ws0) H0 [(tu, .inr (5, [.ref fa, .ref wt, .ref dg])), (dg, .inl (cI, 6, .inl (zA (zU (zU (zU dgf 0 a) 1 b) 2 c0))))] H locs := hz
  refine lv_aload_n hx hb dX7_tellTurns_21 rfl (lv_at hl 0 rfl) ?_
  refine z_get (C := RX7) (T := TX7) (N := 3) (ref := "HornCity$Turns") hx hb hts hin_X7_tellTurns_X7 hown hK hz 0 rfl rfl 2 (by decide) (hts _ fl_X7_tellTurns_18) rfl rfl dX7_tellTurns_22 ?_
  refine z_iconst hx hb dX7_tellTurns_25 ?_
  refine lv_iload_n hx hb dX7_tellTurns_26 rfl (lv_at hl 1 rfl) ?_
  refine z_ineg hx hb dX7_tellTurns_27 ?_
  refine z_iast hx hb hK hz 1 rfl (by omega) (by decide) dX7_tellTurns_28 (fun H locs hz => ?_)
  have hz : zH D (zF ws0) H0 [(tu, .inr (5, [.ref fa, .ref wt, .ref dg])), (dg, .inl (cI, 6, .inl (zA (zU (zU (zU (zU dgf 0 a) 1 b) 2 c0) 3 (-a)))))] H locs := hz
  refine lv_aload_n hx hb dX7_tellTurns_29 rfl (lv_at hl 0 rfl) ?_
  refine z_get (C := RX7) (T := TX7) (N := 3) (ref := "HornCity$Turns") hx hb hts hin_X7_tellTurns_X7 hown hK hz 0 rfl rfl 2 (by decide) (hts _ fl_X7_tellTurns_18) rfl rfl dX7_tellTurns_30 ?_
  refine z_iconst hx hb dX7_tellTurns_33 ?_
  refine lv_iload_n hx hb dX7_tellTurns_34 rfl (lv_at hl 2 rfl) ?_
  refine z_ineg hx hb dX7_tellTurns_35 ?_
  refine z_iast hx hb hK hz 1 rfl (by omega) (by decide) dX7_tellTurns_36 (fun H locs hz => ?_)
  have hz : zH D (zF ws0) H0 [(tu, .inr (5, [.ref fa, .ref wt, .ref dg])), (dg, .inl (cI, 6, .inl (zA (zU (zU (zU (zU (zU dgf 0 a) 1 b) 2 c0) 3 (-a)) 4 (-b)))))] H locs := hz
  refine lv_aload_n hx hb dX7_tellTurns_37 rfl (lv_at hl 0 rfl) ?_
  refine z_get (C := RX7) (T := TX7) (N := 3) (ref := "HornCity$Turns") hx hb hts hin_X7_tellTurns_X7 hown hK hz 0 rfl rfl 2 (by decide) (hts _ fl_X7_tellTurns_18) rfl rfl dX7_tellTurns_38 ?_
  refine z_iconst hx hb dX7_tellTurns_41 ?_
  refine lv_iload_n hx hb dX7_tellTurns_42 rfl (lv_at hl 3 rfl) ?_
  refine z_ineg hx hb dX7_tellTurns_43 ?_
  refine z_iast hx hb hK hz 1 rfl (by omega) (by decide) dX7_tellTurns_44 (fun H locs hz => ?_)
  have hz : zH D (zF ws0) H0 [(tu, .inr (5, [.ref fa, .ref wt, .ref dg])), (dg, .inl (cI, 6, .inl (zA (zU (zU (zU (zU (zU (zU dgf 0 a) 1 b) 2 c0) 3 (-a)) 4 (-b)) 5 (-c0)))))] H locs := hz
  have hz := zH_ext hz 1 (dgS a b c0) rfl (fun j h1 h2 => by rcases (by omega : j = 0 ∨ j = 1 ∨ j = 2 ∨ j = 3 ∨ j = 4 ∨ j = 5) with rfl | rfl | rfl | rfl | rfl | rfl <;> simp [zU, dgS])
  have hz : zH D (zF ws0) H0 [(tu, .inr (5, [.ref fa, .ref wt, .ref dg])), (dg, .inl (cI, 6, .inl (zA (dgS a b c0))))] H locs := hz
  exact hret ((dgS a b c0 : Int → Int)) dX7_tellTurns_45 (show (dgS a b c0) = dgS a b c0 from rfl) hz

set_option maxRecDepth 20000 in
theorem hin_X7_fewestFrom_X7 : ∀ w ∈ u_ws RX7 TX7 3, w ∈ wsX7_fewestFrom := by decide +kernel
set_option maxRecDepth 20000 in
theorem fl_X7_fewestFrom_9 : Cond.fieldLink RX7 9 "HornCity$Turns" "far" "[I" ∈ wsX7_fewestFrom := by decide +kernel
set_option maxHeartbeats 4000000 in
set_option maxRecDepth 100000 in
theorem c_X7_fewestFrom (l : Launch) (D : va_G) (cI cJ cZ : ClassId) (tu fa wt dg : Nat) (faf : Int → Int) (inl : Int) (hr : (-2147483648 ≤ inl ∧ inl ≤ 2147483647)) : zMp l yX7_fewestFrom wsX7_fewestFrom (zRm 1) D cI cJ cZ [.ref tu, .int (zI inl)] [(tu, .inr (5, [.ref fa, .ref wt, .ref dg])), (fa, .inl (cI, 180, .inl (zA faf)))] (some (.int (zI (faf (inl % 180))))) := by
  refine zMp_i (cc := cX7_fewestFrom) (maxL := 2) (by decide +kernel) rfl (Nat.le_of_ble_eq_true rfl) rfl ?_
  intro p e s m args below meth c Q H ls F hK hz hl hret
  obtain ⟨hx, hb, hml, hown0, hts⟩ := id F
  have hown : s.vm.findClass RX7 = some m.cls := hown0
  obtain ⟨ws0, hw0⟩ : ∃ w : va_W, w = [(tu, .inr (5, [.ref fa, .ref wt, .ref dg])), (fa, .inl (cI, 180, .inl (zA faf)))] := ⟨_, rfl⟩
  have hz : zH D (zF ws0) H [(tu, .inr (5, [.ref fa, .ref wt, .ref dg])), (fa, .inl (cI, 180, .inl (zA faf)))] H [] := by rw [hw0]; exact hz
  have hl : lv_has ls 2 [(0, .ref tu), (1, .int (zI inl))] := hl
  refine lv_aload_n hx hb dX7_fewestFrom_0 rfl (lv_at hl 0 rfl) ?_
  refine z_get (C := RX7) (T := TX7) (N := 3) (ref := "HornCity$Turns") hx hb hts hin_X7_fewestFrom_X7 hown hK hz 0 rfl rfl 0 (by decide) (hts _ fl_X7_fewestFrom_9) rfl rfl dX7_fewestFrom_1 ?_
  refine lv_iload_n hx hb dX7_fewestFrom_4 rfl (lv_at hl 1 rfl) ?_
  refine z_callSp (As := [.int (zI inl)]) (rest := [.ref fa]) F hK hz hl (c_X5_leftOver l D cI cJ cZ inl (by omega)) (va_cwS 1 hts gX7_fewestFrom_X5_leftOver rfl rfl rfl (by decide +kernel) ⟨Nat.le_of_ble_eq_true rfl, Nat.le_of_ble_eq_true rfl⟩) [] rfl rfl rfl rfl (Nat.le_of_ble_eq_true rfl) ⟨Nat.le_of_ble_eq_true rfl, Nat.le_of_ble_eq_true rfl⟩ dX7_fewestFrom_5 ?_
  refine z_iald hx hb hK hz 1 rfl (by omega) (by decide) dX7_fewestFrom_8 ?_
  exact hret dX7_fewestFrom_9 (congrArg (fun z => some (Value.int (zI z))) (show ((faf (inl % 180)) : Int) = (faf (inl % 180)) by rfl))

set_option maxRecDepth 20000 in
theorem hin_X7_measureTo_X7 : ∀ w ∈ u_ws RX7 TX7 3, w ∈ wsX7_measureTo := by decide +kernel
set_option maxRecDepth 20000 in
theorem fl_X7_measureTo_9 : Cond.fieldLink RX7 9 "HornCity$Turns" "far" "[I" ∈ wsX7_measureTo := by decide +kernel
set_option maxRecDepth 20000 in
theorem fl_X7_measureTo_15 : Cond.fieldLink RX7 15 "HornCity$Turns" "waiting" "[I" ∈ wsX7_measureTo := by decide +kernel
set_option maxRecDepth 20000 in
theorem fl_X7_measureTo_18 : Cond.fieldLink RX7 18 "HornCity$Turns" "degrees" "[I" ∈ wsX7_measureTo := by decide +kernel
set_option maxHeartbeats 4000000 in
set_option maxRecDepth 100000 in
theorem c_X7_measureTo (l : Launch) (D : va_G) (cI cJ cZ : ClassId) (tu fa wt dg : Nat) (faf wtf dgf : Int → Int) (to a b c0 : Int) (hto : 0 ≤ to ∧ to < 180) (habc : (1 ≤ a ∧ a ≤ 179) ∧ (1 ≤ b ∧ b ≤ 179) ∧ (1 ≤ c0 ∧ c0 ≤ 179)) : zMw l yX7_measureTo wsX7_measureTo (zRm 2) D cI cJ cZ [.ref tu, .int (zI to), .int (zI a), .int (zI b), .int (zI c0)] [(tu, .inr (5, [.ref fa, .ref wt, .ref dg])), (fa, .inl (cI, 180, .inl (zA faf))), (wt, .inl (cI, 180, .inl (zA wtf))), (dg, .inl (cI, 6, .inl (zA dgf)))] (S := (Int → Int) × (Int → Int) × (Int → Int)) (fun u => u.2.2 = dgS a b c0 ∧ (∀ v, 0 ≤ v → v < 180 → u.1 v = disS (dgS a b c0) to v)) (fun _ => none) (fun u => [(tu, .inr (5, [.ref fa, .ref wt, .ref dg])), (fa, .inl (cI, 180, .inl (zA u.1))), (wt, .inl (cI, 180, .inl (zA u.2.1))), (dg, .inl (cI, 6, .inl (zA u.2.2)))]) := by
  refine zMw_v (cc := cX7_measureTo) (maxL := 10) (by decide +kernel) rfl (Nat.le_of_ble_eq_true rfl) rfl (fun _ => rfl) ?_
  intro p e s m args below meth c Q H0 ls F hK hz hl hret
  obtain ⟨hx, hb, hml, hown0, hts⟩ := id F
  have hown : s.vm.findClass RX7 = some m.cls := hown0
  obtain ⟨ws0, hw0⟩ : ∃ w : va_W, w = [(tu, .inr (5, [.ref fa, .ref wt, .ref dg])), (fa, .inl (cI, 180, .inl (zA faf))), (wt, .inl (cI, 180, .inl (zA wtf))), (dg, .inl (cI, 6, .inl (zA dgf)))] := ⟨_, rfl⟩
  rw [← hw0] at hret
  have hz : zH D (zF ws0) H0 [(tu, .inr (5, [.ref fa, .ref wt, .ref dg])), (fa, .inl (cI, 180, .inl (zA faf))), (wt, .inl (cI, 180, .inl (zA wtf))), (dg, .inl (cI, 6, .inl (zA dgf)))] H0 [] := by rw [hw0]; exact hz
  have hl : lv_has ls 10 [(0, .ref tu), (1, .int (zI to)), (2, .int (zI a)), (3, .int (zI b)), (4, .int (zI c0))] := hl
  refine lv_aload_n hx hb dX7_measureTo_0 rfl (lv_at hl 0 rfl) ?_
  refine lv_iload_n hx hb dX7_measureTo_1 rfl (lv_at hl 2 rfl) ?_
  refine lv_iload_n hx hb dX7_measureTo_2 rfl (lv_at hl 3 rfl) ?_
  refine lv_iload hx hb dX7_measureTo_3 (lv_at hl 4 rfl) ?_
  refine z_callVwv (As := [.int (zI a), .int (zI b), .int (zI c0)]) (rest := []) (C := RX7) (T := TX7) (N := 3) F hK hz hl (c_X7_tellTurns l D cI cJ cZ tu fa wt dg dgf a b c0 ) (cwV 3 hts gX7_measureTo_X7_tellTurns rfl rfl rfl (by decide +kernel) ⟨Nat.le_of_ble_eq_true rfl, Nat.le_of_ble_eq_true rfl⟩) rfl 0 rfl [0, 3] rfl rfl (by decide +kernel) rfl rfl (Nat.le_of_ble_eq_true rfl) ⟨Nat.le_of_ble_eq_true rfl, Nat.le_of_ble_eq_true rfl⟩ dX7_measureTo_5 (fun u H locs hu hz => ?_)
  obtain ⟨d1_1, hu9⟩ : ∃ z, z = u := ⟨_, rfl⟩
  subst hu9
  have hu : d1_1 = dgS a b c0 := hu
  have g5_0 := hu
  have g5_0 := g5_0.symm
  subst g5_0
  have hz : zH D (zF ws0) H0 [(tu, .inr (5, [.ref fa, .ref wt, .ref dg])), (fa, .inl (cI, 180, .inl (zA faf))), (wt, .inl (cI, 180, .inl (zA wtf))), (dg, .inl (cI, 6, .inl (zA (dgS a b c0))))] H locs := hz
  refine z_iconst hx hb dX7_measureTo_8 ?_
  refine lv_istore (lv' := [(5, .int (zI 0)), (0, .ref tu), (1, .int (zI to)), (2, .int (zI a)), (3, .int (zI b)), (4, .int (zI c0))]) hx hb dX7_measureTo_9 hl (Nat.le_of_ble_eq_true rfl) rfl (fun ls hl => ?_)
  have L11 : ∀ (n : Nat) (i : Int) (fx : Int → Int) (H : Heap) (locs : List Loc) (ls : Array Slot), ((180 - i).toNat = n) → (0 ≤ i ∧ i ≤ 180) → (∀ j, 0 ≤ j → j < i → fx j = (fun _ => -6 : Int → Int) j) → zH D (zF ws0) H0 [(tu, .inr (5, [.ref fa, .ref wt, .ref dg])), (fa, .inl (cI, 180, .inl (zA fx))), (wt, .inl (cI, 180, .inl (zA wtf))), (dg, .inl (cI, 6, .inl (zA (dgS a b c0))))] H locs → lv_has ls 10 [(5, .int (zI i)), (0, .ref tu), (1, .int (zI to)), (2, .int (zI a)), (3, .int (zI b)), (4, .int (zI c0))] → W p l e (zRm 2) s m args below meth c H locs 0 0 Q (F0 m 11 ls []) := by
    intro n
    refine Nat.strongRecOn n ?_
    intro n ih11 i fx H locs ls hn11 h0 hfx hz hl
    refine lv_iload hx hb dX7_measureTo_11 (lv_at hl 0 rfl) ?_
    refine z_sipush hx hb dX7_measureTo_13 (by decide) ?_
    refine z_icmp_ge (tgt := 34) hx hb dX7_measureTo_16 (by decide) (by omega) (by decide) (fun h16 => ?_) (fun h16 => ?_)
    ·
      have hz := zH_ext hz 1 (fun _ => -6) rfl (fun j h1 h2 => hfx j h1 (by omega))
      have hz : zH D (zF ws0) H0 [(tu, .inr (5, [.ref fa, .ref wt, .ref dg])), (fa, .inl (cI, 180, .inl (zA (fun _ => -6)))), (wt, .inl (cI, 180, .inl (zA wtf))), (dg, .inl (cI, 6, .inl (zA (dgS a b c0))))] H locs := hz
      refine lv_aload_n hx hb dX7_measureTo_34 rfl (lv_at hl 1 rfl) ?_
      refine z_get (C := RX7) (T := TX7) (N := 3) (ref := "HornCity$Turns") hx hb hts hin_X7_measureTo_X7 hown hK hz 0 rfl rfl 0 (by decide) (hts _ fl_X7_measureTo_9) rfl rfl dX7_measureTo_35 ?_
      refine lv_iload_n hx hb dX7_measureTo_38 rfl (lv_at hl 2 rfl) ?_
      refine z_callSp (As := [.int (zI to)]) (rest := [.ref fa]) F hK hz hl (c_X5_leftOver l D cI cJ cZ to (by omega)) (va_cwS 1 hts gX7_measureTo_X5_leftOver rfl rfl rfl (by decide +kernel) ⟨Nat.le_of_ble_eq_true rfl, Nat.le_of_ble_eq_true rfl⟩) [] rfl rfl rfl rfl (Nat.le_of_ble_eq_true rfl) ⟨Nat.le_of_ble_eq_true rfl, Nat.le_of_ble_eq_true rfl⟩ dX7_measureTo_39 ?_
      refine z_iconst hx hb dX7_measureTo_42 ?_
      refine z_iast hx hb hK hz 1 rfl (by omega) (by decide) dX7_measureTo_43 (fun H locs hz => ?_)
      have hz : zH D (zF ws0) H0 [(tu, .inr (5, [.ref fa, .ref wt, .ref dg])), (fa, .inl (cI, 180, .inl (zA (zU (fun _ => -6) (to % 180) 0)))), (wt, .inl (cI, 180, .inl (zA wtf))), (dg, .inl (cI, 6, .inl (zA (dgS a b c0))))] H locs := hz
      refine lv_aload_n hx hb dX7_measureTo_44 rfl (lv_at hl 1 rfl) ?_
      refine z_get (C := RX7) (T := TX7) (N := 3) (ref := "HornCity$Turns") hx hb hts hin_X7_measureTo_X7 hown hK hz 0 rfl rfl 1 (by decide) (hts _ fl_X7_measureTo_15) rfl rfl dX7_measureTo_45 ?_
      refine z_iconst hx hb dX7_measureTo_48 ?_
      refine lv_iload_n hx hb dX7_measureTo_49 rfl (lv_at hl 2 rfl) ?_
      refine z_iast hx hb hK hz 2 rfl (by omega) (by decide) dX7_measureTo_50 (fun H locs hz => ?_)
      have hz : zH D (zF ws0) H0 [(tu, .inr (5, [.ref fa, .ref wt, .ref dg])), (fa, .inl (cI, 180, .inl (zA (zU (fun _ => -6) (to % 180) 0)))), (wt, .inl (cI, 180, .inl (zA (zU wtf 0 to)))), (dg, .inl (cI, 6, .inl (zA (dgS a b c0))))] H locs := hz
      refine z_iconst hx hb dX7_measureTo_51 ?_
      refine lv_istore (lv' := [(5, .int (zI 1)), (0, .ref tu), (1, .int (zI to)), (2, .int (zI a)), (3, .int (zI b)), (4, .int (zI c0))]) hx hb dX7_measureTo_52 hl (Nat.le_of_ble_eq_true rfl) rfl (fun ls hl => ?_)
      refine z_iconst hx hb dX7_measureTo_54 ?_
      refine lv_istore (lv' := [(6, .int (zI 0)), (5, .int (zI 1)), (0, .ref tu), (1, .int (zI to)), (2, .int (zI a)), (3, .int (zI b)), (4, .int (zI c0))]) hx hb dX7_measureTo_55 hl (Nat.le_of_ble_eq_true rfl) rfl (fun ls hl => ?_)
      have L57 : ∀ (n : Nat) (i en : Int) (fx qx : Int → Int) (H : Heap) (locs : List Loc) (ls : Array Slot), ((180 - i).toNat = n) → (bfs (dgS a b c0) to fx qx i en 0) → zH D (zF ws0) H0 [(tu, .inr (5, [.ref fa, .ref wt, .ref dg])), (fa, .inl (cI, 180, .inl (zA fx))), (wt, .inl (cI, 180, .inl (zA qx))), (dg, .inl (cI, 6, .inl (zA (dgS a b c0))))] H locs → lv_has ls 10 [(6, .int (zI i)), (5, .int (zI en)), (0, .ref tu), (1, .int (zI to)), (2, .int (zI a)), (3, .int (zI b)), (4, .int (zI c0))] → W p l e (zRm 2) s m args below meth c H locs 0 0 Q (F0 m 57 ls []) := by
        intro n
        refine Nat.strongRecOn n ?_
        intro n ih57 i en fx qx H locs ls hn57 hb1 hz hl
        have hA := hb1.1
        refine lv_iload hx hb dX7_measureTo_57 (lv_at hl 0 rfl) ?_
        refine lv_iload hx hb dX7_measureTo_59 (lv_at hl 1 rfl) ?_
        refine z_icmp_ge (tgt := 165) hx hb dX7_measureTo_61 (by decide) (by omega) (by omega) (fun h61 => ?_) (fun h61 => ?_)
        ·
          exact hret ((fx : Int → Int), (qx : Int → Int), (dgS a b c0 : Int → Int)) dX7_measureTo_165 (show (dgS a b c0) = dgS a b c0 ∧ (∀ v, 0 ≤ v → v < 180 → fx v = disS (dgS a b c0) to v) from ⟨rfl, fun v h1 h2 => bfs_end (dgS_inv a b c0) hb1 (by omega) ⟨h1, h2⟩⟩) hz
        ·
          refine lv_iload hx hb dX7_measureTo_64 (lv_at hl 0 rfl) ?_
          refine z_sipush hx hb dX7_measureTo_66 (by decide) ?_
          refine z_icmp_ge (tgt := 165) hx hb dX7_measureTo_69 (by decide) (by omega) (by decide) (fun h69 => ?_) (fun h69 => ?_)
          ·
            exact hret ((fx : Int → Int), (qx : Int → Int), (dgS a b c0 : Int → Int)) dX7_measureTo_165 (show (dgS a b c0) = dgS a b c0 ∧ (∀ v, 0 ≤ v → v < 180 → fx v = disS (dgS a b c0) to v) from ⟨rfl, fun v h1 h2 => bfs_end (dgS_inv a b c0) hb1 (by omega) ⟨h1, h2⟩⟩) hz
          ·
            have hq1 := (hb1.2.1 i hA.1 (by omega))
            refine lv_aload_n hx hb dX7_measureTo_72 rfl (lv_at hl 2 rfl) ?_
            refine z_get (C := RX7) (T := TX7) (N := 3) (ref := "HornCity$Turns") hx hb hts hin_X7_measureTo_X7 hown hK hz 0 rfl rfl 1 (by decide) (hts _ fl_X7_measureTo_15) rfl rfl dX7_measureTo_73 ?_
            refine lv_iload hx hb dX7_measureTo_76 (lv_at hl 0 rfl) ?_
            refine z_iald hx hb hK hz 2 rfl (by omega) (by decide) dX7_measureTo_78 ?_
            refine lv_istore (lv' := [(7, .int (zI (qx i))), (6, .int (zI i)), (5, .int (zI en)), (0, .ref tu), (1, .int (zI to)), (2, .int (zI a)), (3, .int (zI b)), (4, .int (zI c0))]) hx hb dX7_measureTo_79 hl (Nat.le_of_ble_eq_true rfl) rfl (fun ls hl => ?_)
            refine z_iconst hx hb dX7_measureTo_81 ?_
            refine lv_istore (lv' := [(8, .int (zI 0)), (7, .int (zI (qx i))), (6, .int (zI i)), (5, .int (zI en)), (0, .ref tu), (1, .int (zI to)), (2, .int (zI a)), (3, .int (zI b)), (4, .int (zI c0))]) hx hb dX7_measureTo_82 hl (Nat.le_of_ble_eq_true rfl) rfl (fun ls hl => ?_)
            have L84 : ∀ (n : Nat) (t en2 : Int) (fy qy : Int → Int) (H : Heap) (locs : List Loc) (ls : Array Slot), ((6 - t).toNat = n) → (0 ≤ t ∧ t ≤ 6) → (i < en2 ∧ qy i = qx i) → (bfs (dgS a b c0) to fy qy i en2 t) → zH D (zF ws0) H0 [(tu, .inr (5, [.ref fa, .ref wt, .ref dg])), (fa, .inl (cI, 180, .inl (zA fy))), (wt, .inl (cI, 180, .inl (zA qy))), (dg, .inl (cI, 6, .inl (zA (dgS a b c0))))] H locs → lv_has ls 10 [(8, .int (zI t)), (7, .int (zI (qx i))), (6, .int (zI i)), (5, .int (zI en2)), (0, .ref tu), (1, .int (zI to)), (2, .int (zI a)), (3, .int (zI b)), (4, .int (zI c0))] → W p l e (zRm 2) s m args below meth c H locs 0 0 Q (F0 m 84 ls []) := by
              intro n
              refine Nat.strongRecOn n ?_
              intro n ih84 t en2 fy qy H locs ls hn84 ht hi2 hb2 hz hl
              refine lv_iload hx hb dX7_measureTo_84 (lv_at hl 0 rfl) ?_
              refine z_bipush hx hb dX7_measureTo_86 (by decide) ?_
              refine z_icmp_ge (tgt := 159) hx hb dX7_measureTo_88 (by decide) (by omega) (by decide) (fun h88 => ?_) (fun h88 => ?_)
              ·
                refine z_iinc (lv' := [(6, .int (zI (i + 1))), (8, .int (zI t)), (7, .int (zI (qx i))), (5, .int (zI en2)), (0, .ref tu), (1, .int (zI to)), (2, .int (zI a)), (3, .int (zI b)), (4, .int (zI c0))]) hx hb dX7_measureTo_159 hl (k := 2) rfl (Nat.le_of_ble_eq_true rfl) rfl (fun ls hl => ?_)
                refine lv_goto (tgt := 57) hx hb dX7_measureTo_162 (by decide) ?_
                exact ih57 _ (by omega) (i + 1) en2 fy qy H locs ls rfl (bfs_adv (show bfs (dgS a b c0) to fy qy i en2 6 by rwa [show (6 : Int) = t from by omega]) (by have := hb2.1; omega)) hz (lv_sub hl [0, 3, 4, 5, 6, 7, 8] rfl)
              ·
                refine lv_iload hx hb dX7_measureTo_91 (lv_at hl 1 rfl) ?_
                have hA2 := hb2.1
                refine lv_aload_n hx hb dX7_measureTo_93 rfl (lv_at hl 4 rfl) ?_
                refine z_get (C := RX7) (T := TX7) (N := 3) (ref := "HornCity$Turns") hx hb hts hin_X7_measureTo_X7 hown hK hz 0 rfl rfl 2 (by decide) (hts _ fl_X7_measureTo_18) rfl rfl dX7_measureTo_94 ?_
                refine lv_iload hx hb dX7_measureTo_97 (lv_at hl 0 rfl) ?_
                refine z_iald hx hb hK hz 3 rfl (by omega) (by decide) dX7_measureTo_99 ?_
                have hg1 := dgS_bd habc t
                refine z_iadd hx hb dX7_measureTo_100 ?_
                refine z_callSp (As := [.int (zI ((qx i) + ((dgS a b c0) t)))]) (rest := []) F hK hz hl (c_X5_leftOver l D cI cJ cZ ((qx i) + ((dgS a b c0) t)) (by omega)) (va_cwS 1 hts gX7_measureTo_X5_leftOver rfl rfl rfl (by decide +kernel) ⟨Nat.le_of_ble_eq_true rfl, Nat.le_of_ble_eq_true rfl⟩) [] rfl rfl rfl rfl (Nat.le_of_ble_eq_true rfl) ⟨Nat.le_of_ble_eq_true rfl, Nat.le_of_ble_eq_true rfl⟩ dX7_measureTo_101 ?_
                refine lv_istore (lv' := [(9, .int (zI (((qx i) + ((dgS a b c0) t)) % 180))), (8, .int (zI t)), (7, .int (zI (qx i))), (6, .int (zI i)), (5, .int (zI en2)), (0, .ref tu), (1, .int (zI to)), (2, .int (zI a)), (3, .int (zI b)), (4, .int (zI c0))]) hx hb dX7_measureTo_104 hl (Nat.le_of_ble_eq_true rfl) rfl (fun ls hl => ?_)
                refine lv_aload_n hx hb dX7_measureTo_106 rfl (lv_at hl 5 rfl) ?_
                refine z_get (C := RX7) (T := TX7) (N := 3) (ref := "HornCity$Turns") hx hb hts hin_X7_measureTo_X7 hown hK hz 0 rfl rfl 0 (by decide) (hts _ fl_X7_measureTo_9) rfl rfl dX7_measureTo_107 ?_
                have hx1 := nbS_bd (dgS a b c0) (qx i) t
                have hne : (qx i + dgS a b c0 t) % 180 = nbS (dgS a b c0) (qx i) t := rfl
                refine lv_iload hx hb dX7_measureTo_110 (lv_at hl 0 rfl) ?_
                refine z_iald hx hb hK hz 1 rfl (by omega) (by decide) dX7_measureTo_112 ?_
                have hfb := bfs_val hb2 (v := (qx i + dgS a b c0 t) % 180) (by omega)
                refine z_bipush hx hb dX7_measureTo_113 (by decide) ?_
                refine z_icmp_ne (tgt := 153) hx hb dX7_measureTo_115 (by decide) (by omega) (by decide) (fun h115 => ?_) (fun h115 => ?_)
                ·
                  refine z_iinc (lv' := [(8, .int (zI (t + 1))), (9, .int (zI (((qx i) + ((dgS a b c0) t)) % 180))), (7, .int (zI (qx i))), (6, .int (zI i)), (5, .int (zI en2)), (0, .ref tu), (1, .int (zI to)), (2, .int (zI a)), (3, .int (zI b)), (4, .int (zI c0))]) hx hb dX7_measureTo_153 hl (k := 1) rfl (Nat.le_of_ble_eq_true rfl) rfl (fun ls hl => ?_)
                  refine lv_goto (tgt := 84) hx hb dX7_measureTo_156 (by decide) ?_
                  exact ih84 _ (by omega) (t + 1) en2 fy qy H locs ls rfl (by omega) (hi2) (bfs_skip hb2 hi2.1 (by omega) (by rw [hi2.2]; exact h115)) hz (lv_sub hl [0, 2, 3, 4, 5, 6, 7, 8, 9] rfl)
                ·
                  refine lv_iload hx hb dX7_measureTo_118 (lv_at hl 4 rfl) ?_
                  refine z_sipush hx hb dX7_measureTo_120 (by decide) ?_
                  refine z_icmp_ge (tgt := 153) hx hb dX7_measureTo_123 (by decide) (by omega) (by decide) (fun h123 => ?_) (fun h123 => ?_)
                  ·
                    refine z_iinc (lv' := [(8, .int (zI (t + 1))), (9, .int (zI (((qx i) + ((dgS a b c0) t)) % 180))), (7, .int (zI (qx i))), (6, .int (zI i)), (5, .int (zI en2)), (0, .ref tu), (1, .int (zI to)), (2, .int (zI a)), (3, .int (zI b)), (4, .int (zI c0))]) hx hb dX7_measureTo_153 hl (k := 1) rfl (Nat.le_of_ble_eq_true rfl) rfl (fun ls hl => ?_)
                    refine lv_goto (tgt := 84) hx hb dX7_measureTo_156 (by decide) ?_
                    exact ih84 _ (by omega) (t + 1) en2 fy qy H locs ls rfl (by omega) (hi2) (absurd (bfs_room hb2 (v := (qx i + dgS a b c0 t) % 180) (by omega) h115) (by omega)) hz (lv_sub hl [0, 2, 3, 4, 5, 6, 7, 8, 9] rfl)
                  ·
                    refine lv_aload_n hx hb dX7_measureTo_126 rfl (lv_at hl 5 rfl) ?_
                    refine z_get (C := RX7) (T := TX7) (N := 3) (ref := "HornCity$Turns") hx hb hts hin_X7_measureTo_X7 hown hK hz 0 rfl rfl 0 (by decide) (hts _ fl_X7_measureTo_9) rfl rfl dX7_measureTo_127 ?_
                    refine lv_iload hx hb dX7_measureTo_130 (lv_at hl 0 rfl) ?_
                    refine lv_aload_n hx hb dX7_measureTo_132 rfl (lv_at hl 5 rfl) ?_
                    refine lv_iload hx hb dX7_measureTo_133 (lv_at hl 2 rfl) ?_
                    refine z_callVp (As := [.int (zI (qx i))]) (rest := [.int (zI (((qx i) + ((dgS a b c0) t)) % 180)), .ref fa]) (C := RX7) (T := TX7) (N := 3) F hK hz hl (c_X7_fewestFrom l D cI cJ cZ tu fa wt dg fy (qx i) (by omega)) (cwV 1 hts gX7_measureTo_X7_fewestFrom rfl rfl rfl (by decide +kernel) ⟨Nat.le_of_ble_eq_true rfl, Nat.le_of_ble_eq_true rfl⟩) rfl 0 rfl [0, 1] rfl rfl rfl rfl (Nat.le_of_ble_eq_true rfl) ⟨Nat.le_of_ble_eq_true rfl, Nat.le_of_ble_eq_true rfl⟩ dX7_measureTo_135 ?_
                    have hqm : qx i % 180 = qx i := by omega
                    refine z_iconst hx hb dX7_measureTo_138 ?_
                    refine z_iadd hx hb dX7_measureTo_139 ?_
                    refine z_iast hx hb hK hz 1 rfl (by omega) (by decide) dX7_measureTo_140 (fun H locs hz => ?_)
                    have hz : zH D (zF ws0) H0 [(tu, .inr (5, [.ref fa, .ref wt, .ref dg])), (fa, .inl (cI, 180, .inl (zA (zU fy (((qx i) + ((dgS a b c0) t)) % 180) ((fy ((qx i) % 180)) + 1))))), (wt, .inl (cI, 180, .inl (zA qy))), (dg, .inl (cI, 6, .inl (zA (dgS a b c0))))] H locs := hz
                    refine lv_aload_n hx hb dX7_measureTo_141 rfl (lv_at hl 5 rfl) ?_
                    refine z_get (C := RX7) (T := TX7) (N := 3) (ref := "HornCity$Turns") hx hb hts hin_X7_measureTo_X7 hown hK hz 0 rfl rfl 1 (by decide) (hts _ fl_X7_measureTo_15) rfl rfl dX7_measureTo_142 ?_
                    refine lv_iload hx hb dX7_measureTo_145 (lv_at hl 4 rfl) ?_
                    refine lv_iload hx hb dX7_measureTo_147 (lv_at hl 0 rfl) ?_
                    refine z_iast hx hb hK hz 2 rfl (by omega) (by decide) dX7_measureTo_149 (fun H locs hz => ?_)
                    have hz : zH D (zF ws0) H0 [(tu, .inr (5, [.ref fa, .ref wt, .ref dg])), (fa, .inl (cI, 180, .inl (zA (zU fy (((qx i) + ((dgS a b c0) t)) % 180) ((fy ((qx i) % 180)) + 1))))), (wt, .inl (cI, 180, .inl (zA (zU qy en2 (((qx i) + ((dgS a b c0) t)) % 180))))), (dg, .inl (cI, 6, .inl (zA (dgS a b c0))))] H locs := hz
                    refine z_iinc (lv' := [(5, .int (zI (en2 + 1))), (9, .int (zI (((qx i) + ((dgS a b c0) t)) % 180))), (8, .int (zI t)), (7, .int (zI (qx i))), (6, .int (zI i)), (0, .ref tu), (1, .int (zI to)), (2, .int (zI a)), (3, .int (zI b)), (4, .int (zI c0))]) hx hb dX7_measureTo_150 hl (k := 4) rfl (Nat.le_of_ble_eq_true rfl) rfl (fun ls hl => ?_)
                    refine z_iinc (lv' := [(8, .int (zI (t + 1))), (5, .int (zI (en2 + 1))), (9, .int (zI (((qx i) + ((dgS a b c0) t)) % 180))), (7, .int (zI (qx i))), (6, .int (zI i)), (0, .ref tu), (1, .int (zI to)), (2, .int (zI a)), (3, .int (zI b)), (4, .int (zI c0))]) hx hb dX7_measureTo_153 hl (k := 2) rfl (Nat.le_of_ble_eq_true rfl) rfl (fun ls hl => ?_)
                    refine lv_goto (tgt := 84) hx hb dX7_measureTo_156 (by decide) ?_
                    exact ih84 _ (by omega) (t + 1) (en2 + 1) (zU fy (((qx i) + ((dgS a b c0) t)) % 180) ((fy ((qx i) % 180)) + 1)) (zU qy en2 (((qx i) + ((dgS a b c0) t)) % 180)) H locs ls rfl (by omega) (⟨by omega, by rw [zU_ne (by omega)]; exact hi2.2⟩) (by have h9 := bfs_new (dgS_inv a b c0) hb2 hi2.1 (by omega) (by rw [hi2.2]; exact h115); rw [hi2.2] at h9; rw [hqm]; exact h9) hz (lv_sub hl [0, 3, 4, 1, 5, 6, 7, 8, 9] rfl)
            exact L84 _ 0 en fx qx H locs ls rfl (by decide) (⟨by omega, rfl⟩) (hb1) hz (lv_sub hl [0, 1, 2, 3, 4, 5, 6, 7, 8] rfl)
      exact L57 _ 0 1 (zU (fun _ => -6) (to % 180) 0) (zU wtf 0 to) H locs ls rfl (by rw [show to % 180 = to from by omega]; exact bfs_0 hto) hz (lv_sub hl [0, 1, 2, 3, 4, 5, 6] rfl)
    ·
      refine lv_aload_n hx hb dX7_measureTo_19 rfl (lv_at hl 1 rfl) ?_
      refine z_get (C := RX7) (T := TX7) (N := 3) (ref := "HornCity$Turns") hx hb hts hin_X7_measureTo_X7 hown hK hz 0 rfl rfl 0 (by decide) (hts _ fl_X7_measureTo_9) rfl rfl dX7_measureTo_20 ?_
      refine lv_iload hx hb dX7_measureTo_23 (lv_at hl 0 rfl) ?_
      refine z_bipush hx hb dX7_measureTo_25 (by decide) ?_
      refine z_iast hx hb hK hz 1 rfl (by omega) (by decide) dX7_measureTo_27 (fun H locs hz => ?_)
      have hz : zH D (zF ws0) H0 [(tu, .inr (5, [.ref fa, .ref wt, .ref dg])), (fa, .inl (cI, 180, .inl (zA (zU fx i (-6))))), (wt, .inl (cI, 180, .inl (zA wtf))), (dg, .inl (cI, 6, .inl (zA (dgS a b c0))))] H locs := hz
      refine z_iinc (lv' := [(5, .int (zI (i + 1))), (0, .ref tu), (1, .int (zI to)), (2, .int (zI a)), (3, .int (zI b)), (4, .int (zI c0))]) hx hb dX7_measureTo_28 hl (k := 0) rfl (Nat.le_of_ble_eq_true rfl) rfl (fun ls hl => ?_)
      refine lv_goto (tgt := 11) hx hb dX7_measureTo_31 (by decide) ?_
      exact ih11 _ (by omega) (i + 1) (zU fx i (-6)) H locs ls rfl (by omega) (zU_cp hfx) hz (lv_sub hl [0, 1, 2, 3, 4, 5] rfl)
  exact L11 _ 0 faf H locs ls rfl (by decide) (fun j h1 h2 => absurd h1 (by omega)) hz (lv_sub hl [0, 1, 2, 3, 4, 5] rfl)

set_option maxRecDepth 20000 in
theorem hin_X7_firstFrom_X7 : ∀ w ∈ u_ws RX7 TX7 3, w ∈ wsX7_firstFrom := by decide +kernel
set_option maxRecDepth 20000 in
theorem fl_X7_firstFrom_18 : Cond.fieldLink RX7 18 "HornCity$Turns" "degrees" "[I" ∈ wsX7_firstFrom := by decide +kernel
set_option maxHeartbeats 4000000 in
set_option maxRecDepth 100000 in
theorem c_X7_firstFrom (l : Launch) (D : va_G) (cI cJ cZ : ClassId) (tu fa wt dg : Nat) (faf dgf : Int → Int) (inl : Int) (hin : 0 ≤ inl ∧ inl < 180) (hdg : ∀ t, -179 ≤ dgf t ∧ dgf t ≤ 179) (hfb : ∀ v, 0 ≤ v → v < 180 → -6 ≤ faf v ∧ faf v ≤ 180) : zMp l yX7_firstFrom wsX7_firstFrom (zRm 2) D cI cJ cZ [.ref tu, .int (zI inl)] [(tu, .inr (5, [.ref fa, .ref wt, .ref dg])), (fa, .inl (cI, 180, .inl (zA faf))), (dg, .inl (cI, 6, .inl (zA dgf)))] (some (.int (zI (if faf inl = -6 ∨ faf inl = 0 then -6 else lstS (fun t => decide (faf (nbS dgf inl t) = faf inl - 1)) 6 0)))) := by
  refine zMp_i (cc := cX7_firstFrom) (maxL := 4) (by decide +kernel) rfl (Nat.le_of_ble_eq_true rfl) rfl ?_
  intro p e s m args below meth c Q H ls F hK hz hl hret
  obtain ⟨hx, hb, hml, hown0, hts⟩ := id F
  have hown : s.vm.findClass RX7 = some m.cls := hown0
  obtain ⟨ws0, hw0⟩ : ∃ w : va_W, w = [(tu, .inr (5, [.ref fa, .ref wt, .ref dg])), (fa, .inl (cI, 180, .inl (zA faf))), (dg, .inl (cI, 6, .inl (zA dgf)))] := ⟨_, rfl⟩
  have hz : zH D (zF ws0) H [(tu, .inr (5, [.ref fa, .ref wt, .ref dg])), (fa, .inl (cI, 180, .inl (zA faf))), (dg, .inl (cI, 6, .inl (zA dgf)))] H [] := by rw [hw0]; exact hz
  have hl : lv_has ls 4 [(0, .ref tu), (1, .int (zI inl))] := hl
  refine lv_aload_n hx hb dX7_firstFrom_0 rfl (lv_at hl 0 rfl) ?_
  refine lv_iload_n hx hb dX7_firstFrom_1 rfl (lv_at hl 1 rfl) ?_
  refine z_callVp (As := [.int (zI inl)]) (rest := []) (C := RX7) (T := TX7) (N := 3) F hK hz hl (c_X7_fewestFrom l D cI cJ cZ tu fa wt dg faf inl (by omega)) (cwV 1 hts gX7_firstFrom_X7_fewestFrom rfl rfl rfl (by decide +kernel) ⟨Nat.le_of_ble_eq_true rfl, Nat.le_of_ble_eq_true rfl⟩) rfl 0 rfl [0, 1] rfl rfl rfl rfl (Nat.le_of_ble_eq_true rfl) ⟨Nat.le_of_ble_eq_true rfl, Nat.le_of_ble_eq_true rfl⟩ dX7_firstFrom_2 ?_
  have e9 : inl % 180 = inl := by omega
  rw [e9]
  have hf0 := hfb inl (by omega) (by omega)
  refine lv_istore_n (lv' := [(2, .int (zI (faf inl))), (0, .ref tu), (1, .int (zI inl))]) hx hb dX7_firstFrom_5 rfl hl (Nat.le_of_ble_eq_true rfl) rfl (fun ls hl => ?_)
  refine lv_iload_n hx hb dX7_firstFrom_6 rfl (lv_at hl 0 rfl) ?_
  refine z_bipush hx hb dX7_firstFrom_7 (by decide) ?_
  refine z_icmp_eq (tgt := 16) hx hb dX7_firstFrom_9 (by decide) (by omega) (by decide) (fun h9 => ?_) (fun h9 => ?_)
  ·
    refine z_bipush hx hb dX7_firstFrom_16 (by decide) ?_
    exact hret dX7_firstFrom_18 (congrArg (fun z => some (Value.int (zI z))) (show ((-6) : Int) = (if faf inl = -6 ∨ faf inl = 0 then -6 else lstS (fun t => decide (faf (nbS dgf inl t) = faf inl - 1)) 6 0) by rw [if_pos (by omega)]))
  ·
    refine lv_iload_n hx hb dX7_firstFrom_12 rfl (lv_at hl 0 rfl) ?_
    refine z_if_ne (tgt := 19) hx hb dX7_firstFrom_13 (by decide) (by omega) (fun h13 => ?_) (fun h13 => ?_)
    ·
      refine z_iconst hx hb dX7_firstFrom_19 ?_
      refine lv_istore_n (lv' := [(3, .int (zI 0)), (2, .int (zI (faf inl))), (0, .ref tu), (1, .int (zI inl))]) hx hb dX7_firstFrom_20 rfl hl (Nat.le_of_ble_eq_true rfl) rfl (fun ls hl => ?_)
      have L21 : ∀ (n : Nat) (t : Int) (ls : Array Slot), ((6 - t).toNat = n) → (0 ≤ t ∧ t ≤ 6) → (lstS (fun t => decide (faf (nbS dgf inl t) = faf inl - 1)) 6 0 = lstS (fun t => decide (faf (nbS dgf inl t) = faf inl - 1)) (6 - t).toNat t) → lv_has ls 4 [(3, .int (zI t)), (2, .int (zI (faf inl))), (0, .ref tu), (1, .int (zI inl))] → W p l e (zRm 2) s m args below meth c H [] 0 0 Q (F0 m 21 ls []) := by
        intro n
        refine Nat.strongRecOn n ?_
        intro n ih21 t ls hn21 ht hc hl
        refine lv_iload_n hx hb dX7_firstFrom_21 rfl (lv_at hl 0 rfl) ?_
        refine z_bipush hx hb dX7_firstFrom_22 (by decide) ?_
        refine z_icmp_ge (tgt := 53) hx hb dX7_firstFrom_24 (by decide) (by omega) (by decide) (fun h24 => ?_) (fun h24 => ?_)
        ·
          refine z_bipush hx hb dX7_firstFrom_53 (by decide) ?_
          exact hret dX7_firstFrom_55 (congrArg (fun z => some (Value.int (zI z))) (show ((-6) : Int) = (if faf inl = -6 ∨ faf inl = 0 then -6 else lstS (fun t => decide (faf (nbS dgf inl t) = faf inl - 1)) 6 0) by rw [if_neg (by omega)]; have e : t = 6 := (by omega); subst e; exact hc.symm))
        ·
          refine lv_aload_n hx hb dX7_firstFrom_27 rfl (lv_at hl 2 rfl) ?_
          refine lv_iload_n hx hb dX7_firstFrom_28 rfl (lv_at hl 3 rfl) ?_
          refine lv_aload_n hx hb dX7_firstFrom_29 rfl (lv_at hl 2 rfl) ?_
          refine z_get (C := RX7) (T := TX7) (N := 3) (ref := "HornCity$Turns") hx hb hts hin_X7_firstFrom_X7 hown hK hz 0 rfl rfl 2 (by decide) (hts _ fl_X7_firstFrom_18) rfl rfl dX7_firstFrom_30 ?_
          refine lv_iload_n hx hb dX7_firstFrom_33 rfl (lv_at hl 0 rfl) ?_
          refine z_iald hx hb hK hz 2 rfl (by omega) (by decide) dX7_firstFrom_34 ?_
          have hd1 := hdg t
          refine z_iadd hx hb dX7_firstFrom_35 ?_
          refine z_callVp (As := [.int (zI (inl + (dgf t)))]) (rest := []) (C := RX7) (T := TX7) (N := 3) F hK hz hl (c_X7_fewestFrom l D cI cJ cZ tu fa wt dg faf (inl + (dgf t)) (by omega)) (cwV 1 hts gX7_firstFrom_X7_fewestFrom rfl rfl rfl (by decide +kernel) ⟨Nat.le_of_ble_eq_true rfl, Nat.le_of_ble_eq_true rfl⟩) rfl 0 rfl [0, 1] rfl rfl rfl rfl (Nat.le_of_ble_eq_true rfl) ⟨Nat.le_of_ble_eq_true rfl, Nat.le_of_ble_eq_true rfl⟩ dX7_firstFrom_36 ?_
          have hf1 := hfb ((inl + dgf t) % 180) (by omega) (by omega)
          refine lv_iload_n hx hb dX7_firstFrom_39 rfl (lv_at hl 1 rfl) ?_
          refine z_iconst hx hb dX7_firstFrom_40 ?_
          refine z_isub hx hb dX7_firstFrom_41 ?_
          refine z_icmp_ne (tgt := 47) hx hb dX7_firstFrom_42 (by decide) (by omega) (by omega) (fun h42 => ?_) (fun h42 => ?_)
          ·
            refine z_iinc (lv' := [(3, .int (zI (t + 1))), (2, .int (zI (faf inl))), (0, .ref tu), (1, .int (zI inl))]) hx hb dX7_firstFrom_47 hl (k := 0) rfl (Nat.le_of_ble_eq_true rfl) rfl (fun ls hl => ?_)
            refine lv_goto (tgt := 21) hx hb dX7_firstFrom_50 (by decide) ?_
            exact ih21 _ (by omega) (t + 1) ls rfl (by omega) (by rw [hc, lstS_at (by omega), if_neg (by rw [decide_eq_false (show ¬ faf (nbS dgf inl t) = faf inl - 1 from h42)]; decide)]) (lv_sub hl [0, 1, 2, 3] rfl)
          ·
            refine lv_iload_n hx hb dX7_firstFrom_45 rfl (lv_at hl 0 rfl) ?_
            exact hret dX7_firstFrom_46 (congrArg (fun z => some (Value.int (zI z))) (show (t : Int) = (if faf inl = -6 ∨ faf inl = 0 then -6 else lstS (fun t => decide (faf (nbS dgf inl t) = faf inl - 1)) 6 0) by rw [if_neg (by omega), hc, lstS_at (by omega), if_pos (decide_eq_true (show faf (nbS dgf inl t) = faf inl - 1 from h42))]))
      exact L21 _ 0 ls rfl (by decide) (rfl) (lv_sub hl [0, 1, 2, 3] rfl)
    ·
      refine z_bipush hx hb dX7_firstFrom_16 (by decide) ?_
      exact hret dX7_firstFrom_18 (congrArg (fun z => some (Value.int (zI z))) (show ((-6) : Int) = (if faf inl = -6 ∨ faf inl = 0 then -6 else lstS (fun t => decide (faf (nbS dgf inl t) = faf inl - 1)) 6 0) by rw [if_pos (by omega)]))
