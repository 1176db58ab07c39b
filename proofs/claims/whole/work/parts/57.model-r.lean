theorem bal_cons {g : Int → Int} (hg : invS g) {v t : Int} (hv : 0 ≤ v ∧ v < 180) (ht : 0 ≤ t ∧ t < 6) : ∀ (n : Nat) (w : Int), 0 ≤ w → w < 180 → bal g (nbS g v t) n w = true → bal g v (n + 1) w = true
  | 0, w, h0, h1, h => by
    have e : w = nbS g v t := by simpa [bal] using h
    obtain ⟨t', ht', hb⟩ := nbS_back hg hv ht
    refine bal_step ht' ?_
    rw [e, hb]; show decide (v = v) = true; simp
  | n + 1, w, h0, h1, h => by
    have h' : (bal g (nbS g v t) n w || anyB (fun u => bal g (nbS g v t) n (nbS g w u)) 6) = true := h
    rw [Bool.or_eq_true] at h'
    rcases h' with h2 | h2
    · exact bal_mono 1 (n + 1) (bal_cons hg hv ht n w h0 h1 h2)
    · obtain ⟨u, h3, h4, h5⟩ := anyB_ex 6 h2
      exact bal_step ⟨h3, h4⟩ (bal_cons hg hv ht n _ (nbS_bd g w u).1 (nbS_bd g w u).2 h5)
theorem bal_sym {g : Int → Int} (hg : invS g) {r : Int} (hr : 0 ≤ r ∧ r < 180) : ∀ (n : Nat) (v : Int), 0 ≤ v → v < 180 → bal g r n v = true → bal g v n r = true
  | 0, v, h0, h1, h => by
    have e : v = r := by simpa [bal] using h
    rw [e]; show decide (r = r) = true; simp
  | n + 1, v, h0, h1, h => by
    have h' : (bal g r n v || anyB (fun t => bal g r n (nbS g v t)) 6) = true := h
    rw [Bool.or_eq_true] at h'
    rcases h' with h2 | h2
    · exact bal_mono 1 n (bal_sym hg hr n v h0 h1 h2)
    · obtain ⟨t, h3, h4, h5⟩ := anyB_ex 6 h2
      exact bal_cons hg ⟨h0, h1⟩ ⟨h3, h4⟩ n r hr.1 hr.2 (bal_sym hg hr n _ (nbS_bd g v t).1 (nbS_bd g v t).2 h5)
theorem dis_sym {g : Int → Int} (hg : invS g) {r v : Int} (hr : 0 ≤ r ∧ r < 180) (hv : 0 ≤ v ∧ v < 180) : disS g r v = disS g v r := by
  unfold disS
  have e : (fun n : Int => bal g r n.toNat v) = (fun n : Int => bal g v n.toNat r) := by
    funext n
    rw [Bool.eq_iff_iff]
    exact ⟨bal_sym hg hr _ v hv.1 hv.2, bal_sym hg hv _ r hr.1 hr.2⟩
  rw [e]
theorem dis_is {g : Int → Int} {r v d : Int} (h0 : 0 ≤ d ∧ d < 180) (hb : bal g r d.toNat v = true) (hn : ∀ j, 0 ≤ j → j < d → bal g r j.toNat v = false) : disS g r v = d := by
  unfold disS
  exact lst_is 180 0 h0.1 (by omega) hb hn
theorem bfs_near2 {g : Int → Int} {r : Int} {far q : Int → Int} {i en t : Int} (hg : invS g) (h : bfs g r far q i en t) (hi : i < en) : ∀ (n : Nat) (v : Int), 0 ≤ v → v < 180 → (n : Int) ≤ far (q i) → bal g r n v = true → ¬ far v = -6 ∧ far v ≤ (n : Int)
  | 0, v, h0, h1, _, hb => by
    have e : v = r := by simpa [bal] using hb
    rw [e, h.2.2.2.2.2.2.2.2.1]; exact ⟨by decide, by omega⟩
  | n + 1, v, h0, h1, hn, hb => by
    have hb' : (bal g r n v || anyB (fun t => bal g r n (nbS g v t)) 6) = true := hb
    rw [Bool.or_eq_true] at hb'
    rcases hb' with h2 | h2
    · have := bfs_near2 hg h hi n v h0 h1 (by omega) h2
      exact ⟨this.1, by omega⟩
    · obtain ⟨u, h3, h4, h5⟩ := anyB_ex 6 h2
      have hx := nbS_bd g v u
      have h6 := bfs_near2 hg h hi n (nbS g v u) hx.1 hx.2 (by omega) h5
      obtain ⟨hA, hB, hC, hD, hE, hF, hG, hH, hI⟩ := h
      rcases hC (nbS g v u) hx.1 hx.2 with h7 | ⟨k, h8, h9⟩
      · exact absurd h7 h6.1
      · have hki : k < i := by
          rcases Int.lt_or_le k i with hq | hq
          · exact hq
          · have h10 := hD i k hA.1 hq h8.2
            rw [h9] at h10; omega
        obtain ⟨t', ht', hb2⟩ := nbS_back hg ⟨h0, h1⟩ ⟨h3, h4⟩
        have h10 := hG k t' h8.1 ht'.1 ht'.2 (Or.inl hki)
        rw [h9, hb2] at h10
        exact ⟨h10.1, by omega⟩
/-- the labels of the search: the least first turn of a shortest way -/
def lbs (g : Int → Int) (r : Int) (far q lab : Int → Int) (i en t : Int) : Prop :=
  (∀ k, 1 ≤ k → k < en → 1 ≤ far (q k)) ∧
  (∀ k, 0 ≤ k → k < en → 1 ≤ far (q k) → (0 ≤ lab (q k) ∧ lab (q k) < 6) ∧ bal g (nbS g r (lab (q k))) (far (q k) - 1).toNat (q k) = true ∧ ∀ u, 0 ≤ u → u < lab (q k) → bal g (nbS g r u) (far (q k) - 1).toNat (q k) = false) ∧
  (∀ k m, 0 ≤ k → k ≤ m → m < en → 1 ≤ far (q k) → far (q k) = far (q m) → lab (q k) ≤ lab (q m)) ∧
  (i < en → ∀ k, 0 ≤ k → k < en → far (q k) = far (q i) + 1 → (far (q i) = 0 → lab (q k) < t) ∧ (¬ far (q i) = 0 → lab (q k) ≤ lab (q i)))
theorem lbs_0 {g : Int → Int} {r : Int} {q lab : Int → Int} : lbs g r (zU (fun _ => -6) r 0) (zU q 0 r) lab 0 1 0 := by
  have hq : zU q 0 r 0 = r := zU_same
  have hf : zU (fun _ => -6) r 0 r = 0 := zU_same
  refine ⟨fun k h1 h2 => by omega, fun k h0 h1 h2 => ?_, fun k m h0 h1 h2 h3 _ => ?_, fun _ k h0 h1 h2 => ?_⟩
  · have e : k = 0 := by omega
    rw [e, hq, hf] at h2; omega
  · have e : k = 0 := by omega
    rw [e, hq, hf] at h3; omega
  · have e : k = 0 := by omega
    rw [e, hq, hf] at h2; omega
theorem lbs_skip {g : Int → Int} {r : Int} {far q lab : Int → Int} {i en t : Int} (h : lbs g r far q lab i en t) : lbs g r far q lab i en (t + 1) := by
  obtain ⟨h1, h2, h3, h4⟩ := h
  refine ⟨h1, h2, h3, fun hi k h0 h5 h6 => ⟨fun hz => ?_, fun hz => ?_⟩⟩
  · have := (h4 hi k h0 h5 h6).1 hz; omega
  · exact (h4 hi k h0 h5 h6).2 hz
theorem lbs_adv {g : Int → Int} {r : Int} {far q lab : Int → Int} {i en : Int} (h : bfs g r far q i en 6) (hl : lbs g r far q lab i en 6) (hi : i < en) : lbs g r far q lab (i + 1) en 0 := by
  obtain ⟨h1, h2, h3, h4⟩ := hl
  obtain ⟨hA, hB, hC, hD, hE, hF, hG, hH, hI⟩ := h
  refine ⟨h1, h2, h3, fun hi2 k h0 h5 h6 => ?_⟩
  have p1 := h1 (i + 1) (by omega) hi2
  have p2 := hD i (i + 1) hA.1 (by omega) hi2
  have p3 := hE hi k h0 h5
  refine ⟨fun hz => by omega, fun _ => ?_⟩
  have p4 := (h4 hi k h0 h5 (by omega)).2 (by omega)
  have p5 := h3 i (i + 1) hA.1 (by omega) hi2 (by omega) (by omega)
  omega
theorem lbs_new {g : Int → Int} {r : Int} {far q lab : Int → Int} {i en t l : Int} (hg : invS g) (hr : 0 ≤ r ∧ r < 180) (h : bfs g r far q i en t) (hl : lbs g r far q lab i en t) (hi : i < en) (ht : 0 ≤ t ∧ t < 6) (hs : far (nbS g (q i) t) = -6) (hlv : l = if far (q i) = 0 then t else lab (q i)) :
    lbs g r (zU far (nbS g (q i) t) (far (q i) + 1)) (zU q en (nbS g (q i) t)) (zU lab (nbS g (q i) t) l) i (en + 1) (t + 1) := by
  have hnear := bfs_near2 hg h hi
  obtain ⟨L1, L2, L3, L4⟩ := hl
  obtain ⟨hA, hB, hC, hD, hE, hF, hG, hH, hI⟩ := h
  have hx := nbS_bd g (q i) t
  generalize hxe : nbS g (q i) t = x at hx hs ⊢
  have hqi := hB i hA.1 hi
  have hnx : ∀ k, 0 ≤ k → k < en → ¬ q k = x := fun k h0 h1 e => by
    have := (hB k h0 h1).2.1; rw [e, hs] at this; omega
  have hold : ∀ k, 0 ≤ k → k < en → zU q en x k = q k := fun k h0 h1 => zU_ne (by omega)
  have hfo : ∀ k, 0 ≤ k → k < en → zU far x (far (q i) + 1) (q k) = far (q k) := fun k h0 h1 => zU_ne (hnx k h0 h1)
  have hlo : ∀ k, 0 ≤ k → k < en → zU lab x l (q k) = lab (q k) := fun k h0 h1 => zU_ne (hnx k h0 h1)
  have hqn : zU q en x en = x := zU_same
  have hfn : zU far x (far (q i) + 1) x = far (q i) + 1 := zU_same
  have hln : zU lab x l x = l := zU_same
  refine ⟨?_, ?_, ?_, ?_⟩
  · intro k h1 h2
    by_cases hk : k = en
    · rw [hk, hqn, hfn]; omega
    · rw [hold k (by omega) (by omega), hfo k (by omega) (by omega)]; exact L1 k h1 (by omega)
  · intro k h0 h1 h2
    by_cases hk : k = en
    · rw [hk, hqn, hfn, hln, show (far (q i) + 1 - 1).toNat = (far (q i)).toNat by congr 1; omega]
      by_cases hz : far (q i) = 0
      · rw [if_pos hz] at hlv
        have hqr : q i = r := by
          have := hF (q i) hqi.1.1 hqi.1.2 hqi.2.1
          rw [hz] at this; simpa [bal] using this
        rw [hz, hlv]
        refine ⟨ht, ?_, fun u hu hut => ?_⟩
        · show decide (x = nbS g r t) = true
          rw [← hxe, hqr]; simp
        · show decide (x = nbS g r u) = false
          apply decide_eq_false
          intro e
          have := (hG i u hA.1 hu (by omega) (Or.inr ⟨rfl, hut⟩)).1
          rw [hqr, ← e] at this
          exact this hs
      · rw [if_neg hz] at hlv
        have hp := L2 i hA.1 hi (by omega)
        obtain ⟨t', ht', hb'⟩ := nbS_back hg hqi.1 ht
        rw [hxe] at hb'
        have en1 : (far (q i)).toNat = (far (q i) - 1).toNat + 1 := by omega
        rw [hlv]
        refine ⟨hp.1, ?_, fun u hu hul => ?_⟩
        · rw [en1]
          exact bal_step ht' (by rw [hb']; exact hp.2.1)
        · cases hc : bal g (nbS g r u) (far (q i)).toNat x with
          | false => rfl
          | true =>
            exfalso
            rw [en1] at hc
            have hc' : (bal g (nbS g r u) (far (q i) - 1).toNat x || anyB (fun w => bal g (nbS g r u) (far (q i) - 1).toNat (nbS g x w)) 6) = true := hc
            rw [Bool.or_eq_true] at hc'
            have hu6 : 0 ≤ u ∧ u < 6 := by omega
            rcases hc' with c1 | c1
            · have c2 := bal_cons hg hr hu6 _ x hx.1 hx.2 c1
              exact (hnear _ x hx.1 hx.2 (by omega) c2).1 hs
            · obtain ⟨w, w1, w2, w3⟩ := anyB_ex 6 c1
              have hw := nbS_bd g x w
              have c2 := bal_cons hg hr hu6 _ _ hw.1 hw.2 w3
              have c3 := hnear _ _ hw.1 hw.2 (by omega) c2
              rcases hC (nbS g x w) hw.1 hw.2 with c4 | ⟨k2, c5, c6⟩
              · exact c3.1 c4
              · obtain ⟨t3, ht3, hb3⟩ := nbS_back hg hx ⟨w1, w2⟩
                rcases Int.lt_or_le k2 i with hq | hq
                · have c7 := (hG k2 t3 c5.1 ht3.1 ht3.2 (Or.inl hq)).1
                  rw [c6, hb3] at c7
                  exact c7 hs
                · have c8 := hD i k2 hA.1 hq c5.2
                  have c9 : far (q i) = far (q k2) := by rw [c6] at c8 ⊢; omega
                  have c10 := L3 i k2 hA.1 hq c5.2 (by omega) c9
                  have c11 := (L2 k2 c5.1 c5.2 (by omega)).2.2 u hu (by omega)
                  rw [← c9, c6, w3] at c11
                  cases c11
    · rw [hold k h0 (by omega), hfo k h0 (by omega)] at h2
      rw [hold k h0 (by omega), hfo k h0 (by omega), hlo k h0 (by omega)]
      exact L2 k h0 (by omega) h2
  · intro k m h0 h1 h2 h3 h4
    by_cases hm : m = en
    · by_cases hk : k = en
      · rw [hk, hm]; exact Int.le_refl _
      · rw [hold k h0 (by omega), hfo k h0 (by omega)] at h3 h4
        rw [hm, hqn, hfn] at h4
        rw [hm, hqn, hln, hold k h0 (by omega), hlo k h0 (by omega), hlv]
        have p := L4 hi k h0 (by omega) h4
        by_cases hz : far (q i) = 0
        · rw [if_pos hz]; have := p.1 hz; omega
        · rw [if_neg hz]; exact p.2 hz
    · rw [hold k h0 (by omega), hfo k h0 (by omega)] at h3 h4
      rw [hold m (by omega) (by omega), hfo m (by omega) (by omega)] at h4
      rw [hold k h0 (by omega), hold m (by omega) (by omega), hlo k h0 (by omega), hlo m (by omega) (by omega)]
      exact L3 k m h0 h1 (by omega) h3 h4
  · intro _ k h0 h1 h2
    rw [hold i hA.1 hi, hfo i hA.1 hi] at h2
    rw [hold i hA.1 hi, hfo i hA.1 hi, hlo i hA.1 hi]
    by_cases hk : k = en
    · rw [hk, hqn, hln, hlv]
      refine ⟨fun hz => by rw [if_pos hz]; omega, fun hz => by rw [if_neg hz]; exact Int.le_refl _⟩
    · rw [hold k h0 (by omega), hfo k h0 (by omega)] at h2
      rw [hold k h0 (by omega), hlo k h0 (by omega)]
      have p := L4 hi k h0 (by omega) h2
      exact ⟨fun hz => by have := p.1 hz; omega, p.2⟩
theorem lst_hit {P : Int → Bool} : ∀ (n : Nat) (i : Int), ¬ lstS P n i = -6 → P (lstS P n i) = true
  | 0, i, h => absurd rfl h
  | n + 1, i, h => by
    have e : lstS P (n + 1) i = if P i = true then i else lstS P n (i + 1) := rfl
    by_cases hp : P i = true
    · rw [e, if_pos hp]; exact hp
    · rw [e, if_neg hp] at h ⊢; exact lst_hit n (i + 1) h
theorem dis_ball {g : Int → Int} {r v : Int} (h : 0 ≤ disS g r v) : bal g r (disS g r v).toNat v = true := by
  exact lst_hit (P := fun n => bal g r n.toNat v) 180 0 (by unfold disS at h; omega)
theorem lbs_end {g : Int → Int} {r : Int} {far q lab : Int → Int} {i en v : Int} (hg : invS g) (hr : 0 ≤ r ∧ r < 180) (hv : 0 ≤ v ∧ v < 180) (h : bfs g r far q i en 0) (hl : lbs g r far q lab i en 0) (hi : i < en) (hq : q i = v) :
    far v = disS g v r ∧ (1 ≤ far v → firS g v r = lab v) ∧ (far v = 0 → firS g v r = -6) := by
  have hnear := bfs_near2 hg h hi
  obtain ⟨L1, L2, L3, L4⟩ := hl
  obtain ⟨hA, hB, hC, hD, hE, hF, hG, hH, hI⟩ := h
  have hqi := hB i hA.1 hi
  have hp := L2 i hA.1 hi
  rw [hq] at hqi hp hnear
  have hdr : ∀ j : Int, 0 ≤ j → j < far v → bal g r j.toNat v = false := by
    intro j h0 h1
    cases hb : bal g r j.toNat v with
    | false => rfl
    | true =>
      have := (hnear j.toNat v hv.1 hv.2 (by omega) hb).2
      omega
  have hd : disS g r v = far v := dis_is ⟨hqi.2.1, by omega⟩ (hF v hv.1 hv.2 hqi.2.1) hdr
  have hd2 : disS g v r = far v := by rw [dis_sym hg hv hr]; exact hd
  refine ⟨hd2.symm, fun h1 => ?_, fun h1 => ?_⟩
  · obtain ⟨p1, p2, p3⟩ := hp h1
    unfold firS
    rw [hd2, if_neg (by omega)]
    refine lst_is 6 0 p1.1 (by omega) ?_ ?_
    · apply decide_eq_true
      rw [dis_sym hg hv (nbS_bd g r (lab v))]
      refine dis_is (by omega) p2 ?_
      intro j h2 h3
      cases hb : bal g (nbS g r (lab v)) j.toNat v with
      | false => rfl
      | true =>
        have c1 := bal_cons hg hr p1 _ v hv.1 hv.2 hb
        have c2 := hdr (j + 1) (by omega) (by omega)
        rw [show (j + 1).toNat = j.toNat + 1 by omega, c1] at c2
        cases c2
    · intro u h2 h3
      apply decide_eq_false
      rw [dis_sym hg hv (nbS_bd g r u)]
      intro hc
      have c1 := p3 u h2 h3
      have c3 := dis_ball (g := g) (r := nbS g r u) (v := v) (by rw [hc]; omega)
      rw [hc, c1] at c3
      cases c3
  · unfold firS
    rw [hd2, if_pos (Or.inr h1)]
theorem brg_no {g : Int → Int} {r : Int} {far q : Int → Int} {i en v : Int} (hg : invS g) (hr : 0 ≤ r ∧ r < 180) (hv : 0 ≤ v ∧ v < 180) (h : bfs g r far q i en 0) (hi : ¬ i < en) (hno : ∀ j, 0 ≤ j → j < i → ¬ q j = v) : disS g v r = -6 := by
  rw [dis_sym hg hv hr, ← bfs_end hg h hi hv]
  rcases h.2.2.1 v hv.1 hv.2 with h1 | ⟨k, h2, h3⟩
  · exact h1
  · exact absurd h3 (hno k h2.1 (by omega))
def farM (rc : Int → Int) : Int → Int := fun v => if rc v < 0 then -6 else rc v / 10
def labM (rc : Int → Int) : Int → Int := fun v => rc v % 10
theorem farM_0 {r : Int} : farM (zU (fun _ => -1) r 0) = zU (fun _ => -6) r 0 := by
  funext v
  unfold farM zU
  by_cases h : v = r
  · rw [if_pos h, if_pos h]; rfl
  · rw [if_neg h, if_neg h]; rfl
theorem farM_up {rc : Int → Int} {x d l : Int} (hd : 0 ≤ d) (hl : 0 ≤ l ∧ l < 10) : farM (zU rc x (10 * d + l)) = zU (farM rc) x d := by
  funext v
  unfold farM zU
  by_cases h : v = x
  · simp only [h, if_true]; rw [if_neg (by omega)]; omega
  · simp only [h, if_false]
theorem labM_up {rc : Int → Int} {x d l : Int} (hd : 0 ≤ d) (hl : 0 ≤ l ∧ l < 10) : labM (zU rc x (10 * d + l)) = zU (labM rc) x l := by
  funext v
  unfold labM zU
  by_cases h : v = x
  · simp only [h, if_true]; omega
  · simp only [h, if_false]
theorem farM_nn {rc : Int → Int} {v : Int} (h : 0 ≤ rc v) : 0 ≤ farM rc v ∧ farM rc v = rc v / 10 := by
  unfold farM; rw [if_neg (by omega)]; omega
theorem farM_ge {rc : Int → Int} {v : Int} (h : 0 ≤ farM rc v) : 0 ≤ rc v ∧ farM rc v = rc v / 10 := by
  have h1 : 0 ≤ rc v := by
    rcases Int.lt_or_le (rc v) 0 with q | q
    · unfold farM at h; rw [if_pos q] at h; omega
    · exact q
  exact ⟨h1, (farM_nn h1).2⟩
