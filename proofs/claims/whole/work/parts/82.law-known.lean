set_option maxHeartbeats 4000000 in
set_option maxRecDepth 100000 in
theorem law_known {args : Array Value} {s : State} (hts : ∀ w ∈ wsL_law, w.before args s = true) : ∃ (D : va_G) (cI cJ cZ : ClassId), zK D cI cJ cZ s := by
  obtain ⟨k0, i0, hKn0⟩ := u_known (C := RX0) (T := TX0) (N := 3) (n := 3) hts inlX0 (hts _ lwd_instantiable_RX0_3)
  obtain ⟨k1, i1, hKn1⟩ := u_known (C := RX1) (T := TX1) (N := 3) (n := 3) hts inlX1 (hts _ lwd_instantiable_RX1_3)
  obtain ⟨k2, i2, hKn2⟩ := u_known (C := RX2) (T := TX2) (N := 8) (n := 8) hts inlX2 (hts _ lwd_instantiable_RX2_8)
  obtain ⟨k3, i3, hKn3⟩ := u_known (C := RX4) (T := TX4) (N := 2) (n := 2) hts inlX4 (hts _ lwd_instantiable_RX4_2)
  obtain ⟨k4, i4, hKn4⟩ := u_known (C := RX6) (T := TX6) (N := 1) (n := 1) hts inlX6 (hts _ lwd_instantiable_RX6_1)
  obtain ⟨k5, i5, hKn5⟩ := u_known (C := RX7) (T := TX7) (N := 3) (n := 3) hts inlX7 (hts _ lwd_instantiable_RX7_3)
  obtain ⟨k6, i6, hKn6⟩ := u_known (C := RX8) (T := TX8) (N := 4) (n := 4) hts inlX8 (hts _ lwd_instantiable_RX8_4)
  obtain ⟨k7, i7, hKn7⟩ := u_known (C := RX9) (T := TX9) (N := 6) (n := 6) hts inlX9 (hts _ lwd_instantiable_RX9_6)
  obtain ⟨k8, i8, hKn8⟩ := u_known (C := RX10) (T := TX10) (N := 10) (n := 10) hts inlX10 (hts _ lwd_instantiable_RX10_10)
  obtain ⟨k9, i9, hKn9⟩ := u_known (C := RX11) (T := TX11) (N := 23) (n := 23) hts inlX11 (hts _ lwd_instantiable_RX11_23)
  obtain ⟨cI, hAI, hNI⟩ := z_arr (hts _ lwd_arrayClass_int)
  obtain ⟨cJ, hAJ, hNJ⟩ := z_arr (hts _ lwd_arrayClass_long)
  obtain ⟨cZ, hAZ, hNZ⟩ := z_arr (hts _ lwd_arrayClass_boolean)
  refine ⟨(fun k => [k0, k1, k2, k3, k4, k5, k6, k7, k8, k9].getD k k0, fun k => [i0, i1, i2, i3, i4, i5, i6, i7, i8, i9].getD k i0), cI, cJ, cZ, ?_, ?_⟩
  · intro k q hq
    match k, hq with
    | 0, hq => cases hq; exact hKn0
    | 1, hq => cases hq; exact hKn1
    | 2, hq => cases hq; exact hKn2
    | 3, hq => cases hq; exact hKn3
    | 4, hq => cases hq; exact hKn4
    | 5, hq => cases hq; exact hKn5
    | 6, hq => cases hq; exact hKn6
    | 7, hq => cases hq; exact hKn7
    | 8, hq => cases hq; exact hKn8
    | 9, hq => cases hq; exact hKn9
    | k + 10, hq => exact absurd hq (by rw [List.getElem?_eq_none (by simp)]; simp)
  · intro k q hq
    match k, hq with
    | 0, hq => cases hq; exact ⟨hAI, hNI⟩
    | 1, hq => cases hq; exact ⟨hAJ, hNJ⟩
    | 2, hq => cases hq; exact ⟨hAZ, hNZ⟩
    | k + 3, hq => exact absurd hq (by rw [List.getElem?_eq_none (by simp)]; simp)
