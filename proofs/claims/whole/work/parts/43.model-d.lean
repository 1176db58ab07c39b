theorem argm_p {f : Int → Int} {p fo le : Int} (h : (p = 0 ∧ fo = 0 ∧ le = 1000000) ∨ (1 ≤ p ∧ (fo, le) = argm f (p - 1).toNat)) (hb : f p < 1000000) (hp : 0 ≤ p) : 1 ≤ p + 1 ∧ ((if f p < le then p else fo), (if f p < le then f p else le)) = argm f ((p + 1) - 1).toNat := by
  refine ⟨by omega, ?_⟩
  rcases h with ⟨h1, h2, h3⟩ | ⟨h1, h2⟩
  · subst h1; rw [h3, if_pos hb, if_pos hb]; rfl
  · rw [← argm_s h1 h2]
    by_cases h4 : f p < le
    · rw [if_pos h4, if_pos h4, if_pos h4]
    · rw [if_neg h4, if_neg h4, if_neg h4]
theorem argm_af {T : Int} {inc : Int → Int} : ∀ n : Nat, (argm (afS T inc) n).2 = afS T inc (argm (afS T inc) n).1
  | 0 => rfl
  | n + 1 => by
    show (if _ then _ else argm (afS T inc) n).2 = afS T inc (if _ then _ else argm (afS T inc) n).1
    split
    · rfl
    · exact argm_af n
def tkA (tb : Int → Int) (l : Int) : Int := if tb (l - max 1 (l / 2)) = 0 then max 1 (l / 2) else -6
def tkB (tb : Int → Int) (l : Int) : Int := if tb (l - max 1 (l / 3)) = 0 then max 1 (l / 3) else tkA tb l
theorem tkF {tb : Int → Int} {l : Int} (h : 0 < l) : fstT tb l = if tb (l - 1) = 0 then 1 else tkB tb l := by
  unfold fstT tkB tkA; rw [if_neg (by omega)]
theorem t1R_neg {T : Int} {inc dri mat : Int → Int} {k p : Int} (h : k < 0) : t1R T inc dri mat k p = -2 := by
  unfold t1R; rw [if_neg (fun q => absurd (inS.rng q) (by omega))]
theorem wr_prev {m k : Int} (h : 0 ≤ k ∧ k < m) : (k + m - 1) % m = wrS m (k - 1) := by
  unfold wrS
  by_cases h1 : k - 1 < 0
  · rw [if_pos h1]
    have e : k + m - 1 = k - 1 + m := by omega
    rw [e]; exact Int.emod_eq_of_lt (by omega) (by omega)
  · rw [if_neg h1, if_pos (by omega)]
    have e : k + m - 1 = k - 1 + m := by omega
    rw [e, Int.add_emod_right]; exact Int.emod_eq_of_lt (by omega) (by omega)
theorem wr_next {m k : Int} (h : 0 ≤ k ∧ k < m) : (k + 1) % m = wrS m (k + 1) := by
  unfold wrS
  rw [if_neg (by omega)]
  by_cases h1 : k + 1 < m
  · rw [if_pos h1]; exact Int.emod_eq_of_lt (by omega) h1
  · rw [if_neg h1]
    have e : k + 1 = m := by omega
    rw [e, Int.emod_self]; omega
theorem gcdZ_comm (x y : Int) : gcdZ x y = gcdZ y x := by unfold gcdZ; rw [Nat.gcd_comm]
theorem winS_or (l : Int) : winS l = -6 ∨ 0 < winS l := by
  unfold winS fstT; split
  · exact Or.inl rfl
  · split
    · exact Or.inr (by decide)
    · split
      · exact Or.inr (by omega)
      · split
        · exact Or.inr (by omega)
        · exact Or.inl rfl
theorem okT_u {f : Int → Int} {n v : Int} (h : okT f n) (hn : 0 ≤ n ∧ n < 180) (hv : v = if winS n = -6 then 0 else 1) : okT (zU f n v) (n + 1) := by
  intro j h0 h1
  by_cases hj : j = n
  · rw [hj, zU_same, hv]
    by_cases h2 : n = 0
    · rw [h2, tab_0, if_pos (by unfold winS fstT; rw [if_pos (by decide)])]
    · rw [tab_step (by omega)]
  · rw [zU_ne hj]; exact h j h0 (by omega)

set_option maxRecDepth 20000 in
theorem hin_X11_lean_X11 : ∀ w ∈ u_ws RX11 TX11 23, w ∈ wsX11_lean := by decide +kernel
set_option maxRecDepth 20000 in
theorem fl_X11_lean_7 : Cond.fieldLink RX11 7 "HornCityModel" "book" "[I" ∈ wsX11_lean := by decide +kernel
set_option maxHeartbeats 4000000 in
set_option maxRecDepth 100000 in
theorem c_X11_lean (l : Launch) (D : va_G) (cI cJ cZ : ClassId) (md bk nw nt df chk pa rc qu ct ft wn wy nx im ik : Nat) (inc mat kd : Int → Int) (T cn ln wat who rs act fse tm yr what : Int) (hr : (-2147483648 ≤ what ∧ what ≤ 2147483647)) (hT : 0 ≤ T ∧ T < 512) (hbi : zBd inc 9 0 179) : zMp l yX11_lean wsX11_lean (zRm 2) D cI cJ cZ [.ref md, .int (zI what)] [(md, .inr (9, [.ref bk, .ref nw, .ref nt, .int (zI T), .ref df, .int (zI cn), .ref chk, .int (zI ln), .ref pa, .int (zI wat), .int (zI who), .int (zI rs), .int (zI act), .int (zI fse), .ref rc, .ref qu, .ref ct, .ref ft, .ref wn, .ref wy, .ref nx, .ref im, .ref ik])), (bk, .inl (cI, 29, .inl (zA (nwS inc mat kd tm yr))))] (some (.int (zI (leR T inc what)))) := by
  refine zMp_i (cc := cX11_lean) (maxL := 7) (by decide +kernel) rfl (Nat.le_of_ble_eq_true rfl) rfl ?_
  intro p e s m args below meth c Q H ls F hK hz hl hret
  obtain ⟨hx, hb, hml, hown0, hts⟩ := id F
  have hown : s.vm.findClass RX11 = some m.cls := hown0
  obtain ⟨ws0, hw0⟩ : ∃ w : va_W, w = [(md, .inr (9, [.ref bk, .ref nw, .ref nt, .int (zI T), .ref df, .int (zI cn), .ref chk, .int (zI ln), .ref pa, .int (zI wat), .int (zI who), .int (zI rs), .int (zI act), .int (zI fse), .ref rc, .ref qu, .ref ct, .ref ft, .ref wn, .ref wy, .ref nx, .ref im, .ref ik])), (bk, .inl (cI, 29, .inl (zA (nwS inc mat kd tm yr))))] := ⟨_, rfl⟩
  have hz : zH D (zF ws0) H [(md, .inr (9, [.ref bk, .ref nw, .ref nt, .int (zI T), .ref df, .int (zI cn), .ref chk, .int (zI ln), .ref pa, .int (zI wat), .int (zI who), .int (zI rs), .int (zI act), .int (zI fse), .ref rc, .ref qu, .ref ct, .ref ft, .ref wn, .ref wy, .ref nx, .ref im, .ref ik])), (bk, .inl (cI, 29, .inl (zA (nwS inc mat kd tm yr))))] H [] := by rw [hw0]; exact hz
  have hl : lv_has ls 7 [(0, .ref md), (1, .int (zI what))] := hl
  refine lv_iload_n hx hb dX11_lean_0 rfl (lv_at hl 1 rfl) ?_
  refine z_iconst hx hb dX11_lean_1 ?_
  refine z_iconst hx hb dX11_lean_2 ?_
  refine z_callSp (As := [.int (zI what), .int (zI 0), .int (zI 1)]) (rest := []) F hK hz hl (c_X11_in l D cI cJ cZ what 0 1 (by omega)) (va_cwS 3 hts gX11_lean_X11_in rfl rfl rfl (by decide +kernel) ⟨Nat.le_of_ble_eq_true rfl, Nat.le_of_ble_eq_true rfl⟩) [] rfl rfl rfl rfl (Nat.le_of_ble_eq_true rfl) ⟨Nat.le_of_ble_eq_true rfl, Nat.le_of_ble_eq_true rfl⟩ dX11_lean_3 ?_
  refine z_ifb_ne (tgt := 12) hx hb dX11_lean_6 (by decide) (fun h6 => ?_) (fun h6 => ?_)
  ·
    refine z_ldc (n := 1000000) hx hb hown (hts (.constant RX11 141 1000000) (by decide +kernel)) (by decide +kernel) dX11_lean_12 ?_
    refine lv_istore_n (lv' := [(2, .int (zI 1000000)), (0, .ref md), (1, .int (zI what))]) hx hb dX11_lean_14 rfl hl (Nat.le_of_ble_eq_true rfl) rfl (fun ls hl => ?_)
    refine z_iconst hx hb dX11_lean_15 ?_
    refine lv_istore_n (lv' := [(3, .int (zI 0)), (2, .int (zI 1000000)), (0, .ref md), (1, .int (zI what))]) hx hb dX11_lean_16 rfl hl (Nat.le_of_ble_eq_true rfl) rfl (fun ls hl => ?_)
    refine z_iconst hx hb dX11_lean_17 ?_
    refine lv_istore (lv' := [(4, .int (zI 0)), (3, .int (zI 0)), (2, .int (zI 1000000)), (0, .ref md), (1, .int (zI what))]) hx hb dX11_lean_18 hl (Nat.le_of_ble_eq_true rfl) rfl (fun ls hl => ?_)
    have L20 : ∀ (n : Nat) (p1 fo le : Int) (ls : Array Slot), ((180 - p1).toNat = n) → (0 ≤ p1 ∧ p1 ≤ 180) → (0 ≤ le ∧ le ≤ 1000000) → ((p1 = 0 ∧ fo = 0 ∧ le = 1000000) ∨ (1 ≤ p1 ∧ (fo, le) = argm (afS T inc) (p1 - 1).toNat)) → lv_has ls 7 [(4, .int (zI p1)), (3, .int (zI fo)), (2, .int (zI le)), (0, .ref md), (1, .int (zI what))] → W p l e (zRm 2) s m args below meth c H [] 0 0 Q (F0 m 20 ls []) := by
      intro n
      refine Nat.strongRecOn n ?_
      intro n ih20 p1 fo le ls hn20 h0 hle hag hl
      refine lv_iload hx hb dX11_lean_20 (lv_at hl 0 rfl) ?_
      refine z_sipush hx hb dX11_lean_22 (by decide) ?_
      refine z_icmp_ge (tgt := 109) hx hb dX11_lean_25 (by decide) (by omega) (by decide) (fun h25 => ?_) (fun h25 => ?_)
      ·
        refine lv_iload_n hx hb dX11_lean_109 rfl (lv_at hl 4 rfl) ?_
        refine z_if_ne (tgt := 117) hx hb dX11_lean_110 (by decide) (by omega) (fun h110 => ?_) (fun h110 => ?_)
        ·
          refine lv_iload_n hx hb dX11_lean_117 rfl (lv_at hl 2 rfl) ?_
          exact hret dX11_lean_118 (congrArg (fun z => some (Value.int (zI z))) (show (le : Int) = (leR T inc what) by unfold leR; rw [if_pos h6]; have hq : (fo, le) = argm (afS T inc) 179 := hag.elim (fun q => by omega) (fun q => by rw [q.2, show p1 = 180 by omega]; rfl); rw [← argm_af, ← hq]; exact (if_neg h110).symm))
        ·
          refine lv_iload_n hx hb dX11_lean_113 rfl (lv_at hl 1 rfl) ?_
          refine lv_goto (tgt := 118) hx hb dX11_lean_114 (by decide) ?_
          exact hret dX11_lean_118 (congrArg (fun z => some (Value.int (zI z))) (show (fo : Int) = (leR T inc what) by unfold leR; rw [if_pos h6]; have hq : (fo, le) = argm (afS T inc) 179 := hag.elim (fun q => by omega) (fun q => by rw [q.2, show p1 = 180 by omega]; rfl); rw [← argm_af, ← hq]; exact (if_pos h110).symm))
      ·
        refine z_iconst hx hb dX11_lean_28 ?_
        refine lv_istore (lv' := [(5, .int (zI 0)), (4, .int (zI p1)), (3, .int (zI fo)), (2, .int (zI le)), (0, .ref md), (1, .int (zI what))]) hx hb dX11_lean_29 hl (Nat.le_of_ble_eq_true rfl) rfl (fun ls hl => ?_)
        refine z_iconst hx hb dX11_lean_31 ?_
        refine lv_istore (lv' := [(6, .int (zI 0)), (5, .int (zI 0)), (4, .int (zI p1)), (3, .int (zI fo)), (2, .int (zI le)), (0, .ref md), (1, .int (zI what))]) hx hb dX11_lean_32 hl (Nat.le_of_ble_eq_true rfl) rfl (fun ls hl => ?_)
        have L34 : ∀ (n : Nat) (k su : Int) (ls : Array Slot), ((9 - k).toNat = n) → (0 ≤ k ∧ k ≤ 9) → (0 ≤ su ∧ su ≤ 90 * k) → (su = sumZ (fun k => if inS T k = true then apS (inO T inc k) p1 else 0) k.toNat) → lv_has ls 7 [(6, .int (zI k)), (5, .int (zI su)), (4, .int (zI p1)), (3, .int (zI fo)), (2, .int (zI le)), (0, .ref md), (1, .int (zI what))] → W p l e (zRm 2) s m args below meth c H [] 0 0 Q (F0 m 34 ls []) := by
          intro n
          refine Nat.strongRecOn n ?_
          intro n ih34 k su ls hn34 h1 hsb hs hl
          refine lv_iload hx hb dX11_lean_34 (lv_at hl 0 rfl) ?_
          refine z_bipush hx hb dX11_lean_36 (by decide) ?_
          refine z_icmp_ge (tgt := 77) hx hb dX11_lean_38 (by decide) (by omega) (by decide) (fun h38 => ?_) (fun h38 => ?_)
          ·
            have hsu : su = afS T inc p1 := by rw [hs, show k = 9 by omega]; rfl
            have hfb := afS_bd T inc p1
            have har := argm_p (f := afS T inc) (fo := fo) (le := le) hag (by omega) h0.1
            refine lv_iload hx hb dX11_lean_77 (lv_at hl 1 rfl) ?_
            refine lv_iload_n hx hb dX11_lean_79 rfl (lv_at hl 4 rfl) ?_
            refine z_icmp_ge (tgt := 88) hx hb dX11_lean_80 (by decide) (by omega) (by omega) (fun h80 => ?_) (fun h80 => ?_)
            ·
              refine lv_iload_n hx hb dX11_lean_88 rfl (lv_at hl 3 rfl) ?_
              refine lv_istore_n (lv' := [(3, .int (zI fo)), (6, .int (zI k)), (5, .int (zI su)), (4, .int (zI p1)), (2, .int (zI le)), (0, .ref md), (1, .int (zI what))]) hx hb dX11_lean_89 rfl hl (Nat.le_of_ble_eq_true rfl) rfl (fun ls hl => ?_)
              refine lv_iload hx hb dX11_lean_90 (lv_at hl 2 rfl) ?_
              refine lv_iload_n hx hb dX11_lean_92 rfl (lv_at hl 4 rfl) ?_
              refine z_icmp_ge (tgt := 101) hx hb dX11_lean_93 (by decide) (by omega) (by omega) (fun h93 => ?_) (fun h93 => ?_)
              ·
                refine lv_iload_n hx hb dX11_lean_101 rfl (lv_at hl 4 rfl) ?_
                refine lv_istore_n (lv' := [(2, .int (zI le)), (3, .int (zI fo)), (6, .int (zI k)), (5, .int (zI su)), (4, .int (zI p1)), (0, .ref md), (1, .int (zI what))]) hx hb dX11_lean_102 rfl hl (Nat.le_of_ble_eq_true rfl) rfl (fun ls hl => ?_)
                refine z_iinc (lv' := [(4, .int (zI (p1 + 1))), (2, .int (zI le)), (3, .int (zI fo)), (6, .int (zI k)), (5, .int (zI su)), (0, .ref md), (1, .int (zI what))]) hx hb dX11_lean_103 hl (k := 4) rfl (Nat.le_of_ble_eq_true rfl) rfl (fun ls hl => ?_)
                refine lv_goto (tgt := 20) hx hb dX11_lean_106 (by decide) ?_
                exact ih20 _ (by omega) (p1 + 1) fo le ls rfl (by omega) (by omega) (by rw [← hsu] at har; rw [if_neg (by omega), if_neg (by omega)] at har; exact Or.inr har) (lv_sub hl [0, 2, 1, 5, 6] rfl)
              ·
                exfalso
                first | omega | (revert h93; simp_all; done) | simp_all
            ·
              refine lv_iload hx hb dX11_lean_83 (lv_at hl 2 rfl) ?_
              refine lv_goto (tgt := 89) hx hb dX11_lean_85 (by decide) ?_
              refine lv_istore_n (lv' := [(3, .int (zI p1)), (6, .int (zI k)), (5, .int (zI su)), (4, .int (zI p1)), (2, .int (zI le)), (0, .ref md), (1, .int (zI what))]) hx hb dX11_lean_89 rfl hl (Nat.le_of_ble_eq_true rfl) rfl (fun ls hl => ?_)
              refine lv_iload hx hb dX11_lean_90 (lv_at hl 2 rfl) ?_
              refine lv_iload_n hx hb dX11_lean_92 rfl (lv_at hl 4 rfl) ?_
              refine z_icmp_ge (tgt := 101) hx hb dX11_lean_93 (by decide) (by omega) (by omega) (fun h93 => ?_) (fun h93 => ?_)
              ·
                exfalso
                first | omega | (revert h93; simp_all; done) | simp_all
              ·
                refine lv_iload hx hb dX11_lean_96 (lv_at hl 2 rfl) ?_
                refine lv_goto (tgt := 102) hx hb dX11_lean_98 (by decide) ?_
                refine lv_istore_n (lv' := [(2, .int (zI su)), (3, .int (zI p1)), (6, .int (zI k)), (5, .int (zI su)), (4, .int (zI p1)), (0, .ref md), (1, .int (zI what))]) hx hb dX11_lean_102 rfl hl (Nat.le_of_ble_eq_true rfl) rfl (fun ls hl => ?_)
                refine z_iinc (lv' := [(4, .int (zI (p1 + 1))), (2, .int (zI su)), (3, .int (zI p1)), (6, .int (zI k)), (5, .int (zI su)), (0, .ref md), (1, .int (zI what))]) hx hb dX11_lean_103 hl (k := 4) rfl (Nat.le_of_ble_eq_true rfl) rfl (fun ls hl => ?_)
                refine lv_goto (tgt := 20) hx hb dX11_lean_106 (by decide) ?_
                exact ih20 _ (by omega) (p1 + 1) p1 su ls rfl (by omega) (by omega) (by rw [← hsu] at har; rw [if_pos (by omega), if_pos (by omega)] at har; exact Or.inr har) (lv_sub hl [0, 2, 1, 5, 6] rfl)
          ·
            refine lv_iload hx hb dX11_lean_41 (lv_at hl 1 rfl) ?_
            refine lv_aload_n hx hb dX11_lean_43 rfl (lv_at hl 5 rfl) ?_
            refine lv_iload hx hb dX11_lean_44 (lv_at hl 0 rfl) ?_
            refine z_callVp (As := [.int (zI k)]) (rest := [.int (zI su)]) (C := RX11) (T := TX11) (N := 23) F hK hz hl (c_X11_isThere l D cI cJ cZ md bk nw nt df chk pa rc qu ct ft wn wy nx im ik T cn ln wat who rs act fse k (by omega) (by first | assumption | omega)) (cwV 1 hts gX11_lean_X11_isThere rfl rfl rfl (by decide +kernel) ⟨Nat.le_of_ble_eq_true rfl, Nat.le_of_ble_eq_true rfl⟩) rfl 0 rfl [0] rfl rfl rfl rfl (Nat.le_of_ble_eq_true rfl) ⟨Nat.le_of_ble_eq_true rfl, Nat.le_of_ble_eq_true rfl⟩ dX11_lean_46 ?_
            refine z_ifb_eq (tgt := 67) hx hb dX11_lean_49 (by decide) (fun h49 => ?_) (fun h49 => ?_)
            ·
              refine z_iconst hx hb dX11_lean_67 ?_
              refine z_iadd hx hb dX11_lean_68 ?_
              refine lv_istore (lv' := [(5, .int (zI (su + 0))), (6, .int (zI k)), (4, .int (zI p1)), (3, .int (zI fo)), (2, .int (zI le)), (0, .ref md), (1, .int (zI what))]) hx hb dX11_lean_69 hl (Nat.le_of_ble_eq_true rfl) rfl (fun ls hl => ?_)
              refine z_iinc (lv' := [(6, .int (zI (k + 1))), (5, .int (zI (su + 0))), (4, .int (zI p1)), (3, .int (zI fo)), (2, .int (zI le)), (0, .ref md), (1, .int (zI what))]) hx hb dX11_lean_71 hl (k := 1) rfl (Nat.le_of_ble_eq_true rfl) rfl (fun ls hl => ?_)
              refine lv_goto (tgt := 34) hx hb dX11_lean_74 (by decide) ?_
              exact ih34 _ (by omega) (k + 1) (su + 0) ls rfl (by omega) (by omega) (by rw [sumZ_s h1.1, ← hs]; rw [if_neg h49]) (lv_sub hl [0, 1, 2, 3, 4, 5, 6] rfl)
            ·
              have hk52 := inS.rng h49
              refine lv_aload_n hx hb dX11_lean_52 rfl (lv_at hl 5 rfl) ?_
              refine z_get (C := RX11) (T := TX11) (N := 23) (ref := "HornCityModel") hx hb hts hin_X11_lean_X11 hown hK hz 0 rfl rfl 0 (by decide) (hts _ fl_X11_lean_7) rfl rfl dX11_lean_53 ?_
              refine lv_iload hx hb dX11_lean_56 (lv_at hl 0 rfl) ?_
              refine z_iald hx hb hK hz 1 rfl (by omega) (by decide) dX11_lean_58 ?_
              rw [nwS_i (k := k) (by omega)]
              have hv58 := (hbi).ax k (by omega)
              refine lv_iload hx hb dX11_lean_59 (lv_at hl 2 rfl) ?_
              refine z_callSp (As := [.int (zI (inc k)), .int (zI p1)]) (rest := [.int (zI su)]) F hK hz hl (c_X11_apartOf l D cI cJ cZ (inc k) p1 (by omega)) (va_cwS 2 hts gX11_lean_X11_apartOf rfl rfl rfl (by decide +kernel) ⟨Nat.le_of_ble_eq_true rfl, Nat.le_of_ble_eq_true rfl⟩) [] rfl rfl rfl rfl (Nat.le_of_ble_eq_true rfl) ⟨Nat.le_of_ble_eq_true rfl, Nat.le_of_ble_eq_true rfl⟩ dX11_lean_61 ?_
              have hap := apS_bd (inc k) p1
              refine lv_goto (tgt := 68) hx hb dX11_lean_64 (by decide) ?_
              refine z_iadd hx hb dX11_lean_68 ?_
              refine lv_istore (lv' := [(5, .int (zI (su + (apS (inc k) p1)))), (6, .int (zI k)), (4, .int (zI p1)), (3, .int (zI fo)), (2, .int (zI le)), (0, .ref md), (1, .int (zI what))]) hx hb dX11_lean_69 hl (Nat.le_of_ble_eq_true rfl) rfl (fun ls hl => ?_)
              refine z_iinc (lv' := [(6, .int (zI (k + 1))), (5, .int (zI (su + (apS (inc k) p1)))), (4, .int (zI p1)), (3, .int (zI fo)), (2, .int (zI le)), (0, .ref md), (1, .int (zI what))]) hx hb dX11_lean_71 hl (k := 1) rfl (Nat.le_of_ble_eq_true rfl) rfl (fun ls hl => ?_)
              refine lv_goto (tgt := 34) hx hb dX11_lean_74 (by decide) ?_
              exact ih34 _ (by omega) (k + 1) (su + (apS (inc k) p1)) ls rfl (by omega) (by omega) (by rw [sumZ_s h1.1, ← hs]; rw [if_pos h49, show inO T inc k = inc k from if_pos h49]) (lv_sub hl [0, 1, 2, 3, 4, 5, 6] rfl)
        exact L34 _ 0 0 ls rfl (by decide) (by decide) (rfl) (lv_sub hl [0, 1, 2, 3, 4, 5, 6] rfl)
    exact L20 _ 0 0 1000000 ls rfl (by decide) (by decide) (Or.inl ⟨rfl, rfl, rfl⟩) (lv_sub hl [0, 1, 2, 3, 4] rfl)
  ·
    refine z_bipush hx hb dX11_lean_9 (by decide) ?_
    exact hret dX11_lean_11 (congrArg (fun z => some (Value.int (zI z))) (show ((-2) : Int) = (leR T inc what) by unfold leR; rw [if_neg h6]))

set_option maxRecDepth 20000 in
theorem hin_X11_take_X11 : ∀ w ∈ u_ws RX11 TX11 23, w ∈ wsX11_take := by decide +kernel
set_option maxRecDepth 20000 in
theorem fl_X11_take_40 : Cond.fieldLink RX11 40 "HornCityModel" "wins" "[Z" ∈ wsX11_take := by decide +kernel
set_option maxHeartbeats 4000000 in
set_option maxRecDepth 100000 in
theorem c_X11_take (l : Launch) (D : va_G) (cI cJ cZ : ClassId) (md bk nw nt df chk pa rc qu ct ft wn wy nx im ik : Nat) (wnf : Int → Int) (T cn ln wat who rs act fse n0 what : Int) (hr : (-2147483648 ≤ n0 ∧ n0 ≤ 2147483647) ∧ (-2147483648 ≤ what ∧ what ≤ 2147483647)) (hbw : zBd wnf 180 0 1) : zMw l yX11_take wsX11_take (zRm 1) D cI cJ cZ [.ref md, .int (zI n0), .int (zI what)] [(md, .inr (9, [.ref bk, .ref nw, .ref nt, .int (zI T), .ref df, .int (zI cn), .ref chk, .int (zI ln), .ref pa, .int (zI wat), .int (zI who), .int (zI rs), .int (zI act), .int (zI fse), .ref rc, .ref qu, .ref ct, .ref ft, .ref wn, .ref wy, .ref nx, .ref im, .ref ik])), (wn, .inl (cZ, 180, .inl (zA wnf)))] (S := Int × (Int → Int)) (fun u => u.1 = taR n0 what ∧ (zBd u.2 180 0 1)) (fun u => some (.int (zI u.1))) (fun u => [(md, .inr (9, [.ref bk, .ref nw, .ref nt, .int (zI T), .ref df, .int (zI cn), .ref chk, .int (zI ln), .ref pa, .int (zI wat), .int (zI who), .int (zI rs), .int (zI act), .int (zI fse), .ref rc, .ref qu, .ref ct, .ref ft, .ref wn, .ref wy, .ref nx, .ref im, .ref ik])), (wn, .inl (cZ, 180, .inl (zA u.2)))]) := by
  refine zMw_i (cc := cX11_take) (maxL := 7) (by decide +kernel) rfl (Nat.le_of_ble_eq_true rfl) rfl (fun _ => rfl) ?_
  intro p e s m args below meth c Q H0 ls F hK hz hl hret
  obtain ⟨hx, hb, hml, hown0, hts⟩ := id F
  have hown : s.vm.findClass RX11 = some m.cls := hown0
  obtain ⟨ws0, hw0⟩ : ∃ w : va_W, w = [(md, .inr (9, [.ref bk, .ref nw, .ref nt, .int (zI T), .ref df, .int (zI cn), .ref chk, .int (zI ln), .ref pa, .int (zI wat), .int (zI who), .int (zI rs), .int (zI act), .int (zI fse), .ref rc, .ref qu, .ref ct, .ref ft, .ref wn, .ref wy, .ref nx, .ref im, .ref ik])), (wn, .inl (cZ, 180, .inl (zA wnf)))] := ⟨_, rfl⟩
  rw [← hw0] at hret
  have hz : zH D (zF ws0) H0 [(md, .inr (9, [.ref bk, .ref nw, .ref nt, .int (zI T), .ref df, .int (zI cn), .ref chk, .int (zI ln), .ref pa, .int (zI wat), .int (zI who), .int (zI rs), .int (zI act), .int (zI fse), .ref rc, .ref qu, .ref ct, .ref ft, .ref wn, .ref wy, .ref nx, .ref im, .ref ik])), (wn, .inl (cZ, 180, .inl (zA wnf)))] H0 [] := by rw [hw0]; exact hz
  have hl : lv_has ls 7 [(0, .ref md), (1, .int (zI n0)), (2, .int (zI what))] := hl
  refine lv_iload_n hx hb dX11_take_0 rfl (lv_at hl 1 rfl) ?_
  refine z_iconst hx hb dX11_take_1 ?_
  refine z_sipush hx hb dX11_take_2 (by decide) ?_
  refine z_callSp (As := [.int (zI n0), .int (zI 0), .int (zI 179)]) (rest := []) F hK hz hl (c_X11_in l D cI cJ cZ n0 0 179 (by omega)) (va_cwS 3 hts gX11_take_X11_in rfl rfl rfl (by decide +kernel) ⟨Nat.le_of_ble_eq_true rfl, Nat.le_of_ble_eq_true rfl⟩) [] rfl rfl rfl rfl (Nat.le_of_ble_eq_true rfl) ⟨Nat.le_of_ble_eq_true rfl, Nat.le_of_ble_eq_true rfl⟩ dX11_take_5 ?_
  refine z_ifb_eq (tgt := 20) hx hb dX11_take_8 (by decide) (fun h8 => ?_) (fun h8 => ?_)
  ·
    refine z_bipush hx hb dX11_take_20 (by decide) ?_
    exact hret (((-2) : Int), (wnf : Int → Int)) dX11_take_22 (show (-2) = taR n0 what ∧ (zBd wnf 180 0 1) from ⟨by unfold taR; rw [if_neg (by omega)], hbw⟩) hz
  ·
    refine lv_iload_n hx hb dX11_take_11 rfl (lv_at hl 2 rfl) ?_
    refine z_iconst hx hb dX11_take_12 ?_
    refine z_iconst hx hb dX11_take_13 ?_
    refine z_callSp (As := [.int (zI what), .int (zI 0), .int (zI 1)]) (rest := []) F hK hz hl (c_X11_in l D cI cJ cZ what 0 1 (by omega)) (va_cwS 3 hts gX11_take_X11_in rfl rfl rfl (by decide +kernel) ⟨Nat.le_of_ble_eq_true rfl, Nat.le_of_ble_eq_true rfl⟩) [] rfl rfl rfl rfl (Nat.le_of_ble_eq_true rfl) ⟨Nat.le_of_ble_eq_true rfl, Nat.le_of_ble_eq_true rfl⟩ dX11_take_14 ?_
    refine z_ifb_ne (tgt := 23) hx hb dX11_take_17 (by decide) (fun h17 => ?_) (fun h17 => ?_)
    ·
      refine z_bipush hx hb dX11_take_23 (by decide) ?_
      refine lv_istore_n (lv' := [(3, .int (zI (-6))), (0, .ref md), (1, .int (zI n0)), (2, .int (zI what))]) hx hb dX11_take_25 rfl hl (Nat.le_of_ble_eq_true rfl) rfl (fun ls hl => ?_)
      refine z_iconst hx hb dX11_take_26 ?_
      refine lv_istore (lv' := [(4, .int (zI 0)), (3, .int (zI (-6))), (0, .ref md), (1, .int (zI n0)), (2, .int (zI what))]) hx hb dX11_take_27 hl (Nat.le_of_ble_eq_true rfl) rfl (fun ls hl => ?_)
      have L29 : ∀ (n : Nat) (l1 fi : Int) (wx : Int → Int) (H : Heap) (locs : List Loc) (ls : Array Slot), ((181 - l1).toNat = n) → (0 ≤ l1 ∧ l1 ≤ n0 + 1) → (zBd wx 180 0 1) → ((l1 = 0 ∧ fi = -6) ∨ (1 ≤ l1 ∧ fi = winS (l1 - 1))) → (okT wx l1) → (-6 ≤ fi ∧ fi ≤ 200) → zH D (zF ws0) H0 [(md, .inr (9, [.ref bk, .ref nw, .ref nt, .int (zI T), .ref df, .int (zI cn), .ref chk, .int (zI ln), .ref pa, .int (zI wat), .int (zI who), .int (zI rs), .int (zI act), .int (zI fse), .ref rc, .ref qu, .ref ct, .ref ft, .ref wn, .ref wy, .ref nx, .ref im, .ref ik])), (wn, .inl (cZ, 180, .inl (zA wx)))] H locs → lv_has ls 7 [(4, .int (zI l1)), (3, .int (zI fi)), (0, .ref md), (1, .int (zI n0)), (2, .int (zI what))] → W p l e (zRm 1) s m args below meth c H locs 0 0 Q (F0 m 29 ls []) := by
        intro n
        refine Nat.strongRecOn n ?_
        intro n ih29 l1 fi wx H locs ls hn29 h0 hbx hfi hok hfb hz hl
        refine lv_iload hx hb dX11_take_29 (lv_at hl 0 rfl) ?_
        refine lv_iload_n hx hb dX11_take_31 rfl (lv_at hl 3 rfl) ?_
        refine z_icmp_gt (tgt := 133) hx hb dX11_take_32 (by decide) (by omega) (by omega) (fun h32 => ?_) (fun h32 => ?_)
        ·
          refine lv_iload_n hx hb dX11_take_133 rfl (lv_at hl 4 rfl) ?_
          refine z_iconst hx hb dX11_take_134 ?_
          refine z_icmp_ne (tgt := 142) hx hb dX11_take_135 (by decide) (by omega) (by decide) (fun h135 => ?_) (fun h135 => ?_)
          ·
            refine lv_iload_n hx hb dX11_take_142 rfl (lv_at hl 1 rfl) ?_
            refine z_if_le (tgt := 150) hx hb dX11_take_143 (by decide) (by omega) (fun h143 => ?_) (fun h143 => ?_)
            ·
              refine z_iconst hx hb dX11_take_150 ?_
              exact hret ((0 : Int), (wx : Int → Int)) dX11_take_151 (show 0 = taR n0 what ∧ (zBd wx 180 0 1) from ⟨by unfold taR; rw [if_pos (by omega)]; have hq : fi = winS n0 := hfi.elim (fun q => by omega) (fun q => by rw [q.2, show l1 - 1 = n0 by omega]); rw [← hq]; have hqo := winS_or n0; rw [← hq] at hqo; rw [if_pos (by omega), if_pos (by omega)], hbx⟩) hz
            ·
              refine z_iconst hx hb dX11_take_146 ?_
              refine lv_goto (tgt := 151) hx hb dX11_take_147 (by decide) ?_
              exact hret ((1 : Int), (wx : Int → Int)) dX11_take_151 (show 1 = taR n0 what ∧ (zBd wx 180 0 1) from ⟨by unfold taR; rw [if_pos (by omega)]; have hq : fi = winS n0 := hfi.elim (fun q => by omega) (fun q => by rw [q.2, show l1 - 1 = n0 by omega]); rw [← hq]; have hqo := winS_or n0; rw [← hq] at hqo; rw [if_pos (by omega), if_neg (by omega)], hbx⟩) hz
          ·
            refine lv_iload_n hx hb dX11_take_138 rfl (lv_at hl 1 rfl) ?_
            refine lv_goto (tgt := 151) hx hb dX11_take_139 (by decide) ?_
            exact hret ((fi : Int), (wx : Int → Int)) dX11_take_151 (show fi = taR n0 what ∧ (zBd wx 180 0 1) from ⟨by unfold taR; rw [if_pos (by omega)]; have hq : fi = winS n0 := hfi.elim (fun q => by omega) (fun q => by rw [q.2, show l1 - 1 = n0 by omega]); rw [← hq]; have hqo := winS_or n0; rw [← hq] at hqo; rw [if_neg (by omega)], hbx⟩) hz
        ·
          refine z_bipush hx hb dX11_take_35 (by decide) ?_
          refine lv_istore_n (lv' := [(3, .int (zI (-6))), (4, .int (zI l1)), (0, .ref md), (1, .int (zI n0)), (2, .int (zI what))]) hx hb dX11_take_37 rfl hl (Nat.le_of_ble_eq_true rfl) rfl (fun ls hl => ?_)
          refine z_iconst hx hb dX11_take_38 ?_
          refine lv_istore (lv' := [(5, .int (zI 1)), (3, .int (zI (-6))), (4, .int (zI l1)), (0, .ref md), (1, .int (zI n0)), (2, .int (zI what))]) hx hb dX11_take_39 hl (Nat.le_of_ble_eq_true rfl) rfl (fun ls hl => ?_)
          have L41 : ∀ (n : Nat) (hw fj : Int) (H : Heap) (locs : List Loc) (ls : Array Slot), ((4 - hw).toNat = n) → (1 ≤ hw ∧ hw ≤ 4) → ((hw = 1 ∧ fj = -6) ∨ (hw = 2 ∧ fj = tkA wx l1 ∧ 0 < l1) ∨ (hw = 3 ∧ fj = tkB wx l1 ∧ 0 < l1) ∨ (hw = 4 ∧ fj = fstT wx l1 ∧ 0 < l1)) → (-6 ≤ fj ∧ fj ≤ 200) → zH D (zF ws0) H0 [(md, .inr (9, [.ref bk, .ref nw, .ref nt, .int (zI T), .ref df, .int (zI cn), .ref chk, .int (zI ln), .ref pa, .int (zI wat), .int (zI who), .int (zI rs), .int (zI act), .int (zI fse), .ref rc, .ref qu, .ref ct, .ref ft, .ref wn, .ref wy, .ref nx, .ref im, .ref ik])), (wn, .inl (cZ, 180, .inl (zA wx)))] H locs → lv_has ls 7 [(5, .int (zI hw)), (3, .int (zI fj)), (4, .int (zI l1)), (0, .ref md), (1, .int (zI n0)), (2, .int (zI what))] → W p l e (zRm 1) s m args below meth c H locs 0 0 Q (F0 m 41 ls []) := by
            intro n
            refine Nat.strongRecOn n ?_
            intro n ih41 hw fj H locs ls hn41 h1 hfk hfjb hz hl
            refine lv_iload hx hb dX11_take_41 (lv_at hl 0 rfl) ?_
            refine z_iconst hx hb dX11_take_43 ?_
            refine z_icmp_ge (tgt := 111) hx hb dX11_take_44 (by decide) (by omega) (by decide) (fun h44 => ?_) (fun h44 => ?_)
            ·
              have hwl : fj = winS l1 := by rw [← okT_fst hok]; exact hfk.elim (fun q => by rw [q.2]; unfold fstT; rw [if_pos (by omega)]) (fun q => q.elim (fun q => by omega) (fun q => q.elim (fun q => by omega) (fun q => q.2.1)))
              refine lv_aload_n hx hb dX11_take_111 rfl (lv_at hl 3 rfl) ?_
              refine z_get (C := RX11) (T := TX11) (N := 23) (ref := "HornCityModel") hx hb hts hin_X11_take_X11 hown hK hz 0 rfl rfl 18 (by decide) (hts _ fl_X11_take_40) rfl rfl dX11_take_112 ?_
              refine lv_iload hx hb dX11_take_115 (lv_at hl 2 rfl) ?_
              refine lv_iload_n hx hb dX11_take_117 rfl (lv_at hl 1 rfl) ?_
              refine z_if_le (tgt := 125) hx hb dX11_take_118 (by decide) (by omega) (fun h118 => ?_) (fun h118 => ?_)
              ·
                refine z_iconst hx hb dX11_take_125 ?_
                refine z_zast hx hb hK hz 1 rfl (by omega) (by decide) (by first | decide | omega | (split <;> decide)) dX11_take_126 (fun H locs hz => ?_)
                have hz : zH D (zF ws0) H0 [(md, .inr (9, [.ref bk, .ref nw, .ref nt, .int (zI T), .ref df, .int (zI cn), .ref chk, .int (zI ln), .ref pa, .int (zI wat), .int (zI who), .int (zI rs), .int (zI act), .int (zI fse), .ref rc, .ref qu, .ref ct, .ref ft, .ref wn, .ref wy, .ref nx, .ref im, .ref ik])), (wn, .inl (cZ, 180, .inl (zA (zU wx l1 0))))] H locs := hz
                refine z_iinc (lv' := [(4, .int (zI (l1 + 1))), (5, .int (zI hw)), (3, .int (zI fj)), (0, .ref md), (1, .int (zI n0)), (2, .int (zI what))]) hx hb dX11_take_127 hl (k := 2) rfl (Nat.le_of_ble_eq_true rfl) rfl (fun ls hl => ?_)
                refine lv_goto (tgt := 29) hx hb dX11_take_130 (by decide) ?_
                exact ih29 _ (by omega) (l1 + 1) fj (zU wx l1 0) H locs ls rfl (by omega) (hbx.up (by decide)) (by exact Or.inr ⟨by omega, by rw [show l1 + 1 - 1 = l1 by omega]; exact hwl⟩) (okT_u hok (by omega) (by rw [← hwl]; rw [if_pos (by have := winS_or l1; omega)])) (by omega) hz (lv_sub hl [0, 2, 3, 4, 5] rfl)
              ·
                refine z_iconst hx hb dX11_take_121 ?_
                refine lv_goto (tgt := 126) hx hb dX11_take_122 (by decide) ?_
                refine z_zast hx hb hK hz 1 rfl (by omega) (by decide) (by first | decide | omega | (split <;> decide)) dX11_take_126 (fun H locs hz => ?_)
                have hz : zH D (zF ws0) H0 [(md, .inr (9, [.ref bk, .ref nw, .ref nt, .int (zI T), .ref df, .int (zI cn), .ref chk, .int (zI ln), .ref pa, .int (zI wat), .int (zI who), .int (zI rs), .int (zI act), .int (zI fse), .ref rc, .ref qu, .ref ct, .ref ft, .ref wn, .ref wy, .ref nx, .ref im, .ref ik])), (wn, .inl (cZ, 180, .inl (zA (zU wx l1 1))))] H locs := hz
                refine z_iinc (lv' := [(4, .int (zI (l1 + 1))), (5, .int (zI hw)), (3, .int (zI fj)), (0, .ref md), (1, .int (zI n0)), (2, .int (zI what))]) hx hb dX11_take_127 hl (k := 2) rfl (Nat.le_of_ble_eq_true rfl) rfl (fun ls hl => ?_)
                refine lv_goto (tgt := 29) hx hb dX11_take_130 (by decide) ?_
                exact ih29 _ (by omega) (l1 + 1) fj (zU wx l1 1) H locs ls rfl (by omega) (hbx.up (by decide)) (by exact Or.inr ⟨by omega, by rw [show l1 + 1 - 1 = l1 by omega]; exact hwl⟩) (okT_u hok (by omega) (by rw [← hwl]; rw [if_neg (by omega)])) (by omega) hz (lv_sub hl [0, 2, 3, 4, 5] rfl)
            ·
              refine lv_iload hx hb dX11_take_47 (lv_at hl 2 rfl) ?_
              refine z_if_le (tgt := 111) hx hb dX11_take_49 (by decide) (by omega) (fun h49 => ?_) (fun h49 => ?_)
              ·
                have hwl : fj = winS l1 := by rw [← okT_fst hok]; exact hfk.elim (fun q => by rw [q.2]; unfold fstT; rw [if_pos (by omega)]) (fun q => q.elim (fun q => by omega) (fun q => q.elim (fun q => by omega) (fun q => q.2.1)))
                refine lv_aload_n hx hb dX11_take_111 rfl (lv_at hl 3 rfl) ?_
                refine z_get (C := RX11) (T := TX11) (N := 23) (ref := "HornCityModel") hx hb hts hin_X11_take_X11 hown hK hz 0 rfl rfl 18 (by decide) (hts _ fl_X11_take_40) rfl rfl dX11_take_112 ?_
                refine lv_iload hx hb dX11_take_115 (lv_at hl 2 rfl) ?_
                refine lv_iload_n hx hb dX11_take_117 rfl (lv_at hl 1 rfl) ?_
                refine z_if_le (tgt := 125) hx hb dX11_take_118 (by decide) (by omega) (fun h118 => ?_) (fun h118 => ?_)
                ·
                  refine z_iconst hx hb dX11_take_125 ?_
                  refine z_zast hx hb hK hz 1 rfl (by omega) (by decide) (by first | decide | omega | (split <;> decide)) dX11_take_126 (fun H locs hz => ?_)
                  have hz : zH D (zF ws0) H0 [(md, .inr (9, [.ref bk, .ref nw, .ref nt, .int (zI T), .ref df, .int (zI cn), .ref chk, .int (zI ln), .ref pa, .int (zI wat), .int (zI who), .int (zI rs), .int (zI act), .int (zI fse), .ref rc, .ref qu, .ref ct, .ref ft, .ref wn, .ref wy, .ref nx, .ref im, .ref ik])), (wn, .inl (cZ, 180, .inl (zA (zU wx l1 0))))] H locs := hz
                  refine z_iinc (lv' := [(4, .int (zI (l1 + 1))), (5, .int (zI hw)), (3, .int (zI fj)), (0, .ref md), (1, .int (zI n0)), (2, .int (zI what))]) hx hb dX11_take_127 hl (k := 2) rfl (Nat.le_of_ble_eq_true rfl) rfl (fun ls hl => ?_)
                  refine lv_goto (tgt := 29) hx hb dX11_take_130 (by decide) ?_
                  exact ih29 _ (by omega) (l1 + 1) fj (zU wx l1 0) H locs ls rfl (by omega) (hbx.up (by decide)) (by exact Or.inr ⟨by omega, by rw [show l1 + 1 - 1 = l1 by omega]; exact hwl⟩) (okT_u hok (by omega) (by rw [← hwl]; rw [if_pos (by have := winS_or l1; omega)])) (by omega) hz (lv_sub hl [0, 2, 3, 4, 5] rfl)
                ·
                  refine z_iconst hx hb dX11_take_121 ?_
                  refine lv_goto (tgt := 126) hx hb dX11_take_122 (by decide) ?_
                  refine z_zast hx hb hK hz 1 rfl (by omega) (by decide) (by first | decide | omega | (split <;> decide)) dX11_take_126 (fun H locs hz => ?_)
                  have hz : zH D (zF ws0) H0 [(md, .inr (9, [.ref bk, .ref nw, .ref nt, .int (zI T), .ref df, .int (zI cn), .ref chk, .int (zI ln), .ref pa, .int (zI wat), .int (zI who), .int (zI rs), .int (zI act), .int (zI fse), .ref rc, .ref qu, .ref ct, .ref ft, .ref wn, .ref wy, .ref nx, .ref im, .ref ik])), (wn, .inl (cZ, 180, .inl (zA (zU wx l1 1))))] H locs := hz
                  refine z_iinc (lv' := [(4, .int (zI (l1 + 1))), (5, .int (zI hw)), (3, .int (zI fj)), (0, .ref md), (1, .int (zI n0)), (2, .int (zI what))]) hx hb dX11_take_127 hl (k := 2) rfl (Nat.le_of_ble_eq_true rfl) rfl (fun ls hl => ?_)
                  refine lv_goto (tgt := 29) hx hb dX11_take_130 (by decide) ?_
                  exact ih29 _ (by omega) (l1 + 1) fj (zU wx l1 1) H locs ls rfl (by omega) (hbx.up (by decide)) (by exact Or.inr ⟨by omega, by rw [show l1 + 1 - 1 = l1 by omega]; exact hwl⟩) (okT_u hok (by omega) (by rw [← hwl]; rw [if_neg (by omega)])) (by omega) hz (lv_sub hl [0, 2, 3, 4, 5] rfl)
              ·
                refine lv_iload hx hb dX11_take_52 (lv_at hl 0 rfl) ?_
                refine z_iconst hx hb dX11_take_54 ?_
                refine z_icmp_ne (tgt := 62) hx hb dX11_take_55 (by decide) (by omega) (by decide) (fun h55 => ?_) (fun h55 => ?_)
                ·
                  refine lv_iload hx hb dX11_take_62 (lv_at hl 2 rfl) ?_
                  refine lv_iload hx hb dX11_take_64 (lv_at hl 0 rfl) ?_
                  refine z_iconst hx hb dX11_take_66 ?_
                  refine z_iadd hx hb dX11_take_67 ?_
                  refine z_idiv hx hb dX11_take_68 (by omega) (by omega) ?_
                  obtain ⟨qv, hqv⟩ : ∃ z, z = l1 / (hw + 1) := ⟨_, rfl⟩
                  have hq1 : hw = 1 → qv = l1 / 2 := fun q => by rw [hqv, q]; rfl
                  have hq2 : hw = 2 → qv = l1 / 3 := fun q => by rw [hqv, q]; rfl
                  rw [← hqv]
                  refine lv_istore (lv' := [(6, .int (zI qv)), (5, .int (zI hw)), (3, .int (zI fj)), (4, .int (zI l1)), (0, .ref md), (1, .int (zI n0)), (2, .int (zI what))]) hx hb dX11_take_69 hl (Nat.le_of_ble_eq_true rfl) rfl (fun ls hl => ?_)
                  refine lv_iload hx hb dX11_take_71 (lv_at hl 0 rfl) ?_
                  refine z_iconst hx hb dX11_take_73 ?_
                  refine z_icmp_ge (tgt := 81) hx hb dX11_take_74 (by decide) (by omega) (by decide) (fun h74 => ?_) (fun h74 => ?_)
                  ·
                    refine lv_iload hx hb dX11_take_81 (lv_at hl 0 rfl) ?_
                    refine lv_istore (lv' := [(6, .int (zI qv)), (5, .int (zI hw)), (3, .int (zI fj)), (4, .int (zI l1)), (0, .ref md), (1, .int (zI n0)), (2, .int (zI what))]) hx hb dX11_take_83 hl (Nat.le_of_ble_eq_true rfl) rfl (fun ls hl => ?_)
                    refine lv_aload_n hx hb dX11_take_85 rfl (lv_at hl 4 rfl) ?_
                    refine z_get (C := RX11) (T := TX11) (N := 23) (ref := "HornCityModel") hx hb hts hin_X11_take_X11 hown hK hz 0 rfl rfl 18 (by decide) (hts _ fl_X11_take_40) rfl rfl dX11_take_86 ?_
                    refine lv_iload hx hb dX11_take_89 (lv_at hl 3 rfl) ?_
                    refine lv_iload hx hb dX11_take_91 (lv_at hl 0 rfl) ?_
                    refine z_isub hx hb dX11_take_93 ?_
                    refine z_zald hx hb hK hz 1 rfl (by omega) (by decide) dX11_take_94 ?_
                    have hv94 := (hbx).ax (l1 - qv) (by omega)
                    refine z_if_eq (tgt := 102) hx hb dX11_take_95 (by decide) (by omega) (fun h95 => ?_) (fun h95 => ?_)
                    ·
                      refine lv_iload hx hb dX11_take_102 (lv_at hl 0 rfl) ?_
                      refine lv_istore_n (lv' := [(3, .int (zI qv)), (6, .int (zI qv)), (5, .int (zI hw)), (4, .int (zI l1)), (0, .ref md), (1, .int (zI n0)), (2, .int (zI what))]) hx hb dX11_take_104 rfl hl (Nat.le_of_ble_eq_true rfl) rfl (fun ls hl => ?_)
                      refine z_iinc (lv' := [(5, .int (zI (hw + 1))), (3, .int (zI qv)), (6, .int (zI qv)), (4, .int (zI l1)), (0, .ref md), (1, .int (zI n0)), (2, .int (zI what))]) hx hb dX11_take_105 hl (k := 2) rfl (Nat.le_of_ble_eq_true rfl) rfl (fun ls hl => ?_)
                      refine lv_goto (tgt := 41) hx hb dX11_take_108 (by decide) ?_
                      exact ih41 _ (by omega) (hw + 1) qv H locs ls rfl (by omega) (by exact hfk.elim (fun q => Or.inr (Or.inl ⟨by omega, by unfold tkA; rw [if_pos (show wx (l1 - max 1 (l1 / 2)) = 0 from by first | omega | (rw [show max 1 (l1 / 2) = qv by omega]; omega))]; try omega, by omega⟩)) (fun q => q.elim (fun q => Or.inr (Or.inr (Or.inl ⟨by omega, by unfold tkB; rw [if_pos (show wx (l1 - max 1 (l1 / 3)) = 0 from by first | omega | (rw [show max 1 (l1 / 3) = qv by omega]; omega))]; try omega, by omega⟩))) (fun q => q.elim (fun q => Or.inr (Or.inr (Or.inr ⟨by omega, by rw [tkF (by omega), if_pos (show wx (l1 - 1) = 0 from by first | omega | (rw [show 1 = qv by omega]; omega))]; try omega, by omega⟩))) (fun q => by omega)))) (by omega) hz (lv_sub hl [0, 1, 3, 4, 5, 6] rfl)
                    ·
                      refine lv_iload_n hx hb dX11_take_98 rfl (lv_at hl 2 rfl) ?_
                      refine lv_goto (tgt := 104) hx hb dX11_take_99 (by decide) ?_
                      refine lv_istore_n (lv' := [(3, .int (zI fj)), (6, .int (zI qv)), (5, .int (zI hw)), (4, .int (zI l1)), (0, .ref md), (1, .int (zI n0)), (2, .int (zI what))]) hx hb dX11_take_104 rfl hl (Nat.le_of_ble_eq_true rfl) rfl (fun ls hl => ?_)
                      refine z_iinc (lv' := [(5, .int (zI (hw + 1))), (3, .int (zI fj)), (6, .int (zI qv)), (4, .int (zI l1)), (0, .ref md), (1, .int (zI n0)), (2, .int (zI what))]) hx hb dX11_take_105 hl (k := 2) rfl (Nat.le_of_ble_eq_true rfl) rfl (fun ls hl => ?_)
                      refine lv_goto (tgt := 41) hx hb dX11_take_108 (by decide) ?_
                      exact ih41 _ (by omega) (hw + 1) fj H locs ls rfl (by omega) (by exact hfk.elim (fun q => Or.inr (Or.inl ⟨by omega, by unfold tkA; rw [if_neg (show ¬ wx (l1 - max 1 (l1 / 2)) = 0 from by first | omega | (rw [show max 1 (l1 / 2) = qv by omega]; omega))]; exact q.2, by omega⟩)) (fun q => q.elim (fun q => Or.inr (Or.inr (Or.inl ⟨by omega, by unfold tkB; rw [if_neg (show ¬ wx (l1 - max 1 (l1 / 3)) = 0 from by first | omega | (rw [show max 1 (l1 / 3) = qv by omega]; omega))]; exact q.2.1, by omega⟩))) (fun q => q.elim (fun q => Or.inr (Or.inr (Or.inr ⟨by omega, by rw [tkF (by omega), if_neg (show ¬ wx (l1 - 1) = 0 from by first | omega | (rw [show 1 = qv by omega]; omega))]; exact q.2.1, by omega⟩))) (fun q => by omega)))) (by omega) hz (lv_sub hl [0, 1, 3, 4, 5, 6] rfl)
                  ·
                    refine z_iconst hx hb dX11_take_77 ?_
                    refine lv_goto (tgt := 83) hx hb dX11_take_78 (by decide) ?_
                    refine lv_istore (lv' := [(6, .int (zI 1)), (5, .int (zI hw)), (3, .int (zI fj)), (4, .int (zI l1)), (0, .ref md), (1, .int (zI n0)), (2, .int (zI what))]) hx hb dX11_take_83 hl (Nat.le_of_ble_eq_true rfl) rfl (fun ls hl => ?_)
                    refine lv_aload_n hx hb dX11_take_85 rfl (lv_at hl 4 rfl) ?_
                    refine z_get (C := RX11) (T := TX11) (N := 23) (ref := "HornCityModel") hx hb hts hin_X11_take_X11 hown hK hz 0 rfl rfl 18 (by decide) (hts _ fl_X11_take_40) rfl rfl dX11_take_86 ?_
                    refine lv_iload hx hb dX11_take_89 (lv_at hl 3 rfl) ?_
                    refine lv_iload hx hb dX11_take_91 (lv_at hl 0 rfl) ?_
                    refine z_isub hx hb dX11_take_93 ?_
                    refine z_zald hx hb hK hz 1 rfl (by omega) (by decide) dX11_take_94 ?_
                    have hv94 := (hbx).ax (l1 - 1) (by omega)
                    refine z_if_eq (tgt := 102) hx hb dX11_take_95 (by decide) (by omega) (fun h95 => ?_) (fun h95 => ?_)
                    ·
                      refine lv_iload hx hb dX11_take_102 (lv_at hl 0 rfl) ?_
                      refine lv_istore_n (lv' := [(3, .int (zI 1)), (6, .int (zI 1)), (5, .int (zI hw)), (4, .int (zI l1)), (0, .ref md), (1, .int (zI n0)), (2, .int (zI what))]) hx hb dX11_take_104 rfl hl (Nat.le_of_ble_eq_true rfl) rfl (fun ls hl => ?_)
                      refine z_iinc (lv' := [(5, .int (zI (hw + 1))), (3, .int (zI 1)), (6, .int (zI 1)), (4, .int (zI l1)), (0, .ref md), (1, .int (zI n0)), (2, .int (zI what))]) hx hb dX11_take_105 hl (k := 2) rfl (Nat.le_of_ble_eq_true rfl) rfl (fun ls hl => ?_)
                      refine lv_goto (tgt := 41) hx hb dX11_take_108 (by decide) ?_
                      exact ih41 _ (by omega) (hw + 1) 1 H locs ls rfl (by omega) (by exact hfk.elim (fun q => Or.inr (Or.inl ⟨by omega, by unfold tkA; rw [if_pos (show wx (l1 - max 1 (l1 / 2)) = 0 from by first | omega | (rw [show max 1 (l1 / 2) = 1 by omega]; omega))]; try omega, by omega⟩)) (fun q => q.elim (fun q => Or.inr (Or.inr (Or.inl ⟨by omega, by unfold tkB; rw [if_pos (show wx (l1 - max 1 (l1 / 3)) = 0 from by first | omega | (rw [show max 1 (l1 / 3) = 1 by omega]; omega))]; try omega, by omega⟩))) (fun q => q.elim (fun q => Or.inr (Or.inr (Or.inr ⟨by omega, by rw [tkF (by omega), if_pos (show wx (l1 - 1) = 0 from by first | omega | (rw [show 1 = 1 by omega]; omega))]; try omega, by omega⟩))) (fun q => by omega)))) (by omega) hz (lv_sub hl [0, 1, 3, 4, 5, 6] rfl)
                    ·
                      refine lv_iload_n hx hb dX11_take_98 rfl (lv_at hl 2 rfl) ?_
                      refine lv_goto (tgt := 104) hx hb dX11_take_99 (by decide) ?_
                      refine lv_istore_n (lv' := [(3, .int (zI fj)), (6, .int (zI 1)), (5, .int (zI hw)), (4, .int (zI l1)), (0, .ref md), (1, .int (zI n0)), (2, .int (zI what))]) hx hb dX11_take_104 rfl hl (Nat.le_of_ble_eq_true rfl) rfl (fun ls hl => ?_)
                      refine z_iinc (lv' := [(5, .int (zI (hw + 1))), (3, .int (zI fj)), (6, .int (zI 1)), (4, .int (zI l1)), (0, .ref md), (1, .int (zI n0)), (2, .int (zI what))]) hx hb dX11_take_105 hl (k := 2) rfl (Nat.le_of_ble_eq_true rfl) rfl (fun ls hl => ?_)
                      refine lv_goto (tgt := 41) hx hb dX11_take_108 (by decide) ?_
                      exact ih41 _ (by omega) (hw + 1) fj H locs ls rfl (by omega) (by exact hfk.elim (fun q => Or.inr (Or.inl ⟨by omega, by unfold tkA; rw [if_neg (show ¬ wx (l1 - max 1 (l1 / 2)) = 0 from by first | omega | (rw [show max 1 (l1 / 2) = 1 by omega]; omega))]; exact q.2, by omega⟩)) (fun q => q.elim (fun q => Or.inr (Or.inr (Or.inl ⟨by omega, by unfold tkB; rw [if_neg (show ¬ wx (l1 - max 1 (l1 / 3)) = 0 from by first | omega | (rw [show max 1 (l1 / 3) = 1 by omega]; omega))]; exact q.2.1, by omega⟩))) (fun q => q.elim (fun q => Or.inr (Or.inr (Or.inr ⟨by omega, by rw [tkF (by omega), if_neg (show ¬ wx (l1 - 1) = 0 from by first | omega | (rw [show 1 = 1 by omega]; omega))]; exact q.2.1, by omega⟩))) (fun q => by omega)))) (by omega) hz (lv_sub hl [0, 1, 3, 4, 5, 6] rfl)
                ·
                  refine z_iconst hx hb dX11_take_58 ?_
                  refine lv_goto (tgt := 69) hx hb dX11_take_59 (by decide) ?_
                  refine lv_istore (lv' := [(6, .int (zI 1)), (5, .int (zI hw)), (3, .int (zI fj)), (4, .int (zI l1)), (0, .ref md), (1, .int (zI n0)), (2, .int (zI what))]) hx hb dX11_take_69 hl (Nat.le_of_ble_eq_true rfl) rfl (fun ls hl => ?_)
                  refine lv_iload hx hb dX11_take_71 (lv_at hl 0 rfl) ?_
                  refine z_iconst hx hb dX11_take_73 ?_
                  refine z_icmp_ge (tgt := 81) hx hb dX11_take_74 (by decide) (by decide) (by decide) (fun h74 => ?_) (fun h74 => ?_)
                  ·
                    refine lv_iload hx hb dX11_take_81 (lv_at hl 0 rfl) ?_
                    refine lv_istore (lv' := [(6, .int (zI 1)), (5, .int (zI hw)), (3, .int (zI fj)), (4, .int (zI l1)), (0, .ref md), (1, .int (zI n0)), (2, .int (zI what))]) hx hb dX11_take_83 hl (Nat.le_of_ble_eq_true rfl) rfl (fun ls hl => ?_)
                    refine lv_aload_n hx hb dX11_take_85 rfl (lv_at hl 4 rfl) ?_
                    refine z_get (C := RX11) (T := TX11) (N := 23) (ref := "HornCityModel") hx hb hts hin_X11_take_X11 hown hK hz 0 rfl rfl 18 (by decide) (hts _ fl_X11_take_40) rfl rfl dX11_take_86 ?_
                    refine lv_iload hx hb dX11_take_89 (lv_at hl 3 rfl) ?_
                    refine lv_iload hx hb dX11_take_91 (lv_at hl 0 rfl) ?_
                    refine z_isub hx hb dX11_take_93 ?_
                    refine z_zald hx hb hK hz 1 rfl (by omega) (by decide) dX11_take_94 ?_
                    have hv94 := (hbx).ax (l1 - 1) (by omega)
                    refine z_if_eq (tgt := 102) hx hb dX11_take_95 (by decide) (by omega) (fun h95 => ?_) (fun h95 => ?_)
                    ·
                      refine lv_iload hx hb dX11_take_102 (lv_at hl 0 rfl) ?_
                      refine lv_istore_n (lv' := [(3, .int (zI 1)), (6, .int (zI 1)), (5, .int (zI hw)), (4, .int (zI l1)), (0, .ref md), (1, .int (zI n0)), (2, .int (zI what))]) hx hb dX11_take_104 rfl hl (Nat.le_of_ble_eq_true rfl) rfl (fun ls hl => ?_)
                      refine z_iinc (lv' := [(5, .int (zI (hw + 1))), (3, .int (zI 1)), (6, .int (zI 1)), (4, .int (zI l1)), (0, .ref md), (1, .int (zI n0)), (2, .int (zI what))]) hx hb dX11_take_105 hl (k := 2) rfl (Nat.le_of_ble_eq_true rfl) rfl (fun ls hl => ?_)
                      refine lv_goto (tgt := 41) hx hb dX11_take_108 (by decide) ?_
                      exact ih41 _ (by omega) (hw + 1) 1 H locs ls rfl (by omega) (by exact hfk.elim (fun q => Or.inr (Or.inl ⟨by omega, by unfold tkA; rw [if_pos (show wx (l1 - max 1 (l1 / 2)) = 0 from by first | omega | (rw [show max 1 (l1 / 2) = 1 by omega]; omega))]; try omega, by omega⟩)) (fun q => q.elim (fun q => Or.inr (Or.inr (Or.inl ⟨by omega, by unfold tkB; rw [if_pos (show wx (l1 - max 1 (l1 / 3)) = 0 from by first | omega | (rw [show max 1 (l1 / 3) = 1 by omega]; omega))]; try omega, by omega⟩))) (fun q => q.elim (fun q => Or.inr (Or.inr (Or.inr ⟨by omega, by rw [tkF (by omega), if_pos (show wx (l1 - 1) = 0 from by first | omega | (rw [show 1 = 1 by omega]; omega))]; try omega, by omega⟩))) (fun q => by omega)))) (by omega) hz (lv_sub hl [0, 1, 3, 4, 5, 6] rfl)
                    ·
                      refine lv_iload_n hx hb dX11_take_98 rfl (lv_at hl 2 rfl) ?_
                      refine lv_goto (tgt := 104) hx hb dX11_take_99 (by decide) ?_
                      refine lv_istore_n (lv' := [(3, .int (zI fj)), (6, .int (zI 1)), (5, .int (zI hw)), (4, .int (zI l1)), (0, .ref md), (1, .int (zI n0)), (2, .int (zI what))]) hx hb dX11_take_104 rfl hl (Nat.le_of_ble_eq_true rfl) rfl (fun ls hl => ?_)
                      refine z_iinc (lv' := [(5, .int (zI (hw + 1))), (3, .int (zI fj)), (6, .int (zI 1)), (4, .int (zI l1)), (0, .ref md), (1, .int (zI n0)), (2, .int (zI what))]) hx hb dX11_take_105 hl (k := 2) rfl (Nat.le_of_ble_eq_true rfl) rfl (fun ls hl => ?_)
                      refine lv_goto (tgt := 41) hx hb dX11_take_108 (by decide) ?_
                      exact ih41 _ (by omega) (hw + 1) fj H locs ls rfl (by omega) (by exact hfk.elim (fun q => Or.inr (Or.inl ⟨by omega, by unfold tkA; rw [if_neg (show ¬ wx (l1 - max 1 (l1 / 2)) = 0 from by first | omega | (rw [show max 1 (l1 / 2) = 1 by omega]; omega))]; exact q.2, by omega⟩)) (fun q => q.elim (fun q => Or.inr (Or.inr (Or.inl ⟨by omega, by unfold tkB; rw [if_neg (show ¬ wx (l1 - max 1 (l1 / 3)) = 0 from by first | omega | (rw [show max 1 (l1 / 3) = 1 by omega]; omega))]; exact q.2.1, by omega⟩))) (fun q => q.elim (fun q => Or.inr (Or.inr (Or.inr ⟨by omega, by rw [tkF (by omega), if_neg (show ¬ wx (l1 - 1) = 0 from by first | omega | (rw [show 1 = 1 by omega]; omega))]; exact q.2.1, by omega⟩))) (fun q => by omega)))) (by omega) hz (lv_sub hl [0, 1, 3, 4, 5, 6] rfl)
                  ·
                    exfalso
                    first | omega | (revert h74; simp_all; done) | simp_all
          exact L41 _ 1 (-6) H locs ls rfl (by decide) (Or.inl ⟨rfl, rfl⟩) (by decide) hz (lv_sub hl [0, 1, 2, 3, 4, 5] rfl)
      exact L29 _ 0 (-6) wnf H0 [] ls rfl (by omega) (hbw) (Or.inl ⟨rfl, rfl⟩) (fun j h1 h2 => absurd h1 (by omega)) (by decide) hz (lv_sub hl [0, 1, 2, 3, 4] rfl)
    ·
      refine z_bipush hx hb dX11_take_20 (by decide) ?_
      exact hret (((-2) : Int), (wnf : Int → Int)) dX11_take_22 (show (-2) = taR n0 what ∧ (zBd wnf 180 0 1) from ⟨by unfold taR; rw [if_neg (by omega)], hbw⟩) hz

set_option maxRecDepth 20000 in
theorem hin_X11_told_X11 : ∀ w ∈ u_ws RX11 TX11 23, w ∈ wsX11_told := by decide +kernel
set_option maxRecDepth 20000 in
theorem fl_X11_told_87 : Cond.fieldLink RX11 87 "HornCityModel" "signs" "I" ∈ wsX11_told := by decide +kernel
set_option maxRecDepth 20000 in
theorem fl_X11_told_65 : Cond.fieldLink RX11 65 "HornCityModel" "there" "I" ∈ wsX11_told := by decide +kernel
set_option maxRecDepth 20000 in
theorem fl_X11_told_7 : Cond.fieldLink RX11 7 "HornCityModel" "book" "[I" ∈ wsX11_told := by decide +kernel
set_option maxRecDepth 20000 in
theorem fl_X11_told_142 : Cond.fieldLink RX11 142 "HornCityModel" "chalks" "I" ∈ wsX11_told := by decide +kernel
set_option maxRecDepth 20000 in
theorem fl_X11_told_19 : Cond.fieldLink RX11 19 "HornCityModel" "drifts" "[I" ∈ wsX11_told := by decide +kernel
set_option maxHeartbeats 4000000 in
set_option maxRecDepth 100000 in
theorem c_X11_told (l : Launch) (D : va_G) (cI cJ cZ : ClassId) (md bk nw nt df chk pa rc qu ct ft wn wy nx im ik : Nat) (inc mat kd dri nwf : Int → Int) (T cn ln wat who rs act fse tm yr what : Int) (hr : (-2147483648 ≤ what ∧ what ≤ 2147483647)) (hT : 0 ≤ T ∧ T < 512) (hmo : mOk T mat) : zMw l yX11_told wsX11_told (zRm 3) D cI cJ cZ [.ref md, .int (zI what)] [(md, .inr (9, [.ref bk, .ref nw, .ref nt, .int (zI T), .ref df, .int (zI cn), .ref chk, .int (zI ln), .ref pa, .int (zI wat), .int (zI who), .int (zI rs), .int (zI act), .int (zI fse), .ref rc, .ref qu, .ref ct, .ref ft, .ref wn, .ref wy, .ref nx, .ref im, .ref ik])), (bk, .inl (cI, 29, .inl (zA (nwS inc mat kd tm yr)))), (df, .inl (cI, 9, .inl (zA dri))), (nw, .inl (cI, 29, .inl (zA nwf)))] (S := Int × (Int → Int) × Int × Int) (fun u => u.1 = toR ln T tm yr cn inc dri mat what) (fun u => some (.int (zI u.1))) (fun u => [(md, .inr (9, [.ref bk, .ref nw, .ref nt, .int (zI T), .ref df, .int (zI cn), .ref chk, .int (zI ln), .ref pa, .int (zI u.2.2.1), .int (zI u.2.2.2), .int (zI rs), .int (zI act), .int (zI fse), .ref rc, .ref qu, .ref ct, .ref ft, .ref wn, .ref wy, .ref nx, .ref im, .ref ik])), (bk, .inl (cI, 29, .inl (zA (nwS inc mat kd tm yr)))), (df, .inl (cI, 9, .inl (zA dri))), (nw, .inl (cI, 29, .inl (zA u.2.1)))]) := by
  refine zMw_i (cc := cX11_told) (maxL := 4) (by decide +kernel) rfl (Nat.le_of_ble_eq_true rfl) rfl (fun _ => rfl) ?_
  intro p e s m args below meth c Q H0 ls F hK hz hl hret
  obtain ⟨hx, hb, hml, hown0, hts⟩ := id F
  have hown : s.vm.findClass RX11 = some m.cls := hown0
  obtain ⟨ws0, hw0⟩ : ∃ w : va_W, w = [(md, .inr (9, [.ref bk, .ref nw, .ref nt, .int (zI T), .ref df, .int (zI cn), .ref chk, .int (zI ln), .ref pa, .int (zI wat), .int (zI who), .int (zI rs), .int (zI act), .int (zI fse), .ref rc, .ref qu, .ref ct, .ref ft, .ref wn, .ref wy, .ref nx, .ref im, .ref ik])), (bk, .inl (cI, 29, .inl (zA (nwS inc mat kd tm yr)))), (df, .inl (cI, 9, .inl (zA dri))), (nw, .inl (cI, 29, .inl (zA nwf)))] := ⟨_, rfl⟩
  rw [← hw0] at hret
  have hz : zH D (zF ws0) H0 [(md, .inr (9, [.ref bk, .ref nw, .ref nt, .int (zI T), .ref df, .int (zI cn), .ref chk, .int (zI ln), .ref pa, .int (zI wat), .int (zI who), .int (zI rs), .int (zI act), .int (zI fse), .ref rc, .ref qu, .ref ct, .ref ft, .ref wn, .ref wy, .ref nx, .ref im, .ref ik])), (bk, .inl (cI, 29, .inl (zA (nwS inc mat kd tm yr)))), (df, .inl (cI, 9, .inl (zA dri))), (nw, .inl (cI, 29, .inl (zA nwf)))] H0 [] := by rw [hw0]; exact hz
  have hl : lv_has ls 4 [(0, .ref md), (1, .int (zI what))] := hl
  refine lv_iload_n hx hb dX11_told_0 rfl (lv_at hl 1 rfl) ?_
  refine z_bipush hx hb dX11_told_1 (by decide) ?_
  refine z_icmp_lt (tgt := 74) hx hb dX11_told_3 (by decide) (by omega) (by decide) (fun h3 => ?_) (fun h3 => ?_)
  ·
    refine lv_aload_n hx hb dX11_told_74 rfl (lv_at hl 0 rfl) ?_
    refine z_callVwv (As := []) (rest := []) (C := RX11) (T := TX11) (N := 23) F hK hz hl (c_X11_asNow l D cI cJ cZ md bk nw nt df chk pa rc qu ct ft wn wy nx im ik inc mat kd nwf T cn ln wat who rs act fse tm yr ) (cwV 0 hts gX11_told_X11_asNow rfl rfl rfl (by decide +kernel) ⟨Nat.le_of_ble_eq_true rfl, Nat.le_of_ble_eq_true rfl⟩) rfl 0 rfl [0, 1, 3] rfl rfl (by decide +kernel) rfl rfl (Nat.le_of_ble_eq_true rfl) ⟨Nat.le_of_ble_eq_true rfl, Nat.le_of_ble_eq_true rfl⟩ dX11_told_75 (fun u H locs hu hz => ?_)
    obtain ⟨inc1_1, mat1_2, kd1_3, tm1_4, yr1_5, wa1_6, wo1_7⟩ := u
    have hu : inc1_1 = inc ∧ mat1_2 = mat ∧ kd1_3 = (fun _ => -6) ∧ tm1_4 = tm ∧ yr1_5 = yr ∧ wa1_6 = -6 ∧ wo1_7 = -6 := hu
    obtain ⟨g75_0, g75_1, g75_2, g75_3, g75_4, g75_5, g75_6⟩ := hu
    have g75_0 := g75_0.symm
    subst g75_0
    have g75_1 := g75_1.symm
    subst g75_1
    have g75_2 := g75_2.symm
    subst g75_2
    have g75_3 := g75_3.symm
    subst g75_3
    have g75_4 := g75_4.symm
    subst g75_4
    have g75_5 := g75_5.symm
    subst g75_5
    have g75_6 := g75_6.symm
    subst g75_6
    have hz : zH D (zF ws0) H0 [(md, .inr (9, [.ref bk, .ref nw, .ref nt, .int (zI T), .ref df, .int (zI cn), .ref chk, .int (zI ln), .ref pa, .int (zI (-6)), .int (zI (-6)), .int (zI rs), .int (zI act), .int (zI fse), .ref rc, .ref qu, .ref ct, .ref ft, .ref wn, .ref wy, .ref nx, .ref im, .ref ik])), (bk, .inl (cI, 29, .inl (zA (nwS inc mat kd tm yr)))), (df, .inl (cI, 9, .inl (zA dri))), (nw, .inl (cI, 29, .inl (zA (nwS inc mat (fun _ => -6) tm yr))))] H locs := hz
    have hd3 := ztd what 10
    have hpe := pa2_eq hmo
    refine lv_iload_n hx hb dX11_told_78 rfl (lv_at hl 1 rfl) ?_
    by_cases h79 : what = 0
    ·
      refine z_tabIn (k := 0) (off := 33) (tgt := 112) hx hb dX11_told_79 (by omega) (by decide) (by decide) (by decide +kernel) (by decide) ?_
      refine lv_aload_n hx hb dX11_told_112 rfl (lv_at hl 0 rfl) ?_
      refine z_get (C := RX11) (T := TX11) (N := 23) (ref := "HornCityModel") hx hb hts hin_X11_told_X11 hown hK hz 0 rfl rfl 7 (by decide) (hts _ fl_X11_told_87) rfl rfl dX11_told_113 ?_
      exact hret ((ln : Int), (nwS inc mat (fun _ => -6) tm yr : Int → Int), ((-6) : Int), ((-6) : Int)) dX11_told_116 (show ln = toR ln T tm yr cn inc dri mat what from (by unfold toR; rw [if_pos (by omega)])) hz
    ·
      by_cases h79q : what = 1
      ·
        refine z_tabIn (k := 1) (off := 38) (tgt := 117) hx hb dX11_told_79 (by omega) (by decide) (by decide) (by decide +kernel) (by decide) ?_
        refine lv_aload_n hx hb dX11_told_117 rfl (lv_at hl 0 rfl) ?_
        refine z_get (C := RX11) (T := TX11) (N := 23) (ref := "HornCityModel") hx hb hts hin_X11_told_X11 hown hK hz 0 rfl rfl 3 (by decide) (hts _ fl_X11_told_65) rfl rfl dX11_told_118 ?_
        exact hret ((T : Int), (nwS inc mat (fun _ => -6) tm yr : Int → Int), ((-6) : Int), ((-6) : Int)) dX11_told_121 (show T = toR ln T tm yr cn inc dri mat what from (by unfold toR; rw [if_neg (by omega), if_pos (by omega)])) hz
      ·
        by_cases h79qq : what = 2
        ·
          refine z_tabIn (k := 2) (off := 43) (tgt := 122) hx hb dX11_told_79 (by omega) (by decide) (by decide) (by decide +kernel) (by decide) ?_
          refine lv_aload_n hx hb dX11_told_122 rfl (lv_at hl 0 rfl) ?_
          refine z_get (C := RX11) (T := TX11) (N := 23) (ref := "HornCityModel") hx hb hts hin_X11_told_X11 hown hK hz 0 rfl rfl 0 (by decide) (hts _ fl_X11_told_7) rfl rfl dX11_told_123 ?_
          refine z_bipush hx hb dX11_told_126 (by decide) ?_
          refine lv_iload_n hx hb dX11_told_128 rfl (lv_at hl 1 rfl) ?_
          refine z_iadd hx hb dX11_told_129 ?_
          have hnw : nwS inc mat kd tm yr (25 + what) = (if what = 2 then tm else yr) := by rcases (by omega : what = 2 ∨ what = 3) with q | q <;> (rw [q]; rfl)
          refine z_iald hx hb hK hz 1 rfl (by omega) (by decide) dX11_told_130 ?_
          exact hret ((((nwS inc mat kd tm yr) (25 + what)) : Int), (nwS inc mat (fun _ => -6) tm yr : Int → Int), ((-6) : Int), ((-6) : Int)) dX11_told_131 (show ((nwS inc mat kd tm yr) (25 + what)) = toR ln T tm yr cn inc dri mat what from (by rw [hnw, if_pos (by omega)]; unfold toR; rw [if_neg (by omega), if_neg (by omega), if_pos (by omega)])) hz
        ·
          by_cases h79qqq : what = 3
          ·
            refine z_tabIn (k := 3) (off := 43) (tgt := 122) hx hb dX11_told_79 (by omega) (by decide) (by decide) (by decide +kernel) (by decide) ?_
            refine lv_aload_n hx hb dX11_told_122 rfl (lv_at hl 0 rfl) ?_
            refine z_get (C := RX11) (T := TX11) (N := 23) (ref := "HornCityModel") hx hb hts hin_X11_told_X11 hown hK hz 0 rfl rfl 0 (by decide) (hts _ fl_X11_told_7) rfl rfl dX11_told_123 ?_
            refine z_bipush hx hb dX11_told_126 (by decide) ?_
            refine lv_iload_n hx hb dX11_told_128 rfl (lv_at hl 1 rfl) ?_
            refine z_iadd hx hb dX11_told_129 ?_
            have hnw : nwS inc mat kd tm yr (25 + what) = (if what = 2 then tm else yr) := by rcases (by omega : what = 2 ∨ what = 3) with q | q <;> (rw [q]; rfl)
            refine z_iald hx hb hK hz 1 rfl (by omega) (by decide) dX11_told_130 ?_
            exact hret ((((nwS inc mat kd tm yr) (25 + what)) : Int), (nwS inc mat (fun _ => -6) tm yr : Int → Int), ((-6) : Int), ((-6) : Int)) dX11_told_131 (show ((nwS inc mat kd tm yr) (25 + what)) = toR ln T tm yr cn inc dri mat what from (by rw [hnw, if_neg (by omega)]; unfold toR; rw [if_neg (by omega), if_neg (by omega), if_neg (by omega), if_pos (by omega)])) hz
          ·
            by_cases h79qqqq : what = 4
            ·
              refine z_tabIn (k := 4) (off := 53) (tgt := 132) hx hb dX11_told_79 (by omega) (by decide) (by decide) (by decide +kernel) (by decide) ?_
              refine lv_aload_n hx hb dX11_told_132 rfl (lv_at hl 0 rfl) ?_
              refine z_get (C := RX11) (T := TX11) (N := 23) (ref := "HornCityModel") hx hb hts hin_X11_told_X11 hown hK hz 0 rfl rfl 5 (by decide) (hts _ fl_X11_told_142) rfl rfl dX11_told_133 ?_
              exact hret ((cn : Int), (nwS inc mat (fun _ => -6) tm yr : Int → Int), ((-6) : Int), ((-6) : Int)) dX11_told_136 (show cn = toR ln T tm yr cn inc dri mat what from (by unfold toR; rw [if_neg (by omega), if_neg (by omega), if_neg (by omega), if_neg (by omega), if_pos (by omega)])) hz
            ·
              refine z_tabOut (tgt := 137) hx hb dX11_told_79 (by omega) (by omega) (by decide) ?_
              refine lv_iload_n hx hb dX11_told_137 rfl (lv_at hl 1 rfl) ?_
              refine z_iconst hx hb dX11_told_138 ?_
              refine z_icmp_ne (tgt := 149) hx hb dX11_told_139 (by decide) (by omega) (by decide) (fun h139 => ?_) (fun h139 => ?_)
              ·
                refine z_bipush hx hb dX11_told_149 (by decide) ?_
                exact hret (((-2) : Int), (nwS inc mat (fun _ => -6) tm yr : Int → Int), ((-6) : Int), ((-6) : Int)) dX11_told_151 (show (-2) = toR ln T tm yr cn inc dri mat what from (by unfold toR; rw [if_neg (by omega), if_neg (by omega), if_neg (by omega), if_neg (by omega), if_neg (by omega)]; rw [if_neg (by omega), t1R_neg (by omega)])) hz
              ·
                refine lv_aload_n hx hb dX11_told_142 rfl (lv_at hl 0 rfl) ?_
                refine z_callVp (As := []) (rest := []) (C := RX11) (T := TX11) (N := 23) F hK hz hl (c_X11_pairsOf l D cI cJ cZ md bk nw nt df chk pa rc qu ct ft wn wy nx im ik inc mat (fun _ => -6) T cn ln (-6) (-6) rs act fse tm yr (by first | assumption | omega) (mOk_bd hmo)) (cwV 0 hts gX11_told_X11_pairsOf rfl rfl rfl (by decide +kernel) ⟨Nat.le_of_ble_eq_true rfl, Nat.le_of_ble_eq_true rfl⟩) rfl 0 rfl [0, 3] rfl rfl rfl rfl (Nat.le_of_ble_eq_true rfl) ⟨Nat.le_of_ble_eq_true rfl, Nat.le_of_ble_eq_true rfl⟩ dX11_told_143 ?_
                refine lv_goto (tgt := 151) hx hb dX11_told_146 (by decide) ?_
                exact hret (((pa2S T mat) : Int), (nwS inc mat (fun _ => -6) tm yr : Int → Int), ((-6) : Int), ((-6) : Int)) dX11_told_151 (show (pa2S T mat) = toR ln T tm yr cn inc dri mat what from (by unfold toR; rw [if_neg (by omega), if_neg (by omega), if_neg (by omega), if_neg (by omega), if_neg (by omega)]; rw [if_pos (by omega)]; exact hpe)) hz
  ·
    have hd1 := (ztd what 10).1 (by omega)
    have hd2 := (ztm what 10).1 (by omega)
    refine lv_iload_n hx hb dX11_told_6 rfl (lv_at hl 1 rfl) ?_
    refine z_bipush hx hb dX11_told_7 (by decide) ?_
    refine z_idiv hx hb dX11_told_9 (by omega) (by omega) ?_
    refine z_iconst hx hb dX11_told_10 ?_
    refine z_isub hx hb dX11_told_11 ?_
    refine lv_istore_n (lv' := [(2, .int (zI ((what / 10) - 1))), (0, .ref md), (1, .int (zI what))]) hx hb dX11_told_12 rfl hl (Nat.le_of_ble_eq_true rfl) rfl (fun ls hl => ?_)
    refine lv_iload_n hx hb dX11_told_13 rfl (lv_at hl 2 rfl) ?_
    refine z_bipush hx hb dX11_told_14 (by decide) ?_
    refine z_irem hx hb dX11_told_16 (by omega) (by omega) ?_
    refine lv_istore_n (lv' := [(3, .int (zI (what % 10))), (2, .int (zI ((what / 10) - 1))), (0, .ref md), (1, .int (zI what))]) hx hb dX11_told_17 rfl hl (Nat.le_of_ble_eq_true rfl) rfl (fun ls hl => ?_)
    refine lv_aload_n hx hb dX11_told_18 rfl (lv_at hl 2 rfl) ?_
    refine lv_iload_n hx hb dX11_told_19 rfl (lv_at hl 1 rfl) ?_
    refine z_callVp (As := [.int (zI ((what / 10) - 1))]) (rest := []) (C := RX11) (T := TX11) (N := 23) F hK hz hl (c_X11_isThere l D cI cJ cZ md bk nw nt df chk pa rc qu ct ft wn wy nx im ik T cn ln wat who rs act fse ((what / 10) - 1) (by omega) (by first | assumption | omega)) (cwV 1 hts gX11_told_X11_isThere rfl rfl rfl (by decide +kernel) ⟨Nat.le_of_ble_eq_true rfl, Nat.le_of_ble_eq_true rfl⟩) rfl 0 rfl [0] rfl rfl rfl rfl (Nat.le_of_ble_eq_true rfl) ⟨Nat.le_of_ble_eq_true rfl, Nat.le_of_ble_eq_true rfl⟩ dX11_told_20 ?_
    refine z_ifb_eq (tgt := 31) hx hb dX11_told_23 (by decide) (fun h23 => ?_) (fun h23 => ?_)
    ·
      refine z_bipush hx hb dX11_told_31 (by decide) ?_
      exact hret (((-2) : Int), (nwf : Int → Int), (wat : Int), (who : Int)) dX11_told_33 (show (-2) = toR ln T tm yr cn inc dri mat what from (by unfold toR; rw [if_neg (by omega), if_neg (by omega), if_neg (by omega), if_neg (by omega), if_neg (by omega), if_neg (by omega), hd1, hd2]; unfold t1R; first | rw [if_neg h23] | rw [if_pos h23, if_neg (by omega), if_neg (by omega), if_neg (by omega)])) hz
    ·
      refine lv_iload_n hx hb dX11_told_26 rfl (lv_at hl 0 rfl) ?_
      refine z_iconst hx hb dX11_told_27 ?_
      refine z_icmp_le (tgt := 34) hx hb dX11_told_28 (by decide) (by omega) (by decide) (fun h28 => ?_) (fun h28 => ?_)
      ·
        have hk34 := inS.rng h23
        refine lv_iload_n hx hb dX11_told_34 rfl (lv_at hl 0 rfl) ?_
        refine z_if_ne (tgt := 47) hx hb dX11_told_35 (by decide) (by omega) (fun h35 => ?_) (fun h35 => ?_)
        ·
          refine lv_iload_n hx hb dX11_told_47 rfl (lv_at hl 0 rfl) ?_
          refine z_iconst hx hb dX11_told_48 ?_
          refine z_icmp_ne (tgt := 64) hx hb dX11_told_49 (by decide) (by omega) (by decide) (fun h49 => ?_) (fun h49 => ?_)
          ·
            refine lv_aload_n hx hb dX11_told_64 rfl (lv_at hl 2 rfl) ?_
            refine z_get (C := RX11) (T := TX11) (N := 23) (ref := "HornCityModel") hx hb hts hin_X11_told_X11 hown hK hz 0 rfl rfl 0 (by decide) (hts _ fl_X11_told_7) rfl rfl dX11_told_65 ?_
            refine z_bipush hx hb dX11_told_68 (by decide) ?_
            refine lv_iload_n hx hb dX11_told_70 rfl (lv_at hl 1 rfl) ?_
            refine z_iadd hx hb dX11_told_71 ?_
            refine z_iald hx hb hK hz 1 rfl (by omega) (by decide) dX11_told_72 ?_
            rw [nwS_m (k := ((what / 10) - 1)) (by omega)]
            have hv72 := (mOk_bd hmo).ax ((what / 10) - 1) (by omega)
            exact hret (((mat ((what / 10) - 1)) : Int), (nwf : Int → Int), (wat : Int), (who : Int)) dX11_told_73 (show (mat ((what / 10) - 1)) = toR ln T tm yr cn inc dri mat what from (by unfold toR; rw [if_neg (by omega), if_neg (by omega), if_neg (by omega), if_neg (by omega), if_neg (by omega), if_neg (by omega), hd1, hd2]; unfold t1R inO maO; rw [if_pos h23]; first | rw [if_pos (by omega), if_pos h23] | rw [if_neg (by omega), if_pos (by omega), if_pos h23] | rw [if_neg (by omega), if_neg (by omega), if_pos (by omega), if_pos h23])) hz
          ·
            refine lv_aload_n hx hb dX11_told_52 rfl (lv_at hl 2 rfl) ?_
            refine z_get (C := RX11) (T := TX11) (N := 23) (ref := "HornCityModel") hx hb hts hin_X11_told_X11 hown hK hz 0 rfl rfl 4 (by decide) (hts _ fl_X11_told_19) rfl rfl dX11_told_53 ?_
            refine lv_iload_n hx hb dX11_told_56 rfl (lv_at hl 1 rfl) ?_
            refine z_iald hx hb hK hz 2 rfl (by omega) (by decide) dX11_told_57 ?_
            refine z_bipush hx hb dX11_told_58 (by decide) ?_
            refine z_iadd hx hb dX11_told_60 ?_
            refine lv_goto (tgt := 73) hx hb dX11_told_61 (by decide) ?_
            exact hret ((((dri ((what / 10) - 1)) + 9) : Int), (nwf : Int → Int), (wat : Int), (who : Int)) dX11_told_73 (show ((dri ((what / 10) - 1)) + 9) = toR ln T tm yr cn inc dri mat what from (by unfold toR; rw [if_neg (by omega), if_neg (by omega), if_neg (by omega), if_neg (by omega), if_neg (by omega), if_neg (by omega), hd1, hd2]; unfold t1R inO maO; rw [if_pos h23]; first | rw [if_pos (by omega), if_pos h23] | rw [if_neg (by omega), if_pos (by omega), if_pos h23] | rw [if_neg (by omega), if_neg (by omega), if_pos (by omega), if_pos h23])) hz
        ·
          refine lv_aload_n hx hb dX11_told_38 rfl (lv_at hl 2 rfl) ?_
          refine z_get (C := RX11) (T := TX11) (N := 23) (ref := "HornCityModel") hx hb hts hin_X11_told_X11 hown hK hz 0 rfl rfl 0 (by decide) (hts _ fl_X11_told_7) rfl rfl dX11_told_39 ?_
          refine lv_iload_n hx hb dX11_told_42 rfl (lv_at hl 1 rfl) ?_
          refine z_iald hx hb hK hz 1 rfl (by omega) (by decide) dX11_told_43 ?_
          refine lv_goto (tgt := 73) hx hb dX11_told_44 (by decide) ?_
          exact hret ((((nwS inc mat kd tm yr) ((what / 10) - 1)) : Int), (nwf : Int → Int), (wat : Int), (who : Int)) dX11_told_73 (show ((nwS inc mat kd tm yr) ((what / 10) - 1)) = toR ln T tm yr cn inc dri mat what from (by rw [nwS_i hk34]; unfold toR; rw [if_neg (by omega), if_neg (by omega), if_neg (by omega), if_neg (by omega), if_neg (by omega), if_neg (by omega), hd1, hd2]; unfold t1R inO maO; rw [if_pos h23]; first | rw [if_pos (by omega), if_pos h23] | rw [if_neg (by omega), if_pos (by omega), if_pos h23] | rw [if_neg (by omega), if_neg (by omega), if_pos (by omega), if_pos h23])) hz
      ·
        refine z_bipush hx hb dX11_told_31 (by decide) ?_
        exact hret (((-2) : Int), (nwf : Int → Int), (wat : Int), (who : Int)) dX11_told_33 (show (-2) = toR ln T tm yr cn inc dri mat what from (by unfold toR; rw [if_neg (by omega), if_neg (by omega), if_neg (by omega), if_neg (by omega), if_neg (by omega), if_neg (by omega), hd1, hd2]; unfold t1R; first | rw [if_neg h23] | rw [if_pos h23, if_neg (by omega), if_neg (by omega), if_neg (by omega)])) hz
