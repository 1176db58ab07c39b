/-! the law: what it keeps from call to call -/
def lwOk (T : Int) (inc dri mat : Int → Int) (tm yr : Int) (iy mk : Int → Int) (cn : Int) : Prop := (0 ≤ T ∧ T < 512) ∧ zBd inc 9 0 179 ∧ zBd dri 9 (-9) 9 ∧ mOk T mat ∧ ((0 ≤ tm ∧ tm ≤ 9) ∧ 0 ≤ yr ∧ yr ≤ 999) ∧ (0 ≤ cn ∧ cn ≤ 8) ∧ zBd iy 8 0 60 ∧ zBd mk 8 0 179
def kpS (kp im : Int → Int) (n T : Int) (inc dri mat : Int → Int) (tm yr : Int) (iy mk : Int → Int) (cn : Int) : Prop := ¬ kp n = 0 → lwOk T inc dri mat tm yr iy mk cn ∧ ∃ kd : Int → Int, imI im (60 * n) (imS inc dri mat kd T tm yr iy mk cn)
def lwI (Tn : Int) (incn : Int → Int) (drin : Int → Int) (matn : Int → Int) (tmn : Int) (yrn : Int) (iyfn : Int → Int) (mkfn : Int → Int) (cnn : Int) (ln : Int) (sgn : Int → Int) (kpf : Int → Int) (imf : Int → Int) (Tf : Int) (incf : Int → Int) (drif : Int → Int) (matf : Int → Int) (tmf : Int) (yrf : Int) (iyff : Int → Int) (mkff : Int → Int) (cnf : Int) (Ts : Int) (incs : Int → Int) (dris : Int → Int) (mats : Int → Int) (tms : Int) (yrs : Int) (iyfs : Int → Int) (mkfs : Int → Int) (cns : Int) (wnf : Int → Int) (wnm : Int → Int) : Prop := (lwOk Tn incn drin matn tmn yrn iyfn mkfn cnn) ∧ ((0 ≤ ln ∧ ln ≤ 60) ∧ zBd sgn 60 0 126) ∧ zBd kpf 2 0 1 ∧ kpS kpf imf 0 Tf incf drif matf tmf yrf iyff mkff cnf ∧ kpS kpf imf 1 Ts incs dris mats tms yrs iyfs mkfs cns ∧ (zBd wnf 180 0 1 ∧ wnf 0 = 0) ∧ zBd wnm 180 0 1
def lwW (cI cJ cZ : ClassId) (hc on ain adn amn ahn chn iyn mkn of aif adf amf ahf chf iyf mkf os ais ads ams ahs chs iys mks kp pd sg ys o ai ad am ah ch iy mk kd tu fa wt dg as al tk wn ck wy nx md bk nw nt df chk pa rc qu ct ft wn2 wy2 nx2 im ik : Nat) (incn drin matn ahen iyfn mkfn incf drif matf ahef iyff mkff incs dris mats ahes iyfs mkfs kpf sgn inc dri mat ahe iyz mkz kdf faf wtf dgf alf wnf wyf nxf kdb nwf ntf rcf quf ctf ftf wnm wym nxm imf : Int → Int) (Tn tmn yrn cnn Tf tmf yrf cnf Ts tms yrs cns ln acs why wac won T tm yr cn by0 bm0 pts all0 wat who rs act fse : Int) : va_W := [(hc, .inr (8, [.ref on, .ref of, .ref os, .ref kp, .ref pd, .ref ys, .ref tu, .ref as, .ref tk, .ref ck])), (on, .inr (2, [.ref ain, .ref adn, .ref amn, .ref ahn, .ref chn, .int (zI Tn), .int (zI tmn), .int (zI yrn)])), (ain, .inl (cI, 9, .inl (zA incn))), (adn, .inl (cI, 9, .inl (zA drin))), (amn, .inl (cI, 9, .inl (zA matn))), (ahn, .inl (cI, 9, .inl (zA ahen))), (chn, .inr (1, [.ref iyn, .ref mkn, .int (zI cnn)])), (iyn, .inl (cI, 8, .inl (zA iyfn))), (mkn, .inl (cI, 8, .inl (zA mkfn))), (of, .inr (2, [.ref aif, .ref adf, .ref amf, .ref ahf, .ref chf, .int (zI Tf), .int (zI tmf), .int (zI yrf)])), (aif, .inl (cI, 9, .inl (zA incf))), (adf, .inl (cI, 9, .inl (zA drif))), (amf, .inl (cI, 9, .inl (zA matf))), (ahf, .inl (cI, 9, .inl (zA ahef))), (chf, .inr (1, [.ref iyf, .ref mkf, .int (zI cnf)])), (iyf, .inl (cI, 8, .inl (zA iyff))), (mkf, .inl (cI, 8, .inl (zA mkff))), (os, .inr (2, [.ref ais, .ref ads, .ref ams, .ref ahs, .ref chs, .int (zI Ts), .int (zI tms), .int (zI yrs)])), (ais, .inl (cI, 9, .inl (zA incs))), (ads, .inl (cI, 9, .inl (zA dris))), (ams, .inl (cI, 9, .inl (zA mats))), (ahs, .inl (cI, 9, .inl (zA ahes))), (chs, .inr (1, [.ref iys, .ref mks, .int (zI cns)])), (iys, .inl (cI, 8, .inl (zA iyfs))), (mks, .inl (cI, 8, .inl (zA mkfs))), (kp, .inl (cZ, 2, .inl (zA kpf))), (pd, .inr (3, [.ref sg, .int (zI ln)])), (sg, .inl (cI, 60, .inl (zA sgn))), (ys, .inr (7, [.ref o, .ref kd, .int (zI acs), .int (zI why), .int (zI wac), .int (zI won)])), (o, .inr (2, [.ref ai, .ref ad, .ref am, .ref ah, .ref ch, .int (zI T), .int (zI tm), .int (zI yr)])), (ai, .inl (cI, 9, .inl (zA inc))), (ad, .inl (cI, 9, .inl (zA dri))), (am, .inl (cI, 9, .inl (zA mat))), (ah, .inl (cI, 9, .inl (zA ahe))), (ch, .inr (1, [.ref iy, .ref mk, .int (zI cn)])), (iy, .inl (cI, 8, .inl (zA iyz))), (mk, .inl (cI, 8, .inl (zA mkz))), (kd, .inl (cI, 9, .inl (zA kdf))), (tu, .inr (5, [.ref fa, .ref wt, .ref dg])), (fa, .inl (cI, 180, .inl (zA faf))), (wt, .inl (cI, 180, .inl (zA wtf))), (dg, .inl (cI, 6, .inl (zA dgf))), (as, .inr (0, [.ref al, .int (zI by0), .int (zI bm0)])), (al, .inl (cI, 180, .inl (zA alf))), (tk, .inr (4, [.ref wn])), (wn, .inl (cZ, 180, .inl (zA wnf))), (ck, .inr (6, [.ref wy, .ref nx, .int (zI pts), .long (zL all0)])), (wy, .inl (cJ, 12, .inr (.inl (zAL wyf)))), (nx, .inl (cJ, 12, .inr (.inl (zAL nxf)))), (md, .inr (9, [.ref bk, .ref nw, .ref nt, .int (zI Tn), .ref df, .int (zI cnn), .ref chk, .int (zI ln), .ref pa, .int (zI wat), .int (zI who), .int (zI rs), .int (zI act), .int (zI fse), .ref rc, .ref qu, .ref ct, .ref ft, .ref wn2, .ref wy2, .ref nx2, .ref im, .ref ik])), (bk, .inl (cI, 29, .inl (zA (nwS incn matn kdb tmn yrn)))), (nw, .inl (cI, 29, .inl (zA nwf))), (nt, .inl (cI, 9, .inl (zA ntf))), (df, .inl (cI, 9, .inl (zA drin))), (chk, .inl (cI, 16, .inl (zA (chS iyfn mkfn)))), (pa, .inl (cI, 60, .inl (zA sgn))), (rc, .inl (cI, 180, .inl (zA rcf))), (qu, .inl (cI, 180, .inl (zA quf))), (ct, .inl (cI, 180, .inl (zA ctf))), (ft, .inl (cI, 3600, .inl (zA ftf))), (wn2, .inl (cZ, 180, .inl (zA wnm))), (wy2, .inl (cJ, 12, .inr (.inl (zAL wym)))), (nx2, .inl (cJ, 12, .inr (.inl (zAL nxm)))), (im, .inl (cI, 120, .inl (zA imf))), (ik, .inl (cZ, 2, .inl (zA kpf)))]
def xsZ (xs : Nat → Int32) (i : Int) : Int := (xs i.toNat).toInt
theorem xsZ_rng (xs : Nat → Int32) (i : Int) : -2147483648 ≤ xsZ xs i ∧ xsZ xs i ≤ 2147483647 := zI_rng _
/-- ahead of the law's row pc: whatever is kept, the law goes on to its end -/
def lwK (p : Program) (l : Launch) (e : Env) (s : State) (m : MethodId) (args : Array Value) (below : List Frame) (meth : Method) (c : Code) (Q : State → Prop) (D : va_G) (cI cJ cZ : ClassId) (A : Nat → Prop) (H0 : Heap) (b : Nat) (hc on ain adn amn ahn chn iyn mkn of aif adf amf ahf chf iyf mkf os ais ads ams ahs chs iys mks kp pd sg ys o ai ad am ah ch iy mk kd tu fa wt dg as al tk wn ck wy nx md bk nw nt df chk pa rc qu ct ft wn2 wy2 nx2 im ik : Nat) (i : Int) (pc : Nat) : Prop :=
  ∀ (incn drin matn ahen iyfn mkfn incf drif matf ahef iyff mkff incs dris mats ahes iyfs mkfs kpf sgn inc dri mat ahe iyz mkz kdf faf wtf dgf alf wnf wyf nxf kdb nwf ntf rcf quf ctf ftf wnm wym nxm imf : Int → Int) (Tn tmn yrn cnn Tf tmf yrf cnf Ts tms yrs cns ln acs why wac won T tm yr cn by0 bm0 pts all0 wat who rs act fse : Int) (H : Heap) (locs : List Loc) (ls : Array Slot), lwI Tn incn drin matn tmn yrn iyfn mkfn cnn ln sgn kpf imf Tf incf drif matf tmf yrf iyff mkff cnf Ts incs dris mats tms yrs iyfs mkfs cns wnf wnm → zH D A H0 (lwW cI cJ cZ hc on ain adn amn ahn chn iyn mkn of aif adf amf ahf chf iyf mkf os ais ads ams ahs chs iys mks kp pd sg ys o ai ad am ah ch iy mk kd tu fa wt dg as al tk wn ck wy nx md bk nw nt df chk pa rc qu ct ft wn2 wy2 nx2 im ik incn drin matn ahen iyfn mkfn incf drif matf ahef iyff mkff incs dris mats ahes iyfs mkfs kpf sgn inc dri mat ahe iyz mkz kdf faf wtf dgf alf wnf wyf nxf kdb nwf ntf rcf quf ctf ftf wnm wym nxm imf Tn tmn yrn cnn Tf tmf yrf cnf Ts tms yrs cns ln acs why wac won T tm yr cn by0 bm0 pts all0 wat who rs act fse) H locs → lv_has ls 4 [(3, .int (zI i)), (2, .ref md), (1, .ref hc), (0, .ref b)] → W p l e room_1 s m args below meth c H locs 65 5743 Q (F0 m pc ls [])
section ZL
variable {p : Program} {l : Launch} {e : Env} {R : Room} {s : State} {m : MethodId} {args : Array Value} {below : List Frame} {meth : Method} {c : Code} {H : Heap} {locs : List Loc} {cells slots : Nat} {Q : State → Prop}
variable {cc : ByteArray} {pc : Nat} {ls : Array Slot} {rest : List Value} {D : va_G} {A : Nat → Prop} {ws : va_W} {H0 : Heap}
theorem z_sld (hx : p.tables.exec = Jvm.exec) (hb : c.code = cc) {b L : Nat} {xs : Nat → Int32} (hX : va_X b L xs s H0) (hbl : b < H0.size) (hbA : ¬ A b) (hz : zH D A H0 ws H locs) {i v : Int} (h0 : 0 ≤ i ∧ i < (L : Int)) (hL : L ≤ 4096) (hdg : decode cc pc = .ok (.iaload, 1)) (hv : xsZ xs i = v)
    (kk : W p l e R s m args below meth c H locs cells slots Q (F0 m (pc + 1) ls (.int (zI v) :: rest))) : W p l e R s m args below meth c H locs cells slots Q (F0 m pc ls (.int (zI i) :: .ref b :: rest)) :=
  va_sld hx hb hX hbl hbA hz.2.2 (zI_ix h0 (by omega)) hdg (by
    rw [zI_cl h0.1 (by omega), zI_of (xs i.toNat), show (xs i.toNat).toInt = v from hv]; exact kk)
theorem z_slen (hx : p.tables.exec = Jvm.exec) (hb : c.code = cc) {b L : Nat} {xs : Nat → Int32} (hX : va_X b L xs s H0) (hbl : b < H0.size) (hbA : ¬ A b) (hz : zH D A H0 ws H locs) (hdg : decode cc pc = .ok (.arraylength, 1))
    (kk : W p l e R s m args below meth c H locs cells slots Q (F0 m (pc + 1) ls (.int (zI (L : Int)) :: rest))) : W p l e R s m args below meth c H locs cells slots Q (F0 m pc ls (.ref b :: rest)) :=
  va_slen hx hb hX hbl hbA hz.2.2 hdg (by
    have e1 : Int32.ofNat L = zI (L : Int) := zI_nN L
    rw [e1]; exact kk)
theorem zI_and31 (a : Int) : zI a &&& zI 31 = zI (a % 32) := by
  rw [pk_and (zI a) (m := zI 31) 5 (by decide +kernel), zI_nN]
  refine congrArg zI ?_
  show (((BitVec.ofInt 32 a).toNat % 2 ^ 5 : Nat) : Int) = a % 32
  rw [BitVec.toNat_ofInt]
  omega
theorem z_iand31 (hx : p.tables.exec = Jvm.exec) (hb : c.code = cc) {a : Int} (hdg : decode cc pc = .ok (.iand, 1)) (k : W p l e R s m args below meth c H locs cells slots Q (F0 m (pc + 1) ls (.int (zI (a % 32)) :: rest))) : W p l e R s m args below meth c H locs cells slots Q (F0 m pc ls (.int (zI 31) :: .int (zI a) :: rest)) := lv_iand hx hb hdg (by rw [zI_and31]; exact k)
end ZL
-- what the calls keep
theorem in_or {T k j : Int} (hT : 0 ≤ T ∧ T < 512) (hk : 0 ≤ k ∧ k < 9) (hj : inS T j = true) : inS (zOr T (2 ^ k.toNat)) j = true := by
  have hr := inS.rng hj
  have hp := pow9 k hk
  have ho := zOr_bd hT (b := 2 ^ k.toNat) (by omega)
  obtain ⟨m, hm⟩ : ∃ m : Nat, j = m := ⟨j.toNat, by omega⟩
  rw [hm] at hj ⊢
  rw [← tb_in hT.1 (by omega)] at hj
  rw [← tb_in ho.1 (by omega)]
  unfold zOr
  rw [Int.toNat_natCast, Nat.testBit_or, hj, Bool.true_or]
theorem mOk_up {T k : Int} {mat : Int → Int} (hT : 0 ≤ T ∧ T < 512) (hk : 0 ≤ k ∧ k < 9) (h : mOk T mat) : mOk (zOr T (2 ^ k.toNat)) mat := by
  intro j h0 h1
  rcases h j h0 h1 with h2 | h2
  · exact Or.inl h2
  · exact Or.inr ⟨in_or hT hk h2.1, in_or hT hk h2.2.1, h2.2.2⟩
theorem mOk_one {T k i d : Int} {mat : Int → Int} (hT : 0 ≤ T ∧ T < 512) (h : mOk T mat) : mOk (oneT T k i d) (oneM T mat k i d) := by
  unfold oneT oneM
  by_cases ho : oneOk k i d
  · rw [if_pos ho, if_pos ho]
    refine mOk_up hT (by omega) ?_
    by_cases hk : inS T k = true
    · exact mOk_sep h hk
    · unfold sepM; rw [if_neg (fun q => hk q.1)]; exact h
  · rw [if_neg ho, if_neg ho]; exact h
theorem ok_one {T : Int} {inc dri mat : Int → Int} {tm yr : Int} {iy mk : Int → Int} {cn : Int} (h : lwOk T inc dri mat tm yr iy mk cn) (k i d : Int) : lwOk (oneT T k i d) (oneI inc k i d) (oneD dri k i d) (oneM T mat k i d) tm yr iy mk cn := by
  obtain ⟨h1, h2, h3, h4, h5⟩ := h
  refine ⟨?_, ?_, ?_, mOk_one h1 h4, h5⟩
  · unfold oneT
    by_cases ho : oneOk k i d
    · rw [if_pos ho]
      have hp := pow9 k (by omega)
      exact zOr_bd h1 (by omega)
    · rw [if_neg ho]; exact h1
  · unfold oneI
    by_cases ho : oneOk k i d
    · rw [if_pos ho]; exact h2.up (by omega)
    · rw [if_neg ho]; exact h2
  · unfold oneD
    by_cases ho : oneOk k i d
    · rw [if_pos ho]; exact h3.up (by omega)
    · rw [if_neg ho]; exact h3
theorem ok_pa {T : Int} {inc dri mat : Int → Int} {tm yr : Int} {iy mk : Int → Int} {cn : Int} (h : lwOk T inc dri mat tm yr iy mk cn) (a b : Int) (is : Prop) [Decidable is] : lwOk T inc dri (paM T mat a b is) tm yr iy mk cn := by
  obtain ⟨h1, h2, h3, h4, h5⟩ := h
  exact ⟨h1, h2, h3, mOk_pa h4 a b is, h5⟩
theorem ok_ho {T : Int} {inc dri mat : Int → Int} {tm yr : Int} {iy mk : Int → Int} {cn : Int} (h : lwOk T inc dri mat tm yr iy mk cn) (v : Int) : lwOk T inc dri mat (hoT tm v) yr iy mk cn := by
  obtain ⟨h1, h2, h3, h4, h5, h6⟩ := h
  refine ⟨h1, h2, h3, h4, ⟨?_, h5.2⟩, h6⟩
  unfold hoT
  split
  · assumption
  · exact h5.1
theorem pad_say {ln : Int} {sgn : Int → Int} (h : (0 ≤ ln ∧ ln ≤ 60) ∧ zBd sgn 60 0 126) (v : Int) : (0 ≤ saL ln v ∧ saL ln v ≤ 60) ∧ zBd (saS ln sgn v) 60 0 126 := by
  unfold saL saS
  by_cases h1 : 33 ≤ v ∧ v ≤ 126
  · rw [if_pos h1, if_pos h1]
    by_cases h2 : ln < 60
    · rw [if_pos h2, if_pos h2]; exact ⟨by omega, h.2.up (by omega)⟩
    · rw [if_neg h2, if_neg h2]; exact h
  · rw [if_neg h1, if_neg h1]; exact h
theorem ok_ch {T : Int} {inc dri mat : Int → Int} {tm yr : Int} {iy mk : Int → Int} {cn : Int} (h : lwOk T inc dri mat tm yr iy mk cn) (y v : Int) : lwOk T inc dri mat tm yr (chY iy cn y v) (chM mk cn y v) (chN cn y v) := by
  obtain ⟨h1, h2, h3, h4, h5, h6, h7, h8⟩ := h
  refine ⟨h1, h2, h3, h4, h5, ?_⟩
  unfold chY chM chN
  by_cases hc : chOk y v ∧ cn < 8
  · rw [if_pos hc, if_pos hc, if_pos hc]; exact ⟨by omega, h7.up (by omega), h8.up (by omega)⟩
  · rw [if_neg hc, if_neg hc, if_neg hc]; exact ⟨h6, h7, h8⟩
theorem ok_c0 {T : Int} {inc dri mat : Int → Int} {tm yr : Int} {iy mk : Int → Int} {cn : Int} (h : lwOk T inc dri mat tm yr iy mk cn) : lwOk T inc dri mat tm yr iy mk 0 := by
  obtain ⟨h1, h2, h3, h4, h5, h6, h7, h8⟩ := h
  exact ⟨h1, h2, h3, h4, h5, by decide, h7, h8⟩
theorem ok_done {T : Int} {inc dri mat : Int → Int} {tm yr : Int} {iy mk : Int → Int} {cn : Int} (h : lwOk T inc dri mat tm yr iy mk cn) {ln : Int} {sgn : Int → Int} {inc1 mat1 : Int → Int} {tm1 yr1 : Int}
    (he : (inc1, mat1, tm1, yr1) = (if canS (fpW ln sgn) (rnW T dri ln sgn inc mat tm yr) then ((rnW T dri ln sgn inc mat tm yr).1, (rnW T dri ln sgn inc mat tm yr).2.1, (rnW T dri ln sgn inc mat tm yr).2.2.1, (rnW T dri ln sgn inc mat tm yr).2.2.2.1) else (inc, mat, tm, yr))) (hm : mOk T mat1) : lwOk T inc1 dri mat1 tm1 yr1 iy mk cn := by
  obtain ⟨h1, h2, h3, h4, h5, h6⟩ := h
  by_cases hc : canS (fpW ln sgn) (rnW T dri ln sgn inc mat tm yr)
  · rw [if_pos hc] at he
    have hq := rnW_ok (T := T) (dri := dri) (ln := ln) (sgn := sgn) h2 (mOk_bd h4) h5
    simp only [Prod.mk.injEq] at he
    obtain ⟨e1, e2, e3, e4⟩ := he
    subst e1; subst e2; subst e3; subst e4
    exact ⟨h1, hq.1, h3, hm, ⟨hq.2.2.1, hq.2.2.2⟩, h6⟩
  · rw [if_neg hc] at he
    simp only [Prod.mk.injEq] at he
    obtain ⟨e1, e2, e3, e4⟩ := he
    subst e1; subst e2; subst e3; subst e4
    exact ⟨h1, h2, h3, hm, h5, h6⟩
theorem pad_done {ln : Int} {sgn : Int → Int} (h : (0 ≤ ln ∧ ln ≤ 60) ∧ zBd sgn 60 0 126) (P : Prop) [Decidable P] : (0 ≤ (if P then 0 else ln) ∧ (if P then 0 else ln) ≤ 60) ∧ zBd sgn 60 0 126 := by
  refine ⟨?_, h.2⟩
  split
  · decide
  · exact h.1
theorem kp_same {kp im im1 : Int → Int} {n k T : Int} {inc dri mat : Int → Int} {tm yr : Int} {iy mk : Int → Int} {cn : Int} (h : kpS kp im n T inc dri mat tm yr iy mk cn) (hk : ¬ n = k) (ho : ∀ q, (q < 60 * k ∨ 60 * k + 60 ≤ q) → im1 q = im q) (hs : 60 * n + 60 ≤ 60 * k ∨ 60 * k + 60 ≤ 60 * n) : kpS (zU kp k 1) im1 n T inc dri mat tm yr iy mk cn := by
  intro h1
  rw [zU_ne hk] at h1
  obtain ⟨h2, kd, h3⟩ := h h1
  refine ⟨h2, kd, fun j h4 h5 h6 => ?_⟩
  rw [ho _ (by omega)]
  exact h3 j h4 h5 h6
