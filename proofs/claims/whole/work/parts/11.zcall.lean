/-! calls, and the bodies of methods, in the Z-layer -/
def zlk : List Nat → va_W → Nat → Option (Nat × va_E)
  | i :: is, x :: xs, j => bif Nat.beq i j then some x else zlk is xs j
  | _, _, _ => none
def zmx (is : List Nat) (w : va_W) : Nat → va_W → va_W
  | _, [] => []
  | j, q :: qs => (zlk is w j).getD q :: zmx is w (j + 1) qs
/-- ws, with w at the places is: each cell looked up by itself (List.set over List.set doubles with each cell) -/
def zmix (is : List Nat) (ws w : va_W) : va_W := zmx is w 0 ws
theorem zbeq {i j : Nat} (h : i ≠ j) : Nat.beq i j = false := by
  cases hb : Nat.beq i j with
  | false => rfl
  | true => exact absurd (Nat.eq_of_beq_eq_true hb) h
theorem zlk_out : ∀ (is : List Nat) (w : va_W) (j : Nat), j ∉ is → zlk is w j = none
  | [], w, j, _ => by cases w <;> rfl
  | i :: is, [], j, _ => rfl
  | i :: is, x :: xs, j, h => by
    show (bif Nat.beq i j then some x else zlk is xs j) = none
    rw [zbeq (fun e => h (by rw [e]; exact List.mem_cons_self))]
    exact zlk_out is xs j (fun q => h (List.mem_cons_of_mem _ q))
theorem zlk_in : ∀ (is : List Nat) (w : va_W) (k i : Nat) (x : Nat × va_E), is.Nodup → is[k]? = some i → w[k]? = some x → zlk is w i = some x
  | [], w, k, i, x, _, h, _ => by simp at h
  | i0 :: is, [], k, i, x, _, _, h => by simp at h
  | i0 :: is, y :: ys, 0, i, x, hn, h1, h2 => by
    simp only [List.getElem?_cons_zero, Option.some.injEq] at h1 h2
    subst h1; subst h2
    show (bif Nat.beq i0 i0 then some y else zlk is ys i0) = some y
    rw [show Nat.beq i0 i0 = true from Nat.beq_refl i0]; rfl
  | i0 :: is, y :: ys, k + 1, i, x, hn, h1, h2 => by
    simp only [List.getElem?_cons_succ] at h1 h2
    show (bif Nat.beq i0 i then some y else zlk is ys i) = some x
    rw [zbeq (fun e => (List.nodup_cons.mp hn).1 (by rw [e]; exact List.mem_of_getElem? h1))]
    exact zlk_in is ys k i x (List.nodup_cons.mp hn).2 h1 h2
theorem zmx_at (is : List Nat) (w : va_W) : ∀ (ws : va_W) (j0 j : Nat), (zmx is w j0 ws)[j]? = (ws[j]?).map (fun q => (zlk is w (j0 + j)).getD q)
  | [], j0, j => by simp [zmx]
  | q :: qs, j0, 0 => rfl
  | q :: qs, j0, j + 1 => by
    show ((zlk is w j0).getD q :: zmx is w (j0 + 1) qs)[j + 1]? = ((q :: qs)[j + 1]?).map _
    rw [List.getElem?_cons_succ, List.getElem?_cons_succ, zmx_at is w qs (j0 + 1) j]
    have e : j0 + 1 + j = j0 + (j + 1) := by omega
    rw [e]
theorem zmix_out (is : List Nat) (ws w : va_W) (j : Nat) (h : j ∉ is) : (zmix is ws w)[j]? = ws[j]? := by
  unfold zmix
  rw [zmx_at, Nat.zero_add, zlk_out is w j h]
  cases ws[j]? <;> rfl
theorem zmix_in (is : List Nat) (ws w : va_W) (k i : Nat) (x : Nat × va_E) (hn : is.Nodup) (h1 : is[k]? = some i) (h2 : w[k]? = some x) (hl : i < ws.length) : (zmix is ws w)[i]? = some x := by
  unfold zmix
  rw [zmx_at, Nat.zero_add, zlk_in is w k i x hn h1 h2, List.getElem?_eq_getElem hl]
  rfl
theorem zmap_at {α β : Type} {f : α → Option β} : ∀ {is : List α} {w : List β}, is.map f = w.map some → ∀ {k : Nat} {i : α}, is[k]? = some i → ∃ q, w[k]? = some q ∧ f i = some q := by
  intro is w h k i hi
  have h1 : (is.map f)[k]? = some (f i) := by rw [List.getElem?_map, hi]; rfl
  rw [h, List.getElem?_map] at h1
  cases hq : w[k]? with
  | none => rw [hq] at h1; cases h1
  | some q => rw [hq] at h1; exact ⟨q, rfl, (Option.some.inj h1).symm⟩
theorem zmap_ta {α β : Type} {f : α → Option β} : ∀ {is : List α} {w : List β}, is.map f = w.map some → ∀ {k : Nat} {q : β}, w[k]? = some q → ∃ i, is[k]? = some i ∧ f i = some q := by
  intro is w h k q hq
  have h1 : (w.map some)[k]? = some (some q) := by rw [List.getElem?_map, hq]; rfl
  rw [← h, List.getElem?_map] at h1
  cases hi : is[k]? with
  | none => rw [hi] at h1; cases h1
  | some i => rw [hi] at h1; exact ⟨i, rfl, Option.some.inj h1⟩
theorem zsub {ws wc : va_W} {D : va_G} {H : Heap} (h : va_P D vwCl ws H) {isC : List Nat} (hC : isC.map (fun i => ws[i]?) = wc.map some) : va_P D vwCl wc H := by
  intro k q hq
  obtain ⟨i, -, hi⟩ := zmap_ta hC hq
  exact h i q hi
theorem zD_same {A : Nat → Prop} {ws w : va_W} (h : va_D A ws) (hs : ∀ (j : Nat) (q : Nat × va_E), w[j]? = some q → ∃ q', ws[j]? = some q' ∧ q'.1 = q.1) : va_D A w := by
  refine ⟨fun i j x y hx hy hxy => ?_, fun k q hq => ?_⟩
  · obtain ⟨x', h1, h2⟩ := hs i x hx
    obtain ⟨y', h3, h4⟩ := hs j y hy
    exact h.1 i j x' y' h1 h3 (by rw [h2, h4, hxy])
  · obtain ⟨q', h1, h2⟩ := hs k q hq
    rw [← h2]; exact h.2 k q' h1
theorem zH_mix {D : va_G} {A : Nat → Prop} {H0 H H1 : Heap} {ws wc w : va_W} {locs L : List Loc} (hz : zH D A H0 ws H locs) {isC : List Nat} (hC : isC.map (fun i => ws[i]?) = wc.map some) (hn : isC.Nodup)
    (hw : w.map Prod.fst = wc.map Prod.fst) (hP : va_P D vwCl w H1) (hs : H.size ≤ H1.size) (hk : ∀ q : Nat, q < H.size → ¬ zF wc q → H1[q]? = H[q]?) (hL : ∀ q ∈ L, zF wc q.base) : zH D A H0 (zmix isC ws w) H1 (locs ++ L) := by
  have hin : ∀ q, zF wc q → A q := by
    rintro q ⟨k, e, h⟩
    obtain ⟨i, -, hi⟩ := zmap_ta hC h
    exact hz.2.1.2 i _ hi
  have hwc : ∀ {k : Nat} {x : Nat × va_E}, wc[k]? = some x → ∃ y, w[k]? = some y ∧ y.1 = x.1 := by
    intro k x hx
    have h1 : (wc.map Prod.fst)[k]? = some x.1 := by rw [List.getElem?_map, hx]; rfl
    rw [← hw, List.getElem?_map] at h1
    cases hy : w[k]? with
    | none => rw [hy] at h1; cases h1
    | some y => rw [hy] at h1; exact ⟨y, rfl, Option.some.inj h1⟩
  have key : ∀ (j : Nat) (q : Nat × va_E), (zmix isC ws w)[j]? = some q → (∃ k : Nat, isC[k]? = some j ∧ w[k]? = some q ∧ ∃ q', ws[j]? = some q' ∧ q'.1 = q.1) ∨ (j ∉ isC ∧ ws[j]? = some q) := by
    intro j q hq
    by_cases hj : j ∈ isC
    · obtain ⟨k, hk⟩ := List.getElem?_of_mem hj
      obtain ⟨x, h1, h2⟩ := zmap_at hC hk
      obtain ⟨y, h3, h4⟩ := hwc h1
      have hl : j < ws.length := (List.getElem?_eq_some_iff.mp h2).1
      have h5 := zmix_in isC ws w k j y hn hk h3 hl
      rw [hq] at h5
      cases h5
      exact Or.inl ⟨k, hk, h3, x, h2, h4.symm⟩
    · rw [zmix_out isC ws w j hj] at hq
      exact Or.inr ⟨hj, hq⟩
  refine ⟨fun j q hq => ?_, zD_same hz.2.1 (fun j q hq => ?_), ?_⟩
  · rcases key j q hq with ⟨k, -, h2, -⟩ | ⟨h1, h2⟩
    · exact hP k q h2
    · have hat := hz.1 j q h2
      refine hat.kept (hk q.1 hat.lt ?_)
      rintro ⟨k, e, h⟩
      obtain ⟨i, h3, h4⟩ := zmap_ta hC h
      have := hz.2.1.1 i j _ _ h4 h2 rfl
      subst this
      exact h1 (List.mem_of_getElem? h3)
  · rcases key j q hq with ⟨k, -, -, h⟩ | ⟨h1, h2⟩
    · exact h
    · exact ⟨q, h2, rfl⟩
  · refine ⟨Nat.le_trans hz.2.2.1 hs, fun q h1 h2 => ?_, fun q hq => ?_⟩
    · rw [hk q (Nat.lt_of_lt_of_le h1 hz.2.2.1) (fun h => h2 (hin q h))]
      exact hz.2.2.2.1 q h1 h2
    · rcases List.mem_append.mp hq with h | h
      · exact hz.2.2.2.2 q h
      · exact hin _ (hL q h)
section ZC
variable {p : Program} {l : Launch} {e : Env} {R : Room} {s : State} {m : MethodId} {args : Array Value} {below : List Frame} {meth : Method} {c : Code} {H : Heap} {locs : List Loc} {cells slots : Nat} {Q : State → Prop}
variable {cc : ByteArray} {pc nL n index maxL : Nat} {ls : Array Slot} {rest st0 As : List Value} {D : va_G} {A : Nat → Prop} {b : Nat} {cI cJ cZ : ClassId} {ws wc : va_W} {H0 : Heap} {Ts wy : List Cond} {own : String} {y : MethodName} {rm : Room} {bytes : ByteArray} {ret : Option FieldType} {lv : List (Nat × Value)}
theorem z_runp {g : JFrame} {a : Array Value} {rv : Option Value} (hr : va_Run p l e R s m args below meth c H locs cells slots 0 0 g rest (zQp rv a) (fun _ => False))
    (kk : W p l e R s m args below meth c H locs cells slots Q { g with pc := g.pc + 3, stack := rv.toList ++ rest }) : W p l e R s m args below meth c H locs cells slots Q g := by
  intro T hT X
  obtain ⟨v, st₀, t, T', L, h0, X', hL, e1, e2, ⟨hv, hh⟩, st⟩ := hr T hT X
  cases hv
  have hLn : L = [] := List.eq_nil_iff_forall_not_mem.mpr (fun q hq => hL q hq)
  subst hLn
  rw [List.append_nil] at X'
  obtain ⟨t2, a1, b1⟩ := kk T' (by rw [e1, hh, h0]) X'
  exact ⟨t2, st t2 a1, b1⟩
theorem z_runw {g : JFrame} {a : Array Value} {S : Type} {φ : S → Prop} {rv : S → Option Value} {wo : S → va_W} (hr : va_Run p l e R s m args below meth c H locs cells slots 0 0 g rest (zQw D φ rv wo wc a) (zF wc)) (hz : zH D A H0 ws H locs)
    (isC : List Nat) (hC : isC.map (fun i => ws[i]?) = wc.map some) (hn : isC.Nodup) (hw : ∀ u : S, (wo u).map Prod.fst = wc.map Prod.fst)
    (kk : ∀ (u : S) (H1 : Heap) (locs1 : List Loc), φ u → zH D A H0 (zmix isC ws (wo u)) H1 locs1 → W p l e R s m args below meth c H1 locs1 cells slots Q { g with pc := g.pc + 3, stack := (rv u).toList ++ rest }) : W p l e R s m args below meth c H locs cells slots Q g := by
  intro T hT X
  obtain ⟨v, st₀, t, T', L, h0, X', hL, e1, e2, ⟨u, hu, hv, hP, hF⟩, st⟩ := hr T hT X
  cases hv
  rw [va_F, h0, ← e1] at hF
  rw [← e1] at hP
  obtain ⟨t2, a1, b1⟩ := kk u T'.heap (locs ++ L) hu (zH_mix hz hC hn (hw u) hP hF.1 hF.2 hL) T' rfl X'
  exact ⟨t2, st t2 a1, b1⟩
theorem z_preS (hK : zK D cI cJ cZ s) (hz : zH D A H0 ws H locs) (isC : List Nat) (hC : isC.map (fun i => ws[i]?) = wc.map some) (hn : va_nd isC = true) : PreS s H (zPc D cI cJ cZ As wc) As :=
  ⟨zPc_blind, fun U hU hW => ⟨rfl, by rw [hU]; exact zsub hz.1 hC, va_K.moved hW.alike hK, (hz.2.1.sub isC hn hC).weaken (fun _ _ _ _ => trivial)⟩⟩
theorem z_preV {C : String} {T : u_T} {N ci q0 : Nat} {fs : List Value} (hK : zK D cI cJ cZ s) (hz : zH D A H0 ws H locs) (isC : List Nat) (hC : isC.map (fun i => ws[i]?) = wc.map some) (hn : va_nd isC = true) (hc : vwCl[ci]? = some (C, T, N)) (he : ws[q0]? = some (b, .inr (ci, fs))) : PreV s H C b (zPc D cI cJ cZ (.ref b :: As) wc) As :=
  ⟨zPc_blind, va_recv hK hz.1 hc he, fun U hU hW => ⟨rfl, by rw [hU]; exact zsub hz.1 hC, va_K.moved hW.alike hK, (hz.2.1.sub isC hn hC).weaken (fun _ _ _ _ => trivial)⟩⟩
/-- a static method that writes nothing -/
theorem z_callSp {r : Int} (F : CallFix p m c cc nL s args Ts own) (hK : zK D cI cJ cZ s) (hz : zH D A H0 ws H locs) (hl : lv_has ls nL lv) (hM : zMp l y wy rm D cI cJ cZ As wc (some (.int (zI r)))) (cw : CallB R s args own index y bytes maxL ret wy rm 0 0 n ∧ (Cond.static y).before args s = true)
    (isC : List Nat) (hC : isC.map (fun i => ws[i]?) = wc.map some) (hn : va_nd isC = true) (hnA : As.length = n) (hst : st0 = As.reverse ++ rest) (hcat : (rest.map fun v => v.category).sum ≤ 8) (hf : cells + 0 ≤ R.cells ∧ slots + 0 ≤ R.slots) (hdg : decode cc pc = .ok (.invokestatic index, 3))
    (kk : W p l e R s m args below meth c H locs cells slots Q (F0 m (pc + 3) ls (.int (zI r) :: rest))) : W p l e R s m args below meth c H locs cells slots Q (F0 m pc ls st0) :=
  z_runp (va_runS (g := F0 m pc ls st0) F hM cw (z_preS hK hz isC hC hn) rfl hnA hl.1 hst (lv_room hcat) hdg hf) kk
theorem z_callSpl {r : Int} (F : CallFix p m c cc nL s args Ts own) (hK : zK D cI cJ cZ s) (hz : zH D A H0 ws H locs) (hl : lv_has ls nL lv) (hM : zMp l y wy rm D cI cJ cZ As wc (some (.long (zL r)))) (cw : CallB R s args own index y bytes maxL ret wy rm 0 0 n ∧ (Cond.static y).before args s = true)
    (isC : List Nat) (hC : isC.map (fun i => ws[i]?) = wc.map some) (hn : va_nd isC = true) (hnA : As.length = n) (hst : st0 = As.reverse ++ rest) (hcat : (rest.map fun v => v.category).sum ≤ 8) (hf : cells + 0 ≤ R.cells ∧ slots + 0 ≤ R.slots) (hdg : decode cc pc = .ok (.invokestatic index, 3))
    (kk : W p l e R s m args below meth c H locs cells slots Q (F0 m (pc + 3) ls (.long (zL r) :: rest))) : W p l e R s m args below meth c H locs cells slots Q (F0 m pc ls st0) :=
  z_runp (va_runS (g := F0 m pc ls st0) F hM cw (z_preS hK hz isC hC hn) rfl hnA hl.1 hst (lv_room hcat) hdg hf) kk
/-- a method of an object that writes nothing -/
theorem z_callVp {r : Int} {C : String} {T : u_T} {N ci : Nat} {fs : List Value} (F : CallFix p m c cc nL s args Ts own) (hK : zK D cI cJ cZ s) (hz : zH D A H0 ws H locs) (hl : lv_has ls nL lv) (hM : zMp l y wy rm D cI cJ cZ (.ref b :: As) wc (some (.int (zI r)))) (cw : CallW R s args own C index y bytes maxL ret wy rm 0 0 n)
    (hc : vwCl[ci]? = some (C, T, N)) (q0 : Nat) (he : ws[q0]? = some (b, .inr (ci, fs))) (isC : List Nat) (hC : isC.map (fun i => ws[i]?) = wc.map some) (hn : va_nd isC = true) (hnA : As.length = n) (hst : st0 = As.reverse ++ .ref b :: rest) (hcat : (rest.map fun v => v.category).sum ≤ 8) (hf : cells + 0 ≤ R.cells ∧ slots + 0 ≤ R.slots) (hdg : decode cc pc = .ok (.invokevirtual index, 3))
    (kk : W p l e R s m args below meth c H locs cells slots Q (F0 m (pc + 3) ls (.int (zI r) :: rest))) : W p l e R s m args below meth c H locs cells slots Q (F0 m pc ls st0) :=
  z_runp (va_runV (g := F0 m pc ls st0) F hM cw (z_preV hK hz isC hC hn hc he) rfl hnA hl.1 hst (lv_room hcat) hdg hf) kk
theorem z_callVpl {r : Int} {C : String} {T : u_T} {N ci : Nat} {fs : List Value} (F : CallFix p m c cc nL s args Ts own) (hK : zK D cI cJ cZ s) (hz : zH D A H0 ws H locs) (hl : lv_has ls nL lv) (hM : zMp l y wy rm D cI cJ cZ (.ref b :: As) wc (some (.long (zL r)))) (cw : CallW R s args own C index y bytes maxL ret wy rm 0 0 n)
    (hc : vwCl[ci]? = some (C, T, N)) (q0 : Nat) (he : ws[q0]? = some (b, .inr (ci, fs))) (isC : List Nat) (hC : isC.map (fun i => ws[i]?) = wc.map some) (hn : va_nd isC = true) (hnA : As.length = n) (hst : st0 = As.reverse ++ .ref b :: rest) (hcat : (rest.map fun v => v.category).sum ≤ 8) (hf : cells + 0 ≤ R.cells ∧ slots + 0 ≤ R.slots) (hdg : decode cc pc = .ok (.invokevirtual index, 3))
    (kk : W p l e R s m args below meth c H locs cells slots Q (F0 m (pc + 3) ls (.long (zL r) :: rest))) : W p l e R s m args below meth c H locs cells slots Q (F0 m pc ls st0) :=
  z_runp (va_runV (g := F0 m pc ls st0) F hM cw (z_preV hK hz isC hC hn hc he) rfl hnA hl.1 hst (lv_room hcat) hdg hf) kk
theorem z_callVpr {r : Nat} {C : String} {T : u_T} {N ci : Nat} {fs : List Value} (F : CallFix p m c cc nL s args Ts own) (hK : zK D cI cJ cZ s) (hz : zH D A H0 ws H locs) (hl : lv_has ls nL lv) (hM : zMp l y wy rm D cI cJ cZ (.ref b :: As) wc (some (.ref r))) (cw : CallW R s args own C index y bytes maxL ret wy rm 0 0 n)
    (hc : vwCl[ci]? = some (C, T, N)) (q0 : Nat) (he : ws[q0]? = some (b, .inr (ci, fs))) (isC : List Nat) (hC : isC.map (fun i => ws[i]?) = wc.map some) (hn : va_nd isC = true) (hnA : As.length = n) (hst : st0 = As.reverse ++ .ref b :: rest) (hcat : (rest.map fun v => v.category).sum ≤ 8) (hf : cells + 0 ≤ R.cells ∧ slots + 0 ≤ R.slots) (hdg : decode cc pc = .ok (.invokevirtual index, 3))
    (kk : W p l e R s m args below meth c H locs cells slots Q (F0 m (pc + 3) ls (.ref r :: rest))) : W p l e R s m args below meth c H locs cells slots Q (F0 m pc ls st0) :=
  z_runp (va_runV (g := F0 m pc ls st0) F hM cw (z_preV hK hz isC hC hn hc he) rfl hnA hl.1 hst (lv_room hcat) hdg hf) kk
/-- a method of an object that writes its world: with an int, with nothing, with a long -/
theorem z_callVw {S : Type} {φ : S → Prop} {r : S → Int} {wo : S → va_W} {C : String} {T : u_T} {N ci : Nat} {fs : List Value} (F : CallFix p m c cc nL s args Ts own) (hK : zK D cI cJ cZ s) (hz : zH D A H0 ws H locs) (hl : lv_has ls nL lv) (hM : zMw l y wy rm D cI cJ cZ (.ref b :: As) wc φ (fun u => some (.int (zI (r u)))) wo) (cw : CallW R s args own C index y bytes maxL ret wy rm 0 0 n)
    (hc : vwCl[ci]? = some (C, T, N)) (q0 : Nat) (he : ws[q0]? = some (b, .inr (ci, fs))) (isC : List Nat) (hC : isC.map (fun i => ws[i]?) = wc.map some) (hn : va_nd isC = true) (hnd : isC.Nodup) (hnA : As.length = n) (hst : st0 = As.reverse ++ .ref b :: rest) (hcat : (rest.map fun v => v.category).sum ≤ 8) (hf : cells + 0 ≤ R.cells ∧ slots + 0 ≤ R.slots) (hdg : decode cc pc = .ok (.invokevirtual index, 3))
    (kk : ∀ (u : S) (H1 : Heap) (locs1 : List Loc), φ u → zH D A H0 (zmix isC ws (wo u)) H1 locs1 → W p l e R s m args below meth c H1 locs1 cells slots Q (F0 m (pc + 3) ls (.int (zI (r u)) :: rest))) : W p l e R s m args below meth c H locs cells slots Q (F0 m pc ls st0) :=
  z_runw (va_runV (g := F0 m pc ls st0) F hM.2 cw (z_preV hK hz isC hC hn hc he) rfl hnA hl.1 hst (lv_room hcat) hdg hf) hz isC hC hnd hM.1 kk
theorem z_callVwv {S : Type} {φ : S → Prop} {wo : S → va_W} {C : String} {T : u_T} {N ci : Nat} {fs : List Value} (F : CallFix p m c cc nL s args Ts own) (hK : zK D cI cJ cZ s) (hz : zH D A H0 ws H locs) (hl : lv_has ls nL lv) (hM : zMw l y wy rm D cI cJ cZ (.ref b :: As) wc φ (fun _ => none) wo) (cw : CallW R s args own C index y bytes maxL ret wy rm 0 0 n)
    (hc : vwCl[ci]? = some (C, T, N)) (q0 : Nat) (he : ws[q0]? = some (b, .inr (ci, fs))) (isC : List Nat) (hC : isC.map (fun i => ws[i]?) = wc.map some) (hn : va_nd isC = true) (hnd : isC.Nodup) (hnA : As.length = n) (hst : st0 = As.reverse ++ .ref b :: rest) (hcat : (rest.map fun v => v.category).sum ≤ 8) (hf : cells + 0 ≤ R.cells ∧ slots + 0 ≤ R.slots) (hdg : decode cc pc = .ok (.invokevirtual index, 3))
    (kk : ∀ (u : S) (H1 : Heap) (locs1 : List Loc), φ u → zH D A H0 (zmix isC ws (wo u)) H1 locs1 → W p l e R s m args below meth c H1 locs1 cells slots Q (F0 m (pc + 3) ls rest)) : W p l e R s m args below meth c H locs cells slots Q (F0 m pc ls st0) :=
  z_runw (va_runV (g := F0 m pc ls st0) F hM.2 cw (z_preV hK hz isC hC hn hc he) rfl hnA hl.1 hst (lv_room hcat) hdg hf) hz isC hC hnd hM.1 kk
theorem z_callVwl {S : Type} {φ : S → Prop} {r : S → Int} {wo : S → va_W} {C : String} {T : u_T} {N ci : Nat} {fs : List Value} (F : CallFix p m c cc nL s args Ts own) (hK : zK D cI cJ cZ s) (hz : zH D A H0 ws H locs) (hl : lv_has ls nL lv) (hM : zMw l y wy rm D cI cJ cZ (.ref b :: As) wc φ (fun u => some (.long (zL (r u)))) wo) (cw : CallW R s args own C index y bytes maxL ret wy rm 0 0 n)
    (hc : vwCl[ci]? = some (C, T, N)) (q0 : Nat) (he : ws[q0]? = some (b, .inr (ci, fs))) (isC : List Nat) (hC : isC.map (fun i => ws[i]?) = wc.map some) (hn : va_nd isC = true) (hnd : isC.Nodup) (hnA : As.length = n) (hst : st0 = As.reverse ++ .ref b :: rest) (hcat : (rest.map fun v => v.category).sum ≤ 8) (hf : cells + 0 ≤ R.cells ∧ slots + 0 ≤ R.slots) (hdg : decode cc pc = .ok (.invokevirtual index, 3))
    (kk : ∀ (u : S) (H1 : Heap) (locs1 : List Loc), φ u → zH D A H0 (zmix isC ws (wo u)) H1 locs1 → W p l e R s m args below meth c H1 locs1 cells slots Q (F0 m (pc + 3) ls (.long (zL (r u)) :: rest))) : W p l e R s m args below meth c H locs cells slots Q (F0 m pc ls st0) :=
  z_runw (va_runV (g := F0 m pc ls st0) F hM.2 cw (z_preV hK hz isC hC hn hc he) rfl hnA hl.1 hst (lv_room hcat) hdg hf) hz isC hC hnd hM.1 kk
end ZC
section ZB
variable {l : Launch} {y : MethodName} {wy wy' : List Cond} {rm : Room} {D : va_G} {cI cJ cZ : ClassId} {av : List Value} {ws : va_W} {cc : ByteArray} {maxL : Nat}
theorem zI_zn {v : Int} (hv : v = 0 ∨ v = 1) : narrow .boolean (.int (zI v)) = .int (zI v) := by rcases hv with rfl | rfl <;> decide +kernel
theorem zMp_i {rv : Option Value} (hy : plainName y.cls = true) (hw : wy = Cond.code y cc maxL (some .int) :: wy') (hlen : (lg_sl av).length ≤ maxL) (hrm : (headSpec wy rm).room = rm)
    (body : ∀ (p : Program) (e : Env) (s : State) (m : MethodId) (args : Array Value) (below : List Frame) (meth : Method) (c : Code) (Q : State → Prop) (H : Heap) (ls : Array Slot), CallFix p m c cc maxL s args wy y.cls → zK D cI cJ cZ s → zH D (zF ws) H ws H [] → lv_has ls maxL (lv_args 0 av) →
      (∀ {pc : Nat} {ls : Array Slot} {v : Int}, decode cc pc = .ok (.ireturn, 1) → some (.int (zI v)) = rv → W p l e rm s m args below meth c H [] 0 0 Q (F0 m pc ls [.int (zI v)])) →
      W p l e rm s m args below meth c H [] 0 0 Q (F0 m 0 ls [])) : zMp l y wy rm D cI cJ cZ av ws rv := by
  refine Met.ofW (cc := cc) (maxL := maxL) (ret := some .int) hy hw ?_
  intro p e s m args below meth c s₁ B hml hv
  obtain ⟨rfl, hP, hK, hD⟩ := hv
  have hts := atoms_spec (ws := wy) B.pre
  have hown : s.vm.findClass y.cls = some m.cls := findClass_of_methodNamed B.named
  have hlocks := B.notSynchronized
  rw [lg_entry_eq, hrm]
  refine body p e s m _ below meth c _ s.heap _ ⟨B.exec, B.bytes, hml, hown, hts⟩ hK ⟨hP, ⟨hD.1, fun k q h => ⟨k, q.2, h⟩⟩, va_S.rf⟩ (lv_entry av hlen) ?_
  intro pc ls v hdg hrv
  exact W.iret B.exec B.bytes B.returns  (fun t ht hW => ⟨by rw [hrv], ht⟩) (fun q h => by cases h) hdg hlocks
theorem zMp_z {rv : Option Value} (hy : plainName y.cls = true) (hw : wy = Cond.code y cc maxL (some .boolean) :: wy') (hlen : (lg_sl av).length ≤ maxL) (hrm : (headSpec wy rm).room = rm)
    (body : ∀ (p : Program) (e : Env) (s : State) (m : MethodId) (args : Array Value) (below : List Frame) (meth : Method) (c : Code) (Q : State → Prop) (H : Heap) (ls : Array Slot), CallFix p m c cc maxL s args wy y.cls → zK D cI cJ cZ s → zH D (zF ws) H ws H [] → lv_has ls maxL (lv_args 0 av) →
      (∀ {pc : Nat} {ls : Array Slot} {v : Int}, decode cc pc = .ok (.ireturn, 1) → (v = 0 ∨ v = 1) → some (.int (zI v)) = rv → W p l e rm s m args below meth c H [] 0 0 Q (F0 m pc ls [.int (zI v)])) →
      W p l e rm s m args below meth c H [] 0 0 Q (F0 m 0 ls [])) : zMp l y wy rm D cI cJ cZ av ws rv := by
  refine Met.ofW (cc := cc) (maxL := maxL) (ret := some .boolean) hy hw ?_
  intro p e s m args below meth c s₁ B hml hv
  obtain ⟨rfl, hP, hK, hD⟩ := hv
  have hts := atoms_spec (ws := wy) B.pre
  have hown : s.vm.findClass y.cls = some m.cls := findClass_of_methodNamed B.named
  have hlocks := B.notSynchronized
  rw [lg_entry_eq, hrm]
  refine body p e s m _ below meth c _ s.heap _ ⟨B.exec, B.bytes, hml, hown, hts⟩ hK ⟨hP, ⟨hD.1, fun k q h => ⟨k, q.2, h⟩⟩, va_S.rf⟩ (lv_entry av hlen) ?_
  intro pc ls v hdg ok hrv
  exact W.zret B.exec B.bytes B.returns (zI_zn ok) (fun t ht hW => ⟨by rw [hrv], ht⟩) (fun q h => by cases h) hdg hlocks
theorem zMp_l {rv : Option Value} (hy : plainName y.cls = true) (hw : wy = Cond.code y cc maxL (some .long) :: wy') (hlen : (lg_sl av).length ≤ maxL) (hrm : (headSpec wy rm).room = rm)
    (body : ∀ (p : Program) (e : Env) (s : State) (m : MethodId) (args : Array Value) (below : List Frame) (meth : Method) (c : Code) (Q : State → Prop) (H : Heap) (ls : Array Slot), CallFix p m c cc maxL s args wy y.cls → zK D cI cJ cZ s → zH D (zF ws) H ws H [] → lv_has ls maxL (lv_args 0 av) →
      (∀ {pc : Nat} {ls : Array Slot} {v : Int}, decode cc pc = .ok (.lreturn, 1) → some (.long (zL v)) = rv → W p l e rm s m args below meth c H [] 0 0 Q (F0 m pc ls [.long (zL v)])) →
      W p l e rm s m args below meth c H [] 0 0 Q (F0 m 0 ls [])) : zMp l y wy rm D cI cJ cZ av ws rv := by
  refine Met.ofW (cc := cc) (maxL := maxL) (ret := some .long) hy hw ?_
  intro p e s m args below meth c s₁ B hml hv
  obtain ⟨rfl, hP, hK, hD⟩ := hv
  have hts := atoms_spec (ws := wy) B.pre
  have hown : s.vm.findClass y.cls = some m.cls := findClass_of_methodNamed B.named
  have hlocks := B.notSynchronized
  rw [lg_entry_eq, hrm]
  refine body p e s m _ below meth c _ s.heap _ ⟨B.exec, B.bytes, hml, hown, hts⟩ hK ⟨hP, ⟨hD.1, fun k q h => ⟨k, q.2, h⟩⟩, va_S.rf⟩ (lv_entry av hlen) ?_
  intro pc ls v hdg hrv
  exact W.lret B.exec B.bytes B.returns  (fun t ht hW => ⟨by rw [hrv], ht⟩) (fun q h => by cases h) hdg hlocks
theorem zMp_r {rv : Option Value} {nm : String} (hy : plainName y.cls = true) (hw : wy = Cond.code y cc maxL (some (.object nm)) :: wy') (hlen : (lg_sl av).length ≤ maxL) (hrm : (headSpec wy rm).room = rm)
    (body : ∀ (p : Program) (e : Env) (s : State) (m : MethodId) (args : Array Value) (below : List Frame) (meth : Method) (c : Code) (Q : State → Prop) (H : Heap) (ls : Array Slot), CallFix p m c cc maxL s args wy y.cls → zK D cI cJ cZ s → zH D (zF ws) H ws H [] → lv_has ls maxL (lv_args 0 av) →
      (∀ {pc : Nat} {ls : Array Slot} {v : Nat}, decode cc pc = .ok (.areturn, 1) → some (.ref v) = rv → W p l e rm s m args below meth c H [] 0 0 Q (F0 m pc ls [.ref v])) →
      W p l e rm s m args below meth c H [] 0 0 Q (F0 m 0 ls [])) : zMp l y wy rm D cI cJ cZ av ws rv := by
  refine Met.ofW (cc := cc) (maxL := maxL) (ret := some (.object nm)) hy hw ?_
  intro p e s m args below meth c s₁ B hml hv
  obtain ⟨rfl, hP, hK, hD⟩ := hv
  have hts := atoms_spec (ws := wy) B.pre
  have hown : s.vm.findClass y.cls = some m.cls := findClass_of_methodNamed B.named
  have hlocks := B.notSynchronized
  rw [lg_entry_eq, hrm]
  refine body p e s m _ below meth c _ s.heap _ ⟨B.exec, B.bytes, hml, hown, hts⟩ hK ⟨hP, ⟨hD.1, fun k q h => ⟨k, q.2, h⟩⟩, va_S.rf⟩ (lv_entry av hlen) ?_
  intro pc ls v hdg hrv
  exact W.aret B.exec B.bytes B.returns (Or.inl ⟨nm, rfl⟩) (Or.inr ⟨v, rfl⟩) (fun t ht hW => ⟨by rw [hrv], ht⟩) (fun q h => by cases h) hdg hlocks
theorem zMw_i {S : Type} {φ : S → Prop} {r : S → Int} {wo : S → va_W} (hy : plainName y.cls = true) (hw : wy = Cond.code y cc maxL (some .int) :: wy') (hlen : (lg_sl av).length ≤ maxL) (hrm : (headSpec wy rm).room = rm) (hsm : ∀ u : S, (wo u).map Prod.fst = ws.map Prod.fst)
    (body : ∀ (p : Program) (e : Env) (s : State) (m : MethodId) (args : Array Value) (below : List Frame) (meth : Method) (c : Code) (Q : State → Prop) (H0 : Heap) (ls : Array Slot), CallFix p m c cc maxL s args wy y.cls → zK D cI cJ cZ s → zH D (zF ws) H0 ws H0 [] → lv_has ls maxL (lv_args 0 av) →
      (∀ {pc : Nat} {ls : Array Slot} {H : Heap} {locs : List Loc} (u : S), decode cc pc = .ok (.ireturn, 1) → φ u → zH D (zF ws) H0 (wo u) H locs → W p l e rm s m args below meth c H locs 0 0 Q (F0 m pc ls [.int (zI (r u))])) →
      W p l e rm s m args below meth c H0 [] 0 0 Q (F0 m 0 ls [])) : zMw l y wy rm D cI cJ cZ av ws φ (fun u => some (.int (zI (r u)))) wo := by
  refine ⟨hsm, Met.ofW (cc := cc) (maxL := maxL) (ret := some .int) hy hw ?_⟩
  intro p e s m args below meth c s₁ B hml hv
  obtain ⟨rfl, hP, hK, hD⟩ := hv
  have hts := atoms_spec (ws := wy) B.pre
  have hown : s.vm.findClass y.cls = some m.cls := findClass_of_methodNamed B.named
  have hlocks := B.notSynchronized
  rw [lg_entry_eq, hrm]
  refine body p e s m _ below meth c _ s.heap _ ⟨B.exec, B.bytes, hml, hown, hts⟩ hK ⟨hP, ⟨hD.1, fun k q h => ⟨k, q.2, h⟩⟩, va_S.rf⟩ (lv_entry av hlen) ?_
  intro pc ls H locs u hdg hu hz
  exact W.iret B.exec B.bytes B.returns  (fun t ht hW => ⟨u, hu, rfl, by rw [ht]; exact hz.1, hz.2.2.F ht⟩) hz.2.2.2.2 hdg hlocks
theorem zMw_z {S : Type} {φ : S → Prop} {r : S → Int} {wo : S → va_W} (hy : plainName y.cls = true) (hw : wy = Cond.code y cc maxL (some .boolean) :: wy') (hlen : (lg_sl av).length ≤ maxL) (hrm : (headSpec wy rm).room = rm) (hsm : ∀ u : S, (wo u).map Prod.fst = ws.map Prod.fst)
    (body : ∀ (p : Program) (e : Env) (s : State) (m : MethodId) (args : Array Value) (below : List Frame) (meth : Method) (c : Code) (Q : State → Prop) (H0 : Heap) (ls : Array Slot), CallFix p m c cc maxL s args wy y.cls → zK D cI cJ cZ s → zH D (zF ws) H0 ws H0 [] → lv_has ls maxL (lv_args 0 av) →
      (∀ {pc : Nat} {ls : Array Slot} {H : Heap} {locs : List Loc} (u : S), decode cc pc = .ok (.ireturn, 1) → (r u = 0 ∨ r u = 1) → φ u → zH D (zF ws) H0 (wo u) H locs → W p l e rm s m args below meth c H locs 0 0 Q (F0 m pc ls [.int (zI (r u))])) →
      W p l e rm s m args below meth c H0 [] 0 0 Q (F0 m 0 ls [])) : zMw l y wy rm D cI cJ cZ av ws φ (fun u => some (.int (zI (r u)))) wo := by
  refine ⟨hsm, Met.ofW (cc := cc) (maxL := maxL) (ret := some .boolean) hy hw ?_⟩
  intro p e s m args below meth c s₁ B hml hv
  obtain ⟨rfl, hP, hK, hD⟩ := hv
  have hts := atoms_spec (ws := wy) B.pre
  have hown : s.vm.findClass y.cls = some m.cls := findClass_of_methodNamed B.named
  have hlocks := B.notSynchronized
  rw [lg_entry_eq, hrm]
  refine body p e s m _ below meth c _ s.heap _ ⟨B.exec, B.bytes, hml, hown, hts⟩ hK ⟨hP, ⟨hD.1, fun k q h => ⟨k, q.2, h⟩⟩, va_S.rf⟩ (lv_entry av hlen) ?_
  intro pc ls H locs u hdg ok hu hz
  exact W.zret B.exec B.bytes B.returns (zI_zn ok) (fun t ht hW => ⟨u, hu, rfl, by rw [ht]; exact hz.1, hz.2.2.F ht⟩) hz.2.2.2.2 hdg hlocks
theorem zMw_l {S : Type} {φ : S → Prop} {r : S → Int} {wo : S → va_W} (hy : plainName y.cls = true) (hw : wy = Cond.code y cc maxL (some .long) :: wy') (hlen : (lg_sl av).length ≤ maxL) (hrm : (headSpec wy rm).room = rm) (hsm : ∀ u : S, (wo u).map Prod.fst = ws.map Prod.fst)
    (body : ∀ (p : Program) (e : Env) (s : State) (m : MethodId) (args : Array Value) (below : List Frame) (meth : Method) (c : Code) (Q : State → Prop) (H0 : Heap) (ls : Array Slot), CallFix p m c cc maxL s args wy y.cls → zK D cI cJ cZ s → zH D (zF ws) H0 ws H0 [] → lv_has ls maxL (lv_args 0 av) →
      (∀ {pc : Nat} {ls : Array Slot} {H : Heap} {locs : List Loc} (u : S), decode cc pc = .ok (.lreturn, 1) → φ u → zH D (zF ws) H0 (wo u) H locs → W p l e rm s m args below meth c H locs 0 0 Q (F0 m pc ls [.long (zL (r u))])) →
      W p l e rm s m args below meth c H0 [] 0 0 Q (F0 m 0 ls [])) : zMw l y wy rm D cI cJ cZ av ws φ (fun u => some (.long (zL (r u)))) wo := by
  refine ⟨hsm, Met.ofW (cc := cc) (maxL := maxL) (ret := some .long) hy hw ?_⟩
  intro p e s m args below meth c s₁ B hml hv
  obtain ⟨rfl, hP, hK, hD⟩ := hv
  have hts := atoms_spec (ws := wy) B.pre
  have hown : s.vm.findClass y.cls = some m.cls := findClass_of_methodNamed B.named
  have hlocks := B.notSynchronized
  rw [lg_entry_eq, hrm]
  refine body p e s m _ below meth c _ s.heap _ ⟨B.exec, B.bytes, hml, hown, hts⟩ hK ⟨hP, ⟨hD.1, fun k q h => ⟨k, q.2, h⟩⟩, va_S.rf⟩ (lv_entry av hlen) ?_
  intro pc ls H locs u hdg hu hz
  exact W.lret B.exec B.bytes B.returns  (fun t ht hW => ⟨u, hu, rfl, by rw [ht]; exact hz.1, hz.2.2.F ht⟩) hz.2.2.2.2 hdg hlocks
theorem zMw_v {S : Type} {φ : S → Prop}  {wo : S → va_W} (hy : plainName y.cls = true) (hw : wy = Cond.code y cc maxL (none) :: wy') (hlen : (lg_sl av).length ≤ maxL) (hrm : (headSpec wy rm).room = rm) (hsm : ∀ u : S, (wo u).map Prod.fst = ws.map Prod.fst)
    (body : ∀ (p : Program) (e : Env) (s : State) (m : MethodId) (args : Array Value) (below : List Frame) (meth : Method) (c : Code) (Q : State → Prop) (H0 : Heap) (ls : Array Slot), CallFix p m c cc maxL s args wy y.cls → zK D cI cJ cZ s → zH D (zF ws) H0 ws H0 [] → lv_has ls maxL (lv_args 0 av) →
      (∀ {pc : Nat} {ls : Array Slot} {H : Heap} {locs : List Loc} (u : S), decode cc pc = .ok (.return_, 1) → φ u → zH D (zF ws) H0 (wo u) H locs → W p l e rm s m args below meth c H locs 0 0 Q (F0 m pc ls [])) →
      W p l e rm s m args below meth c H0 [] 0 0 Q (F0 m 0 ls [])) : zMw l y wy rm D cI cJ cZ av ws φ (fun _ => none) wo := by
  refine ⟨hsm, Met.ofW (cc := cc) (maxL := maxL) (ret := none) hy hw ?_⟩
  intro p e s m args below meth c s₁ B hml hv
  obtain ⟨rfl, hP, hK, hD⟩ := hv
  have hts := atoms_spec (ws := wy) B.pre
  have hown : s.vm.findClass y.cls = some m.cls := findClass_of_methodNamed B.named
  have hlocks := B.notSynchronized
  rw [lg_entry_eq, hrm]
  refine body p e s m _ below meth c _ s.heap _ ⟨B.exec, B.bytes, hml, hown, hts⟩ hK ⟨hP, ⟨hD.1, fun k q h => ⟨k, q.2, h⟩⟩, va_S.rf⟩ (lv_entry av hlen) ?_
  intro pc ls H locs u hdg hu hz
  exact W.vret B.exec B.bytes B.returns  (fun t ht hW => ⟨u, hu, rfl, by rw [ht]; exact hz.1, hz.2.2.F ht⟩) hz.2.2.2.2 hdg hlocks
end ZB
