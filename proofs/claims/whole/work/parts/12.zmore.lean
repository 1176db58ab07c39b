/-! more rows of the Z-layer: switches, Math, longs, contents changed beyond a row's length, sums -/
theorem ztm (a b : Int) : (0 ≤ a → a.tmod b = a % b) ∧ (a < 0 → a.tmod b = -((-a) % b)) := by
  refine ⟨fun h => Int.tmod_eq_emod_of_nonneg h, fun h => ?_⟩
  have h2 := Int.tmod_eq_emod_of_nonneg (a := -a) (b := b) (by omega)
  rw [Int.neg_tmod] at h2
  omega
theorem ztd (a b : Int) : (0 ≤ a → a.tdiv b = a / b) ∧ (a < 0 → a.tdiv b = -((-a) / b)) := by
  refine ⟨fun h => Int.tdiv_eq_ediv_of_nonneg h, fun h => ?_⟩
  have h2 := Int.tdiv_eq_ediv_of_nonneg (a := -a) (b := b) (by omega)
  rw [Int.neg_tdiv] at h2
  omega
theorem zH_ext {D : va_G} {A : Nat → Prop} {H0 H : Heap} {ws : va_W} {locs : List Loc} {a0 n : Nat} {cA : ClassId} {f : Int → Int} (hz : zH D A H0 ws H locs) (q : Nat) (g : Int → Int) (ha : ws[q]? = some (a0, .inl (cA, n, .inl (zA f)))) (h : ∀ j : Int, 0 ≤ j → j < (n : Int) → f j = g j) : zH D A H0 (ws.set q (a0, .inl (cA, n, .inl (zA g)))) H locs := by
  have hc : vp_cell cA (n, .inl (zA f)) = vp_cell cA (n, .inl (zA g)) := by
    rw [vp_cell_i, vp_cell_i]
    unfold arrV
    congr 1
    apply Array.ext
    · simp
    · intro i h1 h2
      have hi : i < n := by simpa using h1
      simp only [Array.getElem_ofFn]
      show Value.int (zI (f (i : Int))) = Value.int (zI (g (i : Int)))
      rw [h (i : Int) (by omega) (by omega)]
  refine ⟨hz.1.set hz.2.1 ha ?_ (fun q _ => rfl), hz.2.1.set ha, hz.2.2⟩
  show H[a0]? = some (vp_cell cA (n, .inl (zA g)))
  rw [← hc]
  exact hz.1 q _ ha
def sumZ (f : Int → Int) : Nat → Int
  | 0 => 0
  | n + 1 => sumZ f n + f (n : Int)
theorem sumZ_s {f : Int → Int} {i : Int} (h : 0 ≤ i) : sumZ f (i + 1).toNat = sumZ f i.toNat + f i := by
  have e : (i + 1).toNat = i.toNat + 1 := by omega
  rw [e]
  show sumZ f i.toNat + f ((i.toNat : Nat) : Int) = _
  rw [Int.toNat_of_nonneg h]
theorem sumZ_bd {f : Int → Int} {lo hi : Int} (h : ∀ j, lo ≤ f j ∧ f j ≤ hi) : ∀ n : Nat, lo * n ≤ sumZ f n ∧ sumZ f n ≤ hi * n
  | 0 => by simp [sumZ]
  | n + 1 => by
    have h1 := sumZ_bd h n
    have h2 := h (n : Int)
    show lo * ((n + 1 : Nat) : Int) ≤ sumZ f n + f n ∧ sumZ f n + f n ≤ hi * ((n + 1 : Nat) : Int)
    have e1 : lo * ((n + 1 : Nat) : Int) = lo * n + lo := by rw [Int.natCast_succ, Int.mul_add, Int.mul_one]
    have e2 : hi * ((n + 1 : Nat) : Int) = hi * n + hi := by rw [Int.natCast_succ, Int.mul_add, Int.mul_one]
    omega
theorem sumZ_cg {f g : Int → Int} : ∀ {n : Nat}, (∀ j : Int, 0 ≤ j → j < (n : Int) → f j = g j) → sumZ f n = sumZ g n
  | 0, _ => rfl
  | n + 1, h => by
    show sumZ f n + f n = sumZ g n + g n
    rw [sumZ_cg (n := n) (fun j h0 h1 => h j h0 (by omega)), h n (by omega) (by omega)]
section Z2
variable {p : Program} {l : Launch} {e : Env} {R : Room} {s : State} {m : MethodId} {args : Array Value} {below : List Frame} {meth : Method} {c : Code} {H : Heap} {locs : List Loc} {cells slots : Nat} {Q : State → Prop}
variable {cc : ByteArray} {pc : Nat} {ls : Array Slot} {rest : List Value}
theorem z_tabIn (hx : p.tables.exec = Jvm.exec) (hb : c.code = cc) {dflt lo hi : Int} {offs : Array Int} {len : Nat} {a k : Int} {off : Int} {tgt : Nat} (hdg : decode cc pc = .ok (.tableswitch dflt lo hi offs, len)) (ha : a = k) (hk : -2147483648 ≤ k ∧ k ≤ 2147483647) (h12 : ¬ k < lo ∧ ¬ hi < k) (ho : offs[(k - lo).toNat]? = some off) (ht : (pc : Int) + off = (tgt : Int))
    (kk : W p l e R s m args below meth c H locs cells slots Q (F0 m tgt ls rest)) : W p l e R s m args below meth c H locs cells slots Q (F0 m pc ls (.int (zI a) :: rest)) := by
  subst ha
  exact lv_tableIn hx hb hdg (by rw [zI_toInt hk]; exact h12.1) (by rw [zI_toInt hk]; exact h12.2) (by rw [zI_toInt hk]; exact ho) ht kk
theorem z_tabOut (hx : p.tables.exec = Jvm.exec) (hb : c.code = cc) {dflt lo hi : Int} {offs : Array Int} {len : Nat} {a : Int} {tgt : Nat} (hdg : decode cc pc = .ok (.tableswitch dflt lo hi offs, len)) (ha : -2147483648 ≤ a ∧ a ≤ 2147483647) (h : a < lo ∨ hi < a) (ht : (pc : Int) + dflt = (tgt : Int))
    (kk : W p l e R s m args below meth c H locs cells slots Q (F0 m tgt ls rest)) : W p l e R s m args below meth c H locs cells slots Q (F0 m pc ls (.int (zI a) :: rest)) :=
  lv_tableOut hx hb hdg (by rw [zI_toInt ha]; exact h) ht kk
theorem z_lkuIn (hx : p.tables.exec = Jvm.exec) (hb : c.code = cc) {dflt : Int} {ps : Array (Int × Int)} {len : Nat} {a k : Int} {off : Int} {tgt : Nat} (hdg : decode cc pc = .ok (.lookupswitch dflt ps, len)) (ha : a = k) (hk : -2147483648 ≤ k ∧ k ≤ 2147483647) (hp : (ps.toList.zip (ps.toList.drop 1)).all (fun (a, next) => a.1 < next.1) = true) (ho : Op.lookupswitch.offset ps.toList dflt k = off) (ht : (pc : Int) + off = (tgt : Int))
    (kk : W p l e R s m args below meth c H locs cells slots Q (F0 m tgt ls rest)) : W p l e R s m args below meth c H locs cells slots Q (F0 m pc ls (.int (zI a) :: rest)) := by
  subst ha
  exact lv_lookup hx hb hdg hp (by rw [zI_toInt hk]; exact ho) ht kk
theorem z_lkuOut (hx : p.tables.exec = Jvm.exec) (hb : c.code = cc) {dflt : Int} {ps : Array (Int × Int)} {len : Nat} {a : Int} {tgt : Nat} (hdg : decode cc pc = .ok (.lookupswitch dflt ps, len)) (hk : -2147483648 ≤ a ∧ a ≤ 2147483647) (hp : (ps.toList.zip (ps.toList.drop 1)).all (fun (a, next) => a.1 < next.1) = true) (ho : Op.lookupswitch.offset ps.toList dflt a = dflt) (ht : (pc : Int) + dflt = (tgt : Int))
    (kk : W p l e R s m args below meth c H locs cells slots Q (F0 m tgt ls rest)) : W p l e R s m args below meth c H locs cells slots Q (F0 m pc ls (.int (zI a) :: rest)) :=
  lv_lookup hx hb hdg hp (by rw [zI_toInt hk]; exact ho) ht kk
theorem z_mmax (hx : p.tables.exec = Jvm.exec) (hb : c.code = cc) {nL : Nat} (hls : ls.size = nL) (hml : c.maxLocals = nL) {own : String} {index : Nat} (hown : s.vm.findClass own = some m.cls) (hlink : (Cond.methodLink own index Lib.Math.max.name).before args s = true) (hstat : (Cond.static Lib.Math.max.name).before args s = true) (hini : (Cond.initialized "java/lang/Math").before args s = true) (hcode : (Cond.code Lib.Math.max.name Lib.Math.max.code 2 (some .int)).before args s = true)
    (hframes : 1 ≤ R.frames) (hlocals : (rest.map fun v => v.category).sum + 13 ≤ R.locals) (hcs : cells ≤ R.cells ∧ slots ≤ R.slots) {a b : Int} (ha : -2147483648 ≤ a ∧ a ≤ 2147483647) (hb2 : -2147483648 ≤ b ∧ b ≤ 2147483647) (hdg : decode cc pc = .ok (.invokestatic index, 3))
    (kk : W p l e R s m args below meth c H locs cells slots Q (F0 m (pc + 3) ls (.int (zI (max a b)) :: rest))) : W p l e R s m args below meth c H locs cells slots Q (F0 m pc ls (.int (zI b) :: .int (zI a) :: rest)) :=
  va_mmax hx hb (hml.trans hls.symm) hown hlink hstat hini hcode hframes hlocals hcs.1 hcs.2 hdg (by
    have e : (if zI a < zI b then zI b else zI a) = zI (max a b) := by
      by_cases h : a < b
      · rw [if_pos ((zI_lt ha hb2).mpr h), Int.max_eq_right (by omega)]
      · rw [if_neg (fun q => h ((zI_lt ha hb2).mp q)), Int.max_eq_left (by omega)]
    rw [e]; exact kk)
theorem z_mmin (hx : p.tables.exec = Jvm.exec) (hb : c.code = cc) {nL : Nat} (hls : ls.size = nL) (hml : c.maxLocals = nL) {own : String} {index : Nat} (hown : s.vm.findClass own = some m.cls) (hlink : (Cond.methodLink own index Lib.Math.min.name).before args s = true) (hstat : (Cond.static Lib.Math.min.name).before args s = true) (hini : (Cond.initialized "java/lang/Math").before args s = true) (hcode : (Cond.code Lib.Math.min.name Lib.Math.min.code 2 (some .int)).before args s = true)
    (hframes : 1 ≤ R.frames) (hlocals : (rest.map fun v => v.category).sum + 13 ≤ R.locals) (hcs : cells ≤ R.cells ∧ slots ≤ R.slots) {a b : Int} (ha : -2147483648 ≤ a ∧ a ≤ 2147483647) (hb2 : -2147483648 ≤ b ∧ b ≤ 2147483647) (hdg : decode cc pc = .ok (.invokestatic index, 3))
    (kk : W p l e R s m args below meth c H locs cells slots Q (F0 m (pc + 3) ls (.int (zI (min a b)) :: rest))) : W p l e R s m args below meth c H locs cells slots Q (F0 m pc ls (.int (zI b) :: .int (zI a) :: rest)) :=
  va_mmin hx hb (hml.trans hls.symm) hown hlink hstat hini hcode hframes hlocals hcs.1 hcs.2 hdg (by
    have e : (if zI b < zI a then zI b else zI a) = zI (min a b) := by
      by_cases h : b < a
      · rw [if_pos ((zI_lt hb2 ha).mpr h), Int.min_eq_right (by omega)]
      · rw [if_neg (fun q => h ((zI_lt hb2 ha).mp q)), Int.min_eq_left (by omega)]
    rw [e]; exact kk)
end Z2
