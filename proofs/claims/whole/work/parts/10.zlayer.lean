/-! the Z-layer: whole numbers (Int) under the machine's ints; a world, its heap and the frame in one word; contracts of methods that make nothing -/
-- numbers
def zI (z : Int) : Int32 := Int32.ofInt z
def zL (z : Int) : Int64 := Int64.ofInt z
def zA (f : Int → Int) : Nat → Int32 := fun j => zI (f (j : Int))
def zAL (f : Int → Int) : Nat → Int64 := fun j => zL (f (j : Int))
def zU (f : Int → Int) (i v : Int) : Int → Int := fun j => if j = i then v else f j
def zBd (f : Int → Int) (n lo hi : Int) : Prop := ∀ j, 0 ≤ j → j < n → lo ≤ f j ∧ f j ≤ hi
theorem zBd.ax {f : Int → Int} {n lo hi : Int} (h : zBd f n lo hi) (j : Int) (hj : 0 ≤ j ∧ j < n) : lo ≤ f j ∧ f j ≤ hi := h j hj.1 hj.2
theorem zBd.up {f : Int → Int} {n lo hi i v : Int} (h : zBd f n lo hi) (hv : lo ≤ v ∧ v ≤ hi) : zBd (zU f i v) n lo hi := by
  intro j h0 h1
  show lo ≤ (if j = i then v else f j) ∧ (if j = i then v else f j) ≤ hi
  by_cases hj : j = i
  · rw [if_pos hj]; exact hv
  · rw [if_neg hj]; exact h j h0 h1
theorem zU_same {f : Int → Int} {i v : Int} : zU f i v i = v := if_pos rfl
theorem zU_ne {f : Int → Int} {i v j : Int} (h : j ≠ i) : zU f i v j = f j := if_neg h
theorem zI_toInt {a : Int} (h : -2147483648 ≤ a ∧ a ≤ 2147483647) : (zI a).toInt = a := Int32.toInt_ofInt_of_le (by omega) (by omega)
theorem zI_lt {a b : Int} (ha : -2147483648 ≤ a ∧ a ≤ 2147483647) (hb : -2147483648 ≤ b ∧ b ≤ 2147483647) : zI a < zI b ↔ a < b := by
  rw [Int32.lt_iff_toInt_lt, zI_toInt ha, zI_toInt hb]
theorem zI_le {a b : Int} (ha : -2147483648 ≤ a ∧ a ≤ 2147483647) (hb : -2147483648 ≤ b ∧ b ≤ 2147483647) : zI a ≤ zI b ↔ a ≤ b := by
  rw [Int32.le_iff_toInt_le, zI_toInt ha, zI_toInt hb]
theorem zI_eq {a b : Int} (ha : -2147483648 ≤ a ∧ a ≤ 2147483647) (hb : -2147483648 ≤ b ∧ b ≤ 2147483647) : zI a = zI b ↔ a = b := by
  rw [← Int32.toInt_inj, zI_toInt ha, zI_toInt hb]
theorem zI_0 : (0 : Int32) = zI 0 := by decide +kernel
theorem zI_of (x : Int32) : x = zI x.toInt := (Int32.ofInt_toInt x).symm
theorem zI_rng (x : Int32) : -2147483648 ≤ x.toInt ∧ x.toInt ≤ 2147483647 := ⟨by have := x.le_toInt; omega, by have := x.toInt_lt; omega⟩
theorem zI_add (a b : Int) : zI a + zI b = zI (a + b) := (Int32.ofInt_add a b).symm
theorem zI_sub (a b : Int) : zI a - zI b = zI (a - b) := (Int32.ofInt_sub a b).symm
theorem zI_mul (a b : Int) : zI a * zI b = zI (a * b) := (Int32.ofInt_mul a b).symm
theorem zI_neg (a : Int) : -zI a = zI (-a) := (Int32.ofInt_neg a).symm
theorem zI_nN (n : Nat) : nI n = zI (n : Int) := Int32.ofInt_eq_ofNat.symm
theorem zI_min : Int32.minValue.toInt = -2147483648 := by decide +kernel
theorem zI_max : Int32.maxValue.toInt = 2147483647 := by decide +kernel
theorem zI_tdiv {a b : Int} (ha : -2147483648 ≤ a ∧ a ≤ 2147483647) (hb : 0 < b ∧ b ≤ 2147483647) : zI a / zI b = zI (a.tdiv b) :=
  (Int32.ofInt_tdiv (by rw [zI_min]; omega) (by rw [zI_max]; omega) (by rw [zI_min]; omega) (by rw [zI_max]; omega)).symm
theorem zI_tmod {a b : Int} (ha : -2147483648 ≤ a ∧ a ≤ 2147483647) (hb : 0 < b ∧ b ≤ 2147483647) : zI a - zI a / zI b * zI b = zI (a.tmod b) := by
  rw [zI_tdiv ha hb, zI_mul, zI_sub]
  exact congrArg zI (by rw [Int.tmod_def, Int.mul_comm])
theorem zI_div {a b : Int} (ha : 0 ≤ a ∧ a ≤ 2147483647) (hb : 0 < b ∧ b ≤ 2147483647) : zI a / zI b = zI (a / b) := by
  rw [zI_tdiv (by omega) hb, Int.tdiv_eq_ediv_of_nonneg ha.1]
theorem zI_mod {a b : Int} (ha : 0 ≤ a ∧ a ≤ 2147483647) (hb : 0 < b ∧ b ≤ 2147483647) : zI a - zI a / zI b * zI b = zI (a % b) := by
  rw [zI_tmod (by omega) hb, Int.tmod_eq_emod_of_nonneg ha.1]
theorem zI_ne0 {b : Int} (hb : 0 < b ∧ b ≤ 2147483647) : ¬ zI b = 0 := by
  rw [zI_0, zI_eq (by omega) (by omega)]; omega
theorem zI_ix {i : Int} {n : Nat} (h : 0 ≤ i ∧ i < (n : Int)) (hn : i ≤ 2147483647) : vp_in (zI i) n := by
  rw [vp_in_iff, zI_toInt (by omega)]; exact h
theorem zI_cl {i : Int} (h : 0 ≤ i) (hn : i ≤ 2147483647) : (zI i).toNatClampNeg = i.toNat := Int32.toNatClampNeg_ofInt_of_le (by omega) (by omega)
theorem zA_at {f : Int → Int} {i : Int} (h : 0 ≤ i) (hn : i ≤ 2147483647) : zA f (zI i).toNatClampNeg = zI (f i) := by
  rw [zI_cl h hn]; show zI (f ((i.toNat : Nat) : Int)) = _; rw [Int.toNat_of_nonneg h]
theorem zA_up {f : Int → Int} {i v : Int} (h : 0 ≤ i) (hn : i ≤ 2147483647) : upd (zA f) (zI i).toNatClampNeg (zI v) = zA (zU f i v) := by
  funext j
  rw [zI_cl h hn]
  show (if j = i.toNat then zI v else zI (f (j : Int))) = zI (if (j : Int) = i then v else f (j : Int))
  by_cases hj : j = i.toNat
  · rw [if_pos hj, if_pos (by omega)]
  · rw [if_neg hj, if_neg (by omega)]
theorem zAL_at {f : Int → Int} {i : Int} (h : 0 ≤ i) (hn : i ≤ 2147483647) : zAL f (zI i).toNatClampNeg = zL (f i) := by
  rw [zI_cl h hn]; show zL (f ((i.toNat : Nat) : Int)) = _; rw [Int.toNat_of_nonneg h]
theorem zAL_up {f : Int → Int} {i v : Int} (h : 0 ≤ i) (hn : i ≤ 2147483647) : vp_updL (zAL f) (zI i).toNatClampNeg (zL v) = zAL (zU f i v) := by
  funext j
  rw [zI_cl h hn]
  show (if j = i.toNat then zL v else zL (f (j : Int))) = zL (if (j : Int) = i then v else f (j : Int))
  by_cases hj : j = i.toNat
  · rw [if_pos hj, if_pos (by omega)]
  · rw [if_neg hj, if_neg (by omega)]
-- bits
theorem zI_and1 (a : Int) : zI a &&& zI 1 = zI (a % 2) := by
  rw [pk_and (zI a) (m := zI 1) 1 (by decide +kernel), zI_nN]
  refine congrArg zI ?_
  show (((BitVec.ofInt 32 a).toNat % 2 ^ 1 : Nat) : Int) = a % 2
  rw [BitVec.toNat_ofInt]
  omega
theorem zI_shc : ∀ n : Fin 32, ((zI (n.val : Int) &&& 31).toBitVec.smod 32).toNat = n.val := by decide +kernel
theorem zI_shr {a k : Int} (ha : -2147483648 ≤ a ∧ a ≤ 2147483647) (hk : 0 ≤ k ∧ k < 32) : zI a >>> (zI k &&& 31) = zI (a / 2 ^ k.toNat) := by
  have hs := zI_shc ⟨k.toNat, by omega⟩
  have hk' : ((k.toNat : Nat) : Int) = k := Int.toNat_of_nonneg hk.1
  simp only [hk'] at hs
  apply Int32.toInt_inj.mp
  rw [pk_shr _ _ _ hs, zI_toInt ha]
  have h1 : a >>> k.toNat = a / 2 ^ k.toNat := by rw [Int.shiftRight_eq_div_pow]; norm_cast
  rw [h1, zI_toInt]
  have hp : (0 : Int) < 2 ^ k.toNat := Int.pow_pos (by decide)
  have hp1 : (1 : Int) ≤ 2 ^ k.toNat := hp
  constructor
  · apply Int.le_ediv_of_mul_le hp
    calc -2147483648 * 2 ^ k.toNat ≤ -2147483648 * 1 := by apply Int.mul_le_mul_of_nonpos_left (by decide) hp1
      _ ≤ a := by omega
  · exact Int.le_trans (Int.ediv_le_ediv hp ha.2) (Int.ediv_le_self _ (by decide))
theorem zI_shl1 : ∀ n : Fin 31, (zI 1) <<< (zI (n.val : Int) &&& 31) = zI ((2 ^ n.val : Nat) : Int) := by decide +kernel
theorem zI_bv (a : Int) : (zI a).toBitVec = BitVec.ofInt 32 a := rfl
theorem zI_tn {a : Int} (h : 0 ≤ a ∧ a ≤ 4294967295) : (zI a).toBitVec.toNat = a.toNat := by
  rw [zI_bv, BitVec.toNat_ofInt]; omega
def zOr (a b : Int) : Int := ((a.toNat ||| b.toNat : Nat) : Int)
def zAnd (a b : Int) : Int := ((a.toNat &&& b.toNat : Nat) : Int)
theorem zI_or {a b : Int} (ha : 0 ≤ a ∧ a < 2147483648) (hb : 0 ≤ b ∧ b < 2147483648) : zI a ||| zI b = zI (zOr a b) := by
  have e1 : zI a = nI a.toNat := by rw [zI_nN, Int.toNat_of_nonneg ha.1]
  have e2 : zI b = nI b.toNat := by rw [zI_nN, Int.toNat_of_nonneg hb.1]
  rw [e1, e2, zOr, ← zI_nN]
  apply Int32.toBitVec_inj.mp
  apply BitVec.eq_of_toNat_eq
  rw [Int32.toBitVec_or, BitVec.toNat_or, pk_tn (by omega), pk_tn (by omega)]
  have hlt : a.toNat ||| b.toNat < 2 ^ 31 := Nat.or_lt_two_pow (by omega) (by omega)
  rw [pk_tn (by omega)]
theorem zI_and {a b : Int} (ha : 0 ≤ a ∧ a < 2147483648) (hb : 0 ≤ b ∧ b < 2147483648) : zI a &&& zI b = zI (zAnd a b) := by
  have e1 : zI a = nI a.toNat := by rw [zI_nN, Int.toNat_of_nonneg ha.1]
  have e2 : zI b = nI b.toNat := by rw [zI_nN, Int.toNat_of_nonneg hb.1]
  rw [e1, e2, zAnd, ← zI_nN]
  apply Int32.toBitVec_inj.mp
  apply BitVec.eq_of_toNat_eq
  rw [Int32.toBitVec_and, BitVec.toNat_and, pk_tn (by omega), pk_tn (by omega)]
  have hlt : a.toNat &&& b.toNat < 2 ^ 31 := Nat.lt_of_le_of_lt Nat.and_le_left (by omega)
  rw [pk_tn (by omega)]
/-- the ONE k is in the set T -/
def inS (T k : Int) : Bool := decide (0 ≤ k) && (decide (k < 9) && decide (T / 2 ^ k.toNat % 2 = 1))
theorem inS_iff {T k : Int} : inS T k = true ↔ (0 ≤ k ∧ k < 9) ∧ T / 2 ^ k.toNat % 2 = 1 := by
  unfold inS
  simp only [Bool.and_eq_true, decide_eq_true_eq]
  constructor
  · intro h; exact ⟨⟨h.1, h.2.1⟩, h.2.2⟩
  · intro h; exact ⟨h.1.1, h.1.2, h.2⟩
theorem inS.rng {T k : Int} (h : inS T k = true) : 0 ≤ k ∧ k < 9 := (inS_iff.mp h).1
-- a world, its heap, the frame
def zH (D : va_G) (A : Nat → Prop) (H0 : Heap) (ws : va_W) (H : Heap) (locs : List Loc) : Prop := va_P D vwCl ws H ∧ va_D A ws ∧ va_S A H0 H locs
abbrev zT (cI cJ cZ : ClassId) : List (ClassId × FieldType) := [(cI, .int), (cJ, .long), (cZ, .boolean)]
abbrev zK (D : va_G) (cI cJ cZ : ClassId) (s : State) : Prop := va_K D vwCl (zT cI cJ cZ) s
def zF (ws : va_W) : Nat → Prop := fun q => ∃ (k : Nat) (e : va_E), ws[k]? = some (q, e)
abbrev zRm (k : Nat) : Room := { frames := k, cells := 0, slots := 0, locals := 36 * k }
/-- a method's start: its arguments, its world -/
def zPc (D : va_G) (cI cJ cZ : ClassId) (av : List Value) (ws : va_W) : Array Value → State → Prop := va_Pc av (fun U => va_P D vwCl ws U.heap ∧ zK D cI cJ cZ U ∧ va_D (fun _ => True) ws)
/-- its end: nothing written -/
def zQp (rv : Option Value) : Array Value → State → Outcome → State → Prop := fun _ st oc t => oc = .returned rv ∧ t.heap = st.heap
/-- its end: its own world written, at the same addresses -/
def zQw (D : va_G) {S : Type} (φ : S → Prop) (rv : S → Option Value) (wo : S → va_W) (ws : va_W) : Array Value → State → Outcome → State → Prop := fun _ st oc t =>
  ∃ u : S, φ u ∧ oc = .returned (rv u) ∧ va_P D vwCl (wo u) t.heap ∧ va_F (zF ws) st t
def zMp (l : Launch) (y : MethodName) (wy : List Cond) (rm : Room) (D : va_G) (cI cJ cZ : ClassId) (av : List Value) (ws : va_W) (rv : Option Value) : Prop :=
  Met l y wy rm (zPc D cI cJ cZ av ws) (zQp rv) 0 0 (fun _ => False)
def zMw (l : Launch) (y : MethodName) (wy : List Cond) (rm : Room) (D : va_G) (cI cJ cZ : ClassId) (av : List Value) (ws : va_W) {S : Type} (φ : S → Prop) (rv : S → Option Value) (wo : S → va_W) : Prop :=
  (∀ u : S, (wo u).map Prod.fst = ws.map Prod.fst) ∧ Met l y wy rm (zPc D cI cJ cZ av ws) (zQw D φ rv wo ws) 0 0 (zF ws)
theorem zPc_blind {D : va_G} {cI cJ cZ : ClassId} {av : List Value} {ws : va_W} : FrameBlind (zPc D cI cJ cZ av ws) := fun a U g mk q => by
  obtain ⟨q0, q1, q2, q3⟩ := q
  exact ⟨q0, q1, va_K.moved (u := U) (U := U.calling g mk a) (Vm.Alike.refl U.vm) q2, q3⟩
theorem zI_eq0 {a : Int} (ha : -2147483648 ≤ a ∧ a ≤ 2147483647) : zI a = 0 ↔ a = 0 := by rw [zI_0]; exact zI_eq ha (by decide)
theorem zI_lt0 {a : Int} (ha : -2147483648 ≤ a ∧ a ≤ 2147483647) : zI a < 0 ↔ a < 0 := by rw [zI_0]; exact zI_lt ha (by decide)
theorem zI_le0 {a : Int} (ha : -2147483648 ≤ a ∧ a ≤ 2147483647) : zI a ≤ 0 ↔ a ≤ 0 := by rw [zI_0]; exact zI_le ha (by decide)
theorem zI_0lt {a : Int} (ha : -2147483648 ≤ a ∧ a ≤ 2147483647) : 0 < zI a ↔ 0 < a := by rw [zI_0]; exact zI_lt (by decide) ha
theorem zI_0le {a : Int} (ha : -2147483648 ≤ a ∧ a ≤ 2147483647) : 0 ≤ zI a ↔ 0 ≤ a := by rw [zI_0]; exact zI_le (by decide) ha
section ZR
variable {p : Program} {l : Launch} {e : Env} {R : Room} {s : State} {m : MethodId} {args : Array Value} {below : List Frame} {meth : Method} {c : Code} {H : Heap} {locs : List Loc} {cells slots : Nat} {Q : State → Prop}
variable {cc : ByteArray} {pc : Nat} {ls : Array Slot} {rest : List Value} {D : va_G} {A : Nat → Prop} {a0 : Nat} {cI cJ cZ : ClassId} {ws : va_W} {H0 : Heap}
-- constants
theorem z_iconst (hx : p.tables.exec = Jvm.exec) (hb : c.code = cc) {n : Int} (hdg : decode cc pc = .ok (.iconst n, 1)) (k : W p l e R s m args below meth c H locs cells slots Q (F0 m (pc + 1) ls (.int (zI n) :: rest))) : W p l e R s m args below meth c H locs cells slots Q (F0 m pc ls rest) := lv_iconst hx hb hdg rfl k
theorem z_bipush (hx : p.tables.exec = Jvm.exec) (hb : c.code = cc) {n : Int} (hdg : decode cc pc = .ok (.bipush n, 2)) (hn : -128 ≤ n ∧ n ≤ 127) (k : W p l e R s m args below meth c H locs cells slots Q (F0 m (pc + 2) ls (.int (zI n) :: rest))) : W p l e R s m args below meth c H locs cells slots Q (F0 m pc ls rest) := lv_bipush hx hb hdg (by
  apply Int32.toInt_inj.mp
  rw [zI_toInt (by omega), Int8.toInt_toInt32, Int8.toInt_ofInt_of_le (by omega) (by omega)]) k
theorem z_sipush (hx : p.tables.exec = Jvm.exec) (hb : c.code = cc) {n : Int} (hdg : decode cc pc = .ok (.sipush n, 3)) (hn : -32768 ≤ n ∧ n ≤ 32767) (k : W p l e R s m args below meth c H locs cells slots Q (F0 m (pc + 3) ls (.int (zI n) :: rest))) : W p l e R s m args below meth c H locs cells slots Q (F0 m pc ls rest) := lv_sipush hx hb hdg (by
  apply Int32.toInt_inj.mp
  rw [zI_toInt (by omega), Int16.toInt_toInt32, Int16.toInt_ofInt_of_le (by omega) (by omega)]) k
theorem z_ldc (hx : p.tables.exec = Jvm.exec) (hb : c.code = cc) {own : String} {index : Nat} {v : Int32} {n : Int} (hown : s.vm.findClass own = some m.cls) (hc : (Jvm.Cond.constant own index v).before args s = true) (hv : v = zI n) (hdg : decode cc pc = .ok (.ldc index, 2)) (k : W p l e R s m args below meth c H locs cells slots Q (F0 m (pc + 2) ls (.int (zI n) :: rest))) : W p l e R s m args below meth c H locs cells slots Q (F0 m pc ls rest) := lv_ldc hx hb hown hc hdg (by rw [hv]; exact k)
-- arithmetic
theorem z_iadd (hx : p.tables.exec = Jvm.exec) (hb : c.code = cc) {a b : Int} (hdg : decode cc pc = .ok (.iadd, 1)) (k : W p l e R s m args below meth c H locs cells slots Q (F0 m (pc + 1) ls (.int (zI (a + b)) :: rest))) : W p l e R s m args below meth c H locs cells slots Q (F0 m pc ls (.int (zI b) :: .int (zI a) :: rest)) := lv_iadd hx hb hdg (by rw [zI_add]; exact k)
theorem z_isub (hx : p.tables.exec = Jvm.exec) (hb : c.code = cc) {a b : Int} (hdg : decode cc pc = .ok (.isub, 1)) (k : W p l e R s m args below meth c H locs cells slots Q (F0 m (pc + 1) ls (.int (zI (a - b)) :: rest))) : W p l e R s m args below meth c H locs cells slots Q (F0 m pc ls (.int (zI b) :: .int (zI a) :: rest)) := lv_isub hx hb hdg (by rw [zI_sub]; exact k)
theorem z_imul (hx : p.tables.exec = Jvm.exec) (hb : c.code = cc) {a b : Int} (hdg : decode cc pc = .ok (.imul, 1)) (k : W p l e R s m args below meth c H locs cells slots Q (F0 m (pc + 1) ls (.int (zI (a * b)) :: rest))) : W p l e R s m args below meth c H locs cells slots Q (F0 m pc ls (.int (zI b) :: .int (zI a) :: rest)) := lv_imul hx hb hdg (by rw [zI_mul]; exact k)
theorem z_ineg (hx : p.tables.exec = Jvm.exec) (hb : c.code = cc) {a : Int} (hdg : decode cc pc = .ok (.ineg, 1)) (k : W p l e R s m args below meth c H locs cells slots Q (F0 m (pc + 1) ls (.int (zI (-a)) :: rest))) : W p l e R s m args below meth c H locs cells slots Q (F0 m pc ls (.int (zI a) :: rest)) := lv_ineg hx hb hdg (by rw [zI_neg]; exact k)
theorem z_idiv (hx : p.tables.exec = Jvm.exec) (hb : c.code = cc) {a b : Int} (hdg : decode cc pc = .ok (.idiv, 1)) (ha : 0 ≤ a ∧ a ≤ 2147483647) (h0 : 0 < b ∧ b ≤ 2147483647) (k : W p l e R s m args below meth c H locs cells slots Q (F0 m (pc + 1) ls (.int (zI (a / b)) :: rest))) : W p l e R s m args below meth c H locs cells slots Q (F0 m pc ls (.int (zI b) :: .int (zI a) :: rest)) := lv_idiv hx hb hdg (zI_ne0 h0) (by rw [zI_div ha h0]; exact k)
theorem z_irem (hx : p.tables.exec = Jvm.exec) (hb : c.code = cc) {a b : Int} (hdg : decode cc pc = .ok (.irem, 1)) (ha : 0 ≤ a ∧ a ≤ 2147483647) (h0 : 0 < b ∧ b ≤ 2147483647) (k : W p l e R s m args below meth c H locs cells slots Q (F0 m (pc + 1) ls (.int (zI (a % b)) :: rest))) : W p l e R s m args below meth c H locs cells slots Q (F0 m pc ls (.int (zI b) :: .int (zI a) :: rest)) := lv_irem hx hb hdg (zI_ne0 h0) (by rw [zI_mod ha h0]; exact k)
theorem z_idivT (hx : p.tables.exec = Jvm.exec) (hb : c.code = cc) {a b : Int} (hdg : decode cc pc = .ok (.idiv, 1)) (ha : -2147483648 ≤ a ∧ a ≤ 2147483647) (h0 : 0 < b ∧ b ≤ 2147483647) (k : W p l e R s m args below meth c H locs cells slots Q (F0 m (pc + 1) ls (.int (zI (a.tdiv b)) :: rest))) : W p l e R s m args below meth c H locs cells slots Q (F0 m pc ls (.int (zI b) :: .int (zI a) :: rest)) := lv_idiv hx hb hdg (zI_ne0 h0) (by rw [zI_tdiv ha h0]; exact k)
theorem z_iremT (hx : p.tables.exec = Jvm.exec) (hb : c.code = cc) {a b : Int} (hdg : decode cc pc = .ok (.irem, 1)) (ha : -2147483648 ≤ a ∧ a ≤ 2147483647) (h0 : 0 < b ∧ b ≤ 2147483647) (k : W p l e R s m args below meth c H locs cells slots Q (F0 m (pc + 1) ls (.int (zI (a.tmod b)) :: rest))) : W p l e R s m args below meth c H locs cells slots Q (F0 m pc ls (.int (zI b) :: .int (zI a) :: rest)) := lv_irem hx hb hdg (zI_ne0 h0) (by rw [zI_tmod ha h0]; exact k)
theorem z_ishr (hx : p.tables.exec = Jvm.exec) (hb : c.code = cc) {a b : Int} (hdg : decode cc pc = .ok (.ishr, 1)) (ha : -2147483648 ≤ a ∧ a ≤ 2147483647) (h0 : 0 ≤ b ∧ b < 32) (k : W p l e R s m args below meth c H locs cells slots Q (F0 m (pc + 1) ls (.int (zI (a / 2 ^ b.toNat)) :: rest))) : W p l e R s m args below meth c H locs cells slots Q (F0 m pc ls (.int (zI b) :: .int (zI a) :: rest)) := lv_ishr hx hb hdg (by rw [zI_shr ha h0]; exact k)
theorem z_ishl1 (hx : p.tables.exec = Jvm.exec) (hb : c.code = cc) {b : Int} (hdg : decode cc pc = .ok (.ishl, 1)) (h0 : 0 ≤ b ∧ b < 31) (k : W p l e R s m args below meth c H locs cells slots Q (F0 m (pc + 1) ls (.int (zI (2 ^ b.toNat)) :: rest))) : W p l e R s m args below meth c H locs cells slots Q (F0 m pc ls (.int (zI b) :: .int (zI 1) :: rest)) := lv_ishl hx hb hdg (by
  have h := zI_shl1 ⟨b.toNat, by omega⟩
  simp only [Int.toNat_of_nonneg h0.1] at h
  rw [h]; simpa using k)
theorem z_iand1 (hx : p.tables.exec = Jvm.exec) (hb : c.code = cc) {a : Int} (hdg : decode cc pc = .ok (.iand, 1)) (k : W p l e R s m args below meth c H locs cells slots Q (F0 m (pc + 1) ls (.int (zI (a % 2)) :: rest))) : W p l e R s m args below meth c H locs cells slots Q (F0 m pc ls (.int (zI 1) :: .int (zI a) :: rest)) := lv_iand hx hb hdg (by rw [zI_and1]; exact k)
theorem z_iand (hx : p.tables.exec = Jvm.exec) (hb : c.code = cc) {a b : Int} (hdg : decode cc pc = .ok (.iand, 1)) (ha : 0 ≤ a ∧ a < 2147483648) (h0 : 0 ≤ b ∧ b < 2147483648) (k : W p l e R s m args below meth c H locs cells slots Q (F0 m (pc + 1) ls (.int (zI (zAnd a b)) :: rest))) : W p l e R s m args below meth c H locs cells slots Q (F0 m pc ls (.int (zI b) :: .int (zI a) :: rest)) := lv_iand hx hb hdg (by rw [zI_and ha h0]; exact k)
theorem z_ior (hx : p.tables.exec = Jvm.exec) (hb : c.code = cc) {a b : Int} (hdg : decode cc pc = .ok (.ior, 1)) (ha : 0 ≤ a ∧ a < 2147483648) (h0 : 0 ≤ b ∧ b < 2147483648) (k : W p l e R s m args below meth c H locs cells slots Q (F0 m (pc + 1) ls (.int (zI (zOr a b)) :: rest))) : W p l e R s m args below meth c H locs cells slots Q (F0 m pc ls (.int (zI b) :: .int (zI a) :: rest)) := lv_ior hx hb hdg (by rw [zI_or ha h0]; exact k)
theorem z_iinc (hx : p.tables.exec = Jvm.exec) (hb : c.code = cc) {i nL k : Nat} {n a : Int} {lv lv' : List (Nat × Value)} (hdg : decode cc pc = .ok (.iinc i n, 3)) (h : lv_has ls nL lv) (hk : lv[k]? = some (i, .int (zI a))) (hn : i < nL) (hl : (i, Value.int (zI (a + n))) :: lv.filter (fun q => !(q.1 == i) && !(q.1 + 1 == i && q.2.category == 2)) = lv')
    (k : ∀ ls' : Array Slot, lv_has ls' nL lv' → W p l e R s m args below meth c H locs cells slots Q (F0 m (pc + 3) ls' rest)) : W p l e R s m args below meth c H locs cells slots Q (F0 m pc ls rest) := lv_iinc hx hb hdg h hk (by show zI a + zI n = _; rw [zI_add]) hn hl k
theorem z_icmp_eq (hx : p.tables.exec = Jvm.exec) (hb : c.code = cc) {a b : Int} {off : Int} {tgt : Nat} (hdg : decode cc pc = .ok (.if_icmp .eq off, 3)) (ht : (pc : Int) + off = (tgt : Int)) (ha : -2147483648 ≤ a ∧ a ≤ 2147483647) (hb2 : -2147483648 ≤ b ∧ b ≤ 2147483647)
    (kt : a = b → W p l e R s m args below meth c H locs cells slots Q (F0 m tgt ls rest)) (kf : ¬ a = b → W p l e R s m args below meth c H locs cells slots Q (F0 m (pc + 3) ls rest)) : W p l e R s m args below meth c H locs cells slots Q (F0 m pc ls (.int (zI b) :: .int (zI a) :: rest)) := lv_icmp_eq hx hb hdg ht (fun h => kt ((zI_eq ha hb2).mp h)) (fun h => kf (fun q => h ((zI_eq ha hb2).mpr q)))
theorem z_icmp_ne (hx : p.tables.exec = Jvm.exec) (hb : c.code = cc) {a b : Int} {off : Int} {tgt : Nat} (hdg : decode cc pc = .ok (.if_icmp .ne off, 3)) (ht : (pc : Int) + off = (tgt : Int)) (ha : -2147483648 ≤ a ∧ a ≤ 2147483647) (hb2 : -2147483648 ≤ b ∧ b ≤ 2147483647)
    (kt : ¬ a = b → W p l e R s m args below meth c H locs cells slots Q (F0 m tgt ls rest)) (kf : a = b → W p l e R s m args below meth c H locs cells slots Q (F0 m (pc + 3) ls rest)) : W p l e R s m args below meth c H locs cells slots Q (F0 m pc ls (.int (zI b) :: .int (zI a) :: rest)) := lv_icmp_ne hx hb hdg ht (fun h => kt (fun q => h ((zI_eq ha hb2).mpr q))) (fun h => kf ((zI_eq ha hb2).mp h))
theorem z_icmp_lt (hx : p.tables.exec = Jvm.exec) (hb : c.code = cc) {a b : Int} {off : Int} {tgt : Nat} (hdg : decode cc pc = .ok (.if_icmp .lt off, 3)) (ht : (pc : Int) + off = (tgt : Int)) (ha : -2147483648 ≤ a ∧ a ≤ 2147483647) (hb2 : -2147483648 ≤ b ∧ b ≤ 2147483647)
    (kt : a < b → W p l e R s m args below meth c H locs cells slots Q (F0 m tgt ls rest)) (kf : ¬ a < b → W p l e R s m args below meth c H locs cells slots Q (F0 m (pc + 3) ls rest)) : W p l e R s m args below meth c H locs cells slots Q (F0 m pc ls (.int (zI b) :: .int (zI a) :: rest)) := lv_icmp_lt hx hb hdg ht (fun h => kt ((zI_lt ha hb2).mp h)) (fun h => kf (fun q => h ((zI_lt ha hb2).mpr q)))
theorem z_icmp_ge (hx : p.tables.exec = Jvm.exec) (hb : c.code = cc) {a b : Int} {off : Int} {tgt : Nat} (hdg : decode cc pc = .ok (.if_icmp .ge off, 3)) (ht : (pc : Int) + off = (tgt : Int)) (ha : -2147483648 ≤ a ∧ a ≤ 2147483647) (hb2 : -2147483648 ≤ b ∧ b ≤ 2147483647)
    (kt : b ≤ a → W p l e R s m args below meth c H locs cells slots Q (F0 m tgt ls rest)) (kf : ¬ b ≤ a → W p l e R s m args below meth c H locs cells slots Q (F0 m (pc + 3) ls rest)) : W p l e R s m args below meth c H locs cells slots Q (F0 m pc ls (.int (zI b) :: .int (zI a) :: rest)) := lv_icmp_ge hx hb hdg ht (fun h => kt ((zI_le hb2 ha).mp h)) (fun h => kf (fun q => h ((zI_le hb2 ha).mpr q)))
theorem z_icmp_gt (hx : p.tables.exec = Jvm.exec) (hb : c.code = cc) {a b : Int} {off : Int} {tgt : Nat} (hdg : decode cc pc = .ok (.if_icmp .gt off, 3)) (ht : (pc : Int) + off = (tgt : Int)) (ha : -2147483648 ≤ a ∧ a ≤ 2147483647) (hb2 : -2147483648 ≤ b ∧ b ≤ 2147483647)
    (kt : b < a → W p l e R s m args below meth c H locs cells slots Q (F0 m tgt ls rest)) (kf : ¬ b < a → W p l e R s m args below meth c H locs cells slots Q (F0 m (pc + 3) ls rest)) : W p l e R s m args below meth c H locs cells slots Q (F0 m pc ls (.int (zI b) :: .int (zI a) :: rest)) := lv_icmp_gt hx hb hdg ht (fun h => kt ((zI_lt hb2 ha).mp h)) (fun h => kf (fun q => h ((zI_lt hb2 ha).mpr q)))
theorem z_icmp_le (hx : p.tables.exec = Jvm.exec) (hb : c.code = cc) {a b : Int} {off : Int} {tgt : Nat} (hdg : decode cc pc = .ok (.if_icmp .le off, 3)) (ht : (pc : Int) + off = (tgt : Int)) (ha : -2147483648 ≤ a ∧ a ≤ 2147483647) (hb2 : -2147483648 ≤ b ∧ b ≤ 2147483647)
    (kt : a ≤ b → W p l e R s m args below meth c H locs cells slots Q (F0 m tgt ls rest)) (kf : ¬ a ≤ b → W p l e R s m args below meth c H locs cells slots Q (F0 m (pc + 3) ls rest)) : W p l e R s m args below meth c H locs cells slots Q (F0 m pc ls (.int (zI b) :: .int (zI a) :: rest)) := lv_icmp_le hx hb hdg ht (fun h => kt ((zI_le ha hb2).mp h)) (fun h => kf (fun q => h ((zI_le ha hb2).mpr q)))
theorem z_if_eq (hx : p.tables.exec = Jvm.exec) (hb : c.code = cc) {a : Int} {off : Int} {tgt : Nat} (hdg : decode cc pc = .ok (.ifCond .eq off, 3)) (ht : (pc : Int) + off = (tgt : Int)) (ha : -2147483648 ≤ a ∧ a ≤ 2147483647)
    (kt : a = 0 → W p l e R s m args below meth c H locs cells slots Q (F0 m tgt ls rest)) (kf : ¬ a = 0 → W p l e R s m args below meth c H locs cells slots Q (F0 m (pc + 3) ls rest)) : W p l e R s m args below meth c H locs cells slots Q (F0 m pc ls (.int (zI a) :: rest)) := lv_if_eq hx hb hdg ht (fun h => kt ((zI_eq0 ha).mp h)) (fun h => kf (fun q => h ((zI_eq0 ha).mpr q)))
theorem z_if_ne (hx : p.tables.exec = Jvm.exec) (hb : c.code = cc) {a : Int} {off : Int} {tgt : Nat} (hdg : decode cc pc = .ok (.ifCond .ne off, 3)) (ht : (pc : Int) + off = (tgt : Int)) (ha : -2147483648 ≤ a ∧ a ≤ 2147483647)
    (kt : ¬ a = 0 → W p l e R s m args below meth c H locs cells slots Q (F0 m tgt ls rest)) (kf : a = 0 → W p l e R s m args below meth c H locs cells slots Q (F0 m (pc + 3) ls rest)) : W p l e R s m args below meth c H locs cells slots Q (F0 m pc ls (.int (zI a) :: rest)) := lv_if_ne hx hb hdg ht (fun h => kt (fun q => h ((zI_eq0 ha).mpr q))) (fun h => kf ((zI_eq0 ha).mp h))
theorem z_if_lt (hx : p.tables.exec = Jvm.exec) (hb : c.code = cc) {a : Int} {off : Int} {tgt : Nat} (hdg : decode cc pc = .ok (.ifCond .lt off, 3)) (ht : (pc : Int) + off = (tgt : Int)) (ha : -2147483648 ≤ a ∧ a ≤ 2147483647)
    (kt : a < 0 → W p l e R s m args below meth c H locs cells slots Q (F0 m tgt ls rest)) (kf : ¬ a < 0 → W p l e R s m args below meth c H locs cells slots Q (F0 m (pc + 3) ls rest)) : W p l e R s m args below meth c H locs cells slots Q (F0 m pc ls (.int (zI a) :: rest)) := lv_if_lt hx hb hdg ht (fun h => kt ((zI_lt0 ha).mp h)) (fun h => kf (fun q => h ((zI_lt0 ha).mpr q)))
theorem z_if_ge (hx : p.tables.exec = Jvm.exec) (hb : c.code = cc) {a : Int} {off : Int} {tgt : Nat} (hdg : decode cc pc = .ok (.ifCond .ge off, 3)) (ht : (pc : Int) + off = (tgt : Int)) (ha : -2147483648 ≤ a ∧ a ≤ 2147483647)
    (kt : 0 ≤ a → W p l e R s m args below meth c H locs cells slots Q (F0 m tgt ls rest)) (kf : ¬ 0 ≤ a → W p l e R s m args below meth c H locs cells slots Q (F0 m (pc + 3) ls rest)) : W p l e R s m args below meth c H locs cells slots Q (F0 m pc ls (.int (zI a) :: rest)) := lv_if_ge hx hb hdg ht (fun h => kt ((zI_0le ha).mp h)) (fun h => kf (fun q => h ((zI_0le ha).mpr q)))
theorem z_if_gt (hx : p.tables.exec = Jvm.exec) (hb : c.code = cc) {a : Int} {off : Int} {tgt : Nat} (hdg : decode cc pc = .ok (.ifCond .gt off, 3)) (ht : (pc : Int) + off = (tgt : Int)) (ha : -2147483648 ≤ a ∧ a ≤ 2147483647)
    (kt : 0 < a → W p l e R s m args below meth c H locs cells slots Q (F0 m tgt ls rest)) (kf : ¬ 0 < a → W p l e R s m args below meth c H locs cells slots Q (F0 m (pc + 3) ls rest)) : W p l e R s m args below meth c H locs cells slots Q (F0 m pc ls (.int (zI a) :: rest)) := lv_if_gt hx hb hdg ht (fun h => kt ((zI_0lt ha).mp h)) (fun h => kf (fun q => h ((zI_0lt ha).mpr q)))
theorem z_if_le (hx : p.tables.exec = Jvm.exec) (hb : c.code = cc) {a : Int} {off : Int} {tgt : Nat} (hdg : decode cc pc = .ok (.ifCond .le off, 3)) (ht : (pc : Int) + off = (tgt : Int)) (ha : -2147483648 ≤ a ∧ a ≤ 2147483647)
    (kt : a ≤ 0 → W p l e R s m args below meth c H locs cells slots Q (F0 m tgt ls rest)) (kf : ¬ a ≤ 0 → W p l e R s m args below meth c H locs cells slots Q (F0 m (pc + 3) ls rest)) : W p l e R s m args below meth c H locs cells slots Q (F0 m pc ls (.int (zI a) :: rest)) := lv_if_le hx hb hdg ht (fun h => kt ((zI_le0 ha).mp h)) (fun h => kf (fun q => h ((zI_le0 ha).mpr q)))
theorem z_ifb_eq (hx : p.tables.exec = Jvm.exec) (hb : c.code = cc) {P : Prop} [hP : Decidable P] {off : Int} {tgt : Nat} (hdg : decode cc pc = .ok (.ifCond .eq off, 3)) (ht : (pc : Int) + off = (tgt : Int))
    (kt : ¬ P → W p l e R s m args below meth c H locs cells slots Q (F0 m tgt ls rest)) (kf : P → W p l e R s m args below meth c H locs cells slots Q (F0 m (pc + 3) ls rest)) : W p l e R s m args below meth c H locs cells slots Q (F0 m pc ls (.int (zI (if P then 1 else 0)) :: rest)) := by
  by_cases h : P
  · rw [if_pos h]
    exact z_if_eq hx hb hdg ht (by decide) (fun q => absurd q (by decide)) (fun q => kf h)
  · rw [if_neg h]
    exact z_if_eq hx hb hdg ht (by decide) (fun q => kt h) (fun q => absurd rfl q)
theorem z_ifb_ne (hx : p.tables.exec = Jvm.exec) (hb : c.code = cc) {P : Prop} [hP : Decidable P] {off : Int} {tgt : Nat} (hdg : decode cc pc = .ok (.ifCond .ne off, 3)) (ht : (pc : Int) + off = (tgt : Int))
    (kt : P → W p l e R s m args below meth c H locs cells slots Q (F0 m tgt ls rest)) (kf : ¬ P → W p l e R s m args below meth c H locs cells slots Q (F0 m (pc + 3) ls rest)) : W p l e R s m args below meth c H locs cells slots Q (F0 m pc ls (.int (zI (if P then 1 else 0)) :: rest)) := by
  by_cases h : P
  · rw [if_pos h]
    exact z_if_ne hx hb hdg ht (by decide) (fun q => kt h) (fun q => absurd q (by decide))
  · rw [if_neg h]
    exact z_if_ne hx hb hdg ht (by decide) (fun q => absurd rfl q) (fun q => kf h)
-- the heap
theorem z_get (hx : p.tables.exec = Jvm.exec) (hb : c.code = cc) {own ref C : String} {T : u_T} {N ci index : Nat} {Ts : List Cond} (hts : ∀ w ∈ Ts, w.before args s = true) (hin : ∀ w ∈ u_ws C T N, w ∈ Ts) (hown : s.vm.findClass own = some m.cls) (hK : zK D cI cJ cZ s) (hz : zH D A H0 ws H locs) (q0 : Nat) {fs : List Value} (he : ws[q0]? = some (a0, .inr (ci, fs))) (hc : vwCl[ci]? = some (C, T, N)) (k : Nat) (hk : k < N) (hlink : (Cond.fieldLink own index ref (T k).2.1 (T k).2.2.1).before args s = true) (hsame : (T k).1 = ref) {v : Value} (hv : fs[k]? = some v) (hdg : decode cc pc = .ok (.getfield index, 3))
    (kk : W p l e R s m args below meth c H locs cells slots Q (F0 m (pc + 3) ls (v :: rest))) : W p l e R s m args below meth c H locs cells slots Q (F0 m pc ls (.ref a0 :: rest)) :=
  va_get hx hb hts hin hown hK hz.1 q0 he hc k hk hlink (fun x h => by rw [← hsame]; exact h) hv hdg kk
theorem z_put (hx : p.tables.exec = Jvm.exec) (hb : c.code = cc) {own ref C : String} {T : u_T} {N ci index : Nat} {Ts : List Cond} (hts : ∀ w ∈ Ts, w.before args s = true) (hin : ∀ w ∈ u_ws C T N, w ∈ Ts) (hown : s.vm.findClass own = some m.cls) (hK : zK D cI cJ cZ s) (hz : zH D A H0 ws H locs) (ty0 : Nat → FieldType) (hty : ∀ k, k < N → parseFieldDescriptor (T k).2.2.1 = some (ty0 k)) (hnm : ∀ a, a < N → ∀ b, b < N → a ≠ b → (T a).2.1 ≠ (T b).2.1) (q0 : Nat) {fs : List Value} (he : ws[q0]? = some (a0, .inr (ci, fs))) (hc : vwCl[ci]? = some (C, T, N)) (k : Nat) (hk : k < N) (hlink : (Cond.fieldLink own index ref (T k).2.1 (T k).2.2.1).before args s = true) (hsame : (T k).1 = ref) (hfin : (T k).2.2.2 = false) {ty : FieldType} {v : Value} (hd : parseFieldDescriptor (T k).2.2.1 = some ty) (hn : narrow ty v = v) (hfit : fits ty v = true) (hl : k < fs.length) (hdg : decode cc pc = .ok (.putfield index, 3))
    (kk : ∀ (H1 : Heap) (locs1 : List Loc), zH D A H0 (ws.set q0 (a0, .inr (ci, fs.set k v))) H1 locs1 → W p l e R s m args below meth c H1 locs1 cells slots Q (F0 m (pc + 3) ls rest)) : W p l e R s m args below meth c H locs cells slots Q (F0 m pc ls (v :: .ref a0 :: rest)) :=
  va_put hx hb hts hin ty0 hty hnm hown hK hz.1 hz.2.1 hz.2.2 q0 he hc k hk hlink (fun x h => by rw [← hsame]; exact h) hfin hd hn hfit hl hdg (fun H1 L1 h1 h2 h3 => kk H1 L1 ⟨h1, h2, h3⟩)
theorem z_iald (hx : p.tables.exec = Jvm.exec) (hb : c.code = cc) (hK : zK D cI cJ cZ s) (hz : zH D A H0 ws H locs) (q0 : Nat) {n : Nat} {f : Int → Int} (ha : ws[q0]? = some (a0, .inl (cI, n, .inl (zA f)))) {i : Int} (h0 : 0 ≤ i ∧ i < (n : Int)) (hn : n ≤ 4096) (hdg : decode cc pc = .ok (.iaload, 1))
    (kk : W p l e R s m args below meth c H locs cells slots Q (F0 m (pc + 1) ls (.int (zI (f i)) :: rest))) : W p l e R s m args below meth c H locs cells slots Q (F0 m pc ls (.int (zI i) :: .ref a0 :: rest)) :=
  va_iald hx hb hK hz.1 q0 0 ha rfl (zI_ix h0 (by omega)) hdg (by rw [zA_at h0.1 (by omega)]; exact kk)
theorem z_zald (hx : p.tables.exec = Jvm.exec) (hb : c.code = cc) (hK : zK D cI cJ cZ s) (hz : zH D A H0 ws H locs) (q0 : Nat) {n : Nat} {f : Int → Int} (ha : ws[q0]? = some (a0, .inl (cZ, n, .inl (zA f)))) {i : Int} (h0 : 0 ≤ i ∧ i < (n : Int)) (hn : n ≤ 4096) (hdg : decode cc pc = .ok (.baload, 1))
    (kk : W p l e R s m args below meth c H locs cells slots Q (F0 m (pc + 1) ls (.int (zI (f i)) :: rest))) : W p l e R s m args below meth c H locs cells slots Q (F0 m pc ls (.int (zI i) :: .ref a0 :: rest)) :=
  va_zald hx hb hK hz.1 q0 2 ha rfl (zI_ix h0 (by omega)) hdg (by rw [zA_at h0.1 (by omega)]; exact kk)
theorem z_lald (hx : p.tables.exec = Jvm.exec) (hb : c.code = cc) (hK : zK D cI cJ cZ s) (hz : zH D A H0 ws H locs) (q0 : Nat) {n : Nat} {f : Int → Int} (ha : ws[q0]? = some (a0, .inl (cJ, n, .inr (.inl (zAL f))))) {i : Int} (h0 : 0 ≤ i ∧ i < (n : Int)) (hn : n ≤ 4096) (hdg : decode cc pc = .ok (.laload, 1))
    (kk : W p l e R s m args below meth c H locs cells slots Q (F0 m (pc + 1) ls (.long (zL (f i)) :: rest))) : W p l e R s m args below meth c H locs cells slots Q (F0 m pc ls (.int (zI i) :: .ref a0 :: rest)) :=
  va_lald hx hb hK hz.1 q0 1 ha rfl (zI_ix h0 (by omega)) hdg (by rw [zAL_at h0.1 (by omega)]; exact kk)
theorem z_iast (hx : p.tables.exec = Jvm.exec) (hb : c.code = cc) (hK : zK D cI cJ cZ s) (hz : zH D A H0 ws H locs) (q0 : Nat) {n : Nat} {f : Int → Int} (ha : ws[q0]? = some (a0, .inl (cI, n, .inl (zA f)))) {i v : Int} (h0 : 0 ≤ i ∧ i < (n : Int)) (hn : n ≤ 4096) (hdg : decode cc pc = .ok (.iastore, 1))
    (kk : ∀ (H1 : Heap) (locs1 : List Loc), zH D A H0 (ws.set q0 (a0, .inl (cI, n, .inl (zA (zU f i v))))) H1 locs1 → W p l e R s m args below meth c H1 locs1 cells slots Q (F0 m (pc + 1) ls rest)) : W p l e R s m args below meth c H locs cells slots Q (F0 m pc ls (.int (zI v) :: .int (zI i) :: .ref a0 :: rest)) :=
  va_iast hx hb hK hz.1 hz.2.1 hz.2.2 q0 0 ha rfl (zI_ix h0 (by omega)) hdg (fun H1 L1 h1 h2 h3 => kk H1 L1 (by rw [zA_up h0.1 (by omega)] at h1 h2; exact ⟨h1, h2, h3⟩))
theorem zI_nz {v : Int} (hv : v = 0 ∨ v = 1) : vp_nar .boolean (zI v) = zI v := by rcases hv with rfl | rfl <;> decide +kernel
theorem z_zast (hx : p.tables.exec = Jvm.exec) (hb : c.code = cc) (hK : zK D cI cJ cZ s) (hz : zH D A H0 ws H locs) (q0 : Nat) {n : Nat} {f : Int → Int} (ha : ws[q0]? = some (a0, .inl (cZ, n, .inl (zA f)))) {i v : Int} (h0 : 0 ≤ i ∧ i < (n : Int)) (hn : n ≤ 4096) (hv : v = 0 ∨ v = 1) (hdg : decode cc pc = .ok (.bastore, 1))
    (kk : ∀ (H1 : Heap) (locs1 : List Loc), zH D A H0 (ws.set q0 (a0, .inl (cZ, n, .inl (zA (zU f i v))))) H1 locs1 → W p l e R s m args below meth c H1 locs1 cells slots Q (F0 m (pc + 1) ls rest)) : W p l e R s m args below meth c H locs cells slots Q (F0 m pc ls (.int (zI v) :: .int (zI i) :: .ref a0 :: rest)) :=
  va_zast hx hb hK hz.1 hz.2.1 hz.2.2 q0 2 ha rfl (zI_ix h0 (by omega)) hdg (fun H1 L1 h1 h2 h3 => kk H1 L1 (by rw [zI_nz hv, zA_up h0.1 (by omega)] at h1 h2; exact ⟨h1, h2, h3⟩))
theorem z_last (hx : p.tables.exec = Jvm.exec) (hb : c.code = cc) (hK : zK D cI cJ cZ s) (hz : zH D A H0 ws H locs) (q0 : Nat) {n : Nat} {f : Int → Int} (ha : ws[q0]? = some (a0, .inl (cJ, n, .inr (.inl (zAL f))))) {i v : Int} (h0 : 0 ≤ i ∧ i < (n : Int)) (hn : n ≤ 4096) (hdg : decode cc pc = .ok (.lastore, 1))
    (kk : ∀ (H1 : Heap) (locs1 : List Loc), zH D A H0 (ws.set q0 (a0, .inl (cJ, n, .inr (.inl (zAL (zU f i v)))))) H1 locs1 → W p l e R s m args below meth c H1 locs1 cells slots Q (F0 m (pc + 1) ls rest)) : W p l e R s m args below meth c H locs cells slots Q (F0 m pc ls (.long (zL v) :: .int (zI i) :: .ref a0 :: rest)) :=
  va_last hx hb hK hz.1 hz.2.1 hz.2.2 q0 1 ha rfl (zI_ix h0 (by omega)) hdg (fun H1 L1 h1 h2 h3 => kk H1 L1 (by rw [zAL_up h0.1 (by omega)] at h1 h2; exact ⟨h1, h2, h3⟩))
end ZR
