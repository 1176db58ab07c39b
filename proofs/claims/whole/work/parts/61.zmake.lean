/-! making objects and arrays, and constructors, in the Z-layer -/
section ZM
variable {p : Program} {l : Launch} {e : Env} {R : Room} {s : State} {m : MethodId} {args : Array Value} {below : List Frame} {meth : Method} {c : Code} {H : Heap} {locs : List Loc} {cells slots : Nat} {Q : State → Prop}
variable {cc : ByteArray} {pc nL index maxL : Nat} {ls : Array Slot} {rest st0 : List Value} {D : va_G} {A : Nat → Prop} {b : Nat} {cI cJ cZ : ClassId} {ws wc wr : va_W} {H0 : Heap} {Ts wy : List Cond} {own : String} {y : MethodName} {rm : Room} {bytes : ByteArray} {lv : List (Nat × Value)} {mc ms : Nat}
theorem z_newI (hx : p.tables.exec = Jvm.exec) (hb : c.code = cc) (harr : (Cond.arrayClass .int).before args s = true) (hK : zK D cI cJ cZ s) (hz : zH D A H0 ws H locs) (hA : ∀ q, H0.size ≤ q → A q) {n : Int} (N : Nat) (hn : n = (N : Int)) (hN : N ≤ 4096) (hcells : cells + 1 ≤ R.cells) (hslots : slots + N ≤ R.slots) (hdg : decode cc pc = .ok (.newarray .int, 2))
    (kk : ∀ (q : Nat) (H1 : Heap), zH D A H0 (ws ++ [(q, .inl (cI, N, .inl (zA (fun _ => 0))))]) H1 locs → W p l e R s m args below meth c H1 locs (cells + 1) (slots + N) Q (F0 m (pc + 2) ls (.ref q :: rest))) : W p l e R s m args below meth c H locs cells slots Q (F0 m pc ls (.int (zI n) :: rest)) := by
  refine va_newa (atype := .int) (a0 := (N, .inl (zA (fun _ => 0)))) (N' := N) hx hb harr rfl hK hz.1 hz.2.1 hz.2.2 hA (fun cA => rfl) ?_ ?_ ?_ hcells hslots hdg (fun q cA H1 hK1 h1 h2 h3 => ?_)
  · rw [zI_lt0 (by omega)]; omega
  · rw [zI_cl (by omega) (by omega)]; omega
  · show N * 4 ≤ 536870912; omega
  · have e1 := va_nm_int (hK1.2 3 _ rfl).2
    have e2 := va_nm_int (hK.2 0 _ rfl).2
    have e3 : cA = cI := Option.some.inj (e1.symm.trans e2)
    subst e3
    exact kk q H1 ⟨h1, h2, h3⟩
theorem z_newJ (hx : p.tables.exec = Jvm.exec) (hb : c.code = cc) (harr : (Cond.arrayClass .long).before args s = true) (hK : zK D cI cJ cZ s) (hz : zH D A H0 ws H locs) (hA : ∀ q, H0.size ≤ q → A q) {n : Int} (N : Nat) (hn : n = (N : Int)) (hN : N ≤ 4096) (hcells : cells + 1 ≤ R.cells) (hslots : slots + N ≤ R.slots) (hdg : decode cc pc = .ok (.newarray .long, 2))
    (kk : ∀ (q : Nat) (H1 : Heap), zH D A H0 (ws ++ [(q, .inl (cJ, N, .inr (.inl (zAL (fun _ => 0)))))]) H1 locs → W p l e R s m args below meth c H1 locs (cells + 1) (slots + N) Q (F0 m (pc + 2) ls (.ref q :: rest))) : W p l e R s m args below meth c H locs cells slots Q (F0 m pc ls (.int (zI n) :: rest)) := by
  refine va_newa (atype := .long) (a0 := (N, .inr (.inl (zAL (fun _ => 0))))) (N' := N) hx hb harr rfl hK hz.1 hz.2.1 hz.2.2 hA (fun cA => rfl) ?_ ?_ ?_ hcells hslots hdg (fun q cA H1 hK1 h1 h2 h3 => ?_)
  · rw [zI_lt0 (by omega)]; omega
  · rw [zI_cl (by omega) (by omega)]; omega
  · show N * 8 ≤ 536870912; omega
  · have e1 := va_nm_long (hK1.2 3 _ rfl).2
    have e2 := va_nm_long (hK.2 1 _ rfl).2
    have e3 : cA = cJ := Option.some.inj (e1.symm.trans e2)
    subst e3
    exact kk q H1 ⟨h1, h2, h3⟩
theorem z_newZ (hx : p.tables.exec = Jvm.exec) (hb : c.code = cc) (harr : (Cond.arrayClass .boolean).before args s = true) (hK : zK D cI cJ cZ s) (hz : zH D A H0 ws H locs) (hA : ∀ q, H0.size ≤ q → A q) {n : Int} (N : Nat) (hn : n = (N : Int)) (hN : N ≤ 4096) (hcells : cells + 1 ≤ R.cells) (hslots : slots + N ≤ R.slots) (hdg : decode cc pc = .ok (.newarray .boolean, 2))
    (kk : ∀ (q : Nat) (H1 : Heap), zH D A H0 (ws ++ [(q, .inl (cZ, N, .inl (zA (fun _ => 0))))]) H1 locs → W p l e R s m args below meth c H1 locs (cells + 1) (slots + N) Q (F0 m (pc + 2) ls (.ref q :: rest))) : W p l e R s m args below meth c H locs cells slots Q (F0 m pc ls (.int (zI n) :: rest)) := by
  refine va_newa (atype := .boolean) (a0 := (N, .inl (zA (fun _ => 0)))) (N' := N) hx hb harr rfl hK hz.1 hz.2.1 hz.2.2 hA (fun cA => rfl) ?_ ?_ ?_ hcells hslots hdg (fun q cA H1 hK1 h1 h2 h3 => ?_)
  · rw [zI_lt0 (by omega)]; omega
  · rw [zI_cl (by omega) (by omega)]; omega
  · show N * 1 ≤ 536870912; omega
  · have e1 := va_nm_boolean (hK1.2 3 _ rfl).2
    have e2 := va_nm_boolean (hK.2 2 _ rfl).2
    have e3 : cA = cZ := Option.some.inj (e1.symm.trans e2)
    subst e3
    exact kk q H1 ⟨h1, h2, h3⟩
theorem z_new {C : String} {T : u_T} {N ci : Nat} (hx : p.tables.exec = Jvm.exec) (hb : c.code = cc) (hts : ∀ w ∈ Ts, w.before args s = true) (hin : ∀ w ∈ u_ws C T N, w ∈ Ts) (ty : Nat → FieldType) (hty : ∀ k, k < N → parseFieldDescriptor (T k).2.2.1 = some (ty k)) (hown : s.vm.findClass own = some m.cls) (hcl : (Cond.classLink own index C).before args s = true) (hinst : (Cond.instantiable C N).before args s = true) (hini : (Cond.initialized C).before args s = true)
    (hK : zK D cI cJ cZ s) (hz : zH D A H0 ws H locs) (hA : ∀ q, H0.size ≤ q → A q) (hc : vwCl[ci]? = some (C, T, N)) (fs : List Value) (hfs : ∀ j, j < N → defaultValue (ty j) = vp_V fs j) (hcells : cells + 1 ≤ R.cells) (hslots : slots + N ≤ R.slots) (hdg : decode cc pc = .ok (.new index, 3))
    (kk : ∀ (q : Nat) (H1 : Heap), zH D A H0 (ws ++ [(q, .inr (ci, fs))]) H1 locs → W p l e R s m args below meth c H1 locs (cells + 1) (slots + N) Q (F0 m (pc + 3) ls (.ref q :: rest))) : W p l e R s m args below meth c H locs cells slots Q (F0 m pc ls rest) :=
  va_new hx hb hts hin ty hty hown hcl hinst hini hK hz.1 hz.2.1 hz.2.2 hA hc hfs hcells hslots hdg (fun q H1 h1 h2 h3 => kk q H1 ⟨h1, h2, h3⟩)
theorem z_putF (hx : p.tables.exec = Jvm.exec) (hb : c.code = cc) {ref C : String} {T : u_T} {N ci a0 : Nat} (hts : ∀ w ∈ Ts, w.before args s = true) (hin : ∀ w ∈ u_ws C T N, w ∈ Ts) (hown : s.vm.findClass own = some m.cls) (hK : zK D cI cJ cZ s) (hz : zH D A H0 ws H locs) (ty0 : Nat → FieldType) (hty : ∀ k, k < N → parseFieldDescriptor (T k).2.2.1 = some (ty0 k)) (hnm : ∀ a, a < N → ∀ b, b < N → a ≠ b → (T a).2.1 ≠ (T b).2.1) (q0 : Nat) {fs : List Value} (he : ws[q0]? = some (a0, .inr (ci, fs))) (hc : vwCl[ci]? = some (C, T, N)) (k : Nat) (hk : k < N) (hlink : (Cond.fieldLink own index ref (T k).2.1 (T k).2.2.1).before args s = true) (hsame : (T k).1 = ref) (hfin : (T k).2.2.2 = true) (hin2 : meth.name = "<init>") (hdecl : (T k).1 = own) {ty : FieldType} {v : Value} (hd : parseFieldDescriptor (T k).2.2.1 = some ty) (hn : narrow ty v = v) (hfit : fits ty v = true) (hl : k < fs.length) (hdg : decode cc pc = .ok (.putfield index, 3))
    (kk : ∀ (H1 : Heap) (locs1 : List Loc), zH D A H0 (ws.set q0 (a0, .inr (ci, fs.set k v))) H1 locs1 → W p l e R s m args below meth c H1 locs1 cells slots Q (F0 m (pc + 3) ls rest)) : W p l e R s m args below meth c H locs cells slots Q (F0 m pc ls (v :: .ref a0 :: rest)) :=
  va_putF hx hb hts hin ty0 hty hnm hown hK hz.1 hz.2.1 hz.2.2 q0 he hc k hk hlink (fun x h => by rw [← hsame]; exact h) hfin hin2 hdecl hd hn hfit hl hdg (fun H1 L1 h1 h2 h3 => kk H1 L1 ⟨h1, h2, h3⟩)
abbrev zRn (k mc ms : Nat) : Room := { frames := k, cells := mc, slots := ms, locals := 36 * k }
def zQn (D : va_G) (wo : (Nat → Nat) → va_W) (ws : va_W) (sz : Nat) : Array Value → State → Outcome → State → Prop := va_Qv (fun _ : Nat → Nat => True) (fun u t => va_P D vwCl (wo u) t.heap ∧ va_D (va_A ws sz) (wo u)) (va_A ws sz)
/-- a constructor's contract: what it makes stands at the places u -/
def zMn (l : Launch) (y : MethodName) (wy : List Cond) (rm : Room) (D : va_G) (cI cJ cZ : ClassId) (h0 : Nat) (ws : va_W) (wo : (Nat → Nat) → va_W) (mc ms : Nat) : Prop :=
  ∀ sz : Nat, Met l y wy rm (va_Pc [.ref h0] (fun U => U.heap.size = sz ∧ va_P D vwCl ws U.heap ∧ zK D cI cJ cZ U ∧ va_D (fun _ => True) ws)) (zQn D wo ws sz) mc ms (va_A ws sz)
theorem zMn_v {wy' : List Cond} {h0 : Nat} {wo : (Nat → Nat) → va_W} (hy : plainName y.cls = true) (hw : wy = Cond.code y cc maxL none :: wy') (hlen : 1 ≤ maxL) (hrm : (headSpec wy rm).room = rm) (hnm : y.name = "<init>")
    (body : ∀ (p : Program) (e : Env) (s : State) (m : MethodId) (args : Array Value) (below : List Frame) (meth : Method) (c : Code) (Q : State → Prop) (H0 : Heap) (ls : Array Slot) (A : Nat → Prop), CallFix p m c cc maxL s args wy y.cls → zK D cI cJ cZ s → zH D A H0 ws H0 [] → (∀ q, H0.size ≤ q → A q) → meth.name = "<init>" → lv_has ls maxL [(0, .ref h0)] →
      (∀ {pc : Nat} {ls : Array Slot} {H : Heap} {locs : List Loc} (u : Nat → Nat), decode cc pc = .ok (.return_, 1) → zH D A H0 (wo u) H locs → W p l e rm s m args below meth c H locs mc ms Q (F0 m pc ls [])) →
      W p l e rm s m args below meth c H0 [] 0 0 Q (F0 m 0 ls [])) : zMn l y wy rm D cI cJ cZ h0 ws wo mc ms := by
  intro sz
  refine Met.ofW (cc := cc) (maxL := maxL) (ret := none) hy hw ?_
  intro p e s m args below meth c s₁ B hml hv
  obtain ⟨rfl, hsz, hP, hK, hD⟩ := hv
  subst hsz
  have hts := atoms_spec (ws := wy) B.pre
  have hown : s.vm.findClass y.cls = some m.cls := findClass_of_methodNamed B.named
  have hin : meth.name = "<init>" := (name_of_methodNamed B.named B.method).1.trans hnm
  have hlocks := B.notSynchronized
  rw [lg_entry_eq, hrm]
  refine body p e s m _ below meth c _ s.heap _ (va_A ws s.heap.size) ⟨B.exec, B.bytes, hml, hown, hts⟩ hK ⟨hP, hD.self, va_S.rf⟩ (fun q h => Or.inr h) hin (lv_entry [.ref h0] hlen) ?_
  intro pc ls H locs u hdg hz
  exact W.vret B.exec B.bytes B.returns (fun t ht hW => ⟨⟨u, rfl, trivial, by rw [ht]; exact hz.1, hz.2.1⟩, hz.2.2.F ht⟩) hz.2.2.2.2 hdg hlocks
theorem z_callI {wo : (Nat → Nat) → va_W} (F : CallFix p m c cc nL s args Ts own) (hK : zK D cI cJ cZ s) (hz : zH D A H0 ws H locs) (hA : ∀ q, H0.size ≤ q → A q) (hl : lv_has ls nL lv) (hM : zMn l y wy rm D cI cJ cZ b wc wo mc ms) (cw : CallB R s args own index y bytes maxL none wy rm mc ms 0 ∧ y.name = "<init>" ∧ (Cond.instanceMethod y).before args s = true)
    (isC isR : List Nat) (hC : isC.map (fun i => ws[i]?) = wc.map some) (hR : isR.map (fun i => ws[i]?) = wr.map some) (hnC : va_nd isC = true) (hnR : va_nd isR = true) (hdis : ∀ i ∈ isR, i ∉ isC) (hst : st0 = .ref b :: rest) (hcat : (rest.map fun v => v.category).sum ≤ 8) (hf : cells + mc ≤ R.cells ∧ slots + ms ≤ R.slots) (hdg : decode cc pc = .ok (.invokespecial index, 3))
    (kk : ∀ (u : Nat → Nat) (H1 : Heap) (locs1 : List Loc), zH D A H0 (wr ++ wo u) H1 locs1 → W p l e R s m args below meth c H1 locs1 (cells + mc) (slots + ms) Q (F0 m (pc + 3) ls rest)) : W p l e R s m args below meth c H locs cells slots Q (F0 m pc ls st0) := by
  have hFc := va_free hz.2.1 hz.2.2 hA isC hC
  have hD2 := (hz.2.1.sub isC hnC hC).weaken (B := fun _ => True) (fun _ _ _ _ => trivial)
  refine va_callv (va_runI (As := []) (rest := rest) F (hM H.size) cw ⟨fun a U g mk q => ?_, fun U hU hW => ⟨rfl, by rw [hU], by rw [hU]; exact zsub hz.1 hC, va_K.moved hW.alike hK, hD2⟩⟩ rfl rfl hl.1 hst (lv_room hcat) hdg hf) hz.2.2 (fun q _ h => hFc q h) hFc (fun u t H1 locs1 ht hvm hw hB hz1 hk1 hS => ?_)
  · obtain ⟨q0, q1, qP, qK, qD⟩ := q
    exact ⟨q0, q1, qP, va_K.moved (u := U) (U := U.calling g mk a) (Vm.Alike.refl U.vm) qK, qD⟩
  · obtain ⟨hP1, hD1⟩ := hB
    rw [ht] at hP1
    obtain ⟨hP, hD⟩ := va_join hz.1 hz.2.1 isC isR hC hR hnR hdis hk1 hFc hP1 hD1
    exact kk u H1 locs1 ⟨hP, hD, hS⟩
end ZM
