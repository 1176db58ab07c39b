def R_law : String := "HornCityLaw"
def lw_P (b : Addr) (xs : List Int32) (args : Array Value) (s : State) : Prop := args = #[.ref b] ∧ s.IntsAt b xs ∧ xs.length ≤ 4096 ∧ (Jvm.Cond.and given_1 narrow_1).before args s = true
def lw_Q (_ : Array Value) (s : State) (o : Outcome) (t : State) : Prop := o = .returned (some (.int 1)) ∧ Framed s o t [] 65 5743
def lw_Z (below : List Frame) (a : Array Value) (s : State) : State → Prop := fun t => ∃ o, t.status = .running ∧ Ended t below o ∧ lw_Q a s o t
/-- the law's own end, with 1 on the stack, nothing written that was there before, its room as the claim has it -/
theorem lw_ret {p : Program} {l : Launch} {e : Env} {s : State} {m : MethodId} {below : List Frame} {meth : Method} {c : Code} {b : Nat} (hx : p.tables.exec = Jvm.exec) (hb : c.code = code) (hr : meth.sig.returnType = ret) (hlocks : meth.locks = false) {pc : Nat} {H : Heap} {ls : Array Slot} (hdg : decode code pc = .ok (.ireturn, 1)) : W p l e room_1 s m #[Value.ref b] below meth c H [] 65 5743 (lw_Z below #[Value.ref b] s) (F0 m pc ls [.int 1]) := by
  intro T hT X
  obtain ⟨fs, hret, hrun, hended, hW, hframe⟩ := X.leave (v := some (.int 1)) (hlocks := hlocks) (fun h => by rw [hr] at h; cases h)
  have hmeth' : T.vm.method? m = some meth := X.method'
  refine ⟨T.setFrames fs, ?_, .returned (some (.int 1)), hrun, hended, rfl, ⟨_, rfl⟩, hW, hframe⟩
  jvm_step X.here [X.here.top, hx, hb, hdg, hmeth', hr, ret, narrow_b1]
  (try refine ⟨rfl, ?_⟩); (try refine ⟨rfl, ?_⟩)
  first | (intro acts; rw [hret _ acts rfl rfl rfl]) | rw [hret _ _ rfl rfl rfl]
  exact Steps.refl _
/-- what holds at the law's entry: the machine, the code, the tables' words (any of lw_tbl by 'hts w (by decide +kernel)'), the script of L ints xs at the cell b, what the Statement gives of the start (any of its parts by flat_of_before) -/
def lw_At (p : Program) (s : State) (m : MethodId) (meth : Method) (c : Code) (b L : Nat) (xs : Nat → Int32) : Prop :=
  p.tables.exec = Jvm.exec ∧ c.code = code ∧ meth.sig.returnType = ret ∧ c.maxLocals = 4 ∧ s.vm.findClass R_law = some m.cls ∧ (∀ w ∈ lw_tbl, w.before #[Value.ref b] s = true) ∧ va_X b L xs s s.heap ∧ b < s.heap.size ∧ meth.locks = false ∧ (Jvm.Cond.and given_1 narrow_1).before #[Value.ref b] s = true

set_option maxHeartbeats 8000000 in
set_option maxRecDepth 100000 in
theorem law_loop {p : Program} {l : Launch} {e : Env} {s : State} {m : MethodId} {below : List Frame} {meth : Method} {c : Code} {D : va_G} {cI cJ cZ : ClassId} {b L : Nat} {xs : Nat → Int32} (hL : L ≤ 4096) (C0 : lw_At p s m meth c b L xs) (hK : zK D cI cJ cZ s) (hc on ain adn amn ahn chn iyn mkn of aif adf amf ahf chf iyf mkf os ais ads ams ahs chs iys mks kp pd sg ys o ai ad am ah ch iy mk kd tu fa wt dg as al tk wn ck wy nx md bk nw nt df chk pa rc qu ct ft wn2 wy2 nx2 im ik : Nat) : ∀ (n : Nat) (i : Int), 0 ≤ i → i ≤ (L : Int) + 8 → ((L : Int) + 8 - i).toNat = n → lwK p l e s m #[Value.ref b] below meth c (lw_Z below #[Value.ref b] s) D cI cJ cZ (fun q : Nat => s.heap.size ≤ q) s.heap b hc on ain adn amn ahn chn iyn mkn of aif adf amf ahf chf iyf mkf os ais ads ams ahs chs iys mks kp pd sg ys o ai ad am ah ch iy mk kd tu fa wt dg as al tk wn ck wy nx md bk nw nt df chk pa rc qu ct ft wn2 wy2 nx2 im ik i 18 := by
  intro n
  refine Nat.strongRecOn n ?_
  intro n ih i h0 hiL hn incn drin matn ahen iyfn mkfn incf drif matf ahef iyff mkff incs dris mats ahes iyfs mkfs kpf sgn inc dri mat ahe iyz mkz kdf faf wtf dgf alf wnf wyf nxf kdb nwf ntf rcf quf ctf ftf wnm wym nxm imf Tn tmn yrn cnn Tf tmf yrf cnf Ts tms yrs cns ln acs why wac won T tm yr cn by0 bm0 pts all0 wat who rs act fse H locs ls hI hz hl
  obtain ⟨hx, hb, hr, hml, hown, hts, hX, hbl, hlocks, hgv⟩ := id C0
  have F : CallFix p m c cL_law 4 s #[Value.ref b] wsL_law RL := ⟨hx, hb, hml, hown, fun w h => hts w (wsL_law_in w h)⟩
  have hbA : ¬ (fun q : Nat => s.heap.size ≤ q) b := Nat.not_le.mpr hbl
  refine lv_iload_n hx hb dL_law_18 rfl (lv_at hl 0 rfl) ?_
  refine lv_aload_n hx hb dL_law_19 rfl (lv_at hl 3 rfl) ?_
  refine z_slen hx hb hX hbl hbA hz dL_law_20 ?_
  refine z_bipush hx hb dL_law_21 (by decide) ?_
  refine z_isub hx hb dL_law_23 ?_
  refine z_icmp_gt (tgt := 969) hx hb dL_law_24 (by decide) (by omega) (by omega) (fun h24 => ?_) (fun h24 => ?_)
  · refine va_forget hz.2.2.2.2 ?_
    refine lv_iconst (v := 1) hx hb dL_law_969 (by decide) ?_
    exact lw_ret hx hb hr hlocks dL_law_970
  · refine law_sw hc on ain adn amn ahn chn iyn mkn of aif adf amf ahf chf iyf mkf os ais ads ams ahs chs iys mks kp pd sg ys o ai ad am ah ch iy mk kd tu fa wt dg as al tk wn ck wy nx md bk nw nt df chk pa rc qu ct ft wn2 wy2 nx2 im ik F hK hX hbl hbA hL ⟨h0, by omega⟩ ?_ incn drin matn ahen iyfn mkfn incf drif matf ahef iyff mkff incs dris mats ahes iyfs mkfs kpf sgn inc dri mat ahe iyz mkz kdf faf wtf dgf alf wnf wyf nxf kdb nwf ntf rcf quf ctf ftf wnm wym nxm imf Tn tmn yrn cnn Tf tmf yrf cnf Ts tms yrs cns ln acs why wac won T tm yr cn by0 bm0 pts all0 wat who rs act fse H locs ls hI hz hl
    intro incn drin matn ahen iyfn mkfn incf drif matf ahef iyff mkff incs dris mats ahes iyfs mkfs kpf sgn inc dri mat ahe iyz mkz kdf faf wtf dgf alf wnf wyf nxf kdb nwf ntf rcf quf ctf ftf wnm wym nxm imf Tn tmn yrn cnn Tf tmf yrf cnf Ts tms yrs cns ln acs why wac won T tm yr cn by0 bm0 pts all0 wat who rs act fse H locs ls hI hz hl
    refine z_iinc (lv' := [(3, .int (zI (i + 8))), (2, .ref md), (1, .ref hc), (0, .ref b)]) hx hb dL_law_963 hl (k := 0) rfl (Nat.le_of_ble_eq_true rfl) rfl (fun ls hl => ?_)
    refine lv_goto (tgt := 18) hx hb dL_law_966 (by decide) ?_
    exact ih _ (by omega) (i + 8) (by omega) (by omega) rfl incn drin matn ahen iyfn mkfn incf drif matf ahef iyff mkff incs dris mats ahes iyfs mkfs kpf sgn inc dri mat ahe iyz mkz kdf faf wtf dgf alf wnf wyf nxf kdb nwf ntf rcf quf ctf ftf wnm wym nxm imf Tn tmn yrn cnn Tf tmf yrf cnf Ts tms yrs cns ln acs why wac won T tm yr cn by0 bm0 pts all0 wat who rs act fse H locs ls hI hz hl

theorem z_arr {args : Array Value} {s : State} {ty : FieldType} (h : (Cond.arrayClass ty).before args s = true) : ∃ cA : ClassId, ArrOfT s cA ty ∧ s.vm.findClass ("[" ++ ty.toString) = some cA := by
  obtain ⟨cA, kA, comp, h1, h2, h3⟩ := Cond.arrayClass_spec h
  exact ⟨cA, fun n z => ⟨fun k h => (by cases h), kA, h2, comp, h3⟩, h1⟩
theorem lwI_0 : lwI 0 (fun _ => 0) (fun _ => 0) (fun _ => -6) 0 0 (fun _ => 0) (fun _ => 0) 0 0 (fun _ => 0) (fun _ => 0) (fun _ => 0) 0 (fun _ => 0) (fun _ => 0) (fun _ => -6) 0 0 (fun _ => 0) (fun _ => 0) 0 0 (fun _ => 0) (fun _ => 0) (fun _ => -6) 0 0 (fun _ => 0) (fun _ => 0) 0 (fun _ => 0) (fun _ => 0) :=
  ⟨⟨by decide, fun j _ _ => ⟨by show (0 : Int) ≤ 0; decide, by show (0 : Int) ≤ 179; decide⟩, fun j _ _ => ⟨by show (-9 : Int) ≤ 0; decide, by show (0 : Int) ≤ 9; decide⟩, fun k _ _ => Or.inl rfl, by decide, by decide, fun j _ _ => ⟨by show (0 : Int) ≤ 0; decide, by show (0 : Int) ≤ 60; decide⟩, fun j _ _ => ⟨by show (0 : Int) ≤ 0; decide, by show (0 : Int) ≤ 179; decide⟩⟩,
   ⟨by decide, fun j _ _ => ⟨by show (0 : Int) ≤ 0; decide, by show (0 : Int) ≤ 126; decide⟩⟩, fun j _ _ => ⟨by show (0 : Int) ≤ 0; decide, by show (0 : Int) ≤ 1; decide⟩, fun h => absurd rfl h, fun h => absurd rfl h,
   ⟨fun j _ _ => ⟨by show (0 : Int) ≤ 0; decide, by show (0 : Int) ≤ 1; decide⟩, rfl⟩, fun j _ _ => ⟨by show (0 : Int) ≤ 0; decide, by show (0 : Int) ≤ 1; decide⟩⟩
