/-! THE CLAIM OUT OF ONE WALK OF THE LAW'S BODY. Your part is whole_start (and what it stands on); all else here is the same for every law, but numbers. -/
def R_law : String := "LastSentenceLaw"
def lw_P (b : Addr) (xs : List Int32) (args : Array Value) (s : State) : Prop := args = #[.ref b] ∧ s.IntsAt b xs ∧ xs.length ≤ 2048 ∧ (Jvm.Cond.and given_1 narrow_1).before args s = true
def lw_Q (_ : Array Value) (s : State) (o : Outcome) (t : State) : Prop := o = .returned (some (.int 1)) ∧ Framed s o t [] 600000 7302250
def lw_Z (below : List Frame) (a : Array Value) (s : State) : State → Prop := fun t => ∃ o, t.status = .running ∧ Ended t below o ∧ lw_Q a s o t
/-- the law's own end, with 1 on the stack, nothing written that was there before, its room as the claim has it -/
theorem lw_ret {p : Program} {l : Launch} {e : Env} {s : State} {m : MethodId} {below : List Frame} {meth : Method} {c : Code} {b : Nat} (hx : p.tables.exec = Jvm.exec) (hb : c.code = code) (hr : meth.sig.returnType = ret) (hlocks : meth.locks = false) {pc : Nat} {H : Heap} {ls : Array Slot} (hdg : decode code pc = .ok (.ireturn, 1)) : W p l e room_1 s m #[Value.ref b] below meth c H [] 600000 7302250 (lw_Z below #[Value.ref b] s) (F0 m pc ls [.int 1]) := by
  intro T hT X
  obtain ⟨fs, hret, hrun, hended, hW, hframe⟩ := X.leave (v := some (.int 1)) (hlocks := hlocks) (fun h => by rw [hr] at h; cases h)
  have hmeth' : T.vm.method? m = some meth := X.method'
  refine ⟨T.setFrames fs, ?_, .returned (some (.int 1)), hrun, hended, rfl, ⟨_, rfl⟩, hW, hframe⟩
  jvm_step X.here [X.here.top, hx, hb, hdg, hmeth', hr, ret, narrow_b1]
  (try refine ⟨rfl, ?_⟩); (try refine ⟨rfl, ?_⟩)
  first | (intro acts; rw [hret _ acts rfl rfl rfl]) | rw [hret _ _ rfl rfl rfl]
  exact Steps.refl _
/-- what holds at the law's entry: the machine, the code, the tables' words (any of lw_tbl by 'hts w (by decide +kernel)'), the script of L ints xs at the cell b, what the Statement gives of the start (any of its parts by flat_of_before) -/
def lw_At (p : Program) (s : State) (m : MethodId) (meth : Method) (c : Code) (b L : Nat) (xs : Nat → Int32) : Prop :=
  p.tables.exec = Jvm.exec ∧ c.code = code ∧ meth.sig.returnType = ret ∧ c.maxLocals = 4 ∧ s.vm.findClass R_law = some m.cls ∧ (∀ w ∈ lw_tbl, w.before #[Value.ref b] s = true) ∧ va_X b L xs s s.heap ∧ b < s.heap.size ∧ meth.locks = false ∧ (Jvm.Cond.and given_1 narrow_1).before #[Value.ref b] s = true ∧ meth.name = x.name
/-- YOUR PART: from the entry, for every script of at most 2048 ints, the law comes to its end with true ('hflags': the launch's flags, for a law that throws: no stack traces) -/
theorem whole_start {p : Program} {e : Env} {s : State} {m : MethodId} {below : List Frame} {meth : Method} {c : Code} (l : Launch) (hflags : l.flags = flags0) {b L : Nat} {xs : Nat → Int32} (hL : L ≤ 2048) (C0 : lw_At p s m meth c b L xs) : W p l e room_1 s m #[Value.ref b] below meth c s.heap [] 0 0 (lw_Z below #[Value.ref b] s) (entryFrame m ([Value.ref b] : List Value).toArray 4) := by
  obtain ⟨hx, hb, hr, hml, hown, hts, hX, hbl, hlocks, hgv, hnm⟩ := C0
  have hw : ∀ w ∈ x_words, w.before #[Value.ref b] s = true := fun w hw => hts w (List.mem_filter.mp hw).1
  obtain ⟨c0, i0, k0⟩ := u_known (C := RX0) (T := TX0) (N := 3) hw x_inX0 (hw _ xi_inst0)
  obtain ⟨c1, i1, k1⟩ := u_known (C := RX1) (T := TX1) (N := 13) hw x_inX1 (hw _ xi_inst1)
  obtain ⟨c2, i2, k2⟩ := u_known (C := RX2) (T := TX2) (N := 8) hw x_inX2 (hw _ xi_inst2)
  obtain ⟨c3, i3, k3⟩ := u_known (C := RX3) (T := TX3) (N := 4) hw x_inX3 (hw _ xi_inst3)
  obtain ⟨c4, i4, k4⟩ := u_known (C := RX4) (T := TX4) (N := 3) hw x_inX4 (hw _ xi_inst4)
  obtain ⟨c5, i5, k5⟩ := u_known (C := RX5) (T := TX5) (N := 5) hw x_inX5 (hw _ xi_inst5)
  obtain ⟨c6, i6, k6⟩ := u_known (C := RX6) (T := TX6) (N := 3) hw x_inX6 (hw _ xi_inst6)
  obtain ⟨c7, i7, k7⟩ := u_known (C := RX7) (T := TX7) (N := 13) hw x_inX7 (hw _ xi_inst7)
  obtain ⟨c8, i8, k8⟩ := u_known (C := RX8) (T := TX8) (N := 39) hw x_inX8 (hw _ xi_inst8)
  obtain ⟨a0, ka0, m0, fa0, ha0, ea0⟩ := Cond.arrayClass_spec (hw _ xi_ac_int)
  obtain ⟨a1, ka1, m1, fa1, ha1, ea1⟩ := Cond.arrayClass_spec (hw _ xi_ac_long)
  obtain ⟨a2, ka2, m2, fa2, ha2, ea2⟩ := Cond.arrayClass_spec (hw _ xi_ac_boolean)
  have w3 : (Cond.arrayOver (.object "LastSentence$Night")).before #[Value.ref b] s = true := hts _ (List.mem_append_right _ (List.mem_append_left _ (List.mem_of_getElem? (i := 175) (by decide +kernel))))
  have w4 : (Cond.arrayOver (.array .int)).before #[Value.ref b] s = true := hts _ (List.mem_append_right _ (List.mem_append_left _ (List.mem_of_getElem? (i := 55) (by decide +kernel))))
  have w5 : (Cond.arrayOver (.array .long)).before #[Value.ref b] s = true := hts _ (List.mem_append_right _ (List.mem_append_left _ (List.mem_of_getElem? (i := 195) (by decide +kernel))))
  obtain ⟨m3, a3, ka3, ga3, -, ha3, ea3, fa3⟩ := Cond.arrayOver_spec w3
  obtain ⟨m4, a4, ga4, -, ⟨ka4, ha4, ea4⟩, fa4⟩ := x_over_iff.mp w4
  obtain ⟨m5, a5, ga5, -, ⟨ka5, ha5, ea5⟩, fa5⟩ := x_over_iff.mp w5
  have hf := flat_of_before _ hgv
  have t0 : (Cond.arrayOf (.static "LastSentence" "LACKING" "[J") .long).before #[Value.ref b] s = true := hf _ (by decide +kernel)
  have t1 : (Term.length (.static "LastSentence" "LACKING" "[J")).eval #[Value.ref b] s none [] s = some (.int 6) := va_eqt (hf _ (by decide +kernel))
  have t2 : (Term.elem (.static "LastSentence" "LACKING" "[J") (.int 0)).eval #[Value.ref b] s none [] s = some (.long 6148914691236517205) := va_eqtl (hf _ (by decide +kernel))
  have t3 : (Term.elem (.static "LastSentence" "LACKING" "[J") (.int 1)).eval #[Value.ref b] s none [] s = some (.long 3689348814741910323) := va_eqtl (hf _ (by decide +kernel))
  have t4 : (Term.elem (.static "LastSentence" "LACKING" "[J") (.int 2)).eval #[Value.ref b] s none [] s = some (.long 1085102592571150095) := va_eqtl (hf _ (by decide +kernel))
  have t5 : (Term.elem (.static "LastSentence" "LACKING" "[J") (.int 3)).eval #[Value.ref b] s none [] s = some (.long 71777214294589695) := va_eqtl (hf _ (by decide +kernel))
  have t6 : (Term.elem (.static "LastSentence" "LACKING" "[J") (.int 4)).eval #[Value.ref b] s none [] s = some (.long 281470681808895) := va_eqtl (hf _ (by decide +kernel))
  have t7 : (Term.elem (.static "LastSentence" "LACKING" "[J") (.int 5)).eval #[Value.ref b] s none [] s = some (.long 4294967295) := va_eqtl (hf _ (by decide +kernel))
  have hA : ∀ a : Nat, a < s.heap.size → ¬ s.heap.size ≤ a := fun a h1 h2 => by omega
  obtain ⟨tt, ht, hT⟩ := va_Tof (N := 6) (f := fun j => .long (x_lack j)) (A := fun q => s.heap.size ≤ q) (by decide) t0 t1 (fun j hj => match j, hj with | 0, _ => t2 | 1, _ => t3 | 2, _ => t4 | 3, _ => t5 | 4, _ => t6 | 5, _ => t7 | j + 6, h => absurd h (by omega)) hA
  have hZ := va_Zof (A := fun q => s.heap.size ≤ q) (hts _ (List.mem_append_right _ (List.mem_append_right _ (List.mem_append_right _ (List.mem_append_left _ (List.mem_of_getElem? (i := 162) (by decide +kernel))))))) (hw _ xi_RX7) ht hA
  obtain ⟨D1, eD1⟩ : ∃ D1 : Nat → ClassId, D1 = fun c => match c with | 0 => c0 | 1 => c1 | 2 => c2 | 3 => c3 | 4 => c4 | 5 => c5 | 6 => c6 | 7 => c7 | _ => c8 := ⟨_, rfl⟩
  obtain ⟨D2, eD2⟩ : ∃ D2 : Nat → Nat → Nat, D2 = fun c => match c with | 0 => i0 | 1 => i1 | 2 => i2 | 3 => i3 | 4 => i4 | 5 => i5 | 6 => i6 | 7 => i7 | _ => i8 := ⟨_, rfl⟩
  obtain ⟨Cs, eCs⟩ : ∃ Cs : Nat → ClassId, Cs = fun c => match c with | 0 => a0 | 1 => a1 | 2 => a2 | 3 => a3 | 4 => a4 | _ => a5 := ⟨_, rfl⟩
  have hK : va_K (D1, D2) vwCl (x_tys (s.heap.size, b, tt, (D1, D2), Cs)) s := by
    refine ⟨fun c q hq => ?_, fun k q hq => ?_⟩
    · have hc : c < 9 := (List.getElem?_eq_some_iff.mp hq).1
      subst eD1 eD2
      rcases (show c = 0 ∨ c = 1 ∨ c = 2 ∨ c = 3 ∨ c = 4 ∨ c = 5 ∨ c = 6 ∨ c = 7 ∨ c = 8 by omega) with rfl | rfl | rfl | rfl | rfl | rfl | rfl | rfl | rfl
      · obtain rfl := Option.some.inj (show some (RX0, TX0, 3) = some q from hq); exact k0
      · obtain rfl := Option.some.inj (show some (RX1, TX1, 13) = some q from hq); exact k1
      · obtain rfl := Option.some.inj (show some (RX2, TX2, 8) = some q from hq); exact k2
      · obtain rfl := Option.some.inj (show some (RX3, TX3, 4) = some q from hq); exact k3
      · obtain rfl := Option.some.inj (show some (RX4, TX4, 3) = some q from hq); exact k4
      · obtain rfl := Option.some.inj (show some (RX5, TX5, 5) = some q from hq); exact k5
      · obtain rfl := Option.some.inj (show some (RX6, TX6, 3) = some q from hq); exact k6
      · obtain rfl := Option.some.inj (show some (RX7, TX7, 13) = some q from hq); exact k7
      · obtain rfl := Option.some.inj (show some (RX8, TX8, 39) = some q from hq); exact k8
    · have hc : k < 6 := (List.getElem?_eq_some_iff.mp hq).1
      subst eCs
      rcases (show k = 0 ∨ k = 1 ∨ k = 2 ∨ k = 3 ∨ k = 4 ∨ k = 5 by omega) with rfl | rfl | rfl | rfl | rfl | rfl
      · obtain rfl := Option.some.inj (show some (a0, (.int : FieldType)) = some q from hq); exact ⟨fun n z => ⟨(fun k h => by cases h), ka0, ha0, m0, ea0⟩, fa0⟩
      · obtain rfl := Option.some.inj (show some (a1, (.long : FieldType)) = some q from hq); exact ⟨fun n z => ⟨(fun k h => by cases h), ka1, ha1, m1, ea1⟩, fa1⟩
      · obtain rfl := Option.some.inj (show some (a2, (.boolean : FieldType)) = some q from hq); exact ⟨fun n z => ⟨(fun k h => by cases h), ka2, ha2, m2, ea2⟩, fa2⟩
      · obtain rfl := Option.some.inj (show some (a3, (.object "LastSentence$Night" : FieldType)) = some q from hq); exact ⟨fun n z => ⟨(fun k h => by cases h), ka3, ha3, m3, ea3⟩, ⟨ka3, m3, ha3, ea3, ga3, fa3⟩⟩
      · obtain rfl := Option.some.inj (show some (a4, (.array .int : FieldType)) = some q from hq); exact ⟨fun n z => ⟨(fun k h => by cases h), ka4, ha4, m4, ea4⟩, fa4⟩
      · obtain rfl := Option.some.inj (show some (a5, (.array .long : FieldType)) = some q from hq); exact ⟨fun n z => ⟨(fun k h => by cases h), ka5, ha5, m5, ea5⟩, fa5⟩
  have hSp : x_Sp s := by
    refine ⟨fun w hw => ?_, w3, w4, w5⟩
    simp only [x_nest, List.mem_cons, List.not_mem_nil, or_false] at hw
    rcases hw with rfl | rfl | rfl | rfl | rfl | rfl | rfl | rfl
    · exact va_Nw.of rfl (hts _ (List.mem_append_right _ (List.mem_append_right _ (List.mem_append_right _ (List.mem_append_left _ (List.mem_of_getElem? (i := 161) (by decide +kernel)))))))
    · exact va_Nw.of rfl (hts _ (List.mem_append_right _ (List.mem_append_left _ (List.mem_of_getElem? (i := 24) (by decide +kernel)))))
    · exact va_Nw.of rfl (hts _ (List.mem_append_right _ (List.mem_append_left _ (List.mem_of_getElem? (i := 50) (by decide +kernel)))))
    · exact va_Nw.of rfl (hts _ (List.mem_append_right _ (List.mem_append_left _ (List.mem_of_getElem? (i := 127) (by decide +kernel)))))
    · exact va_Nw.of rfl (hts _ (List.mem_append_right _ (List.mem_append_left _ (List.mem_of_getElem? (i := 190) (by decide +kernel)))))
    · exact va_Nw.of rfl (hts _ (List.mem_append_right _ (List.mem_append_left _ (List.mem_of_getElem? (i := 215) (by decide +kernel)))))
    · exact va_Nw.of rfl (hts _ (List.mem_append_right _ (List.mem_append_left _ (List.mem_of_getElem? (i := 232) (by decide +kernel)))))
    · exact va_Nw.of rfl (hts _ (List.mem_append_right _ (List.mem_append_left _ (List.mem_of_getElem? (i := 176) (by decide +kernel)))))
  have hR : x_Rep (s.heap.size, b, tt, (D1, D2), Cs) [.inl (0, L, .inl xs), x_la 6 x_lack] s s.heap := ⟨Nat.le_refl 2, rfl, (fun k q hq => absurd (List.mem_of_getElem? (show ([] : va_W)[k]? = some q from hq)) List.not_mem_nil), hK, ⟨hbl, ⟨L, xs, rfl, hX⟩, rfl, hT, hZ⟩, hSp⟩
  rw [lg_entry_eq]
  refine w_law (xs := xs) hL p l e s m #[Value.ref b] below meth c (s.heap.size, b, tt, (D1, D2), Cs) (lw_Z below #[Value.ref b] s) s.heap [] _ ⟨hx, hb, hml, hown, hw, hnm, ?_⟩ hR va_S.rf (x_lay_entry (s.heap.size, b, tt, (D1, D2), Cs) 4 [.ref 0] (by decide))
  intro v h' H locs pc ls i hK1 hR1 hS1 hri hd
  have hK1 : v = some (.int 1) := hK1
  subst hK1
  obtain ⟨rfl, -⟩ := hri
  exact va_forget (fun q hq => hS1.2.2 q hq) (lw_ret hx hb hr hlocks hd)
set_option maxHeartbeats 4000000 in
theorem lw_walk (l : Launch) (hflags : l.flags = flags0) (b : Addr) (xs : List Int32) : MetFree l x (headSpec (Jvm.Cond.code x code maxLocals ret :: tables_1) room_1) (lw_P b xs) (fun _ _ _ _ _ => True) lw_Q := by
  refine MetFree.of_bodyS (code := code) (maxLocals := maxLocals) (ret := ret) (by decide) ?_ ?_
  · intro args s m h hn
    obtain ⟨meth, c, h1, h2, h3, h4, h5, h6, -, -⟩ := Cond.code_spec hn (atoms_spec (ws := Jvm.Cond.code x code maxLocals ret :: tables_1) h _ List.mem_cons_self)
    exact ⟨meth, c, h1, h2, h3, h4, h5, h6⟩
  · intro p e s m args below meth c s₁ B hml0 hP _
    obtain ⟨rfl, hx, hbd, hgv⟩ := hP
    obtain ⟨scr, harrAt, hlist, hof, hsmall⟩ := hx
    obtain ⟨hcb, hkn, -, -⟩ := State.arrayAt?_spec harrAt
    have hown : s.vm.findClass R_law = some m.cls := findClass_of_methodNamed B.named
    have hts0 : ∀ c ∈ (Jvm.Cond.code x code maxLocals ret :: tables_1), c.before #[Value.ref b] s = true := atoms_spec (ws := Jvm.Cond.code x code maxLocals ret :: tables_1) B.pre
    have hts : ∀ w ∈ lw_tbl, w.before #[Value.ref b] s = true := k2_hts_sels lw_privs (fun w hw => hts0 w (List.mem_cons_of_mem _ hw)) lw_privs_ok
    have hml : c.maxLocals = 4 := B.maxLocals_eq (hts0 _ List.mem_cons_self)
    have X₀ : Stand p l e room_1 s m #[Value.ref b] below meth c s₁ [] 0 0 := Stand.of_body B
    have hh0 : s₁.heap = s.heap := by rw [B.state]; rfl
    have hsz : scr.slots.size = xs.length := by rw [← Array.length_toList, hlist, List.length_map]
    have hval : ∀ j : Nat, j < xs.length → scr.slots[j]? = some (.int (xs.getD j 0)) := fun j hj => by
      rw [← Array.getElem?_toList, hlist]
      simp [hj]
    have hbl : b < s.heap.size := (Array.getElem?_eq_some_iff.mp hcb).1
    have hX : va_X b xs.length (fun j => xs.getD j 0) s s.heap := ⟨scr, hcb, hof, hkn, hsz, hval⟩
    have K : W p l e room_1 s m #[Value.ref b] below meth c s₁.heap [] 0 0 (lw_Z below #[Value.ref b] s) (entryFrame m ([Value.ref b] : List Value).toArray 4) := by
      rw [hh0]
      exact whole_start l hflags hbd ⟨B.exec, B.bytes, B.returns, hml, hown, hts, hX, hbl, B.notSynchronized, hgv, (name_of_methodNamed B.named B.method).1⟩
    obtain ⟨t, a1, o, b1, b2, b3⟩ := K s₁ rfl X₀
    exact ⟨t, o, a1, b1, b2, b3⟩
theorem lw_pre_spec {args : Array Value} {s : State} (h : (Jvm.Cond.and given_1 narrow_1).before args s = true) (hr : rest_1_c.before args s = true) : ∃ (b : Addr) (xs : List Int32), lw_P b xs args s := by
  have hs := flat_of_before _ h
  have hq := flat_of_before _ hr
  have hc : (Cond.count 1).before args s = true := hs _ (by decide +kernel)
  have harr : (Cond.arrayOf (.arg 0) .int).before args s = true := hs _ (by decide +kernel)
  have hle : (Cond.le (.length (.arg 0)) (.int 2048)).before args s = true := hs _ (by decide +kernel)
  have hlen : (Cond.isInt (.length (.arg 0))).before args s = true := hq _ (by decide +kernel)
  have hall : (Cond.all (.arg 0) (.isInt (.elem (.arg 0) (.index 0)))).before args s = true := hq _ (by decide +kernel)
  obtain ⟨b, xs, hb, hx⟩ := State.ints_of_pre rfl harr hlen hall
  have hsm : xs.length < 2 ^ 31 := hx.choose_spec.2.2.2
  have hev : (Term.length (.arg 0)).eval args s none [] s = some (.int xs.length.toInt32) := hx.length_eval hb
  have hv := Cond.le_ints hev (show (Term.int 2048).eval args s none [] s = some (.int 2048) from rfl)
  have hd : xs.length.toInt32 ≤ 2048 := by
    simpa [Cond.before, Cond.holds, hv] using hle
  have hN : xs.length ≤ 2048 := (Int32.ofNat_le_ofNat hsm (by decide)).mp (show Int32.ofNat xs.length ≤ Int32.ofNat 2048 from hd)
  exact ⟨b, xs, Cond.one_arg hc (show args[0]? = some (.ref b) from hb), hx, hN, h⟩
theorem lw_comes (l : Launch) (hflags : l.flags = flags0) : Comes l x (Jvm.Cond.code x code maxLocals ret :: tables_1) room_1 (fun tb e args s => Calls_1 tb e args s ∧ rest_1 tb e args s ∧ Pre_1 tb e args s)
    (fun _ _ args s o t => lw_Q args s o t) := by
  intro p e ha hc hk s m args below hf hfit hheap happ hpre
  obtain ⟨b, xs, hP⟩ := lw_pre_spec hpre.2.2 hpre.2.1
  obtain ⟨k, o, h1, h2, h3, hQ⟩ := lw_walk l hflags b xs p e ha hc hk s m args below hf ((Spec.applies_iff_loose hf).mp happ).1 hP trivial
  exact ⟨k, o, h1, h2, h3, hQ⟩
theorem lw_frame {s t : State} {o : Outcome} {args : Array Value} (h : Framed s o t [] 600000 7302250) :
    Framed s o t (fieldLocs frame_1_writes args s ++ arrayLocs frame_1_arrays args s ++ staticLocs frame_1_statics s) 600000 7302250 := h
theorem lw_limb (L : Cond) (hL : ∀ (args : Array Value) (s t : State), L.after args s (.returned (some (.int 1))) t = true) :
    ArmFor flags0 classFile x code maxLocals ret World_1 tables_1 room_1 Calls_1 rest_1 Pre_1
      (fun tb e a s o t => postC L tb e a s o t ∧ Framed s o t (fieldLocs frame_1_writes a s ++ arrayLocs frame_1_arrays a s ++ staticLocs frame_1_statics s) 600000 7302250) := by
  intro l hflags _ _ p e ha hc hk s m args below hf hfit hheap happ hpre
  obtain ⟨k, o, h1, h2, h3, rfl, hF⟩ := lw_comes l hflags p e ha hc hk s m args below hf hfit hheap happ hpre
  exact ⟨k, _, h1, h2, h3, hL args s _, lw_frame hF⟩
theorem i_vc : Claimed_1_1 ∧ Claimed_1_2 := ⟨lw_limb limb_1_1 (fun args s t => by simp [limb_1_1, Cond.after, Cond.holds, Cond.value]), lw_limb limb_1_2 (fun args s t => Cond.after_iff.mpr (by
  first | (rw [show limb_1_2 = Cond.eq .result (.int 1) from rfl, Cond.eq_ints (x := 1) (y := 1) rfl rfl]; simp; done) | (simp [limb_1_2, Cond.value, Term.eval]; done)))⟩
