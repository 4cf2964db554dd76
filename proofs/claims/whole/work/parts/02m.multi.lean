/-! ARRAYS OF ARRAYS, two dimensions: what the tables say of them, and the instruction that makes them, walked from its own words (Op.multianewarray), row by row. -/
def x_Over (vm : Vm) (t : FieldType) (b a : ClassId) : Prop :=
  vm.findClass (FieldType.array t).toString = some b ∧ (vm.classes.findIdx? fun (x : Class) => match x.kind with | .array component _ => component == b | _ => false) = some a ∧ (∃ k, vm.classes[a]? = some k ∧ k.kind = .array b (.array t)) ∧ vm.findClass ("[" ++ (FieldType.array t).toString) = some a
theorem x_over_iff {args : Array Value} {s : State} {t : FieldType} : (Cond.arrayOver (.array t)).before args s = true ↔ ∃ b a, x_Over s.vm t b a := by
  unfold Cond.before Cond.holds
  simp only [Cond.value, beq_iff_eq, Option.bind_eq_some_iff, Option.map_eq_some_iff]
  constructor
  · rintro ⟨b, hb, a, ha, k, hk, hm⟩
    have hp := (Array.findIdx?_eq_some_iff_getElem.mp ha).2.1
    rw [(Array.getElem?_eq_some_iff.mp hk).2] at hp
    refine ⟨b, a, hb, ha, ⟨k, hk, ?_⟩, ?_⟩
    · revert hp hm
      cases k.kind <;> simp
      intro h1 h2 h3
      exact ⟨h3, h1⟩
    · revert hm
      cases k.kind <;> simp
  · rintro ⟨b, a, hb, ha, ⟨k, hk, hd⟩, hf⟩
    refine ⟨b, hb, a, ha, k, hk, ?_⟩
    rw [hd]
    simp [hf]
theorem x_Over.moved {u U : Vm} (hal : u.Alike U) {t : FieldType} {b a : ClassId} (h : x_Over u t b a) : x_Over U t b a := by
  obtain ⟨h1, h2, ⟨k, h3, h4⟩, h5⟩ := h
  obtain ⟨k', h6, h7⟩ := hal.2.2 _ _ h3
  exact ⟨by rw [hal.findClass]; exact h1, by rw [hal.findIdx?_eqK _ (fun _ => rfl)]; exact h2, ⟨k', h6, by rw [h7]; exact h4⟩, by rw [hal.findClass]; exact h5⟩
/-- the state behind i of the N rows -/
def x_rows (S : State) (a b : ClassId) (N Q : Nat) (v : Value) : Nat → State
  | 0 => S.pushCell (arrV a N fun _ => .null)
  | i + 1 => ((x_rows S a b N Q v i).pushCell (arrV b Q fun _ => v)).setCell S.heap.size (arrV a N fun j => va_rf (if j < i + 1 then some (S.heap.size + 1 + j) else none))
section XR
variable {S : State} {a b : ClassId} {N Q : Nat} {v : Value}
theorem x_rows_vm : ∀ i : Nat, (x_rows S a b N Q v i).vm = S.vm
  | 0 => rfl
  | i + 1 => x_rows_vm i
theorem x_rows_top : ∀ i : Nat, (x_rows S a b N Q v i).topJava? = S.topJava?
  | 0 => rfl
  | i + 1 => x_rows_top i
theorem x_rows_size : ∀ i : Nat, (x_rows S a b N Q v i).heap.size = S.heap.size + 1 + i
  | 0 => Array.size_push _
  | i + 1 => by
    show (((x_rows S a b N Q v i).heap.push _).setIfInBounds _ _).size = _
    rw [Array.size_setIfInBounds, Array.size_push, x_rows_size i]
    rfl
theorem x_rows_used : ∀ i : Nat, (x_rows S a b N Q v i).slotsUsed = S.slotsUsed + N + i * Q
  | 0 => by
    show S.slotsUsed + (arrV a N _).slots.size = _
    rw [arrV_size]; omega
  | i + 1 => by
    show (x_rows S a b N Q v i).slotsUsed + (arrV b Q _).slots.size = _
    rw [arrV_size, x_rows_used i, Nat.succ_mul]; omega
theorem x_rows_first : ∀ i : Nat, (x_rows S a b N Q v i).heap[S.heap.size]? = some (arrV a N fun j => va_rf (if j < i then some (S.heap.size + 1 + j) else none))
  | 0 => by
    show (S.heap.push _)[S.heap.size]? = _
    rw [Array.getElem?_push_size]
    refine congrArg (fun g => some (arrV a N g)) (funext fun j => ?_)
    rw [if_neg (Nat.not_lt_zero j)]; rfl
  | i + 1 => by
    show (((x_rows S a b N Q v i).heap.push _).setIfInBounds S.heap.size _)[S.heap.size]? = _
    rw [Array.getElem?_setIfInBounds_self_of_lt (by rw [Array.size_push, x_rows_size]; omega)]
theorem x_rows_row : ∀ i j : Nat, j < i → (x_rows S a b N Q v i).heap[S.heap.size + 1 + j]? = some (arrV b Q fun _ => v)
  | 0, j, h => absurd h (Nat.not_lt_zero j)
  | i + 1, j, h => by
    show (((x_rows S a b N Q v i).heap.push _).setIfInBounds S.heap.size _)[S.heap.size + 1 + j]? = _
    rw [Array.getElem?_setIfInBounds_ne (by omega), Array.getElem?_push, x_rows_size]
    by_cases e : j = i
    · rw [if_pos (by omega)]
    · rw [if_neg (by omega)]
      exact x_rows_row i j (by omega)
theorem x_rows_old {q : Nat} (hq : q < S.heap.size) : ∀ i : Nat, (x_rows S a b N Q v i).heap[q]? = S.heap[q]?
  | 0 => by
    show (S.heap.push _)[q]? = _
    rw [Array.getElem?_push, if_neg (by omega)]
  | i + 1 => by
    show (((x_rows S a b N Q v i).heap.push _).setIfInBounds S.heap.size _)[q]? = _
    rw [Array.getElem?_setIfInBounds_ne (by omega), Array.getElem?_push, if_neg (by rw [x_rows_size]; omega)]
    exact x_rows_old hq i
theorem x_rows_up (i h0 : Nat) : updV (fun j => va_rf (if j < i then some (h0 + 1 + j) else none)) i (.ref (h0 + 1 + i)) = fun j => va_rf (if j < i + 1 then some (h0 + 1 + j) else none) := by
  funext j
  unfold updV
  by_cases e : j = i
  · subst e
    rw [if_pos rfl, if_pos (Nat.lt_succ_self j)]; rfl
  · rw [if_neg e]
    show va_rf (if j < i then some (h0 + 1 + j) else none) = _
    by_cases h : j < i
    · rw [if_pos h, if_pos (by omega)]
    · rw [if_neg h, if_neg (by omega)]
end XR
section XS
variable {p : Program} {l : Launch} {e : Env} {R : Room} {s : State} {m : MethodId} {args : Array Value} {below : List Frame} {meth : Method} {c : Code} {S : State} {locs : List Loc} {cells slots : Nat} {a b : ClassId} {N Q : Nat} {v : Value}
theorem x_rows_stand (X : Stand p l e R s m args below meth c S locs cells slots) : ∀ i : Nat, ∃ locs1 : List Loc, (∀ q ∈ locs1, q ∈ locs ∨ q.base = S.heap.size) ∧ Stand p l e R s m args below meth c (x_rows S a b N Q v i) locs1 (cells + 1 + i) (slots + N + i * Q)
  | 0 => by
    have h := X.pushed (arrV a N fun _ => .null)
    rw [arrV_size] at h
    refine ⟨locs, fun q hq => .inl hq, ?_⟩
    rw [Nat.zero_mul]
    exact h
  | i + 1 => by
    obtain ⟨l1, h1, Y⟩ := x_rows_stand X i
    have hc : ((x_rows S a b N Q v i).pushCell (arrV b Q fun _ => v)).heap[S.heap.size]? = some (arrV a N fun j => va_rf (if j < i then some (S.heap.size + 1 + j) else none)) := by
      show ((x_rows S a b N Q v i).heap.push _)[S.heap.size]? = _
      rw [Array.getElem?_push, if_neg (by rw [x_rows_size]; omega)]
      exact x_rows_first i
    have h2 := (Y.pushed (arrV b Q fun _ => v)).stored hc i (.ref (S.heap.size + 1 + i))
    rw [arrV_store, arrV_size, x_rows_up] at h2
    refine ⟨l1 ++ [⟨S.heap.size, i⟩], fun q hq => ?_, ?_⟩
    · rcases List.mem_append.mp hq with h | h
      · exact h1 q h
      · rw [List.mem_singleton] at h
        exact .inr (by rw [h])
    · rw [show slots + N + (i + 1) * Q = slots + N + i * Q + Q by rw [Nat.succ_mul]; omega]
      exact h2
end XS
section XW
variable {E : CtlPost} {e : Env} {d : Bool} {acts : List Action} {S : State} {f : JFrame} {a b b2 : ClassId} {kA kB : Class} {ty : FieldType} {n k : Int32} {N Q : Nat}
theorem x_make1 {P : Addr → Pre} {U : State} (hB : U.vm.classes[b]? = some kB) (hBk : kB.kind = .array b2 ty) (hk : ¬ k < 0) (hQ : k.toNatClampNeg = Q) (h1 : ¬ Q > e.platform.arrayLengthLimit) (h2 : ¬ Q * componentBytes ty > e.platform.maxHeapBytes) (h3 : U.heap.size < e.platform.maxCells) (h4 : U.slotsUsed + Q ≤ e.platform.maxSlots) (hft : fits ty (defaultValue ty) = true)
    (hq : ∀ acts', P U.heap.size d acts' (U.pushCell (arrV b Q fun _ => defaultValue ty))) : wp (Op.multianewarray.make b [k]) P E e d acts U := by
  rw [Op.multianewarray.make]
  simp only [wp_bind', W.ite, hk, if_false, wp_pure', W.theClass, hB, Option.some.injEq, exists_eq_left', hBk, hQ]
  refine W.newArray_of hB hBk h1 h2 h3 h4 hft fun acts' => ?_
  rw [arrV_new]
  exact hq acts'
theorem x_make2 {P : Addr → Pre} (hA : S.vm.classes[a]? = some kA) (hAk : kA.kind = .array b (.array ty)) (hB : S.vm.classes[b]? = some kB) (hBk : kB.kind = .array b2 ty) (hn : ¬ n < 0) (hk : ¬ k < 0) (hN : n.toNatClampNeg = N) (hQ : k.toNatClampNeg = Q) (h0 : ¬ N > e.platform.arrayLengthLimit) (h0b : ¬ N * 4 > e.platform.maxHeapBytes) (h1 : ¬ Q > e.platform.arrayLengthLimit) (h2 : ¬ Q * componentBytes ty > e.platform.maxHeapBytes) (h3 : S.heap.size + (1 + N) ≤ e.platform.maxCells) (h4 : S.slotsUsed + (N + N * Q) ≤ e.platform.maxSlots) (hft : fits ty (defaultValue ty) = true)
    (hq : ∀ d' acts', P S.heap.size d' acts' ((x_rows S a b N Q (defaultValue ty) N).setTop f)) : wp (Op.multianewarray.make a [n, k]) P E e d acts (S.setTop f) := by
  rw [Op.multianewarray.make]
  simp only [wp_bind', W.ite, hn, if_false, wp_pure', W.theClass, State.vm_setTop, hA, Option.some.injEq, exists_eq_left', hAk, hN]
  refine W.newArray_of (s := S.setTop f) hA hAk h0 h0b (by show S.heap.size < _; omega) (by show S.slotsUsed + N ≤ _; omega) rfl fun acts' => ?_
  rw [arrV_new]
  have hno : [k].find? (fun x => decide (x < 0)) = none := by simp [hk]
  have loop : ∀ (d1 : Bool) (acts1 : List Action), wp (forIn [0:N] PUnit.unit fun i _ => do
      let r ← Op.multianewarray.make b [k]
      writeLoc S.heap.size i (.ref r)
      Pure.pure (ForInStep.yield PUnit.unit)) (fun _ d2 acts2 s2 => P S.heap.size d2 acts2 s2) E e d1 acts1 ((x_rows S a b N Q (defaultValue ty) 0).setTop f) := by
    intro d1 acts1
    rw [Std.Legacy.Range.forIn_eq_forIn_range']
    refine wp_forIn_inv (fun rest s' => ∃ i, i ≤ N ∧ rest = List.range' i (N - i) ∧ s' = (x_rows S a b N Q (defaultValue ty) i).setTop f) _ _ ⟨0, Nat.zero_le _, ?_, rfl⟩ ?_ ?_
    · simp [Std.Legacy.Range.size]
    · rintro x rest s' d' acts' Q' ⟨i, hi, hr, rfl⟩ hgo
      obtain ⟨hx, hpos, hrest⟩ := List.range'_eq_cons_iff.mp hr.symm
      subst hx
      have hlt : i < N := by omega
      have hm : (i + 1) * Q ≤ N * Q := Nat.mul_le_mul_right Q hlt
      rw [Nat.succ_mul] at hm
      simp only [wp_bind']
      refine x_make1 (b2 := b2) (kB := kB) (by show (x_rows S a b N Q (defaultValue ty) i).vm.classes[b]? = _; rw [x_rows_vm]; exact hB) hBk hk hQ h1 h2 (by show (x_rows S a b N Q (defaultValue ty) i).heap.size < _; rw [x_rows_size]; omega) (by show (x_rows S a b N Q (defaultValue ty) i).slotsUsed + Q ≤ _; rw [x_rows_used]; omega) hft fun acts'' => ?_
      rw [wp_bind', W.writeLoc]
      refine ⟨arrV a N fun j => va_rf (if j < i then some (S.heap.size + 1 + j) else none), ?_, (fun h => by cases h), by rw [arrV_size]; exact hlt, ?_, ?_⟩
      · show ((x_rows S a b N Q (defaultValue ty) i).heap.push _)[S.heap.size]? = _
        rw [Array.getElem?_push, if_neg (by rw [x_rows_size]; omega)]
        exact x_rows_first i
      · show (x_rows S a b N Q (defaultValue ty) i).fitsSlot a .none i (.ref _) = true
        simp [State.fitsSlot, State.slotType?, x_rows_vm, hA, hAk, fits]
      · rw [wp_pure']
        refine hgo _ _ _ ⟨i + 1, hlt, ?_, ?_⟩
        · rw [hrest, show N - i - 1 = N - (i + 1) by omega]
        · show (((x_rows S a b N Q (defaultValue ty) i).pushCell _).setCell S.heap.size ((arrV a N _).setSlot i (.ref (x_rows S a b N Q (defaultValue ty) i).heap.size))).setTop f = _
          rw [x_rows_size, arrV_store, x_rows_up]
          rfl
    · rintro s' d' acts' ⟨i, hi, hr, rfl⟩
      have : i = N := by
        have := congrArg List.length hr
        simp at this
        omega
      subst this
      exact hq d' acts'
  by_cases hz : n = 0
  · simp only [hz, beq_self_eq_true, if_true, hno, wp_pure', wp_bind']
    exact loop _ _
  · simp only [beq_eq_false_iff_ne.mpr hz, Bool.false_eq_true, if_false, wp_pure', wp_bind']
    exact loop _ _
theorem x_msem {P : Unit → Pre} {index : Nat} {rest : List Value} (hs : S.topJava?.isSome) (hr : S.vm.classReady f.method.cls index a) (hst : f.stack = .int k :: .int n :: rest) (hA : S.vm.classes[a]? = some kA) (hAk : kA.kind = .array b (.array ty)) (hB : S.vm.classes[b]? = some kB) (hBk : kB.kind = .array b2 ty) (hn : ¬ n < 0) (hk : ¬ k < 0) (hN : n.toNatClampNeg = N) (hQ : k.toNatClampNeg = Q) (h0 : ¬ N > e.platform.arrayLengthLimit) (h0b : ¬ N * 4 > e.platform.maxHeapBytes) (h1 : ¬ Q > e.platform.arrayLengthLimit) (h2 : ¬ Q * componentBytes ty > e.platform.maxHeapBytes) (h3 : S.heap.size + (1 + N) ≤ e.platform.maxCells) (h4 : S.slotsUsed + (N + N * Q) ≤ e.platform.maxSlots) (hft : fits ty (defaultValue ty) = true)
    (hq : ∀ d' acts', P () d' acts' ((x_rows S a b N Q (defaultValue ty) N).setTop { f with stack := .ref S.heap.size :: rest })) : wp (Op.multianewarray.sem index 2) P E e d acts (S.setTop f) := by
  have hp := fun (P2 : List Value → Pre) (d2 : Bool) => popN_top (Q := P2) (E := E) (e := e) (d := d2) (acts := acts) (f := f) hs (args := [.int n, .int k]) (rest := rest) hst
  simp only [Op.multianewarray.sem, wp_bind', W.resolveClassAt_ready (State.method?_setTop f hs) hr]
  refine (hp _ _).mpr ?_
  simp only [List.mapM, List.mapM.loop, wp_bind', wp_pure', List.reverse_cons, List.reverse_nil, List.nil_append, List.cons_append]
  refine x_make2 hA hAk hB hBk hn hk hN hQ h0 h0b h1 h2 h3 h4 hft fun d' acts' => ?_
  simp only [wp_bind', W.mark, W.pushRef]
  refine ⟨_, State.topJava?_setTop' _ (by rw [x_rows_top]; exact hs), ?_⟩
  rw [State.setTop_setTop]
  exact hq _ _
end XW
section XI
variable {p : Program} {l : Launch} {e : Env} {R : Room} {s : State} {m : MethodId} {args : Array Value} {below : List Frame} {meth : Method} {c : Code} {T : State} {locs : List Loc} {cells slots : Nat}
theorem x_multi (X : Stand p l e R s m args below meth c T locs cells slots) (hexec : p.tables.exec = Jvm.exec) {own : String} {index : Nat} {ty : FieldType} (hown : s.vm.findClass own = some m.cls) (hlink : (Cond.classLink own index ("[" ++ (FieldType.array ty).toString)).before args s = true) (hover : (Cond.arrayOver (.array ty)).before #[] s = true) (harr : (Cond.arrayClass ty).before args s = true)
    {g : JFrame} (hg : g.method = m) (hdg : decode c.code g.pc = .ok (.multianewarray index 2, 4)) {n k : Int32} {N Q : Nat} {rest : List Value} (hst : g.stack = .int k :: .int n :: rest) (hn : ¬ n < 0) (hk : ¬ k < 0) (hN : n.toNatClampNeg = N) (hQ : k.toNatClampNeg = Q) (hb1 : N ≤ 60000) (hb2 : Q ≤ 60000) (hcb : componentBytes ty ≤ 8) (hft : fits ty (defaultValue ty) = true) (hcells : cells + (1 + N) ≤ R.cells) (hslots : slots + (N + N * Q) ≤ R.slots) :
    ∃ (S : State) (a b : ClassId) (locs1 : List Loc), S.heap = T.heap ∧ s.vm.findClass ("[" ++ (FieldType.array ty).toString) = some a ∧ s.vm.findClass (FieldType.array ty).toString = some b ∧ (∀ q ∈ locs1, q ∈ locs ∨ q.base = T.heap.size) ∧ Stand p l e R s m args below meth c (x_rows S a b N Q (defaultValue ty) N) locs1 (cells + 1 + N) (slots + N + N * Q) ∧
      ∀ t, Steps p.tables e below ((x_rows S a b N Q (defaultValue ty) N).setTop { g with pc := g.pc + 4, stack := .ref T.heap.size :: rest }) t → Steps p.tables e below (T.setTop g) t := by
  subst hg
  have hpl : e.platform.magicAccessors = ({} : Platform).magicAccessors := by rw [X.admits.platform]
  obtain ⟨b, a, hb, -, ⟨kA, hkA, hAk⟩, ha⟩ := x_over_iff.mp hover
  obtain ⟨a', ha', hl⟩ := Cond.classLink_spec hown hlink e.platform hpl
  obtain rfl : a = a' := Option.some.inj (ha.symm.trans ha')
  obtain ⟨b', kB, b2, hb', hkB, hBk⟩ := Cond.arrayClass_spec harr
  obtain rfl : b = b' := Option.some.inj (hb.symm.trans hb')
  obtain ⟨g1, hwarm, g3⟩ := State.classEntry (e := e) X.warmed hl
  generalize T.vm.noted g.method.cls index (.cls a) = vm1 at g1 hwarm g3
  have hal : s.vm.Alike vm1 := hwarm.alike
  obtain ⟨kA1, hA1, eA⟩ := hal.2.2 _ _ hkA
  obtain ⟨kB1, hB1, eB⟩ := hal.2.2 _ _ hkB
  obtain ⟨r1, r2⟩ := X.roomAbove hcells hslots
  obtain ⟨locs1, hl1, Y⟩ := x_rows_stand (a := a) (b := b) (N := N) (Q := Q) (v := defaultValue ty) (X.noted hwarm) N
  have hcq : Q * componentBytes ty ≤ 60000 * 8 := Nat.mul_le_mul hb2 hcb
  have hLim := Launch.admits_arrayLengthLimit X.admits
  have hHp := Launch.admits_maxHeapBytes X.admits
  refine ⟨T.setVm vm1, a, b, locs1, rfl, ha, hb, hl1, Y, fun t ht => ?_⟩
  refine Steps.instr (c := c) X.here ?_
  rw [hdg]
  show wpRun (p.tables.exec (.multianewarray index 2)) _ _ e _
  rw [hexec]
  show wp (Op.multianewarray.sem index 2) _ _ e false [] (T.setTop g)
  have hcold : ∀ {P : Unit → Pre} {E : CtlPost}, wp (Op.multianewarray.sem index 2) P E e false [] (T.setTop g) ↔ wp (Op.multianewarray.sem index 2) P E e false [] ((T.setVm vm1).setTop g) := by
    intro P E
    simp only [Op.multianewarray.sem, wp_bind']
    exact W.resolveClassAt_transfer (s := T.setTop g) (State.method?_setTop g X.here.top) g1 g3
  refine hcold.mpr (x_msem (S := T.setVm vm1) X.here.top g3 hst hA1 (by rw [eA]; exact hAk) hB1 (by rw [eB]; exact hBk) hn hk hN hQ (by rw [hLim]; omega) (by rw [hHp]; omega) (by rw [hLim]; omega) (by rw [hHp]; omega) r1 r2 hft fun d' acts' acts2 => ?_)
  rw [afterInstr_ok]
  exact ht
end XI
