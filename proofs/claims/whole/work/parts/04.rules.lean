/-! THE RULES: an instruction, a row -/
/-- class, name, code, locals, what it returns, its room -/
abbrev xM : Type := String × MethodName × ByteArray × Nat × Option FieldType × Room
def x_words : List Cond := lw_tbl.filter goodWord
def x_isRet (rt : Option FieldType) (i : Instr) (v : Option Value) : Prop := match rt with
  | none => i = .return_ ∧ v = none
  | some .int => i = .ireturn ∧ ∃ x : Int32, v = some (.int x)
  | some .boolean => i = .ireturn ∧ ∃ x : Int32, v = some (.int x) ∧ (x = 0 ∨ x = 1)
  | some .long => i = .lreturn ∧ ∃ x : Int64, v = some (.long x)
  | _ => False
def x_Cx (p : Program) (l : Launch) (e : Env) (s : State) (m : MethodId) (args : Array Value) (below : List Frame) (meth : Method) (c : Code) (M : xM) (G : xG) (K : Option Value → xH → Prop) (Z : State → Prop) : Prop :=
  p.tables.exec = Jvm.exec ∧ c.code = M.2.2.1 ∧ c.maxLocals = M.2.2.2.1 ∧ s.vm.findClass M.1 = some m.cls ∧ (∀ w ∈ x_words, w.before args s = true) ∧ meth.name = M.2.1.name ∧
  ∀ (v : Option Value) (h' : xH) (H : Heap) (locs : List Loc) (pc : Nat) (ls : Array Slot) (i : Instr), K v h' → x_Rep G h' s H → va_S (fun q => G.1 ≤ q) s.heap H locs → x_isRet M.2.2.2.2.1 i v → decode M.2.2.1 pc = .ok (i, 1) →
    W p l e M.2.2.2.2.2 s m args below meth c H locs M.2.2.2.2.2.cells M.2.2.2.2.2.slots Z (F0 m pc ls (v.toList.map (x_cv G)))
/-- from this frame, over this heap, so much made, the method comes to an end of which K holds -/
def x_Rn (M : xM) (pc : Nat) (lo : List (Option Value)) (st : List Value) (h : xH) (cs : Nat × Nat) (K : Option Value → xH → Prop) : Prop :=
  ∀ (p : Program) (l : Launch) (e : Env) (s : State) (m : MethodId) (args : Array Value) (below : List Frame) (meth : Method) (c : Code) (G : xG) (Z : State → Prop) (H : Heap) (locs : List Loc) (ls : Array Slot), x_Cx p l e s m args below meth c M G K Z → x_Rep G h s H → va_S (fun q => G.1 ≤ q) s.heap H locs → x_LH ls M.2.2.2.1 (x_mp G lo) →
    W p l e M.2.2.2.2.2 s m args below meth c H locs cs.1 cs.2 Z (F0 m pc ls (st.map (x_cv G)))
theorem R_iconst {M : xM} {pc : Nat} {lo : List (Option Value)} {st : List Value} {h : xH} {cs : Nat × Nat} {K : Option Value → xH → Prop} {n : Int} (v : Int32) (hd : decode M.2.2.1 pc = .ok (.iconst n, 1)) (hv : Int32.ofInt n = v) (kk : x_Rn M (pc + 1) lo (.int v :: st) h cs K) : x_Rn M (pc) lo (st) h cs K := by
  intro p l e s m args below meth c G Z H locs ls C hR hS hL
  exact lv_iconst C.1 C.2.1 hd hv (kk p l e s m args below meth c G Z H locs ls C hR hS hL)
theorem R_bipush {M : xM} {pc : Nat} {lo : List (Option Value)} {st : List Value} {h : xH} {cs : Nat × Nat} {K : Option Value → xH → Prop} {n : Int} (v : Int32) (hd : decode M.2.2.1 pc = .ok (.bipush n, 2)) (hv : (Int8.ofInt n).toInt32 = v) (kk : x_Rn M (pc + 2) lo (.int v :: st) h cs K) : x_Rn M (pc) lo (st) h cs K := by
  intro p l e s m args below meth c G Z H locs ls C hR hS hL
  exact lv_bipush C.1 C.2.1 hd hv (kk p l e s m args below meth c G Z H locs ls C hR hS hL)
theorem R_sipush {M : xM} {pc : Nat} {lo : List (Option Value)} {st : List Value} {h : xH} {cs : Nat × Nat} {K : Option Value → xH → Prop} {n : Int} (v : Int32) (hd : decode M.2.2.1 pc = .ok (.sipush n, 3)) (hv : (Int16.ofInt n).toInt32 = v) (kk : x_Rn M (pc + 3) lo (.int v :: st) h cs K) : x_Rn M (pc) lo (st) h cs K := by
  intro p l e s m args below meth c G Z H locs ls C hR hS hL
  exact lv_sipush C.1 C.2.1 hd hv (kk p l e s m args below meth c G Z H locs ls C hR hS hL)
theorem R_lconst {M : xM} {pc : Nat} {lo : List (Option Value)} {st : List Value} {h : xH} {cs : Nat × Nat} {K : Option Value → xH → Prop} {n : Fin 2} (v : Int64) (hd : decode M.2.2.1 pc = .ok (.lconst n, 1)) (hv : Int64.ofNat (n : Nat) = v) (kk : x_Rn M (pc + 1) lo (.long v :: st) h cs K) : x_Rn M (pc) lo (st) h cs K := by
  intro p l e s m args below meth c G Z H locs ls C hR hS hL
  exact lv_lconst C.1 C.2.1 hd hv (kk p l e s m args below meth c G Z H locs ls C hR hS hL)
theorem R_ldc {M : xM} {pc : Nat} {lo : List (Option Value)} {st : List Value} {h : xH} {cs : Nat × Nat} {K : Option Value → xH → Prop} {n : Nat} (v : Int32) (hd : decode M.2.2.1 pc = .ok (.ldc n, 2)) (hw : Cond.constant M.1 n v ∈ x_words) (kk : x_Rn M (pc + 2) lo (.int v :: st) h cs K) : x_Rn M (pc) lo (st) h cs K := by
  intro p l e s m args below meth c G Z H locs ls C hR hS hL
  exact lv_ldc C.1 C.2.1 C.2.2.2.1 (C.2.2.2.2.1 _ hw) hd (kk p l e s m args below meth c G Z H locs ls C hR hS hL)
theorem R_ldcw {M : xM} {pc : Nat} {lo : List (Option Value)} {st : List Value} {h : xH} {cs : Nat × Nat} {K : Option Value → xH → Prop} {n : Nat} (v : Int32) (hd : decode M.2.2.1 pc = .ok (.ldc_w n, 3)) (hw : Cond.constant M.1 n v ∈ x_words) (kk : x_Rn M (pc + 3) lo (.int v :: st) h cs K) : x_Rn M (pc) lo (st) h cs K := by
  intro p l e s m args below meth c G Z H locs ls C hR hS hL
  exact lv_ldcw C.1 C.2.1 C.2.2.2.1 (C.2.2.2.2.1 _ hw) hd (kk p l e s m args below meth c G Z H locs ls C hR hS hL)
theorem R_ldc2 {M : xM} {pc : Nat} {lo : List (Option Value)} {st : List Value} {h : xH} {cs : Nat × Nat} {K : Option Value → xH → Prop} {n : Nat} (v : Int64) (hd : decode M.2.2.1 pc = .ok (.ldc2_w n, 3)) (hw : Cond.constantLong M.1 n v ∈ x_words) (kk : x_Rn M (pc + 3) lo (.long v :: st) h cs K) : x_Rn M (pc) lo (st) h cs K := by
  intro p l e s m args below meth c G Z H locs ls C hR hS hL
  exact lv_ldc2 C.1 C.2.1 C.2.2.2.1 (C.2.2.2.2.1 _ hw) hd (kk p l e s m args below meth c G Z H locs ls C hR hS hL)
theorem R_iload_n {M : xM} {pc : Nat} {lo : List (Option Value)} {st : List Value} {h : xH} {cs : Nat × Nat} {K : Option Value → xH → Prop} {k : Fin 4} {x : Int32} (hd : decode M.2.2.1 pc = .ok (.iload_n k, 1)) (hl : lo[(k : Nat)]? = some (some (.int x))) (kk : x_Rn M (pc + 1) lo (.int x :: st) h cs K) : x_Rn M (pc) lo (st) h cs K := by
  intro p l e s m args below meth c G Z H locs ls C hR hS hL
  exact lv_iload_n C.1 C.2.1 hd rfl (hL.2.2 _ _ (x_mp_get hl)) (kk p l e s m args below meth c G Z H locs ls C hR hS hL)
theorem R_iload {M : xM} {pc : Nat} {lo : List (Option Value)} {st : List Value} {h : xH} {cs : Nat × Nat} {K : Option Value → xH → Prop} {i : Nat} {x : Int32} (hd : decode M.2.2.1 pc = .ok (.iload i, 2)) (hl : lo[i]? = some (some (.int x))) (kk : x_Rn M (pc + 2) lo (.int x :: st) h cs K) : x_Rn M (pc) lo (st) h cs K := by
  intro p l e s m args below meth c G Z H locs ls C hR hS hL
  exact lv_iload C.1 C.2.1 hd (hL.2.2 _ _ (x_mp_get hl)) (kk p l e s m args below meth c G Z H locs ls C hR hS hL)
theorem R_lload_n {M : xM} {pc : Nat} {lo : List (Option Value)} {st : List Value} {h : xH} {cs : Nat × Nat} {K : Option Value → xH → Prop} {k : Fin 4} {x : Int64} (hd : decode M.2.2.1 pc = .ok (.lload_n k, 1)) (hl : lo[(k : Nat)]? = some (some (.long x))) (kk : x_Rn M (pc + 1) lo (.long x :: st) h cs K) : x_Rn M (pc) lo (st) h cs K := by
  intro p l e s m args below meth c G Z H locs ls C hR hS hL
  exact lv_lload_n C.1 C.2.1 hd rfl (hL.2.2 _ _ (x_mp_get hl)) (kk p l e s m args below meth c G Z H locs ls C hR hS hL)
theorem R_lload {M : xM} {pc : Nat} {lo : List (Option Value)} {st : List Value} {h : xH} {cs : Nat × Nat} {K : Option Value → xH → Prop} {i : Nat} {x : Int64} (hd : decode M.2.2.1 pc = .ok (.lload i, 2)) (hl : lo[i]? = some (some (.long x))) (kk : x_Rn M (pc + 2) lo (.long x :: st) h cs K) : x_Rn M (pc) lo (st) h cs K := by
  intro p l e s m args below meth c G Z H locs ls C hR hS hL
  exact lv_lload C.1 C.2.1 hd (hL.2.2 _ _ (x_mp_get hl)) (kk p l e s m args below meth c G Z H locs ls C hR hS hL)
theorem R_aload_n {M : xM} {pc : Nat} {lo : List (Option Value)} {st : List Value} {h : xH} {cs : Nat × Nat} {K : Option Value → xH → Prop} {k : Fin 4} {x : Nat} (hd : decode M.2.2.1 pc = .ok (.aload_n k, 1)) (hl : lo[(k : Nat)]? = some (some (.ref x))) (kk : x_Rn M (pc + 1) lo (.ref x :: st) h cs K) : x_Rn M (pc) lo (st) h cs K := by
  intro p l e s m args below meth c G Z H locs ls C hR hS hL
  exact lv_aload_n C.1 C.2.1 hd rfl (hL.2.2 _ _ (x_mp_get hl)) (kk p l e s m args below meth c G Z H locs ls C hR hS hL)
theorem R_aload {M : xM} {pc : Nat} {lo : List (Option Value)} {st : List Value} {h : xH} {cs : Nat × Nat} {K : Option Value → xH → Prop} {i : Nat} {x : Nat} (hd : decode M.2.2.1 pc = .ok (.aload i, 2)) (hl : lo[i]? = some (some (.ref x))) (kk : x_Rn M (pc + 2) lo (.ref x :: st) h cs K) : x_Rn M (pc) lo (st) h cs K := by
  intro p l e s m args below meth c G Z H locs ls C hR hS hL
  exact lv_aload C.1 C.2.1 hd (hL.2.2 _ _ (x_mp_get hl)) (kk p l e s m args below meth c G Z H locs ls C hR hS hL)
theorem R_istore_n {M : xM} {pc : Nat} {lo : List (Option Value)} {st : List Value} {h : xH} {cs : Nat × Nat} {K : Option Value → xH → Prop} {k : Fin 4} {x : Int32} (hd : decode M.2.2.1 pc = .ok (.istore_n k, 1)) (hi : (k : Nat) < M.2.2.2.1) (hk : x_ok lo k = true) (kk : x_Rn M (pc + 1) (lo.set (k : Nat) (some (.int x))) (st) h cs K) : x_Rn M (pc) lo (.int x :: st) h cs K := by
  intro p l e s m args below meth c G Z H locs ls C hR hS hL
  refine lv_istore_n C.1 C.2.1 hd rfl hL.has hi rfl (fun ls2 hl2 => ?_)
  exact kk p l e s m args below meth c G Z H locs ls2 C hR hS (by rw [x_mp_set]; exact x_LH.store1 (x_mp_ok hk) hl2)
theorem R_istore {M : xM} {pc : Nat} {lo : List (Option Value)} {st : List Value} {h : xH} {cs : Nat × Nat} {K : Option Value → xH → Prop} {i : Nat} {x : Int32} (hd : decode M.2.2.1 pc = .ok (.istore i, 2)) (hi : i < M.2.2.2.1) (hk : x_ok lo i = true) (kk : x_Rn M (pc + 2) (lo.set i (some (.int x))) (st) h cs K) : x_Rn M (pc) lo (.int x :: st) h cs K := by
  intro p l e s m args below meth c G Z H locs ls C hR hS hL
  refine lv_istore C.1 C.2.1 hd hL.has hi rfl (fun ls2 hl2 => ?_)
  exact kk p l e s m args below meth c G Z H locs ls2 C hR hS (by rw [x_mp_set]; exact x_LH.store1 (x_mp_ok hk) hl2)
theorem R_astore_n {M : xM} {pc : Nat} {lo : List (Option Value)} {st : List Value} {h : xH} {cs : Nat × Nat} {K : Option Value → xH → Prop} {k : Fin 4} {x : Nat} (hd : decode M.2.2.1 pc = .ok (.astore_n k, 1)) (hi : (k : Nat) < M.2.2.2.1) (hk : x_ok lo k = true) (kk : x_Rn M (pc + 1) (lo.set (k : Nat) (some (.ref x))) (st) h cs K) : x_Rn M (pc) lo (.ref x :: st) h cs K := by
  intro p l e s m args below meth c G Z H locs ls C hR hS hL
  refine lv_astore_n C.1 C.2.1 hd rfl hL.has hi rfl (fun ls2 hl2 => ?_)
  exact kk p l e s m args below meth c G Z H locs ls2 C hR hS (by rw [x_mp_set]; exact x_LH.store1 (x_mp_ok hk) hl2)
theorem R_astore {M : xM} {pc : Nat} {lo : List (Option Value)} {st : List Value} {h : xH} {cs : Nat × Nat} {K : Option Value → xH → Prop} {i : Nat} {x : Nat} (hd : decode M.2.2.1 pc = .ok (.astore i, 2)) (hi : i < M.2.2.2.1) (hk : x_ok lo i = true) (kk : x_Rn M (pc + 2) (lo.set i (some (.ref x))) (st) h cs K) : x_Rn M (pc) lo (.ref x :: st) h cs K := by
  intro p l e s m args below meth c G Z H locs ls C hR hS hL
  refine lv_astore C.1 C.2.1 hd hL.has hi rfl (fun ls2 hl2 => ?_)
  exact kk p l e s m args below meth c G Z H locs ls2 C hR hS (by rw [x_mp_set]; exact x_LH.store1 (x_mp_ok hk) hl2)
theorem R_lstore_n {M : xM} {pc : Nat} {lo : List (Option Value)} {st : List Value} {h : xH} {cs : Nat × Nat} {K : Option Value → xH → Prop} {k : Fin 4} {x : Int64} (hd : decode M.2.2.1 pc = .ok (.lstore_n k, 1)) (hi : (k : Nat) + 1 < M.2.2.2.1) (hk : x_ok lo k = true) (kk : x_Rn M (pc + 1) ((lo.set (k : Nat) (some (.long x))).set ((k : Nat) + 1) none) (st) h cs K) : x_Rn M (pc) lo (.long x :: st) h cs K := by
  intro p l e s m args below meth c G Z H locs ls C hR hS hL
  refine lv_lstore_n C.1 C.2.1 hd rfl hL.has hi rfl (fun ls2 hl2 => ?_)
  exact kk p l e s m args below meth c G Z H locs ls2 C hR hS (by rw [x_mp_set, x_mp_set]; exact x_LH.store2 (x_mp_ok hk) hl2)
theorem R_lstore {M : xM} {pc : Nat} {lo : List (Option Value)} {st : List Value} {h : xH} {cs : Nat × Nat} {K : Option Value → xH → Prop} {i : Nat} {x : Int64} (hd : decode M.2.2.1 pc = .ok (.lstore i, 2)) (hi : i + 1 < M.2.2.2.1) (hk : x_ok lo i = true) (kk : x_Rn M (pc + 2) ((lo.set i (some (.long x))).set (i + 1) none) (st) h cs K) : x_Rn M (pc) lo (.long x :: st) h cs K := by
  intro p l e s m args below meth c G Z H locs ls C hR hS hL
  refine lv_lstore C.1 C.2.1 hd hL.has hi rfl (fun ls2 hl2 => ?_)
  exact kk p l e s m args below meth c G Z H locs ls2 C hR hS (by rw [x_mp_set, x_mp_set]; exact x_LH.store2 (x_mp_ok hk) hl2)
theorem x_pairs_at {lo : List (Option Value)} {i : Nat} {v : Value} (h : lo[i]? = some (some v)) : ∃ k : Nat, (x_pairs lo)[k]? = some (i, v) := List.getElem?_of_mem (x_pairs_mem.mpr h)
theorem R_iinc {M : xM} {pc : Nat} {lo : List (Option Value)} {st : List Value} {h : xH} {cs : Nat × Nat} {K : Option Value → xH → Prop} {i : Nat} {n : Int} {x : Int32} (v : Int32) (hd : decode M.2.2.1 pc = .ok (.iinc i n, 3)) (hl : lo[i]? = some (some (.int x))) (hv : x + Int32.ofInt n = v) (hi : i < M.2.2.2.1) (hk : x_ok lo i = true) (kk : x_Rn M (pc + 3) (lo.set i (some (.int v))) (st) h cs K) : x_Rn M (pc) lo (st) h cs K := by
  intro p l e s m args below meth c G Z H locs ls C hR hS hL
  obtain ⟨j, hj⟩ := x_pairs_at (x_mp_get (G := G) hl)
  refine lv_iinc C.1 C.2.1 hd hL.has hj hv hi rfl (fun ls2 hl2 => ?_)
  exact kk p l e s m args below meth c G Z H locs ls2 C hR hS (by rw [x_mp_set]; exact x_LH.store1 (x_mp_ok hk) hl2)
theorem R_iadd {M : xM} {pc : Nat} {lo : List (Option Value)} {st : List Value} {h : xH} {cs : Nat × Nat} {K : Option Value → xH → Prop} {x y : Int32} (hd : decode M.2.2.1 pc = .ok (.iadd, 1)) (kk : x_Rn M (pc + 1) lo (.int (x + y) :: st) h cs K) : x_Rn M (pc) lo (.int y :: .int x :: st) h cs K := by
  intro p l e s m args below meth c G Z H locs ls C hR hS hL
  exact lv_iadd C.1 C.2.1 hd (kk p l e s m args below meth c G Z H locs ls C hR hS hL)
theorem R_isub {M : xM} {pc : Nat} {lo : List (Option Value)} {st : List Value} {h : xH} {cs : Nat × Nat} {K : Option Value → xH → Prop} {x y : Int32} (hd : decode M.2.2.1 pc = .ok (.isub, 1)) (kk : x_Rn M (pc + 1) lo (.int (x - y) :: st) h cs K) : x_Rn M (pc) lo (.int y :: .int x :: st) h cs K := by
  intro p l e s m args below meth c G Z H locs ls C hR hS hL
  exact lv_isub C.1 C.2.1 hd (kk p l e s m args below meth c G Z H locs ls C hR hS hL)
theorem R_imul {M : xM} {pc : Nat} {lo : List (Option Value)} {st : List Value} {h : xH} {cs : Nat × Nat} {K : Option Value → xH → Prop} {x y : Int32} (hd : decode M.2.2.1 pc = .ok (.imul, 1)) (kk : x_Rn M (pc + 1) lo (.int (x * y) :: st) h cs K) : x_Rn M (pc) lo (.int y :: .int x :: st) h cs K := by
  intro p l e s m args below meth c G Z H locs ls C hR hS hL
  exact lv_imul C.1 C.2.1 hd (kk p l e s m args below meth c G Z H locs ls C hR hS hL)
theorem R_iand {M : xM} {pc : Nat} {lo : List (Option Value)} {st : List Value} {h : xH} {cs : Nat × Nat} {K : Option Value → xH → Prop} {x y : Int32} (hd : decode M.2.2.1 pc = .ok (.iand, 1)) (kk : x_Rn M (pc + 1) lo (.int (x &&& y) :: st) h cs K) : x_Rn M (pc) lo (.int y :: .int x :: st) h cs K := by
  intro p l e s m args below meth c G Z H locs ls C hR hS hL
  exact lv_iand C.1 C.2.1 hd (kk p l e s m args below meth c G Z H locs ls C hR hS hL)
theorem R_ior {M : xM} {pc : Nat} {lo : List (Option Value)} {st : List Value} {h : xH} {cs : Nat × Nat} {K : Option Value → xH → Prop} {x y : Int32} (hd : decode M.2.2.1 pc = .ok (.ior, 1)) (kk : x_Rn M (pc + 1) lo (.int (x ||| y) :: st) h cs K) : x_Rn M (pc) lo (.int y :: .int x :: st) h cs K := by
  intro p l e s m args below meth c G Z H locs ls C hR hS hL
  exact lv_ior C.1 C.2.1 hd (kk p l e s m args below meth c G Z H locs ls C hR hS hL)
theorem R_ixor {M : xM} {pc : Nat} {lo : List (Option Value)} {st : List Value} {h : xH} {cs : Nat × Nat} {K : Option Value → xH → Prop} {x y : Int32} (hd : decode M.2.2.1 pc = .ok (.ixor, 1)) (kk : x_Rn M (pc + 1) lo (.int (x ^^^ y) :: st) h cs K) : x_Rn M (pc) lo (.int y :: .int x :: st) h cs K := by
  intro p l e s m args below meth c G Z H locs ls C hR hS hL
  exact lv_ixor C.1 C.2.1 hd (kk p l e s m args below meth c G Z H locs ls C hR hS hL)
theorem R_ishl {M : xM} {pc : Nat} {lo : List (Option Value)} {st : List Value} {h : xH} {cs : Nat × Nat} {K : Option Value → xH → Prop} {x y : Int32} (hd : decode M.2.2.1 pc = .ok (.ishl, 1)) (kk : x_Rn M (pc + 1) lo (.int (x <<< (y &&& 31)) :: st) h cs K) : x_Rn M (pc) lo (.int y :: .int x :: st) h cs K := by
  intro p l e s m args below meth c G Z H locs ls C hR hS hL
  exact lv_ishl C.1 C.2.1 hd (kk p l e s m args below meth c G Z H locs ls C hR hS hL)
theorem R_ishr {M : xM} {pc : Nat} {lo : List (Option Value)} {st : List Value} {h : xH} {cs : Nat × Nat} {K : Option Value → xH → Prop} {x y : Int32} (hd : decode M.2.2.1 pc = .ok (.ishr, 1)) (kk : x_Rn M (pc + 1) lo (.int (x >>> (y &&& 31)) :: st) h cs K) : x_Rn M (pc) lo (.int y :: .int x :: st) h cs K := by
  intro p l e s m args below meth c G Z H locs ls C hR hS hL
  exact lv_ishr C.1 C.2.1 hd (kk p l e s m args below meth c G Z H locs ls C hR hS hL)
theorem R_idiv {M : xM} {pc : Nat} {lo : List (Option Value)} {st : List Value} {h : xH} {cs : Nat × Nat} {K : Option Value → xH → Prop} {x y : Int32} (hd : decode M.2.2.1 pc = .ok (.idiv, 1)) (hne : ¬ y = 0) (kk : x_Rn M (pc + 1) lo (.int (x / y) :: st) h cs K) : x_Rn M (pc) lo (.int y :: .int x :: st) h cs K := by
  intro p l e s m args below meth c G Z H locs ls C hR hS hL
  exact lv_idiv C.1 C.2.1 hd hne (kk p l e s m args below meth c G Z H locs ls C hR hS hL)
theorem R_irem {M : xM} {pc : Nat} {lo : List (Option Value)} {st : List Value} {h : xH} {cs : Nat × Nat} {K : Option Value → xH → Prop} {x y : Int32} (hd : decode M.2.2.1 pc = .ok (.irem, 1)) (hne : ¬ y = 0) (kk : x_Rn M (pc + 1) lo (.int (x - x / y * y) :: st) h cs K) : x_Rn M (pc) lo (.int y :: .int x :: st) h cs K := by
  intro p l e s m args below meth c G Z H locs ls C hR hS hL
  exact lv_irem C.1 C.2.1 hd hne (kk p l e s m args below meth c G Z H locs ls C hR hS hL)
theorem R_ladd {M : xM} {pc : Nat} {lo : List (Option Value)} {st : List Value} {h : xH} {cs : Nat × Nat} {K : Option Value → xH → Prop} {x y : Int64} (hd : decode M.2.2.1 pc = .ok (.ladd, 1)) (kk : x_Rn M (pc + 1) lo (.long (x + y) :: st) h cs K) : x_Rn M (pc) lo (.long y :: .long x :: st) h cs K := by
  intro p l e s m args below meth c G Z H locs ls C hR hS hL
  exact lv_ladd C.1 C.2.1 hd (kk p l e s m args below meth c G Z H locs ls C hR hS hL)
theorem R_lsub {M : xM} {pc : Nat} {lo : List (Option Value)} {st : List Value} {h : xH} {cs : Nat × Nat} {K : Option Value → xH → Prop} {x y : Int64} (hd : decode M.2.2.1 pc = .ok (.lsub, 1)) (kk : x_Rn M (pc + 1) lo (.long (x - y) :: st) h cs K) : x_Rn M (pc) lo (.long y :: .long x :: st) h cs K := by
  intro p l e s m args below meth c G Z H locs ls C hR hS hL
  exact lv_lsub C.1 C.2.1 hd (kk p l e s m args below meth c G Z H locs ls C hR hS hL)
theorem R_lmul {M : xM} {pc : Nat} {lo : List (Option Value)} {st : List Value} {h : xH} {cs : Nat × Nat} {K : Option Value → xH → Prop} {x y : Int64} (hd : decode M.2.2.1 pc = .ok (.lmul, 1)) (kk : x_Rn M (pc + 1) lo (.long (x * y) :: st) h cs K) : x_Rn M (pc) lo (.long y :: .long x :: st) h cs K := by
  intro p l e s m args below meth c G Z H locs ls C hR hS hL
  exact lv_lmul C.1 C.2.1 hd (kk p l e s m args below meth c G Z H locs ls C hR hS hL)
theorem R_land {M : xM} {pc : Nat} {lo : List (Option Value)} {st : List Value} {h : xH} {cs : Nat × Nat} {K : Option Value → xH → Prop} {x y : Int64} (hd : decode M.2.2.1 pc = .ok (.land, 1)) (kk : x_Rn M (pc + 1) lo (.long (x &&& y) :: st) h cs K) : x_Rn M (pc) lo (.long y :: .long x :: st) h cs K := by
  intro p l e s m args below meth c G Z H locs ls C hR hS hL
  exact lv_land C.1 C.2.1 hd (kk p l e s m args below meth c G Z H locs ls C hR hS hL)
theorem R_lor {M : xM} {pc : Nat} {lo : List (Option Value)} {st : List Value} {h : xH} {cs : Nat × Nat} {K : Option Value → xH → Prop} {x y : Int64} (hd : decode M.2.2.1 pc = .ok (.lor, 1)) (kk : x_Rn M (pc + 1) lo (.long (x ||| y) :: st) h cs K) : x_Rn M (pc) lo (.long y :: .long x :: st) h cs K := by
  intro p l e s m args below meth c G Z H locs ls C hR hS hL
  exact lv_lor C.1 C.2.1 hd (kk p l e s m args below meth c G Z H locs ls C hR hS hL)
theorem R_ldiv {M : xM} {pc : Nat} {lo : List (Option Value)} {st : List Value} {h : xH} {cs : Nat × Nat} {K : Option Value → xH → Prop} {x y : Int64} (hd : decode M.2.2.1 pc = .ok (.ldiv, 1)) (hne : ¬ y = 0) (kk : x_Rn M (pc + 1) lo (.long (x / y) :: st) h cs K) : x_Rn M (pc) lo (.long y :: .long x :: st) h cs K := by
  intro p l e s m args below meth c G Z H locs ls C hR hS hL
  exact lv_ldiv C.1 C.2.1 hd hne (kk p l e s m args below meth c G Z H locs ls C hR hS hL)
theorem R_lrem {M : xM} {pc : Nat} {lo : List (Option Value)} {st : List Value} {h : xH} {cs : Nat × Nat} {K : Option Value → xH → Prop} {x y : Int64} (hd : decode M.2.2.1 pc = .ok (.lrem, 1)) (hne : ¬ y = 0) (kk : x_Rn M (pc + 1) lo (.long (x - x / y * y) :: st) h cs K) : x_Rn M (pc) lo (.long y :: .long x :: st) h cs K := by
  intro p l e s m args below meth c G Z H locs ls C hR hS hL
  exact lv_lrem C.1 C.2.1 hd hne (kk p l e s m args below meth c G Z H locs ls C hR hS hL)
theorem R_i2l {M : xM} {pc : Nat} {lo : List (Option Value)} {st : List Value} {h : xH} {cs : Nat × Nat} {K : Option Value → xH → Prop} {x : Int32} (hd : decode M.2.2.1 pc = .ok (.i2l, 1)) (kk : x_Rn M (pc + 1) lo (.long x.toInt64 :: st) h cs K) : x_Rn M (pc) lo (.int x :: st) h cs K := by
  intro p l e s m args below meth c G Z H locs ls C hR hS hL
  exact lv_i2l C.1 C.2.1 hd rfl (kk p l e s m args below meth c G Z H locs ls C hR hS hL)
theorem R_l2i {M : xM} {pc : Nat} {lo : List (Option Value)} {st : List Value} {h : xH} {cs : Nat × Nat} {K : Option Value → xH → Prop} {x : Int64} (hd : decode M.2.2.1 pc = .ok (.l2i, 1)) (kk : x_Rn M (pc + 1) lo (.int x.toInt32 :: st) h cs K) : x_Rn M (pc) lo (.long x :: st) h cs K := by
  intro p l e s m args below meth c G Z H locs ls C hR hS hL
  exact lv_l2i C.1 C.2.1 hd rfl (kk p l e s m args below meth c G Z H locs ls C hR hS hL)
theorem R_iushr {M : xM} {pc : Nat} {lo : List (Option Value)} {st : List Value} {h : xH} {cs : Nat × Nat} {K : Option Value → xH → Prop} {x y : Int32} (hd : decode M.2.2.1 pc = .ok (.iushr, 1)) (kk : x_Rn M (pc + 1) lo (.int (x.toUInt32 >>> (y.toUInt32 &&& Int32.toUInt32 31)).toInt32 :: st) h cs K) : x_Rn M (pc) lo (.int y :: .int x :: st) h cs K := by
  intro p l e s m args below meth c G Z H locs ls C hR hS hL
  exact lv_iushr C.1 C.2.1 hd rfl (kk p l e s m args below meth c G Z H locs ls C hR hS hL)
theorem R_lushr {M : xM} {pc : Nat} {lo : List (Option Value)} {st : List Value} {h : xH} {cs : Nat × Nat} {K : Option Value → xH → Prop} {x : Int64} {y : Int32} (hd : decode M.2.2.1 pc = .ok (.lushr, 1)) (kk : x_Rn M (pc + 1) lo (.long (x.toUInt64 >>> (y.toInt64.toUInt64 &&& Int64.toUInt64 63)).toInt64 :: st) h cs K) : x_Rn M (pc) lo (.int y :: .long x :: st) h cs K := by
  intro p l e s m args below meth c G Z H locs ls C hR hS hL
  exact lv_lushr C.1 C.2.1 hd rfl (kk p l e s m args below meth c G Z H locs ls C hR hS hL)
theorem R_lshl {M : xM} {pc : Nat} {lo : List (Option Value)} {st : List Value} {h : xH} {cs : Nat × Nat} {K : Option Value → xH → Prop} {x : Int64} {y : Int32} (hd : decode M.2.2.1 pc = .ok (.lshl, 1)) (kk : x_Rn M (pc + 1) lo (.long (x <<< (y.toInt64 &&& 63)) :: st) h cs K) : x_Rn M (pc) lo (.int y :: .long x :: st) h cs K := by
  intro p l e s m args below meth c G Z H locs ls C hR hS hL
  exact lv_lshl C.1 C.2.1 hd rfl (kk p l e s m args below meth c G Z H locs ls C hR hS hL)
theorem R_lcmp {M : xM} {pc : Nat} {lo : List (Option Value)} {st : List Value} {h : xH} {cs : Nat × Nat} {K : Option Value → xH → Prop} {x y : Int64} (hd : decode M.2.2.1 pc = .ok (.lcmp, 1)) (kk : x_Rn M (pc + 1) lo (.int (lg_cmp x y) :: st) h cs K) : x_Rn M (pc) lo (.long y :: .long x :: st) h cs K := by
  intro p l e s m args below meth c G Z H locs ls C hR hS hL
  exact W.lcmp C.1 C.2.1 hd (kk p l e s m args below meth c G Z H locs ls C hR hS hL)
theorem R_dup {M : xM} {pc : Nat} {lo : List (Option Value)} {st : List Value} {h : xH} {cs : Nat × Nat} {K : Option Value → xH → Prop} {v : Value} (hd : decode M.2.2.1 pc = .ok (.dup, 1)) (hv : v.category = 1) (kk : x_Rn M (pc + 1) lo (v :: v :: st) h cs K) : x_Rn M (pc) lo (v :: st) h cs K := by
  intro p l e s m args below meth c G Z H locs ls C hR hS hL
  exact lv_dup C.1 C.2.1 hd (by rw [x_cv_cat]; exact hv) (kk p l e s m args below meth c G Z H locs ls C hR hS hL)
theorem R_dup2 {M : xM} {pc : Nat} {lo : List (Option Value)} {st : List Value} {h : xH} {cs : Nat × Nat} {K : Option Value → xH → Prop} {v w : Value} (hd : decode M.2.2.1 pc = .ok (.dup2, 1)) (hv : v.category = 1) (hw : w.category = 1) (kk : x_Rn M (pc + 1) lo (v :: w :: v :: w :: st) h cs K) : x_Rn M (pc) lo (v :: w :: st) h cs K := by
  intro p l e s m args below meth c G Z H locs ls C hR hS hL
  exact lv_dup2_11 C.1 C.2.1 hd (by rw [x_cv_cat]; exact hv) (by rw [x_cv_cat]; exact hw) (kk p l e s m args below meth c G Z H locs ls C hR hS hL)
theorem R_ifeq {M : xM} {pc : Nat} {lo : List (Option Value)} {st : List Value} {h : xH} {cs : Nat × Nat} {K : Option Value → xH → Prop} {x : Int32} {off : Int} (tgt : Nat) (hd : decode M.2.2.1 pc = .ok (.ifCond .eq off, 3)) (ht : (pc : Int) + off = (tgt : Int)) (kt : x = 0 → x_Rn M (tgt) lo (st) h cs K) (kf : ¬ x = 0 → x_Rn M (pc + 3) lo (st) h cs K) : x_Rn M (pc) lo (.int x :: st) h cs K := by
  intro p l e s m args below meth c G Z H locs ls C hR hS hL
  exact lv_if_eq C.1 C.2.1 hd ht (fun z => kt z p l e s m args below meth c G Z H locs ls C hR hS hL) (fun z => kf z p l e s m args below meth c G Z H locs ls C hR hS hL)
theorem R_ifne {M : xM} {pc : Nat} {lo : List (Option Value)} {st : List Value} {h : xH} {cs : Nat × Nat} {K : Option Value → xH → Prop} {x : Int32} {off : Int} (tgt : Nat) (hd : decode M.2.2.1 pc = .ok (.ifCond .ne off, 3)) (ht : (pc : Int) + off = (tgt : Int)) (kt : ¬ x = 0 → x_Rn M (tgt) lo (st) h cs K) (kf : x = 0 → x_Rn M (pc + 3) lo (st) h cs K) : x_Rn M (pc) lo (.int x :: st) h cs K := by
  intro p l e s m args below meth c G Z H locs ls C hR hS hL
  exact lv_if_ne C.1 C.2.1 hd ht (fun z => kt z p l e s m args below meth c G Z H locs ls C hR hS hL) (fun z => kf z p l e s m args below meth c G Z H locs ls C hR hS hL)
theorem R_iflt {M : xM} {pc : Nat} {lo : List (Option Value)} {st : List Value} {h : xH} {cs : Nat × Nat} {K : Option Value → xH → Prop} {x : Int32} {off : Int} (tgt : Nat) (hd : decode M.2.2.1 pc = .ok (.ifCond .lt off, 3)) (ht : (pc : Int) + off = (tgt : Int)) (kt : x < 0 → x_Rn M (tgt) lo (st) h cs K) (kf : ¬ x < 0 → x_Rn M (pc + 3) lo (st) h cs K) : x_Rn M (pc) lo (.int x :: st) h cs K := by
  intro p l e s m args below meth c G Z H locs ls C hR hS hL
  exact lv_if_lt C.1 C.2.1 hd ht (fun z => kt z p l e s m args below meth c G Z H locs ls C hR hS hL) (fun z => kf z p l e s m args below meth c G Z H locs ls C hR hS hL)
theorem R_ifge {M : xM} {pc : Nat} {lo : List (Option Value)} {st : List Value} {h : xH} {cs : Nat × Nat} {K : Option Value → xH → Prop} {x : Int32} {off : Int} (tgt : Nat) (hd : decode M.2.2.1 pc = .ok (.ifCond .ge off, 3)) (ht : (pc : Int) + off = (tgt : Int)) (kt : 0 ≤ x → x_Rn M (tgt) lo (st) h cs K) (kf : ¬ 0 ≤ x → x_Rn M (pc + 3) lo (st) h cs K) : x_Rn M (pc) lo (.int x :: st) h cs K := by
  intro p l e s m args below meth c G Z H locs ls C hR hS hL
  exact lv_if_ge C.1 C.2.1 hd ht (fun z => kt z p l e s m args below meth c G Z H locs ls C hR hS hL) (fun z => kf z p l e s m args below meth c G Z H locs ls C hR hS hL)
theorem R_ifgt {M : xM} {pc : Nat} {lo : List (Option Value)} {st : List Value} {h : xH} {cs : Nat × Nat} {K : Option Value → xH → Prop} {x : Int32} {off : Int} (tgt : Nat) (hd : decode M.2.2.1 pc = .ok (.ifCond .gt off, 3)) (ht : (pc : Int) + off = (tgt : Int)) (kt : 0 < x → x_Rn M (tgt) lo (st) h cs K) (kf : ¬ 0 < x → x_Rn M (pc + 3) lo (st) h cs K) : x_Rn M (pc) lo (.int x :: st) h cs K := by
  intro p l e s m args below meth c G Z H locs ls C hR hS hL
  exact lv_if_gt C.1 C.2.1 hd ht (fun z => kt z p l e s m args below meth c G Z H locs ls C hR hS hL) (fun z => kf z p l e s m args below meth c G Z H locs ls C hR hS hL)
theorem R_ifle {M : xM} {pc : Nat} {lo : List (Option Value)} {st : List Value} {h : xH} {cs : Nat × Nat} {K : Option Value → xH → Prop} {x : Int32} {off : Int} (tgt : Nat) (hd : decode M.2.2.1 pc = .ok (.ifCond .le off, 3)) (ht : (pc : Int) + off = (tgt : Int)) (kt : x ≤ 0 → x_Rn M (tgt) lo (st) h cs K) (kf : ¬ x ≤ 0 → x_Rn M (pc + 3) lo (st) h cs K) : x_Rn M (pc) lo (.int x :: st) h cs K := by
  intro p l e s m args below meth c G Z H locs ls C hR hS hL
  exact lv_if_le C.1 C.2.1 hd ht (fun z => kt z p l e s m args below meth c G Z H locs ls C hR hS hL) (fun z => kf z p l e s m args below meth c G Z H locs ls C hR hS hL)
theorem R_icmpeq {M : xM} {pc : Nat} {lo : List (Option Value)} {st : List Value} {h : xH} {cs : Nat × Nat} {K : Option Value → xH → Prop} {x y : Int32} {off : Int} (tgt : Nat) (hd : decode M.2.2.1 pc = .ok (.if_icmp .eq off, 3)) (ht : (pc : Int) + off = (tgt : Int)) (kt : x = y → x_Rn M (tgt) lo (st) h cs K) (kf : ¬ x = y → x_Rn M (pc + 3) lo (st) h cs K) : x_Rn M (pc) lo (.int y :: .int x :: st) h cs K := by
  intro p l e s m args below meth c G Z H locs ls C hR hS hL
  exact lv_icmp_eq C.1 C.2.1 hd ht (fun z => kt z p l e s m args below meth c G Z H locs ls C hR hS hL) (fun z => kf z p l e s m args below meth c G Z H locs ls C hR hS hL)
theorem R_icmpne {M : xM} {pc : Nat} {lo : List (Option Value)} {st : List Value} {h : xH} {cs : Nat × Nat} {K : Option Value → xH → Prop} {x y : Int32} {off : Int} (tgt : Nat) (hd : decode M.2.2.1 pc = .ok (.if_icmp .ne off, 3)) (ht : (pc : Int) + off = (tgt : Int)) (kt : ¬ x = y → x_Rn M (tgt) lo (st) h cs K) (kf : x = y → x_Rn M (pc + 3) lo (st) h cs K) : x_Rn M (pc) lo (.int y :: .int x :: st) h cs K := by
  intro p l e s m args below meth c G Z H locs ls C hR hS hL
  exact lv_icmp_ne C.1 C.2.1 hd ht (fun z => kt z p l e s m args below meth c G Z H locs ls C hR hS hL) (fun z => kf z p l e s m args below meth c G Z H locs ls C hR hS hL)
theorem R_icmplt {M : xM} {pc : Nat} {lo : List (Option Value)} {st : List Value} {h : xH} {cs : Nat × Nat} {K : Option Value → xH → Prop} {x y : Int32} {off : Int} (tgt : Nat) (hd : decode M.2.2.1 pc = .ok (.if_icmp .lt off, 3)) (ht : (pc : Int) + off = (tgt : Int)) (kt : x < y → x_Rn M (tgt) lo (st) h cs K) (kf : ¬ x < y → x_Rn M (pc + 3) lo (st) h cs K) : x_Rn M (pc) lo (.int y :: .int x :: st) h cs K := by
  intro p l e s m args below meth c G Z H locs ls C hR hS hL
  exact lv_icmp_lt C.1 C.2.1 hd ht (fun z => kt z p l e s m args below meth c G Z H locs ls C hR hS hL) (fun z => kf z p l e s m args below meth c G Z H locs ls C hR hS hL)
theorem R_icmpge {M : xM} {pc : Nat} {lo : List (Option Value)} {st : List Value} {h : xH} {cs : Nat × Nat} {K : Option Value → xH → Prop} {x y : Int32} {off : Int} (tgt : Nat) (hd : decode M.2.2.1 pc = .ok (.if_icmp .ge off, 3)) (ht : (pc : Int) + off = (tgt : Int)) (kt : y ≤ x → x_Rn M (tgt) lo (st) h cs K) (kf : ¬ y ≤ x → x_Rn M (pc + 3) lo (st) h cs K) : x_Rn M (pc) lo (.int y :: .int x :: st) h cs K := by
  intro p l e s m args below meth c G Z H locs ls C hR hS hL
  exact lv_icmp_ge C.1 C.2.1 hd ht (fun z => kt z p l e s m args below meth c G Z H locs ls C hR hS hL) (fun z => kf z p l e s m args below meth c G Z H locs ls C hR hS hL)
theorem R_icmpgt {M : xM} {pc : Nat} {lo : List (Option Value)} {st : List Value} {h : xH} {cs : Nat × Nat} {K : Option Value → xH → Prop} {x y : Int32} {off : Int} (tgt : Nat) (hd : decode M.2.2.1 pc = .ok (.if_icmp .gt off, 3)) (ht : (pc : Int) + off = (tgt : Int)) (kt : y < x → x_Rn M (tgt) lo (st) h cs K) (kf : ¬ y < x → x_Rn M (pc + 3) lo (st) h cs K) : x_Rn M (pc) lo (.int y :: .int x :: st) h cs K := by
  intro p l e s m args below meth c G Z H locs ls C hR hS hL
  exact lv_icmp_gt C.1 C.2.1 hd ht (fun z => kt z p l e s m args below meth c G Z H locs ls C hR hS hL) (fun z => kf z p l e s m args below meth c G Z H locs ls C hR hS hL)
theorem R_icmple {M : xM} {pc : Nat} {lo : List (Option Value)} {st : List Value} {h : xH} {cs : Nat × Nat} {K : Option Value → xH → Prop} {x y : Int32} {off : Int} (tgt : Nat) (hd : decode M.2.2.1 pc = .ok (.if_icmp .le off, 3)) (ht : (pc : Int) + off = (tgt : Int)) (kt : x ≤ y → x_Rn M (tgt) lo (st) h cs K) (kf : ¬ x ≤ y → x_Rn M (pc + 3) lo (st) h cs K) : x_Rn M (pc) lo (.int y :: .int x :: st) h cs K := by
  intro p l e s m args below meth c G Z H locs ls C hR hS hL
  exact lv_icmp_le C.1 C.2.1 hd ht (fun z => kt z p l e s m args below meth c G Z H locs ls C hR hS hL) (fun z => kf z p l e s m args below meth c G Z H locs ls C hR hS hL)
theorem R_goto {M : xM} {pc : Nat} {lo : List (Option Value)} {st : List Value} {h : xH} {cs : Nat × Nat} {K : Option Value → xH → Prop} {off : Int} (tgt : Nat) (hd : decode M.2.2.1 pc = .ok (.goto off, 3)) (ht : (pc : Int) + off = (tgt : Int)) (kk : x_Rn M (tgt) lo (st) h cs K) : x_Rn M (pc) lo (st) h cs K := by
  intro p l e s m args below meth c G Z H locs ls C hR hS hL
  exact lv_goto C.1 C.2.1 hd ht (kk p l e s m args below meth c G Z H locs ls C hR hS hL)
theorem R_tin {M : xM} {pc : Nat} {lo : List (Option Value)} {st : List Value} {h : xH} {cs : Nat × Nat} {K : Option Value → xH → Prop} {dflt lw hi : Int} {offs : Array Int} {len : Nat} {x : Int32} {off : Int} (tgt : Nat) (hd : decode M.2.2.1 pc = .ok (.tableswitch dflt lw hi offs, len)) (h1 : ¬ x.toInt < lw) (h2 : ¬ hi < x.toInt) (ho : offs[(x.toInt - lw).toNat]? = some off) (ht : (pc : Int) + off = (tgt : Int)) (kk : x_Rn M (tgt) lo (st) h cs K) : x_Rn M (pc) lo (.int x :: st) h cs K := by
  intro p l e s m args below meth c G Z H locs ls C hR hS hL
  exact lv_tableIn C.1 C.2.1 hd h1 h2 ho ht (kk p l e s m args below meth c G Z H locs ls C hR hS hL)
theorem R_tout {M : xM} {pc : Nat} {lo : List (Option Value)} {st : List Value} {h : xH} {cs : Nat × Nat} {K : Option Value → xH → Prop} {dflt lw hi : Int} {offs : Array Int} {len : Nat} {x : Int32} (tgt : Nat) (hd : decode M.2.2.1 pc = .ok (.tableswitch dflt lw hi offs, len)) (h1 : x.toInt < lw ∨ hi < x.toInt) (ht : (pc : Int) + dflt = (tgt : Int)) (kk : x_Rn M (tgt) lo (st) h cs K) : x_Rn M (pc) lo (.int x :: st) h cs K := by
  intro p l e s m args below meth c G Z H locs ls C hR hS hL
  exact lv_tableOut C.1 C.2.1 hd h1 ht (kk p l e s m args below meth c G Z H locs ls C hR hS hL)
theorem R_lookup {M : xM} {pc : Nat} {lo : List (Option Value)} {st : List Value} {h : xH} {cs : Nat × Nat} {K : Option Value → xH → Prop} {dflt : Int} {ps : Array (Int × Int)} {len : Nat} {x : Int32} {off : Int} (tgt : Nat) (hd : decode M.2.2.1 pc = .ok (.lookupswitch dflt ps, len)) (hp : (ps.toList.zip (ps.toList.drop 1)).all (fun (a, next) => a.1 < next.1) = true) (ho : Op.lookupswitch.offset ps.toList dflt x.toInt = off) (ht : (pc : Int) + off = (tgt : Int)) (kk : x_Rn M (tgt) lo (st) h cs K) : x_Rn M (pc) lo (.int x :: st) h cs K := by
  intro p l e s m args below meth c G Z H locs ls C hR hS hL
  exact lv_lookup C.1 C.2.1 hd hp ho ht (kk p l e s m args below meth c G Z H locs ls C hR hS hL)
theorem R_ret {M : xM} {pc : Nat} {lo : List (Option Value)} {h : xH} {cs : Nat × Nat} {K : Option Value → xH → Prop} {v : Option Value} {i : Instr} (hd : decode M.2.2.1 pc = .ok (i, 1)) (hv : x_isRet M.2.2.2.2.1 i v) (hc : cs.1 ≤ M.2.2.2.2.2.cells) (hs : cs.2 ≤ M.2.2.2.2.2.slots) (hk : K v h) : x_Rn M pc lo v.toList h cs K := by
  intro p l e s m args below meth c G Z H locs ls C hR hS hL
  exact W.widen hc hs (C.2.2.2.2.2.2 v h H locs pc ls i hk hR hS hv hd)
/-- another end -/
theorem R_mono {M : xM} {pc : Nat} {lo : List (Option Value)} {st : List Value} {h : xH} {cs : Nat × Nat} {K K2 : Option Value → xH → Prop} (hk : ∀ v h', K v h' → K2 v h') (kk : x_Rn M pc lo st h cs K) : x_Rn M pc lo st h cs K2 :=
  fun p l e s m args below meth c G Z H locs ls C hR hS hL => kk p l e s m args below meth c G Z H locs ls ⟨C.1, C.2.1, C.2.2.1, C.2.2.2.1, C.2.2.2.2.1, C.2.2.2.2.2.1, fun v h' H locs pc ls i z => C.2.2.2.2.2.2 v h' H locs pc ls i (hk v h' z)⟩ hR hS hL
