/-! CELLS THAT ARE MADE, arrays that are copied -/
theorem x_cv_df (G : xG) (t : FieldType) : x_cv G (defaultValue t) = defaultValue t := by cases t <;> rfl
theorem x_top {G : xG} {h : xH} {U : State} {H : Heap} (r : x_Rep G h U H) : H.size = x_sg G h.length ∧ G.1 ≤ H.size := by
  obtain ⟨r1, r2, -⟩ := r
  obtain ⟨k, hk⟩ : ∃ k, h.length = k + 2 := ⟨h.length - 2, by omega⟩
  rw [hk] at r2 ⊢
  exact ⟨r2, by omega⟩
theorem x_Sgrow {A : Nat → Prop} {H0 H H1 : Heap} {locs : List Loc} (hS : va_S A H0 H locs) (hz : H.size ≤ H1.size) (hq : ∀ q : Nat, q < H.size → H1[q]? = H[q]?) : va_S A H0 H1 locs :=
  ⟨Nat.le_trans hS.1 hz, fun q h1 h2 => (hq q (Nat.lt_of_lt_of_le h1 hS.1)).trans (hS.2.1 q h1 h2), hS.2.2⟩
section RM
variable {M : xM} {pc : Nat} {lo : List (Option Value)} {st : List Value} {h : xH} {cs : Nat × Nat} {K : Option Value → xH → Prop}
theorem R_new {idx ci N : Nat} {Cn : String} {T : u_T} {t : Nat → FieldType} {fs : List Value} (hd : decode M.2.2.1 pc = .ok (.new idx, 3)) (hq : vwCl[ci]? = some (Cn, T, N)) (hcl : Cond.classLink M.1 idx Cn ∈ x_words) (hinst : Cond.instantiable Cn N ∈ x_words) (hini : Cond.initialized Cn ∈ x_words) (ht : ∀ k, k < N → parseFieldDescriptor (T k).2.2.1 = some (t k)) (hfs : ∀ j, j < N → vp_V fs j = defaultValue (t j)) (hc : Nat.ble (cs.1 + 1) M.2.2.2.2.2.cells = true) (hs : Nat.ble (cs.2 + N) M.2.2.2.2.2.slots = true)
    (kk : x_Rn M (pc + 3) lo (.ref h.length :: st) (h ++ [.inr (ci, fs)]) (cs.1 + 1, cs.2 + N) K) : x_Rn M pc lo st h cs K := by
  intro p l e s m args below meth c G Z H locs ls C hR hS hL
  have hts := C.2.2.2.2.1
  have hKn := hR.2.2.2.1.1 ci _ hq
  obtain ⟨htop, hbase⟩ := x_top hR
  refine W.newcK C.1 C.2.1 C.2.2.2.1 (hts _ hcl) (hts _ hinst) (hts _ hini) rfl hd (Nat.le_of_ble_eq_true hc) (Nat.le_of_ble_eq_true hs) hKn.2.1 rfl fun H1 kC hkC e1 z1 o1 => ?_
  have key := kk p l e s m args below meth c G Z H1 locs ls C (hR.push (e := .inr (ci, fs)) z1 o1 ?_) (x_Sgrow hS (by omega) o1) hL
  · rw [htop]
    exact key
  · rw [hR.2.1] at e1
    refine ⟨_, hq, (u_born t hts (x_CI ci _ hq).1 hKn hkC e1 ht).to (fun j hj => ?_)⟩
    show defaultValue (t j) = (fs.map (x_cv G)).getD j .null
    have e2 : (fs.map (x_cv G)).getD j .null = x_cv G (fs.getD j .null) := by
      rw [List.getD_eq_getElem?_getD, List.getD_eq_getElem?_getD, List.getElem?_map]
      cases fs[j]? <;> rfl
    rw [e2]
    have e3 : fs.getD j .null = defaultValue (t j) := hfs j hj
    rw [e3, x_cv_df]
def x_at : ArrayType → Nat
  | .int => 0
  | .long => 1
  | .boolean => 2
  | _ => 9
def x_az : Nat → Nat → xC
  | 1, n => .inl (1, n, .inr (.inl (fun _ => 0)))
  | k, n => .inl (k, n, .inl (fun _ => 0))
theorem R_newa {at_ : ArrayType} {N : Nat} {n : Int32} (hd : decode M.2.2.1 pc = .ok (.newarray at_, 2)) (hat : at_ = .int ∨ at_ = .long ∨ at_ = .boolean) (hw : Cond.arrayClass (newarray.typeOf at_) ∈ x_words) (hn : n = nI N) (hN : Nat.ble N 60000 = true) (hc : Nat.ble (cs.1 + 1) M.2.2.2.2.2.cells = true) (hs : Nat.ble (cs.2 + N) M.2.2.2.2.2.slots = true)
    (kk : x_Rn M (pc + 2) lo (.ref h.length :: st) (h ++ [x_az (x_at at_) N]) (cs.1 + 1, cs.2 + N) K) : x_Rn M pc lo (.int n :: st) h cs K := by
  intro p l e s m args below meth c G Z H locs ls C hR hS hL
  have hts := C.2.2.2.2.1
  subst hn
  have hN' := Nat.le_of_ble_eq_true hN
  obtain ⟨htop, hbase⟩ := x_top hR
  refine va_newaK (n := nI N) (N := N) C.1 C.2.1 (hts _ hw) rfl hd rfl (nI_pos (by omega)) (nI_clamp (by omega)) ?_ (Nat.le_of_ble_eq_true hc) (Nat.le_of_ble_eq_true hs) rfl fun H1 cA e1 z1 o1 hAr hNm => ?_
  · rcases hat with rfl | rfl | rfl
    · show N * 4 ≤ 536870912; omega
    · show N * 8 ≤ 536870912; omega
    · show N * 1 ≤ 536870912; omega
  have key := kk p l e s m args below meth c G Z H1 locs ls C (hR.push z1 o1 ?_) (x_Sgrow hS (by omega) o1) hL
  · rw [htop]
    exact key
  · rw [hR.2.1] at e1
    rcases hat with rfl | rfl | rfl
    · have hA : G.2.2.2.2 0 = cA := Option.some.inj ((hR.2.2.2.1.2 0 _ rfl).2.symm.trans hNm)
      show H1[_]? = some (arrV (G.2.2.2.2 0) N (fun _ => .int 0))
      rw [hA]; exact e1
    · have hA : G.2.2.2.2 1 = cA := Option.some.inj ((hR.2.2.2.1.2 1 _ rfl).2.symm.trans hNm)
      show H1[_]? = some (arrV (G.2.2.2.2 1) N (fun _ => .long 0))
      rw [hA]; exact e1
    · have hA : G.2.2.2.2 2 = cA := Option.some.inj ((hR.2.2.2.1.2 2 _ rfl).2.symm.trans hNm)
      show H1[_]? = some (arrV (G.2.2.2.2 2) N (fun _ => .int 0))
      rw [hA]; exact e1
/-- an array of Nights -/
theorem R_newq {idx N : Nat} {n : Int32} (hd : decode M.2.2.1 pc = .ok (.anewarray idx, 3)) (hw : Cond.classLink M.1 idx "LastSentence$Night" ∈ x_words) (hn : n = nI N) (hN : Nat.ble N 60000 = true) (hc : Nat.ble (cs.1 + 1) M.2.2.2.2.2.cells = true) (hs : Nat.ble (cs.2 + N) M.2.2.2.2.2.slots = true)
    (kk : x_Rn M (pc + 3) lo (.ref h.length :: st) (h ++ [.inl (3, N, .inr (.inr (.inr (.inr (fun _ => none)))))]) (cs.1 + 1, cs.2 + N) K) : x_Rn M pc lo (.int n :: st) h cs K := by
  intro p l e s m args below meth c G Z H locs ls C hR hS hL
  have hts := C.2.2.2.2.1
  subst hn
  have hN' := Nat.le_of_ble_eq_true hN
  have hcl : (nI N).toNatClampNeg = N := nI_clamp (by omega)
  obtain ⟨htop, hbase⟩ := x_top hR
  refine W.anew C.1 C.2.1 C.2.2.2.1 (hts _ hw) (va_AO.use hR.2.2.2.2.2.2.1) rfl hd rfl (nI_pos (by omega)) (by rw [hcl]; omega) (Nat.le_of_ble_eq_true hc) (by rw [hcl]; exact Nat.le_of_ble_eq_true hs) fun cA kA comp f1 f2 f3 f4 => ?_
  generalize hH1 : H.push ({ cls := cA, slots := Array.replicate (nI N).toNatClampNeg .null, vm := .none } : Cell) = H1
  have z1 : H1.size = H.size + 1 := by rw [← hH1, Array.size_push]
  have e1 : H1[H.size]? = some (arrV cA N (fun _ => .null)) := by rw [← hH1, Array.getElem?_push_size, ← arrV_new, hcl]
  have o1 : ∀ q : Nat, q < H.size → H1[q]? = H[q]? := fun q hq => by rw [← hH1, Array.getElem?_push, if_neg (Nat.ne_of_lt hq)]
  have key := kk p l e s m args below meth c G Z H1 locs ls C (hR.push (e := .inl (3, N, .inr (.inr (.inr (.inr (fun _ => none)))))) z1 o1 ?_) (x_Sgrow hS (by omega) o1) hL
  · rw [htop, hcl]
    exact key
  · rw [hR.2.1] at e1
    obtain ⟨_, _, -, -, -, hRA⟩ := (hR.2.2.2.1.2 3 _ rfl).2
    have hA : G.2.2.2.2 3 = cA := Option.some.inj (hRA.symm.trans f1)
    show H1[_]? = some (arrV (G.2.2.2.2 3) N (fun _ => .null))
    rw [hA]; exact e1
theorem x_Rep.pushes {G : xG} {h : xH} {U : State} {H H1 : Heap} {es : List xC} (r : x_Rep G h U H) (hz : H1.size = H.size + es.length) (hq : ∀ q : Nat, q < H.size → H1[q]? = H[q]?) (he : ∀ (k : Nat) (e : xC), es[k]? = some e → va_at G.2.2.2.1 vwCl (x_sg G (h.length + k), x_ce G e) H1) : x_Rep G (h ++ es) U H1 := by
  obtain ⟨r1, r2, r3, r4, r5, r6⟩ := r
  refine ⟨by rw [List.length_append]; omega, by rw [List.length_append, hz, r2]; omega, ?_, r4, r5.kept ?_ ?_ (fun q h1 _ => hq q h1), r6⟩
  · intro k q hk
    obtain ⟨e, he2, rfl⟩ := x_ws_of hk
    by_cases hl : k + 2 < h.length
    · rw [List.getElem?_append_left hl] at he2
      exact (r3 k _ (x_ws_get he2)).kept (hq _ (by show G.1 + k < H.size; omega))
    · rw [List.getElem?_append_right (by omega)] at he2
      have h3 := he _ _ he2
      have e5 : h.length + (k + 2 - h.length) = k + 2 := by omega
      rw [e5] at h3
      exact h3
  · rw [List.getElem?_append_left (by omega)]
  · rw [List.getElem?_append_left (by omega)]
/-- new int[n][k] (kd 0) and new long[n][k] (kd 1) -/
def x_grid (kd a n k : Nat) : List xC := .inl (kd + 4, n, .inr (.inr (.inr (.inr (fun i => if i < n then some (a + 1 + i) else none))))) :: List.replicate n (x_az kd k)
theorem R_multi {idx N Q kd : Nat} {ty : FieldType} {n k : Int32} (hd : decode M.2.2.1 pc = .ok (.multianewarray idx 2, 4)) (hk : (kd = 0 ∧ ty = .int) ∨ (kd = 1 ∧ ty = .long)) (hw : Cond.classLink M.1 idx ("[" ++ (FieldType.array ty).toString) ∈ x_words) (hw2 : Cond.arrayClass ty ∈ x_words) (hn : n = nI N) (hkk : k = nI Q) (hN : Nat.ble N 60000 = true) (hQ : Nat.ble Q 60000 = true) (hc : Nat.ble (cs.1 + (1 + N)) M.2.2.2.2.2.cells = true) (hs : Nat.ble (cs.2 + (N + N * Q)) M.2.2.2.2.2.slots = true)
    (kk : x_Rn M (pc + 4) lo (.ref h.length :: st) (h ++ x_grid kd h.length N Q) (cs.1 + 1 + N, cs.2 + N + N * Q) K) : x_Rn M pc lo (.int k :: .int n :: st) h cs K := by
  intro p l e s m args below meth c G Z H locs ls C hR hS hL
  have hts := C.2.2.2.2.1
  subst hn hkk
  have hN' := Nat.le_of_ble_eq_true hN
  have hQ' := Nat.le_of_ble_eq_true hQ
  have hcl : (nI N).toNatClampNeg = N := nI_clamp (by omega)
  have hcl2 : (nI Q).toNatClampNeg = Q := nI_clamp (by omega)
  obtain ⟨htop, hbase⟩ := x_top hR
  have hover : x_AOA ty s := by rcases hk with ⟨-, rfl⟩ | ⟨-, rfl⟩; exact hR.2.2.2.2.2.2.2.1; exact hR.2.2.2.2.2.2.2.2
  have hcb : componentBytes ty ≤ 8 := by rcases hk with ⟨-, rfl⟩ | ⟨-, rfl⟩ <;> decide
  intro T hT Xs
  obtain ⟨S, cA, comp, locs1, hSh, fA, fC, hl1, X', step⟩ := x_multi Xs C.1 C.2.2.2.1 (hts _ hw) hover (hts _ hw2) (g := F0 m pc ls (.int (nI Q) :: .int (nI N) :: st.map (x_cv G))) rfl (by rw [C.2.1]; exact hd) rfl (nI_pos (by omega)) (nI_pos (by omega)) hcl hcl2 hN' hQ' hcb (by rcases hk with ⟨-, rfl⟩ | ⟨-, rfl⟩ <;> rfl) (Nat.le_of_ble_eq_true hc) (Nat.le_of_ble_eq_true hs)
  have hTh : S.heap = H := hSh.trans hT
  have f1 := x_rows_size (S := S) (a := cA) (b := comp) (N := N) (Q := Q) (v := defaultValue ty) N
  have f2 := x_rows_first (S := S) (a := cA) (b := comp) (N := N) (Q := Q) (v := defaultValue ty) N
  have hold : ∀ x : Nat, x < H.size → (x_rows S cA comp N Q (defaultValue ty) N).heap[x]? = H[x]? := fun x hx => by
    have := x_rows_old (S := S) (a := cA) (b := comp) (N := N) (Q := Q) (v := defaultValue ty) (q := x) (by rw [hTh]; exact hx) N
    rw [hTh] at this
    exact this
  have hrow : ∀ j : Nat, j < N → (x_rows S cA comp N Q (defaultValue ty) N).heap[H.size + 1 + j]? = some (arrV comp Q (fun _ => defaultValue ty)) := fun j hj => by
    have := x_rows_row (S := S) (a := cA) (b := comp) (N := N) (Q := Q) (v := defaultValue ty) N j hj
    rw [hTh] at this
    exact this
  rw [hTh] at f1 f2
  generalize x_rows S cA comp N Q (defaultValue ty) N = F at X' step f1 f2 hold hrow
  have hinner : x_ce G (x_az kd Q) = .inl (G.2.2.2.2 kd, Q, if kd = 0 then .inl (fun _ => 0) else .inr (.inl (fun _ => 0))) := by rcases hk with ⟨rfl, -⟩ | ⟨rfl, -⟩ <;> rfl
  have hsg : ∀ q : Nat, x_sg G (h.length + q) = H.size + q := fun q => by
    obtain ⟨w, hw⟩ : ∃ w, h.length = w + 2 := ⟨h.length - 2, by have := hR.1; omega⟩
    rw [htop, hw, show w + 2 + q = (w + q) + 2 by omega]
    show G.1 + (w + q) = G.1 + w + q
    omega
  have hA : G.2.2.2.2 kd = comp := by
    rcases hk with ⟨rfl, rfl⟩ | ⟨rfl, rfl⟩
    · exact Option.some.inj ((hR.2.2.2.1.2 0 _ rfl).2.symm.trans fC)
    · exact Option.some.inj ((hR.2.2.2.1.2 1 _ rfl).2.symm.trans fC)
  have hB : G.2.2.2.2 (kd + 4) = cA := by
    rcases hk with ⟨rfl, rfl⟩ | ⟨rfl, rfl⟩
    · exact Option.some.inj ((hR.2.2.2.1.2 4 _ rfl).2.symm.trans fA)
    · exact Option.some.inj ((hR.2.2.2.1.2 5 _ rfl).2.symm.trans fA)
  have hRn : x_Rep G (h ++ x_grid kd h.length N Q) s F.heap := by
    refine hR.pushes (by rw [f1]; simp [x_grid]; omega) hold (fun q e he => ?_)
    rw [hsg]
    cases q with
    | zero =>
      cases he
      show F.heap[H.size + 0]? = some (arrV (G.2.2.2.2 (kd + 4)) N (fun j => va_rf ((if j < N then some (h.length + 1 + j) else none : Option Nat).map (x_sg G))))
      rw [hB, Nat.add_zero, f2]
      refine congrArg (fun f => some (arrV cA N f)) (funext fun j => ?_)
      by_cases hj : j < N
      · rw [if_pos hj, if_pos hj, Option.map_some, show h.length + 1 + j = h.length + (1 + j) by omega, hsg, Nat.add_assoc]
      · rw [if_neg hj, if_neg hj]; rfl
    | succ q =>
      have he2 : (List.replicate N (x_az kd Q))[q]? = some e := he
      rw [List.getElem?_replicate] at he2
      by_cases hj : q < N
      · rw [if_pos hj] at he2
        cases he2
        rw [hinner]
        have h9 := hrow q hj
        rw [show H.size + (q + 1) = H.size + 1 + q by omega, hA]
        show F.heap[H.size + 1 + q]? = some (vp_cell comp _)
        rw [h9]
        rcases hk with ⟨rfl, rfl⟩ | ⟨rfl, rfl⟩
        · rfl
        · rfl
      · rw [if_neg hj] at he2; cases he2
  have hS1 := x_Sgrow hS (by rw [f1]; omega) hold
  obtain ⟨t, a1, b1⟩ := kk p l e s m args below meth c G Z F.heap locs1 ls C hRn ⟨hS1.1, hS1.2.1, fun q hq => by
    rcases hl1 q hq with h | h
    · exact hS.2.2 q h
    · show G.1 ≤ q.base
      rw [h, hT]; exact hbase⟩ hL F rfl X'
  refine ⟨t, step t ?_, b1⟩
  have e0 : T.heap.size = x_sg G h.length := by rw [hT]; exact htop
  rw [e0]
  exact a1
theorem R_obj {idx a : Nat} (hd : decode M.2.2.1 pc = .ok (.invokespecial idx, 3)) (hl : Cond.methodLink M.1 idx objectInit ∈ x_words) (hi : Cond.instanceMethod objectInit ∈ x_words) (hcd : Cond.code objectInit ⟨#[0xb1]⟩ 1 none ∈ x_words) (hf : Nat.ble 1 M.2.2.2.2.2.frames = true) (hs : x_stk st = true) (hlo : Nat.ble 20 M.2.2.2.2.2.locals = true) (kk : x_Rn M (pc + 3) lo st h cs K) : x_Rn M pc lo (.ref a :: st) h cs K := by
  intro p l e s m args below meth c G Z H locs ls C hR hS hL
  have hts := C.2.2.2.2.1
  refine W.objInit C.1 C.2.1 C.2.2.2.1 (hts _ hl) (hts _ hi) (hts _ hcd) rfl (by rw [C.2.2.1]; exact hL.1) rfl hd (Nat.le_of_ble_eq_true hf) ?_ (kk p l e s m args below meth c G Z H locs ls C hR hS hL)
  have h1 := Nat.le_of_ble_eq_true hs
  have h2 := Nat.le_of_ble_eq_true hlo
  rw [x_cats]
  show 2 * 0 + _ + 12 ≤ _
  omega
theorem x_nn {z : Nat} (hz : z < 2 ^ 31) : (nI z).toInt = (z : Int) := nI_toInt hz
/-- System.arraycopy of ints -/
theorem R_acpI {idx a0 a1 n0 n1 sp dp n : Nat} {f g : Nat → Int32} {is id_ in_ : Int32} (hd : decode M.2.2.1 pc = .ok (.invokestatic idx, 3)) (hl : Cond.methodLink M.1 idx arraycopyName ∈ x_words) (hnat : Cond.native arraycopyName ∈ x_words) (hst : Cond.static arraycopyName ∈ x_words) (hini : Cond.initialized "java/lang/System" ∈ x_words) (ha0 : h[a0]? = some (.inl (0, n0, .inl f))) (ha1 : h[a1]? = some (.inl (0, n1, .inl g))) (h20 : 2 ≤ a0) (h21 : 2 ≤ a1) (e1 : is = nI sp) (e2 : id_ = nI dp) (e3 : in_ = nI n) (h4 : sp + n ≤ n0) (h5 : dp + n ≤ n1) (hn0 : n0 < 2 ^ 31) (hn1 : n1 < 2 ^ 31) (hf : Nat.ble 1 M.2.2.2.2.2.frames = true) (hs : x_stk st = true) (hlo : Nat.ble 26 M.2.2.2.2.2.locals = true)
    (kk : x_Rn M (pc + 3) lo st (h.set a1 (.inl (0, n1, .inl (va_cpy f g sp dp n)))) cs K) : x_Rn M pc lo (.int in_ :: .int id_ :: .ref a1 :: .int is :: .ref a0 :: st) h cs K := by
  intro p l e s m args below meth c G Z H locs ls C hR hS hL
  have hts := C.2.2.2.2.1
  subst e1 e2 e3
  obtain ⟨b0, rfl⟩ : ∃ b, a0 = b + 2 := ⟨a0 - 2, by omega⟩
  obtain ⟨b1, rfl⟩ : ∃ b, a1 = b + 2 := ⟨a1 - 2, by omega⟩
  have hc0 : H[x_sg G (b0 + 2)]? = some (arrV (G.2.2.2.2 0) n0 (fun j => .int (f j))) := hR.2.2.1 b0 _ (x_ws_get ha0)
  have hc1 : H[x_sg G (b1 + 2)]? = some (arrV (G.2.2.2.2 0) n1 (fun j => .int (g j))) := hR.2.2.1 b1 _ (x_ws_get ha1)
  have c1 : (nI sp).toNatClampNeg = sp := nI_clamp (by omega)
  have c2 : (nI dp).toNatClampNeg = dp := nI_clamp (by omega)
  have c3 : (nI n).toNatClampNeg = n := nI_clamp (by omega)
  have hsum := Nat.le_of_ble_eq_true hs
  have hloc := Nat.le_of_ble_eq_true hlo
  intro T hT X
  obtain ⟨-, k0, hk0, cm0, hkk0⟩ := (hR.2.2.2.1.2 0 _ rfl).1 n0 (fun j => .int (f j))
  obtain ⟨-, k1, hk1, cm1, hkk1⟩ := (hR.2.2.2.1.2 0 _ rfl).1 n1 (fun j => .int (g j))
  obtain ⟨vm', X', step⟩ := X.arraycopy C.1 C.2.2.2.1 (hts _ hl) (hts _ hnat) (hts _ hst) (hts _ hini) (src := x_sg G (b0 + 2)) (dst := x_sg G (b1 + 2)) (cs := arrV (G.2.2.2.2 0) n0 (fun j => .int (f j))) (cd := arrV (G.2.2.2.2 0) n1 (fun j => .int (g j))) (srcPos := nI sp) (destPos := nI dp) (n := nI n) (by rw [hT]; exact hc0) (by rw [hT]; exact hc1)
    (fun _ h => by cases h) (fun _ h => by cases h) (fun h => by cases h) (fun h => by cases h) hk0 hk1 hkk0 hkk1 (by simp [refKind]) (nI_pos (by omega)) (nI_pos (by omega)) (nI_pos (by omega))
    (by rw [x_nn (by omega), x_nn (by omega), arrV_size]; omega)
    (by rw [x_nn (by omega), x_nn (by omega), arrV_size]; omega)
    (fun vm₁ _ i hi => by
      rw [c3] at hi
      rw [c1]
      have e : (arrV (G.2.2.2.2 0) n0 (fun j => .int (f j))).slots.getD (sp + i) .null = .int (f (sp + i)) := by
        rw [Array.getD_eq_getD_getElem?, arrV_read _ _ (by omega)]
        rfl
      refine ⟨?_, ?_⟩
      · rw [e]; rfl
      · rw [e]; exact trivial)
    (g := F0 m pc ls ((.int (nI n) :: .int (nI dp) :: .ref (x_sg G (b1 + 2)) :: .int (nI sp) :: .ref (x_sg G (b0 + 2)) :: st.map (x_cv G)))) rfl (by rw [C.2.2.1]; exact hL.1) (rest := st.map (x_cv G)) rfl (by rw [C.2.1]; exact hd) (Nat.le_of_ble_eq_true hf) (by
      rw [x_cats]
      show 2 * 0 + _ + (5 + 2 + 11) ≤ _
      omega)
  have ecp : copied (arrV (G.2.2.2.2 0) n0 (fun j => .int (f j))) (arrV (G.2.2.2.2 0) n1 (fun j => .int (g j))) (nI sp) (nI dp) (nI n) = arrV (G.2.2.2.2 0) n1 (fun j => .int (va_cpy f g sp dp n j)) := by
    have := va_copied (fun z => .int z) (G.2.2.2.2 0) (G.2.2.2.2 0) (n0 := n0) (n1 := n1) (sp := (nI sp).toNatClampNeg) (dp := (nI dp).toNatClampNeg) (n := (nI n).toNatClampNeg) f g (by rw [c1, c3]; exact h4)
    rw [c1, c2, c3] at this
    unfold copied
    rw [c1, c2, c3]
    exact this
  rw [ecp] at X' step
  have hlt : x_sg G (b1 + 2) < H.size := (Array.getElem?_eq_some_iff.mp hc1).1
  have hheap : ((T.setVm vm').setCell (x_sg G (b1 + 2)) (arrV (G.2.2.2.2 0) n1 (fun j => .int (va_cpy f g sp dp n j)))).heap = H.setIfInBounds (x_sg G (b1 + 2)) (arrV (G.2.2.2.2 0) n1 (fun j => .int (va_cpy f g sp dp n j))) := by rw [← hT]; rfl
  have oq : ∀ q : Nat, q ≠ x_sg G (b1 + 2) → (H.setIfInBounds (x_sg G (b1 + 2)) (arrV (G.2.2.2.2 0) n1 (fun j => .int (va_cpy f g sp dp n j))))[q]? = H[q]? := fun q hq => by simp [Array.getElem?_setIfInBounds, Ne.symm hq]
  have hA : G.1 ≤ x_sg G (b1 + 2) := Nat.le_add_right _ _
  obtain ⟨t, a1', b1'⟩ := kk p l e s m args below meth c G Z _ _ ls C (hR.set (hR.2.2.1.set (x_ws_D G h) (x_ws_get ha1) (show (H.setIfInBounds (x_sg G (b1 + 2)) _)[x_sg G (b1 + 2)]? = some _ by simp [Array.getElem?_setIfInBounds, hlt]; rfl) oq) (by simp) (fun q hq => oq q (fun z => hq (by rw [z]; exact hA)))) ⟨by simp; exact hS.1, fun q g1 g2 => by
      rw [oq q (fun e => g2 (by rw [e]; exact hA))]
      exact hS.2.1 q g1 g2, fun q hq => by
      rcases List.mem_append.mp hq with h | h
      · exact hS.2.2 q h
      · obtain ⟨z, -, hz⟩ := List.mem_map.mp h
        rw [← hz]
        exact hA⟩ hL _ hheap X'
  exact ⟨t, step t a1', b1'⟩
/-- System.arraycopy of longs -/
theorem R_acpL {idx a0 a1 n0 n1 sp dp n : Nat} {f g : Nat → Int64} {is id_ in_ : Int32} (hd : decode M.2.2.1 pc = .ok (.invokestatic idx, 3)) (hl : Cond.methodLink M.1 idx arraycopyName ∈ x_words) (hnat : Cond.native arraycopyName ∈ x_words) (hst : Cond.static arraycopyName ∈ x_words) (hini : Cond.initialized "java/lang/System" ∈ x_words) (ha0 : h[a0]? = some (.inl (1, n0, .inr (.inl f)))) (ha1 : h[a1]? = some (.inl (1, n1, .inr (.inl g)))) (h20 : 2 ≤ a0) (h21 : 2 ≤ a1) (e1 : is = nI sp) (e2 : id_ = nI dp) (e3 : in_ = nI n) (h4 : sp + n ≤ n0) (h5 : dp + n ≤ n1) (hn0 : n0 < 2 ^ 31) (hn1 : n1 < 2 ^ 31) (hf : Nat.ble 1 M.2.2.2.2.2.frames = true) (hs : x_stk st = true) (hlo : Nat.ble 26 M.2.2.2.2.2.locals = true)
    (kk : x_Rn M (pc + 3) lo st (h.set a1 (.inl (1, n1, .inr (.inl (va_cpy f g sp dp n))))) cs K) : x_Rn M pc lo (.int in_ :: .int id_ :: .ref a1 :: .int is :: .ref a0 :: st) h cs K := by
  intro p l e s m args below meth c G Z H locs ls C hR hS hL
  have hts := C.2.2.2.2.1
  subst e1 e2 e3
  obtain ⟨b0, rfl⟩ : ∃ b, a0 = b + 2 := ⟨a0 - 2, by omega⟩
  obtain ⟨b1, rfl⟩ : ∃ b, a1 = b + 2 := ⟨a1 - 2, by omega⟩
  have hc0 : H[x_sg G (b0 + 2)]? = some (arrV (G.2.2.2.2 1) n0 (fun j => .long (f j))) := hR.2.2.1 b0 _ (x_ws_get ha0)
  have hc1 : H[x_sg G (b1 + 2)]? = some (arrV (G.2.2.2.2 1) n1 (fun j => .long (g j))) := hR.2.2.1 b1 _ (x_ws_get ha1)
  have c1 : (nI sp).toNatClampNeg = sp := nI_clamp (by omega)
  have c2 : (nI dp).toNatClampNeg = dp := nI_clamp (by omega)
  have c3 : (nI n).toNatClampNeg = n := nI_clamp (by omega)
  have hsum := Nat.le_of_ble_eq_true hs
  have hloc := Nat.le_of_ble_eq_true hlo
  intro T hT X
  obtain ⟨-, k0, hk0, cm0, hkk0⟩ := (hR.2.2.2.1.2 1 _ rfl).1 n0 (fun j => .long (f j))
  obtain ⟨-, k1, hk1, cm1, hkk1⟩ := (hR.2.2.2.1.2 1 _ rfl).1 n1 (fun j => .long (g j))
  obtain ⟨vm', X', step⟩ := X.arraycopy C.1 C.2.2.2.1 (hts _ hl) (hts _ hnat) (hts _ hst) (hts _ hini) (src := x_sg G (b0 + 2)) (dst := x_sg G (b1 + 2)) (cs := arrV (G.2.2.2.2 1) n0 (fun j => .long (f j))) (cd := arrV (G.2.2.2.2 1) n1 (fun j => .long (g j))) (srcPos := nI sp) (destPos := nI dp) (n := nI n) (by rw [hT]; exact hc0) (by rw [hT]; exact hc1)
    (fun _ h => by cases h) (fun _ h => by cases h) (fun h => by cases h) (fun h => by cases h) hk0 hk1 hkk0 hkk1 (by simp [refKind]) (nI_pos (by omega)) (nI_pos (by omega)) (nI_pos (by omega))
    (by rw [x_nn (by omega), x_nn (by omega), arrV_size]; omega)
    (by rw [x_nn (by omega), x_nn (by omega), arrV_size]; omega)
    (fun vm₁ _ i hi => by
      rw [c3] at hi
      rw [c1]
      have e : (arrV (G.2.2.2.2 1) n0 (fun j => .long (f j))).slots.getD (sp + i) .null = .long (f (sp + i)) := by
        rw [Array.getD_eq_getD_getElem?, arrV_read _ _ (by omega)]
        rfl
      refine ⟨?_, ?_⟩
      · rw [e]; rfl
      · rw [e]; exact trivial)
    (g := F0 m pc ls ((.int (nI n) :: .int (nI dp) :: .ref (x_sg G (b1 + 2)) :: .int (nI sp) :: .ref (x_sg G (b0 + 2)) :: st.map (x_cv G)))) rfl (by rw [C.2.2.1]; exact hL.1) (rest := st.map (x_cv G)) rfl (by rw [C.2.1]; exact hd) (Nat.le_of_ble_eq_true hf) (by
      rw [x_cats]
      show 2 * 0 + _ + (5 + 2 + 11) ≤ _
      omega)
  have ecp : copied (arrV (G.2.2.2.2 1) n0 (fun j => .long (f j))) (arrV (G.2.2.2.2 1) n1 (fun j => .long (g j))) (nI sp) (nI dp) (nI n) = arrV (G.2.2.2.2 1) n1 (fun j => .long (va_cpy f g sp dp n j)) := by
    have := va_copied (fun z => .long z) (G.2.2.2.2 1) (G.2.2.2.2 1) (n0 := n0) (n1 := n1) (sp := (nI sp).toNatClampNeg) (dp := (nI dp).toNatClampNeg) (n := (nI n).toNatClampNeg) f g (by rw [c1, c3]; exact h4)
    rw [c1, c2, c3] at this
    unfold copied
    rw [c1, c2, c3]
    exact this
  rw [ecp] at X' step
  have hlt : x_sg G (b1 + 2) < H.size := (Array.getElem?_eq_some_iff.mp hc1).1
  have hheap : ((T.setVm vm').setCell (x_sg G (b1 + 2)) (arrV (G.2.2.2.2 1) n1 (fun j => .long (va_cpy f g sp dp n j)))).heap = H.setIfInBounds (x_sg G (b1 + 2)) (arrV (G.2.2.2.2 1) n1 (fun j => .long (va_cpy f g sp dp n j))) := by rw [← hT]; rfl
  have oq : ∀ q : Nat, q ≠ x_sg G (b1 + 2) → (H.setIfInBounds (x_sg G (b1 + 2)) (arrV (G.2.2.2.2 1) n1 (fun j => .long (va_cpy f g sp dp n j))))[q]? = H[q]? := fun q hq => by simp [Array.getElem?_setIfInBounds, Ne.symm hq]
  have hA : G.1 ≤ x_sg G (b1 + 2) := Nat.le_add_right _ _
  obtain ⟨t, a1', b1'⟩ := kk p l e s m args below meth c G Z _ _ ls C (hR.set (hR.2.2.1.set (x_ws_D G h) (x_ws_get ha1) (show (H.setIfInBounds (x_sg G (b1 + 2)) _)[x_sg G (b1 + 2)]? = some _ by simp [Array.getElem?_setIfInBounds, hlt]; rfl) oq) (by simp) (fun q hq => oq q (fun z => hq (by rw [z]; exact hA)))) ⟨by simp; exact hS.1, fun q g1 g2 => by
      rw [oq q (fun e => g2 (by rw [e]; exact hA))]
      exact hS.2.1 q g1 g2, fun q hq => by
      rcases List.mem_append.mp hq with h | h
      · exact hS.2.2 q h
      · obtain ⟨z, -, hz⟩ := List.mem_map.mp h
        rw [← hz]
        exact hA⟩ hL _ hheap X'
  exact ⟨t, step t a1', b1'⟩
end RM
