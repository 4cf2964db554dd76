/-! CONTRACTS AND CALLS -/
def x_Met (M : xM) (av : List Value) (h : xH) (K : Option Value → xH → Prop) : Prop := ∀ (l : Launch) (G : xG), Met l M.2.1 (Cond.code M.2.1 M.2.2.1 M.2.2.2.1 M.2.2.2.2.1 :: x_words) M.2.2.2.2.2 (va_Pc (av.map (x_cv G)) (fun U => x_Rep G h U U.heap))
  (fun _ s oc t => ∃ (v : Option Value) (h' : xH), oc = .returned (v.map (x_cv G)) ∧ K v h' ∧ x_Rep G h' t t.heap ∧ va_F (fun q => G.1 ≤ q) s t) M.2.2.2.2.2.cells M.2.2.2.2.2.slots (fun q => G.1 ≤ q)
def x_lay1 (av : List Value) : List (Option Value) := av.flatMap (fun v => if v.category = 2 then [some v, none] else [some v])
def x_lay (n : Nat) (av : List Value) : List (Option Value) := x_lay1 av ++ List.replicate (n - (x_lay1 av).length) none
theorem x_lay1_len : ∀ av : List Value, (x_lay1 av).length = (lg_sl av).length
  | [] => rfl
  | v :: av => by
    have ih := x_lay1_len av
    unfold x_lay1 lg_sl at ih ⊢
    simp only [List.flatMap_cons, List.length_append, ih]
    split <;> rfl
theorem x_lay1_get : ∀ (av : List Value) (i : Nat) (v : Value), (x_lay1 av)[i]? = some (some v) → (lg_sl av)[i]? = some (.val v)
  | [], i, v, h => by cases i <;> cases h
  | w :: av, i, v, h => by
    have ih := x_lay1_get av
    unfold x_lay1 at ih h
    unfold lg_sl at ih ⊢
    rw [List.flatMap_cons] at h ⊢
    by_cases hc : w.category = 2
    · rw [if_pos hc] at h ⊢
      match i, h with
      | 0, h => cases h; rfl
      | 1, h => cases h
      | i + 2, h => exact ih i v h
    · rw [if_neg hc] at h ⊢
      match i, h with
      | 0, h => cases h; rfl
      | i + 1, h => exact ih i v h
theorem x_lay1_map (G : xG) (av : List Value) : x_mp G (x_lay1 av) = x_lay1 (av.map (x_cv G)) := by
  unfold x_mp x_lay1
  induction av with
  | nil => rfl
  | cons v av ih =>
    simp only [List.flatMap_cons, List.map_cons, List.map_append, ih, x_cv_cat]
    split <;> rfl
theorem x_lay_entry (G : xG) (n : Nat) (av : List Value) (hn : (x_lay1 av).length ≤ n) : x_LH ((lg_sl (av.map (x_cv G)) ++ List.replicate (n - (lg_sl (av.map (x_cv G))).length) Slot.unset).toArray) n (x_mp G (x_lay n av)) := by
  have e1 : (x_lay1 av).length = (lg_sl (av.map (x_cv G))).length := by rw [← x_lay1_len, ← x_lay1_map]; unfold x_mp; rw [List.length_map]
  obtain ⟨h1, h2, -⟩ := lv_entry (av.map (x_cv G)) (n := n) (by rw [← e1]; exact hn)
  refine ⟨h1, h2, fun i v h => ?_⟩
  have e2 : x_mp G (x_lay n av) = x_lay1 (av.map (x_cv G)) ++ List.replicate (n - (x_lay1 av).length) none := by
    rw [← x_lay1_map]
    unfold x_mp x_lay
    rw [List.map_append, List.map_replicate]
    rfl
  rw [e2] at h
  by_cases hl : i < (x_lay1 (av.map (x_cv G))).length
  · rw [List.getElem?_append_left hl] at h
    have h3 := x_lay1_get _ _ _ h
    rw [List.getElem?_toArray, List.getElem?_append_left (by rw [← x_lay1_len]; exact hl)]
    exact h3
  · rw [List.getElem?_append_right (by omega), List.getElem?_replicate] at h
    split at h <;> cases h
theorem x_Met.of {M : xM} {av : List Value} {h : xH} {K : Option Value → xH → Prop} {lo : List (Option Value)} (hn : plainName M.2.1.cls = true) (hcl : M.1 = M.2.1.cls) (hlo : x_lay M.2.2.2.1 av = lo) (hle : Nat.ble (x_lay1 av).length M.2.2.2.1 = true) (kk : x_Rn M 0 lo [] h (0, 0) K) : x_Met M av h K := by
  intro l G
  refine Met.ofW (cc := M.2.2.1) (maxL := M.2.2.2.1) (ret := M.2.2.2.2.1) hn rfl ?_
  intro p e s m args below meth c s₁ B hml hv
  obtain ⟨rfl, hR⟩ := hv
  have hts := atoms_spec (ws := Cond.code M.2.1 M.2.2.1 M.2.2.2.1 M.2.2.2.2.1 :: x_words) B.pre
  have hown : s.vm.findClass M.1 = some m.cls := by rw [hcl]; exact findClass_of_methodNamed B.named
  have hlocks := B.notSynchronized
  have hret := B.returns
  rw [lg_entry_eq]
  subst hlo
  refine kk p l e s m _ below meth c G _ s.heap [] _ ⟨B.exec, B.bytes, hml, hown, fun w hw => hts w (List.mem_cons_of_mem _ hw), (name_of_methodNamed B.named B.method).1, ?_⟩ hR va_S.rf (x_lay_entry G _ av (Nat.le_of_ble_eq_true hle))
  intro v h' H locs pc ls i hK hR' hS' hri hd
  have hx := B.exec
  have hb := B.bytes
  have hroom : (headSpec (Cond.code M.2.1 M.2.2.1 M.2.2.2.1 M.2.2.2.2.1 :: x_words) M.2.2.2.2.2).room = M.2.2.2.2.2 := rfl
  generalize hrt : M.2.2.2.2.1 = rt at hri hret
  match rt, hri with
  | none, hri =>
    obtain ⟨rfl, rfl⟩ := hri
    exact W.vret hx hb hret (fun t ht hW => ⟨none, h', rfl, hK, by rw [ht]; exact hR'.warm hW, hS'.F ht⟩) hS'.2.2 hd
  | some .int, hri =>
    obtain ⟨rfl, x, rfl⟩ := hri
    exact W.iret hx hb hret (fun t ht hW => ⟨some (.int x), h', rfl, hK, by rw [ht]; exact hR'.warm hW, hS'.F ht⟩) hS'.2.2 hd
  | some .boolean, hri =>
    obtain ⟨rfl, x, rfl, hx01⟩ := hri
    exact W.zret hx hb hret (by rcases hx01 with rfl | rfl <;> rfl) (fun t ht hW => ⟨some (.int x), h', rfl, hK, by rw [ht]; exact hR'.warm hW, hS'.F ht⟩) hS'.2.2 hd
  | some .long, hri =>
    obtain ⟨rfl, x, rfl⟩ := hri
    exact W.lret hx hb hret (fun t ht hW => ⟨some (.long x), h', rfl, hK, by rw [ht]; exact hR'.warm hW, hS'.F ht⟩) hS'.2.2 hd
theorem x_Met.mono {M : xM} {av : List Value} {h : xH} {K K2 : Option Value → xH → Prop} (hk : ∀ v h', K v h' → K2 v h') (H : x_Met M av h K) : x_Met M av h K2 := by
  intro l G
  have h1 := H l G
  unfold Met at h1 ⊢
  intro p e ha hc hkk s m args below hf happ hP hT
  obtain ⟨k, o, g1, g2, g3, g4⟩ := h1 p e ha hc hkk s m args below hf happ hP hT
  obtain ⟨⟨v, h', e1, e2, e3⟩, e4⟩ := g4
  exact ⟨k, o, g1, g2, g3, ⟨v, h', e1, hk v h' e2, e3⟩, e4⟩
section XC
variable {p : Program} {l : Launch} {e : Env} {R : Room} {s : State} {m : MethodId} {args : Array Value} {below : List Frame} {meth : Method} {c : Code} {H : Heap} {locs : List Loc} {cells slots : Nat} {Z : State → Prop}
theorem x_called {G : xG} {h : xH} {Kc : Option Value → xH → Prop} {pc mc ms : Nat} {ls : Array Slot} {st0 rest : List Value} (hr : va_Run p l e R s m args below meth c H locs cells slots mc ms (F0 m pc ls st0) rest (fun s oc t => ∃ (v : Option Value) (h' : xH), oc = .returned (v.map (x_cv G)) ∧ Kc v h' ∧ x_Rep G h' t t.heap ∧ va_F (fun q => G.1 ≤ q) s t) (fun q => G.1 ≤ q))
    (hR : x_Rep G h s H) (hS : va_S (fun q => G.1 ≤ q) s.heap H locs) (kk : ∀ (v : Option Value) (h' : xH) (H1 : Heap) (locs1 : List Loc), Kc v h' → x_Rep G h' s H1 → va_S (fun q => G.1 ≤ q) s.heap H1 locs1 → W p l e R s m args below meth c H1 locs1 (cells + mc) (slots + ms) Z (F0 m (pc + 3) ls ((v.map (x_cv G)).toList ++ rest))) : W p l e R s m args below meth c H locs cells slots Z (F0 m pc ls st0) := by
  intro T hT X
  obtain ⟨v0, st₀, t, T', L, h0, X', hL, e1, e2, ⟨v, h', hv, hK, hRt, hz, hk⟩, st⟩ := hr T hT X
  cases hv
  rw [h0] at hz hk
  have hal : t.vm.Alike s.vm := by rw [← e2]; exact X'.warmed.alike.symm
  have hR1 : x_Rep G h' s T'.heap := by
    rw [e1]
    exact ⟨hRt.1, hRt.2.1, hRt.2.2.1, hR.2.2.2.1, hRt.2.2.2.2.1.moved hal, hR.2.2.2.2.2⟩
  have hS1 : va_S (fun q => G.1 ≤ q) s.heap T'.heap (locs ++ L) := ⟨Nat.le_trans hS.1 (by rw [e1]; exact hz), fun q h1 h2 => by rw [e1, hk q (Nat.lt_of_lt_of_le h1 hS.1) h2]; exact hS.2.1 q h1 h2, fun q hq => by
      rcases List.mem_append.mp hq with h | h
      · exact hS.2.2 q h
      · exact hL q h⟩
  obtain ⟨t2, a1, b1⟩ := kk v h' T'.heap (locs ++ L) hK hR1 hS1 T' rfl X'
  exact ⟨t2, st t2 a1, b1⟩
end XC
def x_IM (N : xM) (n : Nat) : Prop := Cond.code N.2.1 N.2.2.1 N.2.2.2.1 N.2.2.2.2.1 ∈ x_words ∧ Cond.initialized N.2.1.cls ∈ x_words ∧ (N.2.1.cls ≠ "java/lang/invoke/MethodHandle" ∧ N.2.1.cls ≠ "java/lang/invoke/VarHandle" ∧ (parseMethodDescriptor N.2.1.desc).map (fun d => d.parameters.length) = some n)
def x_IV (N : xM) (n ci : Nat) : Prop := x_IM N n ∧ Cond.instanceMethod N.2.1 ∈ x_words ∧ Cond.selects N.2.1.cls N.2.1 N.2.1 ∈ x_words ∧ vwCl[ci]?.map (·.1) = some N.2.1.cls
def x_IS (N : xM) (n : Nat) : Prop := x_IM N n ∧ Cond.static N.2.1 ∈ x_words
def x_II (N : xM) (n : Nat) : Prop := x_IM N n ∧ N.2.1.name = "<init>" ∧ Cond.instanceMethod N.2.1 ∈ x_words
def x_fit (M N : xM) (cs : Nat × Nat) : Bool := Nat.ble (N.2.2.2.2.2.frames + 1) M.2.2.2.2.2.frames && Nat.ble (8 + (N.2.2.2.1 + 11) + N.2.2.2.2.2.locals) M.2.2.2.2.2.locals && Nat.ble (cs.1 + N.2.2.2.2.2.cells) M.2.2.2.2.2.cells && Nat.ble (cs.2 + N.2.2.2.2.2.slots) M.2.2.2.2.2.slots
def x_stk (st : List Value) : Bool := Nat.ble ((st.map fun v => v.category).sum) 8
theorem x_fit.of {M N : xM} {cs : Nat × Nat} (h : x_fit M N cs = true) : (N.2.2.2.2.2.frames + 1 ≤ M.2.2.2.2.2.frames ∧ 8 + (N.2.2.2.1 + 11) + N.2.2.2.2.2.locals ≤ M.2.2.2.2.2.locals) ∧ cs.1 + N.2.2.2.2.2.cells ≤ M.2.2.2.2.2.cells ∧ cs.2 + N.2.2.2.2.2.slots ≤ M.2.2.2.2.2.slots := by
  simp only [x_fit, Bool.and_eq_true] at h
  exact ⟨⟨Nat.le_of_ble_eq_true h.1.1.1, Nat.le_of_ble_eq_true h.1.1.2⟩, Nat.le_of_ble_eq_true h.1.2, Nat.le_of_ble_eq_true h.2⟩
theorem x_good {w : Cond} (hw : w ∈ x_words) : GoodIn x_words (w :: x_words) := by
  intro v hv
  rcases List.mem_cons.mp hv with rfl | hv
  · exact ⟨hw, good_of_word (List.mem_filter.mp hw).2⟩
  · exact ⟨hv, good_of_word (List.mem_filter.mp hv).2⟩
theorem x_cats (G : xG) (st : List Value) : ((st.map (x_cv G)).map fun v => v.category) = st.map fun v => v.category := by
  rw [List.map_map]
  exact List.map_congr_left (fun v _ => x_cv_cat G v)
theorem x_blind (G : xG) (av : List Value) (h : xH) : FrameBlind (va_Pc av (fun U => x_Rep G h U U.heap)) := by
  intro a U g mk q
  obtain ⟨q1, q2⟩ := q
  refine ⟨q1, q2.1, q2.2.1, q2.2.2.1, va_K.moved (u := U) (U := U.calling g mk a) (Vm.Alike.refl U.vm) q2.2.2.2.1, x_Ext.moved (u := U) (U := U.calling g mk a) (Vm.Alike.refl U.vm) q2.2.2.2.2.1, ?_⟩
  refine ⟨fun w hw => ?_, q2.2.2.2.2.2.2.1.moved (Vm.Alike.refl U.vm), q2.2.2.2.2.2.2.2.1.moved (Vm.Alike.refl U.vm), q2.2.2.2.2.2.2.2.2.moved (Vm.Alike.refl U.vm)⟩
  have h1 := q2.2.2.2.2.2.1 w hw
  simp only [x_nest, List.mem_cons, List.not_mem_nil, or_false] at hw
  rcases hw with rfl | rfl | rfl | rfl | rfl | rfl | rfl | rfl <;> exact va_Nw.same rfl (show U.vm = (U.calling g mk a).vm from rfl) h1
section RC
variable {M N : xM} {pc : Nat} {lo : List (Option Value)} {st : List Value} {h : xH} {cs : Nat × Nat} {K Kc : Option Value → xH → Prop}
theorem x_pos (G : xG) (o : Option Value) (st : List Value) : (o.map (x_cv G)).toList ++ st.map (x_cv G) = (o.toList ++ st).map (x_cv G) := by cases o <;> rfl
theorem R_callV {idx ci a n : Nat} {fs av : List Value} (hd : decode M.2.2.1 pc = .ok (.invokevirtual idx, 3)) (hl : Cond.methodLink M.1 idx N.2.1 ∈ x_words) (hN : x_IV N n ci) (hn : av.length = n) (ha : h[a]? = some (.inr (ci, fs))) (hC : x_Met N (.ref a :: av) h Kc) (hf : x_fit M N cs = true) (hs : x_stk st = true)
    (kk : ∀ v h', Kc v h' → x_Rn M (pc + 3) lo (v.toList ++ st) h' (cs.1 + N.2.2.2.2.2.cells, cs.2 + N.2.2.2.2.2.slots) K) : x_Rn M pc lo (av.reverse ++ .ref a :: st) h cs K := by
  intro p l e s m args below meth c G Z H locs ls C hR hS hL
  obtain ⟨i, rfl⟩ := x_big hR ha
  obtain ⟨⟨hcode, hini, hd3⟩, hinst, hsel, hci⟩ := hN
  obtain ⟨hroom, hcs⟩ := x_fit.of hf
  have hts := C.2.2.2.2.1
  obtain ⟨q, hq, hqn⟩ : ∃ q : vw_C, vwCl[ci]? = some q ∧ q.1 = N.2.1.cls := by
    cases hz : vwCl[ci]? with
    | none => rw [hz] at hci; cases hci
    | some q => rw [hz] at hci; exact ⟨q, rfl, Option.some.inj hci⟩
  have hrecv := va_recv hR.2.2.2.1 hR.2.2.1 hq (x_ws_get ha)
  rw [hqn] at hrecv
  have e1 : (av.reverse ++ .ref (i + 2) :: st).map (x_cv G) = (av.map (x_cv G)).reverse ++ .ref (x_sg G (i + 2)) :: st.map (x_cv G) := by
    rw [List.map_append, List.map_reverse]; rfl
  rw [e1]
  refine x_called (va_runV (Ts := x_words) (As := av.map (x_cv G)) (rest := st.map (x_cv G)) (b := x_sg G (i + 2)) ⟨C.1, C.2.1, C.2.2.1, C.2.2.2.1, hts⟩ (hC l G) ⟨callB_of n hts (x_good hcode) rfl rfl rfl (hts _ hini) (hts _ hl) hd3 hroom, hts _ hinst, hts _ hsel⟩ ⟨x_blind G _ h, hrecv, fun U hU hW => ⟨rfl, by show x_Rep G h U U.heap; rw [hU]; exact hR.warm hW⟩⟩ rfl (by rw [List.length_map]; exact hn) hL.1 rfl (lv_room (by rw [x_cats]; exact Nat.le_of_ble_eq_true hs)) hd hcs) hR hS ?_
  intro v h' H1 locs1 hK hR1 hS1
  rw [x_pos]
  exact kk v h' hK p l e s m args below meth c G Z H1 locs1 ls C hR1 hS1 hL
theorem R_callS {idx n : Nat} {av : List Value} (hd : decode M.2.2.1 pc = .ok (.invokestatic idx, 3)) (hl : Cond.methodLink M.1 idx N.2.1 ∈ x_words) (hN : x_IS N n) (hn : av.length = n) (hC : x_Met N av h Kc) (hf : x_fit M N cs = true) (hs : x_stk st = true)
    (kk : ∀ v h', Kc v h' → x_Rn M (pc + 3) lo (v.toList ++ st) h' (cs.1 + N.2.2.2.2.2.cells, cs.2 + N.2.2.2.2.2.slots) K) : x_Rn M pc lo (av.reverse ++ st) h cs K := by
  intro p l e s m args below meth c G Z H locs ls C hR hS hL
  obtain ⟨⟨hcode, hini, hd3⟩, hstat⟩ := hN
  obtain ⟨hroom, hcs⟩ := x_fit.of hf
  have hts := C.2.2.2.2.1
  have e1 : (av.reverse ++ st).map (x_cv G) = (av.map (x_cv G)).reverse ++ st.map (x_cv G) := by
    rw [List.map_append, List.map_reverse]
  rw [e1]
  refine x_called (va_runS (Ts := x_words) (As := av.map (x_cv G)) (rest := st.map (x_cv G)) ⟨C.1, C.2.1, C.2.2.1, C.2.2.2.1, hts⟩ (hC l G) ⟨callB_of n hts (x_good hcode) rfl rfl rfl (hts _ hini) (hts _ hl) hd3 hroom, hts _ hstat⟩ ⟨x_blind G _ h, fun U hU hW => ⟨rfl, by show x_Rep G h U U.heap; rw [hU]; exact hR.warm hW⟩⟩ rfl (by rw [List.length_map]; exact hn) hL.1 rfl (lv_room (by rw [x_cats]; exact Nat.le_of_ble_eq_true hs)) hd hcs) hR hS ?_
  intro v h' H1 locs1 hK hR1 hS1
  rw [x_pos]
  exact kk v h' hK p l e s m args below meth c G Z H1 locs1 ls C hR1 hS1 hL
theorem R_callI {idx a n : Nat} {av : List Value} (hd : decode M.2.2.1 pc = .ok (.invokespecial idx, 3)) (hl : Cond.methodLink M.1 idx N.2.1 ∈ x_words) (hrt : N.2.2.2.2.1 = none) (hN : x_II N n) (hn : av.length = n) (hC : x_Met N (.ref a :: av) h Kc) (hf : x_fit M N cs = true) (hs : x_stk st = true)
    (kk : ∀ v h', Kc v h' → x_Rn M (pc + 3) lo (v.toList ++ st) h' (cs.1 + N.2.2.2.2.2.cells, cs.2 + N.2.2.2.2.2.slots) K) : x_Rn M pc lo (av.reverse ++ .ref a :: st) h cs K := by
  intro p l e s m args below meth c G Z H locs ls C hR hS hL
  obtain ⟨⟨hcode, hini, hd3⟩, hnm, hinst⟩ := hN
  obtain ⟨hroom, hcs⟩ := x_fit.of hf
  have hts := C.2.2.2.2.1
  have e1 : (av.reverse ++ .ref a :: st).map (x_cv G) = (av.map (x_cv G)).reverse ++ .ref (x_sg G a) :: st.map (x_cv G) := by
    rw [List.map_append, List.map_reverse]; rfl
  rw [e1]
  have hM := hC l G
  rw [hrt] at hM hcode
  refine x_called (va_runI (Ts := x_words) (As := av.map (x_cv G)) (rest := st.map (x_cv G)) (b := x_sg G a) ⟨C.1, C.2.1, C.2.2.1, C.2.2.2.1, hts⟩ hM ⟨callB_of n hts (x_good hcode) rfl rfl rfl (hts _ hini) (hts _ hl) hd3 hroom, hnm, hts _ hinst⟩ ⟨x_blind G _ h, fun U hU hW => ⟨rfl, by show x_Rep G h U U.heap; rw [hU]; exact hR.warm hW⟩⟩ rfl (by rw [List.length_map]; exact hn) hL.1 rfl (lv_room (by rw [x_cats]; exact Nat.le_of_ble_eq_true hs)) hd hcs) hR hS ?_
  intro v h' H1 locs1 hK hR1 hS1
  rw [x_pos]
  exact kk v h' hK p l e s m args below meth c G Z H1 locs1 ls C hR1 hS1 hL
theorem R_callIN {idx a n : Nat} {host : String} {av : List Value} (hd : decode M.2.2.1 pc = .ok (.invokespecial idx, 3)) (hl : Cond.methodLinkNest M.1 idx N.2.1 host ∈ x_nest) (hrt : N.2.2.2.2.1 = none) (hN : x_II N n) (hn : av.length = n) (hC : x_Met N (.ref a :: av) h Kc) (hf : x_fit M N cs = true) (hs : x_stk st = true)
    (kk : ∀ v h', Kc v h' → x_Rn M (pc + 3) lo (v.toList ++ st) h' (cs.1 + N.2.2.2.2.2.cells, cs.2 + N.2.2.2.2.2.slots) K) : x_Rn M pc lo (av.reverse ++ .ref a :: st) h cs K := by
  intro p l e s m args below meth c G Z H locs ls C hR hS hL
  obtain ⟨⟨hcode, hini, hd3⟩, hnm, hinst⟩ := hN
  obtain ⟨hroom, hcs⟩ := x_fit.of hf
  have hts := C.2.2.2.2.1
  have e1 : (av.reverse ++ .ref a :: st).map (x_cv G) = (av.map (x_cv G)).reverse ++ .ref (x_sg G a) :: st.map (x_cv G) := by
    rw [List.map_append, List.map_reverse]; rfl
  rw [e1]
  have hM := hC l G
  rw [hrt] at hM hcode
  refine x_called (va_runIN (Ts := x_words) (As := av.map (x_cv G)) (rest := st.map (x_cv G)) (b := x_sg G a) ⟨C.1, C.2.1, C.2.2.1, C.2.2.2.1, hts⟩ hM ⟨va_cnB n hts (x_good hcode) rfl rfl rfl (hR.2.2.2.2.2.1 _ hl) (hts _ hini) hd3 hroom, hnm, hts _ hinst⟩ ⟨x_blind G _ h, fun U hU hW => ⟨rfl, by show x_Rep G h U U.heap; rw [hU]; exact hR.warm hW⟩⟩ rfl (by rw [List.length_map]; exact hn) hL.1 rfl (lv_room (by rw [x_cats]; exact Nat.le_of_ble_eq_true hs)) hd hcs) hR hS ?_
  intro v h' H1 locs1 hK hR1 hS1
  rw [x_pos]
  exact kk v h' hK p l e s m args below meth c G Z H1 locs1 ls C hR1 hS1 hL
end RC
