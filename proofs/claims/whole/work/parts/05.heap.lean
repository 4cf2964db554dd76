/-! THE RULES over the heap -/
set_option maxRecDepth 20000 in
theorem x_inX0 : ∀ w ∈ u_ws RX0 TX0 3, w ∈ x_words := by decide +kernel
set_option maxRecDepth 20000 in
theorem x_inX1 : ∀ w ∈ u_ws RX1 TX1 13, w ∈ x_words := by decide +kernel
set_option maxRecDepth 20000 in
theorem x_inX2 : ∀ w ∈ u_ws RX2 TX2 8, w ∈ x_words := by decide +kernel
set_option maxRecDepth 20000 in
theorem x_inX3 : ∀ w ∈ u_ws RX3 TX3 4, w ∈ x_words := by decide +kernel
set_option maxRecDepth 20000 in
theorem x_inX4 : ∀ w ∈ u_ws RX4 TX4 3, w ∈ x_words := by decide +kernel
set_option maxRecDepth 20000 in
theorem x_inX5 : ∀ w ∈ u_ws RX5 TX5 5, w ∈ x_words := by decide +kernel
set_option maxRecDepth 20000 in
theorem x_inX6 : ∀ w ∈ u_ws RX6 TX6 3, w ∈ x_words := by decide +kernel
set_option maxRecDepth 20000 in
theorem x_inX7 : ∀ w ∈ u_ws RX7 TX7 13, w ∈ x_words := by decide +kernel
set_option maxRecDepth 20000 in
theorem x_inX8 : ∀ w ∈ u_ws RX8 TX8 39, w ∈ x_words := by decide +kernel
def x_CIp (q : vw_C) : Prop := (∀ w ∈ u_ws q.1 q.2.1 q.2.2, w ∈ x_words) ∧ (∃ t : Nat → FieldType, ∀ k, k < q.2.2 → parseFieldDescriptor (q.2.1 k).2.2.1 = some (t k)) ∧ (∀ a, a < q.2.2 → ∀ b, b < q.2.2 → a ≠ b → (q.2.1 a).2.1 ≠ (q.2.1 b).2.1)
theorem x_CI : ∀ (ci : Nat) (q : vw_C), vwCl[ci]? = some q → x_CIp q := by
  intro ci q h
  match ci, h with
  | 0, h => cases h; exact ⟨x_inX0, ⟨tyX0, tyX0_ok⟩, nmX0⟩
  | 1, h => cases h; exact ⟨x_inX1, ⟨tyX1, tyX1_ok⟩, nmX1⟩
  | 2, h => cases h; exact ⟨x_inX2, ⟨tyX2, tyX2_ok⟩, nmX2⟩
  | 3, h => cases h; exact ⟨x_inX3, ⟨tyX3, tyX3_ok⟩, nmX3⟩
  | 4, h => cases h; exact ⟨x_inX4, ⟨tyX4, tyX4_ok⟩, nmX4⟩
  | 5, h => cases h; exact ⟨x_inX5, ⟨tyX5, tyX5_ok⟩, nmX5⟩
  | 6, h => cases h; exact ⟨x_inX6, ⟨tyX6, tyX6_ok⟩, nmX6⟩
  | 7, h => cases h; exact ⟨x_inX7, ⟨tyX7, tyX7_ok⟩, nmX7⟩
  | 8, h => cases h; exact ⟨x_inX8, ⟨tyX8, tyX8_ok⟩, nmX8⟩
  | k + 9, h => simp [vwCl] at h
/-- a field by its link: class number, place, type, final or not -/
def x_FL (own : String) (idx ci k : Nat) (ty : FieldType) (fin : Bool) : Prop := ∃ q : vw_C, vwCl[ci]? = some q ∧ k < q.2.2 ∧ Cond.fieldLink own idx (q.2.1 k).1 (q.2.1 k).2.1 (q.2.1 k).2.2.1 ∈ x_words ∧ parseFieldDescriptor (q.2.1 k).2.2.1 = some ty ∧ (q.2.1 k).2.2.2 = fin ∧ (q.2.1 k).1 = q.1
theorem x_big {G : xG} {h : xH} {U : State} {H : Heap} (r : x_Rep G h U H) {a ci : Nat} {fs : List Value} (ha : h[a]? = some (.inr (ci, fs))) : ∃ i, a = i + 2 := by
  obtain ⟨-, -, -, -, ⟨-, ⟨L, xs, e2, -⟩, e4, -⟩, -⟩ := r
  match a, ha with
  | 0, ha => rw [e2] at ha; cases ha
  | 1, ha => rw [e4] at ha; cases ha
  | i + 2, _ => exact ⟨i, rfl⟩
theorem x_bigA {G : xG} {h : xH} {U : State} {H : Heap} (r : x_Rep G h U H) {a k : Nat} {x : vp_A} (h0 : k ≠ 0) (h1 : k ≠ 1) (ha : h[a]? = some (.inl (k, x))) : ∃ i, a = i + 2 := by
  obtain ⟨-, -, -, -, ⟨-, ⟨L, xs, e2, -⟩, e4, -⟩, -⟩ := r
  match a, ha with
  | 0, ha => rw [e2] at ha; cases ha; exact absurd rfl h0
  | 1, ha => rw [e4] at ha; cases ha; exact absurd rfl h1
  | i + 2, _ => exact ⟨i, rfl⟩
section RH
variable {M : xM} {pc : Nat} {lo : List (Option Value)} {st : List Value} {h : xH} {cs : Nat × Nat} {K : Option Value → xH → Prop}
theorem R_get {idx ci k a : Nat} {ty : FieldType} {fin : Bool} {fs : List Value} {v : Value} (hd : decode M.2.2.1 pc = .ok (.getfield idx, 3)) (hf : x_FL M.1 idx ci k ty fin) (ha : h[a]? = some (.inr (ci, fs))) (hv : fs[k]? = some v) (kk : x_Rn M (pc + 3) lo (v :: st) h cs K) : x_Rn M pc lo (.ref a :: st) h cs K := by
  intro p l e s m args below meth c G Z H locs ls C hR hS hL
  obtain ⟨i, rfl⟩ := x_big hR ha
  obtain ⟨⟨Cn, T, N⟩, hq, hk, hw, -, -, -⟩ := hf
  exact va_get C.1 C.2.1 C.2.2.2.2.1 (x_CI ci _ hq).1 C.2.2.2.1 hR.2.2.2.1 hR.2.2.1 i (x_ws_get ha) hq k hk (C.2.2.2.2.1 _ hw) (fun _ z => z) (v := x_cv G v) (by rw [List.getElem?_map, hv]; rfl) hd (kk p l e s m args below meth c G Z H locs ls C hR hS hL)
theorem R_put {idx ci k a : Nat} {ty : FieldType} {fs : List Value} {v : Value} (hd : decode M.2.2.1 pc = .ok (.putfield idx, 3)) (hf : x_FL M.1 idx ci k ty false) (ha : h[a]? = some (.inr (ci, fs))) (hl : k < fs.length) (hn : ∀ G, narrow ty (x_cv G v) = x_cv G v) (hfit : ∀ G, fits ty (x_cv G v) = true) (kk : x_Rn M (pc + 3) lo st (h.set a (.inr (ci, fs.set k v))) cs K) : x_Rn M pc lo (v :: .ref a :: st) h cs K := by
  intro p l e s m args below meth c G Z H locs ls C hR hS hL
  obtain ⟨i, rfl⟩ := x_big hR ha
  obtain ⟨⟨Cn, T, N⟩, hq, hk, hw, hty, hfin, -⟩ := hf
  obtain ⟨hin, ⟨tf, htf⟩, hnm⟩ := x_CI ci _ hq
  have hK := hR.2.2.2.1
  have he := x_ws_get (G := G) ha
  have hts := C.2.2.2.2.1
  have hap := va_apart (own := M.1) hts hin tf htf hnm hK hq
  obtain ⟨r, h1, cell, q1, q2, q3, q4⟩ := hR.2.2.1 i _ he
  have hr : r = (Cn, T, N) := Option.some.inj (h1.symm.trans hq)
  subst hr
  obtain ⟨hSl, hfc, kC, hkC, hkind⟩ := hK.1 ci _ hq
  obtain ⟨cf, kf, fi, f, hi, hsl⟩ := hSl k hk
  have hlay := hts _ (hin _ (u_in_lay hk))
  unfold u_lay at hlay
  rw [if_neg (by rw [hfin]; decide)] at hlay
  have hst := (u_facts hfc hkC (u_lays hts hin hk) hi).1
  have h6 := u_store hfc hkC hkind hlay hi hty (hn G) (hfit G)
  refine W.putK C.1 C.2.1 (f := f) ⟨C.2.2.2.1, hts _ hw, ⟨_, _, _, hi⟩, hst⟩ (by rw [q2]; exact h6) q1 q3 (by rw [hsl]; exact k2_hasslot (q4 k hk)) rfl rfl hd fun H' e1 e2 e3 => ?_
  rw [hsl] at e1 ⊢
  have hA : G.1 ≤ x_sg G (i + 2) := Nat.le_add_right _ _
  refine kk p l e s m args below meth c G Z H' _ ls C (hR.set ?_ e2 (fun q hq => e3 q (fun z => hq (by rw [z]; exact hA)))) (hS.put e2 e3 hA) hL
  refine hR.2.2.1.set (x_ws_D G h) he ?_ e3
  show ∃ r : vw_C, vwCl[ci]? = some r ∧ t_OB _ _ _ _ H' (vp_V ((fs.set k v).map (x_cv G)))
  rw [List.map_set]
  exact ⟨_, hq, t_OB.to (V := updV (vp_V (fs.map (x_cv G))) k (x_cv G v)) ⟨_, e1, q2, q3, t_set q4 hap hk (x_cv G v)⟩ (fun j _ => vp_updV_set (by rw [List.length_map]; exact hl) (x_cv G v) j)⟩
theorem R_putF {idx ci k a : Nat} {ty : FieldType} {fs : List Value} {v : Value} (hd : decode M.2.2.1 pc = .ok (.putfield idx, 3)) (hf : x_FL M.1 idx ci k ty true) (hown : vwCl[ci]?.map (·.1) = some M.1) (hini : M.2.1.name = "<init>") (ha : h[a]? = some (.inr (ci, fs))) (hl : k < fs.length) (hn : ∀ G, narrow ty (x_cv G v) = x_cv G v) (hfit : ∀ G, fits ty (x_cv G v) = true) (kk : x_Rn M (pc + 3) lo st (h.set a (.inr (ci, fs.set k v))) cs K) : x_Rn M pc lo (v :: .ref a :: st) h cs K := by
  intro p l e s m args below meth c G Z H locs ls C hR hS hL
  obtain ⟨i, rfl⟩ := x_big hR ha
  obtain ⟨⟨Cn, T, N⟩, hq, hk, hw, hty, hfin, hdc⟩ := hf
  obtain ⟨hin, ⟨tf, htf⟩, hnm⟩ := x_CI ci _ hq
  have hK := hR.2.2.2.1
  have he := x_ws_get (G := G) ha
  have hts := C.2.2.2.2.1
  have hap := va_apart (own := M.1) hts hin tf htf hnm hK hq
  obtain ⟨r, h1, cell, q1, q2, q3, q4⟩ := hR.2.2.1 i _ he
  have hr : r = (Cn, T, N) := Option.some.inj (h1.symm.trans hq)
  subst hr
  obtain ⟨hSl, hfc, kC, hkC, hkind⟩ := hK.1 ci _ hq
  obtain ⟨cf, kf, fi, f, hi, hsl⟩ := hSl k hk
  have hlay := hts _ (hin _ (u_in_lay hk))
  unfold u_lay at hlay
  rw [if_pos hfin] at hlay
  have hst := (u_facts hfc hkC (u_lays hts hin hk) hi).1
  rw [hq] at hown
  have hCn : Cn = M.1 := Option.some.inj hown
  have hcf : m.cls = cf := by
    obtain ⟨_, _, c', _, _, _, -, -, hf', -, -, -, hown2, -⟩ := Cond.laysFinal_spec hlay
    have e1 : c' = cf := by have := hi.symm.trans hf'; simp at this; exact this.1.symm
    rw [hdc, hCn] at hown2
    rw [← e1]; exact Option.some.inj (C.2.2.2.1.symm.trans hown2)
  have h6 := u_fits hfc hkC hkind (Or.inr hlay) hi hty (hn G) (hfit G)
  refine W.putFinK C.1 C.2.1 C.2.2.2.1 (hts _ hw) hi hst hcf (by rw [C.2.2.2.2.2.1]; exact hini) (by rw [q2]; exact h6) q1 q3 (by rw [hsl]; exact k2_hasslot (q4 k hk)) rfl rfl hd fun H' e1 e2 e3 => ?_
  rw [hsl] at e1 ⊢
  have hA : G.1 ≤ x_sg G (i + 2) := Nat.le_add_right _ _
  refine kk p l e s m args below meth c G Z H' _ ls C (hR.set ?_ e2 (fun q hq => e3 q (fun z => hq (by rw [z]; exact hA)))) (hS.put e2 e3 hA) hL
  refine hR.2.2.1.set (x_ws_D G h) he ?_ e3
  show ∃ r : vw_C, vwCl[ci]? = some r ∧ t_OB _ _ _ _ H' (vp_V ((fs.set k v).map (x_cv G)))
  rw [List.map_set]
  exact ⟨_, hq, t_OB.to (V := updV (vp_V (fs.map (x_cv G))) k (x_cv G v)) ⟨_, e1, q2, q3, t_set q4 hap hk (x_cv G v)⟩ (fun j _ => vp_updV_set (by rw [List.length_map]; exact hl) (x_cv G v) j)⟩
theorem R_iald {a n j : Nat} {f : Nat → Int32} {i : Int32} (hd : decode M.2.2.1 pc = .ok (.iaload, 1)) (ha : h[a]? = some (.inl (0, n, .inl f))) (hi : i = nI j) (hj : j < n) (hn : n < 2 ^ 31) (kk : x_Rn M (pc + 1) lo (.int (f j) :: st) h cs K) : x_Rn M pc lo (.int i :: .ref a :: st) h cs K := by
  intro p l e s m args below meth c G Z H locs ls C hR hS hL
  subst hi
  have hin := vp_in_nI hj hn
  have hcl : (nI j).toNatClampNeg = j := nI_clamp (by omega)
  match a, ha with
  | 0, ha =>
    obtain ⟨L, xs, e2, scr, h1, h2, h3, h4, h5⟩ := hR.2.2.2.2.1.2.1
    rw [e2] at ha
    cases ha
    exact W.iald (v := .int (f j)) C.1 C.2.1 h1 h2 h3 (by rw [h4]; exact hin) (by rw [hcl]; exact h5 j hj) rfl rfl hd (kk p l e s m args below meth c G Z H locs ls C hR hS hL)
  | 1, ha => rw [hR.2.2.2.2.1.2.2.1] at ha; cases ha
  | b + 2, ha =>
    refine va_iald C.1 C.2.1 hR.2.2.2.1 hR.2.2.1 b 0 (x_ws_get ha) rfl hin hd ?_
    rw [hcl]
    exact kk p l e s m args below meth c G Z H locs ls C hR hS hL
theorem R_lald {a n j : Nat} {f : Nat → Int64} {i : Int32} (hd : decode M.2.2.1 pc = .ok (.laload, 1)) (ha : h[a]? = some (.inl (1, n, .inr (.inl f)))) (hi : i = nI j) (hj : j < n) (hn : n < 2 ^ 31) (kk : x_Rn M (pc + 1) lo (.long (f j) :: st) h cs K) : x_Rn M pc lo (.int i :: .ref a :: st) h cs K := by
  intro p l e s m args below meth c G Z H locs ls C hR hS hL
  subst hi
  have hin := vp_in_nI hj hn
  have hcl : (nI j).toNatClampNeg = j := nI_clamp (by omega)
  match a, ha with
  | 0, ha =>
    obtain ⟨L, xs, e2, -⟩ := hR.2.2.2.2.1.2.1
    rw [e2] at ha
    cases ha
  | 1, ha =>
    rw [hR.2.2.2.2.1.2.2.1] at ha
    cases ha
    obtain ⟨cell, h1, h2, h3, h4, h5, h6, h7⟩ := hR.2.2.2.2.1.2.2.2.1
    exact W.lald (v := .long (x_lack j)) C.1 C.2.1 h1 h2 h3 (by rintro (q | q); exact hin (Or.inl q); rw [hcl] at q; omega) (by rw [hcl]; exact h6 j hj) rfl rfl hd (kk p l e s m args below meth c G Z H locs ls C hR hS hL)
  | b + 2, ha =>
    refine va_lald C.1 C.2.1 hR.2.2.2.1 hR.2.2.1 b 1 (x_ws_get ha) rfl hin hd ?_
    rw [hcl]
    exact kk p l e s m args below meth c G Z H locs ls C hR hS hL
theorem R_zald {a n j : Nat} {f : Nat → Int32} {i : Int32} (hd : decode M.2.2.1 pc = .ok (.baload, 1)) (ha : h[a]? = some (.inl (2, n, .inl f))) (hi : i = nI j) (hj : j < n) (hn : n < 2 ^ 31) (kk : x_Rn M (pc + 1) lo (.int (f j) :: st) h cs K) : x_Rn M pc lo (.int i :: .ref a :: st) h cs K := by
  intro p l e s m args below meth c G Z H locs ls C hR hS hL
  subst hi
  have hin := vp_in_nI hj hn
  have hcl : (nI j).toNatClampNeg = j := nI_clamp (by omega)
  obtain ⟨b, rfl⟩ := x_bigA hR (by decide) (by decide) ha
  refine va_zald C.1 C.2.1 hR.2.2.2.1 hR.2.2.1 b 2 (x_ws_get ha) rfl hin hd ?_
  rw [hcl]
  exact kk p l e s m args below meth c G Z H locs ls C hR hS hL
theorem R_aald {a n j kd y : Nat} {ty : FieldType} {f : Nat → Option Nat} {i : Int32} (hd : decode M.2.2.1 pc = .ok (.aaload, 1)) (ha : h[a]? = some (.inl (kd, n, .inr (.inr (.inr (.inr f)))))) (h2 : 2 ≤ a) (hkd : ∀ G, (x_tys G)[kd]? = some (G.2.2.2.2 kd, ty)) (hty : ty.isReference = true) (hi : i = nI j) (hj : j < n) (hn : n < 2 ^ 31) (hy : f j = some y) (kk : x_Rn M (pc + 1) lo (.ref y :: st) h cs K) : x_Rn M pc lo (.int i :: .ref a :: st) h cs K := by
  intro p l e s m args below meth c G Z H locs ls C hR hS hL
  subst hi
  have hin := vp_in_nI hj hn
  have hcl : (nI j).toNatClampNeg = j := nI_clamp (by omega)
  obtain ⟨b, rfl⟩ : ∃ b, a = b + 2 := ⟨a - 2, by omega⟩
  have hat := hR.2.2.1 b _ (x_ws_get ha)
  have hcell : H[x_sg G (b + 2)]? = some (arrV (G.2.2.2.2 kd) n (fun q => va_rf ((f q).map (x_sg G)))) := hat
  refine W.aald (v := .ref (x_sg G y)) (ty := ty) C.1 C.2.1 hcell ((hR.2.2.2.1.2 kd _ (hkd G)).1 n _) hty (fun q => by cases q) (by rw [arrV_size]; exact hin) (by rw [hcl, arrV_read _ _ hj, hy]; rfl) rfl rfl hd ?_
  exact kk p l e s m args below meth c G Z H locs ls C hR hS hL
theorem x_updV_i (f : Nat → Int32) (j : Nat) (x : Int32) : updV (fun q => Value.int (f q)) j (.int x) = fun q => .int (upd f j x q) := by
  funext q
  by_cases hq : q = j
  · subst hq; simp [updV, upd]
  · simp [updV, upd, hq]
theorem x_updV_l (f : Nat → Int64) (j : Nat) (x : Int64) : updV (fun q => Value.long (f q)) j (.long x) = fun q => .long (vp_updL f j x q) := by
  funext q
  by_cases hq : q = j
  · subst hq; simp [updV, vp_updL]
  · simp [updV, vp_updL, hq]
theorem R_iast {a n j : Nat} {f : Nat → Int32} {i x : Int32} (hd : decode M.2.2.1 pc = .ok (.iastore, 1)) (ha : h[a]? = some (.inl (0, n, .inl f))) (h2 : 2 ≤ a) (hi : i = nI j) (hj : j < n) (hn : n < 2 ^ 31) (kk : x_Rn M (pc + 1) lo st (h.set a (.inl (0, n, .inl (upd f j x)))) cs K) : x_Rn M pc lo (.int x :: .int i :: .ref a :: st) h cs K := by
  intro p l e s m args below meth c G Z H locs ls C hR hS hL
  subst hi
  have hin := vp_in_nI hj hn
  have hcl : (nI j).toNatClampNeg = j := nI_clamp (by omega)
  obtain ⟨b, rfl⟩ : ∃ b, a = b + 2 := ⟨a - 2, by omega⟩
  have he := x_ws_get (G := G) ha
  have hcell : H[x_sg G (b + 2)]? = some (arrV (G.2.2.2.2 0) n (fun q => .int (f q))) := hR.2.2.1 b _ he
  refine W.iast C.1 C.2.1 hcell ((hR.2.2.2.1.2 0 _ rfl).1 n _) (fun q => by cases q) (by rw [arrV_size]; exact hin) rfl rfl hd fun H1 e1 z oq => ?_
  rw [hcl, arrV_store, x_updV_i] at e1
  have hA : G.1 ≤ x_sg G (b + 2) := Nat.le_add_right _ _
  exact kk p l e s m args below meth c G Z H1 _ ls C (hR.set (hR.2.2.1.set (x_ws_D G h) he e1 oq) z (fun q hq => oq q (fun z => hq (by rw [z]; exact hA)))) (hS.put z oq hA) hL
theorem R_last {a n j : Nat} {f : Nat → Int64} {i : Int32} {x : Int64} (hd : decode M.2.2.1 pc = .ok (.lastore, 1)) (ha : h[a]? = some (.inl (1, n, .inr (.inl f)))) (h2 : 2 ≤ a) (hi : i = nI j) (hj : j < n) (hn : n < 2 ^ 31) (kk : x_Rn M (pc + 1) lo st (h.set a (.inl (1, n, .inr (.inl (vp_updL f j x))))) cs K) : x_Rn M pc lo (.long x :: .int i :: .ref a :: st) h cs K := by
  intro p l e s m args below meth c G Z H locs ls C hR hS hL
  subst hi
  have hin := vp_in_nI hj hn
  have hcl : (nI j).toNatClampNeg = j := nI_clamp (by omega)
  obtain ⟨b, rfl⟩ : ∃ b, a = b + 2 := ⟨a - 2, by omega⟩
  have he := x_ws_get (G := G) ha
  have hcell : H[x_sg G (b + 2)]? = some (arrV (G.2.2.2.2 1) n (fun q => .long (f q))) := hR.2.2.1 b _ he
  refine W.last C.1 C.2.1 hcell ((hR.2.2.2.1.2 1 _ rfl).1 n _) (fun q => by cases q) (by rw [arrV_size]; exact hin) rfl rfl hd fun H1 e1 z oq => ?_
  rw [hcl, arrV_store, x_updV_l] at e1
  have hA : G.1 ≤ x_sg G (b + 2) := Nat.le_add_right _ _
  exact kk p l e s m args below meth c G Z H1 _ ls C (hR.set (hR.2.2.1.set (x_ws_D G h) he e1 oq) z (fun q hq => oq q (fun z => hq (by rw [z]; exact hA)))) (hS.put z oq hA) hL
theorem R_zast {a n j : Nat} {f : Nat → Int32} {i x : Int32} (hd : decode M.2.2.1 pc = .ok (.bastore, 1)) (ha : h[a]? = some (.inl (2, n, .inl f))) (hx : x = 0 ∨ x = 1) (hi : i = nI j) (hj : j < n) (hn : n < 2 ^ 31) (kk : x_Rn M (pc + 1) lo st (h.set a (.inl (2, n, .inl (upd f j x)))) cs K) : x_Rn M pc lo (.int x :: .int i :: .ref a :: st) h cs K := by
  intro p l e s m args below meth c G Z H locs ls C hR hS hL
  subst hi
  have hin := vp_in_nI hj hn
  have hcl : (nI j).toNatClampNeg = j := nI_clamp (by omega)
  obtain ⟨b, rfl⟩ := x_bigA hR (by decide) (by decide) ha
  have he := x_ws_get (G := G) ha
  have hcell : H[x_sg G (b + 2)]? = some (arrV (G.2.2.2.2 2) n (fun q => .int (f q))) := hR.2.2.1 b _ he
  refine W.zast C.1 C.2.1 hcell ((hR.2.2.2.1.2 2 _ rfl).1 n _) (fun q => by cases q) (by rw [arrV_size]; exact hin) rfl rfl hd fun H1 e1 z oq => ?_
  have hnr : narrow .boolean (.int x) = .int x := by rcases hx with rfl | rfl <;> rfl
  rw [hcl, hnr, arrV_store, x_updV_i] at e1
  have hA : G.1 ≤ x_sg G (b + 2) := Nat.le_add_right _ _
  exact kk p l e s m args below meth c G Z H1 _ ls C (hR.set (hR.2.2.1.set (x_ws_D G h) he e1 oq) z (fun q hq => oq q (fun z => hq (by rw [z]; exact hA)))) (hS.put z oq hA) hL
/-- a Night into an array of them -/
theorem R_aast {a n j v : Nat} {f : Nat → Option Nat} {vs : List Value} {i : Int32} (hd : decode M.2.2.1 pc = .ok (.aastore, 1)) (ha : h[a]? = some (.inl (3, n, .inr (.inr (.inr (.inr f)))))) (hv : h[v]? = some (.inr (2, vs))) (hi : i = nI j) (hj : j < n) (hn : n < 2 ^ 31) (kk : x_Rn M (pc + 1) lo st (h.set a (.inl (3, n, .inr (.inr (.inr (.inr (va_up f j (some v)))))))) cs K) : x_Rn M pc lo (.ref v :: .int i :: .ref a :: st) h cs K := by
  intro p l e s m args below meth c G Z H locs ls C hR hS hL
  subst hi
  have hcl : (nI j).toNatClampNeg = j := nI_clamp (by omega)
  obtain ⟨b, rfl⟩ := x_bigA hR (by decide) (by decide) ha
  obtain ⟨w, rfl⟩ := x_big hR hv
  have he := x_ws_get (G := G) ha
  have hcell : H[x_sg G (b + 2)]? = some (arrV (G.2.2.2.2 3) n (fun q => va_rf ((f q).map (x_sg G)))) := hR.2.2.1 b _ he
  obtain ⟨r', hr', cellV, g1, g2, g3, -⟩ := hR.2.2.1 w _ (x_ws_get hv)
  have hcls := (hR.2.2.2.1.1 2 (RX2, TX2, 8) rfl).2
  obtain ⟨kA, comp, k1, k2, k3, -⟩ := (hR.2.2.2.1.2 3 _ rfl).2
  have hcomp : comp = G.2.2.2.1.1 2 := Option.some.inj (k3.symm.trans hcls.1)
  subst hcomp
  obtain ⟨kC, hkC, -⟩ := hcls.2
  refine W.aast C.1 C.2.1 hcell (fun q h => by cases h) (fun h => by cases h) k1 k2 rfl hkC ⟨nI_pos (by omega), by rw [arrV_size, hcl]; exact hj⟩ g1 (fun q h => by rw [g3] at h; cases h) (by rw [g2]; exact hkC) (by rw [g2]; exact va_assign hcls) rfl rfl hd fun H1 e1 z oq => ?_
  have hA : G.1 ≤ x_sg G (b + 2) := Nat.le_add_right _ _
  rw [hcl, arrV_store] at e1
  have hfun : updV (fun q => va_rf ((f q).map (x_sg G))) j (.ref (x_sg G (w + 2))) = fun q => va_rf ((va_up f j (some (w + 2)) q).map (x_sg G)) := by
    funext q
    by_cases hq : q = j
    · subst hq; simp [updV, va_up, va_rf]
    · simp [updV, va_up, hq]
  rw [hfun] at e1
  exact kk p l e s m args below meth c G Z H1 _ ls C (hR.set (hR.2.2.1.set (x_ws_D G h) he e1 oq) z (fun q hq => oq q (fun z => hq (by rw [z]; exact hA)))) (hS.put z oq hA) hL
theorem R_alen {a n : Nat} {f : Nat → Int32} (hd : decode M.2.2.1 pc = .ok (.arraylength, 1)) (ha : h[a]? = some (.inl (0, n, .inl f))) (kk : x_Rn M (pc + 1) lo (.int (nI n) :: st) h cs K) : x_Rn M pc lo (.ref a :: st) h cs K := by
  intro p l e s m args below meth c G Z H locs ls C hR hS hL
  match a, ha with
  | 0, ha =>
    obtain ⟨L, xs, e2, scr, h1, h2, h3, h4, h5⟩ := hR.2.2.2.2.1.2.1
    rw [e2] at ha
    cases ha
    exact W.alen (n := nI n) C.1 C.2.1 h1 h2 (by rw [h4]; rfl) rfl rfl hd (kk p l e s m args below meth c G Z H locs ls C hR hS hL)
  | 1, ha => rw [hR.2.2.2.2.1.2.2.1] at ha; cases ha
  | b + 2, ha => exact va_alen C.1 C.2.1 hR.2.2.2.1 hR.2.2.1 b 0 (x_ws_get ha) rfl rfl hd (kk p l e s m args below meth c G Z H locs ls C hR hS hL)
/-- the static table -/
theorem R_lack (hd : decode M.2.2.1 pc = .ok (.getstatic 102, 3)) (hM : M.1 = "LastSentence$Planner") (kk : x_Rn M (pc + 3) lo (.ref 1 :: st) h cs K) : x_Rn M pc lo st h cs K := by
  intro p l e s m args below meth c G Z H locs ls C hR hS hL
  obtain ⟨cf, kf, fi, f, a, cell, h1, h2, h3, h4, h5, h6, h7, h8⟩ := hR.2.2.2.2.1.2.2.2.2
  have hw : va_Nw (.fieldLinkNest "LastSentence$Planner" 102 "LastSentence" "LACKING" "[J" "LastSentence") s := hR.2.2.2.2.2.1 _ List.mem_cons_self
  have hown := C.2.2.2.1
  rw [hM] at hown
  exact va_WgetsN C.1 C.2.1 hown (va_Nw.use rfl hw) h1 h2 h3 h4 h5 (fun e => by rw [e] at h6; cases h6) h7 rfl hd (kk p l e s m args below meth c G Z H locs ls C hR hS hL)
end RH
