/-! THE MODEL's walls -/
def x_T6 (f : Nat → Int32) (T : xT) : Prop := ∀ x y, x < 6 → y < 6 → f (6 * x + y) = nI (T x y)
def s_at (T : xT) (a b v : Nat) : xT := fun x y => if x = a ∧ y = b then v else T x y
theorem x_T6.put {f : Nat → Int32} {T : xT} (H : x_T6 f T) {a b : Nat} (ha : a < 6) (hb : b < 6) (v : Nat) : x_T6 (upd f (6 * a + b) (nI v)) (s_at T a b v) := fun x y hx hy => by
  unfold s_at
  by_cases e : x = a ∧ y = b
  · rw [if_pos e, e.1, e.2, x_upd_eq]
  · rw [if_neg e, x_upd_ne (by omega)]; exact H x y hx hy
theorem x_T6.cong {f : Nat → Int32} {T T' : xT} (H : x_T6 f T) (e : ∀ x y, x < 6 → y < 6 → T x y = T' x y) : x_T6 f T' := fun x y hx hy => by rw [← e x y hx hy]; exact H x y hx hy
def x_LW (h g : xH) (ob : xC) (M M' : Nat → Nat → Int32) (sd : Nat → Int64) (kp : Nat → Int32) : Prop := x_MR g ob M' sd kp ∧ (∀ i, ¬ i = 6 → ¬ i = 7 → M' i = M i) ∧ x_fD h g
theorem x_LW.w6 {h g : xH} {ob : xC} {M M' : Nat → Nat → Int32} {sd : Nat → Int64} {kp : Nat → Int32} (H : x_LW h g ob M M' sd kp) (f : Nat → Int32) : x_LW h (g.set 379 (x_ia 36 f)) ob M (s_arr M' 6 f) sd kp :=
  ⟨H.1.arr (i := 6) (by decide) (by decide) (by decide) f, fun i h6 h7 => (s_arr_ne h6).trans (H.2.1 i h6 h7), H.2.2.set (c := 379) _ (by omega)⟩
theorem x_LW.w7 {h g : xH} {ob : xC} {M M' : Nat → Nat → Int32} {sd : Nat → Int64} {kp : Nat → Int32} (H : x_LW h g ob M M' sd kp) (f : Nat → Int32) : x_LW h (g.set 380 (x_ia 36 f)) ob M (s_arr M' 7 f) sd kp :=
  ⟨H.1.arr (i := 7) (by decide) (by decide) (by decide) f, fun i h6 h7 => (s_arr_ne h7).trans (H.2.1 i h6 h7), H.2.2.set (c := 380) _ (by omega)⟩
theorem x_LW.m {h g : xH} {ob : xC} {M M' : Nat → Nat → Int32} {sd : Nat → Int64} {kp : Nat → Int32} (H : x_LW h g ob M M' sd kp) : g[372]? = some ob ∧ g[379]? = some (x_ia 36 (M' 6)) ∧ g[380]? = some (x_ia 36 (M' 7)) := ⟨H.1.1, H.1.2 6 (by decide), H.1.2 7 (by decide)⟩
/-- rooms 0 to 5, though only R are there -/
def x_iso (R : Nat) (t : xT) : Prop := ∀ x k, R ≤ k → ¬ x = k → 99 ≤ t x k ∧ 99 ≤ t k x
theorem x_iso.fw {R : Nat} {t : xT} (h : x_iso R t) (j : Nat) : x_iso R (s_fw t j) := fun x k hk hx => by
  have h1 := h x k hk hx
  unfold s_fw
  by_cases e : j = k
  · subst e; omega
  · have h2 := h j k hk e; omega
theorem x_iso.fl {R : Nat} {t : xT} (h : x_iso R t) : ∀ j, x_iso R (s_fl t j)
  | 0 => h
  | j + 1 => (x_iso.fl h j).fw j
theorem x_iso.dr {R : Nat} {F : xF} {len : Nat → Nat} : ∀ {D : Nat}, (∀ d, d < D → F 1 d < R ∧ F 2 d < R) → x_iso R (s_dr F len D)
  | 0, _ => fun x k hk hx => by
    show 99 ≤ s_i0 x k ∧ 99 ≤ s_i0 k x
    unfold s_i0
    rw [if_neg hx, if_neg (fun z => hx z.symm)]; decide
  | D + 1, h => fun x k hk hx => by
    have ih := x_iso.dr (len := len) (fun d hd => h d (Nat.lt_succ_of_lt hd)) x k hk hx
    have hd := h D (Nat.lt_succ_self D)
    show 99 ≤ s_mn _ _ _ _ x k ∧ 99 ≤ s_mn _ _ _ _ k x
    unfold s_mn
    rw [if_neg (by omega), if_neg (by omega)]; exact ih
theorem s_fl_6 {R D : Nat} {F : xF} {len : Nat → Nat} (hR : R ≤ 6) (hd : ∀ d, d < D → F 1 d < R ∧ F 2 d < R ∧ ¬ F 1 d = F 2 d) {x y : Nat} (hx : x < R) (hy : y < R) : ∀ m, R + m ≤ 6 → s_fl (s_dr F len D) (R + m) x y = s_fl (s_dr F len D) R x y
  | 0, _ => rfl
  | m + 1, h => by
    have ih := s_fl_6 hR hd hx hy (len := len) m (by omega)
    have h1 := x_iso.fl (x_iso.dr (len := len) (fun d h => ⟨(hd d h).1, (hd d h).2.1⟩)) (R + m) x (R + m) (by omega) (by omega)
    have h2 := ((s_dr_dist (len := len) (R := R) (fun d h => (hd d h).2.2)).fl R (Nat.le_refl R)).1 x y hx hy
    show min (s_fl (s_dr F len D) (R + m) x y) (s_fl (s_dr F len D) (R + m) x (R + m) + s_fl (s_dr F len D) (R + m) (R + m) y) = _
    rw [ih]
    omega
theorem s_at_mn {T : xT} {a b l v w : Nat} (hab : ¬ a = b) (hv : v = min l (T a b)) (hw : w = min l (T b a)) (x y : Nat) : s_at (s_at T a b v) b a w x y = s_mn a b l T x y := by
  unfold s_at s_mn
  by_cases e1 : x = b ∧ y = a
  · rw [if_pos e1, if_pos (Or.inr e1), hw, e1.1, e1.2]
  · rw [if_neg e1]
    by_cases e2 : x = a ∧ y = b
    · rw [if_pos e2, if_pos (Or.inl e2), hv, e2.1, e2.2]
    · rw [if_neg e2, if_neg (fun z => z.elim e2 e1)]
theorem s_dr_pos {F : xF} {x y : Nat} (h : ¬ x = y) : ∀ D, 1 ≤ s_dr F (fun _ => 1) D x y
  | 0 => by show 1 ≤ s_i0 x y; unfold s_i0; rw [if_neg h]; decide
  | D + 1 => by
    have := s_dr_pos (F := F) h D
    show 1 ≤ s_mn _ _ _ _ x y
    unfold s_mn
    split
    · show 1 ≤ min 1 _; omega
    · exact this
/-- in pass k, the rooms before (i, j) done -/
def x_pasm (t T : xT) (k i j : Nat) : Prop := ∀ x y, x < 6 → y < 6 → T x y = if x < i ∨ (x = i ∧ y < j) then s_fw t k x y else t x y
theorem x_pasm.row {t T : xT} {k i j : Nat} (hp : x_pasm t T k i j) (h : x_dist 6 t) (hk : k < 6) {x : Nat} (hx : x < 6) : T x k = t x k ∧ T k x = t k x := by
  refine ⟨?_, ?_⟩
  · rw [hp x k hx hk]; split
    · exact s_fw_row h hk
    · rfl
  · rw [hp k x hk hx]; split
    · exact s_fw_col h hk
    · rfl
theorem x_pasm.le {t T : xT} {k i j : Nat} (hp : x_pasm t T k i j) (h : x_dist 6 t) {x y : Nat} (hx : x < 6) (hy : y < 6) : T x y ≤ 99 := by
  have := (h.1 x y hx hy).2
  rw [hp x y hx hy]; split
  · unfold s_fw; omega
  · exact this
theorem x_pasm.step {t T : xT} {k i j v : Nat} (hp : x_pasm t T k i j) (h : x_dist 6 t) (hk : k < 6) (hi : i < 6) (hj : j < 6) (hv : v = min (T i j) (T i k + T k j)) : x_pasm t (s_at T i j v) k i (j + 1) := fun x y hx hy => by
  unfold s_at
  by_cases e : x = i ∧ y = j
  · rw [if_pos e, if_pos (by omega), hv, e.1, e.2, (hp.row h hk hi).1, (hp.row h hk hj).2, hp i j hi hj, if_neg (by omega)]; rfl
  · rw [if_neg e, hp x y hx hy]
    by_cases c : x < i ∨ (x = i ∧ y < j)
    · rw [if_pos c, if_pos (by omega)]
    · rw [if_neg c, if_neg (by omega)]
theorem x_pasm.next {t T : xT} {k i : Nat} (hp : x_pasm t T k i 6) : x_pasm t T k (i + 1) 0 := fun x y hx hy => by
  rw [hp x y hx hy]
  by_cases c : x < i ∨ (x = i ∧ y < 6)
  · rw [if_pos c, if_pos (by omega)]
  · rw [if_neg c, if_neg (by omega)]
theorem x_pasm.done {t T : xT} {k : Nat} (hp : x_pasm t T k 6 0) : ∀ x y, x < 6 → y < 6 → T x y = s_fw t k x y := fun x y hx hy => by rw [hp x y hx hy, if_pos (Or.inl hx)]
theorem x_pasm.start {t : xT} (k : Nat) : x_pasm t t k 0 0 := fun x y hx hy => by rw [if_neg (by omega)]
theorem x_pasm.cong {t T T' : xT} {k i j : Nat} (hp : x_pasm t T k i j) (e : ∀ x y, x < 6 → y < 6 → T' x y = T x y) : x_pasm t T' k i j := fun x y hx hy => (e x y hx hy).trans (hp x y hx hy)
theorem n_passes {h : xH} {n c s sn bn N R D P : Nat} {fa : Int32} {t : Nat → Int32} {M : Nat → Nat → Int32} {sd : Nat → Int64} {kp : Nat → Int32} {g : xH} {M' : Nat → Nat → Int32} {T1 T2 : xT} {a b l : Nat} (L : x_LW h g (x_mob n fa N R D P c s sn bn t) M M' sd kp) (t6 : x_T6 (M' 6) T1) (t7 : x_T6 (M' 7) T2) (ha : a < 6) (hb : b < 6) (hl : l < 1000) (hT : T1 a b < 1000) : x_Met m_X8_passes [.ref 372, .int (nI a), .int (nI b), .int (nI l)] g (x_vd (fun g' => ∃ M'', x_LW h g' (x_mob n fa N R D P c s sn bn t) M M'' sd kp ∧ x_T6 (M'' 6) (s_at T1 a b (min l (T1 a b))) ∧ x_T6 (M'' 7) (s_at T2 a b 1))) := by
  have mo : g[372]? = some (x_mob n fa N R D P c s sn bn t) := L.1.1
  have m6 := L.m.2.1
  have m7 := L.m.2.2
  refine x_Met.of (lo := [some (.ref 372), some (.int (nI a)), some (.int (nI b)), some (.int (nI l)), none]) (by decide) rfl rfl rfl ?_
  refine R_bipush (nI 6) dX8_passes_0 rfl ?_
  refine R_iload_n dX8_passes_2 rfl ?_
  refine R_imulN dX8_passes_3 ?_
  refine R_iload_n dX8_passes_4 rfl ?_
  refine R_iaddN dX8_passes_5 ?_
  refine R_istore dX8_passes_6 (Nat.le_of_ble_eq_true rfl) rfl ?_
  refine R_aload_n dX8_passes_8 rfl ?_
  refine R_get dX8_passes_9 f_X8_32 mo rfl ?_
  refine R_iload dX8_passes_12 rfl ?_
  refine R_iload_n dX8_passes_14 rfl ?_
  refine R_aload_n dX8_passes_15 rfl ?_
  refine R_get dX8_passes_16 f_X8_32 mo rfl ?_
  refine R_iload dX8_passes_19 rfl ?_
  refine R_iald dX8_passes_21 m6 rfl (by omega) (by decide) ?_
  rw [t6 a b (by omega) (by omega)]
  refine R_geN 29 dX8_passes_22 rfl (by omega) (by omega) (fun c_22 => ?_) (fun c_22 => ?_)
  · have e9 : min l (T1 a b) = T1 a b := by omega
    refine R_aload_n dX8_passes_29 rfl ?_
    refine R_get dX8_passes_30 f_X8_32 mo rfl ?_
    refine R_iload dX8_passes_33 rfl ?_
    refine R_iald dX8_passes_35 m6 rfl (by omega) (by decide) ?_
    rw [t6 a b (by omega) (by omega)]
    refine R_iast dX8_passes_36 m6 (by omega) rfl (by omega) (by decide) ?_
    have L := L.w6 (upd (M' 6) (6 * a + b) (nI (T1 a b)))
    have t6 := t6.put (a := a) (b := b) (by omega) (by omega) (T1 a b)
    have mo : _ = some (x_mob n fa N R D P c s sn bn t) := L.1.1
    have m7 : _ = some (x_ia 36 (M' 7)) := L.m.2.2
    refine R_aload_n dX8_passes_37 rfl ?_
    refine R_get dX8_passes_38 f_X8_35 mo rfl ?_
    refine R_iload dX8_passes_41 rfl ?_
    refine R_iconst (nI 1) dX8_passes_43 rfl ?_
    refine R_iast dX8_passes_44 m7 (by omega) rfl (by omega) (by decide) ?_
    have L := L.w7 (upd (M' 7) (6 * a + b) (nI 1))
    have t7 := t7.put (a := a) (b := b) (by omega) (by omega) 1
    exact R_vret dX8_passes_45 rfl rfl rfl ⟨rfl, _, L, by rw [e9]; exact t6, t7⟩
  · have e9 : min l (T1 a b) = l := by omega
    refine R_iload_n dX8_passes_25 rfl ?_
    refine R_goto 36 dX8_passes_26 rfl ?_
    refine R_iast dX8_passes_36 m6 (by omega) rfl (by omega) (by decide) ?_
    have L := L.w6 (upd (M' 6) (6 * a + b) (nI (l)))
    have t6 := t6.put (a := a) (b := b) (by omega) (by omega) (l)
    have mo : _ = some (x_mob n fa N R D P c s sn bn t) := L.1.1
    have m7 : _ = some (x_ia 36 (M' 7)) := L.m.2.2
    refine R_aload_n dX8_passes_37 rfl ?_
    refine R_get dX8_passes_38 f_X8_35 mo rfl ?_
    refine R_iload dX8_passes_41 rfl ?_
    refine R_iconst (nI 1) dX8_passes_43 rfl ?_
    refine R_iast dX8_passes_44 m7 (by omega) rfl (by omega) (by decide) ?_
    have L := L.w7 (upd (M' 7) (6 * a + b) (nI 1))
    have t7 := t7.put (a := a) (b := b) (by omega) (by omega) 1
    exact R_vret dX8_passes_45 rfl rfl rfl ⟨rfl, _, L, by rw [e9]; exact t6, t7⟩
theorem n_lw_j {h : xH} {n c s sn bn N R D P : Nat} {fa : Int32} {t : Nat → Int32} {M : Nat → Nat → Int32} {sd : Nat → Int64} {kp : Nat → Int32} {K : Option Value → xH → Prop} {T_1 T_2 : xT} {k a : Nat} (hk : k < 6) (ha : a < 6) (d6 : x_dist 6 T_1) (d7 : x_dist 6 T_2) (kk : ∀ (g : xH) M' T1 T2 v4 v5 v6, x_LW h g (x_mob n fa N R D P c s sn bn t) M M' sd kp → x_T6 (M' 6) T1 → x_T6 (M' 7) T2 →  x_pasm T_1 T1 k a 6 → x_pasm T_2 T2 k a 6 → x_Rn m_X8_laysWalls 282 [some (.ref 372), some (.int (nI k)), some (.int (nI a)), some (.int (nI 6)), v4, v5, v6] [] g (0, 0) K) : ∀ (m b : Nat), b + m = 6 → ∀ (g : xH) M' T1 T2 v4 v5 v6, x_LW h g (x_mob n fa N R D P c s sn bn t) M M' sd kp → x_T6 (M' 6) T1 → x_T6 (M' 7) T2 →  x_pasm T_1 T1 k a b → x_pasm T_2 T2 k a b → x_Rn m_X8_laysWalls 150 [some (.ref 372), some (.int (nI k)), some (.int (nI a)), some (.int (nI b)), v4, v5, v6] [] g (0, 0) K := by
  intro m
  induction m with
  | zero =>
    intro b hm g M' T1 T2 v4 v5 v6 L t6 t7 p6 p7
    have hb : b = 6 := by omega
    subst hb
    have mo : g[372]? = some (x_mob n fa N R D P c s sn bn t) := L.1.1
    refine R_iload_n dX8_laysWalls_150 rfl ?_
    refine R_bipush (nI 6) dX8_laysWalls_151 rfl ?_
    refine R_geN 282 dX8_laysWalls_153 rfl (by omega) (by omega) (fun c_153 => ?_) (fun c_153 => ?_)
    · exact kk g M' T1 T2 _ _ _ L t6 t7 p6 p7
    · omega
  | succ m ih =>
    intro b hm g M' T1 T2 v4 v5 v6 L t6 t7 p6 p7
    have mo : g[372]? = some (x_mob n fa N R D P c s sn bn t) := L.1.1
    have m6 := L.m.2.1
    have m7 := L.m.2.2
    refine R_iload_n dX8_laysWalls_150 rfl ?_
    refine R_bipush (nI 6) dX8_laysWalls_151 rfl ?_
    refine R_geN 282 dX8_laysWalls_153 rfl (by omega) (by omega) (fun c_153 => ?_) (fun c_153 => ?_)
    · have hb : b = 6 := by omega
      subst hb
      exact kk g M' T1 T2 _ _ _ L t6 t7 p6 p7
    · have l1 := p6.le d6 (x := a) (y := k) ha hk
      have l2 := p6.le d6 (x := k) (y := b) hk (by omega)
      have l3 := p6.le d6 (x := a) (y := b) ha (by omega)
      have r1 := p7.le d7 (x := a) (y := k) ha hk
      have r2 := p7.le d7 (x := k) (y := b) hk (by omega)
      have r3 := p7.le d7 (x := a) (y := b) ha (by omega)
      refine R_aload_n dX8_laysWalls_156 rfl ?_
      refine R_get dX8_laysWalls_157 f_X8_32 mo rfl ?_
      refine R_bipush (nI 6) dX8_laysWalls_160 rfl ?_
      refine R_iload_n dX8_laysWalls_162 rfl ?_
      refine R_imulN dX8_laysWalls_163 ?_
      refine R_iload_n dX8_laysWalls_164 rfl ?_
      refine R_iaddN dX8_laysWalls_165 ?_
      refine R_iald dX8_laysWalls_166 m6 rfl (by omega) (by decide) ?_
      rw [t6 a k (by omega) (by omega)]
      refine R_aload_n dX8_laysWalls_167 rfl ?_
      refine R_get dX8_laysWalls_168 f_X8_32 mo rfl ?_
      refine R_bipush (nI 6) dX8_laysWalls_171 rfl ?_
      refine R_iload_n dX8_laysWalls_173 rfl ?_
      refine R_imulN dX8_laysWalls_174 ?_
      refine R_iload_n dX8_laysWalls_175 rfl ?_
      refine R_iaddN dX8_laysWalls_176 ?_
      refine R_iald dX8_laysWalls_177 m6 rfl (by omega) (by decide) ?_
      rw [t6 k b (by omega) (by omega)]
      refine R_iaddN dX8_laysWalls_178 ?_
      refine R_istore dX8_laysWalls_179 (Nat.le_of_ble_eq_true rfl) rfl ?_
      refine R_aload_n dX8_laysWalls_181 rfl ?_
      refine R_get dX8_laysWalls_182 f_X8_35 mo rfl ?_
      refine R_bipush (nI 6) dX8_laysWalls_185 rfl ?_
      refine R_iload_n dX8_laysWalls_187 rfl ?_
      refine R_imulN dX8_laysWalls_188 ?_
      refine R_iload_n dX8_laysWalls_189 rfl ?_
      refine R_iaddN dX8_laysWalls_190 ?_
      refine R_iald dX8_laysWalls_191 m7 rfl (by omega) (by decide) ?_
      rw [t7 a k (by omega) (by omega)]
      refine R_aload_n dX8_laysWalls_192 rfl ?_
      refine R_get dX8_laysWalls_193 f_X8_35 mo rfl ?_
      refine R_bipush (nI 6) dX8_laysWalls_196 rfl ?_
      refine R_iload_n dX8_laysWalls_198 rfl ?_
      refine R_imulN dX8_laysWalls_199 ?_
      refine R_iload_n dX8_laysWalls_200 rfl ?_
      refine R_iaddN dX8_laysWalls_201 ?_
      refine R_iald dX8_laysWalls_202 m7 rfl (by omega) (by decide) ?_
      rw [t7 k b (by omega) (by omega)]
      refine R_iaddN dX8_laysWalls_203 ?_
      refine R_istore dX8_laysWalls_204 (Nat.le_of_ble_eq_true rfl) rfl ?_
      refine R_bipush (nI 6) dX8_laysWalls_206 rfl ?_
      refine R_iload_n dX8_laysWalls_208 rfl ?_
      refine R_imulN dX8_laysWalls_209 ?_
      refine R_iload_n dX8_laysWalls_210 rfl ?_
      refine R_iaddN dX8_laysWalls_211 ?_
      refine R_istore dX8_laysWalls_212 (Nat.le_of_ble_eq_true rfl) rfl ?_
      refine R_aload_n dX8_laysWalls_214 rfl ?_
      refine R_get dX8_laysWalls_215 f_X8_32 mo rfl ?_
      refine R_iload dX8_laysWalls_218 rfl ?_
      refine R_iload dX8_laysWalls_220 rfl ?_
      refine R_aload_n dX8_laysWalls_222 rfl ?_
      refine R_get dX8_laysWalls_223 f_X8_32 mo rfl ?_
      refine R_iload dX8_laysWalls_226 rfl ?_
      refine R_iald dX8_laysWalls_228 m6 rfl (by omega) (by decide) ?_
      rw [t6 a b (by omega) (by omega)]
      refine R_geN 237 dX8_laysWalls_229 rfl (by omega) (by omega) (fun c_229 => ?_) (fun c_229 => ?_)
      · have e6 : T1 a b = min (T1 a b) (T1 a k + T1 k b) := by omega
        refine R_aload_n dX8_laysWalls_237 rfl ?_
        refine R_get dX8_laysWalls_238 f_X8_32 mo rfl ?_
        refine R_iload dX8_laysWalls_241 rfl ?_
        refine R_iald dX8_laysWalls_243 m6 rfl (by omega) (by decide) ?_
        rw [t6 a b (by omega) (by omega)]
        refine R_iast dX8_laysWalls_244 m6 (by omega) rfl (by omega) (by decide) ?_
        have L := L.w6 (upd (M' 6) (6 * a + b) (nI (T1 a b)))
        have t6 := t6.put (a := a) (b := b) (by omega) (by omega) (T1 a b)
        have mo : _ = some (x_mob n fa N R D P c s sn bn t) := L.1.1
        have m7 : _ = some (x_ia 36 (M' 7)) := L.m.2.2
        have p6 := p6.step d6 hk ha (by omega) e6
        refine R_aload_n dX8_laysWalls_245 rfl ?_
        refine R_get dX8_laysWalls_246 f_X8_35 mo rfl ?_
        refine R_iload dX8_laysWalls_249 rfl ?_
        refine R_iload dX8_laysWalls_251 rfl ?_
        refine R_aload_n dX8_laysWalls_253 rfl ?_
        refine R_get dX8_laysWalls_254 f_X8_35 mo rfl ?_
        refine R_iload dX8_laysWalls_257 rfl ?_
        refine R_iald dX8_laysWalls_259 m7 rfl (by omega) (by decide) ?_
        rw [t7 a b (by omega) (by omega)]
        refine R_geN 268 dX8_laysWalls_260 rfl (by omega) (by omega) (fun c_260 => ?_) (fun c_260 => ?_)
        · have e7 : T2 a b = min (T2 a b) (T2 a k + T2 k b) := by omega
          refine R_aload_n dX8_laysWalls_268 rfl ?_
          refine R_get dX8_laysWalls_269 f_X8_35 mo rfl ?_
          refine R_iload dX8_laysWalls_272 rfl ?_
          refine R_iald dX8_laysWalls_274 m7 rfl (by omega) (by decide) ?_
          rw [t7 a b (by omega) (by omega)]
          refine R_iast dX8_laysWalls_275 m7 (by omega) rfl (by omega) (by decide) ?_
          have L := L.w7 (upd (M' 7) (6 * a + b) (nI (T2 a b)))
          have t7 := t7.put (a := a) (b := b) (by omega) (by omega) (T2 a b)
          have p7 := p7.step d7 hk ha (by omega) e7
          refine R_iincN dX8_laysWalls_276 rfl (Nat.le_of_ble_eq_true rfl) rfl ?_
          refine R_goto 150 dX8_laysWalls_279 rfl ?_
          exact ih (b + 1) (by omega) _ _ _ _ _ _ _ L t6 t7 p6 p7
        · have e7 : T2 a k + T2 k b = min (T2 a b) (T2 a k + T2 k b) := by omega
          refine R_iload dX8_laysWalls_263 rfl ?_
          refine R_goto 275 dX8_laysWalls_265 rfl ?_
          refine R_iast dX8_laysWalls_275 m7 (by omega) rfl (by omega) (by decide) ?_
          have L := L.w7 (upd (M' 7) (6 * a + b) (nI ((T2 a k) + (T2 k b))))
          have t7 := t7.put (a := a) (b := b) (by omega) (by omega) ((T2 a k) + (T2 k b))
          have p7 := p7.step d7 hk ha (by omega) e7
          refine R_iincN dX8_laysWalls_276 rfl (Nat.le_of_ble_eq_true rfl) rfl ?_
          refine R_goto 150 dX8_laysWalls_279 rfl ?_
          exact ih (b + 1) (by omega) _ _ _ _ _ _ _ L t6 t7 p6 p7
      · have e6 : T1 a k + T1 k b = min (T1 a b) (T1 a k + T1 k b) := by omega
        refine R_iload dX8_laysWalls_232 rfl ?_
        refine R_goto 244 dX8_laysWalls_234 rfl ?_
        refine R_iast dX8_laysWalls_244 m6 (by omega) rfl (by omega) (by decide) ?_
        have L := L.w6 (upd (M' 6) (6 * a + b) (nI ((T1 a k) + (T1 k b))))
        have t6 := t6.put (a := a) (b := b) (by omega) (by omega) ((T1 a k) + (T1 k b))
        have mo : _ = some (x_mob n fa N R D P c s sn bn t) := L.1.1
        have m7 : _ = some (x_ia 36 (M' 7)) := L.m.2.2
        have p6 := p6.step d6 hk ha (by omega) e6
        refine R_aload_n dX8_laysWalls_245 rfl ?_
        refine R_get dX8_laysWalls_246 f_X8_35 mo rfl ?_
        refine R_iload dX8_laysWalls_249 rfl ?_
        refine R_iload dX8_laysWalls_251 rfl ?_
        refine R_aload_n dX8_laysWalls_253 rfl ?_
        refine R_get dX8_laysWalls_254 f_X8_35 mo rfl ?_
        refine R_iload dX8_laysWalls_257 rfl ?_
        refine R_iald dX8_laysWalls_259 m7 rfl (by omega) (by decide) ?_
        rw [t7 a b (by omega) (by omega)]
        refine R_geN 268 dX8_laysWalls_260 rfl (by omega) (by omega) (fun c_260 => ?_) (fun c_260 => ?_)
        · have e7 : T2 a b = min (T2 a b) (T2 a k + T2 k b) := by omega
          refine R_aload_n dX8_laysWalls_268 rfl ?_
          refine R_get dX8_laysWalls_269 f_X8_35 mo rfl ?_
          refine R_iload dX8_laysWalls_272 rfl ?_
          refine R_iald dX8_laysWalls_274 m7 rfl (by omega) (by decide) ?_
          rw [t7 a b (by omega) (by omega)]
          refine R_iast dX8_laysWalls_275 m7 (by omega) rfl (by omega) (by decide) ?_
          have L := L.w7 (upd (M' 7) (6 * a + b) (nI (T2 a b)))
          have t7 := t7.put (a := a) (b := b) (by omega) (by omega) (T2 a b)
          have p7 := p7.step d7 hk ha (by omega) e7
          refine R_iincN dX8_laysWalls_276 rfl (Nat.le_of_ble_eq_true rfl) rfl ?_
          refine R_goto 150 dX8_laysWalls_279 rfl ?_
          exact ih (b + 1) (by omega) _ _ _ _ _ _ _ L t6 t7 p6 p7
        · have e7 : T2 a k + T2 k b = min (T2 a b) (T2 a k + T2 k b) := by omega
          refine R_iload dX8_laysWalls_263 rfl ?_
          refine R_goto 275 dX8_laysWalls_265 rfl ?_
          refine R_iast dX8_laysWalls_275 m7 (by omega) rfl (by omega) (by decide) ?_
          have L := L.w7 (upd (M' 7) (6 * a + b) (nI ((T2 a k) + (T2 k b))))
          have t7 := t7.put (a := a) (b := b) (by omega) (by omega) ((T2 a k) + (T2 k b))
          have p7 := p7.step d7 hk ha (by omega) e7
          refine R_iincN dX8_laysWalls_276 rfl (Nat.le_of_ble_eq_true rfl) rfl ?_
          refine R_goto 150 dX8_laysWalls_279 rfl ?_
          exact ih (b + 1) (by omega) _ _ _ _ _ _ _ L t6 t7 p6 p7
theorem n_lw_a {h : xH} {n c s sn bn N R D P : Nat} {fa : Int32} {t : Nat → Int32} {M : Nat → Nat → Int32} {sd : Nat → Int64} {kp : Nat → Int32} {K : Option Value → xH → Prop} {T_1 T_2 : xT} {k : Nat} (hk : k < 6) (d6 : x_dist 6 T_1) (d7 : x_dist 6 T_2) (kk : ∀ (g : xH) M' T1 T2 v3 v4 v5 v6, x_LW h g (x_mob n fa N R D P c s sn bn t) M M' sd kp → x_T6 (M' 6) T1 → x_T6 (M' 7) T2 →  x_pasm T_1 T1 k 6 0 → x_pasm T_2 T2 k 6 0 → x_Rn m_X8_laysWalls 288 [some (.ref 372), some (.int (nI k)), some (.int (nI 6)), v3, v4, v5, v6] [] g (0, 0) K) : ∀ (m a : Nat), a + m = 6 → ∀ (g : xH) M' T1 T2 v3 v4 v5 v6, x_LW h g (x_mob n fa N R D P c s sn bn t) M M' sd kp → x_T6 (M' 6) T1 → x_T6 (M' 7) T2 →  x_pasm T_1 T1 k a 0 → x_pasm T_2 T2 k a 0 → x_Rn m_X8_laysWalls 142 [some (.ref 372), some (.int (nI k)), some (.int (nI a)), v3, v4, v5, v6] [] g (0, 0) K := by
  intro m
  induction m with
  | zero =>
    intro a hm g M' T1 T2 v3 v4 v5 v6 L t6 t7 p6 p7
    have mo : g[372]? = some (x_mob n fa N R D P c s sn bn t) := L.1.1
    refine R_iload_n dX8_laysWalls_142 rfl ?_
    refine R_bipush (nI 6) dX8_laysWalls_143 rfl ?_
    refine R_geN 288 dX8_laysWalls_145 rfl (by omega) (by omega) (fun c_145 => ?_) (fun c_145 => ?_)
    · have ha : a = 6 := by omega
      subst ha
      exact kk g M' T1 T2 _ _ _ _ L t6 t7 p6 p7
    · omega
  | succ m ih =>
    intro a hm g M' T1 T2 v3 v4 v5 v6 L t6 t7 p6 p7
    have mo : g[372]? = some (x_mob n fa N R D P c s sn bn t) := L.1.1
    have m6 := L.m.2.1
    have m7 := L.m.2.2
    refine R_iload_n dX8_laysWalls_142 rfl ?_
    refine R_bipush (nI 6) dX8_laysWalls_143 rfl ?_
    refine R_geN 288 dX8_laysWalls_145 rfl (by omega) (by omega) (fun c_145 => ?_) (fun c_145 => ?_)
    · have ha : a = 6 := by omega
      subst ha
      exact kk g M' T1 T2 _ _ _ _ L t6 t7 p6 p7
    · refine R_iconst (nI 0) dX8_laysWalls_148 rfl ?_
      refine R_istore_n dX8_laysWalls_149 (Nat.le_of_ble_eq_true rfl) rfl ?_
      refine n_lw_j hk (by omega) d6 d7 (fun g M' T1 T2 v4 v5 v6 L t6 t7 p6 p7 => ?_) 6 0 (by decide) _ _ _ _ _ _ _ L t6 t7 p6 p7
      refine R_iincN dX8_laysWalls_282 rfl (Nat.le_of_ble_eq_true rfl) rfl ?_
      refine R_goto 142 dX8_laysWalls_285 rfl ?_
      exact ih (a + 1) (by omega) _ _ _ _ _ _ _ _ L t6 t7 p6.next p7.next
theorem n_lw_k {h : xH} {n c s sn bn N R D P : Nat} {fa : Int32} {t : Nat → Int32} {M : Nat → Nat → Int32} {sd : Nat → Int64} {kp : Nat → Int32} {F : xF} (d1 : x_dist 6 (s_dr F (F 3) D)) (d2 : x_dist 6 (s_dr F (fun _ => 1) D)) : ∀ (m k : Nat), k + m = 6 → ∀ (g : xH) M' v2 v3 v4 v5 v6, x_LW h g (x_mob n fa N R D P c s sn bn t) M M' sd kp → x_T6 (M' 6) (s_fl (s_dr F (F 3) D) k) → x_T6 (M' 7) (s_fl (s_dr F (fun _ => 1) D) k) →  x_Rn m_X8_laysWalls 134 [some (.ref 372), some (.int (nI k)), v2, v3, v4, v5, v6] [] g (0, 0) (x_vd (fun h' => ∃ M', x_LW h h' (x_mob n fa N R D P c s sn bn t) M M' sd kp ∧ x_T6 (M' 6) (s_fl (s_dr F (F 3) D) 6) ∧ x_T6 (M' 7) (s_fl (s_dr F (fun _ => 1) D) 6))) := by
  intro m
  induction m with
  | zero =>
    intro k hm g M' v2 v3 v4 v5 v6 L t6 t7
    have mo : g[372]? = some (x_mob n fa N R D P c s sn bn t) := L.1.1
    refine R_iload_n dX8_laysWalls_134 rfl ?_
    refine R_bipush (nI 6) dX8_laysWalls_135 rfl ?_
    refine R_geN 294 dX8_laysWalls_137 rfl (by omega) (by omega) (fun c_137 => ?_) (fun c_137 => ?_)
    · have hk : k = 6 := by omega
      subst hk
      exact R_vret dX8_laysWalls_294 rfl rfl rfl ⟨rfl, M', L, t6, t7⟩
    · omega
  | succ m ih =>
    intro k hm g M' v2 v3 v4 v5 v6 L t6 t7
    have mo : g[372]? = some (x_mob n fa N R D P c s sn bn t) := L.1.1
    have m6 := L.m.2.1
    have m7 := L.m.2.2
    refine R_iload_n dX8_laysWalls_134 rfl ?_
    refine R_bipush (nI 6) dX8_laysWalls_135 rfl ?_
    refine R_geN 294 dX8_laysWalls_137 rfl (by omega) (by omega) (fun c_137 => ?_) (fun c_137 => ?_)
    · have hk : k = 6 := by omega
      subst hk
      exact R_vret dX8_laysWalls_294 rfl rfl rfl ⟨rfl, M', L, t6, t7⟩
    · refine R_iconst (nI 0) dX8_laysWalls_140 rfl ?_
      refine R_istore_n dX8_laysWalls_141 (Nat.le_of_ble_eq_true rfl) rfl ?_
      refine n_lw_a (T_1 := (s_fl (s_dr F (F 3) D) k)) (T_2 := (s_fl (s_dr F (fun _ => 1) D) k)) (by omega) (d1.fl k (by omega)) (d2.fl k (by omega)) (fun g M' T1 T2 v3 v4 v5 v6 L t6 t7 p6 p7 => ?_) 6 0 (by decide) _ _ _ _ _ _ _ _ L t6 t7 (x_pasm.start k) (x_pasm.start k)
      refine R_iincN dX8_laysWalls_288 rfl (Nat.le_of_ble_eq_true rfl) rfl ?_
      refine R_goto 134 dX8_laysWalls_291 rfl ?_
      exact ih (k + 1) (by omega) _ _ _ _ _ _ _ L (t6.cong p6.done) (t7.cong p7.done)
theorem n_lw_d {h : xH} {n c s sn bn N R D P : Nat} {fa : Int32} {t : Nat → Int32} {M : Nat → Nat → Int32} {sd : Nat → Int64} {kp : Nat → Int32} {F : xF} (hD : D ≤ 8) (w1 : ∀ d, d < D → M 1 d = nI (F 1 d)) (w2 : ∀ d, d < D → M 2 d = nI (F 2 d)) (w3 : ∀ d, d < D → M 3 d = nI (F 3 d)) (hd : ∀ d, d < D → F 1 d < 6 ∧ F 2 d < 6 ∧ ¬ F 1 d = F 2 d ∧ F 3 d ≤ 9) : ∀ (m d : Nat), d ≤ D → D + 1 ≤ d + m → ∀ (g : xH) M' v2 v3 v4 v5 v6, x_LW h g (x_mob n fa N R D P c s sn bn t) M M' sd kp → x_T6 (M' 6) (s_dr F (F 3) d) → x_T6 (M' 7) (s_dr F (fun _ => 1) d) →  x_Rn m_X8_laysWalls 74 [some (.ref 372), some (.int (nI d)), v2, v3, v4, v5, v6] [] g (0, 0) (x_vd (fun h' => ∃ M', x_LW h h' (x_mob n fa N R D P c s sn bn t) M M' sd kp ∧ x_T6 (M' 6) (s_fl (s_dr F (F 3) D) 6) ∧ x_T6 (M' 7) (s_fl (s_dr F (fun _ => 1) D) 6))) := by
  have d1 : x_dist 6 (s_dr F (F 3) D) := s_dr_dist (fun d h => (hd d h).2.2.1)
  have d2 : x_dist 6 (s_dr F (fun _ => 1) D) := s_dr_dist (fun d h => (hd d h).2.2.1)
  intro m
  induction m with
  | zero => intro d h1 h2; omega
  | succ m ih =>
    intro d h1 h2 g M' v2 v3 v4 v5 v6 L t6 t7
    have mo : g[372]? = some (x_mob n fa N R D P c s sn bn t) := L.1.1
    have m6 := L.m.2.1
    have m7 := L.m.2.2
    have m1 : g[374]? = some (x_ia 8 (M 1)) := (L.1.2 1 (by decide)).trans (by rw [x_mc, L.2.1 1 (by decide) (by decide)]; rfl)
    have m2 : g[375]? = some (x_ia 8 (M 2)) := (L.1.2 2 (by decide)).trans (by rw [x_mc, L.2.1 2 (by decide) (by decide)]; rfl)
    have m3 : g[376]? = some (x_ia 8 (M 3)) := (L.1.2 3 (by decide)).trans (by rw [x_mc, L.2.1 3 (by decide) (by decide)]; rfl)
    refine R_iload_n dX8_laysWalls_74 rfl ?_
    refine R_aload_n dX8_laysWalls_75 rfl ?_
    refine R_get dX8_laysWalls_76 f_X8_92 mo rfl ?_
    refine R_geN 132 dX8_laysWalls_79 rfl (by omega) (by omega) (fun c_79 => ?_) (fun c_79 => ?_)
    · have e9 : d = D := by omega
      subst e9
      refine R_iconst (nI 0) dX8_laysWalls_132 rfl ?_
      refine R_istore_n dX8_laysWalls_133 (Nat.le_of_ble_eq_true rfl) rfl ?_
      exact n_lw_k d1 d2 6 0 (by decide) _ _ _ _ _ _ _ L t6 t7
    · have hd9 := hd d (by omega)
      have l1 := ((s_dr_dist (F := F) (len := F 3) (R := 6) (j := d) (fun j hj => (hd j (by omega)).2.2.1)).1 (F 1 d) (F 2 d) (by omega) (by omega)).2
      have l2 := ((s_dr_dist (F := F) (len := F 3) (R := 6) (j := d) (fun j hj => (hd j (by omega)).2.2.1)).1 (F 2 d) (F 1 d) (by omega) (by omega)).2
      have sa : s_at (s_dr F (F 3) d) (F 1 d) (F 2 d) (min (F 3 d) (s_dr F (F 3) d (F 1 d) (F 2 d))) (F 2 d) (F 1 d) = s_dr F (F 3) d (F 2 d) (F 1 d) := if_neg (fun z => hd9.2.2.1 z.1.symm)
      refine R_aload_n dX8_laysWalls_82 rfl ?_
      refine R_aload_n dX8_laysWalls_83 rfl ?_
      refine R_get dX8_laysWalls_84 f_X8_17 mo rfl ?_
      refine R_iload_n dX8_laysWalls_87 rfl ?_
      refine R_iald dX8_laysWalls_88 m1 rfl (by omega) (by decide) ?_
      rw [w1 d (by omega)]
      refine R_aload_n dX8_laysWalls_89 rfl ?_
      refine R_get dX8_laysWalls_90 f_X8_20 mo rfl ?_
      refine R_iload_n dX8_laysWalls_93 rfl ?_
      refine R_iald dX8_laysWalls_94 m2 rfl (by omega) (by decide) ?_
      rw [w2 d (by omega)]
      refine R_aload_n dX8_laysWalls_95 rfl ?_
      refine R_get dX8_laysWalls_96 f_X8_23 mo rfl ?_
      refine R_iload_n dX8_laysWalls_99 rfl ?_
      refine R_iald dX8_laysWalls_100 m3 rfl (by omega) (by decide) ?_
      rw [w3 d (by omega)]
      refine R_cV3v (N := m_X8_passes) dX8_laysWalls_101 l_X8_173 i_X8_passes mo (n_passes (n := n) (fa := fa) (t := t) (N := N) (R := R) (D := D) (P := P) (c := c) (s := s) (sn := sn) (bn := bn) L t6 t7 (by omega) (by omega) (by omega) (by omega)) rfl rfl (fun h101 q_101 => ?_)
      obtain ⟨M101, L, t6, t7⟩ := q_101
      have mo : h101[372]? = some (x_mob n fa N R D P c s sn bn t) := L.1.1
      have m1 : h101[374]? = some (x_ia 8 (M 1)) := (L.1.2 1 (by decide)).trans (by rw [x_mc, L.2.1 1 (by decide) (by decide)]; rfl)
      have m2 : h101[375]? = some (x_ia 8 (M 2)) := (L.1.2 2 (by decide)).trans (by rw [x_mc, L.2.1 2 (by decide) (by decide)]; rfl)
      have m3 : h101[376]? = some (x_ia 8 (M 3)) := (L.1.2 3 (by decide)).trans (by rw [x_mc, L.2.1 3 (by decide) (by decide)]; rfl)
      refine R_aload_n dX8_laysWalls_104 rfl ?_
      refine R_aload_n dX8_laysWalls_105 rfl ?_
      refine R_get dX8_laysWalls_106 f_X8_20 mo rfl ?_
      refine R_iload_n dX8_laysWalls_109 rfl ?_
      refine R_iald dX8_laysWalls_110 m2 rfl (by omega) (by decide) ?_
      rw [w2 d (by omega)]
      refine R_aload_n dX8_laysWalls_111 rfl ?_
      refine R_get dX8_laysWalls_112 f_X8_17 mo rfl ?_
      refine R_iload_n dX8_laysWalls_115 rfl ?_
      refine R_iald dX8_laysWalls_116 m1 rfl (by omega) (by decide) ?_
      rw [w1 d (by omega)]
      refine R_aload_n dX8_laysWalls_117 rfl ?_
      refine R_get dX8_laysWalls_118 f_X8_23 mo rfl ?_
      refine R_iload_n dX8_laysWalls_121 rfl ?_
      refine R_iald dX8_laysWalls_122 m3 rfl (by omega) (by decide) ?_
      rw [w3 d (by omega)]
      refine R_cV3v (N := m_X8_passes) dX8_laysWalls_123 l_X8_173 i_X8_passes mo (n_passes (n := n) (fa := fa) (t := t) (N := N) (R := R) (D := D) (P := P) (c := c) (s := s) (sn := sn) (bn := bn) L t6 t7 (by omega) (by omega) (by omega) (by rw [sa]; omega)) rfl rfl (fun h123 q_123 => ?_)
      obtain ⟨M123, L, t6, t7⟩ := q_123
      have mo : h123[372]? = some (x_mob n fa N R D P c s sn bn t) := L.1.1
      have m1 : h123[374]? = some (x_ia 8 (M 1)) := (L.1.2 1 (by decide)).trans (by rw [x_mc, L.2.1 1 (by decide) (by decide)]; rfl)
      have m2 : h123[375]? = some (x_ia 8 (M 2)) := (L.1.2 2 (by decide)).trans (by rw [x_mc, L.2.1 2 (by decide) (by decide)]; rfl)
      have m3 : h123[376]? = some (x_ia 8 (M 3)) := (L.1.2 3 (by decide)).trans (by rw [x_mc, L.2.1 3 (by decide) (by decide)]; rfl)
      refine R_iincN dX8_laysWalls_126 rfl (Nat.le_of_ble_eq_true rfl) rfl ?_
      refine R_goto 74 dX8_laysWalls_129 rfl ?_
      exact ih (d + 1) (by omega) (by omega) _ _ _ _ _ _ _ L (t6.cong (fun x y _ _ => s_at_mn hd9.2.2.1 rfl (by rw [sa]) x y)) (t7.cong (fun x y _ _ => s_at_mn (l := 1) hd9.2.2.1 (by have := s_dr_pos (F := F) hd9.2.2.1 d; omega) (by have := s_dr_pos (F := F) (fun z => hd9.2.2.1 (Eq.symm z)) d; omega) x y))
def x_I6 (f : Nat → Int32) (a b : Nat) : Prop := ∀ x y, x < 6 → y < 6 → x < a ∨ (x = a ∧ y < b) → f (6 * x + y) = nI (s_i0 x y)
theorem x_I6.put {f : Nat → Int32} {a b v : Nat} (h : x_I6 f a b) (ha : a < 6) (hb : b < 6) (hv : v = s_i0 a b) : x_I6 (upd f (6 * a + b) (nI v)) a (b + 1) := fun x y hx hy hc => by
  by_cases e : x = a ∧ y = b
  · rw [e.1, e.2, x_upd_eq, hv]
  · rw [x_upd_ne (by omega)]; exact h x y hx hy (by omega)
theorem x_I6.next {f : Nat → Int32} {a : Nat} (h : x_I6 f a 6) : x_I6 f (a + 1) 0 := fun x y hx hy hc => h x y hx hy (by omega)
theorem n_lw_ib {h : xH} {n c s sn bn N R D P : Nat} {fa : Int32} {t : Nat → Int32} {M : Nat → Nat → Int32} {sd : Nat → Int64} {kp : Nat → Int32} {K : Option Value → xH → Prop} {a : Nat} (ha : a < 6) (kk : ∀ (g : xH) M', x_LW h g (x_mob n fa N R D P c s sn bn t) M M' sd kp → x_I6 (M' 6) a 6 → x_I6 (M' 7) a 6 →  x_Rn m_X8_laysWalls 66 [some (.ref 372), some (.int (nI a)), some (.int (nI 6)), none, none, none, none] [] g (0, 0) K) : ∀ (m b : Nat), b + m = 6 → ∀ (g : xH) M', x_LW h g (x_mob n fa N R D P c s sn bn t) M M' sd kp → x_I6 (M' 6) a b → x_I6 (M' 7) a b →  x_Rn m_X8_laysWalls 10 [some (.ref 372), some (.int (nI a)), some (.int (nI b)), none, none, none, none] [] g (0, 0) K := by
  intro m
  induction m with
  | zero =>
    intro b hm g M' L t6 t7
    have mo : g[372]? = some (x_mob n fa N R D P c s sn bn t) := L.1.1
    have m6 := L.m.2.1
    have m7 := L.m.2.2
    refine R_iload_n dX8_laysWalls_10 rfl ?_
    refine R_bipush (nI 6) dX8_laysWalls_11 rfl ?_
    refine R_geN 66 dX8_laysWalls_13 rfl (by omega) (by omega) (fun c_13 => ?_) (fun c_13 => ?_)
    · have hb : b = 6 := by omega
      subst hb
      exact kk g M' L t6 t7
    · omega
  | succ m ih =>
    intro b hm g M' L t6 t7
    have mo : g[372]? = some (x_mob n fa N R D P c s sn bn t) := L.1.1
    have m6 := L.m.2.1
    have m7 := L.m.2.2
    refine R_iload_n dX8_laysWalls_10 rfl ?_
    refine R_bipush (nI 6) dX8_laysWalls_11 rfl ?_
    refine R_geN 66 dX8_laysWalls_13 rfl (by omega) (by omega) (fun c_13 => ?_) (fun c_13 => ?_)
    · have hb : b = 6 := by omega
      subst hb
      exact kk g M' L t6 t7
    · refine R_aload_n dX8_laysWalls_16 rfl ?_
      refine R_get dX8_laysWalls_17 f_X8_32 mo rfl ?_
      refine R_bipush (nI 6) dX8_laysWalls_20 rfl ?_
      refine R_iload_n dX8_laysWalls_22 rfl ?_
      refine R_imulN dX8_laysWalls_23 ?_
      refine R_iload_n dX8_laysWalls_24 rfl ?_
      refine R_iaddN dX8_laysWalls_25 ?_
      refine R_iload_n dX8_laysWalls_26 rfl ?_
      refine R_iload_n dX8_laysWalls_27 rfl ?_
      refine R_neN 35 dX8_laysWalls_28 rfl (by omega) (by omega) (fun c_28 => ?_) (fun c_28 => ?_)
      · have e6 : 99 = s_i0 a b := (if_neg c_28).symm
        refine R_bipush (nI 99) dX8_laysWalls_35 rfl ?_
        refine R_iast dX8_laysWalls_37 m6 (by omega) rfl (by omega) (by decide) ?_
        have L := L.w6 (upd (M' 6) (6 * a + b) (nI 99))
        have t6 := t6.put (by omega) (by omega) e6
        have mo : _ = some (x_mob n fa N R D P c s sn bn t) := L.1.1
        have m7 : _ = some (x_ia 36 (M' 7)) := L.m.2.2
        refine R_aload_n dX8_laysWalls_38 rfl ?_
        refine R_get dX8_laysWalls_39 f_X8_35 mo rfl ?_
        refine R_bipush (nI 6) dX8_laysWalls_42 rfl ?_
        refine R_iload_n dX8_laysWalls_44 rfl ?_
        refine R_imulN dX8_laysWalls_45 ?_
        refine R_iload_n dX8_laysWalls_46 rfl ?_
        refine R_iaddN dX8_laysWalls_47 ?_
        refine R_iload_n dX8_laysWalls_48 rfl ?_
        refine R_iload_n dX8_laysWalls_49 rfl ?_
        refine R_neN 57 dX8_laysWalls_50 rfl (by omega) (by omega) (fun c_50 => ?_) (fun c_50 => ?_)
        · have e7 : 99 = s_i0 a b := (if_neg c_50).symm
          refine R_bipush (nI 99) dX8_laysWalls_57 rfl ?_
          refine R_iast dX8_laysWalls_59 m7 (by omega) rfl (by omega) (by decide) ?_
          have L := L.w7 (upd (M' 7) (6 * a + b) (nI 99))
          have t7 := t7.put (by omega) (by omega) e7
          refine R_iincN dX8_laysWalls_60 rfl (Nat.le_of_ble_eq_true rfl) rfl ?_
          refine R_goto 10 dX8_laysWalls_63 rfl ?_
          exact ih (b + 1) (by omega) _ _ L t6 t7
        · have e7 : 0 = s_i0 a b := (if_pos c_50).symm
          refine R_iconst (nI 0) dX8_laysWalls_53 rfl ?_
          refine R_goto 59 dX8_laysWalls_54 rfl ?_
          refine R_iast dX8_laysWalls_59 m7 (by omega) rfl (by omega) (by decide) ?_
          have L := L.w7 (upd (M' 7) (6 * a + b) (nI 0))
          have t7 := t7.put (by omega) (by omega) e7
          refine R_iincN dX8_laysWalls_60 rfl (Nat.le_of_ble_eq_true rfl) rfl ?_
          refine R_goto 10 dX8_laysWalls_63 rfl ?_
          exact ih (b + 1) (by omega) _ _ L t6 t7
      · have e6 : 0 = s_i0 a b := (if_pos c_28).symm
        refine R_iconst (nI 0) dX8_laysWalls_31 rfl ?_
        refine R_goto 37 dX8_laysWalls_32 rfl ?_
        refine R_iast dX8_laysWalls_37 m6 (by omega) rfl (by omega) (by decide) ?_
        have L := L.w6 (upd (M' 6) (6 * a + b) (nI 0))
        have t6 := t6.put (by omega) (by omega) e6
        have mo : _ = some (x_mob n fa N R D P c s sn bn t) := L.1.1
        have m7 : _ = some (x_ia 36 (M' 7)) := L.m.2.2
        refine R_aload_n dX8_laysWalls_38 rfl ?_
        refine R_get dX8_laysWalls_39 f_X8_35 mo rfl ?_
        refine R_bipush (nI 6) dX8_laysWalls_42 rfl ?_
        refine R_iload_n dX8_laysWalls_44 rfl ?_
        refine R_imulN dX8_laysWalls_45 ?_
        refine R_iload_n dX8_laysWalls_46 rfl ?_
        refine R_iaddN dX8_laysWalls_47 ?_
        refine R_iload_n dX8_laysWalls_48 rfl ?_
        refine R_iload_n dX8_laysWalls_49 rfl ?_
        refine R_neN 57 dX8_laysWalls_50 rfl (by omega) (by omega) (fun c_50 => ?_) (fun c_50 => ?_)
        · have e7 : 99 = s_i0 a b := (if_neg c_50).symm
          refine R_bipush (nI 99) dX8_laysWalls_57 rfl ?_
          refine R_iast dX8_laysWalls_59 m7 (by omega) rfl (by omega) (by decide) ?_
          have L := L.w7 (upd (M' 7) (6 * a + b) (nI 99))
          have t7 := t7.put (by omega) (by omega) e7
          refine R_iincN dX8_laysWalls_60 rfl (Nat.le_of_ble_eq_true rfl) rfl ?_
          refine R_goto 10 dX8_laysWalls_63 rfl ?_
          exact ih (b + 1) (by omega) _ _ L t6 t7
        · have e7 : 0 = s_i0 a b := (if_pos c_50).symm
          refine R_iconst (nI 0) dX8_laysWalls_53 rfl ?_
          refine R_goto 59 dX8_laysWalls_54 rfl ?_
          refine R_iast dX8_laysWalls_59 m7 (by omega) rfl (by omega) (by decide) ?_
          have L := L.w7 (upd (M' 7) (6 * a + b) (nI 0))
          have t7 := t7.put (by omega) (by omega) e7
          refine R_iincN dX8_laysWalls_60 rfl (Nat.le_of_ble_eq_true rfl) rfl ?_
          refine R_goto 10 dX8_laysWalls_63 rfl ?_
          exact ih (b + 1) (by omega) _ _ L t6 t7
theorem n_lw_ia {h : xH} {n c s sn bn N R D P : Nat} {fa : Int32} {t : Nat → Int32} {M : Nat → Nat → Int32} {sd : Nat → Int64} {kp : Nat → Int32} {F : xF} (hD : D ≤ 8) (w1 : ∀ d, d < D → M 1 d = nI (F 1 d)) (w2 : ∀ d, d < D → M 2 d = nI (F 2 d)) (w3 : ∀ d, d < D → M 3 d = nI (F 3 d)) (hd : ∀ d, d < D → F 1 d < 6 ∧ F 2 d < 6 ∧ ¬ F 1 d = F 2 d ∧ F 3 d ≤ 9) : ∀ (m a : Nat), a + m = 6 → ∀ (g : xH) M' v2, x_LW h g (x_mob n fa N R D P c s sn bn t) M M' sd kp → x_I6 (M' 6) a 0 → x_I6 (M' 7) a 0 →  x_Rn m_X8_laysWalls 2 [some (.ref 372), some (.int (nI a)), v2, none, none, none, none] [] g (0, 0) (x_vd (fun h' => ∃ M', x_LW h h' (x_mob n fa N R D P c s sn bn t) M M' sd kp ∧ x_T6 (M' 6) (s_fl (s_dr F (F 3) D) 6) ∧ x_T6 (M' 7) (s_fl (s_dr F (fun _ => 1) D) 6))) := by
  intro m
  induction m with
  | zero =>
    intro a hm g M' v2 L t6 t7
    have mo : g[372]? = some (x_mob n fa N R D P c s sn bn t) := L.1.1
    have m6 := L.m.2.1
    have m7 := L.m.2.2
    refine R_iload_n dX8_laysWalls_2 rfl ?_
    refine R_bipush (nI 6) dX8_laysWalls_3 rfl ?_
    refine R_geN 72 dX8_laysWalls_5 rfl (by omega) (by omega) (fun c_5 => ?_) (fun c_5 => ?_)
    · have ha : a = 6 := by omega
      subst ha
      refine R_iconst (nI 0) dX8_laysWalls_72 rfl ?_
      refine R_istore_n dX8_laysWalls_73 (Nat.le_of_ble_eq_true rfl) rfl ?_
      exact n_lw_d hD w1 w2 w3 hd (D + 1) 0 (by omega) (by omega) _ _ _ _ _ _ _ L (fun x y hx hy => t6 x y hx hy (Or.inl hx)) (fun x y hx hy => t7 x y hx hy (Or.inl hx))
    · omega
  | succ m ih =>
    intro a hm g M' v2 L t6 t7
    have mo : g[372]? = some (x_mob n fa N R D P c s sn bn t) := L.1.1
    have m6 := L.m.2.1
    have m7 := L.m.2.2
    refine R_iload_n dX8_laysWalls_2 rfl ?_
    refine R_bipush (nI 6) dX8_laysWalls_3 rfl ?_
    refine R_geN 72 dX8_laysWalls_5 rfl (by omega) (by omega) (fun c_5 => ?_) (fun c_5 => ?_)
    · have ha : a = 6 := by omega
      subst ha
      refine R_iconst (nI 0) dX8_laysWalls_72 rfl ?_
      refine R_istore_n dX8_laysWalls_73 (Nat.le_of_ble_eq_true rfl) rfl ?_
      exact n_lw_d hD w1 w2 w3 hd (D + 1) 0 (by omega) (by omega) _ _ _ _ _ _ _ L (fun x y hx hy => t6 x y hx hy (Or.inl hx)) (fun x y hx hy => t7 x y hx hy (Or.inl hx))
    · refine R_iconst (nI 0) dX8_laysWalls_8 rfl ?_
      refine R_istore_n dX8_laysWalls_9 (Nat.le_of_ble_eq_true rfl) rfl ?_
      refine n_lw_ib (by omega) (fun g M' L t6 t7 => ?_) 6 0 (by decide) _ _ L t6 t7
      refine R_iincN dX8_laysWalls_66 rfl (Nat.le_of_ble_eq_true rfl) rfl ?_
      refine R_goto 2 dX8_laysWalls_69 rfl ?_
      exact ih (a + 1) (by omega) _ _ _ L t6.next t7.next
theorem n_laysWalls {h : xH} {n c s sn bn N R D P : Nat} {fa : Int32} {t : Nat → Int32} {M : Nat → Nat → Int32} {sd : Nat → Int64} {kp : Nat → Int32} {F : xF} (hD : D ≤ 8) (w1 : ∀ d, d < D → M 1 d = nI (F 1 d)) (w2 : ∀ d, d < D → M 2 d = nI (F 2 d)) (w3 : ∀ d, d < D → M 3 d = nI (F 3 d)) (hd : ∀ d, d < D → F 1 d < 6 ∧ F 2 d < 6 ∧ ¬ F 1 d = F 2 d ∧ F 3 d ≤ 9) {g : xH} (HM : x_MR g (x_mob n fa N R D P c s sn bn t) M sd kp) (FD : x_fD h g) : x_Met m_X8_laysWalls [.ref 372] g (x_vd (fun h' => ∃ M', x_LW h h' (x_mob n fa N R D P c s sn bn t) M M' sd kp ∧ x_T6 (M' 6) (s_fl (s_dr F (F 3) D) 6) ∧ x_T6 (M' 7) (s_fl (s_dr F (fun _ => 1) D) 6))) := by
  have L : x_LW h g (x_mob n fa N R D P c s sn bn t) M M sd kp := ⟨HM, fun _ _ _ => rfl, FD⟩
  refine x_Met.of (lo := [some (.ref 372), none, none, none, none, none, none]) (by decide) rfl rfl rfl ?_
  refine R_iconst (nI 0) dX8_laysWalls_0 rfl ?_
  refine R_istore_n dX8_laysWalls_1 (Nat.le_of_ble_eq_true rfl) rfl ?_
  exact n_lw_ia hD w1 w2 w3 hd 6 0 (by decide) _ _ _ L (fun x y hx hy hc => by omega) (fun x y hx hy hc => by omega)
