/-! FEWEST: the class's planner and the model's table say the same -/
theorem s_dif_dif : ∀ {s w x : Nat}, s_dif (s_dif s w) x = s_dif s (w ||| x) := by
  intro s w x
  apply Nat.eq_of_testBit_eq
  intro i
  unfold s_dif
  rw [s_mask_bit, s_mask_bit, s_mask_bit, Nat.testBit_or]
  cases decide (i < 6) <;> cases s.testBit i <;> cases w.testBit i <;> cases x.testBit i <;> rfl
theorem s_dif_lt (s w : Nat) : s_dif s w < 64 := s_mask64 (by decide) _
theorem s_clr64 : ∀ m, m < 64 → ∀ x, x < 64 → s_clr (fun i => x.testBit i) 6 m = s_dif m x := by decide +kernel
theorem s_cnt64 : ∀ m, m < 64 → ∀ x, x < 64 → s_dif m x = m ∨ s_cnt 6 (fun i => (s_dif m x).testBit i) + 1 ≤ s_cnt 6 (fun i => m.testBit i) := by decide +kernel
theorem v_won_bits (Z : xZ) (p hr r : Nat) : a_won (z_N Z) (z_R Z) (z_F Z) (z_Q Z) p hr r = fun i => (v_won Z p hr r).testBit i := by
  funext i
  unfold v_won
  rw [s_mask_bit]
  unfold a_won
  cases decide (i < z_R Z) <;> rfl
theorem v_clr {Z : xZ} {p hr r s w : Nat} (hR : z_R Z ≤ 6) : s_clr (a_won (z_N Z) (z_R Z) (z_F Z) (z_Q Z) p hr r) 6 (s_dif s w) = s_dif s (w ||| v_won Z p hr r) := by
  rw [v_won_bits, s_clr64 _ (s_dif_lt s w) (v_won Z p hr r) (s_mask64 hR _), s_dif_dif]
theorem a_go_v {F : xF} {α : xa} {f : Nat → Nat → Nat} {c m w : Nat} (h : ∀ r, α r c m = true ↔ f r w ≤ c) (r : Nat) : ∀ d, (∀ j, j < d → ¬ F 1 j = F 2 j) → (a_go F α d r c m = true ↔ v_go F f w d r ≤ c)
  | 0, _ => h r
  | d + 1, hd => by
    have ih := a_go_v h r d (fun j hj => hd j (Nat.lt_succ_of_lt hj))
    have hne := hd d (Nat.lt_succ_self d)
    show ((a_go F α d r c m || (decide (r = F 1 d) && α (F 2 d) c m)) || (decide (r = F 2 d) && α (F 1 d) c m)) = true ↔ _
    rw [v_go]
    by_cases e1 : F 1 d = r
    · rw [if_pos e1, decide_eq_true e1.symm, decide_eq_false (fun z => hne (e1.trans z)), Bool.true_and, Bool.false_and, Bool.or_false, Bool.or_eq_true, ih, h]
      omega
    · rw [if_neg e1, decide_eq_false (fun z => e1 z.symm), Bool.false_and, Bool.or_false]
      by_cases e2 : F 2 d = r
      · rw [if_pos e2, decide_eq_true e2.symm, Bool.true_and, Bool.or_eq_true, ih, h]
        omega
      · rw [if_neg e2, decide_eq_false (fun z => e2 z.symm), Bool.false_and, Bool.or_false, ih]
/-- stays, or goes through a door -/
def x_adj (D : Nat) (F : xF) (x z : Nat) : Prop := z = x ∨ ∃ d, d < D ∧ ((F 1 d = x ∧ F 2 d = z) ∨ (F 2 d = x ∧ F 1 d = z))
theorem x_adj.up {D : Nat} {F : xF} {x z : Nat} (h : x_adj D F x z) : x_adj (D + 1) F x z := h.imp id (fun ⟨d, h1, h2⟩ => ⟨d, Nat.lt_succ_of_lt h1, h2⟩)
theorem v_go_ex (F : xF) (f : Nat → Nat → Nat) (w r : Nat) : ∀ d, ∃ z, x_adj d F r z ∧ v_go F f w d r = f z w
  | 0 => ⟨r, Or.inl rfl, rfl⟩
  | d + 1 => by
    obtain ⟨z, h1, h2⟩ := v_go_ex F f w r d
    rw [v_go]
    by_cases e1 : F 1 d = r
    · rw [if_pos e1]
      by_cases c : v_go F f w d r ≤ f (F 2 d) w
      · exact ⟨z, h1.up, by omega⟩
      · exact ⟨F 2 d, Or.inr ⟨d, Nat.lt_succ_self d, Or.inl ⟨e1, rfl⟩⟩, by omega⟩
    · rw [if_neg e1]
      by_cases e2 : F 2 d = r
      · rw [if_pos e2]
        by_cases c : v_go F f w d r ≤ f (F 1 d) w
        · exact ⟨z, h1.up, by omega⟩
        · exact ⟨F 1 d, Or.inr ⟨d, Nat.lt_succ_self d, Or.inr ⟨e2, rfl⟩⟩, by omega⟩
      · rw [if_neg e2]; exact ⟨z, h1.up, h2⟩
theorem v_go_dn (F : xF) (f : Nat → Nat → Nat) (w r d : Nat) : v_go F f w (d + 1) r ≤ v_go F f w d r := by
  rw [v_go]; split
  · omega
  · split <;> omega
theorem v_go_nb {F : xF} {f : Nat → Nat → Nat} {w r z : Nat} : ∀ {D : Nat}, x_adj D F r z → v_go F f w D r ≤ f z w
  | 0, h => by
    rcases h with rfl | ⟨d, h1, _⟩
    · exact Nat.le_refl _
    · exact absurd h1 (Nat.not_lt_zero d)
  | D + 1, h => by
    rcases h with rfl | ⟨d, h1, h2⟩
    · exact v_go_le F f w z (D + 1)
    · by_cases e : d = D
      · subst e
        rw [v_go]
        rcases h2 with ⟨h2, h3⟩ | ⟨h2, h3⟩
        · rw [if_pos h2, h3]; omega
        · by_cases e1 : F 1 d = r
          · rw [if_pos e1, h2, ← h3, e1]; omega
          · rw [if_neg e1, if_pos h2, h3]; omega
      · exact Nat.le_trans (v_go_dn F f w r D) (v_go_nb (Or.inr ⟨d, by omega, h2⟩))
/-- the two tables, side by side -/
theorem v_bf {Z : xZ} {p s : Nat} (hR : z_R Z ≤ 6) (hd : ∀ d, d < z_D Z → ¬ z_F Z 1 d = z_F Z 2 d) : ∀ k r w c, c ≤ 98 → (a_bf (z_N Z) (z_D Z) (z_F Z) (a_won (z_N Z) (z_R Z) (z_F Z) (z_Q Z) p) k r c (s_dif s w) = true ↔ v_V Z p s k r w ≤ c)
  | 0, r, w, c, hc => by
    show decide (s_dif s w = 0) = true ↔ (if s_dif s w = 0 then 0 else 99) ≤ c
    by_cases e : s_dif s w = 0
    · rw [if_pos e, decide_eq_true e]; exact ⟨fun _ => Nat.zero_le _, fun _ => rfl⟩
    · rw [if_neg e, decide_eq_false e]; exact ⟨fun z => absurd z (by decide), fun z => by omega⟩
  | k + 1, r, w, c, hc => by
    have ih := v_bf (p := p) (s := s) hR hd k
    rw [v_V_s]
    by_cases e : c = 0
    · subst e
      have e0 : a_bf (z_N Z) (z_D Z) (z_F Z) (a_won (z_N Z) (z_R Z) (z_F Z) (z_Q Z) p) (k + 1) r 0 (s_dif s w) = decide (s_dif s w = 0) := rfl
      rw [e0]
      have key : ∀ r', v_V Z p s k r' w ≤ 0 ↔ s_dif s w = 0 := fun r' => by
        rw [← ih r' w 0 (by omega)]
        cases k with
        | zero => exact decide_eq_true_iff
        | succ k => exact decide_eq_true_iff
      rw [decide_eq_true_iff]
      obtain ⟨z, -, hz⟩ := v_go_ex (z_F Z) (v_V Z p s k) w r (z_D Z)
      rw [hz]
      have := key z
      omega
    · have e0 : a_bf (z_N Z) (z_D Z) (z_F Z) (a_won (z_N Z) (z_R Z) (z_F Z) (z_Q Z) p) (k + 1) r c (s_dif s w) = if c = 0 then decide (s_dif s w = 0) else a_go (z_F Z) (a_bf (z_N Z) (z_D Z) (z_F Z) (a_won (z_N Z) (z_R Z) (z_F Z) (z_Q Z) p) k) (z_D Z) r c (s_dif s w) || a_go (z_F Z) (a_bf (z_N Z) (z_D Z) (z_F Z) (a_won (z_N Z) (z_R Z) (z_F Z) (z_Q Z) p) k) (z_D Z) r (c - 1) (s_clr (a_won (z_N Z) (z_R Z) (z_F Z) (z_Q Z) p (z_N Z - 1 - k) r) 6 (s_dif s w)) := rfl
      rw [e0, if_neg e, Bool.or_eq_true, v_clr hR, a_go_v (fun r' => ih r' w c hc) r (z_D Z) hd, a_go_v (fun r' => ih r' (w ||| v_won Z p (z_N Z - 1 - k) r) (c - 1) (by omega)) r (z_D Z) hd]
      omega
/-- each saying of a plan with none too many wins a room at least -/
theorem v_pc {Z : xZ} {p s : Nat} (hR : z_R Z ≤ 6) (hd : ∀ d, d < z_D Z → ¬ z_F Z 1 d = z_F Z 2 d) : ∀ k r w, v_V Z p s k r w ≤ 98 → v_V Z p s k r w ≤ s_cnt 6 (fun i => (s_dif s w).testBit i)
  | 0, r, w, h => by
    rw [v_V_0] at h ⊢
    by_cases e : s_dif s w = 0
    · rw [if_pos e]; exact Nat.zero_le _
    · rw [if_neg e] at h; omega
  | k + 1, r, w, h => by
    have ih := v_pc (p := p) (s := s) hR hd k
    rw [v_V_s] at h ⊢
    obtain ⟨z, hz1, hz⟩ := v_go_ex (z_F Z) (v_V Z p s k) w r (z_D Z)
    obtain ⟨y, hy1, hy⟩ := v_go_ex (z_F Z) (v_V Z p s k) (w ||| v_won Z p (z_N Z - 1 - k) r) r (z_D Z)
    by_cases c : v_V Z p s k z w ≤ 98
    · have := ih z w c
      rw [hz]; omega
    · rw [hz, hy] at h ⊢
      have h1 : v_V Z p s k y (w ||| v_won Z p (z_N Z - 1 - k) r) ≤ 98 := by omega
      have h2 := ih y _ h1
      have h3 := s_cnt64 (s_dif s w) (s_dif_lt s w) (v_won Z p (z_N Z - 1 - k) r) (s_mask64 hR _)
      rw [s_dif_dif] at h3
      rcases h3 with h3 | h3
      · exfalso
        have h4 := (v_bf (p := p) (s := s) hR hd k y (w ||| v_won Z p (z_N Z - 1 - k) r) _ h1).mpr (Nat.le_refl _)
        rw [h3] at h4
        have h5 := (v_bf (p := p) (s := s) hR hd k y w _ h1).mp h4
        have h6 := v_go_nb (f := v_V Z p s k) (w := w) hy1
        omega
      · omega
/-! walks -/
def x_wk (D : Nat) (F : xF) : Nat → Nat → Nat → Prop
  | 0, x, y => x = y
  | j + 1, x, y => ∃ z, x_adj D F x z ∧ x_wk D F j z y
theorem x_wk.cat {D : Nat} {F : xF} : ∀ {i j x y z : Nat}, x_wk D F i x y → x_wk D F j y z → x_wk D F (i + j) x z
  | 0, j, x, y, z, h1, h2 => by have h1 : x = y := h1; subst h1; rw [Nat.zero_add]; exact h2
  | i + 1, j, x, y, z, h1, h2 => by
    obtain ⟨u, hu, h3⟩ := h1
    rw [show i + 1 + j = (i + j) + 1 by omega]
    exact ⟨u, hu, x_wk.cat h3 h2⟩
theorem x_wk.up {D : Nat} {F : xF} {j x y : Nat} (h : x_wk D F j x y) : ∀ m, x_wk D F (m + j) x y
  | 0 => by rw [Nat.zero_add]; exact h
  | m + 1 => by rw [show m + 1 + j = (m + j) + 1 by omega]; exact ⟨x, Or.inl rfl, x_wk.up h m⟩
theorem s_dr_wk {D : Nat} {F : xF} {x y : Nat} : ∀ j, j ≤ D → s_dr F (fun _ => 1) j x y < 99 → x_wk D F (s_dr F (fun _ => 1) j x y) x y
  | 0, _, h => by
    have h : s_i0 x y < 99 := h
    show x_wk D F (s_i0 x y) x y
    unfold s_i0 at h ⊢
    by_cases e : x = y
    · rw [if_pos e]; exact e
    · rw [if_neg e] at h; omega
  | j + 1, hj, h => by
    have ih := s_dr_wk (D := D) (F := F) (x := x) (y := y) j (by omega)
    have h : s_mn (F 1 j) (F 2 j) 1 (s_dr F (fun _ => 1) j) x y < 99 := h
    show x_wk D F (s_mn (F 1 j) (F 2 j) 1 (s_dr F (fun _ => 1) j) x y) x y
    unfold s_mn at h ⊢
    by_cases e : (x = F 1 j ∧ y = F 2 j) ∨ (x = F 2 j ∧ y = F 1 j)
    · rw [if_pos e]
      by_cases c : s_dr F (fun _ => 1) j x y ≤ 1
      · rw [show min 1 (s_dr F (fun _ => 1) j x y) = s_dr F (fun _ => 1) j x y by omega]
        exact ih (by omega)
      · rw [show min 1 (s_dr F (fun _ => 1) j x y) = 1 by omega]
        refine ⟨y, Or.inr ⟨j, by omega, ?_⟩, rfl⟩
        rcases e with ⟨e1, e2⟩ | ⟨e1, e2⟩
        · exact Or.inl ⟨e1.symm, e2.symm⟩
        · exact Or.inr ⟨e1.symm, e2.symm⟩
    · rw [if_neg e] at h ⊢; exact ih h
theorem s_fl_wk {D : Nat} {F : xF} : ∀ k x y, s_fl (s_dr F (fun _ => 1) D) k x y < 99 → x_wk D F (s_fl (s_dr F (fun _ => 1) D) k x y) x y
  | 0, x, y, h => s_dr_wk D (Nat.le_refl D) h
  | k + 1, x, y, h => by
    have h : min (s_fl (s_dr F (fun _ => 1) D) k x y) (s_fl (s_dr F (fun _ => 1) D) k x k + s_fl (s_dr F (fun _ => 1) D) k k y) < 99 := h
    show x_wk D F (min (s_fl (s_dr F (fun _ => 1) D) k x y) (s_fl (s_dr F (fun _ => 1) D) k x k + s_fl (s_dr F (fun _ => 1) D) k k y)) x y
    by_cases c : s_fl (s_dr F (fun _ => 1) D) k x y ≤ s_fl (s_dr F (fun _ => 1) D) k x k + s_fl (s_dr F (fun _ => 1) D) k k y
    · rw [Nat.min_eq_left c] at h ⊢; exact s_fl_wk k x y h
    · rw [Nat.min_eq_right (by omega)] at h ⊢; exact (s_fl_wk k x k (by omega)).cat (s_fl_wk k k y (by omega))
theorem s_fl_tri {R : Nat} {t : xT} (h : x_dist R t) : ∀ k, k ≤ R → ∀ j, j < k → ∀ x y, x < R → y < R → s_fl t k x y ≤ s_fl t k x j + s_fl t k j y
  | 0, _, j, hj, _, _, _, _ => absurd hj (Nat.not_lt_zero j)
  | k + 1, hk, j, hj, x, y, hx, hy => by
    have dk := h.fl k (by omega)
    have z0 := dk.2 k (by omega)
    show min (s_fl t k x y) (s_fl t k x k + s_fl t k k y) ≤ min (s_fl t k x j) (s_fl t k x k + s_fl t k k j) + min (s_fl t k j y) (s_fl t k j k + s_fl t k k y)
    by_cases e : j = k
    · subst e; omega
    · have ih := s_fl_tri h k (by omega) j (by omega)
      have a1 := ih x y hx hy
      have a2 := ih k y (by omega) hy
      have a3 := ih x k hx (by omega)
      omega
theorem s_fl_dn (t : xT) (x y : Nat) : ∀ k, s_fl t k x y ≤ t x y
  | 0 => Nat.le_refl _
  | k + 1 => by
    have := s_fl_dn t x y k
    show min (s_fl t k x y) _ ≤ _
    omega
theorem s_dr_1 {F : xF} {x y : Nat} : ∀ {D : Nat}, (∃ d, d < D ∧ ((F 1 d = x ∧ F 2 d = y) ∨ (F 2 d = x ∧ F 1 d = y))) → s_dr F (fun _ => 1) D x y ≤ 1
  | 0, ⟨d, h, _⟩ => absurd h (Nat.not_lt_zero d)
  | D + 1, ⟨d, h1, h2⟩ => by
    show s_mn (F 1 D) (F 2 D) 1 (s_dr F (fun _ => 1) D) x y ≤ 1
    unfold s_mn
    by_cases e : d = D
    · subst e
      rw [if_pos (h2.imp (fun z => ⟨z.1.symm, z.2.symm⟩) (fun z => ⟨z.1.symm, z.2.symm⟩))]; omega
    · have := s_dr_1 (F := F) (x := x) (y := y) (D := D) ⟨d, by omega, h2⟩
      split <;> omega
/-- ways of a manor -/
theorem x_WT.way {W : xW} (h : x_WT W) {x : Nat} (hx : x < W.2.1) : W.2.2.2.2 (20 + x) x = 0 ∧ (∀ y, y < W.2.1 → W.2.2.2.2 (20 + x) y < 99 → x_wk W.2.2.1 W.2.2.2.2 (W.2.2.2.2 (20 + x) y) x y) ∧ ∀ y z, y < W.2.1 → z < W.2.1 → x_adj W.2.2.1 W.2.2.2.2 y z → W.2.2.2.2 (20 + x) z ≤ W.2.2.2.2 (20 + x) y + 1 := by
  have hd : x_dist W.2.1 (s_dr W.2.2.2.2 (fun _ => 1) W.2.2.1) := s_dr_dist (fun d hd => (h.1.2.1 d hd).2.2.1)
  have e : ∀ y, y < W.2.1 → W.2.2.2.2 (20 + x) y = s_fl (s_dr W.2.2.2.2 (fun _ => 1) W.2.2.1) W.2.1 x y := fun y hy => (h.2 x y hx hy).2
  refine ⟨?_, fun y hy hl => ?_, fun y z hy hz ha => ?_⟩
  · rw [e x hx]; exact (hd.fl _ (Nat.le_refl _)).2 x hx
  · rw [e y hy] at hl ⊢; exact s_fl_wk _ _ _ hl
  · rw [e y hy, e z hz]
    rcases ha with rfl | ha
    · omega
    · have h1 := s_fl_tri hd W.2.1 (Nat.le_refl _) y hy x z hx hz
      have h2 := s_fl_dn (s_dr W.2.2.2.2 (fun _ => 1) W.2.2.1) y z W.2.1
      have h3 := s_dr_1 ha
      omega
theorem v_wk {Z : xZ} {p s k w c : Nat} : ∀ {j x y : Nat}, x_wk (z_D Z) (z_F Z) j x y → v_V Z p s k y w ≤ c → v_V Z p s (k + j) x w ≤ c
  | 0, x, y, h, hc => by have h : x = y := h; subst h; exact hc
  | j + 1, x, y, h, hc => by
    obtain ⟨z, h1, h2⟩ := h
    have ih := v_wk (p := p) (s := s) (w := w) h2 hc
    have h3 := v_go_nb (f := v_V Z p s (k + j)) (w := w) h1
    rw [show k + (j + 1) = (k + j) + 1 by omega, v_V_s]
    omega
theorem v_m0 {Z : xZ} {p s : Nat} (hR : z_R Z ≤ 6) (hs : s < 2 ^ z_R Z) : s_mask (z_R Z) (s_miss (z_F Z) (z_Q Z) p (fun i => s.testBit i)) = s_dif s (v_w0 Z p) := by
  apply Nat.eq_of_testBit_eq
  intro i
  unfold s_dif v_w0
  rw [s_mask_bit, s_mask_bit, s_mask_bit]
  by_cases e : i < z_R Z
  · rw [decide_eq_true e, decide_eq_true (show i < 6 by omega)]
    unfold s_miss s_mine
    by_cases e2 : s_will (z_Q Z) i 0 = nI (s_name (z_F Z) p 0)
    · rw [decide_eq_true e2, decide_eq_false (fun z => z e2)]; rfl
    · rw [decide_eq_false e2, decide_eq_true e2]; rfl
  · rw [decide_eq_false e, Nat.testBit_lt_two_pow (Nat.lt_of_lt_of_le hs (Nat.pow_le_pow_right (by omega) (by omega)))]
    cases decide (i < 6) <;> rfl
theorem x_few_eq {Z : xZ} {k : Nat} (hZ : x_ZB k Z) {p x w r r' : Int32} (h1 : x_fewR Z p x w r) (h2 : x_fewM Z p x w r') : r = r' := by
  unfold x_fewR at h1
  unfold x_fewM at h2
  by_cases c1 : (x_has p (z_P Z) && x_hasS x (z_R Z)) = true
  · rw [if_pos c1] at h1 h2
    by_cases c2 : x_has w 2 = true
    · rw [if_pos c2] at h1 h2
      have hB : x_HB (z_N Z) (z_R Z) (z_D Z) (z_P Z) (z_F Z) := hZ.1.hb
      have hQ : x_QB (z_N Z) (z_R Z) (z_P Z) (z_Q Z) := hZ.2.1.1
      obtain ⟨⟨b1, b2, b3, b4⟩, b5, b6, b7⟩ := id hB
      obtain ⟨u1, u2, u3, u4, u5, u6, u7, u8, u9⟩ := id hQ
      rw [Bool.and_eq_true] at c1
      obtain ⟨p1, hp, hpp⟩ := x_has_t (by omega) c1.1
      obtain ⟨s, hs, hxs, -⟩ := x_hasS_in b2 c1.2
      subst hxs hpp
      have hs64 : s < 64 := Nat.lt_of_lt_of_le hs (by have := Nat.pow_le_pow_right (show 0 < 2 by omega) b2; exact this)
      rw [i_n_nI (by omega), i_n_nI (by omega)] at h1 h2
      have hN : q_hr (z_Q Z) < z_N Z := by
        rcases u2 with z | z
        · exact z
        · have := (hZ.1.1.2.2.2.2 z).2.2; have hp : p1 < Z.1.2.2.2.1 := hp; omega
      have pl := u6 p1 hp
      have hd : ∀ d, d < z_D Z → ¬ z_F Z 1 d = z_F Z 2 d := fun d h => (hZ.1.1.2.1 d h).2.2.1
      have hdR : ∀ d, d < z_D Z → z_F Z 1 d < z_R Z ∧ z_F Z 2 d < z_R Z := fun d h => ⟨(b5 d h).1, (b5 d h).2.1⟩
      obtain ⟨y1, y2, y3⟩ := x_WT.way hZ.1 pl
      have y1 : z_F Z (20 + q_pl (z_Q Z) p1) (q_pl (z_Q Z) p1) = 0 := y1
      have y2 : ∀ y, y < z_R Z → z_F Z (20 + q_pl (z_Q Z) p1) y < 99 → x_wk (z_D Z) (z_F Z) (z_F Z (20 + q_pl (z_Q Z) p1) y) (q_pl (z_Q Z) p1) y := y2
      have y3 : ∀ y z, y < z_R Z → z < z_R Z → x_adj (z_D Z) (z_F Z) y z → z_F Z (20 + q_pl (z_Q Z) p1) z ≤ z_F Z (20 + q_pl (z_Q Z) p1) y + 1 := y3
      obtain ⟨fw, lt, h1, hr⟩ := h1
      unfold x_fewP at h1
      rw [v_m0 b2 hs] at h1
      have bf : ∀ k r c, c ≤ 98 → (a_bf (z_N Z) (z_D Z) (z_F Z) (a_won (z_N Z) (z_R Z) (z_F Z) (z_Q Z) p1) k r c (s_dif s (v_w0 Z p1)) = true ↔ v_V Z p1 s k r (v_w0 Z p1) ≤ c) := fun k r c => v_bf b2 hd k r _ c
      have pc := fun k r => v_pc (p := p1) (s := s) b2 hd k r (v_w0 Z p1)
      have c6 := s_cnt_le (fun i => (s_dif s (v_w0 Z p1)).testBit i) 6
      have z0 : ∀ k r, v_V Z p1 s k r (v_w0 Z p1) ≤ 0 ↔ s_dif s (v_w0 Z p1) = 0 := fun k r => by
        rw [← bf k r 0 (by omega)]
        cases k with
        | zero => exact decide_eq_true_iff
        | succ k => exact decide_eq_true_iff
      unfold x_fewN at h2
      by_cases c3 : s_dif s (v_w0 Z p1) = 0
      · rw [if_pos c3] at h1
        have c0 := (z0 (z_N Z - q_hr (z_Q Z)) (q_pl (z_Q Z) p1)).mpr c3
        rw [if_neg (by omega)] at h2
        by_cases cw : w = nI 0
        · rw [if_pos cw] at h2 hr
          rw [hr, h1.1, h2, Nat.le_zero.mp c0]
        · rw [if_neg cw] at h2 hr
          rw [if_pos (by omega)] at h2
          rw [hr, h1.2, h2]
      · rw [if_neg c3] at h1
        have c0 : ¬ v_V Z p1 s (z_N Z - q_hr (z_Q Z)) (q_pl (z_Q Z) p1) (v_w0 Z p1) ≤ 0 := fun z => c3 ((z0 _ _).mp z)
        have okq : v_V Z p1 s (z_N Z - q_hr (z_Q Z)) (q_pl (z_Q Z) p1) (v_w0 Z p1) ≤ 98 → x_okp (z_N Z) (z_R Z) (z_D Z) (z_F Z) (z_Q Z) p1 (s_dif s (v_w0 Z p1)) (s_cnt 6 (fun i => (s_dif s (v_w0 Z p1)).testBit i)) (q_hr (z_Q Z)) (q_pl (z_Q Z) p1) (v_V Z p1 s (z_N Z - q_hr (z_Q Z)) (q_pl (z_Q Z) p1) (v_w0 Z p1)) := fun z =>
          ⟨Nat.le_refl _, hN, pl, by rw [y1]; exact Nat.zero_le _, by omega, pc _ _ z, (bf _ _ _ z).mpr (Nat.le_refl _)⟩
        rcases h1 with ⟨f1, f2, f3⟩ | ⟨c, hr0, r0, g1, g2, g3, g4, g5, g6, g7⟩
        · have big : ¬ v_V Z p1 s (z_N Z - q_hr (z_Q Z)) (q_pl (z_Q Z) p1) (v_w0 Z p1) ≤ 98 := fun z => f3 _ _ _ ⟨Nat.le_refl _, hN, pl⟩ (okq z)
          rw [if_pos (by omega)] at h2
          rw [h2, hr, f1, f2]
          split <;> rfl
        · obtain ⟨o1, o2, o3, o4, o5, o6, o7⟩ := g3
          have v1 := (bf _ _ _ (by omega)).mp o7
          have wk := (y2 r0 o3 (by omega)).up (hr0 - q_hr (z_Q Z) - z_F Z (20 + q_pl (z_Q Z) p1) r0)
          have v2 := v_wk (p := p1) (s := s) wk v1
          rw [show z_N Z - hr0 + (hr0 - q_hr (z_Q Z) - z_F Z (20 + q_pl (z_Q Z) p1) r0 + z_F Z (20 + q_pl (z_Q Z) p1) r0) = z_N Z - q_hr (z_Q Z) by omega] at v2
          have v3 := g6 _ _ _ ⟨Nat.le_refl _, hN, pl⟩ (okq (by omega))
          have ec : v_V Z p1 s (z_N Z - q_hr (z_Q Z)) (q_pl (z_Q Z) p1) (v_w0 Z p1) = c := by omega
          rw [ec, if_neg (by omega)] at h2
          by_cases cw : w = nI 0
          · rw [if_pos cw] at h2 hr
            rw [hr, g4, h2]
          · rw [if_neg cw] at h2 hr
            rw [if_neg (by omega)] at h2
            rw [hr, g5]
            have okc : ∀ u y, q_hr (z_Q Z) ≤ u → u < z_N Z → y < z_R Z → z_F Z (20 + q_pl (z_Q Z) p1) y ≤ u - q_hr (z_Q Z) → v_V Z p1 s (z_N Z - u) y (v_w0 Z p1) ≤ c → c = v_V Z p1 s (z_N Z - u) y (v_w0 Z p1) ∧ u ≤ hr0 := fun u y a1 a2 a3 a4 a5 => by
              have a6 : ¬ v_V Z p1 s (z_N Z - u) y (v_w0 Z p1) ≤ 0 := fun z => c3 ((z0 _ _).mp z)
              have a7 := g6 u y _ ⟨a1, a2, a3⟩ ⟨a1, a2, a3, a4, by omega, pc _ _ (by omega), (bf _ _ _ (by omega)).mpr (Nat.le_refl _)⟩
              refine ⟨by omega, g7 u y ⟨a1, a2, a3⟩ ⟨a1, a2, a3, a4, o5, o6, (bf _ _ _ (by omega)).mpr a5⟩⟩
            have good0 : v_good Z p1 s (v_w0 Z p1) c hr0 r0 := by
              refine ⟨o4, ?_⟩
              have e1 := (okc hr0 r0 o1 o2 o3 o4 v1).1
              rw [v_V_u o2] at e1
              apply Classical.byContradiction
              intro hne
              obtain ⟨z, hz1, hz⟩ := v_go_ex (z_F Z) (v_V Z p1 s (z_N Z - (hr0 + 1))) (v_w0 Z p1) r0 (z_D Z)
              have e2 : v_V Z p1 s (z_N Z - (hr0 + 1)) z (v_w0 Z p1) = c := by omega
              have hzR : z < z_R Z := by
                rcases hz1 with rfl | ⟨d, d1, ⟨_, rfl⟩ | ⟨_, rfl⟩⟩
                · exact o3
                · exact (hdR d d1).2
                · exact (hdR d d1).1
              by_cases last : hr0 + 1 = z_N Z
              · rw [show z_N Z - (hr0 + 1) = 0 by omega, v_V_0, if_neg c3] at e2
                omega
              · have w1 := y3 r0 z o3 hzR hz1
                have := (okc (hr0 + 1) z (by omega) (by omega) hzR (by omega) (by omega)).2
                omega
            rcases h2 with ⟨_, l2⟩ | ⟨u, y, l1, l2, l3, l4⟩
            · exact absurd good0 (l2 hr0 r0 ⟨o1, o2, o3⟩)
            · have l5 := l4 hr0 r0 ⟨o1, o2, o3⟩ good0
              have l6 := (okc u y l1.1 l1.2.1 l1.2.2 l2.1 (by rw [v_V_u l1.2.1]; have := l2.2; omega)).2
              rw [l3, show hr0 = u by omega]
    · rw [if_neg c2] at h1 h2
      rw [h1, h2]
  · rw [if_neg c1] at h1 h2
    rw [h1, h2]
