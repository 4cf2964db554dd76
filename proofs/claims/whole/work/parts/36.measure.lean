/-! MEASURE -/
def s_tabs (F : xF) (T1 T2 : xT) : xF := fun k => if 10 ≤ k ∧ k < 16 then T1 (k - 10) else if 20 ≤ k ∧ k < 26 then T2 (k - 20) else F k
theorem s_tabs_id (F : xF) : s_tabs F (fun a => F (10 + a)) (fun a => F (20 + a)) = F := by
  funext k
  unfold s_tabs
  split
  · show F (10 + (k - 10)) = F k; rw [show 10 + (k - 10) = k by omega]
  · split
    · show F (20 + (k - 20)) = F k; rw [show 20 + (k - 20) = k by omega]
    · rfl
theorem s_tabs_w (F : xF) (T1 T2 : xT) {a : Nat} (ha : a < 6) : s_tabs F T1 T2 (10 + a) = T1 a := by unfold s_tabs; rw [if_pos (by omega), show 10 + a - 10 = a by omega]
theorem s_tabs_v (F : xF) (T1 T2 : xT) {a : Nat} (ha : a < 6) : s_tabs F T1 T2 (20 + a) = T2 a := by unfold s_tabs; rw [if_neg (by omega), if_pos (by omega), show 20 + a - 20 = a by omega]
theorem x_House.w1 {h : xH} {b N R D P : Nat} {F : xF} {T1 T2 : xT} (H : x_House h b N R D P (s_tabs F T1 T2)) : x_Tab h (b + 8) T1 := by
  obtain ⟨h2, g0, g1, g2, g3, g4, g5, g6, g7, g8, g9, g10, g11⟩ := H
  exact ⟨by omega, g8, fun a ha => by rw [g9 a ha, s_tabs_w _ _ _ ha]⟩
theorem x_House.w2 {h : xH} {b N R D P : Nat} {F : xF} {T1 T2 : xT} (H : x_House h b N R D P (s_tabs F T1 T2)) : x_Tab h (b + 15) T2 := by
  obtain ⟨h2, g0, g1, g2, g3, g4, g5, g6, g7, g8, g9, g10, g11⟩ := H
  exact ⟨by omega, g10, fun a ha => by rw [g11 a ha, s_tabs_v _ _ _ ha]⟩
theorem x_House.t1 {h h' : xH} {b N R D P : Nat} {F : xF} {T1 T2 T : xT} (H : x_House h b N R D P (s_tabs F T1 T2)) (HT : x_Tab h' (b + 8) T) (f : x_fr h h' (b + 8 + 1) 6) : x_House h' b N R D P (s_tabs F T T2) := by
  obtain ⟨h2, g0, g1, g2, g3, g4, g5, g6, g7, g8, g9, g10, g11⟩ := H
  exact ⟨h2, (f _ (by omega)).trans g0, (f _ (by omega)).trans g1, (f _ (by omega)).trans g2, (f _ (by omega)).trans g3, (f _ (by omega)).trans g4, (f _ (by omega)).trans g5, (f _ (by omega)).trans g6, (f _ (by omega)).trans g7, HT.2.1, fun a ha => by rw [HT.2.2 a ha, s_tabs_w _ _ _ ha], (f _ (by omega)).trans g10, fun a ha => by rw [f _ (by omega), g11 a ha, s_tabs_v _ _ _ ha, s_tabs_v _ _ _ ha]⟩
theorem x_House.t2 {h h' : xH} {b N R D P : Nat} {F : xF} {T1 T2 T : xT} (H : x_House h b N R D P (s_tabs F T1 T2)) (HT : x_Tab h' (b + 15) T) (f : x_fr h h' (b + 15 + 1) 6) : x_House h' b N R D P (s_tabs F T1 T) := by
  obtain ⟨h2, g0, g1, g2, g3, g4, g5, g6, g7, g8, g9, g10, g11⟩ := H
  exact ⟨h2, (f _ (by omega)).trans g0, (f _ (by omega)).trans g1, (f _ (by omega)).trans g2, (f _ (by omega)).trans g3, (f _ (by omega)).trans g4, (f _ (by omega)).trans g5, (f _ (by omega)).trans g6, (f _ (by omega)).trans g7, (f _ (by omega)).trans g8, fun a ha => by rw [f _ (by omega), g9 a ha, s_tabs_w _ _ _ ha, s_tabs_w _ _ _ ha], HT.2.1, fun a ha => by rw [HT.2.2 a ha, s_tabs_v _ _ _ ha]⟩
theorem x_House.c1 {h : xH} {b N R D P a : Nat} {F : xF} {T1 T2 : xT} (H : x_House h b N R D P (s_tabs F T1 T2)) (ha : a < 6) (g : Nat → Nat) : x_House (h.set (b + 8 + 1 + a) (x_na 6 g)) b N R D P (s_tabs F (fun z => if z = a then g else T1 z) T2) := H.t1 (H.w1.set ha g) ((x_fr.rf h (b + 8 + 1) 6).set _ (by omega) (by omega))
theorem x_House.c2 {h : xH} {b N R D P a : Nat} {F : xF} {T1 T2 : xT} (H : x_House h b N R D P (s_tabs F T1 T2)) (ha : a < 6) (g : Nat → Nat) : x_House (h.set (b + 15 + 1 + a) (x_na 6 g)) b N R D P (s_tabs F T1 (fun z => if z = a then g else T2 z)) := H.t2 (H.w2.set ha g) ((x_fr.rf h (b + 15 + 1) 6).set _ (by omega) (by omega))
def s_i0 : xT := fun x y => if x = y then 0 else 99
def s_mn (a b l : Nat) (t : xT) : xT := fun x y => if (x = a ∧ y = b) ∨ (x = b ∧ y = a) then min l (t x y) else t x y
/-- doors alone -/
def s_dr (F : xF) (len : Nat → Nat) : Nat → xT
  | 0 => s_i0
  | j + 1 => s_mn (F 1 j) (F 2 j) (len j) (s_dr F len j)
theorem s_dr_dist {F : xF} {len : Nat → Nat} {R : Nat} : ∀ {j : Nat}, (∀ d, d < j → ¬ F 1 d = F 2 d) → x_dist R (s_dr F len j)
  | 0, _ => ⟨fun x y _ _ => by
      show s_i0 x y = s_i0 y x ∧ s_i0 x y ≤ 99
      unfold s_i0
      by_cases e : x = y
      · subst e; simp
      · rw [if_neg e, if_neg (fun z => e z.symm)]; omega, fun x _ => if_pos rfl⟩
  | j + 1, h => by
    have ih : x_dist R (s_dr F len j) := s_dr_dist (fun d hd => h d (by omega))
    have hn := h j (by omega)
    refine ⟨fun x y hx hy => ?_, fun x hx => ?_⟩
    · have h1 := ih.1 x y hx hy
      show s_mn _ _ _ _ x y = s_mn _ _ _ _ y x ∧ s_mn _ _ _ _ x y ≤ 99
      unfold s_mn
      by_cases c : (x = F 1 j ∧ y = F 2 j) ∨ (x = F 2 j ∧ y = F 1 j)
      · rw [if_pos c, if_pos (by omega), ← h1.1]; omega
      · rw [if_neg c, if_neg (by omega)]; exact h1
    · show s_mn _ _ _ _ x x = 0
      unfold s_mn
      rw [if_neg (by omega)]
      exact ih.2 x hx
theorem s_short_mn {R : Nat} {t T : xT} (hT : ∀ x y, x < R → y < R → T x y = t x y) (h : x_dist R t) {a b l : Nat} (ha : a < R) (hb : b < R) : ∀ x y, x < R → y < R → s_short T a b l x y = s_mn a b l t x y := by
  intro x y hx hy
  unfold s_short s_mn
  have h1 := hT a b ha hb
  have h2 := hT x y hx hy
  have h3 := (h.1 a b ha hb).1
  by_cases c : (x = a ∧ y = b) ∨ (x = b ∧ y = a)
  · rw [if_pos c]
    have e : t x y = t a b := by
      rcases c with ⟨rfl, rfl⟩ | ⟨rfl, rfl⟩
      · rfl
      · exact h3.symm
    by_cases c2 : l < T a b
    · rw [if_pos ⟨c2, c⟩]; omega
    · rw [if_neg (fun z => c2 z.1)]; omega
  · rw [if_neg c, if_neg (fun z => c z.2)]; exact h2
def s_wall (R D : Nat) (F : xF) : xT := s_fl (s_dr F (F 3) D) R
def s_way (R D : Nat) (F : xF) : xT := s_fl (s_dr F (fun _ => 1) D) R
def x_inp (R : Nat) (T : xT) (a b : Nat) : Prop := ∀ x y, x < R → y < R → x < a ∨ (x = a ∧ y < b) → T x y = s_i0 x y
theorem x_inp.put {R : Nat} {T : xT} {a b v : Nat} (h : x_inp R T a b) (hv : v = s_i0 a b) : x_inp R (fun z => if z = a then s_snoc b (T a) v else T z) a (b + 1) := by
  intro x y hx hy c
  show (if x = a then s_snoc b (T a) v else T x) y = _
  by_cases e : x = a
  · subst e
    rw [if_pos rfl]
    unfold s_snoc
    by_cases e2 : y = b
    · subst e2; rw [if_pos rfl]; exact hv
    · rw [if_neg e2]; exact h x y hx hy (by omega)
  · rw [if_neg e]; exact h x y hx hy (by omega)
theorem c_House_measure_d {h : xH} {b N R D P : Nat} {F : xF} (hR : R ≤ 6) (hD : D ≤ 8) (hd : ∀ d, d < D → F 1 d < R ∧ F 2 d < R ∧ ¬ F 1 d = F 2 d ∧ F 3 d ≤ 9) : ∀ (n d : Nat), d ≤ D → D + 1 ≤ d + n → ∀ (T1 T2 : xT) {vb : Option Value} {g : xH}, x_House g b N R D P (s_tabs F T1 T2) → (∀ x y, x < R → y < R → T1 x y = s_dr F (F 3) d x y) → (∀ x y, x < R → y < R → T2 x y = s_dr F (fun _ => 1) d x y) → x_fr h g b 22 → x_Rn m_X1_measure 72 [some (.ref b), some (.int (nI d)), vb] [] g (0, 0) (x_vd (fun h' => ∃ F', x_House h' b N R D P F' ∧ (∀ k, k < 10 → F' k = F k) ∧ (∀ x y, x < R → y < R → F' (10 + x) y = s_wall R D F x y ∧ F' (20 + x) y = s_way R D F x y) ∧ x_fr h h' b 22)) := by
  intro n
  induction n with
  | zero => intro d h1 h3; omega
  | succ n ih =>
    intro d h1 h3 T1 T2 vb g H hw1 hw2 FR
    have ddw1 : x_dist R (s_dr F (F 3) d) := s_dr_dist (fun e he => (hd e (by omega)).2.2.1)
    have ddw2 : x_dist R (s_dr F (fun _ => 1) d) := s_dr_dist (fun e he => (hd e (by omega)).2.2.1)
    obtain ⟨h2, g0, g1, g2, g3, g4, -⟩ := id H
    obtain ⟨-, w1, w2⟩ := H.w1
    obtain ⟨-, v1, v2⟩ := H.w2
    have g2 : g[b + 2]? = some (x_na 8 (F 1)) := g2
    have g3 : g[b + 3]? = some (x_na 8 (F 2)) := g3
    have g4 : g[b + 4]? = some (x_na 8 (F 3)) := g4
    refine R_iload_n dX1_measure_72 rfl ?_
    refine R_aload_n dX1_measure_73 rfl ?_
    refine R_get dX1_measure_74 f_X1_18 g0 rfl ?_
    refine R_geN 133 dX1_measure_77 rfl (by omega) (by omega) (fun c_77 => ?_) (fun c_77 => ?_)
    · have ed : d = D := by omega
      subst ed
      refine R_aload_n dX1_measure_133 rfl ?_
      refine R_aload_n dX1_measure_134 rfl ?_
      refine R_get dX1_measure_135 f_X1_48 g0 rfl ?_
      refine R_cV1v (N := m_X1_shortenByRoomsBetween) dX1_measure_138 l_X1_62 i_X1_shortenByRoomsBetween g0 (c_House_by (by omega) hR (s_dr_dist (len := F 3) (fun d hdd => (hd d hdd).2.2.1)) hw1 H.w1 g0) rfl rfl (fun h138 q_138 => ?_)
      obtain ⟨⟨T138, HT, hw1⟩, FR1⟩ := q_138
      have H := H.t1 HT FR1
      have FR := FR.trans (FR1.wide (by omega) (by omega))
      obtain ⟨h2, g0, g1, g2, g3, g4, -⟩ := id H
      obtain ⟨-, w1, w2⟩ := H.w1
      obtain ⟨-, v1, v2⟩ := H.w2
      refine R_aload_n dX1_measure_141 rfl ?_
      refine R_aload_n dX1_measure_142 rfl ?_
      refine R_get dX1_measure_143 f_X1_51 g0 rfl ?_
      refine R_cV1v (N := m_X1_shortenByRoomsBetween) dX1_measure_146 l_X1_62 i_X1_shortenByRoomsBetween g0 (c_House_by (by omega) hR (s_dr_dist (len := fun _ => 1) (fun d hdd => (hd d hdd).2.2.1)) hw2 H.w2 g0) rfl rfl (fun h146 q_146 => ?_)
      obtain ⟨⟨T146, HT, hw2⟩, FR1⟩ := q_146
      have H := H.t2 HT FR1
      have FR := FR.trans (FR1.wide (by omega) (by omega))
      obtain ⟨h2, g0, g1, g2, g3, g4, -⟩ := id H
      obtain ⟨-, w1, w2⟩ := H.w1
      obtain ⟨-, v1, v2⟩ := H.w2
      exact R_vret dX1_measure_149 rfl rfl rfl ⟨rfl, _, H, fun k hk => (if_neg (by omega)).trans (if_neg (by omega)), fun x y hx hy => ⟨by rw [s_tabs_w _ _ _ (by omega)]; exact hw1 x y hx hy, by rw [s_tabs_v _ _ _ (by omega)]; exact hw2 x y hx hy⟩, FR⟩
    · have wd := hd d (by omega)
      refine R_aload_n dX1_measure_80 rfl ?_
      refine R_aload_n dX1_measure_81 rfl ?_
      refine R_get dX1_measure_82 f_X1_48 g0 rfl ?_
      refine R_aload_n dX1_measure_85 rfl ?_
      refine R_get dX1_measure_86 f_X1_28 g0 rfl ?_
      refine R_iload_n dX1_measure_89 rfl ?_
      refine R_iald dX1_measure_90 g2 rfl (by omega) (by decide) ?_
      refine R_aload_n dX1_measure_91 rfl ?_
      refine R_get dX1_measure_92 f_X1_31 g0 rfl ?_
      refine R_iload_n dX1_measure_95 rfl ?_
      refine R_iald dX1_measure_96 g3 rfl (by omega) (by decide) ?_
      refine R_aload_n dX1_measure_97 rfl ?_
      refine R_get dX1_measure_98 f_X1_34 g0 rfl ?_
      refine R_iload_n dX1_measure_101 rfl ?_
      refine R_iald dX1_measure_102 g4 rfl (by omega) (by decide) ?_
      refine R_cV4v (N := m_X1_shorten) dX1_measure_103 l_X1_58 i_X1_shorten g0 (c_House_shorten H.w1 (by omega) (by omega) (by rw [hw1 _ _ (by omega) (by omega)]; have := (ddw1.1 (F 1 d) (F 2 d) (by omega) (by omega)).2; omega) (by omega)) rfl rfl (fun h103 q_103 => ?_)
      obtain ⟨HT, FR1⟩ := q_103
      have H := H.t1 HT FR1
      have hw1 := s_short_mn (l := F 3 d) hw1 ddw1 (a := F 1 d) (b := F 2 d) (by omega) (by omega)
      have FR := FR.trans (FR1.wide (by omega) (by omega))
      obtain ⟨h2, g0, g1, g2, g3, g4, -⟩ := id H
      obtain ⟨-, w1, w2⟩ := H.w1
      obtain ⟨-, v1, v2⟩ := H.w2
      have g2 : h103[b + 2]? = some (x_na 8 (F 1)) := g2
      have g3 : h103[b + 3]? = some (x_na 8 (F 2)) := g3
      have g4 : h103[b + 4]? = some (x_na 8 (F 3)) := g4
      refine R_aload_n dX1_measure_106 rfl ?_
      refine R_aload_n dX1_measure_107 rfl ?_
      refine R_get dX1_measure_108 f_X1_51 g0 rfl ?_
      refine R_aload_n dX1_measure_111 rfl ?_
      refine R_get dX1_measure_112 f_X1_28 g0 rfl ?_
      refine R_iload_n dX1_measure_115 rfl ?_
      refine R_iald dX1_measure_116 g2 rfl (by omega) (by decide) ?_
      refine R_aload_n dX1_measure_117 rfl ?_
      refine R_get dX1_measure_118 f_X1_31 g0 rfl ?_
      refine R_iload_n dX1_measure_121 rfl ?_
      refine R_iald dX1_measure_122 g3 rfl (by omega) (by decide) ?_
      refine R_iconst (nI 1) dX1_measure_123 rfl ?_
      refine R_cV4v (N := m_X1_shorten) dX1_measure_124 l_X1_58 i_X1_shorten g0 (c_House_shorten H.w2 (by omega) (by omega) (by rw [hw2 _ _ (by omega) (by omega)]; have := (ddw2.1 (F 1 d) (F 2 d) (by omega) (by omega)).2; omega) (by omega)) rfl rfl (fun h124 q_124 => ?_)
      obtain ⟨HT, FR1⟩ := q_124
      have H := H.t2 HT FR1
      have hw2 := s_short_mn (l := 1) hw2 ddw2 (a := F 1 d) (b := F 2 d) (by omega) (by omega)
      have FR := FR.trans (FR1.wide (by omega) (by omega))
      obtain ⟨h2, g0, g1, g2, g3, g4, -⟩ := id H
      obtain ⟨-, w1, w2⟩ := H.w1
      obtain ⟨-, v1, v2⟩ := H.w2
      have g2 : h124[b + 2]? = some (x_na 8 (F 1)) := g2
      have g3 : h124[b + 3]? = some (x_na 8 (F 2)) := g3
      have g4 : h124[b + 4]? = some (x_na 8 (F 3)) := g4
      refine R_iincN dX1_measure_127 rfl (Nat.le_of_ble_eq_true rfl) rfl ?_
      refine R_goto 72 dX1_measure_130 rfl ?_
      exact ih (d + 1) (by omega) (by omega) _ _ H hw1 hw2 FR
theorem c_House_measure_c {h : xH} {b N R D P : Nat} {F : xF} (hR : R ≤ 6) (hD : D ≤ 8) (hd : ∀ d, d < D → F 1 d < R ∧ F 2 d < R ∧ ¬ F 1 d = F 2 d ∧ F 3 d ≤ 9) {a : Nat} (ha : a < R) (kk : ∀ (g : xH) (T1 T2 : xT), x_House g b N R D P (s_tabs F T1 T2) → x_inp R T1 a R → x_inp R T2 a R → x_fr h g b 22 → x_Rn m_X1_measure 64 [some (.ref b), some (.int (nI a)), some (.int (nI R))] [] g (0, 0) (x_vd (fun h' => ∃ F', x_House h' b N R D P F' ∧ (∀ k, k < 10 → F' k = F k) ∧ (∀ x y, x < R → y < R → F' (10 + x) y = s_wall R D F x y ∧ F' (20 + x) y = s_way R D F x y) ∧ x_fr h h' b 22))) : ∀ (n c : Nat), c ≤ R → R + 1 ≤ c + n → ∀ (T1 T2 : xT) {g : xH}, x_House g b N R D P (s_tabs F T1 T2) → x_inp R T1 a c → x_inp R T2 a c → x_fr h g b 22 → x_Rn m_X1_measure 12 [some (.ref b), some (.int (nI a)), some (.int (nI c))] [] g (0, 0) (x_vd (fun h' => ∃ F', x_House h' b N R D P F' ∧ (∀ k, k < 10 → F' k = F k) ∧ (∀ x y, x < R → y < R → F' (10 + x) y = s_wall R D F x y ∧ F' (20 + x) y = s_way R D F x y) ∧ x_fr h h' b 22)) := by
  intro n
  induction n with
  | zero => intro c h1 h3; omega
  | succ n ih =>
    intro c h1 h3 T1 T2 g H iw1 iw2 FR
    obtain ⟨h2, g0, g1, g2, g3, g4, -⟩ := id H
    obtain ⟨-, w1, w2⟩ := H.w1
    obtain ⟨-, v1, v2⟩ := H.w2
    refine R_iload_n dX1_measure_12 rfl ?_
    refine R_aload_n dX1_measure_13 rfl ?_
    refine R_get dX1_measure_14 f_X1_15 g0 rfl ?_
    refine R_geN 64 dX1_measure_17 rfl (by omega) (by omega) (fun c_17 => ?_) (fun c_17 => ?_)
    · have ec : c = R := by omega
      subst ec
      exact kk _ T1 T2 H iw1 iw2 FR
    · refine R_aload_n dX1_measure_20 rfl ?_
      refine R_get dX1_measure_21 f_X1_48 g0 rfl ?_
      refine R_iload_n dX1_measure_24 rfl ?_
      refine R_aald dX1_measure_25 w1 (by omega) (fun _ => rfl) rfl rfl (by omega) (by decide) (if_pos (by omega)) ?_
      refine R_iload_n dX1_measure_26 rfl ?_
      refine R_iload_n dX1_measure_27 rfl ?_
      refine R_iload_n dX1_measure_28 rfl ?_
      refine R_neN 36 dX1_measure_29 rfl (by omega) (by omega) (fun c_29 => ?_) (fun c_29 => ?_)
      · have ez : 99 = s_i0 a c := (if_neg c_29).symm
        refine R_bipush (nI 99) dX1_measure_36 rfl ?_
        refine R_iast dX1_measure_38 (w2 _ (by omega)) (by omega) rfl (by omega) (by decide) ?_
        rw [x_updN]
        have FR := FR.set (a := b + 8 + 1 + a) (x_na 6 (s_snoc c (T1 a) 99)) (by omega) (by omega)
        have H := H.c1 (a := a) (by omega) (s_snoc c (T1 a) 99)
        have iw1 := iw1.put (v := 99) ez
        obtain ⟨h2, g0, g1, g2, g3, g4, -⟩ := id H
        obtain ⟨-, w1, w2⟩ := H.w1
        obtain ⟨-, v1, v2⟩ := H.w2
        refine R_aload_n dX1_measure_39 rfl ?_
        refine R_get dX1_measure_40 f_X1_51 g0 rfl ?_
        refine R_iload_n dX1_measure_43 rfl ?_
        refine R_aald dX1_measure_44 v1 (by omega) (fun _ => rfl) rfl rfl (by omega) (by decide) (if_pos (by omega)) ?_
        refine R_iload_n dX1_measure_45 rfl ?_
        refine R_iload_n dX1_measure_46 rfl ?_
        refine R_iload_n dX1_measure_47 rfl ?_
        refine R_neN 55 dX1_measure_48 rfl (by omega) (by omega) (fun c_48 => ?_) (fun c_48 => ?_)
        · skip
          refine R_bipush (nI 99) dX1_measure_55 rfl ?_
          refine R_iast dX1_measure_57 (v2 _ (by omega)) (by omega) rfl (by omega) (by decide) ?_
          rw [x_updN]
          have FR := FR.set (a := b + 15 + 1 + a) (x_na 6 (s_snoc c (T2 a) 99)) (by omega) (by omega)
          have H := H.c2 (a := a) (by omega) (s_snoc c (T2 a) 99)
          have iw2 := iw2.put (v := 99) ez
          obtain ⟨h2, g0, g1, g2, g3, g4, -⟩ := id H
          obtain ⟨-, w1, w2⟩ := H.w1
          obtain ⟨-, v1, v2⟩ := H.w2
          refine R_iincN dX1_measure_58 rfl (Nat.le_of_ble_eq_true rfl) rfl ?_
          refine R_goto 12 dX1_measure_61 rfl ?_
          exact ih (c + 1) (by omega) (by omega) _ _ H iw1 iw2 FR
        · omega
      · have ez : 0 = s_i0 a c := (if_pos (by omega)).symm
        refine R_iconst (nI 0) dX1_measure_32 rfl ?_
        refine R_goto 38 dX1_measure_33 rfl ?_
        refine R_iast dX1_measure_38 (w2 _ (by omega)) (by omega) rfl (by omega) (by decide) ?_
        rw [x_updN]
        have FR := FR.set (a := b + 8 + 1 + a) (x_na 6 (s_snoc c (T1 a) 0)) (by omega) (by omega)
        have H := H.c1 (a := a) (by omega) (s_snoc c (T1 a) 0)
        have iw1 := iw1.put (v := 0) ez
        obtain ⟨h2, g0, g1, g2, g3, g4, -⟩ := id H
        obtain ⟨-, w1, w2⟩ := H.w1
        obtain ⟨-, v1, v2⟩ := H.w2
        refine R_aload_n dX1_measure_39 rfl ?_
        refine R_get dX1_measure_40 f_X1_51 g0 rfl ?_
        refine R_iload_n dX1_measure_43 rfl ?_
        refine R_aald dX1_measure_44 v1 (by omega) (fun _ => rfl) rfl rfl (by omega) (by decide) (if_pos (by omega)) ?_
        refine R_iload_n dX1_measure_45 rfl ?_
        refine R_iload_n dX1_measure_46 rfl ?_
        refine R_iload_n dX1_measure_47 rfl ?_
        refine R_neN 55 dX1_measure_48 rfl (by omega) (by omega) (fun c_48 => ?_) (fun c_48 => ?_)
        · omega
        · skip
          refine R_iconst (nI 0) dX1_measure_51 rfl ?_
          refine R_goto 57 dX1_measure_52 rfl ?_
          refine R_iast dX1_measure_57 (v2 _ (by omega)) (by omega) rfl (by omega) (by decide) ?_
          rw [x_updN]
          have FR := FR.set (a := b + 15 + 1 + a) (x_na 6 (s_snoc c (T2 a) 0)) (by omega) (by omega)
          have H := H.c2 (a := a) (by omega) (s_snoc c (T2 a) 0)
          have iw2 := iw2.put (v := 0) ez
          obtain ⟨h2, g0, g1, g2, g3, g4, -⟩ := id H
          obtain ⟨-, w1, w2⟩ := H.w1
          obtain ⟨-, v1, v2⟩ := H.w2
          refine R_iincN dX1_measure_58 rfl (Nat.le_of_ble_eq_true rfl) rfl ?_
          refine R_goto 12 dX1_measure_61 rfl ?_
          exact ih (c + 1) (by omega) (by omega) _ _ H iw1 iw2 FR
theorem c_House_measure_a {h : xH} {b N R D P : Nat} {F : xF} (hR : R ≤ 6) (hD : D ≤ 8) (hd : ∀ d, d < D → F 1 d < R ∧ F 2 d < R ∧ ¬ F 1 d = F 2 d ∧ F 3 d ≤ 9) : ∀ (n a : Nat), a ≤ R → R + 1 ≤ a + n → ∀ (T1 T2 : xT) (vb : Option Value) {g : xH}, x_House g b N R D P (s_tabs F T1 T2) → x_inp R T1 a 0 → x_inp R T2 a 0 → x_fr h g b 22 → x_Rn m_X1_measure 2 [some (.ref b), some (.int (nI a)), vb] [] g (0, 0) (x_vd (fun h' => ∃ F', x_House h' b N R D P F' ∧ (∀ k, k < 10 → F' k = F k) ∧ (∀ x y, x < R → y < R → F' (10 + x) y = s_wall R D F x y ∧ F' (20 + x) y = s_way R D F x y) ∧ x_fr h h' b 22)) := by
  intro n
  induction n with
  | zero => intro a h1 h3; omega
  | succ n ih =>
    intro a h1 h3 T1 T2 vb g H iw1 iw2 FR
    obtain ⟨h2, g0, -⟩ := id H
    refine R_iload_n dX1_measure_2 rfl ?_
    refine R_aload_n dX1_measure_3 rfl ?_
    refine R_get dX1_measure_4 f_X1_15 g0 rfl ?_
    refine R_geN 70 dX1_measure_7 rfl (by omega) (by omega) (fun c_7 => ?_) (fun c_7 => ?_)
    · refine R_iconst (nI 0) dX1_measure_70 rfl ?_
      refine R_istore_n dX1_measure_71 (Nat.le_of_ble_eq_true rfl) rfl ?_
      exact c_House_measure_d hR hD hd (D + 1) 0 (by omega) (by omega) T1 T2 H (fun x y hx hy => iw1 x y hx hy (by omega)) (fun x y hx hy => iw2 x y hx hy (by omega)) FR
    · refine R_iconst (nI 0) dX1_measure_10 rfl ?_
      refine R_istore_n dX1_measure_11 (Nat.le_of_ble_eq_true rfl) rfl ?_
      refine c_House_measure_c hR hD hd (by omega) (fun g T1 T2 H iw1 iw2 FR => ?_) (R + 1) 0 (by omega) (by omega) T1 T2 H iw1 iw2 FR
      refine R_iincN dX1_measure_64 rfl (Nat.le_of_ble_eq_true rfl) rfl ?_
      refine R_goto 2 dX1_measure_67 rfl ?_
      exact ih (a + 1) (by omega) (by omega) T1 T2 (some (.int (nI R))) H (fun x y hx hy c => iw1 x y hx hy (by omega)) (fun x y hx hy c => iw2 x y hx hy (by omega)) FR
theorem c_House_measure {h : xH} {b N R D P : Nat} {F : xF} (hR : R ≤ 6) (hD : D ≤ 8) (hd : ∀ d, d < D → F 1 d < R ∧ F 2 d < R ∧ ¬ F 1 d = F 2 d ∧ F 3 d ≤ 9) (H : x_House h b N R D P F) : x_Met m_X1_measure [.ref b] h (x_vd (fun h' => ∃ F', x_House h' b N R D P F' ∧ (∀ k, k < 10 → F' k = F k) ∧ (∀ x y, x < R → y < R → F' (10 + x) y = s_wall R D F x y ∧ F' (20 + x) y = s_way R D F x y) ∧ x_fr h h' b 22)) := by
  rw [← s_tabs_id F] at H
  refine x_Met.of (lo := [some (.ref b), none, none]) (by decide) rfl rfl rfl ?_
  refine R_iconst (nI 0) dX1_measure_0 rfl ?_
  refine R_istore_n dX1_measure_1 (Nat.le_of_ble_eq_true rfl) rfl ?_
  exact c_House_measure_a hR hD hd (R + 1) 0 (by omega) (by omega) _ _ none H (fun x y hx hy c => by omega) (fun x y hx hy c => by omega) (x_fr.rf h b 22)
