/-! THE MODEL's calls that only look, 3 -/
def s_sr (Q : xQ) (r : Nat) : Nat → Bool
  | 0 => decide (¬ s_will Q r 0 = -1)
  | j + 1 => s_sr Q r j && decide (s_will Q r (j + 1) = s_will Q r 0)
theorem s_sr_3 (Q : xQ) (r : Nat) : s_sr Q r 3 = s_sure Q r := by
  unfold s_sure
  simp only [s_sr]
  by_cases a : s_will Q r 0 = -1 <;> by_cases b : s_will Q r 1 = s_will Q r 0 <;> by_cases c : s_will Q r 2 = s_will Q r 0 <;> by_cases d : s_will Q r 3 = s_will Q r 0 <;> simp [a, b, c, d] <;> simp_all
theorem s_will_in {N R P : Nat} {Q : xQ} (h : x_QB N R P Q) {r y : Nat} (hr : r < R) (hy : y < 4) : s_will Q r y = -1 ∨ ∃ p, p < 6 ∧ s_will Q r y = nI p := by
  unfold s_will
  split
  · exact h.2.2.2.2.2.2.2.1 r hr
  · exact h.2.2.2.2.2.2.2.2 y r hy hr
theorem x_in_has {w : Int32} {b : Nat} (hb : b < 900) : x_in w (nI 0) (nI b) = x_has w (b + 1) := by
  unfold x_in
  rw [← x_inR (by omega : b + 1 < 1000), pk_sub (by omega)]
  rfl
theorem n_sure_in {h : xH} {Z : xZ} {k : Nat} {M : Nat → Nat → Int32} {sd : Nat → Int64} {kp t : Nat → Int32} (C : x_ML h Z M sd kp t) (hZ : x_ZB k Z) (hk : k ≤ 50000) {r : Nat} (hr : r < z_R Z) {x1 : Int32} {K : Option Value → xH → Prop} (kk : x_Rn m_X8_sureOnes 68 [some (.ref 372), some (.int x1), some (.int (nI r)), some (.int (x_b (s_sure (z_Q Z) r))), some (.int (nI (3 + 1)))] [] h (0, 0) K) : ∀ (m j : Nat), j ≤ 3 → 4 ≤ j + m → x_Rn m_X8_sureOnes 30 [some (.ref 372), some (.int x1), some (.int (nI r)), some (.int (x_b (s_sr (z_Q Z) r j))), some (.int (nI (j + 1)))] [] h (0, 0) K := by
  obtain ⟨HM, HZ⟩ := id C
  have mo : h[372]? = some (x_mob (z_X Z).1 (z_f Z) (z_N Z) (z_R Z) (z_D Z) (z_P Z) (z_T Z).1 (z_s Z) (z_S Z).1 (z_B Z).1 t) := HM.1
  have m8 : h[381]? = some (x_ia 51 (M 8)) := HM.2 8 (by decide)
  obtain ⟨w1, w2, w3, w4, w5, w6, w7, hq, wt, wi, wk, ws, wb, wx⟩ := id HZ
  obtain ⟨q0, q1, q2, q3, q9, q15, q21, q45⟩ := id hq
  have q21z : ∀ r, r < z_R Z → M 8 (21 + r) = q_la (z_Q Z) 0 r := fun r hr => q21 0 r (by decide) hr
  have hB : x_HB (z_N Z) (z_R Z) (z_D Z) (z_P Z) (z_F Z) := hZ.1.hb
  have hQ : x_QB (z_N Z) (z_R Z) (z_P Z) (z_Q Z) := hZ.2.1.1
  obtain ⟨⟨b1, b2, b3, b4⟩, b5, b6, b7⟩ := id hB
  obtain ⟨u1, u2, u3, u4, u5, u6, u7, u8, u9⟩ := id hQ
  have bT : (z_T Z).1 ≤ 30 := hZ.2.2.1.1
  have bs : z_s Z < 2 ^ 31 := hZ.2.2.2.2.1
  have bX : (z_X Z).1 ≤ 240 := hZ.2.2.2.2.2.1.1
  have bXc : ∀ i, i < (z_X Z).1 → (z_X Z).2 i < 256 := hZ.2.2.2.2.2.1.2
  have bS : (z_S Z).1 ≤ 6 := hZ.2.2.2.2.2.2.1.1
  have bSr : ∀ i, i < (z_S Z).1 → (z_S Z).2.1 i < z_R Z := hZ.2.2.2.2.2.2.1.2
  have bB : (z_B Z).1 ≤ 20 := hZ.2.2.2.2.2.2.2.1
  have bBr : ∀ i, i < (z_B Z).1 → (z_B Z).2.1 i < z_R Z := hZ.2.2.2.2.2.2.2.2
  intro m
  induction m with
  | zero => intro j h1 h3; omega
  | succ m ih =>
    intro j h1 h3
    refine R_iload dX8_sureOnes_30 rfl ?_
    refine R_iconst (nI 4) dX8_sureOnes_32 rfl ?_
    refine R_geN 68 dX8_sureOnes_33 rfl (by omega) (by omega) (fun c_33 => ?_) (fun c_33 => ?_)
    · have e : j = 3 := by omega
      subst e
      rw [s_sr_3]
      exact kk
    · refine R_iload_n dX8_sureOnes_36 rfl ?_
      refine R_ifeqB 60 dX8_sureOnes_37 rfl (fun c_37 => ?_) (fun c_37 => ?_)
      · have hs : nI 0 = x_b (s_sr (z_Q Z) r (j + 1)) := x_bf (by rw [s_sr, c_37]; rfl)
        refine R_iconst (nI 0) dX8_sureOnes_60 rfl ?_
        rw [hs]
        refine R_istore_n dX8_sureOnes_61 (Nat.le_of_ble_eq_true rfl) rfl ?_
        refine R_iincN dX8_sureOnes_62 rfl (Nat.le_of_ble_eq_true rfl) rfl ?_
        refine R_goto 30 dX8_sureOnes_65 rfl ?_
        exact ih (j + 1) (by omega) (by omega)
      · refine R_aload_n dX8_sureOnes_40 rfl ?_
        refine R_iload_n dX8_sureOnes_41 rfl ?_
        refine R_iload dX8_sureOnes_42 rfl ?_
        refine R_cV2p (N := m_X8_willBy) dX8_sureOnes_44 l_X8_200 i_X8_willBy mo (n_will C hZ hk (r := r) (y := j + 1) (by omega) (by omega)) rfl rfl ?_
        refine R_aload_n dX8_sureOnes_47 rfl ?_
        refine R_iload_n dX8_sureOnes_48 rfl ?_
        refine R_iconst (nI 0) dX8_sureOnes_49 rfl ?_
        refine R_cV2p (N := m_X8_willBy) dX8_sureOnes_50 l_X8_200 i_X8_willBy mo (n_will C hZ hk (r := r) (y := 0) (by omega) (by omega)) rfl rfl ?_
        refine R_icmpne 60 dX8_sureOnes_53 rfl (fun c_53 => ?_) (fun c_53 => ?_)
        · have hs : nI 0 = x_b (s_sr (z_Q Z) r (j + 1)) := x_bf (by rw [s_sr, decide_eq_false c_53, Bool.and_false])
          refine R_iconst (nI 0) dX8_sureOnes_60 rfl ?_
          rw [hs]
          refine R_istore_n dX8_sureOnes_61 (Nat.le_of_ble_eq_true rfl) rfl ?_
          refine R_iincN dX8_sureOnes_62 rfl (Nat.le_of_ble_eq_true rfl) rfl ?_
          refine R_goto 30 dX8_sureOnes_65 rfl ?_
          exact ih (j + 1) (by omega) (by omega)
        · have hs : nI 1 = x_b (s_sr (z_Q Z) r (j + 1)) := x_bt (by rw [s_sr, c_37, decide_eq_true c_53]; rfl)
          refine R_iconst (nI 1) dX8_sureOnes_56 rfl ?_
          refine R_goto 61 dX8_sureOnes_57 rfl ?_
          rw [hs]
          refine R_istore_n dX8_sureOnes_61 (Nat.le_of_ble_eq_true rfl) rfl ?_
          refine R_iincN dX8_sureOnes_62 rfl (Nat.le_of_ble_eq_true rfl) rfl ?_
          refine R_goto 30 dX8_sureOnes_65 rfl ?_
          exact ih (j + 1) (by omega) (by omega)
theorem n_sure_loop {h : xH} {Z : xZ} {k : Nat} {M : Nat → Nat → Int32} {sd : Nat → Int64} {kp t : Nat → Int32} (C : x_ML h Z M sd kp t) (hZ : x_ZB k Z) (hk : k ≤ 50000) : ∀ (m r : Nat), r ≤ z_R Z → z_R Z + 1 ≤ r + m → ∀ v3 v4 : Option Value, x_Rn m_X8_sureOnes 4 [some (.ref 372), some (.int (s_set r (s_sure (z_Q Z)))), some (.int (nI r)), v3, v4] [] h (0, 0) (x_pr (s_set (z_R Z) (s_sure (z_Q Z))) h) := by
  obtain ⟨HM, HZ⟩ := id C
  have mo : h[372]? = some (x_mob (z_X Z).1 (z_f Z) (z_N Z) (z_R Z) (z_D Z) (z_P Z) (z_T Z).1 (z_s Z) (z_S Z).1 (z_B Z).1 t) := HM.1
  have m8 : h[381]? = some (x_ia 51 (M 8)) := HM.2 8 (by decide)
  obtain ⟨w1, w2, w3, w4, w5, w6, w7, hq, wt, wi, wk, ws, wb, wx⟩ := id HZ
  obtain ⟨q0, q1, q2, q3, q9, q15, q21, q45⟩ := id hq
  have q21z : ∀ r, r < z_R Z → M 8 (21 + r) = q_la (z_Q Z) 0 r := fun r hr => q21 0 r (by decide) hr
  have hB : x_HB (z_N Z) (z_R Z) (z_D Z) (z_P Z) (z_F Z) := hZ.1.hb
  have hQ : x_QB (z_N Z) (z_R Z) (z_P Z) (z_Q Z) := hZ.2.1.1
  obtain ⟨⟨b1, b2, b3, b4⟩, b5, b6, b7⟩ := id hB
  obtain ⟨u1, u2, u3, u4, u5, u6, u7, u8, u9⟩ := id hQ
  have bT : (z_T Z).1 ≤ 30 := hZ.2.2.1.1
  have bs : z_s Z < 2 ^ 31 := hZ.2.2.2.2.1
  have bX : (z_X Z).1 ≤ 240 := hZ.2.2.2.2.2.1.1
  have bXc : ∀ i, i < (z_X Z).1 → (z_X Z).2 i < 256 := hZ.2.2.2.2.2.1.2
  have bS : (z_S Z).1 ≤ 6 := hZ.2.2.2.2.2.2.1.1
  have bSr : ∀ i, i < (z_S Z).1 → (z_S Z).2.1 i < z_R Z := hZ.2.2.2.2.2.2.1.2
  have bB : (z_B Z).1 ≤ 20 := hZ.2.2.2.2.2.2.2.1
  have bBr : ∀ i, i < (z_B Z).1 → (z_B Z).2.1 i < z_R Z := hZ.2.2.2.2.2.2.2.2
  intro m
  induction m with
  | zero => intro r h1 h3; omega
  | succ m ih =>
    intro r h1 h3 v3 v4
    have tail : r < z_R Z → x_Rn m_X8_sureOnes 68 [some (.ref 372), some (.int (s_set r (s_sure (z_Q Z)))), some (.int (nI r)), some (.int (x_b (s_sure (z_Q Z) r))), some (.int (nI (3 + 1)))] [] h (0, 0) (x_pr (s_set (z_R Z) (s_sure (z_Q Z))) h) := by
      intro hr
      refine R_iload_n dX8_sureOnes_68 rfl ?_
      refine R_iload_n dX8_sureOnes_69 rfl ?_
      refine R_ifeqB 79 dX8_sureOnes_70 rfl (fun c_70 => ?_) (fun c_70 => ?_)
      · have hs := s_set_f2 (n := r) (f := (s_sure (z_Q Z))) c_70
        refine R_iconst (nI 0) dX8_sureOnes_79 rfl ?_
        refine R_ior dX8_sureOnes_80 ?_
        rw [hs]
        refine R_istore_n dX8_sureOnes_81 (Nat.le_of_ble_eq_true rfl) rfl ?_
        refine R_iincN dX8_sureOnes_82 rfl (Nat.le_of_ble_eq_true rfl) rfl ?_
        refine R_goto 4 dX8_sureOnes_85 rfl ?_
        exact ih (r + 1) (by omega) (by omega) _ _
      · have hs := s_set_t (n := r) (f := (s_sure (z_Q Z))) c_70
        refine R_iconst (nI 1) dX8_sureOnes_73 rfl ?_
        refine R_iload_n dX8_sureOnes_74 rfl ?_
        refine R_ishl dX8_sureOnes_75 ?_
        refine R_goto 80 dX8_sureOnes_76 rfl ?_
        refine R_ior dX8_sureOnes_80 ?_
        rw [hs]
        refine R_istore_n dX8_sureOnes_81 (Nat.le_of_ble_eq_true rfl) rfl ?_
        refine R_iincN dX8_sureOnes_82 rfl (Nat.le_of_ble_eq_true rfl) rfl ?_
        refine R_goto 4 dX8_sureOnes_85 rfl ?_
        exact ih (r + 1) (by omega) (by omega) _ _
    refine R_iload_n dX8_sureOnes_4 rfl ?_
    refine R_aload_n dX8_sureOnes_5 rfl ?_
    refine R_get dX8_sureOnes_6 f_X8_82 mo rfl ?_
    refine R_geN 88 dX8_sureOnes_9 rfl (by omega) (by omega) (fun c_9 => ?_) (fun c_9 => ?_)
    · have e : r = z_R Z := by omega
      subst e
      refine R_iload_n dX8_sureOnes_88 rfl ?_
      exact R_iret dX8_sureOnes_89 rfl rfl rfl x_pr.mk
    · have hr : r < z_R Z := by omega
      refine R_aload_n dX8_sureOnes_12 rfl ?_
      refine R_iload_n dX8_sureOnes_13 rfl ?_
      refine R_iconst (nI 0) dX8_sureOnes_14 rfl ?_
      refine R_cV2p (N := m_X8_willBy) dX8_sureOnes_15 l_X8_200 i_X8_willBy mo (n_will C hZ hk (r := r) (y := 0) (by omega) (by omega)) rfl rfl ?_
      refine R_iflt 25 dX8_sureOnes_18 rfl (fun c_18 => ?_) (fun c_18 => ?_)
      · have hs : nI 0 = x_b (s_sr (z_Q Z) r 0) := x_bf (decide_eq_false (fun z => z ((s_la_lt (s_will_in hQ hr (by decide))).mp c_18)))
        refine R_iconst (nI 0) dX8_sureOnes_25 rfl ?_
        rw [hs]
        refine R_istore_n dX8_sureOnes_26 (Nat.le_of_ble_eq_true rfl) rfl ?_
        refine R_iconst (nI 1) dX8_sureOnes_27 rfl ?_
        refine R_istore dX8_sureOnes_28 (Nat.le_of_ble_eq_true rfl) rfl ?_
        refine n_sure_in C hZ hk hr ?_ 4 0 (by omega) (by omega)
        exact tail hr
      · have hs : nI 1 = x_b (s_sr (z_Q Z) r 0) := x_bt (decide_eq_true (fun z => c_18 ((s_la_lt (s_will_in hQ hr (by decide))).mpr z)))
        refine R_iconst (nI 1) dX8_sureOnes_21 rfl ?_
        refine R_goto 26 dX8_sureOnes_22 rfl ?_
        rw [hs]
        refine R_istore_n dX8_sureOnes_26 (Nat.le_of_ble_eq_true rfl) rfl ?_
        refine R_iconst (nI 1) dX8_sureOnes_27 rfl ?_
        refine R_istore dX8_sureOnes_28 (Nat.le_of_ble_eq_true rfl) rfl ?_
        refine n_sure_in C hZ hk hr ?_ 4 0 (by omega) (by omega)
        exact tail hr
theorem n_sure {h : xH} {Z : xZ} {k : Nat} {M : Nat → Nat → Int32} {sd : Nat → Int64} {kp t : Nat → Int32} (C : x_ML h Z M sd kp t) (hZ : x_ZB k Z) (hk : k ≤ 50000) : x_Met m_X8_sureOnes [.ref 372] h (x_pr (s_set (z_R Z) (s_sure (z_Q Z))) h) := by

  refine x_Met.of (lo := [some (.ref 372), none, none, none, none]) (by decide) rfl rfl rfl ?_
  refine R_iconst (nI 0) dX8_sureOnes_0 rfl ?_
  refine R_istore_n dX8_sureOnes_1 (Nat.le_of_ble_eq_true rfl) rfl ?_
  refine R_iconst (nI 0) dX8_sureOnes_2 rfl ?_
  refine R_istore_n dX8_sureOnes_3 (Nat.le_of_ble_eq_true rfl) rfl ?_
  exact n_sure_loop C hZ hk (z_R Z + 1) 0 (by omega) (by omega) none none
theorem n_holder_loop {h : xH} {Z : xZ} {k : Nat} {M : Nat → Nat → Int32} {sd : Nat → Int64} {kp t : Nat → Int32} (C : x_ML h Z M sd kp t) (hZ : x_ZB k Z) (hk : k ≤ 50000) : ∀ (m p : Nat), p ≤ z_P Z → z_P Z + 1 ≤ p + m → ∀ v4 : Option Value, x_Rn m_X8_holder 6 [some (.ref 372), some (.int (s_hold (z_R Z) (z_Q Z) p).1), some (.int (nI (s_hold (z_R Z) (z_Q Z) p).2)), some (.int (nI p)), v4] [] h (0, 0) (x_pr (s_hold (z_R Z) (z_Q Z) (z_P Z)).1 h) := by
  obtain ⟨HM, HZ⟩ := id C
  have mo : h[372]? = some (x_mob (z_X Z).1 (z_f Z) (z_N Z) (z_R Z) (z_D Z) (z_P Z) (z_T Z).1 (z_s Z) (z_S Z).1 (z_B Z).1 t) := HM.1
  have m8 : h[381]? = some (x_ia 51 (M 8)) := HM.2 8 (by decide)
  obtain ⟨w1, w2, w3, w4, w5, w6, w7, hq, wt, wi, wk, ws, wb, wx⟩ := id HZ
  obtain ⟨q0, q1, q2, q3, q9, q15, q21, q45⟩ := id hq
  have q21z : ∀ r, r < z_R Z → M 8 (21 + r) = q_la (z_Q Z) 0 r := fun r hr => q21 0 r (by decide) hr
  have hB : x_HB (z_N Z) (z_R Z) (z_D Z) (z_P Z) (z_F Z) := hZ.1.hb
  have hQ : x_QB (z_N Z) (z_R Z) (z_P Z) (z_Q Z) := hZ.2.1.1
  obtain ⟨⟨b1, b2, b3, b4⟩, b5, b6, b7⟩ := id hB
  obtain ⟨u1, u2, u3, u4, u5, u6, u7, u8, u9⟩ := id hQ
  have bT : (z_T Z).1 ≤ 30 := hZ.2.2.1.1
  have bs : z_s Z < 2 ^ 31 := hZ.2.2.2.2.1
  have bX : (z_X Z).1 ≤ 240 := hZ.2.2.2.2.2.1.1
  have bXc : ∀ i, i < (z_X Z).1 → (z_X Z).2 i < 256 := hZ.2.2.2.2.2.1.2
  have bS : (z_S Z).1 ≤ 6 := hZ.2.2.2.2.2.2.1.1
  have bSr : ∀ i, i < (z_S Z).1 → (z_S Z).2.1 i < z_R Z := hZ.2.2.2.2.2.2.1.2
  have bB : (z_B Z).1 ≤ 20 := hZ.2.2.2.2.2.2.2.1
  have bBr : ∀ i, i < (z_B Z).1 → (z_B Z).2.1 i < z_R Z := hZ.2.2.2.2.2.2.2.2
  intro m
  induction m with
  | zero => intro p h1 h3; omega
  | succ m ih =>
    intro p h1 h3 v4
    refine R_iload_n dX8_holder_6 rfl ?_
    refine R_aload_n dX8_holder_7 rfl ?_
    refine R_get dX8_holder_8 f_X8_89 mo rfl ?_
    refine R_geN 55 dX8_holder_11 rfl (by omega) (by omega) (fun c_11 => ?_) (fun c_11 => ?_)
    · have e : p = z_P Z := by omega
      subst e
      refine R_iload_n dX8_holder_55 rfl ?_
      exact R_iret dX8_holder_56 rfl rfl rfl x_pr.mk
    · have v1 := s_cnt_le (s_own (z_Q Z) (nI p)) (z_R Z)
      have v2 := s_hold_le (z_R Z) (z_Q Z) p
      refine R_aload_n dX8_holder_14 rfl ?_
      refine R_iload_n dX8_holder_15 rfl ?_
      refine R_cV1p (N := m_X8_hasRooms) dX8_holder_16 l_X8_203 i_X8_hasRooms mo (n_own C hZ hk (nI p)) rfl rfl ?_
      refine R_cS1p (N := m_X8_bits) dX8_holder_19 l_X8_206 i_X8_bits (n_bits b2 _) rfl rfl ?_
      refine R_istore dX8_holder_22 (Nat.le_of_ble_eq_true rfl) rfl ?_
      refine R_iload dX8_holder_24 rfl ?_
      refine R_iload_n dX8_holder_26 rfl ?_
      refine R_leN 34 dX8_holder_27 rfl (by omega) (by omega) (fun c_27 => ?_) (fun c_27 => ?_)
      · have hs : (s_hold (z_R Z) (z_Q Z) (p + 1)) = (s_hold (z_R Z) (z_Q Z) p) := by rw [s_hold, if_neg (by omega)]
        refine R_iload_n dX8_holder_34 rfl ?_
        refine R_istore_n dX8_holder_35 (Nat.le_of_ble_eq_true rfl) rfl ?_
        refine R_iload dX8_holder_36 rfl ?_
        refine R_iload_n dX8_holder_38 rfl ?_
        refine R_leN 47 dX8_holder_39 rfl (by omega) (by omega) (fun c_39 => ?_) (fun c_39 => ?_)
        · skip
          refine R_iload_n dX8_holder_47 rfl ?_
          refine R_istore_n dX8_holder_48 (Nat.le_of_ble_eq_true rfl) rfl ?_
          refine R_iincN dX8_holder_49 rfl (Nat.le_of_ble_eq_true rfl) rfl ?_
          refine R_goto 6 dX8_holder_52 rfl ?_
          have key := ih (p + 1) (by omega) (by omega)
          rw [hs] at key
          exact key _
        · omega
      · have hs : (s_hold (z_R Z) (z_Q Z) (p + 1)) = (nI p, s_cnt (z_R Z) (s_own (z_Q Z) (nI p))) := by rw [s_hold, if_pos (by omega)]
        refine R_iload_n dX8_holder_30 rfl ?_
        refine R_goto 35 dX8_holder_31 rfl ?_
        refine R_istore_n dX8_holder_35 (Nat.le_of_ble_eq_true rfl) rfl ?_
        refine R_iload dX8_holder_36 rfl ?_
        refine R_iload_n dX8_holder_38 rfl ?_
        refine R_leN 47 dX8_holder_39 rfl (by omega) (by omega) (fun c_39 => ?_) (fun c_39 => ?_)
        · omega
        · skip
          refine R_iload dX8_holder_42 rfl ?_
          refine R_goto 48 dX8_holder_44 rfl ?_
          refine R_istore_n dX8_holder_48 (Nat.le_of_ble_eq_true rfl) rfl ?_
          refine R_iincN dX8_holder_49 rfl (Nat.le_of_ble_eq_true rfl) rfl ?_
          refine R_goto 6 dX8_holder_52 rfl ?_
          have key := ih (p + 1) (by omega) (by omega)
          rw [hs] at key
          exact key _
theorem n_holder {h : xH} {Z : xZ} {k : Nat} {M : Nat → Nat → Int32} {sd : Nat → Int64} {kp t : Nat → Int32} (C : x_ML h Z M sd kp t) (hZ : x_ZB k Z) (hk : k ≤ 50000) : x_Met m_X8_holder [.ref 372] h (x_pr (s_hold (z_R Z) (z_Q Z) (z_P Z)).1 h) := by

  refine x_Met.of (lo := [some (.ref 372), none, none, none, none]) (by decide) rfl rfl rfl ?_
  refine R_iconst (-1) dX8_holder_0 rfl ?_
  refine R_istore_n dX8_holder_1 (Nat.le_of_ble_eq_true rfl) rfl ?_
  refine R_iconst (nI 0) dX8_holder_2 rfl ?_
  refine R_istore_n dX8_holder_3 (Nat.le_of_ble_eq_true rfl) rfl ?_
  refine R_iconst (nI 0) dX8_holder_4 rfl ?_
  refine R_istore_n dX8_holder_5 (Nat.le_of_ble_eq_true rfl) rfl ?_
  exact n_holder_loop C hZ hk (z_P Z + 1) 0 (by omega) (by omega) none
theorem n_worth_loop {h : xH} {Z : xZ} {k : Nat} {M : Nat → Nat → Int32} {sd : Nat → Int64} {kp t : Nat → Int32} (C : x_ML h Z M sd kp t) (hZ : x_ZB k Z) (hk : k ≤ 50000) {r : Nat} (hr : r < z_R Z) : ∀ (m p : Nat), p ≤ z_P Z → z_P Z + 1 ≤ p + m → x_Rn m_X8_worthOf 4 [some (.ref 372), some (.int (nI r)), some (.int (nI (s_cnt p (s_worth (z_F Z) (z_Q Z) r)))), some (.int (nI p))] [] h (0, 0) (x_pr (nI (s_cnt (z_P Z) (s_worth (z_F Z) (z_Q Z) r))) h) := by
  obtain ⟨HM, HZ⟩ := id C
  have mo : h[372]? = some (x_mob (z_X Z).1 (z_f Z) (z_N Z) (z_R Z) (z_D Z) (z_P Z) (z_T Z).1 (z_s Z) (z_S Z).1 (z_B Z).1 t) := HM.1
  have m8 : h[381]? = some (x_ia 51 (M 8)) := HM.2 8 (by decide)
  obtain ⟨w1, w2, w3, w4, w5, w6, w7, hq, wt, wi, wk, ws, wb, wx⟩ := id HZ
  obtain ⟨q0, q1, q2, q3, q9, q15, q21, q45⟩ := id hq
  have q21z : ∀ r, r < z_R Z → M 8 (21 + r) = q_la (z_Q Z) 0 r := fun r hr => q21 0 r (by decide) hr
  have hB : x_HB (z_N Z) (z_R Z) (z_D Z) (z_P Z) (z_F Z) := hZ.1.hb
  have hQ : x_QB (z_N Z) (z_R Z) (z_P Z) (z_Q Z) := hZ.2.1.1
  obtain ⟨⟨b1, b2, b3, b4⟩, b5, b6, b7⟩ := id hB
  obtain ⟨u1, u2, u3, u4, u5, u6, u7, u8, u9⟩ := id hQ
  have bT : (z_T Z).1 ≤ 30 := hZ.2.2.1.1
  have bs : z_s Z < 2 ^ 31 := hZ.2.2.2.2.1
  have bX : (z_X Z).1 ≤ 240 := hZ.2.2.2.2.2.1.1
  have bXc : ∀ i, i < (z_X Z).1 → (z_X Z).2 i < 256 := hZ.2.2.2.2.2.1.2
  have bS : (z_S Z).1 ≤ 6 := hZ.2.2.2.2.2.2.1.1
  have bSr : ∀ i, i < (z_S Z).1 → (z_S Z).2.1 i < z_R Z := hZ.2.2.2.2.2.2.1.2
  have bB : (z_B Z).1 ≤ 20 := hZ.2.2.2.2.2.2.2.1
  have bBr : ∀ i, i < (z_B Z).1 → (z_B Z).2.1 i < z_R Z := hZ.2.2.2.2.2.2.2.2
  intro m
  induction m with
  | zero => intro p h1 h3; omega
  | succ m ih =>
    intro p h1 h3
    refine R_iload_n dX8_worthOf_4 rfl ?_
    refine R_aload_n dX8_worthOf_5 rfl ?_
    refine R_get dX8_worthOf_6 f_X8_89 mo rfl ?_
    refine R_geN 47 dX8_worthOf_9 rfl (by omega) (by omega) (fun c_9 => ?_) (fun c_9 => ?_)
    · have e : p = z_P Z := by omega
      subst e
      refine R_iload_n dX8_worthOf_47 rfl ?_
      exact R_iret dX8_worthOf_48 rfl rfl rfl x_pr.mk
    · refine R_iload_n dX8_worthOf_12 rfl ?_
      refine R_aload_n dX8_worthOf_13 rfl ?_
      refine R_iload_n dX8_worthOf_14 rfl ?_
      refine R_aload_n dX8_worthOf_15 rfl ?_
      refine R_get dX8_worthOf_16 f_X8_38 mo rfl ?_
      refine R_bipush (nI 45) dX8_worthOf_19 rfl ?_
      refine R_iload_n dX8_worthOf_21 rfl ?_
      refine R_iaddN dX8_worthOf_22 ?_
      refine R_iald dX8_worthOf_23 m8 rfl (by omega) (by decide) ?_
      rw [q45 p (by omega)]
      refine R_cV2p (N := m_X8_hearsFrom) dX8_worthOf_24 l_X8_185 i_X8_hearsFrom mo (n_hears C hZ hk (p := p) (by omega) (u6 p (by omega))) rfl rfl ?_
      refine R_iload_n dX8_worthOf_27 rfl ?_
      refine R_cS2p (N := m_X8_has) dX8_worthOf_28 l_X8_181 i_X8_has (n_has (s_bitR b2 _ hr)) rfl rfl ?_
      refine R_ifeqB 38 dX8_worthOf_31 rfl (fun c_31 => ?_) (fun c_31 => ?_)
      · have hs : s_cnt p (s_worth (z_F Z) (z_Q Z) r) + 0 = s_cnt (p + 1) (s_worth (z_F Z) (z_Q Z) r) := by rw [s_cnt, if_neg (by unfold s_worth; rw [c_31]; decide)]; rfl
        refine R_iconst (nI 0) dX8_worthOf_38 rfl ?_
        refine R_iaddN dX8_worthOf_39 ?_
        rw [hs]
        refine R_istore_n dX8_worthOf_40 (Nat.le_of_ble_eq_true rfl) rfl ?_
        refine R_iincN dX8_worthOf_41 rfl (Nat.le_of_ble_eq_true rfl) rfl ?_
        refine R_goto 4 dX8_worthOf_44 rfl ?_
        exact ih (p + 1) (by omega) (by omega)
      · have hs : s_cnt p (s_worth (z_F Z) (z_Q Z) r) + 1 = s_cnt (p + 1) (s_worth (z_F Z) (z_Q Z) r) := by rw [s_cnt, if_pos (by unfold s_worth; exact c_31)]
        refine R_iconst (nI 1) dX8_worthOf_34 rfl ?_
        refine R_goto 39 dX8_worthOf_35 rfl ?_
        refine R_iaddN dX8_worthOf_39 ?_
        rw [hs]
        refine R_istore_n dX8_worthOf_40 (Nat.le_of_ble_eq_true rfl) rfl ?_
        refine R_iincN dX8_worthOf_41 rfl (Nat.le_of_ble_eq_true rfl) rfl ?_
        refine R_goto 4 dX8_worthOf_44 rfl ?_
        exact ih (p + 1) (by omega) (by omega)
theorem n_worth {h : xH} {Z : xZ} {k : Nat} {M : Nat → Nat → Int32} {sd : Nat → Int64} {kp t : Nat → Int32} (C : x_ML h Z M sd kp t) (hZ : x_ZB k Z) (hk : k ≤ 50000) {r : Nat} (hr : r < z_R Z) : x_Met m_X8_worthOf [.ref 372, .int (nI r)] h (x_pr (nI (s_cnt (z_P Z) (s_worth (z_F Z) (z_Q Z) r))) h) := by

  refine x_Met.of (lo := [some (.ref 372), some (.int (nI r)), none, none]) (by decide) rfl rfl rfl ?_
  refine R_iconst (nI 0) dX8_worthOf_0 rfl ?_
  refine R_istore_n dX8_worthOf_1 (Nat.le_of_ble_eq_true rfl) rfl ?_
  refine R_iconst (nI 0) dX8_worthOf_2 rfl ?_
  refine R_istore_n dX8_worthOf_3 (Nat.le_of_ble_eq_true rfl) rfl ?_
  exact n_worth_loop C hZ hk hr (z_P Z + 1) 0 (by omega) (by omega)
