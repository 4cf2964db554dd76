/-! THE MODEL: could be, ask -/
def s_ft (f : Nat → Bool) (rm : Nat → Nat) (hd : Nat → Bool) : Nat → Bool
  | 0 => true
  | k + 1 => s_ft f rm hd k && decide (f (rm k) = hd k)
theorem s_fit_iff (f : Nat → Bool) (rm : Nat → Nat) (hd : Nat → Bool) : ∀ n i, s_fit f rm hd n i = true ↔ ∀ x, i ≤ x → x < i + n → f (rm x) = hd x
  | 0, i => ⟨fun _ x h1 h2 => by omega, fun _ => rfl⟩
  | n + 1, i => by
    rw [s_fit]
    by_cases c : f (rm i) = hd i
    · rw [if_pos c, s_fit_iff f rm hd n (i + 1)]
      refine ⟨fun z x h1 h2 => ?_, fun z x h1 h2 => z x (by omega) (by omega)⟩
      by_cases e : x = i
      · subst e; exact c
      · exact z x (by omega) (by omega)
    · rw [if_neg c]
      exact ⟨fun z => absurd z (by decide), fun z => absurd (z i (by omega) (by omega)) c⟩
theorem s_ft_iff (f : Nat → Bool) (rm : Nat → Nat) (hd : Nat → Bool) : ∀ n, s_ft f rm hd n = true ↔ ∀ x, x < n → f (rm x) = hd x
  | 0 => ⟨fun _ x h => by omega, fun _ => rfl⟩
  | n + 1 => by
    rw [s_ft, Bool.and_eq_true, s_ft_iff f rm hd n, decide_eq_true_iff]
    refine ⟨fun z x h => ?_, fun z => ⟨fun x h => z x (by omega), z n (by omega)⟩⟩
    by_cases e : x = n
    · subst e; exact z.2
    · exact z.1 x (by omega)
theorem s_ft_fit (f : Nat → Bool) (rm : Nat → Nat) (hd : Nat → Bool) (n : Nat) : s_ft f rm hd n = s_fit f rm hd n 0 := by
  rw [Bool.eq_iff_iff, s_ft_iff, s_fit_iff]
  exact ⟨fun z x _ h => z x (by omega), fun z x h => z x (by omega) (by omega)⟩
theorem x_b_is0 {b : Bool} : x_b b = nI 0 ↔ b = false := by cases b <;> decide
theorem x_b_n0 {b : Bool} : ¬ x_b b = nI 0 ↔ b = true := by cases b <;> decide
theorem n_could_in {h : xH} {Z : xZ} {k : Nat} {M : Nat → Nat → Int32} {sd : Nat → Int64} {kp t : Nat → Int32} (C : x_ML h Z M sd kp t) (hZ : x_ZB k Z) (hk : k ≤ 50000) {p : Nat} (hp : p < z_P Z) {x1 : Int32} {K : Option Value → xH → Prop} (kk : x_Rn m_X8_couldBe 96 [some (.ref 372), some (.int x1), some (.int (nI p)), some (.int (s_set (z_R Z) (s_heard (z_F Z) p (q_pl (z_Q Z) p)))), some (.int (x_b ((s_sus (z_F Z) (z_Q Z) (z_S Z).1 (z_S Z).2.1 (z_S Z).2.2) p))), some (.int (nI (z_S Z).1))] [] h (0, 0) K) : ∀ (m j : Nat), j ≤ (z_S Z).1 → (z_S Z).1 + 1 ≤ j + m → x_Rn m_X8_couldBe 33 [some (.ref 372), some (.int x1), some (.int (nI p)), some (.int (s_set (z_R Z) (s_heard (z_F Z) p (q_pl (z_Q Z) p)))), some (.int (x_b (s_ft (s_heard (z_F Z) p (q_pl (z_Q Z) p)) (z_S Z).2.1 (z_S Z).2.2 j))), some (.int (nI j))] [] h (0, 0) K := by
  obtain ⟨HM, HZ⟩ := id C
  have mo : h[372]? = some (x_mob (z_X Z).1 (z_f Z) (z_N Z) (z_R Z) (z_D Z) (z_P Z) (z_T Z).1 (z_s Z) (z_S Z).1 (z_B Z).1 t) := HM.1
  have m13 : h[386]? = some (x_ia 12 (M 13)) := HM.2 13 (by decide)
  obtain ⟨w1, w2, w3, w4, w5, w6, w7, hq, wt, wi, wk, ws, wb, wx⟩ := id HZ
  obtain ⟨q0, q1, q2, q3, q9, q15, q21, q45⟩ := id hq
  have q21z : ∀ r, r < z_R Z → M 8 (21 + r) = q_la (z_Q Z) 0 r := fun r hr => q21 0 r (by decide) hr
  have hB : x_HB (z_N Z) (z_R Z) (z_D Z) (z_P Z) (z_F Z) := hZ.1.hb
  have hQ : x_QB (z_N Z) (z_R Z) (z_P Z) (z_Q Z) := hZ.2.1.1
  obtain ⟨⟨b1, b2, b3, b4⟩, b5, b6, b7⟩ := id hB
  obtain ⟨u1, u2, u3, u4, u5, u6, u7, u8, u9⟩ := id hQ
  have bT : (z_T Z).1 ≤ 30 := hZ.2.2.1.1
  have bs : z_s Z < 2 ^ 31 := hZ.2.2.2.2.1
  have bX : (z_X Z).1 ≤ 240 := hZ.2.2.2.2.2.1.1
  have bXc : ∀ i, i < (z_X Z).1 → (z_X Z).2 i < 256 := hZ.2.2.2.2.2.1.2
  have bS : (z_S Z).1 ≤ 6 := hZ.2.2.2.2.2.2.1.1
  have bSr : ∀ i, i < (z_S Z).1 → (z_S Z).2.1 i < z_R Z := hZ.2.2.2.2.2.2.1.2
  have bB : (z_B Z).1 ≤ 20 := hZ.2.2.2.2.2.2.2.1
  have bBr : ∀ i, i < (z_B Z).1 → (z_B Z).2.1 i < z_R Z := hZ.2.2.2.2.2.2.2.2
  intro m
  induction m with
  | zero => intro j h1 h3; omega
  | succ m ih =>
    intro j h1 h3
    refine R_iload dX8_couldBe_33 rfl ?_
    refine R_aload_n dX8_couldBe_35 rfl ?_
    refine R_get dX8_couldBe_36 f_X8_167 mo rfl ?_
    refine R_geN 96 dX8_couldBe_39 rfl (by omega) (by omega) (fun c_39 => ?_) (fun c_39 => ?_)
    · have e : j = (z_S Z).1 := by omega
      subst e
      rw [s_ft_fit]
      exact kk
    · refine R_iload dX8_couldBe_42 rfl ?_
      refine R_ifeqB 87 dX8_couldBe_44 rfl (fun c_44 => ?_) (fun c_44 => ?_)
      · have hs : nI 0 = x_b (s_ft (s_heard (z_F Z) p (q_pl (z_Q Z) p)) (z_S Z).2.1 (z_S Z).2.2 (j + 1)) := x_bf (by rw [s_ft, c_44]; rfl)
        refine R_iconst (nI 0) dX8_couldBe_87 rfl ?_
        rw [hs]
        refine R_istore dX8_couldBe_88 (Nat.le_of_ble_eq_true rfl) rfl ?_
        refine R_iincN dX8_couldBe_90 rfl (Nat.le_of_ble_eq_true rfl) rfl ?_
        refine R_goto 33 dX8_couldBe_93 rfl ?_
        exact ih (j + 1) (by omega) (by omega)
      · refine R_iload_n dX8_couldBe_47 rfl ?_
        refine R_aload_n dX8_couldBe_48 rfl ?_
        refine R_get dX8_couldBe_49 f_X8_55 mo rfl ?_
        refine R_iconst (nI 2) dX8_couldBe_52 rfl ?_
        refine R_iload dX8_couldBe_53 rfl ?_
        refine R_imulN dX8_couldBe_55 ?_
        refine R_iald dX8_couldBe_56 m13 rfl (by omega) (by decide) ?_
        rw [(ws j (by omega)).1]
        refine R_cS2p (N := m_X8_has) dX8_couldBe_57 l_X8_181 i_X8_has (n_has (s_bitR b2 _ (bSr j (by omega)))) rfl rfl ?_
        refine R_aload_n dX8_couldBe_60 rfl ?_
        refine R_get dX8_couldBe_61 f_X8_55 mo rfl ?_
        refine R_iconst (nI 2) dX8_couldBe_64 rfl ?_
        refine R_iload dX8_couldBe_65 rfl ?_
        refine R_imulN dX8_couldBe_67 ?_
        refine R_iconst (nI 1) dX8_couldBe_68 rfl ?_
        refine R_iaddN dX8_couldBe_69 ?_
        refine R_iald dX8_couldBe_70 m13 rfl (by omega) (by decide) ?_
        rw [(ws j (by omega)).2]
        refine R_iconst (nI 1) dX8_couldBe_71 rfl ?_
        refine R_icmpne 79 dX8_couldBe_72 rfl (fun c_72 => ?_) (fun c_72 => ?_)
        · have hh := x_b_n1.mp c_72
          refine R_iconst (nI 0) dX8_couldBe_79 rfl ?_
          refine R_icmpne 87 dX8_couldBe_80 rfl (fun c_80 => ?_) (fun c_80 => ?_)
          · have ha := x_b_n0.mp c_80
            have hs : nI 0 = x_b (s_ft (s_heard (z_F Z) p (q_pl (z_Q Z) p)) (z_S Z).2.1 (z_S Z).2.2 (j + 1)) := x_bf (by rw [s_ft, ha, hh]; simp)
            refine R_iconst (nI 0) dX8_couldBe_87 rfl ?_
            rw [hs]
            refine R_istore dX8_couldBe_88 (Nat.le_of_ble_eq_true rfl) rfl ?_
            refine R_iincN dX8_couldBe_90 rfl (Nat.le_of_ble_eq_true rfl) rfl ?_
            refine R_goto 33 dX8_couldBe_93 rfl ?_
            exact ih (j + 1) (by omega) (by omega)
          · have ha := x_b_is0.mp c_80
            have hs : nI 1 = x_b (s_ft (s_heard (z_F Z) p (q_pl (z_Q Z) p)) (z_S Z).2.1 (z_S Z).2.2 (j + 1)) := x_bt (by rw [s_ft, c_44, ha, hh]; rfl)
            refine R_iconst (nI 1) dX8_couldBe_83 rfl ?_
            refine R_goto 88 dX8_couldBe_84 rfl ?_
            rw [hs]
            refine R_istore dX8_couldBe_88 (Nat.le_of_ble_eq_true rfl) rfl ?_
            refine R_iincN dX8_couldBe_90 rfl (Nat.le_of_ble_eq_true rfl) rfl ?_
            refine R_goto 33 dX8_couldBe_93 rfl ?_
            exact ih (j + 1) (by omega) (by omega)
        · have hh := x_b_is1.mp c_72
          refine R_iconst (nI 1) dX8_couldBe_75 rfl ?_
          refine R_goto 80 dX8_couldBe_76 rfl ?_
          refine R_icmpne 87 dX8_couldBe_80 rfl (fun c_80 => ?_) (fun c_80 => ?_)
          · have ha := x_b_n1.mp c_80
            have hs : nI 0 = x_b (s_ft (s_heard (z_F Z) p (q_pl (z_Q Z) p)) (z_S Z).2.1 (z_S Z).2.2 (j + 1)) := x_bf (by rw [s_ft, ha, hh]; simp)
            refine R_iconst (nI 0) dX8_couldBe_87 rfl ?_
            rw [hs]
            refine R_istore dX8_couldBe_88 (Nat.le_of_ble_eq_true rfl) rfl ?_
            refine R_iincN dX8_couldBe_90 rfl (Nat.le_of_ble_eq_true rfl) rfl ?_
            refine R_goto 33 dX8_couldBe_93 rfl ?_
            exact ih (j + 1) (by omega) (by omega)
          · have ha := x_b_is1.mp c_80
            have hs : nI 1 = x_b (s_ft (s_heard (z_F Z) p (q_pl (z_Q Z) p)) (z_S Z).2.1 (z_S Z).2.2 (j + 1)) := x_bt (by rw [s_ft, c_44, ha, hh]; rfl)
            refine R_iconst (nI 1) dX8_couldBe_83 rfl ?_
            refine R_goto 88 dX8_couldBe_84 rfl ?_
            rw [hs]
            refine R_istore dX8_couldBe_88 (Nat.le_of_ble_eq_true rfl) rfl ?_
            refine R_iincN dX8_couldBe_90 rfl (Nat.le_of_ble_eq_true rfl) rfl ?_
            refine R_goto 33 dX8_couldBe_93 rfl ?_
            exact ih (j + 1) (by omega) (by omega)
theorem n_could_loop {h : xH} {Z : xZ} {k : Nat} {M : Nat → Nat → Int32} {sd : Nat → Int64} {kp t : Nat → Int32} (C : x_ML h Z M sd kp t) (hZ : x_ZB k Z) (hk : k ≤ 50000) : ∀ (m p : Nat), p ≤ z_P Z → z_P Z + 1 ≤ p + m → ∀ v3 v4 v5 : Option Value, x_Rn m_X8_couldBe 4 [some (.ref 372), some (.int (s_set p (s_sus (z_F Z) (z_Q Z) (z_S Z).1 (z_S Z).2.1 (z_S Z).2.2))), some (.int (nI p)), v3, v4, v5] [] h (0, 0) (x_pr (s_set (z_P Z) (s_sus (z_F Z) (z_Q Z) (z_S Z).1 (z_S Z).2.1 (z_S Z).2.2)) h) := by
  obtain ⟨HM, HZ⟩ := id C
  have mo : h[372]? = some (x_mob (z_X Z).1 (z_f Z) (z_N Z) (z_R Z) (z_D Z) (z_P Z) (z_T Z).1 (z_s Z) (z_S Z).1 (z_B Z).1 t) := HM.1
  have m8 : h[381]? = some (x_ia 51 (M 8)) := HM.2 8 (by decide)
  obtain ⟨w1, w2, w3, w4, w5, w6, w7, hq, wt, wi, wk, ws, wb, wx⟩ := id HZ
  obtain ⟨q0, q1, q2, q3, q9, q15, q21, q45⟩ := id hq
  have q21z : ∀ r, r < z_R Z → M 8 (21 + r) = q_la (z_Q Z) 0 r := fun r hr => q21 0 r (by decide) hr
  have hB : x_HB (z_N Z) (z_R Z) (z_D Z) (z_P Z) (z_F Z) := hZ.1.hb
  have hQ : x_QB (z_N Z) (z_R Z) (z_P Z) (z_Q Z) := hZ.2.1.1
  obtain ⟨⟨b1, b2, b3, b4⟩, b5, b6, b7⟩ := id hB
  obtain ⟨u1, u2, u3, u4, u5, u6, u7, u8, u9⟩ := id hQ
  have bT : (z_T Z).1 ≤ 30 := hZ.2.2.1.1
  have bs : z_s Z < 2 ^ 31 := hZ.2.2.2.2.1
  have bX : (z_X Z).1 ≤ 240 := hZ.2.2.2.2.2.1.1
  have bXc : ∀ i, i < (z_X Z).1 → (z_X Z).2 i < 256 := hZ.2.2.2.2.2.1.2
  have bS : (z_S Z).1 ≤ 6 := hZ.2.2.2.2.2.2.1.1
  have bSr : ∀ i, i < (z_S Z).1 → (z_S Z).2.1 i < z_R Z := hZ.2.2.2.2.2.2.1.2
  have bB : (z_B Z).1 ≤ 20 := hZ.2.2.2.2.2.2.2.1
  have bBr : ∀ i, i < (z_B Z).1 → (z_B Z).2.1 i < z_R Z := hZ.2.2.2.2.2.2.2.2
  intro m
  induction m with
  | zero => intro p h1 h3; omega
  | succ m ih =>
    intro p h1 h3 v3 v4 v5
    have tail : p < z_P Z → x_Rn m_X8_couldBe 96 [some (.ref 372), some (.int (s_set p (s_sus (z_F Z) (z_Q Z) (z_S Z).1 (z_S Z).2.1 (z_S Z).2.2))), some (.int (nI p)), some (.int (s_set (z_R Z) (s_heard (z_F Z) p (q_pl (z_Q Z) p)))), some (.int (x_b ((s_sus (z_F Z) (z_Q Z) (z_S Z).1 (z_S Z).2.1 (z_S Z).2.2) p))), some (.int (nI (z_S Z).1))] [] h (0, 0) (x_pr (s_set (z_P Z) (s_sus (z_F Z) (z_Q Z) (z_S Z).1 (z_S Z).2.1 (z_S Z).2.2)) h) := by
      intro hp
      refine R_iload_n dX8_couldBe_96 rfl ?_
      refine R_iload dX8_couldBe_97 rfl ?_
      refine R_ifeqB 108 dX8_couldBe_99 rfl (fun c_99 => ?_) (fun c_99 => ?_)
      · have hs := s_set_f2 (n := p) (f := (s_sus (z_F Z) (z_Q Z) (z_S Z).1 (z_S Z).2.1 (z_S Z).2.2)) c_99
        refine R_iconst (nI 0) dX8_couldBe_108 rfl ?_
        refine R_ior dX8_couldBe_109 ?_
        rw [hs]
        refine R_istore_n dX8_couldBe_110 (Nat.le_of_ble_eq_true rfl) rfl ?_
        refine R_iincN dX8_couldBe_111 rfl (Nat.le_of_ble_eq_true rfl) rfl ?_
        refine R_goto 4 dX8_couldBe_114 rfl ?_
        exact ih (p + 1) (by omega) (by omega) _ _ _
      · have hs := s_set_t (n := p) (f := (s_sus (z_F Z) (z_Q Z) (z_S Z).1 (z_S Z).2.1 (z_S Z).2.2)) c_99
        refine R_iconst (nI 1) dX8_couldBe_102 rfl ?_
        refine R_iload_n dX8_couldBe_103 rfl ?_
        refine R_ishl dX8_couldBe_104 ?_
        refine R_goto 109 dX8_couldBe_105 rfl ?_
        refine R_ior dX8_couldBe_109 ?_
        rw [hs]
        refine R_istore_n dX8_couldBe_110 (Nat.le_of_ble_eq_true rfl) rfl ?_
        refine R_iincN dX8_couldBe_111 rfl (Nat.le_of_ble_eq_true rfl) rfl ?_
        refine R_goto 4 dX8_couldBe_114 rfl ?_
        exact ih (p + 1) (by omega) (by omega) _ _ _
    refine R_iload_n dX8_couldBe_4 rfl ?_
    refine R_aload_n dX8_couldBe_5 rfl ?_
    refine R_get dX8_couldBe_6 f_X8_89 mo rfl ?_
    refine R_geN 117 dX8_couldBe_9 rfl (by omega) (by omega) (fun c_9 => ?_) (fun c_9 => ?_)
    · have e : p = z_P Z := by omega
      subst e
      refine R_iload_n dX8_couldBe_117 rfl ?_
      exact R_iret dX8_couldBe_118 rfl rfl rfl x_pr.mk
    · have hp : p < z_P Z := by omega
      refine R_aload_n dX8_couldBe_12 rfl ?_
      refine R_iload_n dX8_couldBe_13 rfl ?_
      refine R_aload_n dX8_couldBe_14 rfl ?_
      refine R_get dX8_couldBe_15 f_X8_38 mo rfl ?_
      refine R_bipush (nI 45) dX8_couldBe_18 rfl ?_
      refine R_iload_n dX8_couldBe_20 rfl ?_
      refine R_iaddN dX8_couldBe_21 ?_
      refine R_iald dX8_couldBe_22 m8 rfl (by omega) (by decide) ?_
      rw [q45 p (by omega)]
      refine R_cV2p (N := m_X8_hearsFrom) dX8_couldBe_23 l_X8_185 i_X8_hearsFrom mo (n_hears C hZ hk hp (u6 p hp)) rfl rfl ?_
      refine R_istore_n dX8_couldBe_26 (Nat.le_of_ble_eq_true rfl) rfl ?_
      refine R_iconst (nI 1) dX8_couldBe_27 rfl ?_
      refine R_istore dX8_couldBe_28 (Nat.le_of_ble_eq_true rfl) rfl ?_
      refine R_iconst (nI 0) dX8_couldBe_30 rfl ?_
      refine R_istore dX8_couldBe_31 (Nat.le_of_ble_eq_true rfl) rfl ?_
      exact n_could_in C hZ hk hp (tail hp) ((z_S Z).1 + 1) 0 (by omega) (by omega)
theorem n_couldBe {h : xH} {Z : xZ} {k : Nat} {M : Nat → Nat → Int32} {sd : Nat → Int64} {kp t : Nat → Int32} (C : x_ML h Z M sd kp t) (hZ : x_ZB k Z) (hk : k ≤ 50000) : x_Met m_X8_couldBe [.ref 372] h (x_pr (z_couldBe Z) h) := by

  refine x_Met.of (lo := [some (.ref 372), none, none, none, none, none]) (by decide) rfl rfl rfl ?_
  refine R_iconst (nI 0) dX8_couldBe_0 rfl ?_
  refine R_istore_n dX8_couldBe_1 (Nat.le_of_ble_eq_true rfl) rfl ?_
  refine R_iconst (nI 0) dX8_couldBe_2 rfl ?_
  refine R_istore_n dX8_couldBe_3 (Nat.le_of_ble_eq_true rfl) rfl ?_
  exact n_could_loop C hZ hk (z_P Z + 1) 0 (by omega) (by omega) none none none
theorem n_ask_in {h : xH} {Z : xZ} {k : Nat} {M : Nat → Nat → Int32} {sd : Nat → Int64} {kp t : Nat → Int32} (C : x_ML h Z M sd kp t) (hZ : x_ZB k Z) (hk : k ≤ 50000) {r : Nat} (hr : r < z_R Z) {x2 x3 x4 : Int32} {K : Option Value → xH → Prop} (kk : x_Rn m_X8_ask 91 [some (.ref 372), some (.int (s_set (z_P Z) (s_sus (z_F Z) (z_Q Z) (z_S Z).1 (z_S Z).2.1 (z_S Z).2.2))), some (.int x2), some (.int x3), some (.int x4), some (.int (nI r)), some (.int (nI (s_cnt (z_P Z) (fun p => (s_sus (z_F Z) (z_Q Z) (z_S Z).1 (z_S Z).2.1 (z_S Z).2.2) p && s_heard (z_F Z) p (q_pl (z_Q Z) p) r)))), some (.int (nI (z_P Z)))] [] h (0, 0) K) : ∀ (m p : Nat), p ≤ z_P Z → z_P Z + 1 ≤ p + m → x_Rn m_X8_ask 33 [some (.ref 372), some (.int (s_set (z_P Z) (s_sus (z_F Z) (z_Q Z) (z_S Z).1 (z_S Z).2.1 (z_S Z).2.2))), some (.int x2), some (.int x3), some (.int x4), some (.int (nI r)), some (.int (nI (s_cnt p (fun p => (s_sus (z_F Z) (z_Q Z) (z_S Z).1 (z_S Z).2.1 (z_S Z).2.2) p && s_heard (z_F Z) p (q_pl (z_Q Z) p) r)))), some (.int (nI p))] [] h (0, 0) K := by
  obtain ⟨HM, HZ⟩ := id C
  have mo : h[372]? = some (x_mob (z_X Z).1 (z_f Z) (z_N Z) (z_R Z) (z_D Z) (z_P Z) (z_T Z).1 (z_s Z) (z_S Z).1 (z_B Z).1 t) := HM.1
  have m8 : h[381]? = some (x_ia 51 (M 8)) := HM.2 8 (by decide)
  obtain ⟨w1, w2, w3, w4, w5, w6, w7, hq, wt, wi, wk, ws, wb, wx⟩ := id HZ
  obtain ⟨q0, q1, q2, q3, q9, q15, q21, q45⟩ := id hq
  have q21z : ∀ r, r < z_R Z → M 8 (21 + r) = q_la (z_Q Z) 0 r := fun r hr => q21 0 r (by decide) hr
  have hB : x_HB (z_N Z) (z_R Z) (z_D Z) (z_P Z) (z_F Z) := hZ.1.hb
  have hQ : x_QB (z_N Z) (z_R Z) (z_P Z) (z_Q Z) := hZ.2.1.1
  obtain ⟨⟨b1, b2, b3, b4⟩, b5, b6, b7⟩ := id hB
  obtain ⟨u1, u2, u3, u4, u5, u6, u7, u8, u9⟩ := id hQ
  have bT : (z_T Z).1 ≤ 30 := hZ.2.2.1.1
  have bs : z_s Z < 2 ^ 31 := hZ.2.2.2.2.1
  have bX : (z_X Z).1 ≤ 240 := hZ.2.2.2.2.2.1.1
  have bXc : ∀ i, i < (z_X Z).1 → (z_X Z).2 i < 256 := hZ.2.2.2.2.2.1.2
  have bS : (z_S Z).1 ≤ 6 := hZ.2.2.2.2.2.2.1.1
  have bSr : ∀ i, i < (z_S Z).1 → (z_S Z).2.1 i < z_R Z := hZ.2.2.2.2.2.2.1.2
  have bB : (z_B Z).1 ≤ 20 := hZ.2.2.2.2.2.2.2.1
  have bBr : ∀ i, i < (z_B Z).1 → (z_B Z).2.1 i < z_R Z := hZ.2.2.2.2.2.2.2.2
  intro m
  induction m with
  | zero => intro p h1 h3; omega
  | succ m ih =>
    intro p h1 h3
    refine R_iload dX8_ask_33 rfl ?_
    refine R_aload_n dX8_ask_35 rfl ?_
    refine R_get dX8_ask_36 f_X8_89 mo rfl ?_
    refine R_geN 91 dX8_ask_39 rfl (by omega) (by omega) (fun c_39 => ?_) (fun c_39 => ?_)
    · have e : p = z_P Z := by omega
      subst e
      exact kk
    · refine R_iload dX8_ask_42 rfl ?_
      refine R_iload_n dX8_ask_44 rfl ?_
      refine R_iload dX8_ask_45 rfl ?_
      refine R_cS2p (N := m_X8_has) dX8_ask_47 l_X8_181 i_X8_has (n_has (s_bitR b4 (s_sus (z_F Z) (z_Q Z) (z_S Z).1 (z_S Z).2.1 (z_S Z).2.2) (by omega))) rfl rfl ?_
      refine R_ifeqB 81 dX8_ask_50 rfl (fun c_50 => ?_) (fun c_50 => ?_)
      · have hs : s_cnt p (fun p => (s_sus (z_F Z) (z_Q Z) (z_S Z).1 (z_S Z).2.1 (z_S Z).2.2) p && s_heard (z_F Z) p (q_pl (z_Q Z) p) r) + 0 = s_cnt (p + 1) (fun p => (s_sus (z_F Z) (z_Q Z) (z_S Z).1 (z_S Z).2.1 (z_S Z).2.2) p && s_heard (z_F Z) p (q_pl (z_Q Z) p) r) := by rw [s_cnt, if_neg (by rw [c_50]; simp)]; rfl
        refine R_iconst (nI 0) dX8_ask_81 rfl ?_
        refine R_iaddN dX8_ask_82 ?_
        rw [hs]
        refine R_istore dX8_ask_83 (Nat.le_of_ble_eq_true rfl) rfl ?_
        refine R_iincN dX8_ask_85 rfl (Nat.le_of_ble_eq_true rfl) rfl ?_
        refine R_goto 33 dX8_ask_88 rfl ?_
        exact ih (p + 1) (by omega) (by omega)
      · refine R_aload_n dX8_ask_53 rfl ?_
        refine R_iload dX8_ask_54 rfl ?_
        refine R_aload_n dX8_ask_56 rfl ?_
        refine R_get dX8_ask_57 f_X8_38 mo rfl ?_
        refine R_bipush (nI 45) dX8_ask_60 rfl ?_
        refine R_iload dX8_ask_62 rfl ?_
        refine R_iaddN dX8_ask_64 ?_
        refine R_iald dX8_ask_65 m8 rfl (by omega) (by decide) ?_
        rw [q45 p (by omega)]
        refine R_cV2p (N := m_X8_hearsFrom) dX8_ask_66 l_X8_185 i_X8_hearsFrom mo (n_hears C hZ hk (p := p) (by omega) (u6 p (by omega))) rfl rfl ?_
        refine R_iload dX8_ask_69 rfl ?_
        refine R_cS2p (N := m_X8_has) dX8_ask_71 l_X8_181 i_X8_has (n_has (s_bitR b2 _ hr)) rfl rfl ?_
        refine R_ifeqB 81 dX8_ask_74 rfl (fun c_74 => ?_) (fun c_74 => ?_)
        · have hs : s_cnt p (fun p => (s_sus (z_F Z) (z_Q Z) (z_S Z).1 (z_S Z).2.1 (z_S Z).2.2) p && s_heard (z_F Z) p (q_pl (z_Q Z) p) r) + 0 = s_cnt (p + 1) (fun p => (s_sus (z_F Z) (z_Q Z) (z_S Z).1 (z_S Z).2.1 (z_S Z).2.2) p && s_heard (z_F Z) p (q_pl (z_Q Z) p) r) := by rw [s_cnt, if_neg (by rw [c_74]; simp)]; rfl
          refine R_iconst (nI 0) dX8_ask_81 rfl ?_
          refine R_iaddN dX8_ask_82 ?_
          rw [hs]
          refine R_istore dX8_ask_83 (Nat.le_of_ble_eq_true rfl) rfl ?_
          refine R_iincN dX8_ask_85 rfl (Nat.le_of_ble_eq_true rfl) rfl ?_
          refine R_goto 33 dX8_ask_88 rfl ?_
          exact ih (p + 1) (by omega) (by omega)
        · have hs : s_cnt p (fun p => (s_sus (z_F Z) (z_Q Z) (z_S Z).1 (z_S Z).2.1 (z_S Z).2.2) p && s_heard (z_F Z) p (q_pl (z_Q Z) p) r) + 1 = s_cnt (p + 1) (fun p => (s_sus (z_F Z) (z_Q Z) (z_S Z).1 (z_S Z).2.1 (z_S Z).2.2) p && s_heard (z_F Z) p (q_pl (z_Q Z) p) r) := by rw [s_cnt, if_pos (by rw [c_50, c_74]; rfl)]
          refine R_iconst (nI 1) dX8_ask_77 rfl ?_
          refine R_goto 82 dX8_ask_78 rfl ?_
          refine R_iaddN dX8_ask_82 ?_
          rw [hs]
          refine R_istore dX8_ask_83 (Nat.le_of_ble_eq_true rfl) rfl ?_
          refine R_iincN dX8_ask_85 rfl (Nat.le_of_ble_eq_true rfl) rfl ?_
          refine R_goto 33 dX8_ask_88 rfl ?_
          exact ih (p + 1) (by omega) (by omega)
theorem n_ask_loop {h : xH} {Z : xZ} {k : Nat} {M : Nat → Nat → Int32} {sd : Nat → Int64} {kp t : Nat → Int32} (C : x_ML h Z M sd kp t) (hZ : x_ZB k Z) (hk : k ≤ 50000) : ∀ (m r : Nat), r ≤ z_R Z → z_R Z + 1 ≤ r + m → ∀ v6 v7 : Option Value, x_Rn m_X8_ask 18 [some (.ref 372), some (.int (s_set (z_P Z) (s_sus (z_F Z) (z_Q Z) (z_S Z).1 (z_S Z).2.1 (z_S Z).2.2))), some (.int (nI (s_cnt (z_P Z) (s_sus (z_F Z) (z_Q Z) (z_S Z).1 (z_S Z).2.1 (z_S Z).2.2)))), some (.int (s_best (z_P Z) (z_F Z) (z_Q Z) (s_sus (z_F Z) (z_Q Z) (z_S Z).1 (z_S Z).2.1 (z_S Z).2.2) r).1), some (.int (nI (s_best (z_P Z) (z_F Z) (z_Q Z) (s_sus (z_F Z) (z_Q Z) (z_S Z).1 (z_S Z).2.1 (z_S Z).2.2) r).2)), some (.int (nI r)), v6, v7] [] h (0, 0) (x_pr (z_ask Z) h) := by
  obtain ⟨HM, HZ⟩ := id C
  have mo : h[372]? = some (x_mob (z_X Z).1 (z_f Z) (z_N Z) (z_R Z) (z_D Z) (z_P Z) (z_T Z).1 (z_s Z) (z_S Z).1 (z_B Z).1 t) := HM.1
  have m8 : h[381]? = some (x_ia 51 (M 8)) := HM.2 8 (by decide)
  obtain ⟨w1, w2, w3, w4, w5, w6, w7, hq, wt, wi, wk, ws, wb, wx⟩ := id HZ
  obtain ⟨q0, q1, q2, q3, q9, q15, q21, q45⟩ := id hq
  have q21z : ∀ r, r < z_R Z → M 8 (21 + r) = q_la (z_Q Z) 0 r := fun r hr => q21 0 r (by decide) hr
  have hB : x_HB (z_N Z) (z_R Z) (z_D Z) (z_P Z) (z_F Z) := hZ.1.hb
  have hQ : x_QB (z_N Z) (z_R Z) (z_P Z) (z_Q Z) := hZ.2.1.1
  obtain ⟨⟨b1, b2, b3, b4⟩, b5, b6, b7⟩ := id hB
  obtain ⟨u1, u2, u3, u4, u5, u6, u7, u8, u9⟩ := id hQ
  have bT : (z_T Z).1 ≤ 30 := hZ.2.2.1.1
  have bs : z_s Z < 2 ^ 31 := hZ.2.2.2.2.1
  have bX : (z_X Z).1 ≤ 240 := hZ.2.2.2.2.2.1.1
  have bXc : ∀ i, i < (z_X Z).1 → (z_X Z).2 i < 256 := hZ.2.2.2.2.2.1.2
  have bS : (z_S Z).1 ≤ 6 := hZ.2.2.2.2.2.2.1.1
  have bSr : ∀ i, i < (z_S Z).1 → (z_S Z).2.1 i < z_R Z := hZ.2.2.2.2.2.2.1.2
  have bB : (z_B Z).1 ≤ 20 := hZ.2.2.2.2.2.2.2.1
  have bBr : ∀ i, i < (z_B Z).1 → (z_B Z).2.1 i < z_R Z := hZ.2.2.2.2.2.2.2.2
  intro m
  induction m with
  | zero => intro r h1 h3; omega
  | succ m ih =>
    intro r h1 h3 v6 v7
    have tail : r < z_R Z → x_Rn m_X8_ask 91 [some (.ref 372), some (.int (s_set (z_P Z) (s_sus (z_F Z) (z_Q Z) (z_S Z).1 (z_S Z).2.1 (z_S Z).2.2))), some (.int (nI (s_cnt (z_P Z) (s_sus (z_F Z) (z_Q Z) (z_S Z).1 (z_S Z).2.1 (z_S Z).2.2)))), some (.int (s_best (z_P Z) (z_F Z) (z_Q Z) (s_sus (z_F Z) (z_Q Z) (z_S Z).1 (z_S Z).2.1 (z_S Z).2.2) r).1), some (.int (nI (s_best (z_P Z) (z_F Z) (z_Q Z) (s_sus (z_F Z) (z_Q Z) (z_S Z).1 (z_S Z).2.1 (z_S Z).2.2) r).2)), some (.int (nI r)), some (.int (nI (s_cnt (z_P Z) (fun p => (s_sus (z_F Z) (z_Q Z) (z_S Z).1 (z_S Z).2.1 (z_S Z).2.2) p && s_heard (z_F Z) p (q_pl (z_Q Z) p) r)))), some (.int (nI (z_P Z)))] [] h (0, 0) (x_pr (z_ask Z) h) := by
      intro hr
      have e1 : (s_part (z_P Z) (z_F Z) (z_Q Z) (s_sus (z_F Z) (z_Q Z) (z_S Z).1 (z_S Z).2.1 (z_S Z).2.2) r) = max (s_cnt (z_P Z) (fun p => (s_sus (z_F Z) (z_Q Z) (z_S Z).1 (z_S Z).2.1 (z_S Z).2.2) p && s_heard (z_F Z) p (q_pl (z_Q Z) p) r)) ((s_cnt (z_P Z) (s_sus (z_F Z) (z_Q Z) (z_S Z).1 (z_S Z).2.1 (z_S Z).2.2)) - (s_cnt (z_P Z) (fun p => (s_sus (z_F Z) (z_Q Z) (z_S Z).1 (z_S Z).2.1 (z_S Z).2.2) p && s_heard (z_F Z) p (q_pl (z_Q Z) p) r))) := rfl
      have e2 := s_cnt_le (s_sus (z_F Z) (z_Q Z) (z_S Z).1 (z_S Z).2.1 (z_S Z).2.2) (z_P Z)
      have e3 := s_cnt_and (s_sus (z_F Z) (z_Q Z) (z_S Z).1 (z_S Z).2.1 (z_S Z).2.2) (fun p => s_heard (z_F Z) p (q_pl (z_Q Z) p) r) (z_P Z)
      have e4 := s_best_le (z_P Z) (z_F Z) (z_Q Z) (s_sus (z_F Z) (z_Q Z) (z_S Z).1 (z_S Z).2.1 (z_S Z).2.2) r
      refine R_iload dX8_ask_91 rfl ?_
      refine R_iload_n dX8_ask_93 rfl ?_
      refine R_iload dX8_ask_94 rfl ?_
      refine R_isubN dX8_ask_96 (by omega) ?_
      refine R_leN 105 dX8_ask_97 rfl (by omega) (by omega) (fun c_97 => ?_) (fun c_97 => ?_)
      · have hpt : (s_cnt (z_P Z) (s_sus (z_F Z) (z_Q Z) (z_S Z).1 (z_S Z).2.1 (z_S Z).2.2)) - (s_cnt (z_P Z) (fun p => (s_sus (z_F Z) (z_Q Z) (z_S Z).1 (z_S Z).2.1 (z_S Z).2.2) p && s_heard (z_F Z) p (q_pl (z_Q Z) p) r)) = (s_part (z_P Z) (z_F Z) (z_Q Z) (s_sus (z_F Z) (z_Q Z) (z_S Z).1 (z_S Z).2.1 (z_S Z).2.2) r) := by omega
        refine R_iload_n dX8_ask_105 rfl ?_
        refine R_iload dX8_ask_106 rfl ?_
        refine R_isubN dX8_ask_108 (by omega) ?_
        rw [hpt]
        refine R_istore dX8_ask_109 (Nat.le_of_ble_eq_true rfl) rfl ?_
        refine R_iload dX8_ask_111 rfl ?_
        refine R_iload dX8_ask_113 rfl ?_
        refine R_geN 123 dX8_ask_115 rfl (by omega) (by omega) (fun c_115 => ?_) (fun c_115 => ?_)
        · have hs : (s_best (z_P Z) (z_F Z) (z_Q Z) (s_sus (z_F Z) (z_Q Z) (z_S Z).1 (z_S Z).2.1 (z_S Z).2.2) (r + 1)) = (s_best (z_P Z) (z_F Z) (z_Q Z) (s_sus (z_F Z) (z_Q Z) (z_S Z).1 (z_S Z).2.1 (z_S Z).2.2) r) := by rw [s_best, if_neg (by omega)]
          refine R_iload_n dX8_ask_123 rfl ?_
          refine R_istore_n dX8_ask_124 (Nat.le_of_ble_eq_true rfl) rfl ?_
          refine R_iload dX8_ask_125 rfl ?_
          refine R_iload dX8_ask_127 rfl ?_
          refine R_geN 137 dX8_ask_129 rfl (by omega) (by omega) (fun c_129 => ?_) (fun c_129 => ?_)
          · skip
            refine R_iload dX8_ask_137 rfl ?_
            refine R_istore dX8_ask_139 (Nat.le_of_ble_eq_true rfl) rfl ?_
            refine R_iincN dX8_ask_141 rfl (Nat.le_of_ble_eq_true rfl) rfl ?_
            refine R_goto 18 dX8_ask_144 rfl ?_
            have key := ih (r + 1) (by omega) (by omega)
            rw [hs] at key
            exact key _ _
          · omega
        · have hs : (s_best (z_P Z) (z_F Z) (z_Q Z) (s_sus (z_F Z) (z_Q Z) (z_S Z).1 (z_S Z).2.1 (z_S Z).2.2) (r + 1)) = (nI r, (s_part (z_P Z) (z_F Z) (z_Q Z) (s_sus (z_F Z) (z_Q Z) (z_S Z).1 (z_S Z).2.1 (z_S Z).2.2) r)) := by rw [s_best, if_pos (by omega)]
          refine R_iload dX8_ask_118 rfl ?_
          refine R_goto 124 dX8_ask_120 rfl ?_
          refine R_istore_n dX8_ask_124 (Nat.le_of_ble_eq_true rfl) rfl ?_
          refine R_iload dX8_ask_125 rfl ?_
          refine R_iload dX8_ask_127 rfl ?_
          refine R_geN 137 dX8_ask_129 rfl (by omega) (by omega) (fun c_129 => ?_) (fun c_129 => ?_)
          · omega
          · skip
            refine R_iload dX8_ask_132 rfl ?_
            refine R_goto 139 dX8_ask_134 rfl ?_
            refine R_istore dX8_ask_139 (Nat.le_of_ble_eq_true rfl) rfl ?_
            refine R_iincN dX8_ask_141 rfl (Nat.le_of_ble_eq_true rfl) rfl ?_
            refine R_goto 18 dX8_ask_144 rfl ?_
            have key := ih (r + 1) (by omega) (by omega)
            rw [hs] at key
            exact key _ _
      · have hpt : (s_cnt (z_P Z) (fun p => (s_sus (z_F Z) (z_Q Z) (z_S Z).1 (z_S Z).2.1 (z_S Z).2.2) p && s_heard (z_F Z) p (q_pl (z_Q Z) p) r)) = (s_part (z_P Z) (z_F Z) (z_Q Z) (s_sus (z_F Z) (z_Q Z) (z_S Z).1 (z_S Z).2.1 (z_S Z).2.2) r) := by omega
        refine R_iload dX8_ask_100 rfl ?_
        refine R_goto 109 dX8_ask_102 rfl ?_
        rw [hpt]
        refine R_istore dX8_ask_109 (Nat.le_of_ble_eq_true rfl) rfl ?_
        refine R_iload dX8_ask_111 rfl ?_
        refine R_iload dX8_ask_113 rfl ?_
        refine R_geN 123 dX8_ask_115 rfl (by omega) (by omega) (fun c_115 => ?_) (fun c_115 => ?_)
        · have hs : (s_best (z_P Z) (z_F Z) (z_Q Z) (s_sus (z_F Z) (z_Q Z) (z_S Z).1 (z_S Z).2.1 (z_S Z).2.2) (r + 1)) = (s_best (z_P Z) (z_F Z) (z_Q Z) (s_sus (z_F Z) (z_Q Z) (z_S Z).1 (z_S Z).2.1 (z_S Z).2.2) r) := by rw [s_best, if_neg (by omega)]
          refine R_iload_n dX8_ask_123 rfl ?_
          refine R_istore_n dX8_ask_124 (Nat.le_of_ble_eq_true rfl) rfl ?_
          refine R_iload dX8_ask_125 rfl ?_
          refine R_iload dX8_ask_127 rfl ?_
          refine R_geN 137 dX8_ask_129 rfl (by omega) (by omega) (fun c_129 => ?_) (fun c_129 => ?_)
          · skip
            refine R_iload dX8_ask_137 rfl ?_
            refine R_istore dX8_ask_139 (Nat.le_of_ble_eq_true rfl) rfl ?_
            refine R_iincN dX8_ask_141 rfl (Nat.le_of_ble_eq_true rfl) rfl ?_
            refine R_goto 18 dX8_ask_144 rfl ?_
            have key := ih (r + 1) (by omega) (by omega)
            rw [hs] at key
            exact key _ _
          · omega
        · have hs : (s_best (z_P Z) (z_F Z) (z_Q Z) (s_sus (z_F Z) (z_Q Z) (z_S Z).1 (z_S Z).2.1 (z_S Z).2.2) (r + 1)) = (nI r, (s_part (z_P Z) (z_F Z) (z_Q Z) (s_sus (z_F Z) (z_Q Z) (z_S Z).1 (z_S Z).2.1 (z_S Z).2.2) r)) := by rw [s_best, if_pos (by omega)]
          refine R_iload dX8_ask_118 rfl ?_
          refine R_goto 124 dX8_ask_120 rfl ?_
          refine R_istore_n dX8_ask_124 (Nat.le_of_ble_eq_true rfl) rfl ?_
          refine R_iload dX8_ask_125 rfl ?_
          refine R_iload dX8_ask_127 rfl ?_
          refine R_geN 137 dX8_ask_129 rfl (by omega) (by omega) (fun c_129 => ?_) (fun c_129 => ?_)
          · omega
          · skip
            refine R_iload dX8_ask_132 rfl ?_
            refine R_goto 139 dX8_ask_134 rfl ?_
            refine R_istore dX8_ask_139 (Nat.le_of_ble_eq_true rfl) rfl ?_
            refine R_iincN dX8_ask_141 rfl (Nat.le_of_ble_eq_true rfl) rfl ?_
            refine R_goto 18 dX8_ask_144 rfl ?_
            have key := ih (r + 1) (by omega) (by omega)
            rw [hs] at key
            exact key _ _
    refine R_iload dX8_ask_18 rfl ?_
    refine R_aload_n dX8_ask_20 rfl ?_
    refine R_get dX8_ask_21 f_X8_82 mo rfl ?_
    refine R_geN 147 dX8_ask_24 rfl (by omega) (by omega) (fun c_24 => ?_) (fun c_24 => ?_)
    · have e : r = z_R Z := by omega
      subst e
      refine R_iload_n dX8_ask_147 rfl ?_
      exact R_iret dX8_ask_148 rfl rfl rfl x_pr.mk
    · have hr : r < z_R Z := by omega
      refine R_iconst (nI 0) dX8_ask_27 rfl ?_
      refine R_istore dX8_ask_28 (Nat.le_of_ble_eq_true rfl) rfl ?_
      refine R_iconst (nI 0) dX8_ask_30 rfl ?_
      refine R_istore dX8_ask_31 (Nat.le_of_ble_eq_true rfl) rfl ?_
      exact n_ask_in C hZ hk hr (tail hr) (z_P Z + 1) 0 (by omega) (by omega)
theorem n_ask {h : xH} {Z : xZ} {k : Nat} {M : Nat → Nat → Int32} {sd : Nat → Int64} {kp t : Nat → Int32} (C : x_ML h Z M sd kp t) (hZ : x_ZB k Z) (hk : k ≤ 50000) : x_Met m_X8_ask [.ref 372] h (x_pr (z_ask Z) h) := by
  obtain ⟨HM, HZ⟩ := id C
  have mo : h[372]? = some (x_mob (z_X Z).1 (z_f Z) (z_N Z) (z_R Z) (z_D Z) (z_P Z) (z_T Z).1 (z_s Z) (z_S Z).1 (z_B Z).1 t) := HM.1
  obtain ⟨w1, w2, w3, w4, w5, w6, w7, hq, wt, wi, wk, ws, wb, wx⟩ := id HZ
  obtain ⟨q0, q1, q2, q3, q9, q15, q21, q45⟩ := id hq
  have q21z : ∀ r, r < z_R Z → M 8 (21 + r) = q_la (z_Q Z) 0 r := fun r hr => q21 0 r (by decide) hr
  have hB : x_HB (z_N Z) (z_R Z) (z_D Z) (z_P Z) (z_F Z) := hZ.1.hb
  have hQ : x_QB (z_N Z) (z_R Z) (z_P Z) (z_Q Z) := hZ.2.1.1
  obtain ⟨⟨b1, b2, b3, b4⟩, b5, b6, b7⟩ := id hB
  obtain ⟨u1, u2, u3, u4, u5, u6, u7, u8, u9⟩ := id hQ
  have bT : (z_T Z).1 ≤ 30 := hZ.2.2.1.1
  have bs : z_s Z < 2 ^ 31 := hZ.2.2.2.2.1
  have bX : (z_X Z).1 ≤ 240 := hZ.2.2.2.2.2.1.1
  have bXc : ∀ i, i < (z_X Z).1 → (z_X Z).2 i < 256 := hZ.2.2.2.2.2.1.2
  have bS : (z_S Z).1 ≤ 6 := hZ.2.2.2.2.2.2.1.1
  have bSr : ∀ i, i < (z_S Z).1 → (z_S Z).2.1 i < z_R Z := hZ.2.2.2.2.2.2.1.2
  have bB : (z_B Z).1 ≤ 20 := hZ.2.2.2.2.2.2.2.1
  have bBr : ∀ i, i < (z_B Z).1 → (z_B Z).2.1 i < z_R Z := hZ.2.2.2.2.2.2.2.2
  refine x_Met.of (lo := [some (.ref 372), none, none, none, none, none, none, none]) (by decide) rfl rfl rfl ?_
  refine R_aload_n dX8_ask_0 rfl ?_
  refine R_cV0p (N := m_X8_couldBe) dX8_ask_1 l_X8_291 i_X8_couldBe mo (n_couldBe C hZ hk) rfl rfl ?_
  refine R_istore_n dX8_ask_4 (Nat.le_of_ble_eq_true rfl) rfl ?_
  refine R_iload_n dX8_ask_5 rfl ?_
  refine R_cS1p (N := m_X8_bits) dX8_ask_6 l_X8_206 i_X8_bits (n_bits b4 (s_sus (z_F Z) (z_Q Z) (z_S Z).1 (z_S Z).2.1 (z_S Z).2.2)) rfl rfl ?_
  refine R_istore_n dX8_ask_9 (Nat.le_of_ble_eq_true rfl) rfl ?_
  refine R_iconst (-1) dX8_ask_10 rfl ?_
  refine R_istore_n dX8_ask_11 (Nat.le_of_ble_eq_true rfl) rfl ?_
  refine R_iload_n dX8_ask_12 rfl ?_
  refine R_istore dX8_ask_13 (Nat.le_of_ble_eq_true rfl) rfl ?_
  refine R_iconst (nI 0) dX8_ask_15 rfl ?_
  refine R_istore dX8_ask_16 (Nat.le_of_ble_eq_true rfl) rfl ?_
  exact n_ask_loop C hZ hk (z_R Z + 1) 0 (by omega) (by omega) none none
