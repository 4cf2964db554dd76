/-! THE MODEL's calls that only look, 4 -/
theorem x_has3 {w : Int32} (h0 : ¬ w = 0) (h1 : ¬ w = nI 1) (h2 : ¬ w = nI 2) : x_has w 3 = false := by
  cases h : x_has w 3 with
  | false => rfl
  | true =>
    obtain ⟨k, hk, rfl⟩ := x_has_t (by decide) h
    rcases (show k = 0 ∨ k = 1 ∨ k = 2 by omega) with rfl | rfl | rfl
    · exact absurd rfl h0
    · exact absurd rfl h1
    · exact absurd rfl h2
theorem n_fault {h : xH} {Z : xZ} {k : Nat} {M : Nat → Nat → Int32} {sd : Nat → Int64} {kp t : Nat → Int32} (C : x_ML h Z M sd kp t) (hZ : x_ZB k Z) (hk : k ≤ 50000) : x_Met m_X8_fault [.ref 372] h (x_pr (z_f Z) h) := by
  obtain ⟨HM, HZ⟩ := id C
  have mo : h[372]? = some (x_mob (z_X Z).1 (z_f Z) (z_N Z) (z_R Z) (z_D Z) (z_P Z) (z_T Z).1 (z_s Z) (z_S Z).1 (z_B Z).1 t) := HM.1
  obtain ⟨w1, w2, w3, w4, w5, w6, w7, hq, wt, wi, wk, ws, wb, wx⟩ := id HZ
  obtain ⟨q0, q1, q2, q3, q9, q15, q21, q45⟩ := id hq
  have q21z : ∀ r, r < z_R Z → M 8 (21 + r) = q_la (z_Q Z) 0 r := fun r hr => q21 0 r (by decide) hr
  have hB : x_HB (z_N Z) (z_R Z) (z_D Z) (z_P Z) (z_F Z) := hZ.1.hb
  have hQ : x_QB (z_N Z) (z_R Z) (z_P Z) (z_Q Z) := hZ.2.1.1
  obtain ⟨⟨b1, b2, b3, b4⟩, b5, b6, b7⟩ := id hB
  obtain ⟨u1, u2, u3, u4, u5, u6, u7, u8, u9⟩ := id hQ
  have bT : (z_T Z).1 ≤ 30 := hZ.2.2.1.1
  have bs : z_s Z < 2 ^ 31 := hZ.2.2.2.2.1
  have bX : (z_X Z).1 ≤ 240 := hZ.2.2.2.2.2.1.1
  have bXc : ∀ i, i < (z_X Z).1 → (z_X Z).2 i < 256 := hZ.2.2.2.2.2.1.2
  have bS : (z_S Z).1 ≤ 6 := hZ.2.2.2.2.2.2.1.1
  have bSr : ∀ i, i < (z_S Z).1 → (z_S Z).2.1 i < z_R Z := hZ.2.2.2.2.2.2.1.2
  have bB : (z_B Z).1 ≤ 20 := hZ.2.2.2.2.2.2.2.1
  have bBr : ∀ i, i < (z_B Z).1 → (z_B Z).2.1 i < z_R Z := hZ.2.2.2.2.2.2.2.2
  refine x_Met.of (lo := [some (.ref 372)]) (by decide) rfl rfl rfl ?_
  refine R_aload_n dX8_fault_0 rfl ?_
  refine R_get dX8_fault_1 f_X8_13 mo rfl ?_
  exact R_iret dX8_fault_4 rfl rfl rfl x_pr.mk
theorem n_told {h : xH} {Z : xZ} {k : Nat} {M : Nat → Nat → Int32} {sd : Nat → Int64} {kp t : Nat → Int32} (C : x_ML h Z M sd kp t) (hZ : x_ZB k Z) (hk : k ≤ 50000) (w : Int32) : x_Met m_X8_told [.ref 372, .int w] h (x_pr (z_told Z w) h) := by
  obtain ⟨HM, HZ⟩ := id C
  have mo : h[372]? = some (x_mob (z_X Z).1 (z_f Z) (z_N Z) (z_R Z) (z_D Z) (z_P Z) (z_T Z).1 (z_s Z) (z_S Z).1 (z_B Z).1 t) := HM.1
  have m8 : h[381]? = some (x_ia 51 (M 8)) := HM.2 8 (by decide)
  obtain ⟨w1, w2, w3, w4, w5, w6, w7, hq, wt, wi, wk, ws, wb, wx⟩ := id HZ
  obtain ⟨q0, q1, q2, q3, q9, q15, q21, q45⟩ := id hq
  have q21z : ∀ r, r < z_R Z → M 8 (21 + r) = q_la (z_Q Z) 0 r := fun r hr => q21 0 r (by decide) hr
  have hB : x_HB (z_N Z) (z_R Z) (z_D Z) (z_P Z) (z_F Z) := hZ.1.hb
  have hQ : x_QB (z_N Z) (z_R Z) (z_P Z) (z_Q Z) := hZ.2.1.1
  obtain ⟨⟨b1, b2, b3, b4⟩, b5, b6, b7⟩ := id hB
  obtain ⟨u1, u2, u3, u4, u5, u6, u7, u8, u9⟩ := id hQ
  have bT : (z_T Z).1 ≤ 30 := hZ.2.2.1.1
  have bs : z_s Z < 2 ^ 31 := hZ.2.2.2.2.1
  have bX : (z_X Z).1 ≤ 240 := hZ.2.2.2.2.2.1.1
  have bXc : ∀ i, i < (z_X Z).1 → (z_X Z).2 i < 256 := hZ.2.2.2.2.2.1.2
  have bS : (z_S Z).1 ≤ 6 := hZ.2.2.2.2.2.2.1.1
  have bSr : ∀ i, i < (z_S Z).1 → (z_S Z).2.1 i < z_R Z := hZ.2.2.2.2.2.2.1.2
  have bB : (z_B Z).1 ≤ 20 := hZ.2.2.2.2.2.2.2.1
  have bBr : ∀ i, i < (z_B Z).1 → (z_B Z).2.1 i < z_R Z := hZ.2.2.2.2.2.2.2.2
  refine x_Met.of (lo := [some (.ref 372), some (.int w)]) (by decide) rfl rfl rfl ?_
  refine R_iload_n dX8_told_0 rfl ?_
  cases hx1 : x_has w 14 with
  | false =>
    refine R_tout 138 dX8_told_1 (by have := x_tout hx1; omega) rfl ?_
    refine R_ldc (-1000000002) dX8_told_138 k_X8_95 ?_
    exact R_iret dX8_told_140 rfl rfl rfl (x_pr.eq (by rw [z_told, z_tab_f hx1]))
  | true =>
    obtain ⟨k1, hk1, rfl⟩ := x_has_t (by decide) hx1
    have hk1 : k1 = 0 ∨ k1 = 1 ∨ k1 = 2 ∨ k1 = 3 ∨ k1 = 4 ∨ k1 = 5 ∨ k1 = 6 ∨ k1 = 7 ∨ k1 = 8 ∨ k1 = 9 ∨ k1 = 10 ∨ k1 = 11 ∨ k1 = 12 ∨ k1 = 13 := by omega
    rcases hk1 with rfl | rfl | rfl | rfl | rfl | rfl | rfl | rfl | rfl | rfl | rfl | rfl | rfl | rfl
    · refine R_tin 72 dX8_told_1 (by decide) (by decide) rfl rfl ?_
      refine R_aload_n dX8_told_72 rfl ?_
      refine R_get dX8_told_73 f_X8_154 mo rfl ?_
      exact R_iret dX8_told_76 rfl rfl rfl (x_pr.eq (by rw [z_told, z_tab_t (by decide) (by decide)]; rfl))
    · refine R_tin 77 dX8_told_1 (by decide) (by decide) rfl rfl ?_
      refine R_aload_n dX8_told_77 rfl ?_
      refine R_get dX8_told_78 f_X8_82 mo rfl ?_
      exact R_iret dX8_told_81 rfl rfl rfl (x_pr.eq (by rw [z_told, z_tab_t (by decide) (by decide)]; rfl))
    · refine R_tin 82 dX8_told_1 (by decide) (by decide) rfl rfl ?_
      refine R_aload_n dX8_told_82 rfl ?_
      refine R_get dX8_told_83 f_X8_92 mo rfl ?_
      exact R_iret dX8_told_86 rfl rfl rfl (x_pr.eq (by rw [z_told, z_tab_t (by decide) (by decide)]; rfl))
    · refine R_tin 87 dX8_told_1 (by decide) (by decide) rfl rfl ?_
      refine R_aload_n dX8_told_87 rfl ?_
      refine R_get dX8_told_88 f_X8_89 mo rfl ?_
      exact R_iret dX8_told_91 rfl rfl rfl (x_pr.eq (by rw [z_told, z_tab_t (by decide) (by decide)]; rfl))
    · refine R_tin 92 dX8_told_1 (by decide) (by decide) rfl rfl ?_
      refine R_aload_n dX8_told_92 rfl ?_
      refine R_get dX8_told_93 f_X8_96 mo rfl ?_
      exact R_iret dX8_told_96 rfl rfl rfl (x_pr.eq (by rw [z_told, z_tab_t (by decide) (by decide)]; rfl))
    · refine R_tin 97 dX8_told_1 (by decide) (by decide) rfl rfl ?_
      refine R_aload_n dX8_told_97 rfl ?_
      refine R_get dX8_told_98 f_X8_38 mo rfl ?_
      refine R_iconst (nI 0) dX8_told_101 rfl ?_
      refine R_iload_n dX8_told_102 rfl ?_
      refine R_iaddN dX8_told_103 ?_
      refine R_iconst (nI 5) dX8_told_104 rfl ?_
      refine R_isubN dX8_told_105 (by omega) ?_
      refine R_iald dX8_told_106 m8 rfl (by omega) (by decide) ?_
      rw [show M 8 (0 + 5 - 5) = _ from q0]
      exact R_iret dX8_told_107 rfl rfl rfl (x_pr.eq (by rw [z_told, z_tab_t (by decide) (by decide)]; rfl))
    · refine R_tin 97 dX8_told_1 (by decide) (by decide) rfl rfl ?_
      refine R_aload_n dX8_told_97 rfl ?_
      refine R_get dX8_told_98 f_X8_38 mo rfl ?_
      refine R_iconst (nI 0) dX8_told_101 rfl ?_
      refine R_iload_n dX8_told_102 rfl ?_
      refine R_iaddN dX8_told_103 ?_
      refine R_iconst (nI 5) dX8_told_104 rfl ?_
      refine R_isubN dX8_told_105 (by omega) ?_
      refine R_iald dX8_told_106 m8 rfl (by omega) (by decide) ?_
      rw [show M 8 (0 + 6 - 5) = _ from q1]
      exact R_iret dX8_told_107 rfl rfl rfl (x_pr.eq (by rw [z_told, z_tab_t (by decide) (by decide)]; rfl))
    · refine R_tin 97 dX8_told_1 (by decide) (by decide) rfl rfl ?_
      refine R_aload_n dX8_told_97 rfl ?_
      refine R_get dX8_told_98 f_X8_38 mo rfl ?_
      refine R_iconst (nI 0) dX8_told_101 rfl ?_
      refine R_iload_n dX8_told_102 rfl ?_
      refine R_iaddN dX8_told_103 ?_
      refine R_iconst (nI 5) dX8_told_104 rfl ?_
      refine R_isubN dX8_told_105 (by omega) ?_
      refine R_iald dX8_told_106 m8 rfl (by omega) (by decide) ?_
      rw [show M 8 (0 + 7 - 5) = _ from q2]
      exact R_iret dX8_told_107 rfl rfl rfl (x_pr.eq (by rw [z_told, z_tab_t (by decide) (by decide)]; rfl))
    · refine R_tin 108 dX8_told_1 (by decide) (by decide) rfl rfl ?_
      refine R_aload_n dX8_told_108 rfl ?_
      refine R_cV0p (N := m_X8_litOf) dX8_told_109 l_X8_209 i_X8_litOf mo (n_litOf C hZ hk) rfl rfl ?_
      exact R_iret dX8_told_112 rfl rfl rfl (x_pr.eq (by rw [z_told, z_tab_t (by decide) (by decide)]; rfl))
    · refine R_tin 113 dX8_told_1 (by decide) (by decide) rfl rfl ?_
      refine R_aload_n dX8_told_113 rfl ?_
      refine R_cV0p (N := m_X8_sureOnes) dX8_told_114 l_X8_212 i_X8_sureOnes mo (n_sure C hZ hk) rfl rfl ?_
      exact R_iret dX8_told_117 rfl rfl rfl (x_pr.eq (by rw [z_told, z_tab_t (by decide) (by decide)]; rfl))
    · refine R_tin 118 dX8_told_1 (by decide) (by decide) rfl rfl ?_
      refine R_aload_n dX8_told_118 rfl ?_
      refine R_cV0p (N := m_X8_holder) dX8_told_119 l_X8_215 i_X8_holder mo (n_holder C hZ hk) rfl rfl ?_
      exact R_iret dX8_told_122 rfl rfl rfl (x_pr.eq (by rw [z_told, z_tab_t (by decide) (by decide)]; rfl))
    · refine R_tin 123 dX8_told_1 (by decide) (by decide) rfl rfl ?_
      refine R_aload_n dX8_told_123 rfl ?_
      refine R_get dX8_told_124 f_X8_167 mo rfl ?_
      exact R_iret dX8_told_127 rfl rfl rfl (x_pr.eq (by rw [z_told, z_tab_t (by decide) (by decide)]; rfl))
    · refine R_tin 128 dX8_told_1 (by decide) (by decide) rfl rfl ?_
      refine R_aload_n dX8_told_128 rfl ?_
      refine R_get dX8_told_129 f_X8_170 mo rfl ?_
      exact R_iret dX8_told_132 rfl rfl rfl (x_pr.eq (by rw [z_told, z_tab_t (by decide) (by decide)]; rfl))
    · refine R_tin 133 dX8_told_1 (by decide) (by decide) rfl rfl ?_
      refine R_aload_n dX8_told_133 rfl ?_
      refine R_get dX8_told_134 f_X8_164 mo rfl ?_
      exact R_iret dX8_told_137 rfl rfl rfl (x_pr.eq (by rw [z_told, z_tab_t (by decide) (by decide)]; rfl))
theorem n_room {h : xH} {Z : xZ} {k : Nat} {M : Nat → Nat → Int32} {sd : Nat → Int64} {kp t : Nat → Int32} (C : x_ML h Z M sd kp t) (hZ : x_ZB k Z) (hk : k ≤ 50000) (r w : Int32) : x_Met m_X8_room [.ref 372, .int r, .int w] h (x_pr (z_room Z r w) h) := by
  obtain ⟨HM, HZ⟩ := id C
  have mo : h[372]? = some (x_mob (z_X Z).1 (z_f Z) (z_N Z) (z_R Z) (z_D Z) (z_P Z) (z_T Z).1 (z_s Z) (z_S Z).1 (z_B Z).1 t) := HM.1
  have m8 : h[381]? = some (x_ia 51 (M 8)) := HM.2 8 (by decide)
  obtain ⟨w1, w2, w3, w4, w5, w6, w7, hq, wt, wi, wk, ws, wb, wx⟩ := id HZ
  obtain ⟨q0, q1, q2, q3, q9, q15, q21, q45⟩ := id hq
  have q21z : ∀ r, r < z_R Z → M 8 (21 + r) = q_la (z_Q Z) 0 r := fun r hr => q21 0 r (by decide) hr
  have hB : x_HB (z_N Z) (z_R Z) (z_D Z) (z_P Z) (z_F Z) := hZ.1.hb
  have hQ : x_QB (z_N Z) (z_R Z) (z_P Z) (z_Q Z) := hZ.2.1.1
  obtain ⟨⟨b1, b2, b3, b4⟩, b5, b6, b7⟩ := id hB
  obtain ⟨u1, u2, u3, u4, u5, u6, u7, u8, u9⟩ := id hQ
  have bT : (z_T Z).1 ≤ 30 := hZ.2.2.1.1
  have bs : z_s Z < 2 ^ 31 := hZ.2.2.2.2.1
  have bX : (z_X Z).1 ≤ 240 := hZ.2.2.2.2.2.1.1
  have bXc : ∀ i, i < (z_X Z).1 → (z_X Z).2 i < 256 := hZ.2.2.2.2.2.1.2
  have bS : (z_S Z).1 ≤ 6 := hZ.2.2.2.2.2.2.1.1
  have bSr : ∀ i, i < (z_S Z).1 → (z_S Z).2.1 i < z_R Z := hZ.2.2.2.2.2.2.1.2
  have bB : (z_B Z).1 ≤ 20 := hZ.2.2.2.2.2.2.2.1
  have bBr : ∀ i, i < (z_B Z).1 → (z_B Z).2.1 i < z_R Z := hZ.2.2.2.2.2.2.2.2
  refine x_Met.of (lo := [some (.ref 372), some (.int r), some (.int w)]) (by decide) rfl rfl rfl ?_
  refine R_aload_n dX8_room_0 rfl ?_
  refine R_iload_n dX8_room_1 rfl ?_
  refine R_cV1p (N := m_X8_isRoom) dX8_room_2 l_X8_218 i_X8_isRoom mo (n_isRoom C hZ hk _) rfl rfl ?_
  refine R_ifneB 11 dX8_room_5 rfl (fun c_5 => ?_) (fun c_5 => ?_)
  · obtain ⟨i, hi, rfl⟩ := x_has_t (by omega) c_5
    refine R_iload_n dX8_room_11 rfl ?_
    cases hx12 : x_has w 6 with
    | false =>
      refine R_tout 104 dX8_room_12 (by have := x_tout hx12; omega) rfl ?_
      refine R_ldc (-1000000002) dX8_room_104 k_X8_95 ?_
      exact R_iret dX8_room_106 rfl rfl rfl (x_pr.eq (by rw [z_room, z_tab_t hi (by omega), z_tab_f hx12]))
    | true =>
      obtain ⟨k12, hk12, rfl⟩ := x_has_t (by decide) hx12
      have hk12 : k12 = 0 ∨ k12 = 1 ∨ k12 = 2 ∨ k12 = 3 ∨ k12 = 4 ∨ k12 = 5 := by omega
      rcases hk12 with rfl | rfl | rfl | rfl | rfl | rfl
      · refine R_tin 52 dX8_room_12 (by decide) (by decide) rfl rfl ?_
        refine R_aload_n dX8_room_52 rfl ?_
        refine R_get dX8_room_53 f_X8_38 mo rfl ?_
        refine R_iconst (nI 3) dX8_room_56 rfl ?_
        refine R_iload_n dX8_room_57 rfl ?_
        refine R_iaddN dX8_room_58 ?_
        refine R_iald dX8_room_59 m8 rfl (by omega) (by decide) ?_
        rw [q3 i (by omega)]
        exact R_iret dX8_room_60 rfl rfl rfl (x_pr.eq (by rw [z_room, z_tab_t hi (by omega), z_tab_t (by decide) (by decide)]; rfl))
      · refine R_tin 61 dX8_room_12 (by decide) (by decide) rfl rfl ?_
        refine R_aload_n dX8_room_61 rfl ?_
        refine R_get dX8_room_62 f_X8_38 mo rfl ?_
        refine R_bipush (nI 9) dX8_room_65 rfl ?_
        refine R_iload_n dX8_room_67 rfl ?_
        refine R_iaddN dX8_room_68 ?_
        refine R_iald dX8_room_69 m8 rfl (by omega) (by decide) ?_
        rw [q9 i (by omega)]
        exact R_iret dX8_room_70 rfl rfl rfl (x_pr.eq (by rw [z_room, z_tab_t hi (by omega), z_tab_t (by decide) (by decide)]; rfl))
      · refine R_tin 71 dX8_room_12 (by decide) (by decide) rfl rfl ?_
        refine R_aload_n dX8_room_71 rfl ?_
        refine R_get dX8_room_72 f_X8_38 mo rfl ?_
        refine R_bipush (nI 15) dX8_room_75 rfl ?_
        refine R_iload_n dX8_room_77 rfl ?_
        refine R_iaddN dX8_room_78 ?_
        refine R_iald dX8_room_79 m8 rfl (by omega) (by decide) ?_
        rw [q15 i (by omega)]
        exact R_iret dX8_room_80 rfl rfl rfl (x_pr.eq (by rw [z_room, z_tab_t hi (by omega), z_tab_t (by decide) (by decide)]; rfl))
      · refine R_tin 81 dX8_room_12 (by decide) (by decide) rfl rfl ?_
        refine R_aload_n dX8_room_81 rfl ?_
        refine R_get dX8_room_82 f_X8_38 mo rfl ?_
        refine R_bipush (nI 21) dX8_room_85 rfl ?_
        refine R_iload_n dX8_room_87 rfl ?_
        refine R_iaddN dX8_room_88 ?_
        refine R_iald dX8_room_89 m8 rfl (by omega) (by decide) ?_
        rw [q21z i (by omega)]
        exact R_iret dX8_room_90 rfl rfl rfl (x_pr.eq (by rw [z_room, z_tab_t hi (by omega), z_tab_t (by decide) (by decide)]; rfl))
      · refine R_tin 91 dX8_room_12 (by decide) (by decide) rfl rfl ?_
        refine R_aload_n dX8_room_91 rfl ?_
        refine R_iload_n dX8_room_92 rfl ?_
        refine R_iconst (nI 0) dX8_room_93 rfl ?_
        refine R_cV2p (N := m_X8_willBy) dX8_room_94 l_X8_200 i_X8_willBy mo (n_will C hZ hk (r := i) (y := 0) (by omega) (by omega)) rfl rfl ?_
        exact R_iret dX8_room_97 rfl rfl rfl (x_pr.eq (by rw [z_room, z_tab_t hi (by omega), z_tab_t (by decide) (by decide)]; rfl))
      · refine R_tin 98 dX8_room_12 (by decide) (by decide) rfl rfl ?_
        refine R_aload_n dX8_room_98 rfl ?_
        refine R_iload_n dX8_room_99 rfl ?_
        refine R_cV1p (N := m_X8_worthOf) dX8_room_100 l_X8_223 i_X8_worthOf mo (n_worth C hZ hk hi) rfl rfl ?_
        exact R_iret dX8_room_103 rfl rfl rfl (x_pr.eq (by rw [z_room, z_tab_t hi (by omega), z_tab_t (by decide) (by decide)]; rfl))
  · refine R_ldc (-1000000001) dX8_room_8 k_X8_222 ?_
    exact R_iret dX8_room_10 rfl rfl rfl (x_pr.eq (by rw [z_room, z_tab_f c_5]))
theorem n_heir {h : xH} {Z : xZ} {k : Nat} {M : Nat → Nat → Int32} {sd : Nat → Int64} {kp t : Nat → Int32} (C : x_ML h Z M sd kp t) (hZ : x_ZB k Z) (hk : k ≤ 50000) (r w : Int32) : x_Met m_X8_heir [.ref 372, .int r, .int w] h (x_pr (z_heir Z r w) h) := by
  obtain ⟨HM, HZ⟩ := id C
  have mo : h[372]? = some (x_mob (z_X Z).1 (z_f Z) (z_N Z) (z_R Z) (z_D Z) (z_P Z) (z_T Z).1 (z_s Z) (z_S Z).1 (z_B Z).1 t) := HM.1
  have m4 : h[377]? = some (x_ia 6 (M 4)) := HM.2 4 (by decide)
  have m5 : h[378]? = some (x_ia 6 (M 5)) := HM.2 5 (by decide)
  have m8 : h[381]? = some (x_ia 51 (M 8)) := HM.2 8 (by decide)
  obtain ⟨w1, w2, w3, w4, w5, w6, w7, hq, wt, wi, wk, ws, wb, wx⟩ := id HZ
  obtain ⟨q0, q1, q2, q3, q9, q15, q21, q45⟩ := id hq
  have q21z : ∀ r, r < z_R Z → M 8 (21 + r) = q_la (z_Q Z) 0 r := fun r hr => q21 0 r (by decide) hr
  have hB : x_HB (z_N Z) (z_R Z) (z_D Z) (z_P Z) (z_F Z) := hZ.1.hb
  have hQ : x_QB (z_N Z) (z_R Z) (z_P Z) (z_Q Z) := hZ.2.1.1
  obtain ⟨⟨b1, b2, b3, b4⟩, b5, b6, b7⟩ := id hB
  obtain ⟨u1, u2, u3, u4, u5, u6, u7, u8, u9⟩ := id hQ
  have bT : (z_T Z).1 ≤ 30 := hZ.2.2.1.1
  have bs : z_s Z < 2 ^ 31 := hZ.2.2.2.2.1
  have bX : (z_X Z).1 ≤ 240 := hZ.2.2.2.2.2.1.1
  have bXc : ∀ i, i < (z_X Z).1 → (z_X Z).2 i < 256 := hZ.2.2.2.2.2.1.2
  have bS : (z_S Z).1 ≤ 6 := hZ.2.2.2.2.2.2.1.1
  have bSr : ∀ i, i < (z_S Z).1 → (z_S Z).2.1 i < z_R Z := hZ.2.2.2.2.2.2.1.2
  have bB : (z_B Z).1 ≤ 20 := hZ.2.2.2.2.2.2.2.1
  have bBr : ∀ i, i < (z_B Z).1 → (z_B Z).2.1 i < z_R Z := hZ.2.2.2.2.2.2.2.2
  refine x_Met.of (lo := [some (.ref 372), some (.int r), some (.int w)]) (by decide) rfl rfl rfl ?_
  refine R_aload_n dX8_heir_0 rfl ?_
  refine R_iload_n dX8_heir_1 rfl ?_
  refine R_cV1p (N := m_X8_isHeir) dX8_heir_2 l_X8_229 i_X8_isHeir mo (n_isHeir C hZ hk _) rfl rfl ?_
  refine R_ifneB 11 dX8_heir_5 rfl (fun c_5 => ?_) (fun c_5 => ?_)
  · obtain ⟨i, hi, rfl⟩ := x_has_t (by omega) c_5
    refine R_iload_n dX8_heir_11 rfl ?_
    cases hx12 : x_has w 6 with
    | false =>
      refine R_tout 103 dX8_heir_12 (by have := x_tout hx12; omega) rfl ?_
      refine R_ldc (-1000000002) dX8_heir_103 k_X8_95 ?_
      exact R_iret dX8_heir_105 rfl rfl rfl (x_pr.eq (by rw [z_heir, z_tab_t hi (by omega), z_tab_f hx12]))
    | true =>
      obtain ⟨k12, hk12, rfl⟩ := x_has_t (by decide) hx12
      have hk12 : k12 = 0 ∨ k12 = 1 ∨ k12 = 2 ∨ k12 = 3 ∨ k12 = 4 ∨ k12 = 5 := by omega
      rcases hk12 with rfl | rfl | rfl | rfl | rfl | rfl
      · refine R_tin 52 dX8_heir_12 (by decide) (by decide) rfl rfl ?_
        refine R_aload_n dX8_heir_52 rfl ?_
        refine R_get dX8_heir_53 f_X8_26 mo rfl ?_
        refine R_iload_n dX8_heir_56 rfl ?_
        refine R_iald dX8_heir_57 m4 rfl (by omega) (by decide) ?_
        rw [w4 i (by omega)]
        exact R_iret dX8_heir_58 rfl rfl rfl (x_pr.eq (by rw [z_heir, z_tab_t hi (by omega), z_tab_t (by decide) (by decide)]; rfl))
      · refine R_tin 59 dX8_heir_12 (by decide) (by decide) rfl rfl ?_
        refine R_aload_n dX8_heir_59 rfl ?_
        refine R_get dX8_heir_60 f_X8_29 mo rfl ?_
        refine R_iload_n dX8_heir_63 rfl ?_
        refine R_iald dX8_heir_64 m5 rfl (by omega) (by decide) ?_
        rw [w5 i (by omega)]
        exact R_iret dX8_heir_65 rfl rfl rfl (x_pr.eq (by rw [z_heir, z_tab_t hi (by omega), z_tab_t (by decide) (by decide)]; rfl))
      · refine R_tin 66 dX8_heir_12 (by decide) (by decide) rfl rfl ?_
        refine R_aload_n dX8_heir_66 rfl ?_
        refine R_get dX8_heir_67 f_X8_38 mo rfl ?_
        refine R_bipush (nI 45) dX8_heir_70 rfl ?_
        refine R_iload_n dX8_heir_72 rfl ?_
        refine R_iaddN dX8_heir_73 ?_
        refine R_iald dX8_heir_74 m8 rfl (by omega) (by decide) ?_
        rw [q45 i (by omega)]
        exact R_iret dX8_heir_75 rfl rfl rfl (x_pr.eq (by rw [z_heir, z_tab_t hi (by omega), z_tab_t (by decide) (by decide)]; rfl))
      · refine R_tin 76 dX8_heir_12 (by decide) (by decide) rfl rfl ?_
        refine R_aload_n dX8_heir_76 rfl ?_
        refine R_iload_n dX8_heir_77 rfl ?_
        refine R_aload_n dX8_heir_78 rfl ?_
        refine R_get dX8_heir_79 f_X8_38 mo rfl ?_
        refine R_bipush (nI 45) dX8_heir_82 rfl ?_
        refine R_iload_n dX8_heir_84 rfl ?_
        refine R_iaddN dX8_heir_85 ?_
        refine R_iald dX8_heir_86 m8 rfl (by omega) (by decide) ?_
        rw [q45 i (by omega)]
        refine R_cV2p (N := m_X8_hearsFrom) dX8_heir_87 l_X8_185 i_X8_hearsFrom mo (n_hears C hZ hk hi (u6 i hi)) rfl rfl ?_
        exact R_iret dX8_heir_90 rfl rfl rfl (x_pr.eq (by rw [z_heir, z_tab_t hi (by omega), z_tab_t (by decide) (by decide)]; rfl))
      · refine R_tin 91 dX8_heir_12 (by decide) (by decide) rfl rfl ?_
        refine R_aload_n dX8_heir_91 rfl ?_
        refine R_iload_n dX8_heir_92 rfl ?_
        refine R_cV1p (N := m_X8_countsOf) dX8_heir_93 l_X8_232 i_X8_countsOf mo (n_counts C hZ hk hi) rfl rfl ?_
        exact R_iret dX8_heir_96 rfl rfl rfl (x_pr.eq (by rw [z_heir, z_tab_t hi (by omega), z_tab_t (by decide) (by decide)]; rfl))
      · refine R_tin 97 dX8_heir_12 (by decide) (by decide) rfl rfl ?_
        refine R_aload_n dX8_heir_97 rfl ?_
        refine R_iload_n dX8_heir_98 rfl ?_
        refine R_cV1p (N := m_X8_hasRooms) dX8_heir_99 l_X8_203 i_X8_hasRooms mo (n_own C hZ hk _) rfl rfl ?_
        exact R_iret dX8_heir_102 rfl rfl rfl (x_pr.eq (by rw [z_heir, z_tab_t hi (by omega), z_tab_t (by decide) (by decide)]; rfl))
  · refine R_ldc (-1000000001) dX8_heir_8 k_X8_222 ?_
    exact R_iret dX8_heir_10 rfl rfl rfl (x_pr.eq (by rw [z_heir, z_tab_f c_5]))
theorem n_door {h : xH} {Z : xZ} {k : Nat} {M : Nat → Nat → Int32} {sd : Nat → Int64} {kp t : Nat → Int32} (C : x_ML h Z M sd kp t) (hZ : x_ZB k Z) (hk : k ≤ 50000) (r w : Int32) : x_Met m_X8_door [.ref 372, .int r, .int w] h (x_pr (z_door Z r w) h) := by
  obtain ⟨HM, HZ⟩ := id C
  have mo : h[372]? = some (x_mob (z_X Z).1 (z_f Z) (z_N Z) (z_R Z) (z_D Z) (z_P Z) (z_T Z).1 (z_s Z) (z_S Z).1 (z_B Z).1 t) := HM.1
  have m1 : h[374]? = some (x_ia 8 (M 1)) := HM.2 1 (by decide)
  have m2 : h[375]? = some (x_ia 8 (M 2)) := HM.2 2 (by decide)
  have m3 : h[376]? = some (x_ia 8 (M 3)) := HM.2 3 (by decide)
  obtain ⟨w1, w2, w3, w4, w5, w6, w7, hq, wt, wi, wk, ws, wb, wx⟩ := id HZ
  obtain ⟨q0, q1, q2, q3, q9, q15, q21, q45⟩ := id hq
  have q21z : ∀ r, r < z_R Z → M 8 (21 + r) = q_la (z_Q Z) 0 r := fun r hr => q21 0 r (by decide) hr
  have hB : x_HB (z_N Z) (z_R Z) (z_D Z) (z_P Z) (z_F Z) := hZ.1.hb
  have hQ : x_QB (z_N Z) (z_R Z) (z_P Z) (z_Q Z) := hZ.2.1.1
  obtain ⟨⟨b1, b2, b3, b4⟩, b5, b6, b7⟩ := id hB
  obtain ⟨u1, u2, u3, u4, u5, u6, u7, u8, u9⟩ := id hQ
  have bT : (z_T Z).1 ≤ 30 := hZ.2.2.1.1
  have bs : z_s Z < 2 ^ 31 := hZ.2.2.2.2.1
  have bX : (z_X Z).1 ≤ 240 := hZ.2.2.2.2.2.1.1
  have bXc : ∀ i, i < (z_X Z).1 → (z_X Z).2 i < 256 := hZ.2.2.2.2.2.1.2
  have bS : (z_S Z).1 ≤ 6 := hZ.2.2.2.2.2.2.1.1
  have bSr : ∀ i, i < (z_S Z).1 → (z_S Z).2.1 i < z_R Z := hZ.2.2.2.2.2.2.1.2
  have bB : (z_B Z).1 ≤ 20 := hZ.2.2.2.2.2.2.2.1
  have bBr : ∀ i, i < (z_B Z).1 → (z_B Z).2.1 i < z_R Z := hZ.2.2.2.2.2.2.2.2
  refine x_Met.of (lo := [some (.ref 372), some (.int r), some (.int w)]) (by decide) rfl rfl rfl ?_
  refine R_aload_n dX8_door_0 rfl ?_
  refine R_iload_n dX8_door_1 rfl ?_
  refine R_cV1p (N := m_X8_isDoor) dX8_door_2 l_X8_226 i_X8_isDoor mo (n_isDoor C hZ hk _) rfl rfl ?_
  refine R_ifneB 11 dX8_door_5 rfl (fun c_5 => ?_) (fun c_5 => ?_)
  · obtain ⟨i, hi, rfl⟩ := x_has_t (by omega) c_5
    refine R_iload_n dX8_door_11 rfl ?_
    refine R_ifne 24 dX8_door_12 rfl (fun c_12 => ?_) (fun c_12 => ?_)
    · refine R_iload_n dX8_door_24 rfl ?_
      refine R_iconst (nI 1) dX8_door_25 rfl ?_
      refine R_icmpne 38 dX8_door_26 rfl (fun c_26 => ?_) (fun c_26 => ?_)
      · refine R_iload_n dX8_door_38 rfl ?_
        refine R_iconst (nI 2) dX8_door_39 rfl ?_
        refine R_icmpne 52 dX8_door_40 rfl (fun c_40 => ?_) (fun c_40 => ?_)
        · refine R_ldc (-1000000002) dX8_door_52 k_X8_95 ?_
          exact R_iret dX8_door_54 rfl rfl rfl (x_pr.eq (by rw [z_door, z_tab_t hi (by omega), z_tab_f (x_has3 c_12 c_26 c_40)]))
        · subst c_40
          refine R_aload_n dX8_door_43 rfl ?_
          refine R_get dX8_door_44 f_X8_23 mo rfl ?_
          refine R_iload_n dX8_door_47 rfl ?_
          refine R_iald dX8_door_48 m3 rfl (by omega) (by decide) ?_
          rw [w3 i (by omega)]
          refine R_goto 54 dX8_door_49 rfl ?_
          exact R_iret dX8_door_54 rfl rfl rfl (x_pr.eq (by rw [z_door, z_tab_t hi (by omega), z_tab_t (by decide) (by decide)]; rfl))
      · subst c_26
        refine R_aload_n dX8_door_29 rfl ?_
        refine R_get dX8_door_30 f_X8_20 mo rfl ?_
        refine R_iload_n dX8_door_33 rfl ?_
        refine R_iald dX8_door_34 m2 rfl (by omega) (by decide) ?_
        rw [w2 i (by omega)]
        refine R_goto 54 dX8_door_35 rfl ?_
        exact R_iret dX8_door_54 rfl rfl rfl (x_pr.eq (by rw [z_door, z_tab_t hi (by omega), z_tab_t (by decide) (by decide)]; rfl))
    · have e : w = nI 0 := c_12
      subst e
      refine R_aload_n dX8_door_15 rfl ?_
      refine R_get dX8_door_16 f_X8_17 mo rfl ?_
      refine R_iload_n dX8_door_19 rfl ?_
      refine R_iald dX8_door_20 m1 rfl (by omega) (by decide) ?_
      rw [w1 i (by omega)]
      refine R_goto 54 dX8_door_21 rfl ?_
      exact R_iret dX8_door_54 rfl rfl rfl (x_pr.eq (by rw [z_door, z_tab_t hi (by omega), z_tab_t (by decide) (by decide)]; rfl))
  · refine R_ldc (-1000000001) dX8_door_8 k_X8_222 ?_
    exact R_iret dX8_door_10 rfl rfl rfl (x_pr.eq (by rw [z_door, z_tab_f c_5]))
theorem n_wall {h : xH} {Z : xZ} {k : Nat} {M : Nat → Nat → Int32} {sd : Nat → Int64} {kp t : Nat → Int32} (C : x_ML h Z M sd kp t) (hZ : x_ZB k Z) (hk : k ≤ 50000) (a b : Int32) : x_Met m_X8_wall [.ref 372, .int a, .int b] h (x_pr (z_wall Z a b) h) := by
  obtain ⟨HM, HZ⟩ := id C
  have mo : h[372]? = some (x_mob (z_X Z).1 (z_f Z) (z_N Z) (z_R Z) (z_D Z) (z_P Z) (z_T Z).1 (z_s Z) (z_S Z).1 (z_B Z).1 t) := HM.1
  have m6 : h[379]? = some (x_ia 36 (M 6)) := HM.2 6 (by decide)
  obtain ⟨w1, w2, w3, w4, w5, w6, w7, hq, wt, wi, wk, ws, wb, wx⟩ := id HZ
  obtain ⟨q0, q1, q2, q3, q9, q15, q21, q45⟩ := id hq
  have q21z : ∀ r, r < z_R Z → M 8 (21 + r) = q_la (z_Q Z) 0 r := fun r hr => q21 0 r (by decide) hr
  have hB : x_HB (z_N Z) (z_R Z) (z_D Z) (z_P Z) (z_F Z) := hZ.1.hb
  have hQ : x_QB (z_N Z) (z_R Z) (z_P Z) (z_Q Z) := hZ.2.1.1
  obtain ⟨⟨b1, b2, b3, b4⟩, b5, b6, b7⟩ := id hB
  obtain ⟨u1, u2, u3, u4, u5, u6, u7, u8, u9⟩ := id hQ
  have bT : (z_T Z).1 ≤ 30 := hZ.2.2.1.1
  have bs : z_s Z < 2 ^ 31 := hZ.2.2.2.2.1
  have bX : (z_X Z).1 ≤ 240 := hZ.2.2.2.2.2.1.1
  have bXc : ∀ i, i < (z_X Z).1 → (z_X Z).2 i < 256 := hZ.2.2.2.2.2.1.2
  have bS : (z_S Z).1 ≤ 6 := hZ.2.2.2.2.2.2.1.1
  have bSr : ∀ i, i < (z_S Z).1 → (z_S Z).2.1 i < z_R Z := hZ.2.2.2.2.2.2.1.2
  have bB : (z_B Z).1 ≤ 20 := hZ.2.2.2.2.2.2.2.1
  have bBr : ∀ i, i < (z_B Z).1 → (z_B Z).2.1 i < z_R Z := hZ.2.2.2.2.2.2.2.2
  refine x_Met.of (lo := [some (.ref 372), some (.int a), some (.int b)]) (by decide) rfl rfl rfl ?_
  refine R_aload_n dX8_wall_0 rfl ?_
  refine R_iload_n dX8_wall_1 rfl ?_
  refine R_cV1p (N := m_X8_isRoom) dX8_wall_2 l_X8_218 i_X8_isRoom mo (n_isRoom C hZ hk _) rfl rfl ?_
  refine R_ifeqB 30 dX8_wall_5 rfl (fun c_5 => ?_) (fun c_5 => ?_)
  · refine R_ldc (-1000000001) dX8_wall_30 k_X8_222 ?_
    exact R_iret dX8_wall_32 rfl rfl rfl (x_pr.eq (by rw [z_wall, z_tab_f c_5]))
  · obtain ⟨i, hi, rfl⟩ := x_has_t (by omega) c_5
    refine R_aload_n dX8_wall_8 rfl ?_
    refine R_iload_n dX8_wall_9 rfl ?_
    refine R_cV1p (N := m_X8_isRoom) dX8_wall_10 l_X8_218 i_X8_isRoom mo (n_isRoom C hZ hk _) rfl rfl ?_
    refine R_ifeqB 30 dX8_wall_13 rfl (fun c_13 => ?_) (fun c_13 => ?_)
    · refine R_ldc (-1000000001) dX8_wall_30 k_X8_222 ?_
      exact R_iret dX8_wall_32 rfl rfl rfl (x_pr.eq (by rw [z_wall, z_tab_t hi (by omega), z_tab_f c_13]))
    · obtain ⟨j, hj, rfl⟩ := x_has_t (by omega) c_13
      refine R_aload_n dX8_wall_16 rfl ?_
      refine R_get dX8_wall_17 f_X8_32 mo rfl ?_
      refine R_bipush (nI 6) dX8_wall_20 rfl ?_
      refine R_iload_n dX8_wall_22 rfl ?_
      refine R_imulN dX8_wall_23 ?_
      refine R_iload_n dX8_wall_24 rfl ?_
      refine R_iaddN dX8_wall_25 ?_
      refine R_iald dX8_wall_26 m6 rfl (by omega) (by decide) ?_
      rw [w6 i j (by omega) (by omega)]
      refine R_goto 32 dX8_wall_27 rfl ?_
      exact R_iret dX8_wall_32 rfl rfl rfl (x_pr.eq (by rw [z_wall, z_tab_t hi (by omega), z_tab_t hj (by omega)]))
theorem n_way {h : xH} {Z : xZ} {k : Nat} {M : Nat → Nat → Int32} {sd : Nat → Int64} {kp t : Nat → Int32} (C : x_ML h Z M sd kp t) (hZ : x_ZB k Z) (hk : k ≤ 50000) (a b : Int32) : x_Met m_X8_way [.ref 372, .int a, .int b] h (x_pr (z_way Z a b) h) := by
  obtain ⟨HM, HZ⟩ := id C
  have mo : h[372]? = some (x_mob (z_X Z).1 (z_f Z) (z_N Z) (z_R Z) (z_D Z) (z_P Z) (z_T Z).1 (z_s Z) (z_S Z).1 (z_B Z).1 t) := HM.1
  have m7 : h[380]? = some (x_ia 36 (M 7)) := HM.2 7 (by decide)
  obtain ⟨w1, w2, w3, w4, w5, w6, w7, hq, wt, wi, wk, ws, wb, wx⟩ := id HZ
  obtain ⟨q0, q1, q2, q3, q9, q15, q21, q45⟩ := id hq
  have q21z : ∀ r, r < z_R Z → M 8 (21 + r) = q_la (z_Q Z) 0 r := fun r hr => q21 0 r (by decide) hr
  have hB : x_HB (z_N Z) (z_R Z) (z_D Z) (z_P Z) (z_F Z) := hZ.1.hb
  have hQ : x_QB (z_N Z) (z_R Z) (z_P Z) (z_Q Z) := hZ.2.1.1
  obtain ⟨⟨b1, b2, b3, b4⟩, b5, b6, b7⟩ := id hB
  obtain ⟨u1, u2, u3, u4, u5, u6, u7, u8, u9⟩ := id hQ
  have bT : (z_T Z).1 ≤ 30 := hZ.2.2.1.1
  have bs : z_s Z < 2 ^ 31 := hZ.2.2.2.2.1
  have bX : (z_X Z).1 ≤ 240 := hZ.2.2.2.2.2.1.1
  have bXc : ∀ i, i < (z_X Z).1 → (z_X Z).2 i < 256 := hZ.2.2.2.2.2.1.2
  have bS : (z_S Z).1 ≤ 6 := hZ.2.2.2.2.2.2.1.1
  have bSr : ∀ i, i < (z_S Z).1 → (z_S Z).2.1 i < z_R Z := hZ.2.2.2.2.2.2.1.2
  have bB : (z_B Z).1 ≤ 20 := hZ.2.2.2.2.2.2.2.1
  have bBr : ∀ i, i < (z_B Z).1 → (z_B Z).2.1 i < z_R Z := hZ.2.2.2.2.2.2.2.2
  refine x_Met.of (lo := [some (.ref 372), some (.int a), some (.int b), none]) (by decide) rfl rfl rfl ?_
  refine R_aload_n dX8_way_0 rfl ?_
  refine R_iload_n dX8_way_1 rfl ?_
  refine R_cV1p (N := m_X8_isRoom) dX8_way_2 l_X8_218 i_X8_isRoom mo (n_isRoom C hZ hk _) rfl rfl ?_
  refine R_ifeqB 16 dX8_way_5 rfl (fun c_5 => ?_) (fun c_5 => ?_)
  · refine R_ldc (-1000000001) dX8_way_16 k_X8_222 ?_
    exact R_iret dX8_way_18 rfl rfl rfl (x_pr.eq (by rw [z_way, z_tab_f c_5]))
  · obtain ⟨i, hi, rfl⟩ := x_has_t (by omega) c_5
    refine R_aload_n dX8_way_8 rfl ?_
    refine R_iload_n dX8_way_9 rfl ?_
    refine R_cV1p (N := m_X8_isRoom) dX8_way_10 l_X8_218 i_X8_isRoom mo (n_isRoom C hZ hk _) rfl rfl ?_
    refine R_ifneB 19 dX8_way_13 rfl (fun c_13 => ?_) (fun c_13 => ?_)
    · obtain ⟨j, hj, rfl⟩ := x_has_t (by omega) c_13
      have w7b := (b7 i j hi hj).2
      refine R_aload_n dX8_way_19 rfl ?_
      refine R_get dX8_way_20 f_X8_35 mo rfl ?_
      refine R_bipush (nI 6) dX8_way_23 rfl ?_
      refine R_iload_n dX8_way_25 rfl ?_
      refine R_imulN dX8_way_26 ?_
      refine R_iload_n dX8_way_27 rfl ?_
      refine R_iaddN dX8_way_28 ?_
      refine R_iald dX8_way_29 m7 rfl (by omega) (by decide) ?_
      rw [w7 i j (by omega) (by omega)]
      refine R_istore_n dX8_way_30 (Nat.le_of_ble_eq_true rfl) rfl ?_
      refine R_iload_n dX8_way_31 rfl ?_
      refine R_bipush (nI 99) dX8_way_32 rfl ?_
      refine R_ltN 41 dX8_way_34 rfl (by omega) (by omega) (fun c_34 => ?_) (fun c_34 => ?_)
      · refine R_iload_n dX8_way_41 rfl ?_
        exact R_iret dX8_way_42 rfl rfl rfl (x_pr.eq (by rw [z_way, z_tab_t hi (by omega), z_tab_t hj (by omega), if_neg (by omega)]))
      · refine R_iconst (-1) dX8_way_37 rfl ?_
        refine R_goto 42 dX8_way_38 rfl ?_
        exact R_iret dX8_way_42 rfl rfl rfl (x_pr.eq (by rw [z_way, z_tab_t hi (by omega), z_tab_t hj (by omega), if_pos (by omega)]))
    · refine R_ldc (-1000000001) dX8_way_16 k_X8_222 ?_
      exact R_iret dX8_way_18 rfl rfl rfl (x_pr.eq (by rw [z_way, z_tab_t hi (by omega), z_tab_f c_13]))
theorem n_reading {h : xH} {Z : xZ} {k : Nat} {M : Nat → Nat → Int32} {sd : Nat → Int64} {kp t : Nat → Int32} (C : x_ML h Z M sd kp t) (hZ : x_ZB k Z) (hk : k ≤ 50000) (r w : Int32) : x_Met m_X8_reading [.ref 372, .int r, .int w] h (x_pr (z_reading Z r w) h) := by
  obtain ⟨HM, HZ⟩ := id C
  have mo : h[372]? = some (x_mob (z_X Z).1 (z_f Z) (z_N Z) (z_R Z) (z_D Z) (z_P Z) (z_T Z).1 (z_s Z) (z_S Z).1 (z_B Z).1 t) := HM.1
  obtain ⟨w1, w2, w3, w4, w5, w6, w7, hq, wt, wi, wk, ws, wb, wx⟩ := id HZ
  obtain ⟨q0, q1, q2, q3, q9, q15, q21, q45⟩ := id hq
  have q21z : ∀ r, r < z_R Z → M 8 (21 + r) = q_la (z_Q Z) 0 r := fun r hr => q21 0 r (by decide) hr
  have hB : x_HB (z_N Z) (z_R Z) (z_D Z) (z_P Z) (z_F Z) := hZ.1.hb
  have hQ : x_QB (z_N Z) (z_R Z) (z_P Z) (z_Q Z) := hZ.2.1.1
  obtain ⟨⟨b1, b2, b3, b4⟩, b5, b6, b7⟩ := id hB
  obtain ⟨u1, u2, u3, u4, u5, u6, u7, u8, u9⟩ := id hQ
  have bT : (z_T Z).1 ≤ 30 := hZ.2.2.1.1
  have bs : z_s Z < 2 ^ 31 := hZ.2.2.2.2.1
  have bX : (z_X Z).1 ≤ 240 := hZ.2.2.2.2.2.1.1
  have bXc : ∀ i, i < (z_X Z).1 → (z_X Z).2 i < 256 := hZ.2.2.2.2.2.1.2
  have bS : (z_S Z).1 ≤ 6 := hZ.2.2.2.2.2.2.1.1
  have bSr : ∀ i, i < (z_S Z).1 → (z_S Z).2.1 i < z_R Z := hZ.2.2.2.2.2.2.1.2
  have bB : (z_B Z).1 ≤ 20 := hZ.2.2.2.2.2.2.2.1
  have bBr : ∀ i, i < (z_B Z).1 → (z_B Z).2.1 i < z_R Z := hZ.2.2.2.2.2.2.2.2
  refine x_Met.of (lo := [some (.ref 372), some (.int r), some (.int w)]) (by decide) rfl rfl rfl ?_
  refine R_aload_n dX8_reading_0 rfl ?_
  refine R_iload_n dX8_reading_1 rfl ?_
  refine R_cV1p (N := m_X8_isRoom) dX8_reading_2 l_X8_218 i_X8_isRoom mo (n_isRoom C hZ hk _) rfl rfl ?_
  refine R_ifneB 11 dX8_reading_5 rfl (fun c_5 => ?_) (fun c_5 => ?_)
  · obtain ⟨i, hi, rfl⟩ := x_has_t (by omega) c_5
    refine R_iload_n dX8_reading_11 rfl ?_
    refine R_iconst (nI 0) dX8_reading_12 rfl ?_
    refine R_iconst (nI 3) dX8_reading_13 rfl ?_
    refine R_cS3p (N := m_X8_in) dX8_reading_14 l_X8_85 i_X8_in (n_in _ _ _) rfl rfl ?_
    refine R_ifeqB 29 dX8_reading_17 rfl (fun c_17 => ?_) (fun c_17 => ?_)
    · rw [x_in_has (by decide)] at c_17
      refine R_ldc (-1000000002) dX8_reading_29 k_X8_95 ?_
      exact R_iret dX8_reading_31 rfl rfl rfl (x_pr.eq (by rw [z_reading, z_tab_t hi (by omega), z_tab_f c_17]))
    · rw [x_in_has (by decide)] at c_17
      obtain ⟨j, hj, rfl⟩ := x_has_t (by omega) c_17
      refine R_aload_n dX8_reading_20 rfl ?_
      refine R_iload_n dX8_reading_21 rfl ?_
      refine R_iload_n dX8_reading_22 rfl ?_
      refine R_cV2p (N := m_X8_willBy) dX8_reading_23 l_X8_200 i_X8_willBy mo (n_will C hZ hk (r := i) (y := j) (by omega) (by omega)) rfl rfl ?_
      refine R_goto 31 dX8_reading_26 rfl ?_
      exact R_iret dX8_reading_31 rfl rfl rfl (x_pr.eq (by rw [z_reading, z_tab_t hi (by omega), z_tab_t hj (by decide)]))
  · refine R_ldc (-1000000001) dX8_reading_8 k_X8_222 ?_
    exact R_iret dX8_reading_10 rfl rfl rfl (x_pr.eq (by rw [z_reading, z_tab_f c_5]))
theorem n_quiet_loop {h : xH} {n : Nat} (hn : n ≤ 60) (q : Int32) : ∀ (m i : Nat), i ≤ n → n + 1 ≤ i + m → x_Rn m_X8_quiet 30 [some (.ref 372), some (.int (nI n)), some (.int q), some (.long (z_qt q i)), none, some (.int (nI i))] [] h (0, 0) (x_pr (z_qt q n).toInt32 h) := by
  intro m
  induction m with
  | zero => intro i h1 h3; omega
  | succ m ih =>
    intro i h1 h3
    refine R_iload dX8_quiet_30 rfl ?_
    refine R_iload_n dX8_quiet_32 rfl ?_
    refine R_geN 51 dX8_quiet_33 rfl (by omega) (by omega) (fun c_33 => ?_) (fun c_33 => ?_)
    · have e : i = n := by omega
      subst e
      refine R_lload_n dX8_quiet_51 rfl ?_
      refine R_l2i dX8_quiet_52 ?_
      exact R_iret dX8_quiet_53 rfl rfl rfl (x_pr.eq rfl)
    · refine R_lload_n dX8_quiet_36 rfl ?_
      refine R_iload_n dX8_quiet_37 rfl ?_
      refine R_i2l dX8_quiet_38 ?_
      refine R_lmul dX8_quiet_39 ?_
      refine R_ldc2 (100) dX8_quiet_40 k_X8_289 ?_
      refine R_ldiv dX8_quiet_43 (by decide) ?_
      refine R_lstore_n dX8_quiet_44 (Nat.le_of_ble_eq_true rfl) rfl ?_
      refine R_iincN dX8_quiet_45 rfl (Nat.le_of_ble_eq_true rfl) rfl ?_
      refine R_goto 30 dX8_quiet_48 rfl ?_
      exact ih (i + 1) (by omega) (by omega)
theorem n_quiet {h : xH} (n q : Int32) : x_Met m_X8_quiet [.ref 372, .int n, .int q] h (x_pr (z_quiet n q) h) := by
  refine x_Met.of (lo := [some (.ref 372), some (.int n), some (.int q), none, none, none]) (by decide) rfl rfl rfl ?_
  refine R_iload_n dX8_quiet_0 rfl ?_
  refine R_iconst (nI 0) dX8_quiet_1 rfl ?_
  refine R_bipush (nI 60) dX8_quiet_2 rfl ?_
  refine R_cS3p (N := m_X8_in) dX8_quiet_4 l_X8_85 i_X8_in (n_in _ _ _) rfl rfl ?_
  refine R_ifeqB 20 dX8_quiet_7 rfl (fun c_7 => ?_) (fun c_7 => ?_)
  · rw [x_in_has (by decide)] at c_7
    refine R_ldc (-1000000002) dX8_quiet_20 k_X8_95 ?_
    exact R_iret dX8_quiet_22 rfl rfl rfl (x_pr.eq (by rw [z_quiet, c_7]; rfl))
  · rw [x_in_has (by decide)] at c_7
    refine R_iload_n dX8_quiet_10 rfl ?_
    refine R_iconst (nI 0) dX8_quiet_11 rfl ?_
    refine R_bipush (nI 100) dX8_quiet_12 rfl ?_
    refine R_cS3p (N := m_X8_in) dX8_quiet_14 l_X8_85 i_X8_in (n_in _ _ _) rfl rfl ?_
    refine R_ifneB 23 dX8_quiet_17 rfl (fun c_17 => ?_) (fun c_17 => ?_)
    · rw [x_in_has (by decide)] at c_17
      refine R_ldc2 (1000000000) dX8_quiet_23 k_X8_287 ?_
      refine R_lstore_n dX8_quiet_26 (Nat.le_of_ble_eq_true rfl) rfl ?_
      refine R_iconst (nI 0) dX8_quiet_27 rfl ?_
      refine R_istore dX8_quiet_28 (Nat.le_of_ble_eq_true rfl) rfl ?_
      obtain ⟨i, hi, rfl⟩ := x_has_t (by decide) c_7
      obtain ⟨j, hj, rfl⟩ := x_has_t (by decide) c_17
      have e : z_quiet (nI i) (nI j) = (z_qt (nI j) i).toInt32 := by rw [z_quiet, c_7, c_17, i_n_nI (by omega)]; rfl
      rw [e]
      exact n_quiet_loop (by omega) (nI j) (i + 1) 0 (by omega) (by omega)
    · rw [x_in_has (by decide)] at c_17
      refine R_ldc (-1000000002) dX8_quiet_20 k_X8_95 ?_
      exact R_iret dX8_quiet_22 rfl rfl rfl (x_pr.eq (by rw [z_quiet, c_17, Bool.and_false]; rfl))
theorem n_judge_loop {h : xH} {Z : xZ} {k : Nat} {M : Nat → Nat → Int32} {sd : Nat → Int64} {kp t : Nat → Int32} (C : x_ML h Z M sd kp t) (hZ : x_ZB k Z) (hk : k ≤ 50000) : ∀ (m i : Nat), i + m = (z_B Z).1 → x_Rn m_X8_judge 2 [some (.ref 372), some (.int (nI i))] [] h (0, 0) (x_pr (s_wrong (q_ow (z_Q Z)) (z_B Z).2.1 (z_B Z).2.2 m i) h) := by
  obtain ⟨HM, HZ⟩ := id C
  have mo : h[372]? = some (x_mob (z_X Z).1 (z_f Z) (z_N Z) (z_R Z) (z_D Z) (z_P Z) (z_T Z).1 (z_s Z) (z_S Z).1 (z_B Z).1 t) := HM.1
  have m8 : h[381]? = some (x_ia 51 (M 8)) := HM.2 8 (by decide)
  have m14 : h[387]? = some (x_ia 40 (M 14)) := HM.2 14 (by decide)
  obtain ⟨w1, w2, w3, w4, w5, w6, w7, hq, wt, wi, wk, ws, wb, wx⟩ := id HZ
  obtain ⟨q0, q1, q2, q3, q9, q15, q21, q45⟩ := id hq
  have q21z : ∀ r, r < z_R Z → M 8 (21 + r) = q_la (z_Q Z) 0 r := fun r hr => q21 0 r (by decide) hr
  have hB : x_HB (z_N Z) (z_R Z) (z_D Z) (z_P Z) (z_F Z) := hZ.1.hb
  have hQ : x_QB (z_N Z) (z_R Z) (z_P Z) (z_Q Z) := hZ.2.1.1
  obtain ⟨⟨b1, b2, b3, b4⟩, b5, b6, b7⟩ := id hB
  obtain ⟨u1, u2, u3, u4, u5, u6, u7, u8, u9⟩ := id hQ
  have bT : (z_T Z).1 ≤ 30 := hZ.2.2.1.1
  have bs : z_s Z < 2 ^ 31 := hZ.2.2.2.2.1
  have bX : (z_X Z).1 ≤ 240 := hZ.2.2.2.2.2.1.1
  have bXc : ∀ i, i < (z_X Z).1 → (z_X Z).2 i < 256 := hZ.2.2.2.2.2.1.2
  have bS : (z_S Z).1 ≤ 6 := hZ.2.2.2.2.2.2.1.1
  have bSr : ∀ i, i < (z_S Z).1 → (z_S Z).2.1 i < z_R Z := hZ.2.2.2.2.2.2.1.2
  have bB : (z_B Z).1 ≤ 20 := hZ.2.2.2.2.2.2.2.1
  have bBr : ∀ i, i < (z_B Z).1 → (z_B Z).2.1 i < z_R Z := hZ.2.2.2.2.2.2.2.2
  intro m
  induction m with
  | zero =>
    intro i h1
    refine R_iload_n dX8_judge_2 rfl ?_
    refine R_aload_n dX8_judge_3 rfl ?_
    refine R_get dX8_judge_4 f_X8_170 mo rfl ?_
    refine R_geN 47 dX8_judge_7 rfl (by omega) (by omega) (fun c_7 => ?_) (fun c_7 => ?_)
    · refine R_iconst (-1) dX8_judge_47 rfl ?_
      exact R_iret dX8_judge_48 rfl rfl rfl (x_pr.eq rfl)
    · omega
  | succ m ih =>
    intro i h1
    refine R_iload_n dX8_judge_2 rfl ?_
    refine R_aload_n dX8_judge_3 rfl ?_
    refine R_get dX8_judge_4 f_X8_170 mo rfl ?_
    refine R_geN 47 dX8_judge_7 rfl (by omega) (by omega) (fun c_7 => ?_) (fun c_7 => ?_)
    · omega
    · have v := bBr i (by omega)
      refine R_aload_n dX8_judge_10 rfl ?_
      refine R_get dX8_judge_11 f_X8_38 mo rfl ?_
      refine R_bipush (nI 15) dX8_judge_14 rfl ?_
      refine R_aload_n dX8_judge_16 rfl ?_
      refine R_get dX8_judge_17 f_X8_58 mo rfl ?_
      refine R_iconst (nI 2) dX8_judge_20 rfl ?_
      refine R_iload_n dX8_judge_21 rfl ?_
      refine R_imulN dX8_judge_22 ?_
      refine R_iald dX8_judge_23 m14 rfl (by omega) (by decide) ?_
      rw [(wb i (by omega)).1]
      refine R_iaddN dX8_judge_24 ?_
      refine R_iald dX8_judge_25 m8 rfl (by omega) (by decide) ?_
      rw [q15 ((z_B Z).2.1 i) (by omega)]
      refine R_aload_n dX8_judge_26 rfl ?_
      refine R_get dX8_judge_27 f_X8_58 mo rfl ?_
      refine R_iconst (nI 2) dX8_judge_30 rfl ?_
      refine R_iload_n dX8_judge_31 rfl ?_
      refine R_imulN dX8_judge_32 ?_
      refine R_iconst (nI 1) dX8_judge_33 rfl ?_
      refine R_iaddN dX8_judge_34 ?_
      refine R_iald dX8_judge_35 m14 rfl (by omega) (by decide) ?_
      rw [(wb i (by omega)).2]
      refine R_icmpeq 41 dX8_judge_36 rfl (fun c_36 => ?_) (fun c_36 => ?_)
      · refine R_iincN dX8_judge_41 rfl (Nat.le_of_ble_eq_true rfl) rfl ?_
        refine R_goto 2 dX8_judge_44 rfl ?_
        rw [s_wrong, if_pos c_36]
        exact ih (i + 1) (by omega)
      · refine R_iload_n dX8_judge_39 rfl ?_
        exact R_iret dX8_judge_40 rfl rfl rfl (x_pr.eq (by rw [s_wrong, if_neg c_36]))
theorem n_judge {h : xH} {Z : xZ} {k : Nat} {M : Nat → Nat → Int32} {sd : Nat → Int64} {kp t : Nat → Int32} (C : x_ML h Z M sd kp t) (hZ : x_ZB k Z) (hk : k ≤ 50000) : x_Met m_X8_judge [.ref 372] h (x_pr (z_judge Z) h) := by

  refine x_Met.of (lo := [some (.ref 372), none]) (by decide) rfl rfl rfl ?_
  refine R_iconst (nI 0) dX8_judge_0 rfl ?_
  refine R_istore_n dX8_judge_1 (Nat.le_of_ble_eq_true rfl) rfl ?_
  exact n_judge_loop C hZ hk (z_B Z).1 0 (by omega)
