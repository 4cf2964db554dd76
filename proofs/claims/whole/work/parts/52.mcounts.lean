/-! THE MODEL's calls that only look, 2 -/
theorem n_countsIn_loop {h : xH} {Z : xZ} {k : Nat} {M : Nat → Nat → Int32} {sd : Nat → Int64} {kp t : Nat → Int32} (C : x_ML h Z M sd kp t) (hZ : x_ZB k Z) (hk : k ≤ 50000) {p f u y : Nat} {g : Nat → Bool} (hu : u ≤ 20) (v5 v6 : Int32) : ∀ (m r : Nat), r ≤ z_R Z → z_R Z + 1 ≤ r + m → x_Rn m_X8_countsIn 127 [some (.ref 372), some (.int (nI p)), some (.int (nI f)), some (.int (nI u)), some (.int (nI y)), some (.int v5), some (.int v6), some (.int (s_set (z_R Z) g)), some (.int (s_set r (fun r => g r && s_lit (z_Q Z) u r))), some (.int (nI r))] [] h (0, 0) (x_pr (s_set (z_R Z) (fun r => g r && s_lit (z_Q Z) u r)) h) := by
  obtain ⟨HM, HZ⟩ := id C
  have mo : h[372]? = some (x_mob (z_X Z).1 (z_f Z) (z_N Z) (z_R Z) (z_D Z) (z_P Z) (z_T Z).1 (z_s Z) (z_S Z).1 (z_B Z).1 t) := HM.1
  have m8 : h[381]? = some (x_ia 51 (M 8)) := HM.2 8 (by decide)
  obtain ⟨w1, w2, w3, w4, w5, w6, w7, hq, wt, wi, wk, ws, wb, wx⟩ := id HZ
  obtain ⟨q0, q1, q2, q3, q9, q15, q21, q45⟩ := id hq
  have q21z : ∀ r, r < z_R Z → M 8 (21 + r) = q_la (z_Q Z) 0 r := fun r hr => q21 0 r (by decide) hr
  have hB : x_HB (z_N Z) (z_R Z) (z_D Z) (z_P Z) (z_F Z) := hZ.1.hb
  have hQ : x_QB (z_N Z) (z_R Z) (z_P Z) (z_Q Z) := hZ.2.1.1
  obtain ⟨⟨b1, b2, b3, b4⟩, b5, b6, b7⟩ := id hB
  obtain ⟨u1, u2, u3, u4, u5, u6, u7, u8, u9⟩ := id hQ
  have bT : (z_T Z).1 ≤ 30 := hZ.2.2.1.1
  have bs : z_s Z < 2 ^ 31 := hZ.2.2.2.2.1
  have bX : (z_X Z).1 ≤ 240 := hZ.2.2.2.2.2.1.1
  have bXc : ∀ i, i < (z_X Z).1 → (z_X Z).2 i < 256 := hZ.2.2.2.2.2.1.2
  have bS : (z_S Z).1 ≤ 6 := hZ.2.2.2.2.2.2.1.1
  have bSr : ∀ i, i < (z_S Z).1 → (z_S Z).2.1 i < z_R Z := hZ.2.2.2.2.2.2.1.2
  have bB : (z_B Z).1 ≤ 20 := hZ.2.2.2.2.2.2.2.1
  have bBr : ∀ i, i < (z_B Z).1 → (z_B Z).2.1 i < z_R Z := hZ.2.2.2.2.2.2.2.2
  intro m
  induction m with
  | zero => intro r h1 h3; omega
  | succ m ih =>
    intro r h1 h3
    refine R_iload dX8_countsIn_127 rfl ?_
    refine R_aload_n dX8_countsIn_129 rfl ?_
    refine R_get dX8_countsIn_130 f_X8_82 mo rfl ?_
    refine R_geN 179 dX8_countsIn_133 rfl (by omega) (by omega) (fun c_133 => ?_) (fun c_133 => ?_)
    · have e : r = z_R Z := by omega
      subst e
      refine R_iload dX8_countsIn_179 rfl ?_
      exact R_iret dX8_countsIn_181 rfl rfl rfl x_pr.mk
    · refine R_iload dX8_countsIn_136 rfl ?_
      refine R_iload dX8_countsIn_138 rfl ?_
      refine R_iload dX8_countsIn_140 rfl ?_
      refine R_cS2p (N := m_X8_has) dX8_countsIn_142 l_X8_181 i_X8_has (n_has (s_bitR b2 g (by omega))) rfl rfl ?_
      refine R_ifeqB 169 dX8_countsIn_145 rfl (fun c_145 => ?_) (fun c_145 => ?_)
      · have hs := s_set_f2 (n := r) (f := (fun r => g r && s_lit (z_Q Z) u r)) (by show (g r && s_lit (z_Q Z) u r) = false; rw [c_145]; rfl)
        refine R_iconst (nI 0) dX8_countsIn_169 rfl ?_
        refine R_ior dX8_countsIn_170 ?_
        rw [hs]
        refine R_istore dX8_countsIn_171 (Nat.le_of_ble_eq_true rfl) rfl ?_
        refine R_iincN dX8_countsIn_173 rfl (Nat.le_of_ble_eq_true rfl) rfl ?_
        refine R_goto 127 dX8_countsIn_176 rfl ?_
        exact ih (r + 1) (by omega) (by omega)
      · refine R_aload_n dX8_countsIn_148 rfl ?_
        refine R_aload_n dX8_countsIn_149 rfl ?_
        refine R_get dX8_countsIn_150 f_X8_38 mo rfl ?_
        refine R_iload dX8_countsIn_153 rfl ?_
        refine R_iload_n dX8_countsIn_155 rfl ?_
        refine R_cV3p (N := m_X8_isLit) dX8_countsIn_156 l_X8_177 i_X8_isLit mo (n_isLit C hZ hk (by omega) hu) rfl rfl ?_
        refine R_ifeqB 169 dX8_countsIn_159 rfl (fun c_159 => ?_) (fun c_159 => ?_)
        · have hs := s_set_f2 (n := r) (f := (fun r => g r && s_lit (z_Q Z) u r)) (by show (g r && s_lit (z_Q Z) u r) = false; rw [c_159, Bool.and_false])
          refine R_iconst (nI 0) dX8_countsIn_169 rfl ?_
          refine R_ior dX8_countsIn_170 ?_
          rw [hs]
          refine R_istore dX8_countsIn_171 (Nat.le_of_ble_eq_true rfl) rfl ?_
          refine R_iincN dX8_countsIn_173 rfl (Nat.le_of_ble_eq_true rfl) rfl ?_
          refine R_goto 127 dX8_countsIn_176 rfl ?_
          exact ih (r + 1) (by omega) (by omega)
        · have hs := s_set_t (n := r) (f := (fun r => g r && s_lit (z_Q Z) u r)) (by show (g r && s_lit (z_Q Z) u r) = true; rw [c_145, c_159]; rfl)
          refine R_iconst (nI 1) dX8_countsIn_162 rfl ?_
          refine R_iload dX8_countsIn_163 rfl ?_
          refine R_ishl dX8_countsIn_165 ?_
          refine R_goto 170 dX8_countsIn_166 rfl ?_
          refine R_ior dX8_countsIn_170 ?_
          rw [hs]
          refine R_istore dX8_countsIn_171 (Nat.le_of_ble_eq_true rfl) rfl ?_
          refine R_iincN dX8_countsIn_173 rfl (Nat.le_of_ble_eq_true rfl) rfl ?_
          refine R_goto 127 dX8_countsIn_176 rfl ?_
          exact ih (r + 1) (by omega) (by omega)
theorem n_countsIn {h : xH} {Z : xZ} {k : Nat} {M : Nat → Nat → Int32} {sd : Nat → Int64} {kp t : Nat → Int32} (C : x_ML h Z M sd kp t) (hZ : x_ZB k Z) (hk : k ≤ 50000) {p f u y : Nat} {wd : Nat → Bool} {x : Int32} (hp : p < z_P Z) (hf : f < z_R Z) (hu : u ≤ 20) (hy : y < 4) (hx : ((x >>> (nI f &&& 31)) &&& nI 1) = x_b (wd f)) : x_Met m_X8_countsIn [.ref 372, .int (nI p), .int (nI f), .int (nI u), .int (nI y), .int x] h (x_pr (s_set (z_R Z) (s_reach (z_N Z) (z_F Z) (z_Q Z) p f u y wd)) h) := by
  obtain ⟨HM, HZ⟩ := id C
  have mo : h[372]? = some (x_mob (z_X Z).1 (z_f Z) (z_N Z) (z_R Z) (z_D Z) (z_P Z) (z_T Z).1 (z_s Z) (z_S Z).1 (z_B Z).1 t) := HM.1
  have m4 : h[377]? = some (x_ia 6 (M 4)) := HM.2 4 (by decide)
  have m8 : h[381]? = some (x_ia 51 (M 8)) := HM.2 8 (by decide)
  obtain ⟨w1, w2, w3, w4, w5, w6, w7, hq, wt, wi, wk, ws, wb, wx⟩ := id HZ
  obtain ⟨q0, q1, q2, q3, q9, q15, q21, q45⟩ := id hq
  have q21z : ∀ r, r < z_R Z → M 8 (21 + r) = q_la (z_Q Z) 0 r := fun r hr => q21 0 r (by decide) hr
  have hB : x_HB (z_N Z) (z_R Z) (z_D Z) (z_P Z) (z_F Z) := hZ.1.hb
  have hQ : x_QB (z_N Z) (z_R Z) (z_P Z) (z_Q Z) := hZ.2.1.1
  obtain ⟨⟨b1, b2, b3, b4⟩, b5, b6, b7⟩ := id hB
  obtain ⟨u1, u2, u3, u4, u5, u6, u7, u8, u9⟩ := id hQ
  have bT : (z_T Z).1 ≤ 30 := hZ.2.2.1.1
  have bs : z_s Z < 2 ^ 31 := hZ.2.2.2.2.1
  have bX : (z_X Z).1 ≤ 240 := hZ.2.2.2.2.2.1.1
  have bXc : ∀ i, i < (z_X Z).1 → (z_X Z).2 i < 256 := hZ.2.2.2.2.2.1.2
  have bS : (z_S Z).1 ≤ 6 := hZ.2.2.2.2.2.2.1.1
  have bSr : ∀ i, i < (z_S Z).1 → (z_S Z).2.1 i < z_R Z := hZ.2.2.2.2.2.2.1.2
  have bB : (z_B Z).1 ≤ 20 := hZ.2.2.2.2.2.2.2.1
  have bBr : ∀ i, i < (z_B Z).1 → (z_B Z).2.1 i < z_R Z := hZ.2.2.2.2.2.2.2.2
  have hv := b6 p hp
  refine x_Met.of (lo := [some (.ref 372), some (.int (nI p)), some (.int (nI f)), some (.int (nI u)), some (.int (nI y)), some (.int x), none, none, none, none]) (by decide) rfl rfl rfl ?_
  refine R_iload_n dX8_countsIn_0 rfl ?_
  refine R_aload_n dX8_countsIn_1 rfl ?_
  refine R_get dX8_countsIn_2 f_X8_154 mo rfl ?_
  refine R_iconst (nI 2) dX8_countsIn_5 rfl ?_
  refine R_idivN dX8_countsIn_6 (by omega) (by omega) (by omega) ?_
  refine R_ltN 14 dX8_countsIn_7 rfl (by omega) (by omega) (fun c_7 => ?_) (fun c_7 => ?_)
  · refine R_iconst (nI 0) dX8_countsIn_14 rfl ?_
    refine R_istore dX8_countsIn_15 (Nat.le_of_ble_eq_true rfl) rfl ?_
    refine R_iload dX8_countsIn_17 rfl ?_
    refine R_iconst (nI 2) dX8_countsIn_19 rfl ?_
    refine R_neN 30 dX8_countsIn_20 rfl (by omega) (by omega) (fun c_20 => ?_) (fun c_20 => ?_)
    · refine R_aload_n dX8_countsIn_30 rfl ?_
      refine R_get dX8_countsIn_31 f_X8_26 mo rfl ?_
      refine R_iload_n dX8_countsIn_34 rfl ?_
      refine R_iald dX8_countsIn_35 m4 rfl (by omega) (by decide) ?_
      rw [w4 p (by omega)]
      refine R_iconst (nI 3) dX8_countsIn_36 rfl ?_
      refine R_neN 44 dX8_countsIn_37 rfl (by omega) (by omega) (fun c_37 => ?_) (fun c_37 => ?_)
      · refine R_aload_n dX8_countsIn_44 rfl ?_
        refine R_get dX8_countsIn_45 f_X8_26 mo rfl ?_
        refine R_iload_n dX8_countsIn_48 rfl ?_
        refine R_iald dX8_countsIn_49 m4 rfl (by omega) (by decide) ?_
        rw [w4 p (by omega)]
        refine R_iconst (nI 4) dX8_countsIn_50 rfl ?_
        refine R_neN 84 dX8_countsIn_51 rfl (by omega) (by omega) (fun c_51 => ?_) (fun c_51 => ?_)
        · refine R_aload_n dX8_countsIn_84 rfl ?_
          refine R_get dX8_countsIn_85 f_X8_26 mo rfl ?_
          refine R_iload_n dX8_countsIn_88 rfl ?_
          refine R_iald dX8_countsIn_89 m4 rfl (by omega) (by decide) ?_
          rw [w4 p (by omega)]
          refine R_iconst (nI 1) dX8_countsIn_90 rfl ?_
          refine R_neN 101 dX8_countsIn_91 rfl (by omega) (by omega) (fun c_91 => ?_) (fun c_91 => ?_)
          · refine R_iload dX8_countsIn_101 rfl ?_
            refine R_iconst (nI 1) dX8_countsIn_103 rfl ?_
            refine R_neN 113 dX8_countsIn_104 rfl (by omega) (by omega) (fun c_104 => ?_) (fun c_104 => ?_)
            · refine R_aload_n dX8_countsIn_113 rfl ?_
              refine R_iload_n dX8_countsIn_114 rfl ?_
              refine R_iload_n dX8_countsIn_115 rfl ?_
              refine R_cV2p (N := m_X8_hearsFrom) dX8_countsIn_116 l_X8_185 i_X8_hearsFrom mo (n_hears C hZ hk hp hf) rfl rfl ?_
              refine R_istore dX8_countsIn_119 (Nat.le_of_ble_eq_true rfl) rfl ?_
              refine R_iconst (nI 0) dX8_countsIn_121 rfl ?_
              refine R_istore dX8_countsIn_122 (Nat.le_of_ble_eq_true rfl) rfl ?_
              refine R_iconst (nI 0) dX8_countsIn_124 rfl ?_
              refine R_istore dX8_countsIn_125 (Nat.le_of_ble_eq_true rfl) rfl ?_
              refine x_Rn.mono (fun v h1 z => ?_) (n_countsIn_loop C hZ hk (p := p) (f := f) (y := y) hu x _ (z_R Z + 1) 0 (by omega) (by omega))
              have e : s_set (z_R Z) (s_reach (z_N Z) (z_F Z) (z_Q Z) p f u y wd) = s_set (z_R Z) (fun r => s_heard (z_F Z) p f r && s_lit (z_Q Z) u r) := s_set_cong (fun r hr => by unfold s_reach; rw [if_neg (by omega), if_neg c_37, if_neg c_51, if_neg c_104])
              rw [e]
              exact z
            · refine R_iconst (nI 1) dX8_countsIn_107 rfl ?_
              refine R_iload_n dX8_countsIn_108 rfl ?_
              refine R_ishl dX8_countsIn_109 ?_
              refine R_goto 119 dX8_countsIn_110 rfl ?_
              refine R_istore dX8_countsIn_119 (Nat.le_of_ble_eq_true rfl) rfl ?_
              refine R_iconst (nI 0) dX8_countsIn_121 rfl ?_
              refine R_istore dX8_countsIn_122 (Nat.le_of_ble_eq_true rfl) rfl ?_
              refine R_iconst (nI 0) dX8_countsIn_124 rfl ?_
              refine R_istore dX8_countsIn_125 (Nat.le_of_ble_eq_true rfl) rfl ?_
              rw [s_one b2 hf]
              refine x_Rn.mono (fun v h1 z => ?_) (n_countsIn_loop C hZ hk (p := p) (f := f) (y := y) hu x _ (z_R Z + 1) 0 (by omega) (by omega))
              have e : s_set (z_R Z) (s_reach (z_N Z) (z_F Z) (z_Q Z) p f u y wd) = s_set (z_R Z) (fun r => decide (r = f) && s_lit (z_Q Z) u r) := s_set_cong (fun r hr => by unfold s_reach; rw [if_neg (by omega), if_neg c_37, if_neg c_51, if_pos c_104])
              rw [e]
              exact z
          · refine R_iload dX8_countsIn_94 rfl ?_
            refine R_ifneN 101 dX8_countsIn_96 rfl (by omega) (fun c_96 => ?_) (fun c_96 => ?_)
            · omega
            · skip
              refine R_iconst (nI 0) dX8_countsIn_99 rfl ?_
              exact R_iret dX8_countsIn_100 rfl rfl rfl (x_pr.eq (s_set_0 (fun r hr => by unfold s_reach; rw [if_pos ⟨by omega, Or.inl c_91⟩])))
        · refine R_aload_n dX8_countsIn_54 rfl ?_
          refine R_aload_n dX8_countsIn_55 rfl ?_
          refine R_get dX8_countsIn_56 f_X8_38 mo rfl ?_
          refine R_iload_n dX8_countsIn_59 rfl ?_
          refine R_iload_n dX8_countsIn_60 rfl ?_
          refine R_cV3p (N := m_X8_isLit) dX8_countsIn_61 l_X8_177 i_X8_isLit mo (n_isLit C hZ hk hf hu) rfl rfl ?_
          refine R_ifeqB 82 dX8_countsIn_64 rfl (fun c_64 => ?_) (fun c_64 => ?_)
          · refine R_iconst (nI 0) dX8_countsIn_82 rfl ?_
            exact R_iret dX8_countsIn_83 rfl rfl rfl (x_pr.eq (s_set_0 (fun r hr => by unfold s_reach; rw [if_neg (by omega), if_neg c_37, if_pos c_51, c_64]; rfl)))
          · refine R_iload dX8_countsIn_67 rfl ?_
            refine R_iload_n dX8_countsIn_69 rfl ?_
            refine R_cS2p (N := m_X8_has) dX8_countsIn_70 l_X8_181 i_X8_has (n_has hx) rfl rfl ?_
            refine R_ifeqB 82 dX8_countsIn_73 rfl (fun c_73 => ?_) (fun c_73 => ?_)
            · refine R_iconst (nI 0) dX8_countsIn_82 rfl ?_
              exact R_iret dX8_countsIn_83 rfl rfl rfl (x_pr.eq (s_set_0 (fun r hr => by unfold s_reach; rw [if_neg (by omega), if_neg c_37, if_pos c_51, c_64, c_73]; rfl)))
            · refine R_iconst (nI 1) dX8_countsIn_76 rfl ?_
              refine R_iload_n dX8_countsIn_77 rfl ?_
              refine R_ishl dX8_countsIn_78 ?_
              refine R_goto 83 dX8_countsIn_79 rfl ?_
              exact R_iret dX8_countsIn_83 rfl rfl rfl (x_pr.eq (s_set_1 b2 hf (fun r hr => by unfold s_reach; rw [if_neg (by omega), if_neg c_37, if_pos c_51, c_64, c_73]; rfl)))
      · refine R_iconst (nI 1) dX8_countsIn_40 rfl ?_
        refine R_iload_n dX8_countsIn_41 rfl ?_
        refine R_ishl dX8_countsIn_42 ?_
        exact R_iret dX8_countsIn_43 rfl rfl rfl (x_pr.eq (s_set_1 b2 hf (fun r hr => by unfold s_reach; rw [if_neg (by omega), if_pos c_37])))
    · refine R_iload dX8_countsIn_23 rfl ?_
      refine R_ifneN 30 dX8_countsIn_25 rfl (by omega) (fun c_25 => ?_) (fun c_25 => ?_)
      · omega
      · skip
        refine R_iconst (nI 0) dX8_countsIn_28 rfl ?_
        exact R_iret dX8_countsIn_29 rfl rfl rfl (x_pr.eq (s_set_0 (fun r hr => by unfold s_reach; rw [if_pos ⟨by omega, Or.inr c_20⟩])))
  · refine R_iconst (nI 1) dX8_countsIn_10 rfl ?_
    refine R_goto 15 dX8_countsIn_11 rfl ?_
    refine R_istore dX8_countsIn_15 (Nat.le_of_ble_eq_true rfl) rfl ?_
    refine R_iload dX8_countsIn_17 rfl ?_
    refine R_iconst (nI 2) dX8_countsIn_19 rfl ?_
    refine R_neN 30 dX8_countsIn_20 rfl (by omega) (by omega) (fun c_20 => ?_) (fun c_20 => ?_)
    · refine R_aload_n dX8_countsIn_30 rfl ?_
      refine R_get dX8_countsIn_31 f_X8_26 mo rfl ?_
      refine R_iload_n dX8_countsIn_34 rfl ?_
      refine R_iald dX8_countsIn_35 m4 rfl (by omega) (by decide) ?_
      rw [w4 p (by omega)]
      refine R_iconst (nI 3) dX8_countsIn_36 rfl ?_
      refine R_neN 44 dX8_countsIn_37 rfl (by omega) (by omega) (fun c_37 => ?_) (fun c_37 => ?_)
      · refine R_aload_n dX8_countsIn_44 rfl ?_
        refine R_get dX8_countsIn_45 f_X8_26 mo rfl ?_
        refine R_iload_n dX8_countsIn_48 rfl ?_
        refine R_iald dX8_countsIn_49 m4 rfl (by omega) (by decide) ?_
        rw [w4 p (by omega)]
        refine R_iconst (nI 4) dX8_countsIn_50 rfl ?_
        refine R_neN 84 dX8_countsIn_51 rfl (by omega) (by omega) (fun c_51 => ?_) (fun c_51 => ?_)
        · refine R_aload_n dX8_countsIn_84 rfl ?_
          refine R_get dX8_countsIn_85 f_X8_26 mo rfl ?_
          refine R_iload_n dX8_countsIn_88 rfl ?_
          refine R_iald dX8_countsIn_89 m4 rfl (by omega) (by decide) ?_
          rw [w4 p (by omega)]
          refine R_iconst (nI 1) dX8_countsIn_90 rfl ?_
          refine R_neN 101 dX8_countsIn_91 rfl (by omega) (by omega) (fun c_91 => ?_) (fun c_91 => ?_)
          · refine R_iload dX8_countsIn_101 rfl ?_
            refine R_iconst (nI 1) dX8_countsIn_103 rfl ?_
            refine R_neN 113 dX8_countsIn_104 rfl (by omega) (by omega) (fun c_104 => ?_) (fun c_104 => ?_)
            · refine R_aload_n dX8_countsIn_113 rfl ?_
              refine R_iload_n dX8_countsIn_114 rfl ?_
              refine R_iload_n dX8_countsIn_115 rfl ?_
              refine R_cV2p (N := m_X8_hearsFrom) dX8_countsIn_116 l_X8_185 i_X8_hearsFrom mo (n_hears C hZ hk hp hf) rfl rfl ?_
              refine R_istore dX8_countsIn_119 (Nat.le_of_ble_eq_true rfl) rfl ?_
              refine R_iconst (nI 0) dX8_countsIn_121 rfl ?_
              refine R_istore dX8_countsIn_122 (Nat.le_of_ble_eq_true rfl) rfl ?_
              refine R_iconst (nI 0) dX8_countsIn_124 rfl ?_
              refine R_istore dX8_countsIn_125 (Nat.le_of_ble_eq_true rfl) rfl ?_
              refine x_Rn.mono (fun v h1 z => ?_) (n_countsIn_loop C hZ hk (p := p) (f := f) (y := y) hu x _ (z_R Z + 1) 0 (by omega) (by omega))
              have e : s_set (z_R Z) (s_reach (z_N Z) (z_F Z) (z_Q Z) p f u y wd) = s_set (z_R Z) (fun r => s_heard (z_F Z) p f r && s_lit (z_Q Z) u r) := s_set_cong (fun r hr => by unfold s_reach; rw [if_neg (by omega), if_neg c_37, if_neg c_51, if_neg c_104])
              rw [e]
              exact z
            · refine R_iconst (nI 1) dX8_countsIn_107 rfl ?_
              refine R_iload_n dX8_countsIn_108 rfl ?_
              refine R_ishl dX8_countsIn_109 ?_
              refine R_goto 119 dX8_countsIn_110 rfl ?_
              refine R_istore dX8_countsIn_119 (Nat.le_of_ble_eq_true rfl) rfl ?_
              refine R_iconst (nI 0) dX8_countsIn_121 rfl ?_
              refine R_istore dX8_countsIn_122 (Nat.le_of_ble_eq_true rfl) rfl ?_
              refine R_iconst (nI 0) dX8_countsIn_124 rfl ?_
              refine R_istore dX8_countsIn_125 (Nat.le_of_ble_eq_true rfl) rfl ?_
              rw [s_one b2 hf]
              refine x_Rn.mono (fun v h1 z => ?_) (n_countsIn_loop C hZ hk (p := p) (f := f) (y := y) hu x _ (z_R Z + 1) 0 (by omega) (by omega))
              have e : s_set (z_R Z) (s_reach (z_N Z) (z_F Z) (z_Q Z) p f u y wd) = s_set (z_R Z) (fun r => decide (r = f) && s_lit (z_Q Z) u r) := s_set_cong (fun r hr => by unfold s_reach; rw [if_neg (by omega), if_neg c_37, if_neg c_51, if_pos c_104])
              rw [e]
              exact z
          · refine R_iload dX8_countsIn_94 rfl ?_
            refine R_ifneN 101 dX8_countsIn_96 rfl (by omega) (fun c_96 => ?_) (fun c_96 => ?_)
            · skip
              refine R_iload dX8_countsIn_101 rfl ?_
              refine R_iconst (nI 1) dX8_countsIn_103 rfl ?_
              refine R_neN 113 dX8_countsIn_104 rfl (by omega) (by omega) (fun c_104 => ?_) (fun c_104 => ?_)
              · refine R_aload_n dX8_countsIn_113 rfl ?_
                refine R_iload_n dX8_countsIn_114 rfl ?_
                refine R_iload_n dX8_countsIn_115 rfl ?_
                refine R_cV2p (N := m_X8_hearsFrom) dX8_countsIn_116 l_X8_185 i_X8_hearsFrom mo (n_hears C hZ hk hp hf) rfl rfl ?_
                refine R_istore dX8_countsIn_119 (Nat.le_of_ble_eq_true rfl) rfl ?_
                refine R_iconst (nI 0) dX8_countsIn_121 rfl ?_
                refine R_istore dX8_countsIn_122 (Nat.le_of_ble_eq_true rfl) rfl ?_
                refine R_iconst (nI 0) dX8_countsIn_124 rfl ?_
                refine R_istore dX8_countsIn_125 (Nat.le_of_ble_eq_true rfl) rfl ?_
                refine x_Rn.mono (fun v h1 z => ?_) (n_countsIn_loop C hZ hk (p := p) (f := f) (y := y) hu x _ (z_R Z + 1) 0 (by omega) (by omega))
                have e : s_set (z_R Z) (s_reach (z_N Z) (z_F Z) (z_Q Z) p f u y wd) = s_set (z_R Z) (fun r => s_heard (z_F Z) p f r && s_lit (z_Q Z) u r) := s_set_cong (fun r hr => by unfold s_reach; rw [if_neg (by omega), if_neg c_37, if_neg c_51, if_neg c_104])
                rw [e]
                exact z
              · refine R_iconst (nI 1) dX8_countsIn_107 rfl ?_
                refine R_iload_n dX8_countsIn_108 rfl ?_
                refine R_ishl dX8_countsIn_109 ?_
                refine R_goto 119 dX8_countsIn_110 rfl ?_
                refine R_istore dX8_countsIn_119 (Nat.le_of_ble_eq_true rfl) rfl ?_
                refine R_iconst (nI 0) dX8_countsIn_121 rfl ?_
                refine R_istore dX8_countsIn_122 (Nat.le_of_ble_eq_true rfl) rfl ?_
                refine R_iconst (nI 0) dX8_countsIn_124 rfl ?_
                refine R_istore dX8_countsIn_125 (Nat.le_of_ble_eq_true rfl) rfl ?_
                rw [s_one b2 hf]
                refine x_Rn.mono (fun v h1 z => ?_) (n_countsIn_loop C hZ hk (p := p) (f := f) (y := y) hu x _ (z_R Z + 1) 0 (by omega) (by omega))
                have e : s_set (z_R Z) (s_reach (z_N Z) (z_F Z) (z_Q Z) p f u y wd) = s_set (z_R Z) (fun r => decide (r = f) && s_lit (z_Q Z) u r) := s_set_cong (fun r hr => by unfold s_reach; rw [if_neg (by omega), if_neg c_37, if_neg c_51, if_pos c_104])
                rw [e]
                exact z
            · omega
        · refine R_aload_n dX8_countsIn_54 rfl ?_
          refine R_aload_n dX8_countsIn_55 rfl ?_
          refine R_get dX8_countsIn_56 f_X8_38 mo rfl ?_
          refine R_iload_n dX8_countsIn_59 rfl ?_
          refine R_iload_n dX8_countsIn_60 rfl ?_
          refine R_cV3p (N := m_X8_isLit) dX8_countsIn_61 l_X8_177 i_X8_isLit mo (n_isLit C hZ hk hf hu) rfl rfl ?_
          refine R_ifeqB 82 dX8_countsIn_64 rfl (fun c_64 => ?_) (fun c_64 => ?_)
          · refine R_iconst (nI 0) dX8_countsIn_82 rfl ?_
            exact R_iret dX8_countsIn_83 rfl rfl rfl (x_pr.eq (s_set_0 (fun r hr => by unfold s_reach; rw [if_neg (by omega), if_neg c_37, if_pos c_51, c_64]; rfl)))
          · refine R_iload dX8_countsIn_67 rfl ?_
            refine R_iload_n dX8_countsIn_69 rfl ?_
            refine R_cS2p (N := m_X8_has) dX8_countsIn_70 l_X8_181 i_X8_has (n_has hx) rfl rfl ?_
            refine R_ifeqB 82 dX8_countsIn_73 rfl (fun c_73 => ?_) (fun c_73 => ?_)
            · refine R_iconst (nI 0) dX8_countsIn_82 rfl ?_
              exact R_iret dX8_countsIn_83 rfl rfl rfl (x_pr.eq (s_set_0 (fun r hr => by unfold s_reach; rw [if_neg (by omega), if_neg c_37, if_pos c_51, c_64, c_73]; rfl)))
            · refine R_iconst (nI 1) dX8_countsIn_76 rfl ?_
              refine R_iload_n dX8_countsIn_77 rfl ?_
              refine R_ishl dX8_countsIn_78 ?_
              refine R_goto 83 dX8_countsIn_79 rfl ?_
              exact R_iret dX8_countsIn_83 rfl rfl rfl (x_pr.eq (s_set_1 b2 hf (fun r hr => by unfold s_reach; rw [if_neg (by omega), if_neg c_37, if_pos c_51, c_64, c_73]; rfl)))
      · refine R_iconst (nI 1) dX8_countsIn_40 rfl ?_
        refine R_iload_n dX8_countsIn_41 rfl ?_
        refine R_ishl dX8_countsIn_42 ?_
        exact R_iret dX8_countsIn_43 rfl rfl rfl (x_pr.eq (s_set_1 b2 hf (fun r hr => by unfold s_reach; rw [if_neg (by omega), if_pos c_37])))
    · refine R_iload dX8_countsIn_23 rfl ?_
      refine R_ifneN 30 dX8_countsIn_25 rfl (by omega) (fun c_25 => ?_) (fun c_25 => ?_)
      · skip
        refine R_aload_n dX8_countsIn_30 rfl ?_
        refine R_get dX8_countsIn_31 f_X8_26 mo rfl ?_
        refine R_iload_n dX8_countsIn_34 rfl ?_
        refine R_iald dX8_countsIn_35 m4 rfl (by omega) (by decide) ?_
        rw [w4 p (by omega)]
        refine R_iconst (nI 3) dX8_countsIn_36 rfl ?_
        refine R_neN 44 dX8_countsIn_37 rfl (by omega) (by omega) (fun c_37 => ?_) (fun c_37 => ?_)
        · refine R_aload_n dX8_countsIn_44 rfl ?_
          refine R_get dX8_countsIn_45 f_X8_26 mo rfl ?_
          refine R_iload_n dX8_countsIn_48 rfl ?_
          refine R_iald dX8_countsIn_49 m4 rfl (by omega) (by decide) ?_
          rw [w4 p (by omega)]
          refine R_iconst (nI 4) dX8_countsIn_50 rfl ?_
          refine R_neN 84 dX8_countsIn_51 rfl (by omega) (by omega) (fun c_51 => ?_) (fun c_51 => ?_)
          · refine R_aload_n dX8_countsIn_84 rfl ?_
            refine R_get dX8_countsIn_85 f_X8_26 mo rfl ?_
            refine R_iload_n dX8_countsIn_88 rfl ?_
            refine R_iald dX8_countsIn_89 m4 rfl (by omega) (by decide) ?_
            rw [w4 p (by omega)]
            refine R_iconst (nI 1) dX8_countsIn_90 rfl ?_
            refine R_neN 101 dX8_countsIn_91 rfl (by omega) (by omega) (fun c_91 => ?_) (fun c_91 => ?_)
            · refine R_iload dX8_countsIn_101 rfl ?_
              refine R_iconst (nI 1) dX8_countsIn_103 rfl ?_
              refine R_neN 113 dX8_countsIn_104 rfl (by omega) (by omega) (fun c_104 => ?_) (fun c_104 => ?_)
              · refine R_aload_n dX8_countsIn_113 rfl ?_
                refine R_iload_n dX8_countsIn_114 rfl ?_
                refine R_iload_n dX8_countsIn_115 rfl ?_
                refine R_cV2p (N := m_X8_hearsFrom) dX8_countsIn_116 l_X8_185 i_X8_hearsFrom mo (n_hears C hZ hk hp hf) rfl rfl ?_
                refine R_istore dX8_countsIn_119 (Nat.le_of_ble_eq_true rfl) rfl ?_
                refine R_iconst (nI 0) dX8_countsIn_121 rfl ?_
                refine R_istore dX8_countsIn_122 (Nat.le_of_ble_eq_true rfl) rfl ?_
                refine R_iconst (nI 0) dX8_countsIn_124 rfl ?_
                refine R_istore dX8_countsIn_125 (Nat.le_of_ble_eq_true rfl) rfl ?_
                refine x_Rn.mono (fun v h1 z => ?_) (n_countsIn_loop C hZ hk (p := p) (f := f) (y := y) hu x _ (z_R Z + 1) 0 (by omega) (by omega))
                have e : s_set (z_R Z) (s_reach (z_N Z) (z_F Z) (z_Q Z) p f u y wd) = s_set (z_R Z) (fun r => s_heard (z_F Z) p f r && s_lit (z_Q Z) u r) := s_set_cong (fun r hr => by unfold s_reach; rw [if_neg (by omega), if_neg c_37, if_neg c_51, if_neg c_104])
                rw [e]
                exact z
              · refine R_iconst (nI 1) dX8_countsIn_107 rfl ?_
                refine R_iload_n dX8_countsIn_108 rfl ?_
                refine R_ishl dX8_countsIn_109 ?_
                refine R_goto 119 dX8_countsIn_110 rfl ?_
                refine R_istore dX8_countsIn_119 (Nat.le_of_ble_eq_true rfl) rfl ?_
                refine R_iconst (nI 0) dX8_countsIn_121 rfl ?_
                refine R_istore dX8_countsIn_122 (Nat.le_of_ble_eq_true rfl) rfl ?_
                refine R_iconst (nI 0) dX8_countsIn_124 rfl ?_
                refine R_istore dX8_countsIn_125 (Nat.le_of_ble_eq_true rfl) rfl ?_
                rw [s_one b2 hf]
                refine x_Rn.mono (fun v h1 z => ?_) (n_countsIn_loop C hZ hk (p := p) (f := f) (y := y) hu x _ (z_R Z + 1) 0 (by omega) (by omega))
                have e : s_set (z_R Z) (s_reach (z_N Z) (z_F Z) (z_Q Z) p f u y wd) = s_set (z_R Z) (fun r => decide (r = f) && s_lit (z_Q Z) u r) := s_set_cong (fun r hr => by unfold s_reach; rw [if_neg (by omega), if_neg c_37, if_neg c_51, if_pos c_104])
                rw [e]
                exact z
            · refine R_iload dX8_countsIn_94 rfl ?_
              refine R_ifneN 101 dX8_countsIn_96 rfl (by omega) (fun c_96 => ?_) (fun c_96 => ?_)
              · skip
                refine R_iload dX8_countsIn_101 rfl ?_
                refine R_iconst (nI 1) dX8_countsIn_103 rfl ?_
                refine R_neN 113 dX8_countsIn_104 rfl (by omega) (by omega) (fun c_104 => ?_) (fun c_104 => ?_)
                · refine R_aload_n dX8_countsIn_113 rfl ?_
                  refine R_iload_n dX8_countsIn_114 rfl ?_
                  refine R_iload_n dX8_countsIn_115 rfl ?_
                  refine R_cV2p (N := m_X8_hearsFrom) dX8_countsIn_116 l_X8_185 i_X8_hearsFrom mo (n_hears C hZ hk hp hf) rfl rfl ?_
                  refine R_istore dX8_countsIn_119 (Nat.le_of_ble_eq_true rfl) rfl ?_
                  refine R_iconst (nI 0) dX8_countsIn_121 rfl ?_
                  refine R_istore dX8_countsIn_122 (Nat.le_of_ble_eq_true rfl) rfl ?_
                  refine R_iconst (nI 0) dX8_countsIn_124 rfl ?_
                  refine R_istore dX8_countsIn_125 (Nat.le_of_ble_eq_true rfl) rfl ?_
                  refine x_Rn.mono (fun v h1 z => ?_) (n_countsIn_loop C hZ hk (p := p) (f := f) (y := y) hu x _ (z_R Z + 1) 0 (by omega) (by omega))
                  have e : s_set (z_R Z) (s_reach (z_N Z) (z_F Z) (z_Q Z) p f u y wd) = s_set (z_R Z) (fun r => s_heard (z_F Z) p f r && s_lit (z_Q Z) u r) := s_set_cong (fun r hr => by unfold s_reach; rw [if_neg (by omega), if_neg c_37, if_neg c_51, if_neg c_104])
                  rw [e]
                  exact z
                · refine R_iconst (nI 1) dX8_countsIn_107 rfl ?_
                  refine R_iload_n dX8_countsIn_108 rfl ?_
                  refine R_ishl dX8_countsIn_109 ?_
                  refine R_goto 119 dX8_countsIn_110 rfl ?_
                  refine R_istore dX8_countsIn_119 (Nat.le_of_ble_eq_true rfl) rfl ?_
                  refine R_iconst (nI 0) dX8_countsIn_121 rfl ?_
                  refine R_istore dX8_countsIn_122 (Nat.le_of_ble_eq_true rfl) rfl ?_
                  refine R_iconst (nI 0) dX8_countsIn_124 rfl ?_
                  refine R_istore dX8_countsIn_125 (Nat.le_of_ble_eq_true rfl) rfl ?_
                  rw [s_one b2 hf]
                  refine x_Rn.mono (fun v h1 z => ?_) (n_countsIn_loop C hZ hk (p := p) (f := f) (y := y) hu x _ (z_R Z + 1) 0 (by omega) (by omega))
                  have e : s_set (z_R Z) (s_reach (z_N Z) (z_F Z) (z_Q Z) p f u y wd) = s_set (z_R Z) (fun r => decide (r = f) && s_lit (z_Q Z) u r) := s_set_cong (fun r hr => by unfold s_reach; rw [if_neg (by omega), if_neg c_37, if_neg c_51, if_pos c_104])
                  rw [e]
                  exact z
              · omega
          · refine R_aload_n dX8_countsIn_54 rfl ?_
            refine R_aload_n dX8_countsIn_55 rfl ?_
            refine R_get dX8_countsIn_56 f_X8_38 mo rfl ?_
            refine R_iload_n dX8_countsIn_59 rfl ?_
            refine R_iload_n dX8_countsIn_60 rfl ?_
            refine R_cV3p (N := m_X8_isLit) dX8_countsIn_61 l_X8_177 i_X8_isLit mo (n_isLit C hZ hk hf hu) rfl rfl ?_
            refine R_ifeqB 82 dX8_countsIn_64 rfl (fun c_64 => ?_) (fun c_64 => ?_)
            · refine R_iconst (nI 0) dX8_countsIn_82 rfl ?_
              exact R_iret dX8_countsIn_83 rfl rfl rfl (x_pr.eq (s_set_0 (fun r hr => by unfold s_reach; rw [if_neg (by omega), if_neg c_37, if_pos c_51, c_64]; rfl)))
            · refine R_iload dX8_countsIn_67 rfl ?_
              refine R_iload_n dX8_countsIn_69 rfl ?_
              refine R_cS2p (N := m_X8_has) dX8_countsIn_70 l_X8_181 i_X8_has (n_has hx) rfl rfl ?_
              refine R_ifeqB 82 dX8_countsIn_73 rfl (fun c_73 => ?_) (fun c_73 => ?_)
              · refine R_iconst (nI 0) dX8_countsIn_82 rfl ?_
                exact R_iret dX8_countsIn_83 rfl rfl rfl (x_pr.eq (s_set_0 (fun r hr => by unfold s_reach; rw [if_neg (by omega), if_neg c_37, if_pos c_51, c_64, c_73]; rfl)))
              · refine R_iconst (nI 1) dX8_countsIn_76 rfl ?_
                refine R_iload_n dX8_countsIn_77 rfl ?_
                refine R_ishl dX8_countsIn_78 ?_
                refine R_goto 83 dX8_countsIn_79 rfl ?_
                exact R_iret dX8_countsIn_83 rfl rfl rfl (x_pr.eq (s_set_1 b2 hf (fun r hr => by unfold s_reach; rw [if_neg (by omega), if_neg c_37, if_pos c_51, c_64, c_73]; rfl)))
        · refine R_iconst (nI 1) dX8_countsIn_40 rfl ?_
          refine R_iload_n dX8_countsIn_41 rfl ?_
          refine R_ishl dX8_countsIn_42 ?_
          exact R_iret dX8_countsIn_43 rfl rfl rfl (x_pr.eq (s_set_1 b2 hf (fun r hr => by unfold s_reach; rw [if_neg (by omega), if_pos c_37])))
      · omega
theorem n_counts_loop {h : xH} {Z : xZ} {k : Nat} {M : Nat → Nat → Int32} {sd : Nat → Int64} {kp t : Nat → Int32} (C : x_ML h Z M sd kp t) (hZ : x_ZB k Z) (hk : k ≤ 50000) {p : Nat} (hp : p < z_P Z) : ∀ (m r : Nat), r ≤ z_R Z → z_R Z + 1 ≤ r + m → x_Rn m_X8_countsOf 32 [some (.ref 372), some (.int (nI p)), some (.int (s_set (z_R Z) (s_reach (z_N Z) (z_F Z) (z_Q Z) p (q_pl (z_Q Z) p) (q_hr (z_Q Z)) 0 (s_wd (z_Q Z) 0)))), some (.int (s_set r (s_counts (z_N Z) (z_F Z) (z_Q Z) p))), some (.int (nI r))] [] h (0, 0) (x_pr (s_set (z_R Z) (s_counts (z_N Z) (z_F Z) (z_Q Z) p)) h) := by
  obtain ⟨HM, HZ⟩ := id C
  have mo : h[372]? = some (x_mob (z_X Z).1 (z_f Z) (z_N Z) (z_R Z) (z_D Z) (z_P Z) (z_T Z).1 (z_s Z) (z_S Z).1 (z_B Z).1 t) := HM.1
  have m8 : h[381]? = some (x_ia 51 (M 8)) := HM.2 8 (by decide)
  obtain ⟨w1, w2, w3, w4, w5, w6, w7, hq, wt, wi, wk, ws, wb, wx⟩ := id HZ
  obtain ⟨q0, q1, q2, q3, q9, q15, q21, q45⟩ := id hq
  have q21z : ∀ r, r < z_R Z → M 8 (21 + r) = q_la (z_Q Z) 0 r := fun r hr => q21 0 r (by decide) hr
  have hB : x_HB (z_N Z) (z_R Z) (z_D Z) (z_P Z) (z_F Z) := hZ.1.hb
  have hQ : x_QB (z_N Z) (z_R Z) (z_P Z) (z_Q Z) := hZ.2.1.1
  obtain ⟨⟨b1, b2, b3, b4⟩, b5, b6, b7⟩ := id hB
  obtain ⟨u1, u2, u3, u4, u5, u6, u7, u8, u9⟩ := id hQ
  have bT : (z_T Z).1 ≤ 30 := hZ.2.2.1.1
  have bs : z_s Z < 2 ^ 31 := hZ.2.2.2.2.1
  have bX : (z_X Z).1 ≤ 240 := hZ.2.2.2.2.2.1.1
  have bXc : ∀ i, i < (z_X Z).1 → (z_X Z).2 i < 256 := hZ.2.2.2.2.2.1.2
  have bS : (z_S Z).1 ≤ 6 := hZ.2.2.2.2.2.2.1.1
  have bSr : ∀ i, i < (z_S Z).1 → (z_S Z).2.1 i < z_R Z := hZ.2.2.2.2.2.2.1.2
  have bB : (z_B Z).1 ≤ 20 := hZ.2.2.2.2.2.2.2.1
  have bBr : ∀ i, i < (z_B Z).1 → (z_B Z).2.1 i < z_R Z := hZ.2.2.2.2.2.2.2.2
  intro m
  induction m with
  | zero => intro r h1 h3; omega
  | succ m ih =>
    intro r h1 h3
    refine R_iload dX8_countsOf_32 rfl ?_
    refine R_aload_n dX8_countsOf_34 rfl ?_
    refine R_get dX8_countsOf_35 f_X8_82 mo rfl ?_
    refine R_geN 86 dX8_countsOf_38 rfl (by omega) (by omega) (fun c_38 => ?_) (fun c_38 => ?_)
    · have e : r = z_R Z := by omega
      subst e
      refine R_iload_n dX8_countsOf_86 rfl ?_
      exact R_iret dX8_countsOf_87 rfl rfl rfl x_pr.mk
    · refine R_iload_n dX8_countsOf_41 rfl ?_
      refine R_iload_n dX8_countsOf_42 rfl ?_
      refine R_iload dX8_countsOf_43 rfl ?_
      refine R_cS2p (N := m_X8_has) dX8_countsOf_45 l_X8_181 i_X8_has (n_has (s_bitR b2 (s_reach (z_N Z) (z_F Z) (z_Q Z) p (q_pl (z_Q Z) p) (q_hr (z_Q Z)) 0 (s_wd (z_Q Z) 0)) (by omega))) rfl rfl ?_
      refine R_ifeqB 77 dX8_countsOf_48 rfl (fun c_48 => ?_) (fun c_48 => ?_)
      · have hs := s_set_f2 (n := r) (f := (s_counts (z_N Z) (z_F Z) (z_Q Z) p)) (by unfold s_counts; rw [c_48]; rfl)
        refine R_iconst (nI 0) dX8_countsOf_77 rfl ?_
        refine R_ior dX8_countsOf_78 ?_
        rw [hs]
        refine R_istore_n dX8_countsOf_79 (Nat.le_of_ble_eq_true rfl) rfl ?_
        refine R_iincN dX8_countsOf_80 rfl (Nat.le_of_ble_eq_true rfl) rfl ?_
        refine R_goto 32 dX8_countsOf_83 rfl ?_
        exact ih (r + 1) (by omega) (by omega)
      · refine R_aload_n dX8_countsOf_51 rfl ?_
        refine R_get dX8_countsOf_52 f_X8_38 mo rfl ?_
        refine R_bipush (nI 21) dX8_countsOf_55 rfl ?_
        refine R_iload dX8_countsOf_57 rfl ?_
        refine R_iaddN dX8_countsOf_59 ?_
        refine R_iald dX8_countsOf_60 m8 rfl (by omega) (by decide) ?_
        rw [q21z r (by omega)]
        refine R_aload_n dX8_countsOf_61 rfl ?_
        refine R_iload_n dX8_countsOf_62 rfl ?_
        refine R_iconst (nI 0) dX8_countsOf_63 rfl ?_
        refine R_cV2p (N := m_X8_whoseOf) dX8_countsOf_64 l_X8_197 i_X8_whoseOf mo (n_whose C hZ hk hp (y := 0) (by decide)) rfl rfl ?_
        refine R_icmpeq 77 dX8_countsOf_67 rfl (fun c_67 => ?_) (fun c_67 => ?_)
        · have hs := s_set_f2 (n := r) (f := (s_counts (z_N Z) (z_F Z) (z_Q Z) p)) (by unfold s_counts; rw [c_67]; simp)
          refine R_iconst (nI 0) dX8_countsOf_77 rfl ?_
          refine R_ior dX8_countsOf_78 ?_
          rw [hs]
          refine R_istore_n dX8_countsOf_79 (Nat.le_of_ble_eq_true rfl) rfl ?_
          refine R_iincN dX8_countsOf_80 rfl (Nat.le_of_ble_eq_true rfl) rfl ?_
          refine R_goto 32 dX8_countsOf_83 rfl ?_
          exact ih (r + 1) (by omega) (by omega)
        · have hs := s_set_t (n := r) (f := (s_counts (z_N Z) (z_F Z) (z_Q Z) p)) (by unfold s_counts; rw [c_48, decide_eq_true c_67]; rfl)
          refine R_iconst (nI 1) dX8_countsOf_70 rfl ?_
          refine R_iload dX8_countsOf_71 rfl ?_
          refine R_ishl dX8_countsOf_73 ?_
          refine R_goto 78 dX8_countsOf_74 rfl ?_
          refine R_ior dX8_countsOf_78 ?_
          rw [hs]
          refine R_istore_n dX8_countsOf_79 (Nat.le_of_ble_eq_true rfl) rfl ?_
          refine R_iincN dX8_countsOf_80 rfl (Nat.le_of_ble_eq_true rfl) rfl ?_
          refine R_goto 32 dX8_countsOf_83 rfl ?_
          exact ih (r + 1) (by omega) (by omega)
theorem n_counts {h : xH} {Z : xZ} {k : Nat} {M : Nat → Nat → Int32} {sd : Nat → Int64} {kp t : Nat → Int32} (C : x_ML h Z M sd kp t) (hZ : x_ZB k Z) (hk : k ≤ 50000) {p : Nat} (hp : p < z_P Z) : x_Met m_X8_countsOf [.ref 372, .int (nI p)] h (x_pr (s_set (z_R Z) (s_counts (z_N Z) (z_F Z) (z_Q Z) p)) h) := by
  obtain ⟨HM, HZ⟩ := id C
  have mo : h[372]? = some (x_mob (z_X Z).1 (z_f Z) (z_N Z) (z_R Z) (z_D Z) (z_P Z) (z_T Z).1 (z_s Z) (z_S Z).1 (z_B Z).1 t) := HM.1
  have m8 : h[381]? = some (x_ia 51 (M 8)) := HM.2 8 (by decide)
  obtain ⟨w1, w2, w3, w4, w5, w6, w7, hq, wt, wi, wk, ws, wb, wx⟩ := id HZ
  obtain ⟨q0, q1, q2, q3, q9, q15, q21, q45⟩ := id hq
  have q21z : ∀ r, r < z_R Z → M 8 (21 + r) = q_la (z_Q Z) 0 r := fun r hr => q21 0 r (by decide) hr
  have hB : x_HB (z_N Z) (z_R Z) (z_D Z) (z_P Z) (z_F Z) := hZ.1.hb
  have hQ : x_QB (z_N Z) (z_R Z) (z_P Z) (z_Q Z) := hZ.2.1.1
  obtain ⟨⟨b1, b2, b3, b4⟩, b5, b6, b7⟩ := id hB
  obtain ⟨u1, u2, u3, u4, u5, u6, u7, u8, u9⟩ := id hQ
  have bT : (z_T Z).1 ≤ 30 := hZ.2.2.1.1
  have bs : z_s Z < 2 ^ 31 := hZ.2.2.2.2.1
  have bX : (z_X Z).1 ≤ 240 := hZ.2.2.2.2.2.1.1
  have bXc : ∀ i, i < (z_X Z).1 → (z_X Z).2 i < 256 := hZ.2.2.2.2.2.1.2
  have bS : (z_S Z).1 ≤ 6 := hZ.2.2.2.2.2.2.1.1
  have bSr : ∀ i, i < (z_S Z).1 → (z_S Z).2.1 i < z_R Z := hZ.2.2.2.2.2.2.1.2
  have bB : (z_B Z).1 ≤ 20 := hZ.2.2.2.2.2.2.2.1
  have bBr : ∀ i, i < (z_B Z).1 → (z_B Z).2.1 i < z_R Z := hZ.2.2.2.2.2.2.2.2
  refine x_Met.of (lo := [some (.ref 372), some (.int (nI p)), none, none, none]) (by decide) rfl rfl rfl ?_
  refine R_aload_n dX8_countsOf_0 rfl ?_
  refine R_iload_n dX8_countsOf_1 rfl ?_
  refine R_aload_n dX8_countsOf_2 rfl ?_
  refine R_get dX8_countsOf_3 f_X8_38 mo rfl ?_
  refine R_bipush (nI 45) dX8_countsOf_6 rfl ?_
  refine R_iload_n dX8_countsOf_8 rfl ?_
  refine R_iaddN dX8_countsOf_9 ?_
  refine R_iald dX8_countsOf_10 m8 rfl (by omega) (by decide) ?_
  rw [q45 p (by omega)]
  refine R_aload_n dX8_countsOf_11 rfl ?_
  refine R_get dX8_countsOf_12 f_X8_38 mo rfl ?_
  refine R_iconst (nI 0) dX8_countsOf_15 rfl ?_
  refine R_iald dX8_countsOf_16 m8 rfl (by omega) (by decide) ?_
  rw [q0]
  refine R_iconst (nI 0) dX8_countsOf_17 rfl ?_
  refine R_aload_n dX8_countsOf_18 rfl ?_
  refine R_iconst (nI 0) dX8_countsOf_19 rfl ?_
  refine R_cV1p (N := m_X8_wordedOf) dX8_countsOf_20 l_X8_189 i_X8_wordedOf mo (n_worded C hZ hk (y := 0) (by decide)) rfl rfl ?_
  refine R_cV5p (N := m_X8_countsIn) dX8_countsOf_23 l_X8_193 i_X8_countsIn mo (n_countsIn C hZ hk (wd := s_wd (z_Q Z) 0) hp (u6 p hp) u1 (y := 0) (by omega) (s_bitR b2 _ (u6 p hp))) rfl rfl ?_
  refine R_istore_n dX8_countsOf_26 (Nat.le_of_ble_eq_true rfl) rfl ?_
  refine R_iconst (nI 0) dX8_countsOf_27 rfl ?_
  refine R_istore_n dX8_countsOf_28 (Nat.le_of_ble_eq_true rfl) rfl ?_
  refine R_iconst (nI 0) dX8_countsOf_29 rfl ?_
  refine R_istore dX8_countsOf_30 (Nat.le_of_ble_eq_true rfl) rfl ?_
  exact n_counts_loop C hZ hk hp (z_R Z + 1) 0 (by omega) (by omega)
