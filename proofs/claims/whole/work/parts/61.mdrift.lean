/-! THE MODEL: drift and the rest -/
def x_DrwM (g : Nat → Nat) (w : Nat → Nat → Nat) : Prop := ∀ {h : xH} {Z : xZ} {k : Nat} {M : Nat → Nat → Int32} {sd : Nat → Int64} {kp t : Nat → Int32}, x_ML h Z M sd kp t → x_ZB k Z → k ≤ 50000 → ∀ {n : Nat}, 0 < n → n ≤ 8 → x_Met m_X8_draw [.ref 372, .int (nI n)] h (x_ir (fun r h' => r = nI (w (g (z_s Z)) n) ∧ x_Model h' (z_sets Z (g (z_s Z))) ∧ x_fD h h'))
theorem x_drwM : x_DrwM s_lcg s_dw := fun C hZ hk _ hn hn2 => n_draw C hZ hk hn hn2
theorem x_ML.to {h : xH} {Z Z' : xZ} {M : Nat → Nat → Int32} {sd : Nat → Int64} {kp t : Nat → Int32} (C : x_ML h Z M sd kp t) (e : Z' = Z) : x_ML h Z' M sd kp t := by rw [e]; exact C
theorem n_drawn {g : Nat → Nat} {w : Nat → Nat → Nat} (hg : ∀ s, g s < 2 ^ 31) (hw : ∀ s n, 0 < n → w s n < n) (hdr : x_DrwM g w) {h : xH} {Z : xZ} {k : Nat} {M : Nat → Nat → Int32} {sd : Nat → Int64} {kp t : Nat → Int32} (C : x_ML h Z M sd kp t) (hZ : x_ZB k Z) (hk : k + 5 ≤ 50000) : x_Met m_X8_drawn [.ref 372] h (x_KV h (z_pass (z_actG g w (z_setT Z (t_rem (z_Q Z) (z_T Z)))))) := by
  obtain ⟨HM, HZ⟩ := id C
  have mo : h[372]? = some (x_mob (z_X Z).1 (z_f Z) (z_N Z) (z_R Z) (z_D Z) (z_P Z) (z_T Z).1 (z_s Z) (z_S Z).1 (z_B Z).1 t) := HM.1
  have m8 : h[381]? = some (x_ia 51 (M 8)) := HM.2 8 (by decide)
  obtain ⟨w1, w2, w3, w4, w5, w6, w7, hq, wt, wi, wk, ws, wb, wx⟩ := id HZ
  obtain ⟨q0, q1, q2, q3, q9, q15, q21, q45⟩ := id hq
  have q21z : ∀ r9, r9 < z_R Z → M 8 (21 + r9) = q_la (z_Q Z) 0 r9 := fun r9 hr9 => q21 0 r9 (by decide) hr9
  have hB : x_HB (z_N Z) (z_R Z) (z_D Z) (z_P Z) (z_F Z) := hZ.1.hb
  have hQ : x_QB (z_N Z) (z_R Z) (z_P Z) (z_Q Z) := hZ.2.1.1
  obtain ⟨⟨b1, b2, b3, b4⟩, b5, b6, b7⟩ := id hB
  obtain ⟨u1, u2, u3, u4, u5, u6, u7, u8, u9⟩ := id hQ
  have bT : (z_T Z).1 ≤ 30 := hZ.2.2.1.1
  have bs : z_s Z < 2 ^ 31 := hZ.2.2.2.2.1
  have bX : (z_X Z).1 ≤ 240 := hZ.2.2.2.2.2.1.1
  have bXc : ∀ i, i < (z_X Z).1 → (z_X Z).2 i < 256 := hZ.2.2.2.2.2.1.2
  have bS : (z_S Z).1 ≤ 6 := hZ.2.2.2.2.2.2.1.1
  have bSr : ∀ i, i < (z_S Z).1 → (z_S Z).2.1 i < z_R Z := hZ.2.2.2.2.2.2.1.2
  have bB : (z_B Z).1 ≤ 20 := hZ.2.2.2.2.2.2.2.1
  have bBr : ∀ i, i < (z_B Z).1 → (z_B Z).2.1 i < z_R Z := hZ.2.2.2.2.2.2.2.2
  have FD := x_fD.rf h
  have tail : ∀ (v1 v2 v3 : Option Value) (M : Nat → Nat → Int32) (sd : Nat → Int64) (kp t : Nat → Int32) {h2 : xH}, x_ML h2 (z_actG g w (z_setT Z (t_rem (z_Q Z) (z_T Z)))) M sd kp t → x_fD h h2 → x_Rn m_X8_drawn 121 [some (.ref 372), v1, v2, v3] [] h2 (0, 0) (x_KV h (z_pass (z_actG g w (z_setT Z (t_rem (z_Q Z) (z_T Z)))))) := by
    intro v1 v2 v3 M sd kp t h2 C FD
    have mo := C.1.1
    refine R_aload_n dX8_drawn_121 rfl ?_
    refine R_cV0v (N := m_X8_hourOn) dX8_drawn_122 l_X8_246 i_X8_hourOn mo (n_hourOn C (hZ.t.actG hg hw (by omega)) (by omega)) rfl rfl (fun h122 q_122 => ?_)
    obtain ⟨HMo, FD1⟩ := q_122
    exact R_vret dX8_drawn_125 rfl rfl rfl ⟨rfl, HMo, FD.trans FD1⟩
  refine x_Met.of (lo := [some (.ref 372), none, none, none]) (by decide) rfl rfl rfl ?_
  refine R_aload_n dX8_drawn_0 rfl ?_
  refine R_cV0v (N := m_X8_notes) dX8_drawn_1 l_X8_236 i_X8_notes mo (n_notes C hZ (by omega)) rfl rfl (fun h1 q_1 => ?_)
  obtain ⟨⟨M, sd, kp, t, C⟩, FD1⟩ := q_1
  have FD := FD.trans FD1
  have hZ1 := hZ.t
  obtain ⟨HM, HZ⟩ := id C
  have mo : h1[372]? = some (x_mob (z_X Z).1 (z_f Z) (z_N Z) (z_R Z) (z_D Z) (z_P Z) (t_rem (z_Q Z) (z_T Z)).1 (z_s Z) (z_S Z).1 (z_B Z).1 t) := HM.1
  have m8 : h1[381]? = some (x_ia 51 (M 8)) := HM.2 8 (by decide)
  have hq : x_stq (M 8) (z_R Z) (z_P Z) (z_Q Z) := HZ.2.2.2.2.2.2.2.1
  obtain ⟨q0, q1, q2, q3, q9, q15, q21, q45⟩ := id hq
  have q21z : ∀ r9, r9 < z_R Z → M 8 (21 + r9) = q_la (z_Q Z) 0 r9 := fun r9 hr9 => q21 0 r9 (by decide) hr9
  refine R_aload_n dX8_drawn_4 rfl ?_
  refine R_get dX8_drawn_5 f_X8_89 mo rfl ?_
  refine R_ifleN 121 dX8_drawn_8 rfl (by omega) (fun c_8 => ?_) (fun c_8 => ?_)
  · have eA : z_actG g w (z_setT Z (t_rem (z_Q Z) (z_T Z))) = (z_setT Z (t_rem (z_Q Z) (z_T Z))) := by rw [z_actG, if_pos c_8]
    have CE := x_ML.to C eA
    exact tail _ _ _ _ _ _ _ CE FD
  · refine R_aload_n dX8_drawn_11 rfl ?_
    refine R_iconst (nI 4) dX8_drawn_12 rfl ?_
    refine R_cV1i (N := m_X8_draw) dX8_drawn_13 l_X8_261 i_X8_draw mo (hdr C hZ1 (by omega) (by omega) (by omega)) rfl rfl (fun r13 h13 q_13 => ?_)
    obtain ⟨er, ⟨M, sd, kp, t, C⟩, FD1⟩ := q_13
    have er : r13 = nI (w (g (z_s Z)) 4) := er
    subst er
    have C : x_ML h13 (z_sets (z_setT Z (t_rem (z_Q Z) (z_T Z))) (g (z_s Z))) M sd kp t := C
    have FD := FD.trans FD1
    have hw13 : (w (g (z_s Z)) 4) < 4 := hw _ _ (by omega)
    obtain ⟨HM, HZ⟩ := id C
    have mo : h13[372]? = some (x_mob (z_X Z).1 (z_f Z) (z_N Z) (z_R Z) (z_D Z) (z_P Z) (t_rem (z_Q Z) (z_T Z)).1 (g (z_s Z)) (z_S Z).1 (z_B Z).1 t) := HM.1
    have m8 : h13[381]? = some (x_ia 51 (M 8)) := HM.2 8 (by decide)
    have hq : x_stq (M 8) (z_R Z) (z_P Z) (z_Q Z) := HZ.2.2.2.2.2.2.2.1
    obtain ⟨q0, q1, q2, q3, q9, q15, q21, q45⟩ := id hq
    have q21z : ∀ r9, r9 < z_R Z → M 8 (21 + r9) = q_la (z_Q Z) 0 r9 := fun r9 hr9 => q21 0 r9 (by decide) hr9
    refine R_istore_n dX8_drawn_16 (Nat.le_of_ble_eq_true rfl) rfl ?_
    refine R_aload_n dX8_drawn_17 rfl ?_
    refine R_aload_n dX8_drawn_18 rfl ?_
    refine R_get dX8_drawn_19 f_X8_89 mo rfl ?_
    refine R_cV1i (N := m_X8_draw) dX8_drawn_22 l_X8_261 i_X8_draw mo (hdr C (hZ1.s (hg _)) (by omega) (by omega) (by omega)) rfl rfl (fun r22 h22 q_22 => ?_)
    obtain ⟨er, ⟨M, sd, kp, t, C⟩, FD1⟩ := q_22
    have er : r22 = nI (w (g (g (z_s Z))) (z_P Z)) := er
    subst er
    have C : x_ML h22 (z_sets (z_setT Z (t_rem (z_Q Z) (z_T Z))) (g (g (z_s Z)))) M sd kp t := C
    have FD := FD.trans FD1
    have hw22 : (w (g (g (z_s Z))) (z_P Z)) < z_P Z := hw _ _ (by omega)
    obtain ⟨HM, HZ⟩ := id C
    have mo : h22[372]? = some (x_mob (z_X Z).1 (z_f Z) (z_N Z) (z_R Z) (z_D Z) (z_P Z) (t_rem (z_Q Z) (z_T Z)).1 (g (g (z_s Z))) (z_S Z).1 (z_B Z).1 t) := HM.1
    have m8 : h22[381]? = some (x_ia 51 (M 8)) := HM.2 8 (by decide)
    have hq : x_stq (M 8) (z_R Z) (z_P Z) (z_Q Z) := HZ.2.2.2.2.2.2.2.1
    obtain ⟨q0, q1, q2, q3, q9, q15, q21, q45⟩ := id hq
    have q21z : ∀ r9, r9 < z_R Z → M 8 (21 + r9) = q_la (z_Q Z) 0 r9 := fun r9 hr9 => q21 0 r9 (by decide) hr9
    have up22 := u6 _ hw22
    refine R_istore_n dX8_drawn_25 (Nat.le_of_ble_eq_true rfl) rfl ?_
    refine R_iload_n dX8_drawn_26 rfl ?_
    refine R_iconst (nI 2) dX8_drawn_27 rfl ?_
    refine R_geN 39 dX8_drawn_28 rfl (by omega) (by omega) (fun c_28 => ?_) (fun c_28 => ?_)
    · refine R_iload_n dX8_drawn_39 rfl ?_
      refine R_iconst (nI 3) dX8_drawn_40 rfl ?_
      refine R_neN 65 dX8_drawn_41 rfl (by omega) (by omega) (fun c_41 => ?_) (fun c_41 => ?_)
      · refine R_aload_n dX8_drawn_65 rfl ?_
        refine R_get dX8_drawn_66 f_X8_92 mo rfl ?_
        refine R_ifleN 121 dX8_drawn_69 rfl (by omega) (fun c_69 => ?_) (fun c_69 => ?_)
        · have eA : z_actG g w (z_setT Z (t_rem (z_Q Z) (z_T Z))) = z_sets (z_setT Z (t_rem (z_Q Z) (z_T Z))) (g (g (z_s Z))) := by rw [z_actG, if_neg c_8, if_neg (show ¬ w (g (z_s (z_setT Z (t_rem (z_Q Z) (z_T Z))))) 4 ≤ 1 by show ¬ w (g (z_s Z)) 4 ≤ 1; omega), if_pos (show w (g (z_s (z_setT Z (t_rem (z_Q Z) (z_T Z))))) 4 = 2 by show w (g (z_s Z)) 4 = 2; omega), if_pos c_69]
          have CE := x_ML.to C eA
          exact tail _ _ _ _ _ _ _ CE FD
        · refine R_aload_n dX8_drawn_72 rfl ?_
          refine R_aload_n dX8_drawn_73 rfl ?_
          refine R_aload_n dX8_drawn_74 rfl ?_
          refine R_get dX8_drawn_75 f_X8_92 mo rfl ?_
          refine R_cV1i (N := m_X8_draw) dX8_drawn_78 l_X8_261 i_X8_draw mo (hdr C (hZ1.s (hg _)) (by omega) (by omega) (by omega)) rfl rfl (fun r78 h78 q_78 => ?_)
          obtain ⟨er, ⟨M, sd, kp, t, C⟩, FD1⟩ := q_78
          have er : r78 = nI (w (g (g (g (z_s Z)))) (z_D Z)) := er
          subst er
          have C : x_ML h78 (z_sets (z_setT Z (t_rem (z_Q Z) (z_T Z))) (g (g (g (z_s Z))))) M sd kp t := C
          have FD := FD.trans FD1
          have hw78 : (w (g (g (g (z_s Z)))) (z_D Z)) < z_D Z := hw _ _ (by omega)
          obtain ⟨HM, HZ⟩ := id C
          have mo : h78[372]? = some (x_mob (z_X Z).1 (z_f Z) (z_N Z) (z_R Z) (z_D Z) (z_P Z) (t_rem (z_Q Z) (z_T Z)).1 (g (g (g (z_s Z)))) (z_S Z).1 (z_B Z).1 t) := HM.1
          have m8 : h78[381]? = some (x_ia 51 (M 8)) := HM.2 8 (by decide)
          have hq : x_stq (M 8) (z_R Z) (z_P Z) (z_Q Z) := HZ.2.2.2.2.2.2.2.1
          obtain ⟨q0, q1, q2, q3, q9, q15, q21, q45⟩ := id hq
          have q21z : ∀ r9, r9 < z_R Z → M 8 (21 + r9) = q_la (z_Q Z) 0 r9 := fun r9 hr9 => q21 0 r9 (by decide) hr9
          refine R_aload_n dX8_drawn_81 rfl ?_
          refine R_get dX8_drawn_82 f_X8_38 mo rfl ?_
          refine R_bipush (nI 45) dX8_drawn_85 rfl ?_
          refine R_iload_n dX8_drawn_87 rfl ?_
          refine R_iaddN dX8_drawn_88 ?_
          refine R_iald dX8_drawn_89 m8 rfl (by omega) (by decide) ?_
          rw [q45 ((w (g (g (z_s Z))) (z_P Z))) (by omega)]
          refine R_cV2p (N := m_X8_behind) dX8_drawn_90 l_X8_242 i_X8_behind mo (n_behind C (hZ1.s (hg _)) (by omega) hw78 (u6 _ hw22)) rfl rfl ?_
          refine R_istore_n dX8_drawn_93 (Nat.le_of_ble_eq_true rfl) rfl ?_
          refine R_aload_n dX8_drawn_94 rfl ?_
          refine R_get dX8_drawn_95 f_X8_38 mo rfl ?_
          refine R_bipush (nI 45) dX8_drawn_98 rfl ?_
          refine R_iload_n dX8_drawn_100 rfl ?_
          refine R_iaddN dX8_drawn_101 ?_
          refine R_iload_n dX8_drawn_102 rfl ?_
          refine R_iconst (-1) dX8_drawn_103 rfl ?_
          refine R_icmpne 119 dX8_drawn_104 rfl (fun c_104 => ?_) (fun c_104 => ?_)
          · skip
            refine R_iload_n dX8_drawn_119 rfl ?_
            refine R_iast dX8_drawn_120 m8 (by omega) rfl (by omega) (by decide) ?_
            obtain ⟨x, hx, et⟩ := (s_behind_in (R := z_R Z) (r := q_pl (z_Q Z) (w (g (g (z_s Z))) (z_P Z))) (fun d hd => ⟨(b5 d hd).1, (b5 d hd).2.1⟩) hw78).resolve_left c_104
            have hq2 : x_stq (upd (M 8) (45 + (w (g (g (z_s Z))) (z_P Z))) (s_behind (z_F Z) (w (g (g (g (z_s Z)))) (z_D Z)) (q_pl (z_Q Z) (w (g (g (z_s Z))) (z_P Z))))) (z_R Z) (z_P Z) (q_go (z_Q Z) (w (g (g (z_s Z))) (z_P Z)) (i_n (s_behind (z_F Z) (w (g (g (g (z_s Z)))) (z_D Z)) (q_pl (z_Q Z) (w (g (g (z_s Z))) (z_P Z)))))) := by
              have z := hq.pl b2 b4 hw22 (i_n (s_behind (z_F Z) (w (g (g (g (z_s Z)))) (z_D Z)) (q_pl (z_Q Z) (w (g (g (z_s Z))) (z_P Z)))))
              rw [show nI (i_n (s_behind (z_F Z) (w (g (g (g (z_s Z)))) (z_D Z)) (q_pl (z_Q Z) (w (g (g (z_s Z))) (z_P Z))))) = (s_behind (z_F Z) (w (g (g (g (z_s Z)))) (z_D Z)) (q_pl (z_Q Z) (w (g (g (z_s Z))) (z_P Z)))) by rw [et, i_n_nI (by omega)]] at z
              exact z
            have C := C.st hq2
            have FD := FD.set (c := 381) (x_ia 51 (upd (M 8) (45 + (w (g (g (z_s Z))) (z_P Z))) (s_behind (z_F Z) (w (g (g (g (z_s Z)))) (z_D Z)) (q_pl (z_Q Z) (w (g (g (z_s Z))) (z_P Z)))))) (by omega)
            have eA : z_actG g w (z_setT Z (t_rem (z_Q Z) (z_T Z))) = z_setQ (z_sets (z_setT Z (t_rem (z_Q Z) (z_T Z))) (g (g (g (z_s Z))))) (q_go (z_Q Z) (w (g (g (z_s Z))) (z_P Z)) (i_n (s_behind (z_F Z) (w (g (g (g (z_s Z)))) (z_D Z)) (q_pl (z_Q Z) (w (g (g (z_s Z))) (z_P Z)))))) := by rw [z_actG, if_neg c_8, if_neg (show ¬ w (g (z_s (z_setT Z (t_rem (z_Q Z) (z_T Z))))) 4 ≤ 1 by show ¬ w (g (z_s Z)) 4 ≤ 1; omega), if_pos (show w (g (z_s (z_setT Z (t_rem (z_Q Z) (z_T Z))))) 4 = 2 by show w (g (z_s Z)) 4 = 2; omega), if_neg c_69, if_neg c_104]
            have CE := x_ML.to C eA
            exact tail _ _ _ _ _ _ _ CE FD
          · skip
            refine R_aload_n dX8_drawn_107 rfl ?_
            refine R_get dX8_drawn_108 f_X8_38 mo rfl ?_
            refine R_bipush (nI 45) dX8_drawn_111 rfl ?_
            refine R_iload_n dX8_drawn_113 rfl ?_
            refine R_iaddN dX8_drawn_114 ?_
            refine R_iald dX8_drawn_115 m8 rfl (by omega) (by decide) ?_
            rw [q45 ((w (g (g (z_s Z))) (z_P Z))) (by omega)]
            refine R_goto 120 dX8_drawn_116 rfl ?_
            refine R_iast dX8_drawn_120 m8 (by omega) rfl (by omega) (by decide) ?_
            have hq2 : x_stq (upd (M 8) (45 + (w (g (g (z_s Z))) (z_P Z))) (nI (q_pl (z_Q Z) (w (g (g (z_s Z))) (z_P Z))))) (z_R Z) (z_P Z) (z_Q Z) := (hq.pl b2 b4 hw22 (q_pl (z_Q Z) (w (g (g (z_s Z))) (z_P Z)))).eq rfl rfl rfl (fun _ _ => rfl) (fun _ _ => rfl) (fun _ _ => rfl) (fun _ _ _ _ => rfl) (fun j _ => by
              show (if j = _ then _ else q_pl (z_Q Z) j) = q_pl (z_Q Z) j
              by_cases e : j = (w (g (g (z_s Z))) (z_P Z))
              · rw [if_pos e, e]
              · rw [if_neg e])
            have C := C.st hq2
            have FD := FD.set (c := 381) (x_ia 51 (upd (M 8) (45 + (w (g (g (z_s Z))) (z_P Z))) (nI (q_pl (z_Q Z) (w (g (g (z_s Z))) (z_P Z)))))) (by omega)
            have eA : z_actG g w (z_setT Z (t_rem (z_Q Z) (z_T Z))) = z_sets (z_setT Z (t_rem (z_Q Z) (z_T Z))) (g (g (g (z_s Z)))) := by rw [z_actG, if_neg c_8, if_neg (show ¬ w (g (z_s (z_setT Z (t_rem (z_Q Z) (z_T Z))))) 4 ≤ 1 by show ¬ w (g (z_s Z)) 4 ≤ 1; omega), if_pos (show w (g (z_s (z_setT Z (t_rem (z_Q Z) (z_T Z))))) 4 = 2 by show w (g (z_s Z)) 4 = 2; omega), if_neg c_69, if_pos c_104]
            have CE := x_ML.to C eA
            exact tail _ _ _ _ _ _ _ CE FD
      · refine R_aload_n dX8_drawn_44 rfl ?_
        refine R_get dX8_drawn_45 f_X8_38 mo rfl ?_
        refine R_bipush (nI 9) dX8_drawn_48 rfl ?_
        refine R_aload_n dX8_drawn_50 rfl ?_
        refine R_get dX8_drawn_51 f_X8_38 mo rfl ?_
        refine R_bipush (nI 45) dX8_drawn_54 rfl ?_
        refine R_iload_n dX8_drawn_56 rfl ?_
        refine R_iaddN dX8_drawn_57 ?_
        refine R_iald dX8_drawn_58 m8 rfl (by omega) (by decide) ?_
        rw [q45 ((w (g (g (z_s Z))) (z_P Z))) (by omega)]
        refine R_iaddN dX8_drawn_59 ?_
        refine R_iconst (nI 1) dX8_drawn_60 rfl ?_
        refine R_iast dX8_drawn_61 m8 (by omega) rfl (by omega) (by decide) ?_
        have hq2 : x_stq (upd (M 8) (9 + q_pl (z_Q Z) (w (g (g (z_s Z))) (z_P Z))) (x_b true)) (z_R Z) (z_P Z) (q_out (z_Q Z) (q_pl (z_Q Z) (w (g (g (z_s Z))) (z_P Z)))) := (hq.ou b2 (u6 _ hw22) true).eq rfl rfl rfl (fun _ _ => rfl) (fun j _ => by
          show (if j = _ then true else q_ou (z_Q Z) j) = (q_ou (z_Q Z) j || decide (j = _))
          by_cases e : j = q_pl (z_Q Z) (w (g (g (z_s Z))) (z_P Z))
          · rw [if_pos e, decide_eq_true e, Bool.or_true]
          · rw [if_neg e, decide_eq_false e, Bool.or_false]) (fun _ _ => rfl) (fun _ _ _ _ => rfl) (fun _ _ => rfl)
        have C := C.st hq2
        have FD := FD.set (c := 381) (x_ia 51 (upd (M 8) (9 + q_pl (z_Q Z) (w (g (g (z_s Z))) (z_P Z))) (x_b true))) (by omega)
        have eA : z_actG g w (z_setT Z (t_rem (z_Q Z) (z_T Z))) = z_setQ (z_sets (z_setT Z (t_rem (z_Q Z) (z_T Z))) (g (g (z_s Z)))) (q_out (z_Q Z) (q_pl (z_Q Z) (w (g (g (z_s Z))) (z_P Z)))) := by rw [z_actG, if_neg c_8, if_neg (show ¬ w (g (z_s (z_setT Z (t_rem (z_Q Z) (z_T Z))))) 4 ≤ 1 by show ¬ w (g (z_s Z)) 4 ≤ 1; omega), if_neg (show ¬ w (g (z_s (z_setT Z (t_rem (z_Q Z) (z_T Z))))) 4 = 2 by show ¬ w (g (z_s Z)) 4 = 2; omega)]
        refine R_goto 121 dX8_drawn_62 rfl ?_
        have CE := x_ML.to C eA
        exact tail _ _ _ _ _ _ _ CE FD
    · refine R_aload_n dX8_drawn_31 rfl ?_
      refine R_iload_n dX8_drawn_32 rfl ?_
      refine R_cV1v (N := m_X8_says) dX8_drawn_33 l_X8_239 i_X8_says mo (n_says C (hZ1.s (hg _)) (by omega) (p := (w (g (g (z_s Z))) (z_P Z))) hw22) rfl rfl (fun h33 q_33 => ?_)
      obtain ⟨⟨M, sd, kp, t, C⟩, FD1⟩ := q_33
      have FD := FD.trans FD1
      have eA : z_actG g w (z_setT Z (t_rem (z_Q Z) (z_T Z))) = z_setQ (z_sets (z_setT Z (t_rem (z_Q Z) (z_T Z))) (g (g (z_s Z)))) (s_speak (z_N Z) (z_R Z) (z_F Z) (z_Q Z) (w (g (g (z_s Z))) (z_P Z))) := by rw [z_actG, if_neg c_8, if_pos (show w (g (z_s (z_setT Z (t_rem (z_Q Z) (z_T Z))))) 4 ≤ 1 by show w (g (z_s Z)) 4 ≤ 1; omega)]
      refine R_goto 121 dX8_drawn_36 rfl ?_
      have CE := x_ML.to C eA
      exact tail _ _ _ _ _ _ _ CE FD
theorem n_drift_loop {h : xH} {n : Nat} {Zf : xZ} (hn : n ≤ 20) : ∀ (m i : Nat), i + m = n → ∀ (Z : xZ) (k : Nat) (M : Nat → Nat → Int32) (sd : Nat → Int64) (kp t : Nat → Int32) {g : xH}, x_ML g Z M sd kp t → x_ZB k Z → k + m * 2 + 5 ≤ 50000 → x_fD h g → z_iter z_drift1 m Z = Zf → x_Rn m_X8_drift 40 [some (.ref 372), some (.int (nI n)), some (.int (nI i))] [] g (0, 0) (x_KD h (nI (q_hr (z_Q Zf)), Zf)) := by
  intro m
  induction m with
  | zero =>
    intro i h1 Z k M sd kp t g C hZ hk FD he
    have he : Z = Zf := he
    subst he
    obtain ⟨HM, HZ⟩ := id C
    have mo : g[372]? = some (x_mob (z_X Z).1 (z_f Z) (z_N Z) (z_R Z) (z_D Z) (z_P Z) (z_T Z).1 (z_s Z) (z_S Z).1 (z_B Z).1 t) := HM.1
    have m8 : g[381]? = some (x_ia 51 (M 8)) := HM.2 8 (by decide)
    obtain ⟨w1, w2, w3, w4, w5, w6, w7, hq, wt, wi, wk, ws, wb, wx⟩ := id HZ
    obtain ⟨q0, q1, q2, q3, q9, q15, q21, q45⟩ := id hq
    have q21z : ∀ r9, r9 < z_R Z → M 8 (21 + r9) = q_la (z_Q Z) 0 r9 := fun r9 hr9 => q21 0 r9 (by decide) hr9
    have hB : x_HB (z_N Z) (z_R Z) (z_D Z) (z_P Z) (z_F Z) := hZ.1.hb
    have hQ : x_QB (z_N Z) (z_R Z) (z_P Z) (z_Q Z) := hZ.2.1.1
    obtain ⟨⟨b1, b2, b3, b4⟩, b5, b6, b7⟩ := id hB
    obtain ⟨u1, u2, u3, u4, u5, u6, u7, u8, u9⟩ := id hQ
    have bT : (z_T Z).1 ≤ 30 := hZ.2.2.1.1
    have bs : z_s Z < 2 ^ 31 := hZ.2.2.2.2.1
    have bX : (z_X Z).1 ≤ 240 := hZ.2.2.2.2.2.1.1
    have bXc : ∀ i, i < (z_X Z).1 → (z_X Z).2 i < 256 := hZ.2.2.2.2.2.1.2
    have bS : (z_S Z).1 ≤ 6 := hZ.2.2.2.2.2.2.1.1
    have bSr : ∀ i, i < (z_S Z).1 → (z_S Z).2.1 i < z_R Z := hZ.2.2.2.2.2.2.1.2
    have bB : (z_B Z).1 ≤ 20 := hZ.2.2.2.2.2.2.2.1
    have bBr : ∀ i, i < (z_B Z).1 → (z_B Z).2.1 i < z_R Z := hZ.2.2.2.2.2.2.2.2
    refine R_iload_n dX8_drift_40 rfl ?_
    refine R_iload_n dX8_drift_41 rfl ?_
    refine R_geN 55 dX8_drift_42 rfl (by omega) (by omega) (fun c_42 => ?_) (fun c_42 => ?_)
    · refine R_aload_n dX8_drift_55 rfl ?_
      refine R_get dX8_drift_56 f_X8_38 mo rfl ?_
      refine R_iconst (nI 0) dX8_drift_59 rfl ?_
      refine R_iald dX8_drift_60 m8 rfl (by omega) (by decide) ?_
      rw [q0]
      exact R_iret dX8_drift_61 rfl rfl rfl (x_KD.ok C.cl FD rfl)
    · omega
  | succ m ih =>
    intro i h1 Z k M sd kp t g C hZ hk FD he
    obtain ⟨HM, HZ⟩ := id C
    have mo : g[372]? = some (x_mob (z_X Z).1 (z_f Z) (z_N Z) (z_R Z) (z_D Z) (z_P Z) (z_T Z).1 (z_s Z) (z_S Z).1 (z_B Z).1 t) := HM.1
    have m8 : g[381]? = some (x_ia 51 (M 8)) := HM.2 8 (by decide)
    obtain ⟨w1, w2, w3, w4, w5, w6, w7, hq, wt, wi, wk, ws, wb, wx⟩ := id HZ
    obtain ⟨q0, q1, q2, q3, q9, q15, q21, q45⟩ := id hq
    have q21z : ∀ r9, r9 < z_R Z → M 8 (21 + r9) = q_la (z_Q Z) 0 r9 := fun r9 hr9 => q21 0 r9 (by decide) hr9
    have hB : x_HB (z_N Z) (z_R Z) (z_D Z) (z_P Z) (z_F Z) := hZ.1.hb
    have hQ : x_QB (z_N Z) (z_R Z) (z_P Z) (z_Q Z) := hZ.2.1.1
    obtain ⟨⟨b1, b2, b3, b4⟩, b5, b6, b7⟩ := id hB
    obtain ⟨u1, u2, u3, u4, u5, u6, u7, u8, u9⟩ := id hQ
    have bT : (z_T Z).1 ≤ 30 := hZ.2.2.1.1
    have bs : z_s Z < 2 ^ 31 := hZ.2.2.2.2.1
    have bX : (z_X Z).1 ≤ 240 := hZ.2.2.2.2.2.1.1
    have bXc : ∀ i, i < (z_X Z).1 → (z_X Z).2 i < 256 := hZ.2.2.2.2.2.1.2
    have bS : (z_S Z).1 ≤ 6 := hZ.2.2.2.2.2.2.1.1
    have bSr : ∀ i, i < (z_S Z).1 → (z_S Z).2.1 i < z_R Z := hZ.2.2.2.2.2.2.1.2
    have bB : (z_B Z).1 ≤ 20 := hZ.2.2.2.2.2.2.2.1
    have bBr : ∀ i, i < (z_B Z).1 → (z_B Z).2.1 i < z_R Z := hZ.2.2.2.2.2.2.2.2
    refine R_iload_n dX8_drift_40 rfl ?_
    refine R_iload_n dX8_drift_41 rfl ?_
    refine R_geN 55 dX8_drift_42 rfl (by omega) (by omega) (fun c_42 => ?_) (fun c_42 => ?_)
    · omega
    · refine R_aload_n dX8_drift_45 rfl ?_
      refine R_cV0v (N := m_X8_drawn) dX8_drift_46 l_X8_264 i_X8_drawn mo (n_drawn s_lcg_lt s_dw_lt x_drwM C hZ (by omega)) rfl rfl (fun h46 q_46 => ?_)
      obtain ⟨⟨M, sd, kp, t, C⟩, FD1⟩ := q_46
      have FD := FD.trans FD1
      have C : x_ML h46 (z_drift1 Z) M sd kp t := C
      refine R_iincN dX8_drift_49 rfl (Nat.le_of_ble_eq_true rfl) rfl ?_
      refine R_goto 40 dX8_drift_52 rfl ?_
      exact ih (i + 1) (by omega) (z_drift1 Z) (k + 2) M sd kp t C (hZ.drift1 (by omega)) (by omega) FD he
theorem n_drift {h : xH} {Z : xZ} {k : Nat} {M : Nat → Nat → Int32} {sd : Nat → Int64} {kp t : Nat → Int32} (C : x_ML h Z M sd kp t) (hZ : x_ZB k Z) (hk : k + 50 ≤ 50000) (n : Int32) : x_Met m_X8_drift [.ref 372, .int n] h (x_KD h (z_drift Z n)) := by
  obtain ⟨HM, HZ⟩ := id C
  have mo : h[372]? = some (x_mob (z_X Z).1 (z_f Z) (z_N Z) (z_R Z) (z_D Z) (z_P Z) (z_T Z).1 (z_s Z) (z_S Z).1 (z_B Z).1 t) := HM.1
  have m8 : h[381]? = some (x_ia 51 (M 8)) := HM.2 8 (by decide)
  obtain ⟨w1, w2, w3, w4, w5, w6, w7, hq, wt, wi, wk, ws, wb, wx⟩ := id HZ
  obtain ⟨q0, q1, q2, q3, q9, q15, q21, q45⟩ := id hq
  have q21z : ∀ r9, r9 < z_R Z → M 8 (21 + r9) = q_la (z_Q Z) 0 r9 := fun r9 hr9 => q21 0 r9 (by decide) hr9
  have hB : x_HB (z_N Z) (z_R Z) (z_D Z) (z_P Z) (z_F Z) := hZ.1.hb
  have hQ : x_QB (z_N Z) (z_R Z) (z_P Z) (z_Q Z) := hZ.2.1.1
  obtain ⟨⟨b1, b2, b3, b4⟩, b5, b6, b7⟩ := id hB
  obtain ⟨u1, u2, u3, u4, u5, u6, u7, u8, u9⟩ := id hQ
  have bT : (z_T Z).1 ≤ 30 := hZ.2.2.1.1
  have bs : z_s Z < 2 ^ 31 := hZ.2.2.2.2.1
  have bX : (z_X Z).1 ≤ 240 := hZ.2.2.2.2.2.1.1
  have bXc : ∀ i, i < (z_X Z).1 → (z_X Z).2 i < 256 := hZ.2.2.2.2.2.1.2
  have bS : (z_S Z).1 ≤ 6 := hZ.2.2.2.2.2.2.1.1
  have bSr : ∀ i, i < (z_S Z).1 → (z_S Z).2.1 i < z_R Z := hZ.2.2.2.2.2.2.1.2
  have bB : (z_B Z).1 ≤ 20 := hZ.2.2.2.2.2.2.2.1
  have bBr : ∀ i, i < (z_B Z).1 → (z_B Z).2.1 i < z_R Z := hZ.2.2.2.2.2.2.2.2
  refine x_Met.of (lo := [some (.ref 372), some (.int n), none]) (by decide) rfl rfl rfl ?_
  refine R_iload_n dX8_drift_0 rfl ?_
  refine R_iconst (nI 1) dX8_drift_1 rfl ?_
  refine R_bipush (nI 20) dX8_drift_2 rfl ?_
  refine R_cS3p (N := m_X8_in) dX8_drift_4 l_X8_85 i_X8_in (n_in _ _ _) rfl rfl ?_
  refine R_ifneB 13 dX8_drift_7 rfl (fun c_7 => ?_) (fun c_7 => ?_)
  · obtain ⟨i, hi1, hi2, rfl⟩ := x_in_t (a := 1) (b := 20) (by decide) (by decide) c_7
    refine R_aload_n dX8_drift_13 rfl ?_
    refine R_get dX8_drift_14 f_X8_154 mo rfl ?_
    refine R_ifneN 23 dX8_drift_17 rfl (by omega) (fun c_17 => ?_) (fun c_17 => ?_)
    · refine R_aload_n dX8_drift_23 rfl ?_
      refine R_get dX8_drift_24 f_X8_38 mo rfl ?_
      refine R_iconst (nI 1) dX8_drift_27 rfl ?_
      refine R_iald dX8_drift_28 m8 rfl (by omega) (by decide) ?_
      rw [q1]
      refine R_sipush (nI 9000) dX8_drift_29 rfl ?_
      refine R_leN 38 dX8_drift_32 rfl (by omega) (by omega) (fun c_32 => ?_) (fun c_32 => ?_)
      · refine R_iconst (nI 0) dX8_drift_38 rfl ?_
        refine R_istore_n dX8_drift_39 (Nat.le_of_ble_eq_true rfl) rfl ?_
        have e0 : z_ref Z (nI i) = 0 := by rw [z_ref, z_rg_t hi1 hi2 (by decide), if_neg c_17, if_neg (by omega)]
        rw [z_drift, if_pos e0, i_n_nI (by omega)]
        exact n_drift_loop hi2 i 0 (by omega) Z k M sd kp t C hZ (by omega) (x_fD.rf h) rfl
      · refine R_ldc (-1000000004) dX8_drift_35 k_X8_99 ?_
        exact R_iret dX8_drift_37 rfl rfl rfl (x_KD.ok C.cl (x_fD.rf _) (by rw [z_drift, show z_ref Z (nI i) = -1000000004 by rw [z_ref, z_rg_t hi1 hi2 (by decide), if_neg c_17, if_pos (by omega)], if_neg (by decide)]))
    · refine R_ldc (-1000000003) dX8_drift_20 k_X8_245 ?_
      exact R_iret dX8_drift_22 rfl rfl rfl (x_KD.ok C.cl (x_fD.rf _) (by rw [z_drift, show z_ref Z (nI i) = -1000000003 by rw [z_ref, z_rg_t hi1 hi2 (by decide), if_pos c_17], if_neg (by decide)]))
  · refine R_ldc (-1000000002) dX8_drift_10 k_X8_95 ?_
    exact R_iret dX8_drift_12 rfl rfl rfl (x_KD.ok C.cl (x_fD.rf _) (by rw [z_drift, show z_ref Z n = -1000000002 from z_rg_in c_7, if_neg (by decide)]))
