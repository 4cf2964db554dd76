/-! THE MODEL: hours, draws -/
theorem x_i2l {n : Nat} (hn : n < 2 ^ 31) : (nI n).toInt64 = lN n := by
  apply Int64.toInt_inj.mp
  rw [Int32.toInt_toInt64, nI_toInt hn, lN_toInt hn]
theorem x_lcgL {s : Nat} (hs : s < 2 ^ 31) : (lN s * 1103515245 + 12345) - (lN s * 1103515245 + 12345) / 2147483648 * 2147483648 = lN (s_lcg s) := by
  have e : lN s * 1103515245 + 12345 = lN (s * 1103515245 + 12345) := by rw [← lN_add, ← lN_mul]; rfl
  have e2 : (2147483648 : Int64) = lN 2147483648 := rfl
  rw [e, e2, pk_lRem (by omega) (by omega) (by omega)]
  rfl
theorem x_drL {y n : Nat} (hy : y < 2 ^ 31) (hn : 0 < n) (hn2 : n ≤ 8) : (lN y / 65536 - lN y / 65536 / (nI n).toInt64 * (nI n).toInt64).toInt32 = nI (y / 65536 % n) := by
  have e2 : (65536 : Int64) = lN 65536 := rfl
  rw [e2, x_i2l (by omega), pk_lDiv (by omega) (by omega) (by omega), pk_lRem (Nat.lt_of_le_of_lt (Nat.div_le_self _ _) (by omega)) hn (by omega), lN_i]
theorem n_hour_loop {h : xH} {n : Nat} {Zf : xZ} (hn : n ≤ 20) : ∀ (m i : Nat), i + m = n → ∀ (Z : xZ) (k : Nat) (M : Nat → Nat → Int32) (sd : Nat → Int64) (kp t : Nat → Int32) {g : xH}, x_ML g Z M sd kp t → x_ZB k Z → k + m ≤ 50000 → x_fD h g → z_iter z_hour1 m Z = Zf → x_Rn m_X8_hour 40 [some (.ref 372), some (.int (nI n)), some (.int (nI i))] [] g (0, 0) (x_KD h (nI (q_hr (z_Q Zf)), Zf)) := by
  intro m
  induction m with
  | zero =>
    intro i h1 Z k M sd kp t g C hZ hk FD he
    have he : Z = Zf := he
    subst he
    obtain ⟨HM, HZ⟩ := id C
    have mo : g[372]? = some (x_mob (z_X Z).1 (z_f Z) (z_N Z) (z_R Z) (z_D Z) (z_P Z) (z_T Z).1 (z_s Z) (z_S Z).1 (z_B Z).1 t) := HM.1
    have m8 : g[381]? = some (x_ia 51 (M 8)) := HM.2 8 (by decide)
    obtain ⟨w1, w2, w3, w4, w5, w6, w7, hq, wt, wi, wk, ws, wb, wx⟩ := id HZ
    obtain ⟨q0, q1, q2, q3, q9, q15, q21, q45⟩ := id hq
    have q21z : ∀ r9, r9 < z_R Z → M 8 (21 + r9) = q_la (z_Q Z) 0 r9 := fun r9 hr9 => q21 0 r9 (by decide) hr9
    have hB : x_HB (z_N Z) (z_R Z) (z_D Z) (z_P Z) (z_F Z) := hZ.1.hb
    have hQ : x_QB (z_N Z) (z_R Z) (z_P Z) (z_Q Z) := hZ.2.1.1
    obtain ⟨⟨b1, b2, b3, b4⟩, b5, b6, b7⟩ := id hB
    obtain ⟨u1, u2, u3, u4, u5, u6, u7, u8, u9⟩ := id hQ
    have bT : (z_T Z).1 ≤ 30 := hZ.2.2.1.1
    have bs : z_s Z < 2 ^ 31 := hZ.2.2.2.2.1
    have bX : (z_X Z).1 ≤ 240 := hZ.2.2.2.2.2.1.1
    have bXc : ∀ i, i < (z_X Z).1 → (z_X Z).2 i < 256 := hZ.2.2.2.2.2.1.2
    have bS : (z_S Z).1 ≤ 6 := hZ.2.2.2.2.2.2.1.1
    have bSr : ∀ i, i < (z_S Z).1 → (z_S Z).2.1 i < z_R Z := hZ.2.2.2.2.2.2.1.2
    have bB : (z_B Z).1 ≤ 20 := hZ.2.2.2.2.2.2.2.1
    have bBr : ∀ i, i < (z_B Z).1 → (z_B Z).2.1 i < z_R Z := hZ.2.2.2.2.2.2.2.2
    refine R_iload_n dX8_hour_40 rfl ?_
    refine R_iload_n dX8_hour_41 rfl ?_
    refine R_geN 59 dX8_hour_42 rfl (by omega) (by omega) (fun c_42 => ?_) (fun c_42 => ?_)
    · refine R_aload_n dX8_hour_59 rfl ?_
      refine R_get dX8_hour_60 f_X8_38 mo rfl ?_
      refine R_iconst (nI 0) dX8_hour_63 rfl ?_
      refine R_iald dX8_hour_64 m8 rfl (by omega) (by decide) ?_
      rw [q0]
      exact R_iret dX8_hour_65 rfl rfl rfl (x_KD.ok C.cl FD rfl)
    · omega
  | succ m ih =>
    intro i h1 Z k M sd kp t g C hZ hk FD he
    obtain ⟨HM, HZ⟩ := id C
    have mo : g[372]? = some (x_mob (z_X Z).1 (z_f Z) (z_N Z) (z_R Z) (z_D Z) (z_P Z) (z_T Z).1 (z_s Z) (z_S Z).1 (z_B Z).1 t) := HM.1
    have m8 : g[381]? = some (x_ia 51 (M 8)) := HM.2 8 (by decide)
    obtain ⟨w1, w2, w3, w4, w5, w6, w7, hq, wt, wi, wk, ws, wb, wx⟩ := id HZ
    obtain ⟨q0, q1, q2, q3, q9, q15, q21, q45⟩ := id hq
    have q21z : ∀ r9, r9 < z_R Z → M 8 (21 + r9) = q_la (z_Q Z) 0 r9 := fun r9 hr9 => q21 0 r9 (by decide) hr9
    have hB : x_HB (z_N Z) (z_R Z) (z_D Z) (z_P Z) (z_F Z) := hZ.1.hb
    have hQ : x_QB (z_N Z) (z_R Z) (z_P Z) (z_Q Z) := hZ.2.1.1
    obtain ⟨⟨b1, b2, b3, b4⟩, b5, b6, b7⟩ := id hB
    obtain ⟨u1, u2, u3, u4, u5, u6, u7, u8, u9⟩ := id hQ
    have bT : (z_T Z).1 ≤ 30 := hZ.2.2.1.1
    have bs : z_s Z < 2 ^ 31 := hZ.2.2.2.2.1
    have bX : (z_X Z).1 ≤ 240 := hZ.2.2.2.2.2.1.1
    have bXc : ∀ i, i < (z_X Z).1 → (z_X Z).2 i < 256 := hZ.2.2.2.2.2.1.2
    have bS : (z_S Z).1 ≤ 6 := hZ.2.2.2.2.2.2.1.1
    have bSr : ∀ i, i < (z_S Z).1 → (z_S Z).2.1 i < z_R Z := hZ.2.2.2.2.2.2.1.2
    have bB : (z_B Z).1 ≤ 20 := hZ.2.2.2.2.2.2.2.1
    have bBr : ∀ i, i < (z_B Z).1 → (z_B Z).2.1 i < z_R Z := hZ.2.2.2.2.2.2.2.2
    refine R_iload_n dX8_hour_40 rfl ?_
    refine R_iload_n dX8_hour_41 rfl ?_
    refine R_geN 59 dX8_hour_42 rfl (by omega) (by omega) (fun c_42 => ?_) (fun c_42 => ?_)
    · omega
    · refine R_aload_n dX8_hour_45 rfl ?_
      refine R_cV0v (N := m_X8_notes) dX8_hour_46 l_X8_236 i_X8_notes mo (n_notes C hZ (by omega)) rfl rfl (fun h46 q_46 => ?_)
      obtain ⟨⟨M, sd, kp, t, C⟩, FD1⟩ := q_46
      have FD := FD.trans FD1
      have mo := C.1.1
      refine R_aload_n dX8_hour_49 rfl ?_
      refine R_cV0v (N := m_X8_hourOn) dX8_hour_50 l_X8_246 i_X8_hourOn mo (n_hourOn C hZ.t (by omega)) rfl rfl (fun h50 q_50 => ?_)
      obtain ⟨⟨M, sd, kp, t, C⟩, FD1⟩ := q_50
      have FD := FD.trans FD1
      refine R_iincN dX8_hour_53 rfl (Nat.le_of_ble_eq_true rfl) rfl ?_
      refine R_goto 40 dX8_hour_56 rfl ?_
      exact ih (i + 1) (by omega) (z_hour1 Z) (k + 1) M sd kp t C (hZ.hour1 (by omega)) (by omega) FD he
theorem n_hour {h : xH} {Z : xZ} {k : Nat} {M : Nat → Nat → Int32} {sd : Nat → Int64} {kp t : Nat → Int32} (C : x_ML h Z M sd kp t) (hZ : x_ZB k Z) (hk : k + 50 ≤ 50000) (n : Int32) : x_Met m_X8_hour [.ref 372, .int n] h (x_KD h (z_hour Z n)) := by
  obtain ⟨HM, HZ⟩ := id C
  have mo : h[372]? = some (x_mob (z_X Z).1 (z_f Z) (z_N Z) (z_R Z) (z_D Z) (z_P Z) (z_T Z).1 (z_s Z) (z_S Z).1 (z_B Z).1 t) := HM.1
  have m8 : h[381]? = some (x_ia 51 (M 8)) := HM.2 8 (by decide)
  obtain ⟨w1, w2, w3, w4, w5, w6, w7, hq, wt, wi, wk, ws, wb, wx⟩ := id HZ
  obtain ⟨q0, q1, q2, q3, q9, q15, q21, q45⟩ := id hq
  have q21z : ∀ r9, r9 < z_R Z → M 8 (21 + r9) = q_la (z_Q Z) 0 r9 := fun r9 hr9 => q21 0 r9 (by decide) hr9
  have hB : x_HB (z_N Z) (z_R Z) (z_D Z) (z_P Z) (z_F Z) := hZ.1.hb
  have hQ : x_QB (z_N Z) (z_R Z) (z_P Z) (z_Q Z) := hZ.2.1.1
  obtain ⟨⟨b1, b2, b3, b4⟩, b5, b6, b7⟩ := id hB
  obtain ⟨u1, u2, u3, u4, u5, u6, u7, u8, u9⟩ := id hQ
  have bT : (z_T Z).1 ≤ 30 := hZ.2.2.1.1
  have bs : z_s Z < 2 ^ 31 := hZ.2.2.2.2.1
  have bX : (z_X Z).1 ≤ 240 := hZ.2.2.2.2.2.1.1
  have bXc : ∀ i, i < (z_X Z).1 → (z_X Z).2 i < 256 := hZ.2.2.2.2.2.1.2
  have bS : (z_S Z).1 ≤ 6 := hZ.2.2.2.2.2.2.1.1
  have bSr : ∀ i, i < (z_S Z).1 → (z_S Z).2.1 i < z_R Z := hZ.2.2.2.2.2.2.1.2
  have bB : (z_B Z).1 ≤ 20 := hZ.2.2.2.2.2.2.2.1
  have bBr : ∀ i, i < (z_B Z).1 → (z_B Z).2.1 i < z_R Z := hZ.2.2.2.2.2.2.2.2
  refine x_Met.of (lo := [some (.ref 372), some (.int n), none]) (by decide) rfl rfl rfl ?_
  refine R_iload_n dX8_hour_0 rfl ?_
  refine R_iconst (nI 1) dX8_hour_1 rfl ?_
  refine R_bipush (nI 20) dX8_hour_2 rfl ?_
  refine R_cS3p (N := m_X8_in) dX8_hour_4 l_X8_85 i_X8_in (n_in _ _ _) rfl rfl ?_
  refine R_ifneB 13 dX8_hour_7 rfl (fun c_7 => ?_) (fun c_7 => ?_)
  · obtain ⟨i, hi1, hi2, rfl⟩ := x_in_t (a := 1) (b := 20) (by decide) (by decide) c_7
    refine R_aload_n dX8_hour_13 rfl ?_
    refine R_get dX8_hour_14 f_X8_154 mo rfl ?_
    refine R_ifneN 23 dX8_hour_17 rfl (by omega) (fun c_17 => ?_) (fun c_17 => ?_)
    · refine R_aload_n dX8_hour_23 rfl ?_
      refine R_get dX8_hour_24 f_X8_38 mo rfl ?_
      refine R_iconst (nI 1) dX8_hour_27 rfl ?_
      refine R_iald dX8_hour_28 m8 rfl (by omega) (by decide) ?_
      rw [q1]
      refine R_sipush (nI 9000) dX8_hour_29 rfl ?_
      refine R_leN 38 dX8_hour_32 rfl (by omega) (by omega) (fun c_32 => ?_) (fun c_32 => ?_)
      · refine R_iconst (nI 0) dX8_hour_38 rfl ?_
        refine R_istore_n dX8_hour_39 (Nat.le_of_ble_eq_true rfl) rfl ?_
        have e0 : z_ref Z (nI i) = 0 := by rw [z_ref, z_rg_t hi1 hi2 (by decide), if_neg c_17, if_neg (by omega)]
        rw [z_hour, if_pos e0, i_n_nI (by omega)]
        exact n_hour_loop hi2 i 0 (by omega) Z k M sd kp t C hZ (by omega) (x_fD.rf h) rfl
      · refine R_ldc (-1000000004) dX8_hour_35 k_X8_99 ?_
        exact R_iret dX8_hour_37 rfl rfl rfl (x_KD.ok C.cl (x_fD.rf _) (by rw [z_hour, show z_ref Z (nI i) = -1000000004 by rw [z_ref, z_rg_t hi1 hi2 (by decide), if_neg c_17, if_pos (by omega)], if_neg (by decide)]))
    · refine R_ldc (-1000000003) dX8_hour_20 k_X8_245 ?_
      exact R_iret dX8_hour_22 rfl rfl rfl (x_KD.ok C.cl (x_fD.rf _) (by rw [z_hour, show z_ref Z (nI i) = -1000000003 by rw [z_ref, z_rg_t hi1 hi2 (by decide), if_pos c_17], if_neg (by decide)]))
  · refine R_ldc (-1000000002) dX8_hour_10 k_X8_95 ?_
    exact R_iret dX8_hour_12 rfl rfl rfl (x_KD.ok C.cl (x_fD.rf _) (by rw [z_hour, show z_ref Z n = -1000000002 from z_rg_in c_7, if_neg (by decide)]))
theorem n_draw {h : xH} {Z : xZ} {k : Nat} {M : Nat → Nat → Int32} {sd : Nat → Int64} {kp t : Nat → Int32} (C : x_ML h Z M sd kp t) (hZ : x_ZB k Z) (hk : k ≤ 50000) {n : Nat} (hn : 0 < n) (hn2 : n ≤ 8) : x_Met m_X8_draw [.ref 372, .int (nI n)] h (x_ir (fun r h' => r = nI (s_dw (s_lcg (z_s Z)) n) ∧ x_Model h' (z_sets Z (s_lcg (z_s Z))) ∧ x_fD h h')) := by
  obtain ⟨y, ey⟩ : ∃ y, y = s_lcg (z_s Z) := ⟨_, rfl⟩
  have hy : y < 2 ^ 31 := by rw [ey]; exact s_lcg_lt _
  rw [← ey]
  unfold s_dw
  obtain ⟨HM, HZ⟩ := id C
  have mo : h[372]? = some (x_mob (z_X Z).1 (z_f Z) (z_N Z) (z_R Z) (z_D Z) (z_P Z) (z_T Z).1 (z_s Z) (z_S Z).1 (z_B Z).1 t) := HM.1
  obtain ⟨w1, w2, w3, w4, w5, w6, w7, hq, wt, wi, wk, ws, wb, wx⟩ := id HZ
  obtain ⟨q0, q1, q2, q3, q9, q15, q21, q45⟩ := id hq
  have q21z : ∀ r9, r9 < z_R Z → M 8 (21 + r9) = q_la (z_Q Z) 0 r9 := fun r9 hr9 => q21 0 r9 (by decide) hr9
  have hB : x_HB (z_N Z) (z_R Z) (z_D Z) (z_P Z) (z_F Z) := hZ.1.hb
  have hQ : x_QB (z_N Z) (z_R Z) (z_P Z) (z_Q Z) := hZ.2.1.1
  obtain ⟨⟨b1, b2, b3, b4⟩, b5, b6, b7⟩ := id hB
  obtain ⟨u1, u2, u3, u4, u5, u6, u7, u8, u9⟩ := id hQ
  have bT : (z_T Z).1 ≤ 30 := hZ.2.2.1.1
  have bs : z_s Z < 2 ^ 31 := hZ.2.2.2.2.1
  have bX : (z_X Z).1 ≤ 240 := hZ.2.2.2.2.2.1.1
  have bXc : ∀ i, i < (z_X Z).1 → (z_X Z).2 i < 256 := hZ.2.2.2.2.2.1.2
  have bS : (z_S Z).1 ≤ 6 := hZ.2.2.2.2.2.2.1.1
  have bSr : ∀ i, i < (z_S Z).1 → (z_S Z).2.1 i < z_R Z := hZ.2.2.2.2.2.2.1.2
  have bB : (z_B Z).1 ≤ 20 := hZ.2.2.2.2.2.2.2.1
  have bBr : ∀ i, i < (z_B Z).1 → (z_B Z).2.1 i < z_R Z := hZ.2.2.2.2.2.2.2.2
  have FD := x_fD.rf h
  refine x_Met.of (lo := [some (.ref 372), some (.int (nI n))]) (by decide) rfl rfl rfl ?_
  refine R_aload_n dX8_draw_0 rfl ?_
  refine R_aload_n dX8_draw_1 rfl ?_
  refine R_get dX8_draw_2 f_X8_249 mo rfl ?_
  refine R_ldc2 (1103515245) dX8_draw_5 k_X8_253 ?_
  refine R_lmul dX8_draw_8 ?_
  refine R_ldc2 (12345) dX8_draw_9 k_X8_255 ?_
  refine R_ladd dX8_draw_12 ?_
  refine R_ldc2 (2147483648) dX8_draw_13 k_X8_257 ?_
  refine R_lrem dX8_draw_16 (by decide) ?_
  refine R_put dX8_draw_17 f_X8_249 mo (Nat.le_of_ble_eq_true rfl) (fun _ => rfl) (fun _ => rfl) ?_
  simp only [List.set_cons_succ, List.set_cons_zero]
  rw [x_lcgL bs, ← ey]
  have C := C.seed y
  have FD := FD.set (c := 372) (x_mob (z_X Z).1 (z_f Z) (z_N Z) (z_R Z) (z_D Z) (z_P Z) (z_T Z).1 y (z_S Z).1 (z_B Z).1 t) (by omega)
  have mo : (List.set h 372 (x_mob (z_X Z).1 (z_f Z) (z_N Z) (z_R Z) (z_D Z) (z_P Z) (z_T Z).1 y (z_S Z).1 (z_B Z).1 t))[372]? = some (x_mob (z_X Z).1 (z_f Z) (z_N Z) (z_R Z) (z_D Z) (z_P Z) (z_T Z).1 y (z_S Z).1 (z_B Z).1 t) := C.1.1
  refine R_aload_n dX8_draw_20 rfl ?_
  refine R_get dX8_draw_21 f_X8_249 mo rfl ?_
  refine R_ldc2 (65536) dX8_draw_24 k_X8_259 ?_
  refine R_ldiv dX8_draw_27 (by decide) ?_
  refine R_iload_n dX8_draw_28 rfl ?_
  refine R_i2l dX8_draw_29 ?_
  refine R_lrem dX8_draw_30 (by rw [x_i2l (by omega)]; exact fun z => by have := (pk_lEQ (by omega) (by decide)).mp (show lN n = lN 0 from z); omega) ?_
  refine R_l2i dX8_draw_31 ?_
  exact R_iret dX8_draw_32 rfl rfl rfl ⟨_, rfl, x_drL hy hn hn2, C.cl, FD⟩
