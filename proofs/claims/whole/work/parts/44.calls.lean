/-! THE CLASS's calls that change -/
theorem c_Text_app {h : xH} {b n : Nat} {tx : Nat → Nat} {E : xE} (HT : x_Text h b n tx E) {l : Nat} (hl2 : l < 256) : x_Met m_X5_append [.ref b, .int (nI l)] h (x_ir (fun r h' => r = x_b (decide (n < 240)) ∧ (¬ n < 240 → h' = h) ∧ (n < 240 → x_Text h' b (n + 1) (s_snoc n tx l) E ∧ x_fr h h' b 2))) := by
  by_cases c : n < 240
  · refine x_Met.mono (fun v h' z => ?_) (c_Text_append HT c hl2)
    obtain ⟨r, e, e1, z1, z2⟩ := z
    exact ⟨r, e, by rw [e1, decide_eq_true c]; rfl, fun q => absurd c q, fun _ => ⟨z1, z2⟩⟩
  · have e : n = 240 := by have := HT.2.1; omega
    subst e
    refine x_Met.mono (fun v h' z => ?_) (c_Text_full HT (nI l))
    exact ⟨nI 0, z.1, by rw [decide_eq_false c]; rfl, fun _ => z.2, fun q => absurd q c⟩
theorem c_Seen_app {h : xH} {a n : Nat} {rm : Nat → Nat} {hd : Nat → Bool} (HS : x_Seen h a n rm hd) (r : Nat) (v : Bool) : x_Met m_X4_append [.ref a, .int (nI r), .int (x_b v)] h (x_ir (fun r' h' => r' = x_b (decide (n < 6)) ∧ (¬ n < 6 → h' = h) ∧ (n < 6 → x_Seen h' a (n + 1) (s_snoc n rm r) (s_snoc n hd v) ∧ x_fr h h' a 3))) := by
  by_cases c : n < 6
  · refine x_Met.mono (fun v h' z => ?_) (c_Seen_append HS c r v)
    obtain ⟨r, e, e1, z1, z2⟩ := z
    exact ⟨r, e, by rw [e1, decide_eq_true c]; rfl, fun q => absurd c q, fun _ => ⟨z1, z2⟩⟩
  · have e : n = 6 := by have := HS.2.1; omega
    subst e
    refine x_Met.mono (fun v h' z => ?_) (c_Seen_full HS (nI r) (x_b v))
    exact ⟨nI 0, z.1, by rw [decide_eq_false c]; rfl, fun _ => z.2, fun q => absurd q c⟩
theorem c_Book_app {h : xH} {b n : Nat} {rm : Nat → Nat} {hp : Nat → Int32} (H : x_Book h b n rm hp) (r : Nat) (p : Int32) : x_Met m_X0_append [.ref b, .int (nI r), .int p] h (x_ir (fun r' h' => r' = x_b (decide (n < 20)) ∧ (¬ n < 20 → h' = h) ∧ (n < 20 → x_Book h' b (n + 1) (s_snoc n rm r) (s_snoc n hp p) ∧ x_fr h h' b 3))) := by
  by_cases c : n < 20
  · refine x_Met.mono (fun v h' z => ?_) (c_Book_append H c r p)
    obtain ⟨r, e, e1, z1, z2⟩ := z
    exact ⟨r, e, by rw [e1, decide_eq_true c]; rfl, fun q => absurd c q, fun _ => ⟨z1, z2⟩⟩
  · have e : n = 20 := by have := H.2.1; omega
    subst e
    refine x_Met.mono (fun v h' z => ?_) (c_Book_full H (nI r) p)
    exact ⟨nI 0, z.1, by rw [decide_eq_false c]; rfl, fun _ => z.2, fun q => absurd q c⟩
theorem x_dF {n m : Nat} (h : decide (n < m) = false) (h2 : n ≤ m) : n = m := by have := of_decide_eq_false h; omega
theorem c_feed {h : xH} {Z : xZ} {k : Nat} (HC : x_Class h Z) (hZ : x_ZB k Z) (hk : k ≤ 50000) (l : Int32) : x_Met m_X7_feed [.ref 2, .int l] h (x_KC h (z_feed Z l)) := by
  obtain ⟨hb, db, E, Wd, nx, fw, lt, A, B, C⟩ := HC
  have hd := C.hd
  obtain ⟨c1, cx, c0, cT, cH, cD, cN, cR, cI, cP, cS, cB⟩ := id C
  have hB : x_HB (z_N Z) (z_R Z) (z_D Z) (z_P Z) (z_F Z) := hZ.1.hb
  have hQ : x_QB (z_N Z) (z_R Z) (z_P Z) (z_Q Z) := hZ.2.1.1
  obtain ⟨⟨b1, b2, b3, b4⟩, b5, b6, b7⟩ := id hB
  obtain ⟨u1, u2, u3, u4, u5, u6, u7, u8, u9⟩ := id hQ
  obtain ⟨h2, g0, g1, g2, g3, g4, g5, g6, g7, g8, g9, g10, g11⟩ := id cH
  obtain ⟨h2n, n0, ⟨f1, n1, n1e⟩, n2, ⟨f3, n3, n3e⟩, n4, n5⟩ := id cN
  obtain ⟨-, hXn, hEk, hEa, htx, t0, -⟩ := id cT
  obtain ⟨⟨-, hTc, hTx, r0, r1⟩, -⟩ := id cR
  obtain ⟨-, hSn, s0, -⟩ := id cS
  obtain ⟨-, hBn, k0, -⟩ := id cB
  obtain ⟨-, p0, -⟩ := id cP
  obtain ⟨-, d0, -⟩ := id cD
  have FC := x_fC.rf h
  obtain ⟨Q0, HG0⟩ := cR.2.1 nx hTx
  refine x_Met.of (lo := [some (.ref 2), some (.int l)]) (by decide) rfl rfl rfl ?_
  refine R_iload_n dX7_feed_0 rfl ?_
  refine R_iflt 11 dX7_feed_1 rfl (fun c_1 => ?_) (fun c_1 => ?_)
  · refine R_ldc (-1000000002) dX7_feed_11 k_X7_80 ?_
    exact R_iret dX7_feed_13 rfl rfl rfl (x_KC.ok C.cl (x_fC.rf _) (by rw [z_feed, z_rg_lo c_1]))
  · refine R_iload_n dX7_feed_4 rfl ?_
    refine R_sipush (nI 255) dX7_feed_5 rfl ?_
    refine R_icmple 14 dX7_feed_8 rfl (fun c_8 => ?_) (fun c_8 => ?_)
    · obtain ⟨i, hi1, hi2, rfl⟩ := x_rng (a := 0) (b := 255) (by decide) c_1 c_8 (by decide)
      refine R_aload_n dX7_feed_14 rfl ?_
      refine R_get dX7_feed_15 f_X7_10 c0 rfl ?_
      refine R_iload_n dX7_feed_18 rfl ?_
      refine R_cV1i (N := m_X5_append) dX7_feed_19 l_X7_81 i_X5_append t0 (c_Text_app cT (by omega)) rfl rfl (fun r19 h19 q_19 => ?_)
      obtain ⟨er, hq0, hq1⟩ := q_19
      subst er
      refine R_ifeqB 35 dX7_feed_22 rfl (fun c_22 => ?_) (fun c_22 => ?_)
      · have e := hq0 (of_decide_eq_false c_22)
        subst e
        have hfu := x_dF c_22 hXn
        refine R_ldc (-1000000004) dX7_feed_35 k_X7_88 ?_
        exact R_iret dX7_feed_37 rfl rfl rfl (x_KC.ok C.cl (x_fC.rf _) (by rw [z_feed, z_rg_t hi1 hi2 (by decide), if_pos hfu]))
      · obtain ⟨HT1, FR2⟩ := hq1 (of_decide_eq_true c_22)
        have hlt := of_decide_eq_true c_22
        have C := C.text (X := ((z_X Z).1 + 1, s_snoc (z_X Z).1 (z_X Z).2 i)) HT1 FR2
        have FC := FC.fr FR2 (by omega) (by omega)
        obtain ⟨c1, cx, c0, cT, cH, cD, cN, cR, cI, cP, cS, cB⟩ := id C
        have c0 : h19[2]? = some (x_cob hb db (z_s Z) (z_f Z)) := c0
        have cT : x_Text h19 3 ((z_X Z).1 + 1, s_snoc (z_X Z).1 (z_X Z).2 i).1 ((z_X Z).1 + 1, s_snoc (z_X Z).1 (z_X Z).2 i).2 _ := cT
        have cH : x_House h19 hb (z_N Z) (z_R Z) (z_D Z) (z_P Z) (z_F Z) := cH
        have cN : x_Night h19 49 (z_R Z) (z_P Z) (z_Q Z) := cN
        have cR : x_Ring h19 _ (z_R Z) (z_P Z) (z_T Z) := cR
        have cI : x_Imgs h19 (z_R Z) (z_P Z) (z_I Z) := cI
        have cS : x_Seen h19 348 (z_S Z).1 (z_S Z).2.1 (z_S Z).2.2 := cS
        have cB : x_Book h19 351 (z_B Z).1 (z_B Z).2.1 (z_B Z).2.2 := cB
        obtain ⟨h2, g0, g1, g2, g3, g4, g5, g6, g7, g8, g9, g10, g11⟩ := id cH
        obtain ⟨h2n, n0, ⟨f1, n1, n1e⟩, n2, ⟨f3, n3, n3e⟩, n4, n5⟩ := id cN
        obtain ⟨-, hXn, hEk, hEa, htx, t0, -⟩ := id cT
        obtain ⟨⟨-, hTc, hTx, r0, r1⟩, -⟩ := id cR
        obtain ⟨-, hSn, s0, -⟩ := id cS
        obtain ⟨-, hBn, k0, -⟩ := id cB
        obtain ⟨-, p0, -⟩ := id cP
        obtain ⟨-, d0, -⟩ := id cD
        refine R_aload_n dX7_feed_25 rfl ?_
        refine R_get dX7_feed_26 f_X7_10 c0 rfl ?_
        refine R_get dX7_feed_29 f_X7_85 t0 rfl ?_
        refine R_goto 37 dX7_feed_32 rfl ?_
        exact R_iret dX7_feed_37 rfl rfl rfl (x_KC.ok C.cl FC (by rw [z_feed, z_rg_t hi1 hi2 (by decide), if_neg (by omega)]))
    · refine R_ldc (-1000000002) dX7_feed_11 k_X7_80 ?_
      exact R_iret dX7_feed_13 rfl rfl rfl (x_KC.ok C.cl (x_fC.rf _) (by rw [z_feed, z_rg_hi c_8]))
theorem c_say {h : xH} {Z : xZ} {k : Nat} (HC : x_Class h Z) (hZ : x_ZB k Z) (hk : k ≤ 50000) (p : Int32) : x_Met m_X7_say [.ref 2, .int p] h (x_KC h (z_say Z p)) := by
  obtain ⟨hb, db, E, Wd, nx, fw, lt, A, B, C⟩ := HC
  have hd := C.hd
  obtain ⟨c1, cx, c0, cT, cH, cD, cN, cR, cI, cP, cS, cB⟩ := id C
  have hB : x_HB (z_N Z) (z_R Z) (z_D Z) (z_P Z) (z_F Z) := hZ.1.hb
  have hQ : x_QB (z_N Z) (z_R Z) (z_P Z) (z_Q Z) := hZ.2.1.1
  obtain ⟨⟨b1, b2, b3, b4⟩, b5, b6, b7⟩ := id hB
  obtain ⟨u1, u2, u3, u4, u5, u6, u7, u8, u9⟩ := id hQ
  obtain ⟨h2, g0, g1, g2, g3, g4, g5, g6, g7, g8, g9, g10, g11⟩ := id cH
  obtain ⟨h2n, n0, ⟨f1, n1, n1e⟩, n2, ⟨f3, n3, n3e⟩, n4, n5⟩ := id cN
  obtain ⟨-, hXn, hEk, hEa, htx, t0, -⟩ := id cT
  obtain ⟨⟨-, hTc, hTx, r0, r1⟩, -⟩ := id cR
  obtain ⟨-, hSn, s0, -⟩ := id cS
  obtain ⟨-, hBn, k0, -⟩ := id cB
  obtain ⟨-, p0, -⟩ := id cP
  obtain ⟨-, d0, -⟩ := id cD
  have FC := x_fC.rf h
  obtain ⟨Q0, HG0⟩ := cR.2.1 nx hTx
  refine x_Met.of (lo := [some (.ref 2), some (.int p), none]) (by decide) rfl rfl rfl ?_
  refine R_aload_n dX7_say_0 rfl ?_
  refine R_get dX7_say_1 f_X7_19 c0 rfl ?_
  refine R_iload_n dX7_say_4 rfl ?_
  refine R_cV1p (N := m_X1_hasHeir) dX7_say_5 l_X7_184 i_X1_hasHeir g0 (c_House_hasHeir cH _) rfl rfl ?_
  refine R_ifneB 14 dX7_say_8 rfl (fun c_8 => ?_) (fun c_8 => ?_)
  · obtain ⟨i, hi, rfl⟩ := x_has_t (by omega) c_8
    refine R_aload_n dX7_say_14 rfl ?_
    refine R_get dX7_say_15 f_X7_29 c0 rfl ?_
    refine R_get dX7_say_18 f_X7_133 n0 rfl ?_
    refine R_ldc (nI 90000) dX7_say_21 k_X7_205 ?_
    refine R_ltN 29 dX7_say_23 rfl (by omega) (by omega) (fun c_23 => ?_) (fun c_23 => ?_)
    · refine R_aload_n dX7_say_29 rfl ?_
      refine R_get dX7_say_30 f_X7_36 c0 rfl ?_
      refine R_aload_n dX7_say_33 rfl ?_
      refine R_get dX7_say_34 f_X7_29 c0 rfl ?_
      refine R_cV1v (N := m_X6_remember) dX7_say_37 l_X7_206 i_X6_remember r0 (c_Trail_remember cR.1 HG0 cN b2 b4 (by omega)) rfl rfl (fun h37 q_37 => ?_)
      obtain ⟨HT1, HN1, FR2⟩ := q_37
      have C := C.ring (cR.rem HT1 HN1 FR2) (fun q hq => FR2 q (by omega) (by omega))
      have FC : x_fC h h37 := FC.trans (fun q hq => FR2 q (by omega) (by omega))
      obtain ⟨c1, cx, c0, cT, cH, cD, cN, cR, cI, cP, cS, cB⟩ := id C
      have c0 : h37[2]? = some (x_cob hb db (z_s Z) (z_f Z)) := c0
      have cT : x_Text h37 3 (z_X Z).1 (z_X Z).2 _ := cT
      have cH : x_House h37 hb (z_N Z) (z_R Z) (z_D Z) (z_P Z) (z_F Z) := cH
      have cN : x_Night h37 49 (z_R Z) (z_P Z) (z_Q Z) := cN
      have cR : x_Ring h37 _ (z_R Z) (z_P Z) (t_rem (z_Q Z) (z_T Z)) := cR
      have cI : x_Imgs h37 (z_R Z) (z_P Z) (z_I Z) := cI
      have cS : x_Seen h37 348 (z_S Z).1 (z_S Z).2.1 (z_S Z).2.2 := cS
      have cB : x_Book h37 351 (z_B Z).1 (z_B Z).2.1 (z_B Z).2.2 := cB
      obtain ⟨h2, g0, g1, g2, g3, g4, g5, g6, g7, g8, g9, g10, g11⟩ := id cH
      obtain ⟨h2n, n0, ⟨f1, n1, n1e⟩, n2, ⟨f3, n3, n3e⟩, n4, n5⟩ := id cN
      obtain ⟨-, hXn, hEk, hEa, htx, t0, -⟩ := id cT
      obtain ⟨⟨-, hTc, hTx, r0, r1⟩, -⟩ := id cR
      obtain ⟨-, hSn, s0, -⟩ := id cS
      obtain ⟨-, hBn, k0, -⟩ := id cB
      obtain ⟨-, p0, -⟩ := id cP
      obtain ⟨-, d0, -⟩ := id cD
      refine R_aload_n dX7_say_40 rfl ?_
      refine R_get dX7_say_41 f_X7_29 c0 rfl ?_
      refine R_aload_n dX7_say_44 rfl ?_
      refine R_get dX7_say_45 f_X7_19 c0 rfl ?_
      refine R_iload_n dX7_say_48 rfl ?_
      refine R_cV2p (N := m_X2_counts) dX7_say_49 l_X7_199 i_X2_counts n0 (c_Night_counts cH hB cN hQ hi) rfl rfl ?_
      refine R_istore_n dX7_say_52 (Nat.le_of_ble_eq_true rfl) rfl ?_
      refine R_aload_n dX7_say_53 rfl ?_
      refine R_get dX7_say_54 f_X7_29 c0 rfl ?_
      refine R_aload_n dX7_say_57 rfl ?_
      refine R_get dX7_say_58 f_X7_19 c0 rfl ?_
      refine R_iload_n dX7_say_61 rfl ?_
      refine R_cV2v (N := m_X2_speak) dX7_say_62 l_X7_210 i_X2_speak n0 (c_Night_speak cH hB cN hQ (Or.inl (by omega)) hi) rfl rfl (fun h62 q_62 => ?_)
      obtain ⟨HN1, FR2⟩ := q_62
      have C := C.night HN1 FR2
      have FC := FC.fr FR2 (by omega) (by omega)
      obtain ⟨c1, cx, c0, cT, cH, cD, cN, cR, cI, cP, cS, cB⟩ := id C
      have c0 : h62[2]? = some (x_cob hb db (z_s Z) (z_f Z)) := c0
      have cT : x_Text h62 3 (z_X Z).1 (z_X Z).2 _ := cT
      have cH : x_House h62 hb (z_N Z) (z_R Z) (z_D Z) (z_P Z) (z_F Z) := cH
      have cN : x_Night h62 49 (z_R Z) (z_P Z) (s_speak (z_N Z) (z_R Z) (z_F Z) (z_Q Z) i) := cN
      have cR : x_Ring h62 _ (z_R Z) (z_P Z) (t_rem (z_Q Z) (z_T Z)) := cR
      have cI : x_Imgs h62 (z_R Z) (z_P Z) (z_I Z) := cI
      have cS : x_Seen h62 348 (z_S Z).1 (z_S Z).2.1 (z_S Z).2.2 := cS
      have cB : x_Book h62 351 (z_B Z).1 (z_B Z).2.1 (z_B Z).2.2 := cB
      obtain ⟨h2, g0, g1, g2, g3, g4, g5, g6, g7, g8, g9, g10, g11⟩ := id cH
      obtain ⟨h2n, n0, ⟨f1, n1, n1e⟩, n2, ⟨f3, n3, n3e⟩, n4, n5⟩ := id cN
      obtain ⟨-, hXn, hEk, hEa, htx, t0, -⟩ := id cT
      obtain ⟨⟨-, hTc, hTx, r0, r1⟩, -⟩ := id cR
      obtain ⟨-, hSn, s0, -⟩ := id cS
      obtain ⟨-, hBn, k0, -⟩ := id cB
      obtain ⟨-, p0, -⟩ := id cP
      obtain ⟨-, d0, -⟩ := id cD
      refine R_iload_n dX7_say_65 rfl ?_
      exact R_iret dX7_say_66 rfl rfl rfl (x_KC.ok C.cl FC (by rw [z_say, z_tb_t hi (by omega), if_neg (by omega)]))
    · refine R_ldc (-1000000004) dX7_say_26 k_X7_88 ?_
      exact R_iret dX7_say_28 rfl rfl rfl (x_KC.ok C.cl (x_fC.rf _) (by rw [z_say, z_tb_t hi (by omega), if_pos (by omega)]))
  · refine R_ldc (-1000000001) dX7_say_11 k_X7_151 ?_
    exact R_iret dX7_say_13 rfl rfl rfl (x_KC.ok C.cl (x_fC.rf _) (by rw [z_say, z_tb_f c_8]))
theorem c_go {h : xH} {Z : xZ} {k : Nat} (HC : x_Class h Z) (hZ : x_ZB k Z) (hk : k ≤ 50000) (p d : Int32) : x_Met m_X7_go [.ref 2, .int p, .int d] h (x_KC h (z_go Z p d)) := by
  obtain ⟨hb, db, E, Wd, nx, fw, lt, A, B, C⟩ := HC
  have hd := C.hd
  obtain ⟨c1, cx, c0, cT, cH, cD, cN, cR, cI, cP, cS, cB⟩ := id C
  have hB : x_HB (z_N Z) (z_R Z) (z_D Z) (z_P Z) (z_F Z) := hZ.1.hb
  have hQ : x_QB (z_N Z) (z_R Z) (z_P Z) (z_Q Z) := hZ.2.1.1
  obtain ⟨⟨b1, b2, b3, b4⟩, b5, b6, b7⟩ := id hB
  obtain ⟨u1, u2, u3, u4, u5, u6, u7, u8, u9⟩ := id hQ
  obtain ⟨h2, g0, g1, g2, g3, g4, g5, g6, g7, g8, g9, g10, g11⟩ := id cH
  obtain ⟨h2n, n0, ⟨f1, n1, n1e⟩, n2, ⟨f3, n3, n3e⟩, n4, n5⟩ := id cN
  obtain ⟨-, hXn, hEk, hEa, htx, t0, -⟩ := id cT
  obtain ⟨⟨-, hTc, hTx, r0, r1⟩, -⟩ := id cR
  obtain ⟨-, hSn, s0, -⟩ := id cS
  obtain ⟨-, hBn, k0, -⟩ := id cB
  obtain ⟨-, p0, -⟩ := id cP
  obtain ⟨-, d0, -⟩ := id cD
  have FC := x_fC.rf h
  obtain ⟨Q0, HG0⟩ := cR.2.1 nx hTx
  refine x_Met.of (lo := [some (.ref 2), some (.int p), some (.int d), none]) (by decide) rfl rfl rfl ?_
  refine R_aload_n dX7_go_0 rfl ?_
  refine R_get dX7_go_1 f_X7_19 c0 rfl ?_
  refine R_iload_n dX7_go_4 rfl ?_
  refine R_cV1p (N := m_X1_hasHeir) dX7_go_5 l_X7_184 i_X1_hasHeir g0 (c_House_hasHeir cH _) rfl rfl ?_
  refine R_ifeqB 22 dX7_go_8 rfl (fun c_8 => ?_) (fun c_8 => ?_)
  · refine R_ldc (-1000000001) dX7_go_22 k_X7_151 ?_
    exact R_iret dX7_go_24 rfl rfl rfl (x_KC.ok C.cl (x_fC.rf _) (by rw [z_go, z_tb_f c_8]))
  · obtain ⟨i, hi, rfl⟩ := x_has_t (by omega) c_8
    refine R_aload_n dX7_go_11 rfl ?_
    refine R_get dX7_go_12 f_X7_19 c0 rfl ?_
    refine R_iload_n dX7_go_15 rfl ?_
    refine R_cV1p (N := m_X1_hasDoor) dX7_go_16 l_X7_172 i_X1_hasDoor g0 (c_House_hasDoor cH _) rfl rfl ?_
    refine R_ifneB 25 dX7_go_19 rfl (fun c_19 => ?_) (fun c_19 => ?_)
    · obtain ⟨j, hj, rfl⟩ := x_has_t (by omega) c_19
      refine R_aload_n dX7_go_25 rfl ?_
      refine R_get dX7_go_26 f_X7_19 c0 rfl ?_
      refine R_iload_n dX7_go_29 rfl ?_
      refine R_aload_n dX7_go_30 rfl ?_
      refine R_get dX7_go_31 f_X7_29 c0 rfl ?_
      refine R_get dX7_go_34 f_X7_193 n0 rfl ?_
      refine R_iload_n dX7_go_37 rfl ?_
      refine R_iald dX7_go_38 n3 rfl (by omega) (by decide) ?_
      rw [n3e i (by omega)]
      refine R_cV2p (N := m_X1_behind) dX7_go_39 l_X7_214 i_X1_behind g0 (c_House_behind cH hB hj (u6 i hi)) rfl rfl ?_
      refine R_istore_n dX7_go_42 (Nat.le_of_ble_eq_true rfl) rfl ?_
      refine R_iload_n dX7_go_43 rfl ?_
      refine R_iconst (-1) dX7_go_44 rfl ?_
      refine R_icmpne 51 dX7_go_45 rfl (fun c_45 => ?_) (fun c_45 => ?_)
      · obtain ⟨t, ht, et⟩ := (s_behind_in (R := z_R Z) (r := q_pl (z_Q Z) i) (fun d hd => ⟨(b5 d hd).1, (b5 d hd).2.1⟩) hj).resolve_left c_45
        refine R_aload_n dX7_go_51 rfl ?_
        refine R_get dX7_go_52 f_X7_36 c0 rfl ?_
        refine R_aload_n dX7_go_55 rfl ?_
        refine R_get dX7_go_56 f_X7_29 c0 rfl ?_
        refine R_cV1v (N := m_X6_remember) dX7_go_59 l_X7_206 i_X6_remember r0 (c_Trail_remember cR.1 HG0 cN b2 b4 (by omega)) rfl rfl (fun h59 q_59 => ?_)
        obtain ⟨HT1, HN1, FR2⟩ := q_59
        have C := C.ring (cR.rem HT1 HN1 FR2) (fun q hq => FR2 q (by omega) (by omega))
        have FC : x_fC h h59 := FC.trans (fun q hq => FR2 q (by omega) (by omega))
        obtain ⟨c1, cx, c0, cT, cH, cD, cN, cR, cI, cP, cS, cB⟩ := id C
        have c0 : h59[2]? = some (x_cob hb db (z_s Z) (z_f Z)) := c0
        have cT : x_Text h59 3 (z_X Z).1 (z_X Z).2 _ := cT
        have cH : x_House h59 hb (z_N Z) (z_R Z) (z_D Z) (z_P Z) (z_F Z) := cH
        have cN : x_Night h59 49 (z_R Z) (z_P Z) (z_Q Z) := cN
        have cR : x_Ring h59 _ (z_R Z) (z_P Z) (t_rem (z_Q Z) (z_T Z)) := cR
        have cI : x_Imgs h59 (z_R Z) (z_P Z) (z_I Z) := cI
        have cS : x_Seen h59 348 (z_S Z).1 (z_S Z).2.1 (z_S Z).2.2 := cS
        have cB : x_Book h59 351 (z_B Z).1 (z_B Z).2.1 (z_B Z).2.2 := cB
        obtain ⟨h2, g0, g1, g2, g3, g4, g5, g6, g7, g8, g9, g10, g11⟩ := id cH
        obtain ⟨h2n, n0, ⟨f1, n1, n1e⟩, n2, ⟨f3, n3, n3e⟩, n4, n5⟩ := id cN
        obtain ⟨-, hXn, hEk, hEa, htx, t0, -⟩ := id cT
        obtain ⟨⟨-, hTc, hTx, r0, r1⟩, -⟩ := id cR
        obtain ⟨-, hSn, s0, -⟩ := id cS
        obtain ⟨-, hBn, k0, -⟩ := id cB
        obtain ⟨-, p0, -⟩ := id cP
        obtain ⟨-, d0, -⟩ := id cD
        refine R_aload_n dX7_go_62 rfl ?_
        refine R_get dX7_go_63 f_X7_29 c0 rfl ?_
        refine R_get dX7_go_66 f_X7_193 n0 rfl ?_
        refine R_iload_n dX7_go_69 rfl ?_
        refine R_iload_n dX7_go_70 rfl ?_
        refine R_iast dX7_go_71 n3 (by omega) rfl (by omega) (by decide) ?_
        have HN1 : x_Night (List.set h59 (49 + 3) (x_ia 6 (upd f3 i (s_behind (z_F Z) j (q_pl (z_Q Z) i))))) 49 (z_R Z) (z_P Z) (q_go (z_Q Z) i (i_n (s_behind (z_F Z) j (q_pl (z_Q Z) i)))) := cN.pl _ _ (fun x hx => by
          show upd f3 i _ x = nI (if x = i then _ else q_pl (z_Q Z) x)
          by_cases e : x = i
          · subst e; rw [if_pos rfl, et, i_n_nI (by omega)]; simp [upd]
          · rw [if_neg e]; simp [upd, e]; exact n3e x hx)
        have FR2 : x_fr h59 (List.set h59 (49 + 3) (x_ia 6 (upd f3 i (s_behind (z_F Z) j (q_pl (z_Q Z) i))))) 49 9 := (x_fr.rf h59 49 9).set _ (by omega) (by omega)
        have C := C.night HN1 FR2
        have FC := FC.fr FR2 (by omega) (by omega)
        refine R_iload_n dX7_go_72 rfl ?_
        exact R_iret dX7_go_73 rfl rfl rfl (x_KC.ok C.cl FC (by rw [z_go, z_tb_t hi (by omega), z_tb_t hj (by omega), if_neg c_45]))
      · refine R_ldc (-1000000003) dX7_go_48 k_X7_217 ?_
        exact R_iret dX7_go_50 rfl rfl rfl (x_KC.ok C.cl (x_fC.rf _) (by rw [z_go, z_tb_t hi (by omega), z_tb_t hj (by omega), if_pos c_45]))
    · refine R_ldc (-1000000001) dX7_go_22 k_X7_151 ?_
      exact R_iret dX7_go_24 rfl rfl rfl (x_KC.ok C.cl (x_fC.rf _) (by rw [z_go, z_tb_t hi (by omega), z_tb_f c_19]))
theorem c_out {h : xH} {Z : xZ} {k : Nat} (HC : x_Class h Z) (hZ : x_ZB k Z) (hk : k ≤ 50000) (r : Int32) : x_Met m_X7_out [.ref 2, .int r] h (x_KC h (z_out Z r)) := by
  obtain ⟨hb, db, E, Wd, nx, fw, lt, A, B, C⟩ := HC
  have hd := C.hd
  obtain ⟨c1, cx, c0, cT, cH, cD, cN, cR, cI, cP, cS, cB⟩ := id C
  have hB : x_HB (z_N Z) (z_R Z) (z_D Z) (z_P Z) (z_F Z) := hZ.1.hb
  have hQ : x_QB (z_N Z) (z_R Z) (z_P Z) (z_Q Z) := hZ.2.1.1
  obtain ⟨⟨b1, b2, b3, b4⟩, b5, b6, b7⟩ := id hB
  obtain ⟨u1, u2, u3, u4, u5, u6, u7, u8, u9⟩ := id hQ
  obtain ⟨h2, g0, g1, g2, g3, g4, g5, g6, g7, g8, g9, g10, g11⟩ := id cH
  obtain ⟨h2n, n0, ⟨f1, n1, n1e⟩, n2, ⟨f3, n3, n3e⟩, n4, n5⟩ := id cN
  obtain ⟨-, hXn, hEk, hEa, htx, t0, -⟩ := id cT
  obtain ⟨⟨-, hTc, hTx, r0, r1⟩, -⟩ := id cR
  obtain ⟨-, hSn, s0, -⟩ := id cS
  obtain ⟨-, hBn, k0, -⟩ := id cB
  obtain ⟨-, p0, -⟩ := id cP
  obtain ⟨-, d0, -⟩ := id cD
  have FC := x_fC.rf h
  obtain ⟨Q0, HG0⟩ := cR.2.1 nx hTx
  refine x_Met.of (lo := [some (.ref 2), some (.int r), none]) (by decide) rfl rfl rfl ?_
  refine R_aload_n dX7_out_0 rfl ?_
  refine R_get dX7_out_1 f_X7_19 c0 rfl ?_
  refine R_iload_n dX7_out_4 rfl ?_
  refine R_cV1p (N := m_X1_hasRoom) dX7_out_5 l_X7_148 i_X1_hasRoom g0 (c_House_hasRoom cH _) rfl rfl ?_
  refine R_ifneB 14 dX7_out_8 rfl (fun c_8 => ?_) (fun c_8 => ?_)
  · obtain ⟨i, hi, rfl⟩ := x_has_t (by omega) c_8
    refine R_aload_n dX7_out_14 rfl ?_
    refine R_get dX7_out_15 f_X7_29 c0 rfl ?_
    refine R_iload_n dX7_out_18 rfl ?_
    refine R_cV1p (N := m_X2_isOut) dX7_out_19 l_X7_155 i_X2_isOut n0 (c_Night_isOut cN (r := i) (by omega)) rfl rfl ?_
    refine R_ifeqB 28 dX7_out_22 rfl (fun c_22 => ?_) (fun c_22 => ?_)
    · refine R_aload_n dX7_out_28 rfl ?_
      refine R_get dX7_out_29 f_X7_36 c0 rfl ?_
      refine R_aload_n dX7_out_32 rfl ?_
      refine R_get dX7_out_33 f_X7_29 c0 rfl ?_
      refine R_cV1v (N := m_X6_remember) dX7_out_36 l_X7_206 i_X6_remember r0 (c_Trail_remember cR.1 HG0 cN b2 b4 (by omega)) rfl rfl (fun h36 q_36 => ?_)
      obtain ⟨HT1, HN1, FR2⟩ := q_36
      have C := C.ring (cR.rem HT1 HN1 FR2) (fun q hq => FR2 q (by omega) (by omega))
      have FC : x_fC h h36 := FC.trans (fun q hq => FR2 q (by omega) (by omega))
      obtain ⟨c1, cx, c0, cT, cH, cD, cN, cR, cI, cP, cS, cB⟩ := id C
      have c0 : h36[2]? = some (x_cob hb db (z_s Z) (z_f Z)) := c0
      have cT : x_Text h36 3 (z_X Z).1 (z_X Z).2 _ := cT
      have cH : x_House h36 hb (z_N Z) (z_R Z) (z_D Z) (z_P Z) (z_F Z) := cH
      have cN : x_Night h36 49 (z_R Z) (z_P Z) (z_Q Z) := cN
      have cR : x_Ring h36 _ (z_R Z) (z_P Z) (t_rem (z_Q Z) (z_T Z)) := cR
      have cI : x_Imgs h36 (z_R Z) (z_P Z) (z_I Z) := cI
      have cS : x_Seen h36 348 (z_S Z).1 (z_S Z).2.1 (z_S Z).2.2 := cS
      have cB : x_Book h36 351 (z_B Z).1 (z_B Z).2.1 (z_B Z).2.2 := cB
      obtain ⟨h2, g0, g1, g2, g3, g4, g5, g6, g7, g8, g9, g10, g11⟩ := id cH
      obtain ⟨h2n, n0, ⟨f1, n1, n1e⟩, n2, ⟨f3, n3, n3e⟩, n4, n5⟩ := id cN
      obtain ⟨-, hXn, hEk, hEa, htx, t0, -⟩ := id cT
      obtain ⟨⟨-, hTc, hTx, r0, r1⟩, -⟩ := id cR
      obtain ⟨-, hSn, s0, -⟩ := id cS
      obtain ⟨-, hBn, k0, -⟩ := id cB
      obtain ⟨-, p0, -⟩ := id cP
      obtain ⟨-, d0, -⟩ := id cD
      refine R_aload_n dX7_out_39 rfl ?_
      refine R_get dX7_out_40 f_X7_29 c0 rfl ?_
      refine R_iload_n dX7_out_43 rfl ?_
      refine R_aload_n dX7_out_44 rfl ?_
      refine R_get dX7_out_45 f_X7_29 c0 rfl ?_
      refine R_get dX7_out_48 f_X7_127 n0 rfl ?_
      refine R_cV2p (N := m_X2_isLitAt) dX7_out_51 l_X7_225 i_X2_isLitAt n0 (c_Night_isLitAt cN b2 hi u1 (u5 i hi)) rfl rfl ?_
      refine R_ifeqB 61 dX7_out_54 rfl (fun c_54 => ?_) (fun c_54 => ?_)
      · refine R_iconst (nI 0) dX7_out_61 rfl ?_
        refine R_istore_n dX7_out_62 (Nat.le_of_ble_eq_true rfl) rfl ?_
        refine R_aload_n dX7_out_63 rfl ?_
        refine R_get dX7_out_64 f_X7_29 c0 rfl ?_
        refine R_iload_n dX7_out_67 rfl ?_
        refine R_cV1v (N := m_X2_putOut) dX7_out_68 l_X7_229 i_X2_putOut n0 (c_Night_putOut cN (r := i) (by omega)) rfl rfl (fun h68 q_68 => ?_)
        obtain ⟨HN1, FR2⟩ := q_68
        have C := C.night HN1 FR2
        have FC := FC.fr FR2 (by omega) (by omega)
        obtain ⟨c1, cx, c0, cT, cH, cD, cN, cR, cI, cP, cS, cB⟩ := id C
        have c0 : h68[2]? = some (x_cob hb db (z_s Z) (z_f Z)) := c0
        have cT : x_Text h68 3 (z_X Z).1 (z_X Z).2 _ := cT
        have cH : x_House h68 hb (z_N Z) (z_R Z) (z_D Z) (z_P Z) (z_F Z) := cH
        have cN : x_Night h68 49 (z_R Z) (z_P Z) (q_out (z_Q Z) i) := cN
        have cR : x_Ring h68 _ (z_R Z) (z_P Z) (t_rem (z_Q Z) (z_T Z)) := cR
        have cI : x_Imgs h68 (z_R Z) (z_P Z) (z_I Z) := cI
        have cS : x_Seen h68 348 (z_S Z).1 (z_S Z).2.1 (z_S Z).2.2 := cS
        have cB : x_Book h68 351 (z_B Z).1 (z_B Z).2.1 (z_B Z).2.2 := cB
        obtain ⟨h2, g0, g1, g2, g3, g4, g5, g6, g7, g8, g9, g10, g11⟩ := id cH
        obtain ⟨h2n, n0, ⟨f1, n1, n1e⟩, n2, ⟨f3, n3, n3e⟩, n4, n5⟩ := id cN
        obtain ⟨-, hXn, hEk, hEa, htx, t0, -⟩ := id cT
        obtain ⟨⟨-, hTc, hTx, r0, r1⟩, -⟩ := id cR
        obtain ⟨-, hSn, s0, -⟩ := id cS
        obtain ⟨-, hBn, k0, -⟩ := id cB
        obtain ⟨-, p0, -⟩ := id cP
        obtain ⟨-, d0, -⟩ := id cD
        refine R_iload_n dX7_out_71 rfl ?_
        exact R_iret dX7_out_72 rfl rfl rfl (x_KC.ok C.cl FC (by rw [z_out, z_tb_t hi (by omega), if_neg (by rw [c_22]; decide), c_54]; rfl))
      · refine R_iconst (nI 1) dX7_out_57 rfl ?_
        refine R_goto 62 dX7_out_58 rfl ?_
        refine R_istore_n dX7_out_62 (Nat.le_of_ble_eq_true rfl) rfl ?_
        refine R_aload_n dX7_out_63 rfl ?_
        refine R_get dX7_out_64 f_X7_29 c0 rfl ?_
        refine R_iload_n dX7_out_67 rfl ?_
        refine R_cV1v (N := m_X2_putOut) dX7_out_68 l_X7_229 i_X2_putOut n0 (c_Night_putOut cN (r := i) (by omega)) rfl rfl (fun h68 q_68 => ?_)
        obtain ⟨HN1, FR2⟩ := q_68
        have C := C.night HN1 FR2
        have FC := FC.fr FR2 (by omega) (by omega)
        obtain ⟨c1, cx, c0, cT, cH, cD, cN, cR, cI, cP, cS, cB⟩ := id C
        have c0 : h68[2]? = some (x_cob hb db (z_s Z) (z_f Z)) := c0
        have cT : x_Text h68 3 (z_X Z).1 (z_X Z).2 _ := cT
        have cH : x_House h68 hb (z_N Z) (z_R Z) (z_D Z) (z_P Z) (z_F Z) := cH
        have cN : x_Night h68 49 (z_R Z) (z_P Z) (q_out (z_Q Z) i) := cN
        have cR : x_Ring h68 _ (z_R Z) (z_P Z) (t_rem (z_Q Z) (z_T Z)) := cR
        have cI : x_Imgs h68 (z_R Z) (z_P Z) (z_I Z) := cI
        have cS : x_Seen h68 348 (z_S Z).1 (z_S Z).2.1 (z_S Z).2.2 := cS
        have cB : x_Book h68 351 (z_B Z).1 (z_B Z).2.1 (z_B Z).2.2 := cB
        obtain ⟨h2, g0, g1, g2, g3, g4, g5, g6, g7, g8, g9, g10, g11⟩ := id cH
        obtain ⟨h2n, n0, ⟨f1, n1, n1e⟩, n2, ⟨f3, n3, n3e⟩, n4, n5⟩ := id cN
        obtain ⟨-, hXn, hEk, hEa, htx, t0, -⟩ := id cT
        obtain ⟨⟨-, hTc, hTx, r0, r1⟩, -⟩ := id cR
        obtain ⟨-, hSn, s0, -⟩ := id cS
        obtain ⟨-, hBn, k0, -⟩ := id cB
        obtain ⟨-, p0, -⟩ := id cP
        obtain ⟨-, d0, -⟩ := id cD
        refine R_iload_n dX7_out_71 rfl ?_
        exact R_iret dX7_out_72 rfl rfl rfl (x_KC.ok C.cl FC (by rw [z_out, z_tb_t hi (by omega), if_neg (by rw [c_22]; decide), c_54]; rfl))
    · refine R_ldc (-1000000003) dX7_out_25 k_X7_217 ?_
      exact R_iret dX7_out_27 rfl rfl rfl (x_KC.ok C.cl (x_fC.rf _) (by rw [z_out, z_tb_t hi (by omega), if_pos c_22]))
  · refine R_ldc (-1000000001) dX7_out_11 k_X7_151 ?_
    exact R_iret dX7_out_13 rfl rfl rfl (x_KC.ok C.cl (x_fC.rf _) (by rw [z_out, z_tb_f c_8]))
theorem c_light {h : xH} {Z : xZ} {k : Nat} (HC : x_Class h Z) (hZ : x_ZB k Z) (hk : k ≤ 50000) (r : Int32) : x_Met m_X7_light [.ref 2, .int r] h (x_KC h (z_light Z r)) := by
  obtain ⟨hb, db, E, Wd, nx, fw, lt, A, B, C⟩ := HC
  have hd := C.hd
  obtain ⟨c1, cx, c0, cT, cH, cD, cN, cR, cI, cP, cS, cB⟩ := id C
  have hB : x_HB (z_N Z) (z_R Z) (z_D Z) (z_P Z) (z_F Z) := hZ.1.hb
  have hQ : x_QB (z_N Z) (z_R Z) (z_P Z) (z_Q Z) := hZ.2.1.1
  obtain ⟨⟨b1, b2, b3, b4⟩, b5, b6, b7⟩ := id hB
  obtain ⟨u1, u2, u3, u4, u5, u6, u7, u8, u9⟩ := id hQ
  obtain ⟨h2, g0, g1, g2, g3, g4, g5, g6, g7, g8, g9, g10, g11⟩ := id cH
  obtain ⟨h2n, n0, ⟨f1, n1, n1e⟩, n2, ⟨f3, n3, n3e⟩, n4, n5⟩ := id cN
  obtain ⟨-, hXn, hEk, hEa, htx, t0, -⟩ := id cT
  obtain ⟨⟨-, hTc, hTx, r0, r1⟩, -⟩ := id cR
  obtain ⟨-, hSn, s0, -⟩ := id cS
  obtain ⟨-, hBn, k0, -⟩ := id cB
  obtain ⟨-, p0, -⟩ := id cP
  obtain ⟨-, d0, -⟩ := id cD
  have FC := x_fC.rf h
  obtain ⟨Q0, HG0⟩ := cR.2.1 nx hTx
  refine x_Met.of (lo := [some (.ref 2), some (.int r)]) (by decide) rfl rfl rfl ?_
  refine R_aload_n dX7_light_0 rfl ?_
  refine R_get dX7_light_1 f_X7_19 c0 rfl ?_
  refine R_iload_n dX7_light_4 rfl ?_
  refine R_cV1p (N := m_X1_hasRoom) dX7_light_5 l_X7_148 i_X1_hasRoom g0 (c_House_hasRoom cH _) rfl rfl ?_
  refine R_ifneB 14 dX7_light_8 rfl (fun c_8 => ?_) (fun c_8 => ?_)
  · obtain ⟨i, hi, rfl⟩ := x_has_t (by omega) c_8
    refine R_aload_n dX7_light_14 rfl ?_
    refine R_get dX7_light_15 f_X7_29 c0 rfl ?_
    refine R_iload_n dX7_light_18 rfl ?_
    refine R_cV1p (N := m_X2_isOut) dX7_light_19 l_X7_155 i_X2_isOut n0 (c_Night_isOut cN (r := i) (by omega)) rfl rfl ?_
    refine R_ifneB 28 dX7_light_22 rfl (fun c_22 => ?_) (fun c_22 => ?_)
    · refine R_aload_n dX7_light_28 rfl ?_
      refine R_get dX7_light_29 f_X7_36 c0 rfl ?_
      refine R_aload_n dX7_light_32 rfl ?_
      refine R_get dX7_light_33 f_X7_29 c0 rfl ?_
      refine R_cV1v (N := m_X6_remember) dX7_light_36 l_X7_206 i_X6_remember r0 (c_Trail_remember cR.1 HG0 cN b2 b4 (by omega)) rfl rfl (fun h36 q_36 => ?_)
      obtain ⟨HT1, HN1, FR2⟩ := q_36
      have C := C.ring (cR.rem HT1 HN1 FR2) (fun q hq => FR2 q (by omega) (by omega))
      have FC : x_fC h h36 := FC.trans (fun q hq => FR2 q (by omega) (by omega))
      obtain ⟨c1, cx, c0, cT, cH, cD, cN, cR, cI, cP, cS, cB⟩ := id C
      have c0 : h36[2]? = some (x_cob hb db (z_s Z) (z_f Z)) := c0
      have cT : x_Text h36 3 (z_X Z).1 (z_X Z).2 _ := cT
      have cH : x_House h36 hb (z_N Z) (z_R Z) (z_D Z) (z_P Z) (z_F Z) := cH
      have cN : x_Night h36 49 (z_R Z) (z_P Z) (z_Q Z) := cN
      have cR : x_Ring h36 _ (z_R Z) (z_P Z) (t_rem (z_Q Z) (z_T Z)) := cR
      have cI : x_Imgs h36 (z_R Z) (z_P Z) (z_I Z) := cI
      have cS : x_Seen h36 348 (z_S Z).1 (z_S Z).2.1 (z_S Z).2.2 := cS
      have cB : x_Book h36 351 (z_B Z).1 (z_B Z).2.1 (z_B Z).2.2 := cB
      obtain ⟨h2, g0, g1, g2, g3, g4, g5, g6, g7, g8, g9, g10, g11⟩ := id cH
      obtain ⟨h2n, n0, ⟨f1, n1, n1e⟩, n2, ⟨f3, n3, n3e⟩, n4, n5⟩ := id cN
      obtain ⟨-, hXn, hEk, hEa, htx, t0, -⟩ := id cT
      obtain ⟨⟨-, hTc, hTx, r0, r1⟩, -⟩ := id cR
      obtain ⟨-, hSn, s0, -⟩ := id cS
      obtain ⟨-, hBn, k0, -⟩ := id cB
      obtain ⟨-, p0, -⟩ := id cP
      obtain ⟨-, d0, -⟩ := id cD
      refine R_aload_n dX7_light_39 rfl ?_
      refine R_get dX7_light_40 f_X7_29 c0 rfl ?_
      refine R_iload_n dX7_light_43 rfl ?_
      refine R_cV1v (N := m_X2_lightAgain) dX7_light_44 l_X7_233 i_X2_lightAgain n0 (c_Night_lightAgain cN (r := i) (by omega)) rfl rfl (fun h44 q_44 => ?_)
      obtain ⟨HN1, FR2⟩ := q_44
      have C := C.night HN1 FR2
      have FC := FC.fr FR2 (by omega) (by omega)
      obtain ⟨c1, cx, c0, cT, cH, cD, cN, cR, cI, cP, cS, cB⟩ := id C
      have c0 : h44[2]? = some (x_cob hb db (z_s Z) (z_f Z)) := c0
      have cT : x_Text h44 3 (z_X Z).1 (z_X Z).2 _ := cT
      have cH : x_House h44 hb (z_N Z) (z_R Z) (z_D Z) (z_P Z) (z_F Z) := cH
      have cN : x_Night h44 49 (z_R Z) (z_P Z) (q_lit (z_Q Z) i) := cN
      have cR : x_Ring h44 _ (z_R Z) (z_P Z) (t_rem (z_Q Z) (z_T Z)) := cR
      have cI : x_Imgs h44 (z_R Z) (z_P Z) (z_I Z) := cI
      have cS : x_Seen h44 348 (z_S Z).1 (z_S Z).2.1 (z_S Z).2.2 := cS
      have cB : x_Book h44 351 (z_B Z).1 (z_B Z).2.1 (z_B Z).2.2 := cB
      obtain ⟨h2, g0, g1, g2, g3, g4, g5, g6, g7, g8, g9, g10, g11⟩ := id cH
      obtain ⟨h2n, n0, ⟨f1, n1, n1e⟩, n2, ⟨f3, n3, n3e⟩, n4, n5⟩ := id cN
      obtain ⟨-, hXn, hEk, hEa, htx, t0, -⟩ := id cT
      obtain ⟨⟨-, hTc, hTx, r0, r1⟩, -⟩ := id cR
      obtain ⟨-, hSn, s0, -⟩ := id cS
      obtain ⟨-, hBn, k0, -⟩ := id cB
      obtain ⟨-, p0, -⟩ := id cP
      obtain ⟨-, d0, -⟩ := id cD
      refine R_aload_n dX7_light_47 rfl ?_
      refine R_get dX7_light_48 f_X7_29 c0 rfl ?_
      refine R_iload_n dX7_light_51 rfl ?_
      refine R_aload_n dX7_light_52 rfl ?_
      refine R_get dX7_light_53 f_X7_29 c0 rfl ?_
      refine R_get dX7_light_56 f_X7_127 n0 rfl ?_
      refine R_cV2p (N := m_X2_isLitAt) dX7_light_59 l_X7_225 i_X2_isLitAt n0 (c_Night_isLitAt cN b2 hi u1 (u5 i hi)) rfl rfl ?_
      refine R_ifeqB 69 dX7_light_62 rfl (fun c_62 => ?_) (fun c_62 => ?_)
      · refine R_iconst (nI 0) dX7_light_69 rfl ?_
        exact R_iret dX7_light_70 rfl rfl rfl (x_KC.ok C.cl FC (by rw [z_light, z_tb_t hi (by omega), if_neg (by rw [c_22]; decide), show s_lit (q_lit (z_Q Z) i) (q_hr (z_Q Z)) i = _ from c_62]; rfl))
      · refine R_iconst (nI 1) dX7_light_65 rfl ?_
        refine R_goto 70 dX7_light_66 rfl ?_
        exact R_iret dX7_light_70 rfl rfl rfl (x_KC.ok C.cl FC (by rw [z_light, z_tb_t hi (by omega), if_neg (by rw [c_22]; decide), show s_lit (q_lit (z_Q Z) i) (q_hr (z_Q Z)) i = _ from c_62]; rfl))
    · refine R_ldc (-1000000003) dX7_light_25 k_X7_217 ?_
      exact R_iret dX7_light_27 rfl rfl rfl (x_KC.ok C.cl (x_fC.rf _) (by rw [z_light, z_tb_t hi (by omega), if_pos c_22]))
  · refine R_ldc (-1000000001) dX7_light_11 k_X7_151 ?_
    exact R_iret dX7_light_13 rfl rfl rfl (x_KC.ok C.cl (x_fC.rf _) (by rw [z_light, z_tb_f c_8]))
theorem c_candle {h : xH} {Z : xZ} {k : Nat} (HC : x_Class h Z) (hZ : x_ZB k Z) (hk : k ≤ 50000) (r c : Int32) : x_Met m_X7_candle [.ref 2, .int r, .int c] h (x_KC h (z_candle Z r c)) := by
  obtain ⟨hb, db, E, Wd, nx, fw, lt, A, B, C⟩ := HC
  have hd := C.hd
  obtain ⟨c1, cx, c0, cT, cH, cD, cN, cR, cI, cP, cS, cB⟩ := id C
  have hB : x_HB (z_N Z) (z_R Z) (z_D Z) (z_P Z) (z_F Z) := hZ.1.hb
  have hQ : x_QB (z_N Z) (z_R Z) (z_P Z) (z_Q Z) := hZ.2.1.1
  obtain ⟨⟨b1, b2, b3, b4⟩, b5, b6, b7⟩ := id hB
  obtain ⟨u1, u2, u3, u4, u5, u6, u7, u8, u9⟩ := id hQ
  obtain ⟨h2, g0, g1, g2, g3, g4, g5, g6, g7, g8, g9, g10, g11⟩ := id cH
  obtain ⟨h2n, n0, ⟨f1, n1, n1e⟩, n2, ⟨f3, n3, n3e⟩, n4, n5⟩ := id cN
  obtain ⟨-, hXn, hEk, hEa, htx, t0, -⟩ := id cT
  obtain ⟨⟨-, hTc, hTx, r0, r1⟩, -⟩ := id cR
  obtain ⟨-, hSn, s0, -⟩ := id cS
  obtain ⟨-, hBn, k0, -⟩ := id cB
  obtain ⟨-, p0, -⟩ := id cP
  obtain ⟨-, d0, -⟩ := id cD
  have FC := x_fC.rf h
  obtain ⟨Q0, HG0⟩ := cR.2.1 nx hTx
  refine x_Met.of (lo := [some (.ref 2), some (.int r), some (.int c), none]) (by decide) rfl rfl rfl ?_
  refine R_aload_n dX7_candle_0 rfl ?_
  refine R_get dX7_candle_1 f_X7_19 c0 rfl ?_
  refine R_iload_n dX7_candle_4 rfl ?_
  refine R_cV1p (N := m_X1_hasRoom) dX7_candle_5 l_X7_148 i_X1_hasRoom g0 (c_House_hasRoom cH _) rfl rfl ?_
  refine R_ifneB 14 dX7_candle_8 rfl (fun c_8 => ?_) (fun c_8 => ?_)
  · obtain ⟨i, hi, rfl⟩ := x_has_t (by omega) c_8
    refine R_iload_n dX7_candle_14 rfl ?_
    refine R_iflt 24 dX7_candle_15 rfl (fun c_15 => ?_) (fun c_15 => ?_)
    · refine R_ldc (-1000000002) dX7_candle_24 k_X7_80 ?_
      exact R_iret dX7_candle_26 rfl rfl rfl (x_KC.ok C.cl (x_fC.rf _) (by rw [z_candle, z_tb_t hi (by omega), z_rg_lo c_15]))
    · refine R_iload_n dX7_candle_18 rfl ?_
      refine R_bipush (nI 20) dX7_candle_19 rfl ?_
      refine R_icmple 27 dX7_candle_21 rfl (fun c_21 => ?_) (fun c_21 => ?_)
      · obtain ⟨j, hj1, hj2, rfl⟩ := x_rng (a := 0) (b := 20) (by decide) c_15 c_21 (by decide)
        refine R_aload_n dX7_candle_27 rfl ?_
        refine R_get dX7_candle_28 f_X7_36 c0 rfl ?_
        refine R_aload_n dX7_candle_31 rfl ?_
        refine R_get dX7_candle_32 f_X7_29 c0 rfl ?_
        refine R_cV1v (N := m_X6_remember) dX7_candle_35 l_X7_206 i_X6_remember r0 (c_Trail_remember cR.1 HG0 cN b2 b4 (by omega)) rfl rfl (fun h35 q_35 => ?_)
        obtain ⟨HT1, HN1, FR2⟩ := q_35
        have C := C.ring (cR.rem HT1 HN1 FR2) (fun q hq => FR2 q (by omega) (by omega))
        have FC : x_fC h h35 := FC.trans (fun q hq => FR2 q (by omega) (by omega))
        obtain ⟨c1, cx, c0, cT, cH, cD, cN, cR, cI, cP, cS, cB⟩ := id C
        have c0 : h35[2]? = some (x_cob hb db (z_s Z) (z_f Z)) := c0
        have cT : x_Text h35 3 (z_X Z).1 (z_X Z).2 _ := cT
        have cH : x_House h35 hb (z_N Z) (z_R Z) (z_D Z) (z_P Z) (z_F Z) := cH
        have cN : x_Night h35 49 (z_R Z) (z_P Z) (z_Q Z) := cN
        have cR : x_Ring h35 _ (z_R Z) (z_P Z) (t_rem (z_Q Z) (z_T Z)) := cR
        have cI : x_Imgs h35 (z_R Z) (z_P Z) (z_I Z) := cI
        have cS : x_Seen h35 348 (z_S Z).1 (z_S Z).2.1 (z_S Z).2.2 := cS
        have cB : x_Book h35 351 (z_B Z).1 (z_B Z).2.1 (z_B Z).2.2 := cB
        obtain ⟨h2, g0, g1, g2, g3, g4, g5, g6, g7, g8, g9, g10, g11⟩ := id cH
        obtain ⟨h2n, n0, ⟨f1, n1, n1e⟩, n2, ⟨f3, n3, n3e⟩, n4, n5⟩ := id cN
        obtain ⟨-, hXn, hEk, hEa, htx, t0, -⟩ := id cT
        obtain ⟨⟨-, hTc, hTx, r0, r1⟩, -⟩ := id cR
        obtain ⟨-, hSn, s0, -⟩ := id cS
        obtain ⟨-, hBn, k0, -⟩ := id cB
        obtain ⟨-, p0, -⟩ := id cP
        obtain ⟨-, d0, -⟩ := id cD
        refine R_aload_n dX7_candle_38 rfl ?_
        refine R_get dX7_candle_39 f_X7_29 c0 rfl ?_
        refine R_get dX7_candle_42 f_X7_152 n0 rfl ?_
        refine R_iload_n dX7_candle_45 rfl ?_
        refine R_iald dX7_candle_46 n1 rfl (by omega) (by decide) ?_
        rw [n1e i (by omega)]
        refine R_istore_n dX7_candle_47 (Nat.le_of_ble_eq_true rfl) rfl ?_
        refine R_aload_n dX7_candle_48 rfl ?_
        refine R_get dX7_candle_49 f_X7_29 c0 rfl ?_
        refine R_get dX7_candle_52 f_X7_152 n0 rfl ?_
        refine R_iload_n dX7_candle_55 rfl ?_
        refine R_iload_n dX7_candle_56 rfl ?_
        refine R_iast dX7_candle_57 n1 (by omega) rfl (by omega) (by decide) ?_
        have HN1 : x_Night (List.set h35 (49 + 1) (x_ia 6 (upd f1 i (nI j)))) 49 (z_R Z) (z_P Z) (q_can (z_Q Z) i j) := cN.bu _ _ (fun x hx => by
          show upd f1 i _ x = nI (if x = i then _ else q_bu (z_Q Z) x)
          by_cases e : x = i
          · subst e; rw [if_pos rfl]; simp [upd]
          · rw [if_neg e]; simp [upd, e]; exact n1e x hx)
        have FR2 : x_fr h35 (List.set h35 (49 + 1) (x_ia 6 (upd f1 i (nI j)))) 49 9 := (x_fr.rf h35 49 9).set _ (by omega) (by omega)
        have C := C.night HN1 FR2
        have FC := FC.fr FR2 (by omega) (by omega)
        refine R_iload_n dX7_candle_58 rfl ?_
        exact R_iret dX7_candle_59 rfl rfl rfl (x_KC.ok C.cl FC (by rw [z_candle, z_tb_t hi (by omega), z_rg_t hj1 hj2 (by decide)]))
      · refine R_ldc (-1000000002) dX7_candle_24 k_X7_80 ?_
        exact R_iret dX7_candle_26 rfl rfl rfl (x_KC.ok C.cl (x_fC.rf _) (by rw [z_candle, z_tb_t hi (by omega), z_rg_hi c_21]))
  · refine R_ldc (-1000000001) dX7_candle_11 k_X7_151 ?_
    exact R_iret dX7_candle_13 rfl rfl rfl (x_KC.ok C.cl (x_fC.rf _) (by rw [z_candle, z_tb_f c_8]))
theorem c_undo {h : xH} {Z : xZ} {k : Nat} (HC : x_Class h Z) (hZ : x_ZB k Z) (hk : k ≤ 50000) (n : Int32) : x_Met m_X7_undo [.ref 2, .int n] h (x_KC h (z_undo Z n)) := by
  obtain ⟨hb, db, E, Wd, nx, fw, lt, A, B, C⟩ := HC
  have hd := C.hd
  obtain ⟨c1, cx, c0, cT, cH, cD, cN, cR, cI, cP, cS, cB⟩ := id C
  have hB : x_HB (z_N Z) (z_R Z) (z_D Z) (z_P Z) (z_F Z) := hZ.1.hb
  have hQ : x_QB (z_N Z) (z_R Z) (z_P Z) (z_Q Z) := hZ.2.1.1
  obtain ⟨⟨b1, b2, b3, b4⟩, b5, b6, b7⟩ := id hB
  obtain ⟨u1, u2, u3, u4, u5, u6, u7, u8, u9⟩ := id hQ
  obtain ⟨h2, g0, g1, g2, g3, g4, g5, g6, g7, g8, g9, g10, g11⟩ := id cH
  obtain ⟨h2n, n0, ⟨f1, n1, n1e⟩, n2, ⟨f3, n3, n3e⟩, n4, n5⟩ := id cN
  obtain ⟨-, hXn, hEk, hEa, htx, t0, -⟩ := id cT
  obtain ⟨⟨-, hTc, hTx, r0, r1⟩, -⟩ := id cR
  obtain ⟨-, hSn, s0, -⟩ := id cS
  obtain ⟨-, hBn, k0, -⟩ := id cB
  obtain ⟨-, p0, -⟩ := id cP
  obtain ⟨-, d0, -⟩ := id cD
  have FC := x_fC.rf h
  obtain ⟨Q0, HG0⟩ := cR.2.1 nx hTx
  refine x_Met.of (lo := [some (.ref 2), some (.int n)]) (by decide) rfl rfl rfl ?_
  refine R_iload_n dX7_undo_0 rfl ?_
  refine R_iconst (nI 1) dX7_undo_1 rfl ?_
  refine R_icmplt 11 dX7_undo_2 rfl (fun c_2 => ?_) (fun c_2 => ?_)
  · refine R_ldc (-1000000002) dX7_undo_11 k_X7_80 ?_
    exact R_iret dX7_undo_13 rfl rfl rfl (x_KC.ok C.cl (x_fC.rf _) (by rw [z_undo, z_rg_lo c_2]))
  · refine R_iload_n dX7_undo_5 rfl ?_
    refine R_bipush (nI 30) dX7_undo_6 rfl ?_
    refine R_icmple 14 dX7_undo_8 rfl (fun c_8 => ?_) (fun c_8 => ?_)
    · obtain ⟨i, hi1, hi2, rfl⟩ := x_rng (a := 1) (b := 30) (by decide) c_2 c_8 (by decide)
      refine R_iload_n dX7_undo_14 rfl ?_
      refine R_aload_n dX7_undo_15 rfl ?_
      refine R_get dX7_undo_16 f_X7_36 c0 rfl ?_
      refine R_get dX7_undo_19 f_X7_147 r0 rfl ?_
      refine R_leN 28 dX7_undo_22 rfl (by omega) (by omega) (fun c_22 => ?_) (fun c_22 => ?_)
      · have HG1 : x_Night h (58 + 2 + 9 * ((nx + 30 - i) % 30)) (z_R Z) (z_P Z) ((z_T Z).2 (i - 1)) := by
          have z := cR.2.2 (i - 1) (by omega)
          rw [show nx + 29 - (i - 1) = nx + 30 - i by omega] at z
          exact z
        refine R_aload_n dX7_undo_28 rfl ?_
        refine R_get dX7_undo_29 f_X7_36 c0 rfl ?_
        refine R_iload_n dX7_undo_32 rfl ?_
        refine R_aload_n dX7_undo_33 rfl ?_
        refine R_get dX7_undo_34 f_X7_29 c0 rfl ?_
        refine R_cV2v (N := m_X6_takeBack) dX7_undo_37 l_X7_239 i_X6_takeBack r0 (c_Trail_takeBack cR.1 (by omega) (by omega) HG1 cN b2 b4 (by omega)) rfl rfl (fun h37 q_37 => ?_)
        obtain ⟨HT1, HN1, FR2⟩ := q_37
        have C := C.both (cR.back (by omega) HT1 (fun q q1 q2 => FR2 q (by omega) (by omega))) HN1 (fun q hq => FR2 q (by omega) (by omega))
        have FC : x_fC h h37 := FC.trans (fun q hq => FR2 q (by omega) (by omega))
        obtain ⟨c1, cx, c0, cT, cH, cD, cN, cR, cI, cP, cS, cB⟩ := id C
        have c0 : h37[2]? = some (x_cob hb db (z_s Z) (z_f Z)) := c0
        have cT : x_Text h37 3 (z_X Z).1 (z_X Z).2 _ := cT
        have cH : x_House h37 hb (z_N Z) (z_R Z) (z_D Z) (z_P Z) (z_F Z) := cH
        have cN : x_Night h37 49 (z_R Z) (z_P Z) ((z_T Z).2 (i - 1)) := cN
        have cR : x_Ring h37 _ (z_R Z) (z_P Z) ((z_T Z).1 - i, fun j => (z_T Z).2 (j + i)) := cR
        have cI : x_Imgs h37 (z_R Z) (z_P Z) (z_I Z) := cI
        have cS : x_Seen h37 348 (z_S Z).1 (z_S Z).2.1 (z_S Z).2.2 := cS
        have cB : x_Book h37 351 (z_B Z).1 (z_B Z).2.1 (z_B Z).2.2 := cB
        obtain ⟨h2, g0, g1, g2, g3, g4, g5, g6, g7, g8, g9, g10, g11⟩ := id cH
        obtain ⟨h2n, n0, ⟨f1, n1, n1e⟩, n2, ⟨f3, n3, n3e⟩, n4, n5⟩ := id cN
        obtain ⟨-, hXn, hEk, hEa, htx, t0, -⟩ := id cT
        obtain ⟨⟨-, hTc, hTx, r0, r1⟩, -⟩ := id cR
        obtain ⟨-, hSn, s0, -⟩ := id cS
        obtain ⟨-, hBn, k0, -⟩ := id cB
        obtain ⟨-, p0, -⟩ := id cP
        obtain ⟨-, d0, -⟩ := id cD
        refine R_aload_n dX7_undo_40 rfl ?_
        refine R_get dX7_undo_41 f_X7_29 c0 rfl ?_
        refine R_get dX7_undo_44 f_X7_127 n0 rfl ?_
        exact R_iret dX7_undo_47 rfl rfl rfl (x_KC.ok C.cl FC (by rw [z_undo, z_rg_t hi1 hi2 (by decide), if_neg (by omega)]))
      · refine R_ldc (-1000000003) dX7_undo_25 k_X7_217 ?_
        exact R_iret dX7_undo_27 rfl rfl rfl (x_KC.ok C.cl (x_fC.rf _) (by rw [z_undo, z_rg_t hi1 hi2 (by decide), if_pos (by omega)]))
    · refine R_ldc (-1000000002) dX7_undo_11 k_X7_80 ?_
      exact R_iret dX7_undo_13 rfl rfl rfl (x_KC.ok C.cl (x_fC.rf _) (by rw [z_undo, z_rg_hi c_8]))
theorem c_see {h : xH} {Z : xZ} {k : Nat} (HC : x_Class h Z) (hZ : x_ZB k Z) (hk : k ≤ 50000) (r : Int32) (v : Bool) : x_Met m_X7_see [.ref 2, .int r, .int (x_b v)] h (x_KC h (z_see Z r v)) := by
  obtain ⟨hb, db, E, Wd, nx, fw, lt, A, B, C⟩ := HC
  have hd := C.hd
  obtain ⟨c1, cx, c0, cT, cH, cD, cN, cR, cI, cP, cS, cB⟩ := id C
  have hB : x_HB (z_N Z) (z_R Z) (z_D Z) (z_P Z) (z_F Z) := hZ.1.hb
  have hQ : x_QB (z_N Z) (z_R Z) (z_P Z) (z_Q Z) := hZ.2.1.1
  obtain ⟨⟨b1, b2, b3, b4⟩, b5, b6, b7⟩ := id hB
  obtain ⟨u1, u2, u3, u4, u5, u6, u7, u8, u9⟩ := id hQ
  obtain ⟨h2, g0, g1, g2, g3, g4, g5, g6, g7, g8, g9, g10, g11⟩ := id cH
  obtain ⟨h2n, n0, ⟨f1, n1, n1e⟩, n2, ⟨f3, n3, n3e⟩, n4, n5⟩ := id cN
  obtain ⟨-, hXn, hEk, hEa, htx, t0, -⟩ := id cT
  obtain ⟨⟨-, hTc, hTx, r0, r1⟩, -⟩ := id cR
  obtain ⟨-, hSn, s0, -⟩ := id cS
  obtain ⟨-, hBn, k0, -⟩ := id cB
  obtain ⟨-, p0, -⟩ := id cP
  obtain ⟨-, d0, -⟩ := id cD
  have FC := x_fC.rf h
  obtain ⟨Q0, HG0⟩ := cR.2.1 nx hTx
  refine x_Met.of (lo := [some (.ref 2), some (.int r), some (.int (x_b v))]) (by decide) rfl rfl rfl ?_
  refine R_aload_n dX7_see_0 rfl ?_
  refine R_get dX7_see_1 f_X7_19 c0 rfl ?_
  refine R_iload_n dX7_see_4 rfl ?_
  refine R_cV1p (N := m_X1_hasRoom) dX7_see_5 l_X7_148 i_X1_hasRoom g0 (c_House_hasRoom cH _) rfl rfl ?_
  refine R_ifneB 14 dX7_see_8 rfl (fun c_8 => ?_) (fun c_8 => ?_)
  · obtain ⟨i, hi, rfl⟩ := x_has_t (by omega) c_8
    refine R_aload_n dX7_see_14 rfl ?_
    refine R_get dX7_see_15 f_X7_62 c0 rfl ?_
    refine R_iload_n dX7_see_18 rfl ?_
    refine R_iload_n dX7_see_19 rfl ?_
    refine R_cV2i (N := m_X4_append) dX7_see_20 l_X7_279 i_X4_append s0 (c_Seen_app cS i v) rfl rfl (fun r20 h20 q_20 => ?_)
    obtain ⟨er, hq0, hq1⟩ := q_20
    subst er
    refine R_ifeqB 36 dX7_see_23 rfl (fun c_23 => ?_) (fun c_23 => ?_)
    · have e := hq0 (of_decide_eq_false c_23)
      subst e
      have hfu := x_dF c_23 hSn
      refine R_ldc (-1000000004) dX7_see_36 k_X7_88 ?_
      exact R_iret dX7_see_38 rfl rfl rfl (x_KC.ok C.cl (x_fC.rf _) (by rw [z_see, z_tb_t hi (by omega), if_pos hfu]))
    · obtain ⟨HS1, FR2⟩ := hq1 (of_decide_eq_true c_23)
      have hlt := of_decide_eq_true c_23
      have C := C.seen (S := ((z_S Z).1 + 1, s_snoc (z_S Z).1 (z_S Z).2.1 i, s_snoc (z_S Z).1 (z_S Z).2.2 v)) HS1 FR2
      have FC := FC.fr FR2 (by omega) (by omega)
      obtain ⟨c1, cx, c0, cT, cH, cD, cN, cR, cI, cP, cS, cB⟩ := id C
      have c0 : h20[2]? = some (x_cob hb db (z_s Z) (z_f Z)) := c0
      have cT : x_Text h20 3 (z_X Z).1 (z_X Z).2 _ := cT
      have cH : x_House h20 hb (z_N Z) (z_R Z) (z_D Z) (z_P Z) (z_F Z) := cH
      have cN : x_Night h20 49 (z_R Z) (z_P Z) (z_Q Z) := cN
      have cR : x_Ring h20 _ (z_R Z) (z_P Z) (z_T Z) := cR
      have cI : x_Imgs h20 (z_R Z) (z_P Z) (z_I Z) := cI
      have cS : x_Seen h20 348 ((z_S Z).1 + 1, s_snoc (z_S Z).1 (z_S Z).2.1 i, s_snoc (z_S Z).1 (z_S Z).2.2 v).1 ((z_S Z).1 + 1, s_snoc (z_S Z).1 (z_S Z).2.1 i, s_snoc (z_S Z).1 (z_S Z).2.2 v).2.1 ((z_S Z).1 + 1, s_snoc (z_S Z).1 (z_S Z).2.1 i, s_snoc (z_S Z).1 (z_S Z).2.2 v).2.2 := cS
      have cB : x_Book h20 351 (z_B Z).1 (z_B Z).2.1 (z_B Z).2.2 := cB
      obtain ⟨h2, g0, g1, g2, g3, g4, g5, g6, g7, g8, g9, g10, g11⟩ := id cH
      obtain ⟨h2n, n0, ⟨f1, n1, n1e⟩, n2, ⟨f3, n3, n3e⟩, n4, n5⟩ := id cN
      obtain ⟨-, hXn, hEk, hEa, htx, t0, -⟩ := id cT
      obtain ⟨⟨-, hTc, hTx, r0, r1⟩, -⟩ := id cR
      obtain ⟨-, hSn, s0, -⟩ := id cS
      obtain ⟨-, hBn, k0, -⟩ := id cB
      obtain ⟨-, p0, -⟩ := id cP
      obtain ⟨-, d0, -⟩ := id cD
      refine R_aload_n dX7_see_26 rfl ?_
      refine R_get dX7_see_27 f_X7_62 c0 rfl ?_
      refine R_get dX7_see_30 f_X7_111 s0 rfl ?_
      refine R_goto 38 dX7_see_33 rfl ?_
      exact R_iret dX7_see_38 rfl rfl rfl (x_KC.ok C.cl FC (by rw [z_see, z_tb_t hi (by omega), if_neg (by omega)]))
  · refine R_ldc (-1000000001) dX7_see_11 k_X7_151 ?_
    exact R_iret dX7_see_13 rfl rfl rfl (x_KC.ok C.cl (x_fC.rf _) (by rw [z_see, z_tb_f c_8]))
theorem c_write {h : xH} {Z : xZ} {k : Nat} (HC : x_Class h Z) (hZ : x_ZB k Z) (hk : k ≤ 50000) (r p : Int32) : x_Met m_X7_write [.ref 2, .int r, .int p] h (x_KC h (z_write Z r p)) := by
  obtain ⟨hb, db, E, Wd, nx, fw, lt, A, B, C⟩ := HC
  have hd := C.hd
  obtain ⟨c1, cx, c0, cT, cH, cD, cN, cR, cI, cP, cS, cB⟩ := id C
  have hB : x_HB (z_N Z) (z_R Z) (z_D Z) (z_P Z) (z_F Z) := hZ.1.hb
  have hQ : x_QB (z_N Z) (z_R Z) (z_P Z) (z_Q Z) := hZ.2.1.1
  obtain ⟨⟨b1, b2, b3, b4⟩, b5, b6, b7⟩ := id hB
  obtain ⟨u1, u2, u3, u4, u5, u6, u7, u8, u9⟩ := id hQ
  obtain ⟨h2, g0, g1, g2, g3, g4, g5, g6, g7, g8, g9, g10, g11⟩ := id cH
  obtain ⟨h2n, n0, ⟨f1, n1, n1e⟩, n2, ⟨f3, n3, n3e⟩, n4, n5⟩ := id cN
  obtain ⟨-, hXn, hEk, hEa, htx, t0, -⟩ := id cT
  obtain ⟨⟨-, hTc, hTx, r0, r1⟩, -⟩ := id cR
  obtain ⟨-, hSn, s0, -⟩ := id cS
  obtain ⟨-, hBn, k0, -⟩ := id cB
  obtain ⟨-, p0, -⟩ := id cP
  obtain ⟨-, d0, -⟩ := id cD
  have FC := x_fC.rf h
  obtain ⟨Q0, HG0⟩ := cR.2.1 nx hTx
  refine x_Met.of (lo := [some (.ref 2), some (.int r), some (.int p)]) (by decide) rfl rfl rfl ?_
  refine R_aload_n dX7_write_0 rfl ?_
  refine R_get dX7_write_1 f_X7_19 c0 rfl ?_
  refine R_iload_n dX7_write_4 rfl ?_
  refine R_cV1p (N := m_X1_hasRoom) dX7_write_5 l_X7_148 i_X1_hasRoom g0 (c_House_hasRoom cH _) rfl rfl ?_
  refine R_ifeqB 27 dX7_write_8 rfl (fun c_8 => ?_) (fun c_8 => ?_)
  · refine R_ldc (-1000000001) dX7_write_27 k_X7_151 ?_
    exact R_iret dX7_write_29 rfl rfl rfl (x_KC.ok C.cl (x_fC.rf _) (by rw [z_write, z_tb_f c_8]))
  · obtain ⟨i, hi, rfl⟩ := x_has_t (by omega) c_8
    refine R_iload_n dX7_write_11 rfl ?_
    refine R_iconst (-1) dX7_write_12 rfl ?_
    refine R_icmpeq 30 dX7_write_13 rfl (fun c_13 => ?_) (fun c_13 => ?_)
    · have hwr : p = -1 ∨ x_has p (z_P Z) = true := Or.inl c_13
      refine R_aload_n dX7_write_30 rfl ?_
      refine R_get dX7_write_31 f_X7_69 c0 rfl ?_
      refine R_iload_n dX7_write_34 rfl ?_
      refine R_iload_n dX7_write_35 rfl ?_
      refine R_cV2i (N := m_X0_append) dX7_write_36 l_X7_289 i_X0_append k0 (c_Book_app cB i p) rfl rfl (fun r36 h36 q_36 => ?_)
      obtain ⟨er, hq0, hq1⟩ := q_36
      subst er
      refine R_ifeqB 52 dX7_write_39 rfl (fun c_39 => ?_) (fun c_39 => ?_)
      · have e := hq0 (of_decide_eq_false c_39)
        subst e
        have hfu := x_dF c_39 hBn
        refine R_ldc (-1000000004) dX7_write_52 k_X7_88 ?_
        exact R_iret dX7_write_54 rfl rfl rfl (x_KC.ok C.cl (x_fC.rf _) (by rw [z_write, z_tb_t hi (by omega), if_pos hwr, if_pos hfu]))
      · obtain ⟨HS1, FR2⟩ := hq1 (of_decide_eq_true c_39)
        have hlt := of_decide_eq_true c_39
        have C := C.book (T := ((z_B Z).1 + 1, s_snoc (z_B Z).1 (z_B Z).2.1 i, s_snoc (z_B Z).1 (z_B Z).2.2 p)) HS1 FR2
        have FC := FC.fr FR2 (by omega) (by omega)
        obtain ⟨c1, cx, c0, cT, cH, cD, cN, cR, cI, cP, cS, cB⟩ := id C
        have c0 : h36[2]? = some (x_cob hb db (z_s Z) (z_f Z)) := c0
        have cT : x_Text h36 3 (z_X Z).1 (z_X Z).2 _ := cT
        have cH : x_House h36 hb (z_N Z) (z_R Z) (z_D Z) (z_P Z) (z_F Z) := cH
        have cN : x_Night h36 49 (z_R Z) (z_P Z) (z_Q Z) := cN
        have cR : x_Ring h36 _ (z_R Z) (z_P Z) (z_T Z) := cR
        have cI : x_Imgs h36 (z_R Z) (z_P Z) (z_I Z) := cI
        have cS : x_Seen h36 348 (z_S Z).1 (z_S Z).2.1 (z_S Z).2.2 := cS
        have cB : x_Book h36 351 ((z_B Z).1 + 1, s_snoc (z_B Z).1 (z_B Z).2.1 i, s_snoc (z_B Z).1 (z_B Z).2.2 p).1 ((z_B Z).1 + 1, s_snoc (z_B Z).1 (z_B Z).2.1 i, s_snoc (z_B Z).1 (z_B Z).2.2 p).2.1 ((z_B Z).1 + 1, s_snoc (z_B Z).1 (z_B Z).2.1 i, s_snoc (z_B Z).1 (z_B Z).2.2 p).2.2 := cB
        obtain ⟨h2, g0, g1, g2, g3, g4, g5, g6, g7, g8, g9, g10, g11⟩ := id cH
        obtain ⟨h2n, n0, ⟨f1, n1, n1e⟩, n2, ⟨f3, n3, n3e⟩, n4, n5⟩ := id cN
        obtain ⟨-, hXn, hEk, hEa, htx, t0, -⟩ := id cT
        obtain ⟨⟨-, hTc, hTx, r0, r1⟩, -⟩ := id cR
        obtain ⟨-, hSn, s0, -⟩ := id cS
        obtain ⟨-, hBn, k0, -⟩ := id cB
        obtain ⟨-, p0, -⟩ := id cP
        obtain ⟨-, d0, -⟩ := id cD
        refine R_aload_n dX7_write_42 rfl ?_
        refine R_get dX7_write_43 f_X7_69 c0 rfl ?_
        refine R_get dX7_write_46 f_X7_114 k0 rfl ?_
        refine R_goto 54 dX7_write_49 rfl ?_
        exact R_iret dX7_write_54 rfl rfl rfl (x_KC.ok C.cl FC (by rw [z_write, z_tb_t hi (by omega), if_pos hwr, if_neg (by omega)]))
    · refine R_aload_n dX7_write_16 rfl ?_
      refine R_get dX7_write_17 f_X7_19 c0 rfl ?_
      refine R_iload_n dX7_write_20 rfl ?_
      refine R_cV1p (N := m_X1_hasHeir) dX7_write_21 l_X7_184 i_X1_hasHeir g0 (c_House_hasHeir cH _) rfl rfl ?_
      refine R_ifneB 30 dX7_write_24 rfl (fun c_24 => ?_) (fun c_24 => ?_)
      · have hwr : p = -1 ∨ x_has p (z_P Z) = true := Or.inr c_24
        refine R_aload_n dX7_write_30 rfl ?_
        refine R_get dX7_write_31 f_X7_69 c0 rfl ?_
        refine R_iload_n dX7_write_34 rfl ?_
        refine R_iload_n dX7_write_35 rfl ?_
        refine R_cV2i (N := m_X0_append) dX7_write_36 l_X7_289 i_X0_append k0 (c_Book_app cB i p) rfl rfl (fun r36 h36 q_36 => ?_)
        obtain ⟨er, hq0, hq1⟩ := q_36
        subst er
        refine R_ifeqB 52 dX7_write_39 rfl (fun c_39 => ?_) (fun c_39 => ?_)
        · have e := hq0 (of_decide_eq_false c_39)
          subst e
          have hfu := x_dF c_39 hBn
          refine R_ldc (-1000000004) dX7_write_52 k_X7_88 ?_
          exact R_iret dX7_write_54 rfl rfl rfl (x_KC.ok C.cl (x_fC.rf _) (by rw [z_write, z_tb_t hi (by omega), if_pos hwr, if_pos hfu]))
        · obtain ⟨HS1, FR2⟩ := hq1 (of_decide_eq_true c_39)
          have hlt := of_decide_eq_true c_39
          have C := C.book (T := ((z_B Z).1 + 1, s_snoc (z_B Z).1 (z_B Z).2.1 i, s_snoc (z_B Z).1 (z_B Z).2.2 p)) HS1 FR2
          have FC := FC.fr FR2 (by omega) (by omega)
          obtain ⟨c1, cx, c0, cT, cH, cD, cN, cR, cI, cP, cS, cB⟩ := id C
          have c0 : h36[2]? = some (x_cob hb db (z_s Z) (z_f Z)) := c0
          have cT : x_Text h36 3 (z_X Z).1 (z_X Z).2 _ := cT
          have cH : x_House h36 hb (z_N Z) (z_R Z) (z_D Z) (z_P Z) (z_F Z) := cH
          have cN : x_Night h36 49 (z_R Z) (z_P Z) (z_Q Z) := cN
          have cR : x_Ring h36 _ (z_R Z) (z_P Z) (z_T Z) := cR
          have cI : x_Imgs h36 (z_R Z) (z_P Z) (z_I Z) := cI
          have cS : x_Seen h36 348 (z_S Z).1 (z_S Z).2.1 (z_S Z).2.2 := cS
          have cB : x_Book h36 351 ((z_B Z).1 + 1, s_snoc (z_B Z).1 (z_B Z).2.1 i, s_snoc (z_B Z).1 (z_B Z).2.2 p).1 ((z_B Z).1 + 1, s_snoc (z_B Z).1 (z_B Z).2.1 i, s_snoc (z_B Z).1 (z_B Z).2.2 p).2.1 ((z_B Z).1 + 1, s_snoc (z_B Z).1 (z_B Z).2.1 i, s_snoc (z_B Z).1 (z_B Z).2.2 p).2.2 := cB
          obtain ⟨h2, g0, g1, g2, g3, g4, g5, g6, g7, g8, g9, g10, g11⟩ := id cH
          obtain ⟨h2n, n0, ⟨f1, n1, n1e⟩, n2, ⟨f3, n3, n3e⟩, n4, n5⟩ := id cN
          obtain ⟨-, hXn, hEk, hEa, htx, t0, -⟩ := id cT
          obtain ⟨⟨-, hTc, hTx, r0, r1⟩, -⟩ := id cR
          obtain ⟨-, hSn, s0, -⟩ := id cS
          obtain ⟨-, hBn, k0, -⟩ := id cB
          obtain ⟨-, p0, -⟩ := id cP
          obtain ⟨-, d0, -⟩ := id cD
          refine R_aload_n dX7_write_42 rfl ?_
          refine R_get dX7_write_43 f_X7_69 c0 rfl ?_
          refine R_get dX7_write_46 f_X7_114 k0 rfl ?_
          refine R_goto 54 dX7_write_49 rfl ?_
          exact R_iret dX7_write_54 rfl rfl rfl (x_KC.ok C.cl FC (by rw [z_write, z_tb_t hi (by omega), if_pos hwr, if_neg (by omega)]))
      · refine R_ldc (-1000000001) dX7_write_27 k_X7_151 ?_
        exact R_iret dX7_write_29 rfl rfl rfl (x_KC.ok C.cl (x_fC.rf _) (by rw [z_write, z_tb_t hi (by omega), if_neg (fun z => z.elim c_13 (fun q => absurd (q.symm.trans c_24) (by decide)))]))
