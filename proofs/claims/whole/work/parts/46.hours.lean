/-! HOURS, DRAWS, DRIFT -/
theorem x_lcg {s : Nat} (hs : s < 2 ^ 31) : (((nI s).toInt64 * 1103515245 + 12345) &&& 2147483647).toInt32 = nI (s_lcg s) := by
  have e1 : (nI s).toInt64 = Int64.ofNat s := by
    apply Int64.toInt_inj.mp
    rw [Int32.toInt_toInt64, nI_toInt hs, Int64.toInt_ofNat_of_lt (by omega)]
  rw [e1]
  have e2 : Int64.ofNat s * 1103515245 + 12345 = Int64.ofNat (s * 1103515245 + 12345) := by
    rw [Int64.ofNat_add, Int64.ofNat_mul]; rfl
  rw [e2]
  apply Int32.toBitVec_inj.mp
  rw [Int64.toBitVec_toInt32, Int64.toBitVec_and, BitVec.signExtend_eq_setWidth_of_le _ (by decide)]
  show BitVec.setWidth 32 ((BitVec.ofNat 64 (s * 1103515245 + 12345)) &&& BitVec.ofNat 64 2147483647) = BitVec.ofNat 32 (s_lcg s)
  rw [← BitVec.ofNat_and, show (2147483647 : Nat) = 2 ^ 31 - 1 from rfl, Nat.and_two_pow_sub_one_eq_mod]
  show BitVec.setWidth 32 (BitVec.ofNat 64 (s_lcg s)) = BitVec.ofNat 32 (s_lcg s)
  have h1 := s_lcg_lt s
  generalize s_lcg s = y at *
  apply BitVec.eq_of_toNat_eq
  rw [BitVec.toNat_setWidth, BitVec.toNat_ofNat, BitVec.toNat_ofNat, Nat.mod_eq_of_lt (a := y) (by omega)]
theorem c_refusal {h : xH} {Z : xZ} {k : Nat} (HC : x_Class h Z) (hZ : x_ZB k Z) (hk : k ≤ 50000) (n : Int32) : x_Met m_X7_refusalOfHours [.ref 2, .int n] h (x_pr (z_ref Z n) h) := by
  obtain ⟨hb, db, E, Wd, nx, fw, lt, A, B, C⟩ := HC
  have hd := C.hd
  obtain ⟨c1, cx, c0, cT, cH, cD, cN, cR, cI, cP, cS, cB⟩ := id C
  have hB : x_HB (z_N Z) (z_R Z) (z_D Z) (z_P Z) (z_F Z) := hZ.1.hb
  have hQ : x_QB (z_N Z) (z_R Z) (z_P Z) (z_Q Z) := hZ.2.1.1
  obtain ⟨⟨b1, b2, b3, b4⟩, b5, b6, b7⟩ := id hB
  obtain ⟨u1, u2, u3, u4, u5, u6, u7, u8, u9⟩ := id hQ
  obtain ⟨h2, g0, g1, g2, g3, g4, g5, g6, g7, g8, g9, g10, g11⟩ := id cH
  obtain ⟨h2n, n0, ⟨f1, n1, n1e⟩, n2, ⟨f3, n3, n3e⟩, n4, n5⟩ := id cN
  obtain ⟨-, hXn, hEk, hEa, htx, t0, -⟩ := id cT
  obtain ⟨⟨-, hTc, hTx, r0, r1⟩, -⟩ := id cR
  obtain ⟨-, hSn, s0, -⟩ := id cS
  obtain ⟨-, hBn, k0, -⟩ := id cB
  obtain ⟨-, p0, -⟩ := id cP
  obtain ⟨-, d0, -⟩ := id cD
  refine x_Met.of (lo := [some (.ref 2), some (.int n)]) (by decide) rfl rfl rfl ?_
  refine R_iload_n dX7_refusalOfHours_0 rfl ?_
  refine R_iconst (nI 1) dX7_refusalOfHours_1 rfl ?_
  refine R_icmplt 11 dX7_refusalOfHours_2 rfl (fun c_2 => ?_) (fun c_2 => ?_)
  · refine R_ldc (-1000000002) dX7_refusalOfHours_11 k_X7_80 ?_
    exact R_iret dX7_refusalOfHours_13 rfl rfl rfl (x_pr.eq (by rw [z_ref, z_rg_lo c_2]))
  · refine R_iload_n dX7_refusalOfHours_5 rfl ?_
    refine R_bipush (nI 20) dX7_refusalOfHours_6 rfl ?_
    refine R_icmple 14 dX7_refusalOfHours_8 rfl (fun c_8 => ?_) (fun c_8 => ?_)
    · obtain ⟨i, hi1, hi2, rfl⟩ := x_rng (a := 1) (b := 20) (by decide) c_2 c_8 (by decide)
      refine R_aload_n dX7_refusalOfHours_14 rfl ?_
      refine R_get dX7_refusalOfHours_15 f_X7_19 c0 rfl ?_
      refine R_get dX7_refusalOfHours_18 f_X7_118 g0 rfl ?_
      refine R_ifneN 27 dX7_refusalOfHours_21 rfl (by omega) (fun c_21 => ?_) (fun c_21 => ?_)
      · refine R_aload_n dX7_refusalOfHours_27 rfl ?_
        refine R_get dX7_refusalOfHours_28 f_X7_29 c0 rfl ?_
        refine R_get dX7_refusalOfHours_31 f_X7_130 n0 rfl ?_
        refine R_sipush (nI 9000) dX7_refusalOfHours_34 rfl ?_
        refine R_leN 45 dX7_refusalOfHours_37 rfl (by omega) (by omega) (fun c_37 => ?_) (fun c_37 => ?_)
        · refine R_iconst (nI 0) dX7_refusalOfHours_45 rfl ?_
          exact R_iret dX7_refusalOfHours_46 rfl rfl rfl (x_pr.eq (by rw [z_ref, z_rg_t hi1 hi2 (by decide), if_neg c_21, if_neg (by omega)]; rfl))
        · refine R_ldc (-1000000004) dX7_refusalOfHours_40 k_X7_88 ?_
          refine R_goto 46 dX7_refusalOfHours_42 rfl ?_
          exact R_iret dX7_refusalOfHours_46 rfl rfl rfl (x_pr.eq (by rw [z_ref, z_rg_t hi1 hi2 (by decide), if_neg c_21, if_pos (by omega)]))
      · refine R_ldc (-1000000003) dX7_refusalOfHours_24 k_X7_217 ?_
        exact R_iret dX7_refusalOfHours_26 rfl rfl rfl (x_pr.eq (by rw [z_ref, z_rg_t hi1 hi2 (by decide), if_pos c_21]))
    · refine R_ldc (-1000000002) dX7_refusalOfHours_11 k_X7_80 ?_
      exact R_iret dX7_refusalOfHours_13 rfl rfl rfl (x_pr.eq (by rw [z_ref, z_rg_hi c_8]))
theorem c_hour_loop {h : xH} {n : Nat} {Zf : xZ} (hn : n ≤ 20) : ∀ (m i : Nat), i + m = n → ∀ (Z : xZ) (k : Nat) (v2 : Int32) {g : xH}, x_Class g Z → x_ZB k Z → k + m ≤ 50000 → x_fC h g → z_iter z_hour1 m Z = Zf → x_Rn m_X7_hour 14 [some (.ref 2), some (.int (nI n)), some (.int v2), some (.int (nI i))] [] g (0, 0) (x_KC h (nI (q_hr (z_Q Zf)), Zf)) := by
  intro m
  induction m with
  | zero =>
    intro i h1 Z k v2 g HC hZ hk FC he
    have he : Z = Zf := he
    subst he
    obtain ⟨hb, db, E, Wd, nx, fw, lt, A, B, C⟩ := HC
    have hd := C.hd
    obtain ⟨c1, cx, c0, cT, cH, cD, cN, cR, cI, cP, cS, cB⟩ := id C
    have hB : x_HB (z_N Z) (z_R Z) (z_D Z) (z_P Z) (z_F Z) := hZ.1.hb
    have hQ : x_QB (z_N Z) (z_R Z) (z_P Z) (z_Q Z) := hZ.2.1.1
    obtain ⟨⟨b1, b2, b3, b4⟩, b5, b6, b7⟩ := id hB
    obtain ⟨u1, u2, u3, u4, u5, u6, u7, u8, u9⟩ := id hQ
    obtain ⟨h2, g0, g1, g2, g3, g4, g5, g6, g7, g8, g9, g10, g11⟩ := id cH
    obtain ⟨h2n, n0, ⟨f1, n1, n1e⟩, n2, ⟨f3, n3, n3e⟩, n4, n5⟩ := id cN
    obtain ⟨-, hXn, hEk, hEa, htx, t0, -⟩ := id cT
    obtain ⟨⟨-, hTc, hTx, r0, r1⟩, -⟩ := id cR
    obtain ⟨-, hSn, s0, -⟩ := id cS
    obtain ⟨-, hBn, k0, -⟩ := id cB
    obtain ⟨-, p0, -⟩ := id cP
    obtain ⟨-, d0, -⟩ := id cD
    refine R_iload_n dX7_hour_14 rfl ?_
    refine R_iload_n dX7_hour_15 rfl ?_
    refine R_geN 47 dX7_hour_16 rfl (by omega) (by omega) (fun c_16 => ?_) (fun c_16 => ?_)
    · refine R_aload_n dX7_hour_47 rfl ?_
      refine R_get dX7_hour_48 f_X7_29 c0 rfl ?_
      refine R_get dX7_hour_51 f_X7_127 n0 rfl ?_
      exact R_iret dX7_hour_54 rfl rfl rfl (x_KC.ok C.cl FC rfl)
    · omega
  | succ m ih =>
    intro i h1 Z k v2 g HC hZ hk FC he
    obtain ⟨hb, db, E, Wd, nx, fw, lt, A, B, C⟩ := HC
    have hd := C.hd
    obtain ⟨c1, cx, c0, cT, cH, cD, cN, cR, cI, cP, cS, cB⟩ := id C
    have hB : x_HB (z_N Z) (z_R Z) (z_D Z) (z_P Z) (z_F Z) := hZ.1.hb
    have hQ : x_QB (z_N Z) (z_R Z) (z_P Z) (z_Q Z) := hZ.2.1.1
    obtain ⟨⟨b1, b2, b3, b4⟩, b5, b6, b7⟩ := id hB
    obtain ⟨u1, u2, u3, u4, u5, u6, u7, u8, u9⟩ := id hQ
    obtain ⟨h2, g0, g1, g2, g3, g4, g5, g6, g7, g8, g9, g10, g11⟩ := id cH
    obtain ⟨h2n, n0, ⟨f1, n1, n1e⟩, n2, ⟨f3, n3, n3e⟩, n4, n5⟩ := id cN
    obtain ⟨-, hXn, hEk, hEa, htx, t0, -⟩ := id cT
    obtain ⟨⟨-, hTc, hTx, r0, r1⟩, -⟩ := id cR
    obtain ⟨-, hSn, s0, -⟩ := id cS
    obtain ⟨-, hBn, k0, -⟩ := id cB
    obtain ⟨-, p0, -⟩ := id cP
    obtain ⟨-, d0, -⟩ := id cD
    obtain ⟨Q0, HG0⟩ := cR.2.1 nx hTx
    refine R_iload_n dX7_hour_14 rfl ?_
    refine R_iload_n dX7_hour_15 rfl ?_
    refine R_geN 47 dX7_hour_16 rfl (by omega) (by omega) (fun c_16 => ?_) (fun c_16 => ?_)
    · omega
    · refine R_aload_n dX7_hour_19 rfl ?_
      refine R_get dX7_hour_20 f_X7_36 c0 rfl ?_
      refine R_aload_n dX7_hour_23 rfl ?_
      refine R_get dX7_hour_24 f_X7_29 c0 rfl ?_
      refine R_cV1v (N := m_X6_remember) dX7_hour_27 l_X7_206 i_X6_remember r0 (c_Trail_remember cR.1 HG0 cN b2 b4 (by omega)) rfl rfl (fun h27 q_27 => ?_)
      obtain ⟨HT1, HN1, FR2⟩ := q_27
      have C := C.ring (cR.rem HT1 HN1 FR2) (fun q hq => FR2 q (by omega) (by omega))
      have FC : x_fC h h27 := FC.trans (fun q hq => FR2 q (by omega) (by omega))
      obtain ⟨c1, cx, c0, cT, cH, cD, cN, cR, cI, cP, cS, cB⟩ := id C
      have c0 : h27[2]? = some (x_cob hb db (z_s Z) (z_f Z)) := c0
      have cT : x_Text h27 3 (z_X Z).1 (z_X Z).2 _ := cT
      have cH : x_House h27 hb (z_N Z) (z_R Z) (z_D Z) (z_P Z) (z_F Z) := cH
      have cN : x_Night h27 49 (z_R Z) (z_P Z) (z_Q Z) := cN
      have cR : x_Ring h27 _ (z_R Z) (z_P Z) (t_rem (z_Q Z) (z_T Z)) := cR
      have cI : x_Imgs h27 (z_R Z) (z_P Z) (z_I Z) := cI
      have cS : x_Seen h27 348 (z_S Z).1 (z_S Z).2.1 (z_S Z).2.2 := cS
      have cB : x_Book h27 351 (z_B Z).1 (z_B Z).2.1 (z_B Z).2.2 := cB
      obtain ⟨h2, g0, g1, g2, g3, g4, g5, g6, g7, g8, g9, g10, g11⟩ := id cH
      obtain ⟨h2n, n0, ⟨f1, n1, n1e⟩, n2, ⟨f3, n3, n3e⟩, n4, n5⟩ := id cN
      obtain ⟨-, hXn, hEk, hEa, htx, t0, -⟩ := id cT
      obtain ⟨⟨-, hTc, hTx, r0, r1⟩, -⟩ := id cR
      obtain ⟨-, hSn, s0, -⟩ := id cS
      obtain ⟨-, hBn, k0, -⟩ := id cB
      obtain ⟨-, p0, -⟩ := id cP
      obtain ⟨-, d0, -⟩ := id cD
      refine R_aload_n dX7_hour_30 rfl ?_
      refine R_get dX7_hour_31 f_X7_29 c0 rfl ?_
      refine R_aload_n dX7_hour_34 rfl ?_
      refine R_get dX7_hour_35 f_X7_19 c0 rfl ?_
      refine R_cV1v (N := m_X2_passHour) dX7_hour_38 l_X7_222 i_X2_passHour n0 (c_Night_passHour cH hB cN hQ (Or.inl (by omega))) rfl rfl (fun h38 q_38 => ?_)
      obtain ⟨HN1, FR2⟩ := q_38
      have C := C.night HN1 FR2
      have FC := FC.fr FR2 (by omega) (by omega)
      obtain ⟨c1, cx, c0, cT, cH, cD, cN, cR, cI, cP, cS, cB⟩ := id C
      have c0 : h38[2]? = some (x_cob hb db (z_s Z) (z_f Z)) := c0
      have cT : x_Text h38 3 (z_X Z).1 (z_X Z).2 _ := cT
      have cH : x_House h38 hb (z_N Z) (z_R Z) (z_D Z) (z_P Z) (z_F Z) := cH
      have cN : x_Night h38 49 (z_R Z) (z_P Z) (s_pass (z_N Z) (z_R Z) (z_Q Z)) := cN
      have cR : x_Ring h38 _ (z_R Z) (z_P Z) (t_rem (z_Q Z) (z_T Z)) := cR
      have cI : x_Imgs h38 (z_R Z) (z_P Z) (z_I Z) := cI
      have cS : x_Seen h38 348 (z_S Z).1 (z_S Z).2.1 (z_S Z).2.2 := cS
      have cB : x_Book h38 351 (z_B Z).1 (z_B Z).2.1 (z_B Z).2.2 := cB
      obtain ⟨h2, g0, g1, g2, g3, g4, g5, g6, g7, g8, g9, g10, g11⟩ := id cH
      obtain ⟨h2n, n0, ⟨f1, n1, n1e⟩, n2, ⟨f3, n3, n3e⟩, n4, n5⟩ := id cN
      obtain ⟨-, hXn, hEk, hEa, htx, t0, -⟩ := id cT
      obtain ⟨⟨-, hTc, hTx, r0, r1⟩, -⟩ := id cR
      obtain ⟨-, hSn, s0, -⟩ := id cS
      obtain ⟨-, hBn, k0, -⟩ := id cB
      obtain ⟨-, p0, -⟩ := id cP
      obtain ⟨-, d0, -⟩ := id cD
      refine R_iincN dX7_hour_41 rfl (Nat.le_of_ble_eq_true rfl) rfl ?_
      refine R_goto 14 dX7_hour_44 rfl ?_
      exact ih (i + 1) (by omega) (z_hour1 Z) (k + 1) v2 C.cl (hZ.hour1 (by omega)) (by omega) FC he
theorem z_ref_in {Z : xZ} {n : Int32} (h : z_ref Z n = 0) : ∃ i, 1 ≤ i ∧ i ≤ 20 ∧ n = nI i := by
  unfold z_ref z_rg at h
  split at h
  · rename_i c
    exact x_rng (a := 1) (b := 20) (by decide) c.1 c.2 (by decide)
  · exact absurd h (by decide)
theorem c_hour {h : xH} {Z : xZ} {k : Nat} (HC : x_Class h Z) (hZ : x_ZB k Z) (hk : k + 50 ≤ 50000) (n : Int32) : x_Met m_X7_hour [.ref 2, .int n] h (x_KC h (z_hour Z n)) := by
  have hk0 := hk
  have hk : k ≤ 50000 := by omega
  have HC0 := HC
  obtain ⟨hb, db, E, Wd, nx, fw, lt, A, B, C⟩ := HC
  have HC := HC0
  obtain ⟨-, -, c0, -⟩ := id C
  refine x_Met.of (lo := [some (.ref 2), some (.int n), none, none]) (by decide) rfl rfl rfl ?_
  refine R_aload_n dX7_hour_0 rfl ?_
  refine R_iload_n dX7_hour_1 rfl ?_
  refine R_cV1p (N := m_X7_refusalOfHours) dX7_hour_2 l_X7_218 i_X7_refusalOfHours c0 (c_refusal (k := k) HC hZ hk n) rfl rfl ?_
  refine R_istore_n dX7_hour_5 (Nat.le_of_ble_eq_true rfl) rfl ?_
  refine R_iload_n dX7_hour_6 rfl ?_
  refine R_ifeq 12 dX7_hour_7 rfl (fun c_7 => ?_) (fun c_7 => ?_)
  · refine R_iconst (nI 0) dX7_hour_12 rfl ?_
    refine R_istore_n dX7_hour_13 (Nat.le_of_ble_eq_true rfl) rfl ?_
    obtain ⟨i, hi1, hi2, rfl⟩ := z_ref_in c_7
    rw [z_hour, if_pos c_7, i_n_nI (by omega)]
    exact c_hour_loop hi2 i 0 (by omega) Z k _ C.cl hZ (by omega) (x_fC.rf h) rfl
  · refine R_iload_n dX7_hour_10 rfl ?_
    exact R_iret dX7_hour_11 rfl rfl rfl (x_KC.ok C.cl (x_fC.rf _) (by rw [z_hour, if_neg c_7]))
theorem c_draw {h : xH} {Z : xZ} {hb db : Nat} {E : xE} {Wd : xW} {nx : Nat} {fw lt : Int32} {A B : xA} (C : x_CL h Z hb db E Wd nx fw lt A B) (hs : z_s Z < 2 ^ 31) {n : Nat} (hn : 0 < n) (hn2 : n ≤ 8) : x_Met m_X7_draw [.ref 2, .int (nI n)] h (x_ir (fun r h' => r = nI (s_dw (s_lcg (z_s Z)) n) ∧ x_CL h' (z_sets Z (s_lcg (z_s Z))) hb db E Wd nx fw lt A B ∧ x_fC h h')) := by
  obtain ⟨y, ey⟩ : ∃ y, y = s_lcg (z_s Z) := ⟨_, rfl⟩
  have hy : y < 2 ^ 31 := by rw [ey]; exact s_lcg_lt _
  rw [← ey]
  unfold s_dw
  obtain ⟨c1, cx, c0, cT, cH, cD, cN, cR, cI, cP, cS, cB⟩ := id C
  have FC := x_fC.rf h
  refine x_Met.of (lo := [some (.ref 2), some (.int (nI n))]) (by decide) rfl rfl rfl ?_
  refine R_aload_n dX7_draw_0 rfl ?_
  refine R_aload_n dX7_draw_1 rfl ?_
  refine R_get dX7_draw_2 f_X7_73 c0 rfl ?_
  refine R_i2l dX7_draw_5 ?_
  refine R_ldc2 (1103515245) dX7_draw_6 k_X7_249 ?_
  refine R_lmul dX7_draw_9 ?_
  refine R_ldc2 (12345) dX7_draw_10 k_X7_251 ?_
  refine R_ladd dX7_draw_13 ?_
  refine R_ldc2 (2147483647) dX7_draw_14 k_X7_253 ?_
  refine R_land dX7_draw_17 ?_
  refine R_l2i dX7_draw_18 ?_
  refine R_put dX7_draw_19 f_X7_73 c0 (Nat.le_of_ble_eq_true rfl) (fun _ => rfl) (fun _ => rfl) ?_
  simp only [List.set_cons_succ, List.set_cons_zero]
  rw [x_lcg hs, ← ey]
  have C := C.obj y (z_f Z)
  have FC := FC.set (c := 2) (x_cob hb db y (z_f Z)) (by omega) (by omega)
  obtain ⟨c1, cx, c0, cT, cH, cD, cN, cR, cI, cP, cS, cB⟩ := id C
  have c0 : (List.set h 2 (x_cob hb db y (z_f Z)))[2]? = some (x_cob hb db y (z_f Z)) := c0
  refine R_iload_n dX7_draw_22 rfl ?_
  refine R_ifleN 38 dX7_draw_23 rfl (by omega) (fun c_23 => ?_) (fun c_23 => ?_)
  · omega
  · refine R_aload_n dX7_draw_26 rfl ?_
    refine R_get dX7_draw_27 f_X7_73 c0 rfl ?_
    refine R_ldc (nI 65536) dX7_draw_30 k_X7_255 ?_
    refine R_idivN dX7_draw_32 (by omega) (by omega) (by omega) ?_
    refine R_iload_n dX7_draw_33 rfl ?_
    refine R_iremN dX7_draw_34 (by omega) (by omega) (by omega) ?_
    refine R_goto 39 dX7_draw_35 rfl ?_
    exact R_iret dX7_draw_39 rfl rfl rfl ⟨_, rfl, rfl, C, FC⟩
