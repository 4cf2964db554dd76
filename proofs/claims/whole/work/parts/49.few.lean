/-! FEWEST, of the class -/
/-- sets of rooms, asked as an int -/
def x_hasS (x : Int32) (R : Nat) : Bool := decide (¬ x < 0 ∧ ¬ nI 1 <<< (nI R &&& 31) ≤ x)
theorem x_hasS_in {x : Int32} {R : Nat} (hR : R ≤ 6) (h : x_hasS x R = true) : ∃ m, m < 2 ^ R ∧ x = nI m ∧ x = s_set R (fun i => m.testBit i) := by
  have h := of_decide_eq_true h
  rw [x_shl1 R (by omega)] at h
  have hp : 2 ^ R < 2 ^ 31 := Nat.pow_lt_pow_right (by omega) (by omega)
  have hp6 : 2 ^ R ≤ 2 ^ 6 := Nat.pow_le_pow_right (by omega) hR
  rcases pk_ix x hp with q | q | ⟨m, hm, rfl⟩
  · exact absurd q h.1
  · exact absurd q h.2
  · refine ⟨m, hm, rfl, ?_⟩
    rw [s_set_mask _ R (by omega)]
    congr 1
    refine s_mask_ext (Nat.lt_of_lt_of_le hm hp6) hR (fun i _ => ?_)
    by_cases c : i < R
    · rw [decide_eq_true c]; rfl
    · rw [decide_eq_false c, Nat.testBit_lt_two_pow (Nat.lt_of_lt_of_le hm (Nat.pow_le_pow_right (by omega) (by omega)))]; rfl
/-- what the class's planner finds -/
def x_fewP (Z : xZ) (p : Nat) (t : Nat → Bool) (fw lt : Int32) : Prop := if (s_mask (z_R Z) (s_miss (z_F Z) (z_Q Z) p t)) = 0 then fw = nI 0 ∧ lt = -1 else x_best (x_okp (z_N Z) (z_R Z) (z_D Z) (z_F Z) (z_Q Z) p (s_mask (z_R Z) (s_miss (z_F Z) (z_Q Z) p t)) (s_cnt 6 (fun i => (s_mask (z_R Z) (s_miss (z_F Z) (z_Q Z) p t)).testBit i))) (fun x y => q_hr (z_Q Z) ≤ x ∧ x < z_N Z ∧ y < z_R Z) fw lt
def x_fewR (Z : xZ) (p x w r : Int32) : Prop := if x_has p (z_P Z) && x_hasS x (z_R Z) then (if x_has w 2 then ∃ fw lt, x_fewP Z (i_n p) (fun i => (i_n x).testBit i) fw lt ∧ r = (if w = nI 0 then fw else lt) else r = -1000000002) else r = -1000000001
def x_KF (h : xH) (Z : xZ) (p x w : Int32) : Option Value → xH → Prop := x_ir (fun r h' => x_fewR Z p x w r ∧ x_Class h' Z ∧ x_fC h h')
theorem c_fewest {h : xH} {Z : xZ} {k : Nat} (HC : x_Class h Z) (hZ : x_ZB k Z) (hk : k ≤ 50000) (p x w : Int32) : x_Met m_X7_fewest [.ref 2, .int p, .int x, .int w] h (x_KF h Z p x w) := by
  obtain ⟨hb, db, E, Wd, nx, fw, lt, A, B, C⟩ := HC
  have hd := C.hd
  obtain ⟨c1, cx, c0, cT, cH, cD, cN, cR, cI, cP, cS, cB⟩ := id C
  have hB : x_HB (z_N Z) (z_R Z) (z_D Z) (z_P Z) (z_F Z) := hZ.1.hb
  have hQ : x_QB (z_N Z) (z_R Z) (z_P Z) (z_Q Z) := hZ.2.1.1
  obtain ⟨⟨b1, b2, b3, b4⟩, b5, b6, b7⟩ := id hB
  obtain ⟨u1, u2, u3, u4, u5, u6, u7, u8, u9⟩ := id hQ
  obtain ⟨h2, g0, g1, g2, g3, g4, g5, g6, g7, g8, g9, g10, g11⟩ := id cH
  obtain ⟨h2n, n0, ⟨f1, n1, n1e⟩, n2, ⟨f3, n3, n3e⟩, n4, n5⟩ := id cN
  obtain ⟨-, hXn, hEk, hEa, htx, t0, -⟩ := id cT
  obtain ⟨⟨-, hTc, hTx, r0, r1⟩, -⟩ := id cR
  obtain ⟨-, hSn, s0, -⟩ := id cS
  obtain ⟨-, hBn, k0, -⟩ := id cB
  obtain ⟨-, p0, -⟩ := id cP
  obtain ⟨-, d0, -⟩ := id cD
  have FC := x_fC.rf h
  refine x_Met.of (lo := [some (.ref 2), some (.int p), some (.int x), some (.int w)]) (by decide) rfl rfl rfl ?_
  refine R_aload_n dX7_fewest_0 rfl ?_
  refine R_get dX7_fewest_1 f_X7_19 c0 rfl ?_
  refine R_iload_n dX7_fewest_4 rfl ?_
  refine R_cV1p (N := m_X1_hasHeir) dX7_fewest_5 l_X7_184 i_X1_hasHeir g0 (c_House_hasHeir cH _) rfl rfl ?_
  refine R_ifeqB 22 dX7_fewest_8 rfl (fun c_8 => ?_) (fun c_8 => ?_)
  · refine R_ldc (-1000000001) dX7_fewest_22 k_X7_151 ?_
    exact R_iret dX7_fewest_24 rfl rfl rfl ⟨_, rfl, by rw [x_fewR, c_8]; rfl, C.cl, x_fC.rf _⟩
  · obtain ⟨i, hi, rfl⟩ := x_has_t (by omega) c_8
    refine R_aload_n dX7_fewest_11 rfl ?_
    refine R_get dX7_fewest_12 f_X7_19 c0 rfl ?_
    refine R_iload_n dX7_fewest_15 rfl ?_
    refine R_cV1p (N := m_X1_hasRooms) dX7_fewest_16 l_X7_262 i_X1_hasRooms g0 (c_House_hasRooms cH x) rfl rfl ?_
    refine R_ifneB 25 dX7_fewest_19 rfl (fun c_19 => ?_) (fun c_19 => ?_)
    · obtain ⟨m, hm, ex, es⟩ := x_hasS_in b2 c_19
      have hm6 : m < 64 := Nat.lt_of_lt_of_le hm (Nat.pow_le_pow_right (n := 2) (by omega) b2)
      have hN : q_hr (z_Q Z) < z_N Z := by
        rcases u2 with q | q
        · exact q
        · have w8 := hZ.1.1.2.2.2.2 q
          have w9 : z_P Z = 0 := w8.2.2
          omega
      refine R_iload_n dX7_fewest_25 rfl ?_
      refine R_iflt 34 dX7_fewest_26 rfl (fun c_26 => ?_) (fun c_26 => ?_)
      · refine R_ldc (-1000000002) dX7_fewest_34 k_X7_80 ?_
        exact R_iret dX7_fewest_36 rfl rfl rfl ⟨_, rfl, by rw [x_fewR, x_has_nI hi (by omega), show x_hasS x (z_R Z) = true from c_19, show x_has w 2 = false from decide_eq_false (fun z => z.1 c_26)]; rfl, C.cl, x_fC.rf _⟩
      · refine R_iload_n dX7_fewest_29 rfl ?_
        refine R_iconst (nI 1) dX7_fewest_30 rfl ?_
        refine R_icmple 37 dX7_fewest_31 rfl (fun c_31 => ?_) (fun c_31 => ?_)
        · obtain ⟨j, hj1, hj2, rfl⟩ := x_rng (a := 0) (b := 1) (by decide) c_26 c_31 (by decide)
          refine R_aload_n dX7_fewest_37 rfl ?_
          refine R_get dX7_fewest_38 f_X7_55 c0 rfl ?_
          refine R_aload_n dX7_fewest_41 rfl ?_
          refine R_get dX7_fewest_42 f_X7_19 c0 rfl ?_
          refine R_aload_n dX7_fewest_45 rfl ?_
          refine R_get dX7_fewest_46 f_X7_29 c0 rfl ?_
          refine R_iload_n dX7_fewest_49 rfl ?_
          refine R_iload_n dX7_fewest_50 rfl ?_
          rw [es]
          refine R_cV4v (N := m_X3_plan) dX7_fewest_51 l_X7_265 i_X3_plan p0 (c_Planner_plan (t := fun i => m.testBit i) cH hB cN hQ hN hi (by omega) (by omega) c1 cP) rfl rfl (fun h51 q_51 => ?_)
          obtain ⟨fw2, lt2, A2, B2, cP2, hpl, FR2⟩ := q_51
          have C := C.plan cP2 FR2
          have FC := FC.fr FR2 (by omega) (by omega)
          obtain ⟨c1, cx, c0, cT, cH, cD, cN, cR, cI, cP, cS, cB⟩ := id C
          obtain ⟨-, p0, -⟩ := id cP
          have hres : ∀ {r : Int32}, r = (if nI j = nI 0 then fw2 else lt2) → x_fewR Z (nI i) x (nI j) r := fun e => by
            rw [x_fewR, x_has_nI hi (by omega), show x_hasS x (z_R Z) = true from c_19, x_has_nI (show j < 2 by omega) (by decide)]
            refine ⟨fw2, lt2, ?_, e⟩
            rw [i_n_nI (by omega), ex, i_n_nI (by omega)]
            exact hpl
          rw [es] at hres
          refine R_iload_n dX7_fewest_54 rfl ?_
          refine R_ifne 68 dX7_fewest_55 rfl (fun c_55 => ?_) (fun c_55 => ?_)
          · refine R_aload_n dX7_fewest_68 rfl ?_
            refine R_get dX7_fewest_69 f_X7_55 c0 rfl ?_
            refine R_get dX7_fewest_72 f_X7_272 p0 rfl ?_
            exact R_iret dX7_fewest_75 rfl rfl rfl ⟨_, rfl, hres (r := lt2) (if_neg c_55).symm, C.cl, FC⟩
          · refine R_aload_n dX7_fewest_58 rfl ?_
            refine R_get dX7_fewest_59 f_X7_55 c0 rfl ?_
            refine R_get dX7_fewest_62 f_X7_269 p0 rfl ?_
            refine R_goto 75 dX7_fewest_65 rfl ?_
            exact R_iret dX7_fewest_75 rfl rfl rfl ⟨_, rfl, hres (r := fw2) (if_pos c_55).symm, C.cl, FC⟩
        · refine R_ldc (-1000000002) dX7_fewest_34 k_X7_80 ?_
          exact R_iret dX7_fewest_36 rfl rfl rfl ⟨_, rfl, by rw [x_fewR, x_has_nI hi (by omega), show x_hasS x (z_R Z) = true from c_19, show x_has w 2 = false from x_has_gt (n := 2) (by decide) (Int32.not_le.mp c_31)]; rfl, C.cl, x_fC.rf _⟩
    · refine R_ldc (-1000000001) dX7_fewest_22 k_X7_151 ?_
      exact R_iret dX7_fewest_24 rfl rfl rfl ⟨_, rfl, by rw [x_fewR, show x_hasS x (z_R Z) = false from c_19, Bool.and_false]; rfl, C.cl, x_fC.rf _⟩
