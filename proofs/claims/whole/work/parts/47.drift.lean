/-! DRIFT -/
def x_Drw (g : Nat → Nat) (w : Nat → Nat → Nat) : Prop := ∀ {h : xH} {Z : xZ} {hb db : Nat} {E : xE} {Wd : xW} {nx : Nat} {fw lt : Int32} {A B : xA}, x_CL h Z hb db E Wd nx fw lt A B → z_s Z < 2 ^ 31 → ∀ {n : Nat}, 0 < n → n ≤ 8 → x_Met m_X7_draw [.ref 2, .int (nI n)] h (x_ir (fun r h' => r = nI (w (g (z_s Z)) n) ∧ x_CL h' (z_sets Z (g (z_s Z))) hb db E Wd nx fw lt A B ∧ x_fC h h'))
theorem x_drw : x_Drw s_lcg s_dw := fun C hs _ hn hn2 => c_draw C hs hn hn2
def z_gd (g : Nat → Nat) (w : Nat → Nat → Nat) (Z : xZ) (p : Nat) : xZ := if z_D Z = 0 then Z else if s_behind (z_F Z) (w (g (z_s Z)) (z_D Z)) (q_pl (z_Q Z) p) = -1 then z_sets Z (g (z_s Z)) else z_setQ (z_sets Z (g (z_s Z))) (q_go (z_Q Z) p (i_n (s_behind (z_F Z) (w (g (z_s Z)) (z_D Z)) (q_pl (z_Q Z) p))))
theorem c_goByDraw {g : Nat → Nat} {w : Nat → Nat → Nat} (hg : ∀ s, g s < 2 ^ 31) (hw : ∀ s n, 0 < n → w s n < n) (hdr : x_Drw g w) {h : xH} {Z : xZ} {k : Nat} {hb db : Nat} {E : xE} {Wd : xW} {nx : Nat} {fw lt : Int32} {A B : xA} (C : x_CL h Z hb db E Wd nx fw lt A B) (hZ : x_ZB k Z) {p : Nat} (hp : p < z_P Z) : x_Met m_X7_goByDraw [.ref 2, .int (nI p)] h (x_vd (fun h' => x_CL h' (z_gd g w Z p) hb db E Wd nx fw lt A B ∧ x_fC h h')) := by
  have hd := C.hd
  obtain ⟨c1, cx, c0, cT, cH, cD, cN, cR, cI, cP, cS, cB⟩ := id C
  have hB : x_HB (z_N Z) (z_R Z) (z_D Z) (z_P Z) (z_F Z) := hZ.1.hb
  have hQ : x_QB (z_N Z) (z_R Z) (z_P Z) (z_Q Z) := hZ.2.1.1
  obtain ⟨⟨b1, b2, b3, b4⟩, b5, b6, b7⟩ := id hB
  obtain ⟨u1, u2, u3, u4, u5, u6, u7, u8, u9⟩ := id hQ
  obtain ⟨h2, g0, g1, g2, g3, g4, g5, g6, g7, g8, g9, g10, g11⟩ := id cH
  obtain ⟨h2n, n0, ⟨f1, n1, n1e⟩, n2, ⟨f3, n3, n3e⟩, n4, n5⟩ := id cN
  obtain ⟨-, hXn, hEk, hEa, htx, t0, -⟩ := id cT
  obtain ⟨⟨-, hTc, hTx, r0, r1⟩, -⟩ := id cR
  obtain ⟨-, hSn, s0, -⟩ := id cS
  obtain ⟨-, hBn, k0, -⟩ := id cB
  obtain ⟨-, p0, -⟩ := id cP
  obtain ⟨-, d0, -⟩ := id cD
  have FC := x_fC.rf h
  refine x_Met.of (lo := [some (.ref 2), some (.int (nI p)), none]) (by decide) rfl rfl rfl ?_
  refine R_aload_n dX7_goByDraw_0 rfl ?_
  refine R_get dX7_goByDraw_1 f_X7_19 c0 rfl ?_
  refine R_get dX7_goByDraw_4 f_X7_124 g0 rfl ?_
  refine R_ifneN 11 dX7_goByDraw_7 rfl (by omega) (fun c_7 => ?_) (fun c_7 => ?_)
  · refine R_aload_n dX7_goByDraw_11 rfl ?_
    refine R_get dX7_goByDraw_12 f_X7_19 c0 rfl ?_
    refine R_aload_n dX7_goByDraw_15 rfl ?_
    refine R_aload_n dX7_goByDraw_16 rfl ?_
    refine R_get dX7_goByDraw_17 f_X7_19 c0 rfl ?_
    refine R_get dX7_goByDraw_20 f_X7_124 g0 rfl ?_
    refine R_cV1i (N := m_X7_draw) dX7_goByDraw_23 l_X7_243 i_X7_draw c0 (hdr C hZ.2.2.2.2.1 (by omega) (by omega)) rfl rfl (fun r23 h23 q_23 => ?_)
    obtain ⟨er, C, FC2⟩ := q_23
    subst er
    have FC := FC.trans FC2
    have wd := hw (g (z_s Z)) (z_D Z) (by omega)
    obtain ⟨c1, cx, c0, cT, cH, cD, cN, cR, cI, cP, cS, cB⟩ := id C
    have c0 : h23[2]? = some (x_cob hb db (g (z_s Z)) (z_f Z)) := c0
    have cT : x_Text h23 3 (z_X Z).1 (z_X Z).2 _ := cT
    have cH : x_House h23 hb (z_N Z) (z_R Z) (z_D Z) (z_P Z) (z_F Z) := cH
    have cN : x_Night h23 49 (z_R Z) (z_P Z) (z_Q Z) := cN
    have cR : x_Ring h23 _ (z_R Z) (z_P Z) (z_T Z) := cR
    have cI : x_Imgs h23 (z_R Z) (z_P Z) (z_I Z) := cI
    have cS : x_Seen h23 348 (z_S Z).1 (z_S Z).2.1 (z_S Z).2.2 := cS
    have cB : x_Book h23 351 (z_B Z).1 (z_B Z).2.1 (z_B Z).2.2 := cB
    obtain ⟨h2, g0, g1, g2, g3, g4, g5, g6, g7, g8, g9, g10, g11⟩ := id cH
    obtain ⟨h2n, n0, ⟨f1, n1, n1e⟩, n2, ⟨f3, n3, n3e⟩, n4, n5⟩ := id cN
    obtain ⟨-, hXn, hEk, hEa, htx, t0, -⟩ := id cT
    obtain ⟨⟨-, hTc, hTx, r0, r1⟩, -⟩ := id cR
    obtain ⟨-, hSn, s0, -⟩ := id cS
    obtain ⟨-, hBn, k0, -⟩ := id cB
    obtain ⟨-, p0, -⟩ := id cP
    obtain ⟨-, d0, -⟩ := id cD
    refine R_aload_n dX7_goByDraw_26 rfl ?_
    refine R_get dX7_goByDraw_27 f_X7_29 c0 rfl ?_
    refine R_get dX7_goByDraw_30 f_X7_193 n0 rfl ?_
    refine R_iload_n dX7_goByDraw_33 rfl ?_
    refine R_iald dX7_goByDraw_34 n3 rfl (by omega) (by decide) ?_
    rw [n3e p (by omega)]
    refine R_cV2p (N := m_X1_behind) dX7_goByDraw_35 l_X7_214 i_X1_behind g0 (c_House_behind cH hB wd (u6 p hp)) rfl rfl ?_
    refine R_istore_n dX7_goByDraw_38 (Nat.le_of_ble_eq_true rfl) rfl ?_
    refine R_iload_n dX7_goByDraw_39 rfl ?_
    refine R_iconst (-1) dX7_goByDraw_40 rfl ?_
    refine R_icmpeq 54 dX7_goByDraw_41 rfl (fun c_41 => ?_) (fun c_41 => ?_)
    · exact R_vret dX7_goByDraw_54 rfl rfl rfl ⟨rfl, by rw [z_gd, if_neg c_7, if_pos c_41]; exact C, FC⟩
    · obtain ⟨t, ht, et⟩ := (s_behind_in (R := z_R Z) (r := q_pl (z_Q Z) p) (fun d hd => ⟨(b5 d hd).1, (b5 d hd).2.1⟩) wd).resolve_left c_41
      refine R_aload_n dX7_goByDraw_44 rfl ?_
      refine R_get dX7_goByDraw_45 f_X7_29 c0 rfl ?_
      refine R_get dX7_goByDraw_48 f_X7_193 n0 rfl ?_
      refine R_iload_n dX7_goByDraw_51 rfl ?_
      refine R_iload_n dX7_goByDraw_52 rfl ?_
      refine R_iast dX7_goByDraw_53 n3 (by omega) rfl (by omega) (by decide) ?_
      have HN1 : x_Night (List.set h23 (49 + 3) (x_ia 6 (upd f3 p (s_behind (z_F Z) (w (g (z_s Z)) (z_D Z)) (q_pl (z_Q Z) p))))) 49 (z_R Z) (z_P Z) (q_go (z_Q Z) p (i_n (s_behind (z_F Z) (w (g (z_s Z)) (z_D Z)) (q_pl (z_Q Z) p)))) := cN.pl _ _ (fun x hx => by
        show upd f3 p _ x = nI (if x = p then _ else q_pl (z_Q Z) x)
        by_cases e : x = p
        · subst e; rw [if_pos rfl, et, i_n_nI (by omega)]; simp [upd]
        · rw [if_neg e]; simp [upd, e]; exact n3e x hx)
      have FR2 : x_fr h23 (List.set h23 (49 + 3) (x_ia 6 (upd f3 p (s_behind (z_F Z) (w (g (z_s Z)) (z_D Z)) (q_pl (z_Q Z) p))))) 49 9 := (x_fr.rf h23 49 9).set _ (by omega) (by omega)
      have C := C.night HN1 FR2
      have FC := FC.fr FR2 (by omega) (by omega)
      exact R_vret dX7_goByDraw_54 rfl rfl rfl ⟨rfl, by rw [z_gd, if_neg c_7, if_neg c_41]; exact C, FC⟩
  · exact R_vret dX7_goByDraw_10 rfl rfl rfl ⟨rfl, by rw [z_gd, if_pos c_7]; exact C, FC⟩
theorem c_act {g : Nat → Nat} {w : Nat → Nat → Nat} (hg : ∀ s, g s < 2 ^ 31) (hw : ∀ s n, 0 < n → w s n < n) (hdr : x_Drw g w) {h : xH} {Z : xZ} {k : Nat} {hb db : Nat} {E : xE} {Wd : xW} {nx : Nat} {fw lt : Int32} {A B : xA} (C : x_CL h Z hb db E Wd nx fw lt A B) (hZ : x_ZB k Z) : x_Met m_X7_actByDraw [.ref 2] h (x_vd (fun h' => x_CL h' (z_actG g w Z) hb db E Wd nx fw lt A B ∧ x_fC h h')) := by
  have hd := C.hd
  obtain ⟨c1, cx, c0, cT, cH, cD, cN, cR, cI, cP, cS, cB⟩ := id C
  have hB : x_HB (z_N Z) (z_R Z) (z_D Z) (z_P Z) (z_F Z) := hZ.1.hb
  have hQ : x_QB (z_N Z) (z_R Z) (z_P Z) (z_Q Z) := hZ.2.1.1
  obtain ⟨⟨b1, b2, b3, b4⟩, b5, b6, b7⟩ := id hB
  obtain ⟨u1, u2, u3, u4, u5, u6, u7, u8, u9⟩ := id hQ
  obtain ⟨h2, g0, g1, g2, g3, g4, g5, g6, g7, g8, g9, g10, g11⟩ := id cH
  obtain ⟨h2n, n0, ⟨f1, n1, n1e⟩, n2, ⟨f3, n3, n3e⟩, n4, n5⟩ := id cN
  obtain ⟨-, hXn, hEk, hEa, htx, t0, -⟩ := id cT
  obtain ⟨⟨-, hTc, hTx, r0, r1⟩, -⟩ := id cR
  obtain ⟨-, hSn, s0, -⟩ := id cS
  obtain ⟨-, hBn, k0, -⟩ := id cB
  obtain ⟨-, p0, -⟩ := id cP
  obtain ⟨-, d0, -⟩ := id cD
  have FC := x_fC.rf h
  refine x_Met.of (lo := [some (.ref 2), none, none]) (by decide) rfl rfl rfl ?_
  refine R_aload_n dX7_actByDraw_0 rfl ?_
  refine R_get dX7_actByDraw_1 f_X7_19 c0 rfl ?_
  refine R_get dX7_actByDraw_4 f_X7_115 g0 rfl ?_
  refine R_ifneN 11 dX7_actByDraw_7 rfl (by omega) (fun c_7 => ?_) (fun c_7 => ?_)
  · refine R_aload_n dX7_actByDraw_11 rfl ?_
    refine R_iconst (nI 4) dX7_actByDraw_12 rfl ?_
    refine R_cV1i (N := m_X7_draw) dX7_actByDraw_13 l_X7_243 i_X7_draw c0 (hdr C hZ.2.2.2.2.1 (by omega) (by omega)) rfl rfl (fun r13 h13 q_13 => ?_)
    obtain ⟨er, C, FC2⟩ := q_13
    subst er
    have FC := FC.trans FC2
    have w4 := hw (g (z_s Z)) 4 (by omega)
    obtain ⟨c1, cx, c0, cT, cH, cD, cN, cR, cI, cP, cS, cB⟩ := id C
    have c0 : h13[2]? = some (x_cob hb db (g (z_s Z)) (z_f Z)) := c0
    have cT : x_Text h13 3 (z_X Z).1 (z_X Z).2 _ := cT
    have cH : x_House h13 hb (z_N Z) (z_R Z) (z_D Z) (z_P Z) (z_F Z) := cH
    have cN : x_Night h13 49 (z_R Z) (z_P Z) (z_Q Z) := cN
    have cR : x_Ring h13 _ (z_R Z) (z_P Z) (z_T Z) := cR
    have cI : x_Imgs h13 (z_R Z) (z_P Z) (z_I Z) := cI
    have cS : x_Seen h13 348 (z_S Z).1 (z_S Z).2.1 (z_S Z).2.2 := cS
    have cB : x_Book h13 351 (z_B Z).1 (z_B Z).2.1 (z_B Z).2.2 := cB
    obtain ⟨h2, g0, g1, g2, g3, g4, g5, g6, g7, g8, g9, g10, g11⟩ := id cH
    obtain ⟨h2n, n0, ⟨f1, n1, n1e⟩, n2, ⟨f3, n3, n3e⟩, n4, n5⟩ := id cN
    obtain ⟨-, hXn, hEk, hEa, htx, t0, -⟩ := id cT
    obtain ⟨⟨-, hTc, hTx, r0, r1⟩, -⟩ := id cR
    obtain ⟨-, hSn, s0, -⟩ := id cS
    obtain ⟨-, hBn, k0, -⟩ := id cB
    obtain ⟨-, p0, -⟩ := id cP
    obtain ⟨-, d0, -⟩ := id cD
    refine R_istore_n dX7_actByDraw_16 (Nat.le_of_ble_eq_true rfl) rfl ?_
    refine R_aload_n dX7_actByDraw_17 rfl ?_
    refine R_aload_n dX7_actByDraw_18 rfl ?_
    refine R_get dX7_actByDraw_19 f_X7_19 c0 rfl ?_
    refine R_get dX7_actByDraw_22 f_X7_115 g0 rfl ?_
    refine R_cV1i (N := m_X7_draw) dX7_actByDraw_25 l_X7_243 i_X7_draw c0 (hdr C (hg _) (by omega) (by omega)) rfl rfl (fun r25 h25 q_25 => ?_)
    obtain ⟨er, C, FC2⟩ := q_25
    have er : r25 = nI (w (g (g (z_s Z))) (z_P Z)) := er
    subst er
    have C : x_CL h25 (z_sets Z (g (g (z_s Z)))) hb db E Wd nx fw lt A B := C
    have FC := FC.trans FC2
    have hp := hw (g (g (z_s Z))) (z_P Z) (by omega)
    obtain ⟨c1, cx, c0, cT, cH, cD, cN, cR, cI, cP, cS, cB⟩ := id C
    have c0 : h25[2]? = some (x_cob hb db (g (g (z_s Z))) (z_f Z)) := c0
    have cT : x_Text h25 3 (z_X Z).1 (z_X Z).2 _ := cT
    have cH : x_House h25 hb (z_N Z) (z_R Z) (z_D Z) (z_P Z) (z_F Z) := cH
    have cN : x_Night h25 49 (z_R Z) (z_P Z) (z_Q Z) := cN
    have cR : x_Ring h25 _ (z_R Z) (z_P Z) (z_T Z) := cR
    have cI : x_Imgs h25 (z_R Z) (z_P Z) (z_I Z) := cI
    have cS : x_Seen h25 348 (z_S Z).1 (z_S Z).2.1 (z_S Z).2.2 := cS
    have cB : x_Book h25 351 (z_B Z).1 (z_B Z).2.1 (z_B Z).2.2 := cB
    obtain ⟨h2, g0, g1, g2, g3, g4, g5, g6, g7, g8, g9, g10, g11⟩ := id cH
    obtain ⟨h2n, n0, ⟨f1, n1, n1e⟩, n2, ⟨f3, n3, n3e⟩, n4, n5⟩ := id cN
    obtain ⟨-, hXn, hEk, hEa, htx, t0, -⟩ := id cT
    obtain ⟨⟨-, hTc, hTx, r0, r1⟩, -⟩ := id cR
    obtain ⟨-, hSn, s0, -⟩ := id cS
    obtain ⟨-, hBn, k0, -⟩ := id cB
    obtain ⟨-, p0, -⟩ := id cP
    obtain ⟨-, d0, -⟩ := id cD
    refine R_istore_n dX7_actByDraw_28 (Nat.le_of_ble_eq_true rfl) rfl ?_
    refine R_iload_n dX7_actByDraw_29 rfl ?_
    refine R_iconst (nI 1) dX7_actByDraw_30 rfl ?_
    refine R_gtN 49 dX7_actByDraw_31 rfl (by omega) (by omega) (fun c_31 => ?_) (fun c_31 => ?_)
    · refine R_iload_n dX7_actByDraw_49 rfl ?_
      refine R_iconst (nI 2) dX7_actByDraw_50 rfl ?_
      refine R_neN 62 dX7_actByDraw_51 rfl (by omega) (by omega) (fun c_51 => ?_) (fun c_51 => ?_)
      · refine R_aload_n dX7_actByDraw_62 rfl ?_
        refine R_get dX7_actByDraw_63 f_X7_29 c0 rfl ?_
        refine R_aload_n dX7_actByDraw_66 rfl ?_
        refine R_get dX7_actByDraw_67 f_X7_29 c0 rfl ?_
        refine R_get dX7_actByDraw_70 f_X7_193 n0 rfl ?_
        refine R_iload_n dX7_actByDraw_73 rfl ?_
        refine R_iald dX7_actByDraw_74 n3 rfl (by omega) (by decide) ?_
        rw [n3e ((w (g (g (z_s Z))) (z_P Z))) (by omega)]
        refine R_cV1v (N := m_X2_putOut) dX7_actByDraw_75 l_X7_229 i_X2_putOut n0 (c_Night_putOut cN (r := q_pl (z_Q Z) (w (g (g (z_s Z))) (z_P Z))) (by have := u6 (w (g (g (z_s Z))) (z_P Z)) hp; omega)) rfl rfl (fun h75 q_75 => ?_)
        obtain ⟨HN1, FR2⟩ := q_75
        have C := C.night HN1 FR2
        have FC := FC.fr FR2 (by omega) (by omega)
        exact R_vret dX7_actByDraw_78 rfl rfl rfl ⟨rfl, by rw [z_actG, if_neg c_7, if_neg (by omega), if_neg c_51]; exact C, FC⟩
      · refine R_aload_n dX7_actByDraw_54 rfl ?_
        refine R_iload_n dX7_actByDraw_55 rfl ?_
        refine R_cV1v (N := m_X7_goByDraw) dX7_actByDraw_56 l_X7_246 i_X7_goByDraw c0 (c_goByDraw hg hw hdr C (hZ.s (hg _)) hp) rfl rfl (fun h56 q_56 => ?_)
        obtain ⟨C, FC2⟩ := q_56
        have FC := FC.trans FC2
        refine R_goto 78 dX7_actByDraw_59 rfl ?_
        exact R_vret dX7_actByDraw_78 rfl rfl rfl ⟨rfl, by rw [z_actG, if_neg c_7, if_neg (by omega), if_pos (by omega)]; exact C, FC⟩
    · refine R_aload_n dX7_actByDraw_34 rfl ?_
      refine R_get dX7_actByDraw_35 f_X7_29 c0 rfl ?_
      refine R_aload_n dX7_actByDraw_38 rfl ?_
      refine R_get dX7_actByDraw_39 f_X7_19 c0 rfl ?_
      refine R_iload_n dX7_actByDraw_42 rfl ?_
      refine R_cV2v (N := m_X2_speak) dX7_actByDraw_43 l_X7_210 i_X2_speak n0 (c_Night_speak cH hB cN hQ (Or.inl (by omega)) hp) rfl rfl (fun h43 q_43 => ?_)
      obtain ⟨HN1, FR2⟩ := q_43
      have C := C.night HN1 FR2
      have FC := FC.fr FR2 (by omega) (by omega)
      refine R_goto 78 dX7_actByDraw_46 rfl ?_
      exact R_vret dX7_actByDraw_78 rfl rfl rfl ⟨rfl, by rw [z_actG, if_neg c_7, if_pos (by omega)]; exact C, FC⟩
  · exact R_vret dX7_actByDraw_10 rfl rfl rfl ⟨rfl, by rw [z_actG, if_pos c_7]; exact C, FC⟩
theorem c_drift_loop {h : xH} {n : Nat} {Zf : xZ} (hn : n ≤ 20) : ∀ (m i : Nat), i + m = n → ∀ (Z : xZ) (k : Nat) (v2 : Int32) {g : xH}, x_Class g Z → x_ZB k Z → k + m * 2 ≤ 50000 → x_fC h g → z_iter z_drift1 m Z = Zf → x_Rn m_X7_drift 14 [some (.ref 2), some (.int (nI n)), some (.int v2), some (.int (nI i))] [] g (0, 0) (x_KC h (nI (q_hr (z_Q Zf)), Zf)) := by
  intro m
  induction m with
  | zero =>
    intro i h1 Z k v2 g HC hZ hk FC he
    have he : Z = Zf := he
    subst he
    obtain ⟨hb, db, E, Wd, nx, fw, lt, A, B, C⟩ := HC
    have hd := C.hd
    obtain ⟨c1, cx, c0, cT, cH, cD, cN, cR, cI, cP, cS, cB⟩ := id C
    have hB : x_HB (z_N Z) (z_R Z) (z_D Z) (z_P Z) (z_F Z) := hZ.1.hb
    have hQ : x_QB (z_N Z) (z_R Z) (z_P Z) (z_Q Z) := hZ.2.1.1
    obtain ⟨⟨b1, b2, b3, b4⟩, b5, b6, b7⟩ := id hB
    obtain ⟨u1, u2, u3, u4, u5, u6, u7, u8, u9⟩ := id hQ
    obtain ⟨h2, g0, g1, g2, g3, g4, g5, g6, g7, g8, g9, g10, g11⟩ := id cH
    obtain ⟨h2n, n0, ⟨f1, n1, n1e⟩, n2, ⟨f3, n3, n3e⟩, n4, n5⟩ := id cN
    obtain ⟨-, hXn, hEk, hEa, htx, t0, -⟩ := id cT
    obtain ⟨⟨-, hTc, hTx, r0, r1⟩, -⟩ := id cR
    obtain ⟨-, hSn, s0, -⟩ := id cS
    obtain ⟨-, hBn, k0, -⟩ := id cB
    obtain ⟨-, p0, -⟩ := id cP
    obtain ⟨-, d0, -⟩ := id cD
    refine R_iload_n dX7_drift_14 rfl ?_
    refine R_iload_n dX7_drift_15 rfl ?_
    refine R_geN 51 dX7_drift_16 rfl (by omega) (by omega) (fun c_16 => ?_) (fun c_16 => ?_)
    · refine R_aload_n dX7_drift_51 rfl ?_
      refine R_get dX7_drift_52 f_X7_29 c0 rfl ?_
      refine R_get dX7_drift_55 f_X7_127 n0 rfl ?_
      exact R_iret dX7_drift_58 rfl rfl rfl (x_KC.ok C.cl FC rfl)
    · omega
  | succ m ih =>
    intro i h1 Z k v2 g HC hZ hk FC he
    obtain ⟨hb, db, E, Wd, nx, fw, lt, A, B, C⟩ := HC
    have hd := C.hd
    obtain ⟨c1, cx, c0, cT, cH, cD, cN, cR, cI, cP, cS, cB⟩ := id C
    have hB : x_HB (z_N Z) (z_R Z) (z_D Z) (z_P Z) (z_F Z) := hZ.1.hb
    have hQ : x_QB (z_N Z) (z_R Z) (z_P Z) (z_Q Z) := hZ.2.1.1
    obtain ⟨⟨b1, b2, b3, b4⟩, b5, b6, b7⟩ := id hB
    obtain ⟨u1, u2, u3, u4, u5, u6, u7, u8, u9⟩ := id hQ
    obtain ⟨h2, g0, g1, g2, g3, g4, g5, g6, g7, g8, g9, g10, g11⟩ := id cH
    obtain ⟨h2n, n0, ⟨f1, n1, n1e⟩, n2, ⟨f3, n3, n3e⟩, n4, n5⟩ := id cN
    obtain ⟨-, hXn, hEk, hEa, htx, t0, -⟩ := id cT
    obtain ⟨⟨-, hTc, hTx, r0, r1⟩, -⟩ := id cR
    obtain ⟨-, hSn, s0, -⟩ := id cS
    obtain ⟨-, hBn, k0, -⟩ := id cB
    obtain ⟨-, p0, -⟩ := id cP
    obtain ⟨-, d0, -⟩ := id cD
    obtain ⟨Q0, HG0⟩ := cR.2.1 nx hTx
    refine R_iload_n dX7_drift_14 rfl ?_
    refine R_iload_n dX7_drift_15 rfl ?_
    refine R_geN 51 dX7_drift_16 rfl (by omega) (by omega) (fun c_16 => ?_) (fun c_16 => ?_)
    · omega
    · refine R_aload_n dX7_drift_19 rfl ?_
      refine R_get dX7_drift_20 f_X7_36 c0 rfl ?_
      refine R_aload_n dX7_drift_23 rfl ?_
      refine R_get dX7_drift_24 f_X7_29 c0 rfl ?_
      refine R_cV1v (N := m_X6_remember) dX7_drift_27 l_X7_206 i_X6_remember r0 (c_Trail_remember cR.1 HG0 cN b2 b4 (by omega)) rfl rfl (fun h27 q_27 => ?_)
      obtain ⟨HT1, HN1, FR2⟩ := q_27
      have C := C.ring (cR.rem HT1 HN1 FR2) (fun q hq => FR2 q (by omega) (by omega))
      have FC : x_fC h h27 := FC.trans (fun q hq => FR2 q (by omega) (by omega))
      obtain ⟨c1, cx, c0, cT, cH, cD, cN, cR, cI, cP, cS, cB⟩ := id C
      have c0 : h27[2]? = some (x_cob hb db (z_s Z) (z_f Z)) := c0
      have cT : x_Text h27 3 (z_X Z).1 (z_X Z).2 _ := cT
      have cH : x_House h27 hb (z_N Z) (z_R Z) (z_D Z) (z_P Z) (z_F Z) := cH
      have cN : x_Night h27 49 (z_R Z) (z_P Z) (z_Q Z) := cN
      have cR : x_Ring h27 _ (z_R Z) (z_P Z) (t_rem (z_Q Z) (z_T Z)) := cR
      have cI : x_Imgs h27 (z_R Z) (z_P Z) (z_I Z) := cI
      have cS : x_Seen h27 348 (z_S Z).1 (z_S Z).2.1 (z_S Z).2.2 := cS
      have cB : x_Book h27 351 (z_B Z).1 (z_B Z).2.1 (z_B Z).2.2 := cB
      obtain ⟨h2, g0, g1, g2, g3, g4, g5, g6, g7, g8, g9, g10, g11⟩ := id cH
      obtain ⟨h2n, n0, ⟨f1, n1, n1e⟩, n2, ⟨f3, n3, n3e⟩, n4, n5⟩ := id cN
      obtain ⟨-, hXn, hEk, hEa, htx, t0, -⟩ := id cT
      obtain ⟨⟨-, hTc, hTx, r0, r1⟩, -⟩ := id cR
      obtain ⟨-, hSn, s0, -⟩ := id cS
      obtain ⟨-, hBn, k0, -⟩ := id cB
      obtain ⟨-, p0, -⟩ := id cP
      obtain ⟨-, d0, -⟩ := id cD
      refine R_aload_n dX7_drift_30 rfl ?_
      refine R_cV0v (N := m_X7_actByDraw) dX7_drift_31 l_X7_236 i_X7_actByDraw c0 (c_act s_lcg_lt s_dw_lt x_drw C hZ.t) rfl rfl (fun h31 q_31 => ?_)
      obtain ⟨C, FC2⟩ := q_31
      have FC := FC.trans FC2
      have C : x_CL h31 (z_act (z_setT Z (t_rem (z_Q Z) (z_T Z)))) hb db E Wd _ fw lt A B := C
      have hZ2 := hZ.t.act (by omega)
      have he : z_iter z_drift1 m (z_pass (z_act (z_setT Z (t_rem (z_Q Z) (z_T Z))))) = Zf := he
      generalize z_act (z_setT Z (t_rem (z_Q Z) (z_T Z))) = Z at C hZ2 he
      have hZ := hZ2
      obtain ⟨c1, cx, c0, cT, cH, cD, cN, cR, cI, cP, cS, cB⟩ := id C
      have hB : x_HB (z_N Z) (z_R Z) (z_D Z) (z_P Z) (z_F Z) := hZ.1.hb
      have hQ : x_QB (z_N Z) (z_R Z) (z_P Z) (z_Q Z) := hZ.2.1.1
      obtain ⟨⟨b1, b2, b3, b4⟩, b5, b6, b7⟩ := id hB
      obtain ⟨u1, u2, u3, u4, u5, u6, u7, u8, u9⟩ := id hQ
      obtain ⟨h2, g0, g1, g2, g3, g4, g5, g6, g7, g8, g9, g10, g11⟩ := id cH
      obtain ⟨h2n, n0, ⟨f1, n1, n1e⟩, n2, ⟨f3, n3, n3e⟩, n4, n5⟩ := id cN
      obtain ⟨-, hXn, hEk, hEa, htx, t0, -⟩ := id cT
      obtain ⟨⟨-, hTc, hTx, r0, r1⟩, -⟩ := id cR
      obtain ⟨-, hSn, s0, -⟩ := id cS
      obtain ⟨-, hBn, k0, -⟩ := id cB
      obtain ⟨-, p0, -⟩ := id cP
      obtain ⟨-, d0, -⟩ := id cD
      refine R_aload_n dX7_drift_34 rfl ?_
      refine R_get dX7_drift_35 f_X7_29 c0 rfl ?_
      refine R_aload_n dX7_drift_38 rfl ?_
      refine R_get dX7_drift_39 f_X7_19 c0 rfl ?_
      refine R_cV1v (N := m_X2_passHour) dX7_drift_42 l_X7_222 i_X2_passHour n0 (c_Night_passHour cH hB cN hQ (Or.inl (by omega))) rfl rfl (fun h42 q_42 => ?_)
      obtain ⟨HN1, FR2⟩ := q_42
      have C := C.night HN1 FR2
      have FC := FC.fr FR2 (by omega) (by omega)
      refine R_iincN dX7_drift_45 rfl (Nat.le_of_ble_eq_true rfl) rfl ?_
      refine R_goto 14 dX7_drift_48 rfl ?_
      exact ih (i + 1) (by omega) (z_pass Z) (k + 2) v2 C.cl (hZ.q (hZ.2.1.pass hZ.1.1.1.1 (by omega))) (by omega) FC he
theorem c_drift {h : xH} {Z : xZ} {k : Nat} (HC : x_Class h Z) (hZ : x_ZB k Z) (hk : k + 50 ≤ 50000) (n : Int32) : x_Met m_X7_drift [.ref 2, .int n] h (x_KC h (z_drift Z n)) := by
  have hk0 := hk
  have hk : k ≤ 50000 := by omega
  have HC0 := HC
  obtain ⟨hb, db, E, Wd, nx, fw, lt, A, B, C⟩ := HC
  have HC := HC0
  obtain ⟨-, -, c0, -⟩ := id C
  refine x_Met.of (lo := [some (.ref 2), some (.int n), none, none]) (by decide) rfl rfl rfl ?_
  refine R_aload_n dX7_drift_0 rfl ?_
  refine R_iload_n dX7_drift_1 rfl ?_
  refine R_cV1p (N := m_X7_refusalOfHours) dX7_drift_2 l_X7_218 i_X7_refusalOfHours c0 (c_refusal (k := k) HC hZ hk n) rfl rfl ?_
  refine R_istore_n dX7_drift_5 (Nat.le_of_ble_eq_true rfl) rfl ?_
  refine R_iload_n dX7_drift_6 rfl ?_
  refine R_ifeq 12 dX7_drift_7 rfl (fun c_7 => ?_) (fun c_7 => ?_)
  · refine R_iconst (nI 0) dX7_drift_12 rfl ?_
    refine R_istore_n dX7_drift_13 (Nat.le_of_ble_eq_true rfl) rfl ?_
    obtain ⟨i, hi1, hi2, rfl⟩ := z_ref_in c_7
    rw [z_drift, if_pos c_7, i_n_nI (by omega)]
    exact c_drift_loop hi2 i 0 (by omega) Z k _ C.cl hZ (by omega) (x_fC.rf h) rfl
  · refine R_iload_n dX7_drift_10 rfl ?_
    exact R_iret dX7_drift_11 rfl rfl rfl (x_KC.ok C.cl (x_fC.rf _) (by rw [z_drift, if_neg c_7]))
