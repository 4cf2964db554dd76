/-! MANOR -/
theorem e_loop_WB {tx : Nat → Nat} {n : Nat} : ∀ (k : Nat) (E : xE) (W : xW), x_WB W → x_WB (e_loop tx n k E W).2
  | 0, E, W, h => h
  | k + 1, E, W, h => by
    rw [e_loop]
    split
    · exact e_loop_WB k _ _ h.clause
    · exact h
theorem x_WB0 (F : xF) : x_WB (0, 0, 0, 0, F) := ⟨⟨Nat.zero_le _, Nat.zero_le _, Nat.zero_le _, Nat.zero_le _⟩, fun d hd => absurd hd (Nat.not_lt_zero d), fun d hd => absurd hd (Nat.not_lt_zero d), fun d hd => absurd hd (Nat.not_lt_zero d), fun _ => ⟨rfl, rfl, rfl⟩⟩
theorem e_into_WB (tx : Nat → Nat) (n : Nat) (F : xF) : x_WB (e_into tx n F).2 := e_loop_WB 240 _ _ (x_WB0 F)
def z_man (Z : xZ) (F : xF) : xE × xW := e_into (z_X Z).2 (z_X Z).1 F
def x_manR (Z : xZ) (r : Int32) (Z' : xZ) : Prop := ∃ F : xF, (¬ (z_man Z F).1.1 = 0 ∧ r = (-10) - nI (z_man Z F).1.1 ∧ Z' = z_setf (z_setX Z (0, (z_X Z).2)) (z_man Z F).1.2.1) ∨
  ((z_man Z F).1.1 = 0 ∧ r = nI (z_man Z F).2.2.2.2.1 ∧ ∃ F' : xF, (∀ k, k < 10 → F' k = (z_man Z F).2.2.2.2.2 k) ∧ (∀ x y, x < (z_man Z F).2.2.1 → y < (z_man Z F).2.2.1 → F' (10 + x) y = s_wall (z_man Z F).2.2.1 (z_man Z F).2.2.2.1 (z_man Z F).2.2.2.2.2 x y ∧ F' (20 + x) y = s_way (z_man Z F).2.2.1 (z_man Z F).2.2.2.1 (z_man Z F).2.2.2.2.2 x y) ∧
    Z' = (((z_man Z F).2.1, (z_man Z F).2.2.1, (z_man Z F).2.2.2.1, (z_man Z F).2.2.2.2.1, F'), s_begin F', (0, (z_T Z).2), (fun _ => false, (z_I Z).2), z_s Z, (0, (z_X Z).2), (z_man Z F).1.2.1, (0, (z_S Z).2), (0, (z_B Z).2)))
def x_KM (h : xH) (Z : xZ) : Option Value → xH → Prop := x_ir (fun r h' => ∃ Z', x_manR Z r Z' ∧ x_Class h' Z' ∧ x_fC h h')
theorem s_dr_cong {F G : xF} {len : Nat → Nat} (h1 : F 1 = G 1) (h2 : F 2 = G 2) : ∀ j, s_dr F len j = s_dr G len j
  | 0 => rfl
  | j + 1 => by rw [s_dr, s_dr, s_dr_cong h1 h2 j, h1, h2]
theorem s_wall_cong {F G : xF} (h : ∀ k, k < 10 → F k = G k) (R D : Nat) : s_wall R D F = s_wall R D G ∧ s_way R D F = s_way R D G := by
  unfold s_wall s_way
  rw [s_dr_cong (h 1 (by decide)) (h 2 (by decide)), s_dr_cong (h 1 (by decide)) (h 2 (by decide)), h 3 (by decide)]
  exact ⟨rfl, rfl⟩
theorem x_manR.ZB {k : Nat} {Z Z' : xZ} {r : Int32} (h : x_manR Z r Z') (hZ : x_ZB k Z) : x_ZB k Z' := by
  obtain ⟨F, ⟨-, -, rfl⟩ | ⟨-, -, F', f1, f2, rfl⟩⟩ := h
  · obtain ⟨z1, z2, z3, z4, z5, z6, z7, z8⟩ := hZ
    exact ⟨z1, z2, z3, z4, z5, ⟨by show 0 ≤ 240; omega, fun i hi => absurd hi (Nat.not_lt_zero i)⟩, z7, z8⟩
  · have hW := e_into_WB (z_X Z).2 (z_X Z).1 F
    have hW : x_WB (z_man Z F).2 := hW
    generalize z_man Z F = EW at *
    obtain ⟨E, N, R, D, P, G⟩ := EW
    obtain ⟨⟨w1, w2, w3, w4⟩, w5, w6, w7, w8⟩ := hW
    have e1 := f1 1 (by decide)
    have e2 := f1 2 (by decide)
    have e3 := f1 3 (by decide)
    have e4 := f1 4 (by decide)
    have e5 := f1 5 (by decide)
    have e6 := f1 6 (by decide)
    have e0 := f1 0 (by decide)
    have hc := s_wall_cong f1 R D
    refine ⟨⟨⟨⟨w1, w2, w3, w4⟩, fun d hd => ?_, fun p hp => ?_, fun r hr => ?_, w8⟩, fun x y hx hy => ?_⟩, ⟨⟨Nat.zero_le _, ?_, Nat.zero_le _, Nat.zero_le _, fun r hr => ?_, fun p hp => ?_, fun _ _ => rfl, fun _ _ => Or.inl rfl, fun _ _ _ _ => Or.inl rfl⟩, Nat.zero_le _, Nat.zero_le _⟩, ⟨Nat.zero_le _, fun j hj => absurd hj (Nat.not_lt_zero j)⟩, fun i _ z => absurd z Bool.false_ne_true, hZ.2.2.2.2.1, ⟨Nat.zero_le _, fun i hi => absurd hi (Nat.not_lt_zero i)⟩, ⟨Nat.zero_le _, fun i hi => absurd hi (Nat.not_lt_zero i)⟩, ⟨Nat.zero_le _, fun i hi => absurd hi (Nat.not_lt_zero i)⟩⟩
    · show F' 1 d < R ∧ F' 2 d < R ∧ ¬ F' 1 d = F' 2 d ∧ F' 3 d ≤ 9
      rw [e1, e2, e3]; exact w5 d hd
    · show F' 4 p ≤ 4 ∧ 1 ≤ F' 5 p ∧ F' 5 p ≤ 20 ∧ F' 6 p < R
      rw [e4, e5, e6]; exact w6 p hp
    · show F' 0 r ≤ 20
      rw [e0]; exact w7 r hr
    · show F' (10 + x) y = s_wall R D F' x y ∧ F' (20 + x) y = s_way R D F' x y
      rw [hc.1, hc.2]; exact f2 x y hx hy
    · show 0 < N ∨ N = 0; omega
    · show F' 0 r ≤ 20
      rw [e0]; exact w7 r hr
    · show F' 6 p < R
      rw [e6]; exact (w6 p hp).2.2.2
theorem x_Text.len0 {h : xH} {n : Nat} {tx : Nat → Nat} {E : xE} (H : x_Text h 3 n tx E) : x_Text (h.set 3 (.inr (5, [.ref (3 + 1), .int (nI 0), .int (nI E.1), .int E.2.1, .int (nI E.2.2)]))) 3 0 tx E := by
  obtain ⟨a1, a2, a3, a4, a5, a6, f, a7, a8⟩ := H
  exact ⟨a1, by omega, a3, a4, fun i hi => absurd hi (Nat.not_lt_zero i), List.getElem?_set_self (List.getElem?_eq_some_iff.mp a6).1, f, (List.getElem?_set_ne (by omega)).trans a7, fun i hi => absurd hi (Nat.not_lt_zero i)⟩
/-- what a new manor changes -/
def x_fM (h g : xH) (db : Nat) : Prop := ∀ q, ¬ q = 2 → (q < db ∨ db + 22 ≤ q) → (q < 49 ∨ 59 ≤ q) → ¬ q = 332 → ¬ q = 348 → ¬ q = 351 → g[q]? = h[q]?
theorem x_fM.rf (h : xH) (db : Nat) : x_fM h h db := fun _ _ _ _ _ _ _ => rfl
theorem x_fM.trans {h g k : xH} {db : Nat} (a : x_fM h g db) (b : x_fM g k db) : x_fM h k db := fun q h1 h2 h3 h4 h5 h6 => (b q h1 h2 h3 h4 h5 h6).trans (a q h1 h2 h3 h4 h5 h6)
theorem x_fM.set {h g : xH} {db c : Nat} (a : x_fM h g db) (e : xC) (hc : c = 2 ∨ c = 332 ∨ c = 348 ∨ c = 351) : x_fM h (g.set c e) db := fun q h1 h2 h3 h4 h5 h6 => by rw [List.getElem?_set_ne (by omega)]; exact a q h1 h2 h3 h4 h5 h6
theorem x_CL.read {h h' : xH} {Z : xZ} {hb db : Nat} {E : xE} {Wd : xW} {nx : Nat} {fw lt : Int32} {A B : xA} (C : x_CL h Z hb db E Wd nx fw lt A B) {E2 : xE} {W2 : xW} (HT : x_Text h' 3 (z_X Z).1 (z_X Z).2 E2) (HD : x_HouseW h' db W2) (FR : x_f2 h h' 3 db) : x_CL h' Z hb db E2 W2 nx fw lt A B := by
  obtain ⟨c1, cx, c0, cT, cH, cD, cN, cR, cI, cP, cS, cB⟩ := id C
  exact ⟨(FR 1 (by omega) (by omega)).trans c1, cx, (FR 2 (by omega) (by omega)).trans c0, HT, cH.kept (fun q q1 q2 => FR q (by omega) (by omega)), HD, cN.kept (fun q q1 q2 => FR q (by omega) (by omega)), cR.kept (fun q q1 q2 => FR q (by omega) (by omega)), cI.kept (fun q q1 q2 => FR q (by omega) (by omega)), cP.kept (fun q q1 q2 => FR q (by omega) (by omega)), cS.kept (fun q q1 q2 => FR q (by omega) (by omega)), cB.kept (fun q q1 q2 => FR q (by omega) (by omega))⟩
theorem c_forget {h : xH} {hb db s : Nat} {fa : Int32} {f : Nat → Int32} (c0 : h[2]? = some (x_cob hb db s fa)) (i2 : h[332]? = some (.inl (2, 2, .inl f))) : x_Met m_X7_forgetImages [.ref 2] h (x_vd (fun h' => ∃ f' : Nat → Int32, h' = h.set 332 (.inl (2, 2, .inl f')) ∧ ∀ i, i < 2 → f' i = nI 0)) := by
  refine x_Met.of (lo := [some (.ref 2), none]) (by decide) rfl rfl rfl ?_
  refine R_iconst (nI 0) dX7_forgetImages_0 rfl ?_
  refine R_istore_n dX7_forgetImages_1 (Nat.le_of_ble_eq_true rfl) rfl ?_
  refine R_iload_n dX7_forgetImages_2 rfl ?_
  refine R_iconst (nI 2) dX7_forgetImages_3 rfl ?_
  refine R_geN 20 dX7_forgetImages_4 rfl (by omega) (by omega) (fun c_4 => ?_) (fun c_4 => ?_)
  · omega
  · skip
    refine R_aload_n dX7_forgetImages_7 rfl ?_
    refine R_get dX7_forgetImages_8 f_X7_48 c0 rfl ?_
    refine R_iload_n dX7_forgetImages_11 rfl ?_
    refine R_iconst (nI 0) dX7_forgetImages_12 rfl ?_
    refine R_zast dX7_forgetImages_13 i2 (Or.inl rfl) rfl (by omega) (by decide) ?_
    have c0b : (List.set h 332 (.inl (2, 2, .inl (upd f 0 (nI 0)))))[2]? = _ := (List.getElem?_set_ne (by omega)).trans c0
    have i2b : (List.set h 332 (.inl (2, 2, .inl (upd f 0 (nI 0)))))[332]? = _ := List.getElem?_set_self (List.getElem?_eq_some_iff.mp i2).1
    refine R_iincN dX7_forgetImages_14 rfl (Nat.le_of_ble_eq_true rfl) rfl ?_
    refine R_goto 2 dX7_forgetImages_17 rfl ?_
    refine R_iload_n dX7_forgetImages_2 rfl ?_
    refine R_iconst (nI 2) dX7_forgetImages_3 rfl ?_
    refine R_geN 20 dX7_forgetImages_4 rfl (by omega) (by omega) (fun c_4 => ?_) (fun c_4 => ?_)
    · omega
    · skip
      refine R_aload_n dX7_forgetImages_7 rfl ?_
      refine R_get dX7_forgetImages_8 f_X7_48 c0b rfl ?_
      refine R_iload_n dX7_forgetImages_11 rfl ?_
      refine R_iconst (nI 0) dX7_forgetImages_12 rfl ?_
      refine R_zast dX7_forgetImages_13 i2b (Or.inl rfl) rfl (by omega) (by decide) ?_
      skip
      refine R_iincN dX7_forgetImages_14 rfl (Nat.le_of_ble_eq_true rfl) rfl ?_
      refine R_goto 2 dX7_forgetImages_17 rfl ?_
      refine R_iload_n dX7_forgetImages_2 rfl ?_
      refine R_iconst (nI 2) dX7_forgetImages_3 rfl ?_
      refine R_geN 20 dX7_forgetImages_4 rfl (by omega) (by omega) (fun c_4 => ?_) (fun c_4 => ?_)
      · skip
        exact R_vret dX7_forgetImages_20 rfl rfl rfl ⟨rfl, upd (upd f 0 (nI 0)) 1 (nI 0), List.set_set _, fun i hi => by rcases (show i = 0 ∨ i = 1 by omega) with rfl | rfl <;> rfl⟩
      · omega
theorem c_manor {h : xH} {Z : xZ} {k : Nat} (HC : x_Class h Z) (hZ : x_ZB k Z) (hk : k ≤ 50000) : x_Met m_X7_manor [.ref 2] h (x_KM h Z) := by
  obtain ⟨hb, db, E, Wd, nx, fw, lt, A, B, C⟩ := HC
  have hd := C.hd
  obtain ⟨c1, cx, c0, cT, cH, cD, cN, cR, cI, cP, cS, cB⟩ := id C
  have hB : x_HB (z_N Z) (z_R Z) (z_D Z) (z_P Z) (z_F Z) := hZ.1.hb
  have hQ : x_QB (z_N Z) (z_R Z) (z_P Z) (z_Q Z) := hZ.2.1.1
  obtain ⟨⟨b1, b2, b3, b4⟩, b5, b6, b7⟩ := id hB
  obtain ⟨u1, u2, u3, u4, u5, u6, u7, u8, u9⟩ := id hQ
  obtain ⟨h2, g0, g1, g2, g3, g4, g5, g6, g7, g8, g9, g10, g11⟩ := id cH
  obtain ⟨h2n, n0, ⟨f1, n1, n1e⟩, n2, ⟨f3, n3, n3e⟩, n4, n5⟩ := id cN
  obtain ⟨-, hXn, hEk, hEa, htx, t0, -⟩ := id cT
  obtain ⟨⟨-, hTc, hTx, r0, r1⟩, -⟩ := id cR
  obtain ⟨-, hSn, s0, -⟩ := id cS
  obtain ⟨-, hBn, k0, -⟩ := id cB
  obtain ⟨-, p0, -⟩ := id cP
  obtain ⟨-, d0, -⟩ := id cD
  have FC := x_fC.rf h
  refine x_Met.of (lo := [some (.ref 2), none]) (by decide) rfl rfl rfl ?_
  refine R_aload_n dX7_manor_0 rfl ?_
  refine R_get dX7_manor_1 f_X7_10 c0 rfl ?_
  refine R_aload_n dX7_manor_4 rfl ?_
  refine R_get dX7_manor_5 f_X7_23 c0 rfl ?_
  refine R_cV1v (N := m_X5_readInto) dX7_manor_8 l_X7_89 i_X5_readInto t0 (c_Text_into cT cD (by omega)) rfl rfl (fun h8 q_8 => ?_)
  obtain ⟨HT1, HD1, FR2⟩ := q_8
  have HT1 : x_Text h8 3 (z_X Z).1 (z_X Z).2 (z_man Z Wd.2.2.2.2).1 := HT1
  have HD1 : x_HouseW h8 db (z_man Z Wd.2.2.2.2).2 := HD1
  have C := C.read HT1 HD1 FR2
  have FC : x_fC h h8 := fun q hq => FR2 q (by omega) (by omega)
  obtain ⟨c1, cx, c0, cT, cH, cD, cN, cR, cI, cP, cS, cB⟩ := id C
  have c0 : h8[2]? = some (x_cob hb db (z_s Z) (z_f Z)) := c0
  have cT : x_Text h8 3 (z_X Z).1 (z_X Z).2 _ := cT
  have cH : x_House h8 hb (z_N Z) (z_R Z) (z_D Z) (z_P Z) (z_F Z) := cH
  have cN : x_Night h8 49 (z_R Z) (z_P Z) (z_Q Z) := cN
  have cR : x_Ring h8 _ (z_R Z) (z_P Z) (z_T Z) := cR
  have cI : x_Imgs h8 (z_R Z) (z_P Z) (z_I Z) := cI
  have cS : x_Seen h8 348 (z_S Z).1 (z_S Z).2.1 (z_S Z).2.2 := cS
  have cB : x_Book h8 351 (z_B Z).1 (z_B Z).2.1 (z_B Z).2.2 := cB
  obtain ⟨h2, g0, g1, g2, g3, g4, g5, g6, g7, g8, g9, g10, g11⟩ := id cH
  obtain ⟨h2n, n0, ⟨f1, n1, n1e⟩, n2, ⟨f3, n3, n3e⟩, n4, n5⟩ := id cN
  obtain ⟨-, hXn, hEk, hEa, htx, t0, -⟩ := id cT
  obtain ⟨⟨-, hTc, hTx, r0, r1⟩, -⟩ := id cR
  obtain ⟨-, hSn, s0, -⟩ := id cS
  obtain ⟨-, hBn, k0, -⟩ := id cB
  obtain ⟨-, p0, -⟩ := id cP
  obtain ⟨-, d0, -⟩ := id cD
  refine R_aload_n dX7_manor_11 rfl ?_
  refine R_get dX7_manor_12 f_X7_10 c0 rfl ?_
  refine R_iconst (nI 0) dX7_manor_15 rfl ?_
  refine R_put dX7_manor_16 f_X7_85 t0 (Nat.le_of_ble_eq_true rfl) (fun _ => rfl) (fun _ => rfl) ?_
  simp only [List.set_cons_succ, List.set_cons_zero]
  have FR3 : x_fr h8 (List.set h8 3 (.inr (5, [.ref (3 + 1), .int (nI 0), .int (nI ((z_man Z Wd.2.2.2.2).1).1), .int ((z_man Z Wd.2.2.2.2).1).2.1, .int (nI ((z_man Z Wd.2.2.2.2).1).2.2)]))) 3 2 := (x_fr.rf h8 3 2).set _ (by omega) (by omega)
  have C := C.text (X := (0, (z_X Z).2)) cT.len0 FR3
  have FC := FC.fr FR3 (by omega) (by omega)
  obtain ⟨c1, cx, c0, cT, cH, cD, cN, cR, cI, cP, cS, cB⟩ := id C
  have c0 : (List.set h8 3 (.inr (5, [.ref (3 + 1), .int (nI 0), .int (nI ((z_man Z Wd.2.2.2.2).1).1), .int ((z_man Z Wd.2.2.2.2).1).2.1, .int (nI ((z_man Z Wd.2.2.2.2).1).2.2)])))[2]? = some (x_cob hb db (z_s Z) (z_f Z)) := c0
  have cT : x_Text (List.set h8 3 (.inr (5, [.ref (3 + 1), .int (nI 0), .int (nI ((z_man Z Wd.2.2.2.2).1).1), .int ((z_man Z Wd.2.2.2.2).1).2.1, .int (nI ((z_man Z Wd.2.2.2.2).1).2.2)]))) 3 (0, (z_X Z).2).1 (0, (z_X Z).2).2 _ := cT
  have cH : x_House (List.set h8 3 (.inr (5, [.ref (3 + 1), .int (nI 0), .int (nI ((z_man Z Wd.2.2.2.2).1).1), .int ((z_man Z Wd.2.2.2.2).1).2.1, .int (nI ((z_man Z Wd.2.2.2.2).1).2.2)]))) hb (z_N Z) (z_R Z) (z_D Z) (z_P Z) (z_F Z) := cH
  have cN : x_Night (List.set h8 3 (.inr (5, [.ref (3 + 1), .int (nI 0), .int (nI ((z_man Z Wd.2.2.2.2).1).1), .int ((z_man Z Wd.2.2.2.2).1).2.1, .int (nI ((z_man Z Wd.2.2.2.2).1).2.2)]))) 49 (z_R Z) (z_P Z) (z_Q Z) := cN
  have cR : x_Ring (List.set h8 3 (.inr (5, [.ref (3 + 1), .int (nI 0), .int (nI ((z_man Z Wd.2.2.2.2).1).1), .int ((z_man Z Wd.2.2.2.2).1).2.1, .int (nI ((z_man Z Wd.2.2.2.2).1).2.2)]))) _ (z_R Z) (z_P Z) (z_T Z) := cR
  have cI : x_Imgs (List.set h8 3 (.inr (5, [.ref (3 + 1), .int (nI 0), .int (nI ((z_man Z Wd.2.2.2.2).1).1), .int ((z_man Z Wd.2.2.2.2).1).2.1, .int (nI ((z_man Z Wd.2.2.2.2).1).2.2)]))) (z_R Z) (z_P Z) (z_I Z) := cI
  have cS : x_Seen (List.set h8 3 (.inr (5, [.ref (3 + 1), .int (nI 0), .int (nI ((z_man Z Wd.2.2.2.2).1).1), .int ((z_man Z Wd.2.2.2.2).1).2.1, .int (nI ((z_man Z Wd.2.2.2.2).1).2.2)]))) 348 (z_S Z).1 (z_S Z).2.1 (z_S Z).2.2 := cS
  have cB : x_Book (List.set h8 3 (.inr (5, [.ref (3 + 1), .int (nI 0), .int (nI ((z_man Z Wd.2.2.2.2).1).1), .int ((z_man Z Wd.2.2.2.2).1).2.1, .int (nI ((z_man Z Wd.2.2.2.2).1).2.2)]))) 351 (z_B Z).1 (z_B Z).2.1 (z_B Z).2.2 := cB
  obtain ⟨h2, g0, g1, g2, g3, g4, g5, g6, g7, g8, g9, g10, g11⟩ := id cH
  obtain ⟨h2n, n0, ⟨f1, n1, n1e⟩, n2, ⟨f3, n3, n3e⟩, n4, n5⟩ := id cN
  obtain ⟨-, hXn, hEk, hEa, htx, t0, -⟩ := id cT
  obtain ⟨⟨-, hTc, hTx, r0, r1⟩, -⟩ := id cR
  obtain ⟨-, hSn, s0, -⟩ := id cS
  obtain ⟨-, hBn, k0, -⟩ := id cB
  obtain ⟨-, p0, -⟩ := id cP
  obtain ⟨-, d0, -⟩ := id cD
  refine R_aload_n dX7_manor_19 rfl ?_
  refine R_aload_n dX7_manor_20 rfl ?_
  refine R_get dX7_manor_21 f_X7_10 c0 rfl ?_
  refine R_get dX7_manor_24 f_X7_93 t0 rfl ?_
  refine R_put dX7_manor_27 f_X7_77 c0 (Nat.le_of_ble_eq_true rfl) (fun _ => rfl) (fun _ => rfl) ?_
  simp only [List.set_cons_succ, List.set_cons_zero]
  have C := C.obj (z_s Z) ((z_man Z Wd.2.2.2.2).1).2.1
  have FC := FC.set (c := 2) (x_cob hb db (z_s Z) ((z_man Z Wd.2.2.2.2).1).2.1) (by omega) (by omega)
  generalize hh27 : (List.set (List.set h8 3 (.inr (5, [.ref (3 + 1), .int (nI 0), .int (nI ((z_man Z Wd.2.2.2.2).1).1), .int ((z_man Z Wd.2.2.2.2).1).2.1, .int (nI ((z_man Z Wd.2.2.2.2).1).2.2)]))) 2 (x_cob hb db (z_s Z) ((z_man Z Wd.2.2.2.2).1).2.1)) = h27 at C FC ⊢
  obtain ⟨c1, cx, c0, cT, cH, cD, cN, cR, cI, cP, cS, cB⟩ := id C
  have c0 : h27[2]? = some (x_cob hb db (z_s Z) ((z_man Z Wd.2.2.2.2).1).2.1) := c0
  have cT : x_Text h27 3 (0, (z_X Z).2).1 (0, (z_X Z).2).2 _ := cT
  have cH : x_House h27 hb (z_N Z) (z_R Z) (z_D Z) (z_P Z) (z_F Z) := cH
  have cN : x_Night h27 49 (z_R Z) (z_P Z) (z_Q Z) := cN
  have cR : x_Ring h27 _ (z_R Z) (z_P Z) (z_T Z) := cR
  have cI : x_Imgs h27 (z_R Z) (z_P Z) (z_I Z) := cI
  have cS : x_Seen h27 348 (z_S Z).1 (z_S Z).2.1 (z_S Z).2.2 := cS
  have cB : x_Book h27 351 (z_B Z).1 (z_B Z).2.1 (z_B Z).2.2 := cB
  obtain ⟨h2, g0, g1, g2, g3, g4, g5, g6, g7, g8, g9, g10, g11⟩ := id cH
  obtain ⟨h2n, n0, ⟨f1, n1, n1e⟩, n2, ⟨f3, n3, n3e⟩, n4, n5⟩ := id cN
  obtain ⟨-, hXn, hEk, hEa, htx, t0, -⟩ := id cT
  obtain ⟨⟨-, hTc, hTx, r0, r1⟩, -⟩ := id cR
  obtain ⟨-, hSn, s0, -⟩ := id cS
  obtain ⟨-, hBn, k0, -⟩ := id cB
  obtain ⟨-, p0, -⟩ := id cP
  obtain ⟨-, d0, -⟩ := id cD
  refine R_aload_n dX7_manor_30 rfl ?_
  refine R_get dX7_manor_31 f_X7_10 c0 rfl ?_
  refine R_get dX7_manor_34 f_X7_96 t0 rfl ?_
  refine R_ifeqN 51 dX7_manor_37 rfl (by omega) (fun c_37 => ?_) (fun c_37 => ?_)
  · refine R_aload_n dX7_manor_51 rfl ?_
    refine R_get dX7_manor_52 f_X7_19 c0 rfl ?_
    refine R_astore_n dX7_manor_55 (Nat.le_of_ble_eq_true rfl) rfl ?_
    refine R_aload_n dX7_manor_56 rfl ?_
    refine R_aload_n dX7_manor_57 rfl ?_
    refine R_get dX7_manor_58 f_X7_23 c0 rfl ?_
    refine R_put dX7_manor_61 f_X7_19 c0 (Nat.le_of_ble_eq_true rfl) (fun _ => rfl) (fun _ => rfl) ?_
    simp only [List.set_cons_succ, List.set_cons_zero]
    have hW : x_WB (z_man Z Wd.2.2.2.2).2 := e_into_WB _ _ _
    obtain ⟨⟨w1, w2, w3, w4⟩, w5, w6, w7, w8⟩ := id hW
    have FM := (x_fM.rf h27 db).set (c := 2) (.inr (7, [.ref 3, .ref db, .ref db, .ref 49, .ref 58, .ref 330, .ref 331, .ref 332, .ref 333, .ref 348, .ref 351, .int (nI (z_s Z)), .int ((z_man Z Wd.2.2.2.2).1).2.1])) (by omega)
    have c0 : (List.set h27 2 (.inr (7, [.ref 3, .ref db, .ref db, .ref 49, .ref 58, .ref 330, .ref 331, .ref 332, .ref 333, .ref 348, .ref 351, .int (nI (z_s Z)), .int ((z_man Z Wd.2.2.2.2).1).2.1])))[2]? = some (.inr (7, [.ref 3, .ref db, .ref db, .ref 49, .ref 58, .ref 330, .ref 331, .ref 332, .ref 333, .ref 348, .ref 351, .int (nI (z_s Z)), .int ((z_man Z Wd.2.2.2.2).1).2.1])) := List.getElem?_set_self (List.getElem?_eq_some_iff.mp c0).1
    refine R_aload_n dX7_manor_64 rfl ?_
    refine R_aload_n dX7_manor_65 rfl ?_
    refine R_put dX7_manor_66 f_X7_23 c0 (Nat.le_of_ble_eq_true rfl) (fun _ => rfl) (fun _ => rfl) ?_
    simp only [List.set_cons_succ, List.set_cons_zero]
    have FM := FM.set (c := 2) (x_cob db hb (z_s Z) ((z_man Z Wd.2.2.2.2).1).2.1) (by omega)
    have c0 : (List.set (List.set h27 2 (.inr (7, [.ref 3, .ref db, .ref db, .ref 49, .ref 58, .ref 330, .ref 331, .ref 332, .ref 333, .ref 348, .ref 351, .int (nI (z_s Z)), .int ((z_man Z Wd.2.2.2.2).1).2.1]))) 2 (x_cob db hb (z_s Z) ((z_man Z Wd.2.2.2.2).1).2.1))[2]? = some (x_cob db hb (z_s Z) ((z_man Z Wd.2.2.2.2).1).2.1) := List.getElem?_set_self (List.getElem?_eq_some_iff.mp c0).1
    have cD2 : x_House (List.set (List.set h27 2 (.inr (7, [.ref 3, .ref db, .ref db, .ref 49, .ref 58, .ref 330, .ref 331, .ref 332, .ref 333, .ref 348, .ref 351, .int (nI (z_s Z)), .int ((z_man Z Wd.2.2.2.2).1).2.1]))) 2 (x_cob db hb (z_s Z) ((z_man Z Wd.2.2.2.2).1).2.1)) db ((z_man Z Wd.2.2.2.2).2).1 ((z_man Z Wd.2.2.2.2).2).2.1 ((z_man Z Wd.2.2.2.2).2).2.2.1 ((z_man Z Wd.2.2.2.2).2).2.2.2.1 ((z_man Z Wd.2.2.2.2).2).2.2.2.2 := x_House.kept cD (fun q q1 q2 => by rw [List.getElem?_set_ne (by omega), List.getElem?_set_ne (by omega)])
    have d0 := cD2.2.1
    refine R_aload_n dX7_manor_69 rfl ?_
    refine R_get dX7_manor_70 f_X7_19 c0 rfl ?_
    refine R_cV0v (N := m_X1_measure) dX7_manor_73 l_X7_99 i_X1_measure d0 (c_House_measure (by omega) (by omega) w5 cD2) rfl rfl (fun h73 q_73 => ?_)
    obtain ⟨F2, cD2, m1, m2, FR4⟩ := q_73
    have FM : x_fM h27 h73 db := fun q q1 q2 q3 q4 q5 q6 => (FR4 q q2).trans (FM q q1 q2 q3 q4 q5 q6)
    have c0 : h73[2]? = some (x_cob db hb (z_s Z) ((z_man Z Wd.2.2.2.2).1).2.1) := (FR4 2 (by omega)).trans c0
    have cN2 : x_Night h73 49 (z_R Z) (z_P Z) (z_Q Z) := cN.kept (fun q q1 q2 => (FR4 q (by omega)).trans (by rw [List.getElem?_set_ne (by omega), List.getElem?_set_ne (by omega)]))
    have d0 := cD2.2.1
    have n0 := cN2.2.1
    have r0 : h73[58]? = _ := (FR4 58 (by omega)).trans ((show (List.set (List.set h27 2 (.inr (7, [.ref 3, .ref db, .ref db, .ref 49, .ref 58, .ref 330, .ref 331, .ref 332, .ref 333, .ref 348, .ref 351, .int (nI (z_s Z)), .int ((z_man Z Wd.2.2.2.2).1).2.1]))) 2 (x_cob db hb (z_s Z) ((z_man Z Wd.2.2.2.2).1).2.1))[58]? = h27[58]? by rw [List.getElem?_set_ne (by omega), List.getElem?_set_ne (by omega)]).trans r0)
    refine R_aload_n dX7_manor_76 rfl ?_
    refine R_get dX7_manor_77 f_X7_29 c0 rfl ?_
    refine R_aload_n dX7_manor_80 rfl ?_
    refine R_get dX7_manor_81 f_X7_19 c0 rfl ?_
    refine R_cV1v (N := m_X2_begin) dX7_manor_84 l_X7_102 i_X2_begin n0 (c_Night_begin cD2 cN2 (by omega) (by omega) (Or.inl (by omega))) rfl rfl (fun h84 q_84 => ?_)
    obtain ⟨cN3, FR5⟩ := q_84
    have FM : x_fM h27 h84 db := fun q q1 q2 q3 q4 q5 q6 => (FR5 q (by omega)).trans (FM q q1 q2 q3 q4 q5 q6)
    have c0 : h84[2]? = some (x_cob db hb (z_s Z) ((z_man Z Wd.2.2.2.2).1).2.1) := (FR5 2 (by omega)).trans c0
    have cD3 := cD2.kept (fun q q1 q2 => FR5 q (by omega))
    have r0 : h84[58]? = _ := (FR5 58 (by omega)).trans r0
    have cT3 : x_Trail h84 58 (z_T Z).1 nx := ⟨cR.1.1, cR.1.2.1, cR.1.2.2.1, r0, (FM 59 (by omega) (by omega) (by omega) (by omega) (by omega) (by omega)).trans cR.1.2.2.2.2⟩
    refine R_aload_n dX7_manor_87 rfl ?_
    refine R_get dX7_manor_88 f_X7_36 c0 rfl ?_
    refine R_cV0v (N := m_X6_clear) dX7_manor_91 l_X7_105 i_X6_clear r0 (c_Trail_clear cT3) rfl rfl (fun h91 q_91 => ?_)
    obtain ⟨cT4, FR6⟩ := q_91
    have FM : x_fM h27 h91 db := fun q q1 q2 q3 q4 q5 q6 => (FR6 q (by omega)).trans (FM q q1 q2 q3 q4 q5 q6)
    have c0 : h91[2]? = some (x_cob db hb (z_s Z) ((z_man Z Wd.2.2.2.2).1).2.1) := (FR6 2 (by omega)).trans c0
    have cD4 := cD3.kept (fun q q1 q2 => FR6 q (by omega))
    have cN4 := cN3.kept (fun q q1 q2 => FR6 q (by omega))
    obtain ⟨i0, ⟨fs1, i1, i1e⟩, ⟨fs2, i2, i2e⟩, i4, i5⟩ := id cI
    have k332 : h91[332]? = h27[332]? := (FR6 332 (by omega)).trans ((FR5 332 (by omega)).trans ((FR4 332 (by omega)).trans (by rw [List.getElem?_set_ne (by omega), List.getElem?_set_ne (by omega)])))
    have k348 : h91[348]? = h27[348]? := (FR6 348 (by omega)).trans ((FR5 348 (by omega)).trans ((FR4 348 (by omega)).trans (by rw [List.getElem?_set_ne (by omega), List.getElem?_set_ne (by omega)])))
    have k351 : h91[351]? = h27[351]? := (FR6 351 (by omega)).trans ((FR5 351 (by omega)).trans ((FR4 351 (by omega)).trans (by rw [List.getElem?_set_ne (by omega), List.getElem?_set_ne (by omega)])))
    refine R_aload_n dX7_manor_94 rfl ?_
    refine R_cV0v (N := m_X7_forgetImages) dX7_manor_95 l_X7_108 i_X7_forgetImages c0 (c_forget c0 (k332.trans i2)) rfl rfl (fun h95 q_95 => ?_)
    obtain ⟨f9, e9, e9z⟩ := q_95
    subst e9
    have FM := FM.set (c := 332) (.inl (2, 2, .inl f9)) (by omega)
    have c0 : (List.set h91 332 (.inl (2, 2, .inl f9)))[2]? = some (x_cob db hb (z_s Z) ((z_man Z Wd.2.2.2.2).1).2.1) := (List.getElem?_set_ne (by omega)).trans c0
    have s0 : (List.set h91 332 (.inl (2, 2, .inl f9)))[348]? = _ := (List.getElem?_set_ne (by omega)).trans (k348.trans s0)
    refine R_aload_n dX7_manor_98 rfl ?_
    refine R_get dX7_manor_99 f_X7_62 c0 rfl ?_
    refine R_iconst (nI 0) dX7_manor_102 rfl ?_
    refine R_put dX7_manor_103 f_X7_111 s0 (Nat.le_of_ble_eq_true rfl) (fun _ => rfl) (fun _ => rfl) ?_
    simp only [List.set_cons_succ, List.set_cons_zero]
    have FM := FM.set (c := 348) (.inr (4, [.int (nI 0), .ref (348 + 1), .ref (348 + 2)])) (by omega)
    have c0 : (List.set (List.set h91 332 (.inl (2, 2, .inl f9))) 348 (.inr (4, [.int (nI 0), .ref (348 + 1), .ref (348 + 2)])))[2]? = some (x_cob db hb (z_s Z) ((z_man Z Wd.2.2.2.2).1).2.1) := (List.getElem?_set_ne (by omega)).trans c0
    have k0 : (List.set (List.set h91 332 (.inl (2, 2, .inl f9))) 348 (.inr (4, [.int (nI 0), .ref (348 + 1), .ref (348 + 2)])))[351]? = _ := (List.getElem?_set_ne (by omega)).trans ((List.getElem?_set_ne (by omega)).trans (k351.trans k0))
    refine R_aload_n dX7_manor_106 rfl ?_
    refine R_get dX7_manor_107 f_X7_69 c0 rfl ?_
    refine R_iconst (nI 0) dX7_manor_110 rfl ?_
    refine R_put dX7_manor_111 f_X7_114 k0 (Nat.le_of_ble_eq_true rfl) (fun _ => rfl) (fun _ => rfl) ?_
    simp only [List.set_cons_succ, List.set_cons_zero]
    have FM := FM.set (c := 351) (.inr (0, [.int (nI 0), .ref (351 + 1), .ref (351 + 2)])) (by omega)
    have c0 : (List.set (List.set (List.set h91 332 (.inl (2, 2, .inl f9))) 348 (.inr (4, [.int (nI 0), .ref (348 + 1), .ref (348 + 2)]))) 351 (.inr (0, [.int (nI 0), .ref (351 + 1), .ref (351 + 2)])))[2]? = some (x_cob db hb (z_s Z) ((z_man Z Wd.2.2.2.2).1).2.1) := (List.getElem?_set_ne (by omega)).trans c0
    have KP : ∀ q, ¬ q = 332 → ¬ q = 348 → ¬ q = 351 → (List.set (List.set (List.set h91 332 (.inl (2, 2, .inl f9))) 348 (.inr (4, [.int (nI 0), .ref (348 + 1), .ref (348 + 2)]))) 351 (.inr (0, [.int (nI 0), .ref (351 + 1), .ref (351 + 2)])))[q]? = h91[q]? := fun q q1 q2 q3 => by rw [List.getElem?_set_ne (fun z => q3 z.symm), List.getElem?_set_ne (fun z => q2 z.symm), List.getElem?_set_ne (fun z => q1 z.symm)]
    have l332 := (List.getElem?_eq_some_iff.mp (k332.trans i2)).1
    have l348 := (List.getElem?_eq_some_iff.mp (k348.trans cS.2.2.1)).1
    have l351 := (List.getElem?_eq_some_iff.mp (k351.trans cB.2.2.1)).1
    have cD5 := cD4.kept (fun q q1 q2 => KP q (by omega) (by omega) (by omega))
    have cN5 := cN4.kept (fun q q1 q2 => KP q (by omega) (by omega) (by omega))
    have d0 := cD5.2.1
    have e332 : (List.set (List.set (List.set h91 332 (.inl (2, 2, .inl f9))) 348 (.inr (4, [.int (nI 0), .ref (348 + 1), .ref (348 + 2)]))) 351 (.inr (0, [.int (nI 0), .ref (351 + 1), .ref (351 + 2)])))[332]? = some (.inl (2, 2, .inl f9)) := by rw [List.getElem?_set_ne (by omega), List.getElem?_set_ne (by omega)]; exact List.getElem?_set_self l332
    have e348 : (List.set (List.set (List.set h91 332 (.inl (2, 2, .inl f9))) 348 (.inr (4, [.int (nI 0), .ref (348 + 1), .ref (348 + 2)]))) 351 (.inr (0, [.int (nI 0), .ref (351 + 1), .ref (351 + 2)])))[348]? = some (.inr (4, [.int (nI 0), .ref (348 + 1), .ref (348 + 2)])) := by rw [List.getElem?_set_ne (by omega)]; exact List.getElem?_set_self (by rw [List.length_set]; exact l348)
    have e351 : (List.set (List.set (List.set h91 332 (.inl (2, 2, .inl f9))) 348 (.inr (4, [.int (nI 0), .ref (348 + 1), .ref (348 + 2)]))) 351 (.inr (0, [.int (nI 0), .ref (351 + 1), .ref (351 + 2)])))[351]? = some (.inr (0, [.int (nI 0), .ref (351 + 1), .ref (351 + 2)])) := List.getElem?_set_self (by rw [List.length_set, List.length_set]; exact l351)
    have FM2 : ∀ q, ¬ q = 2 → (q < db ∨ db + 22 ≤ q) → (q < 49 ∨ 59 ≤ q) → ¬ q = 332 → ¬ q = 348 → ¬ q = 351 → (List.set (List.set (List.set h91 332 (.inl (2, 2, .inl f9))) 348 (.inr (4, [.int (nI 0), .ref (348 + 1), .ref (348 + 2)]))) 351 (.inr (0, [.int (nI 0), .ref (351 + 1), .ref (351 + 2)])))[q]? = h27[q]? := FM
    obtain ⟨a1, a2, a3, ⟨fa4, a4, a5⟩, ga6, a6, a7⟩ := id cS
    obtain ⟨y1, y2, y3, ⟨fy4, y4, y5⟩, gy6, y6, y7⟩ := id cB
    have CC : x_CL (List.set (List.set (List.set h91 332 (.inl (2, 2, .inl f9))) 348 (.inr (4, [.int (nI 0), .ref (348 + 1), .ref (348 + 2)]))) 351 (.inr (0, [.int (nI 0), .ref (351 + 1), .ref (351 + 2)]))) (((z_man Z Wd.2.2.2.2).2.1, (z_man Z Wd.2.2.2.2).2.2.1, (z_man Z Wd.2.2.2.2).2.2.2.1, (z_man Z Wd.2.2.2.2).2.2.2.2.1, F2), s_begin F2, (0, (z_T Z).2), (fun _ => false, (z_I Z).2), z_s Z, (0, (z_X Z).2), ((z_man Z Wd.2.2.2.2).1).2.1, (0, (z_S Z).2), (0, (z_B Z).2)) db hb (z_man Z Wd.2.2.2.2).1 Z.1 0 fw lt A B := by
      refine ⟨(FM2 1 (by omega) (by omega) (by omega) (by omega) (by omega) (by omega)).trans c1, by omega, c0, cT.kept (FM2 3 (by omega) (by omega) (by omega) (by omega) (by omega) (by omega)) (FM2 4 (by omega) (by omega) (by omega) (by omega) (by omega) (by omega)), cD5, x_House.kept cH (fun q q1 q2 => FM2 q (by omega) (by omega) (by omega) (by omega) (by omega) (by omega)), cN5, ?_, ?_, cP.kept (fun q q1 q2 => FM2 q (by omega) (by omega) (by omega) (by omega) (by omega) (by omega)), ?_, ?_⟩
      · exact ⟨cT4.kept (KP 58 (by omega) (by omega) (by omega)) (KP 59 (by omega) (by omega) (by omega)), fun i hi => (cR.2.1 i hi).imp (fun Q0 z => z.kept (fun q q1 q2 => FM2 q (by omega) (by omega) (by omega) (by omega) (by omega) (by omega))), fun j hj => absurd hj (Nat.not_lt_zero j)⟩
      · exact ⟨(FM2 330 (by omega) (by omega) (by omega) (by omega) (by omega) (by omega)).trans i0, ⟨fs1, (FM2 331 (by omega) (by omega) (by omega) (by omega) (by omega) (by omega)).trans i1, fun i hi z => absurd z Bool.false_ne_true⟩, ⟨f9, e332, e9z⟩, fun i hi => (i4 i hi).imp (fun Q0 z => z.kept (fun q q1 q2 => FM2 q (by omega) (by omega) (by omega) (by omega) (by omega) (by omega))), fun i hi z => absurd z Bool.false_ne_true⟩
      · exact ⟨a1, Nat.zero_le _, e348, ⟨fa4, (FM2 349 (by omega) (by omega) (by omega) (by omega) (by omega) (by omega)).trans a4, fun i hi => absurd hi (Nat.not_lt_zero i)⟩, ga6, (FM2 350 (by omega) (by omega) (by omega) (by omega) (by omega) (by omega)).trans a6, fun i hi => absurd hi (Nat.not_lt_zero i)⟩
      · exact ⟨y1, Nat.zero_le _, e351, ⟨fy4, (FM2 352 (by omega) (by omega) (by omega) (by omega) (by omega) (by omega)).trans y4, fun i hi => absurd hi (Nat.not_lt_zero i)⟩, gy6, (FM2 353 (by omega) (by omega) (by omega) (by omega) (by omega) (by omega)).trans y6, fun i hi => absurd hi (Nat.not_lt_zero i)⟩
    refine R_aload_n dX7_manor_114 rfl ?_
    refine R_get dX7_manor_115 f_X7_19 c0 rfl ?_
    refine R_get dX7_manor_118 f_X7_115 d0 rfl ?_
    exact R_iret dX7_manor_121 rfl rfl rfl ⟨_, rfl, _, ⟨Wd.2.2.2.2, Or.inr ⟨c_37, rfl, F2, m1, m2, rfl⟩⟩, CC.cl, fun q hq => (FM2 q (by omega) (by omega) (by omega) (by omega) (by omega) (by omega)).trans (FC q hq)⟩
  · refine R_bipush (-10) dX7_manor_40 rfl ?_
    refine R_aload_n dX7_manor_42 rfl ?_
    refine R_get dX7_manor_43 f_X7_10 c0 rfl ?_
    refine R_get dX7_manor_46 f_X7_96 t0 rfl ?_
    refine R_isub dX7_manor_49 ?_
    exact R_iret dX7_manor_50 rfl rfl rfl ⟨_, rfl, _, ⟨Wd.2.2.2.2, Or.inl ⟨c_37, rfl, rfl⟩⟩, C.cl, FC⟩
