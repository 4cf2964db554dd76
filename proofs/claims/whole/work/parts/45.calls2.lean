/-! THE CLASS's calls that change, 2 -/
theorem x_Seen.zero {h : xH} {b n : Nat} {rm : Nat → Nat} {hd : Nat → Bool} (H : x_Seen h b n rm hd) : x_Seen (h.set b (.inr (4, [.int (nI 0), .ref (b + 1), .ref (b + 2)]))) b 0 rm hd := by
  obtain ⟨a1, a2, a3, ⟨f, a4, a5⟩, g, a6, a7⟩ := H
  exact ⟨a1, by omega, List.getElem?_set_self (List.getElem?_eq_some_iff.mp a3).1, ⟨f, (List.getElem?_set_ne (by omega)).trans a4, fun i hi => absurd hi (Nat.not_lt_zero i)⟩, g, (List.getElem?_set_ne (by omega)).trans a6, fun i hi => absurd hi (Nat.not_lt_zero i)⟩
theorem x_Book.zero {h : xH} {b n : Nat} {rm : Nat → Nat} {hp : Nat → Int32} (H : x_Book h b n rm hp) : x_Book (h.set b (.inr (0, [.int (nI 0), .ref (b + 1), .ref (b + 2)]))) b 0 rm hp := by
  obtain ⟨a1, a2, a3, ⟨f, a4, a5⟩, g, a6, a7⟩ := H
  exact ⟨a1, by omega, List.getElem?_set_self (List.getElem?_eq_some_iff.mp a3).1, ⟨f, (List.getElem?_set_ne (by omega)).trans a4, fun i hi => absurd hi (Nat.not_lt_zero i)⟩, g, (List.getElem?_set_ne (by omega)).trans a6, fun i hi => absurd hi (Nat.not_lt_zero i)⟩
theorem x_nneg {v : Int32} (h : ¬ v < 0) : v = nI (i_n v) ∧ i_n v < 2 ^ 31 := by
  have h1 : 0 ≤ v.toInt := by
    have := (not_congr Int32.lt_iff_toInt_lt).mp h
    have e : (0 : Int32).toInt = 0 := by decide
    omega
  have h2 := Int32.toInt_lt v
  have h3 : i_n v < 2 ^ 31 := by unfold i_n; omega
  refine ⟨?_, h3⟩
  apply Int32.toInt_inj.mp
  rw [nI_toInt h3]
  unfold i_n
  omega
theorem x_Imgs.keep {h g : xH} {R P j s : Nat} {I : xIm} {Q : xQ} {f1 f2 : Nat → Int32} (H : x_Imgs h R P I) (hj : j < 2) (HM : x_Night g (354 + 9 * j) R P Q) (FR : x_fr h g (354 + 9 * j) 9) (e1 : g[331]? = some (x_ia 2 f1)) (e2 : g[332]? = some (.inl (2, 2, .inl f2))) (a3 : ∀ i, i < 2 → I.1 i = true → f1 i = nI (I.2.2 i)) (a5 : ∀ i, i < 2 → f2 i = x_b (I.1 i)) : x_Imgs ((g.set 331 (x_ia 2 (upd f1 j (nI s)))).set 332 (.inl (2, 2, .inl (upd f2 j (nI 1))))) R P (fun x => if x = j then true else I.1 x, fun x => if x = j then Q else I.2.1 x, fun x => if x = j then s else I.2.2 x) := by
  obtain ⟨a1, -, -, a6, a7⟩ := H
  have l1 := (List.getElem?_eq_some_iff.mp e1).1
  have l2 := (List.getElem?_eq_some_iff.mp e2).1
  have K : ∀ q, ¬ q = 331 → ¬ q = 332 → ((g.set 331 (x_ia 2 (upd f1 j (nI s)))).set 332 (.inl (2, 2, .inl (upd f2 j (nI 1)))))[q]? = g[q]? := fun q q1 q2 => by rw [List.getElem?_set_ne (fun z => q2 z.symm), List.getElem?_set_ne (fun z => q1 z.symm)]
  refine ⟨?_, ⟨_, by rw [List.getElem?_set_ne (by omega)]; exact List.getElem?_set_self l1, fun i hi ht => ?_⟩, ⟨_, List.getElem?_set_self (by rw [List.length_set]; exact l2), fun i hi => ?_⟩, fun i hi => ?_, fun i hi ht => ?_⟩
  · rw [K _ (by omega) (by omega), FR _ (by omega)]; exact a1
  · show upd f1 j (nI s) i = nI (if i = j then s else I.2.2 i)
    by_cases e : i = j
    · subst e; simp [upd]
    · have ht : (if i = j then true else I.1 i) = true := ht
      rw [if_neg e] at ht ⊢; simp [upd, e]; exact a3 i hi ht
  · show upd f2 j (nI 1) i = x_b (if i = j then true else I.1 i)
    by_cases e : i = j
    · subst e; simp [upd]; rfl
    · rw [if_neg e]; simp [upd, e]; exact a5 i hi
  · by_cases e : i = j
    · subst e; exact ⟨Q, (HM.less).kept (fun q q1 q2 => K q (by omega) (by omega))⟩
    · exact (a6 i hi).imp (fun Q0 z => z.kept (fun q q1 q2 => (K q (by omega) (by omega)).trans (FR q (by omega))))
  · have ht : (if i = j then true else I.1 i) = true := ht
    show x_Night _ _ R P (if i = j then Q else I.2.1 i)
    by_cases e : i = j
    · subst e; rw [if_pos rfl]; exact HM.kept (fun q q1 q2 => K q (by omega) (by omega))
    · rw [if_neg e] at ht ⊢; exact (a7 i hi ht).kept (fun q q1 q2 => (K q (by omega) (by omega)).trans (FR q (by omega)))
theorem c_tear {h : xH} {Z : xZ} {k : Nat} (HC : x_Class h Z) (hZ : x_ZB k Z) (hk : k ≤ 50000) : x_Met m_X7_tear [.ref 2] h (x_KC h (z_tear Z)) := by
  obtain ⟨hb, db, E, Wd, nx, fw, lt, A, B, C⟩ := HC
  have hd := C.hd
  obtain ⟨c1, cx, c0, cT, cH, cD, cN, cR, cI, cP, cS, cB⟩ := id C
  have hB : x_HB (z_N Z) (z_R Z) (z_D Z) (z_P Z) (z_F Z) := hZ.1.hb
  have hQ : x_QB (z_N Z) (z_R Z) (z_P Z) (z_Q Z) := hZ.2.1.1
  obtain ⟨⟨b1, b2, b3, b4⟩, b5, b6, b7⟩ := id hB
  obtain ⟨u1, u2, u3, u4, u5, u6, u7, u8, u9⟩ := id hQ
  obtain ⟨h2, g0, g1, g2, g3, g4, g5, g6, g7, g8, g9, g10, g11⟩ := id cH
  obtain ⟨h2n, n0, ⟨f1, n1, n1e⟩, n2, ⟨f3, n3, n3e⟩, n4, n5⟩ := id cN
  obtain ⟨-, hXn, hEk, hEa, htx, t0, -⟩ := id cT
  obtain ⟨⟨-, hTc, hTx, r0, r1⟩, -⟩ := id cR
  obtain ⟨-, hSn, s0, -⟩ := id cS
  obtain ⟨-, hBn, k0, -⟩ := id cB
  obtain ⟨-, p0, -⟩ := id cP
  obtain ⟨-, d0, -⟩ := id cD
  have FC := x_fC.rf h
  obtain ⟨Q0, HG0⟩ := cR.2.1 nx hTx
  refine x_Met.of (lo := [some (.ref 2), none]) (by decide) rfl rfl rfl ?_
  refine R_aload_n dX7_tear_0 rfl ?_
  refine R_get dX7_tear_1 f_X7_62 c0 rfl ?_
  refine R_get dX7_tear_4 f_X7_111 s0 rfl ?_
  refine R_aload_n dX7_tear_7 rfl ?_
  refine R_get dX7_tear_8 f_X7_69 c0 rfl ?_
  refine R_get dX7_tear_11 f_X7_114 k0 rfl ?_
  refine R_iaddN dX7_tear_14 ?_
  refine R_istore_n dX7_tear_15 (Nat.le_of_ble_eq_true rfl) rfl ?_
  refine R_aload_n dX7_tear_16 rfl ?_
  refine R_get dX7_tear_17 f_X7_62 c0 rfl ?_
  refine R_iconst (nI 0) dX7_tear_20 rfl ?_
  refine R_put dX7_tear_21 f_X7_111 s0 (Nat.le_of_ble_eq_true rfl) (fun _ => rfl) (fun _ => rfl) ?_
  simp only [List.set_cons_succ, List.set_cons_zero]
  have FR2 : x_fr h (List.set h 348 (.inr (4, [.int (nI 0), .ref (348 + 1), .ref (348 + 2)]))) 348 3 := (x_fr.rf h 348 3).set _ (by omega) (by omega)
  have C := C.seen (S := (0, (z_S Z).2)) cS.zero FR2
  have FC := FC.fr FR2 (by omega) (by omega)
  obtain ⟨c1, cx, c0, cT, cH, cD, cN, cR, cI, cP, cS, cB⟩ := id C
  have c0 : (List.set h 348 (.inr (4, [.int (nI 0), .ref (348 + 1), .ref (348 + 2)])))[2]? = some (x_cob hb db (z_s Z) (z_f Z)) := c0
  have cT : x_Text (List.set h 348 (.inr (4, [.int (nI 0), .ref (348 + 1), .ref (348 + 2)]))) 3 (z_X Z).1 (z_X Z).2 _ := cT
  have cH : x_House (List.set h 348 (.inr (4, [.int (nI 0), .ref (348 + 1), .ref (348 + 2)]))) hb (z_N Z) (z_R Z) (z_D Z) (z_P Z) (z_F Z) := cH
  have cN : x_Night (List.set h 348 (.inr (4, [.int (nI 0), .ref (348 + 1), .ref (348 + 2)]))) 49 (z_R Z) (z_P Z) (z_Q Z) := cN
  have cR : x_Ring (List.set h 348 (.inr (4, [.int (nI 0), .ref (348 + 1), .ref (348 + 2)]))) _ (z_R Z) (z_P Z) (z_T Z) := cR
  have cI : x_Imgs (List.set h 348 (.inr (4, [.int (nI 0), .ref (348 + 1), .ref (348 + 2)]))) (z_R Z) (z_P Z) (z_I Z) := cI
  have cS : x_Seen (List.set h 348 (.inr (4, [.int (nI 0), .ref (348 + 1), .ref (348 + 2)]))) 348 (0, (z_S Z).2).1 (0, (z_S Z).2).2.1 (0, (z_S Z).2).2.2 := cS
  have cB : x_Book (List.set h 348 (.inr (4, [.int (nI 0), .ref (348 + 1), .ref (348 + 2)]))) 351 (z_B Z).1 (z_B Z).2.1 (z_B Z).2.2 := cB
  obtain ⟨h2, g0, g1, g2, g3, g4, g5, g6, g7, g8, g9, g10, g11⟩ := id cH
  obtain ⟨h2n, n0, ⟨f1, n1, n1e⟩, n2, ⟨f3, n3, n3e⟩, n4, n5⟩ := id cN
  obtain ⟨-, hXn, hEk, hEa, htx, t0, -⟩ := id cT
  obtain ⟨⟨-, hTc, hTx, r0, r1⟩, -⟩ := id cR
  obtain ⟨-, hSn, s0, -⟩ := id cS
  obtain ⟨-, hBn, k0, -⟩ := id cB
  obtain ⟨-, p0, -⟩ := id cP
  obtain ⟨-, d0, -⟩ := id cD
  refine R_aload_n dX7_tear_24 rfl ?_
  refine R_get dX7_tear_25 f_X7_69 c0 rfl ?_
  refine R_iconst (nI 0) dX7_tear_28 rfl ?_
  refine R_put dX7_tear_29 f_X7_114 k0 (Nat.le_of_ble_eq_true rfl) (fun _ => rfl) (fun _ => rfl) ?_
  simp only [List.set_cons_succ, List.set_cons_zero]
  have C := C.book (T := (0, (z_B Z).2)) cB.zero ((x_fr.rf _ 351 3).set _ (by omega) (by omega))
  have FC := FC.set (c := 351) (.inr (0, [.int (nI 0), .ref (351 + 1), .ref (351 + 2)])) (by omega) (by omega)
  refine R_iload_n dX7_tear_32 rfl ?_
  exact R_iret dX7_tear_33 rfl rfl rfl (x_KC.ok C.cl FC (by rfl))
theorem c_seed {h : xH} {Z : xZ} {k : Nat} (HC : x_Class h Z) (hZ : x_ZB k Z) (hk : k ≤ 50000) (v : Int32) : x_Met m_X7_seed [.ref 2, .int v] h (x_KC h (z_seed Z v)) := by
  obtain ⟨hb, db, E, Wd, nx, fw, lt, A, B, C⟩ := HC
  have hd := C.hd
  obtain ⟨c1, cx, c0, cT, cH, cD, cN, cR, cI, cP, cS, cB⟩ := id C
  have hB : x_HB (z_N Z) (z_R Z) (z_D Z) (z_P Z) (z_F Z) := hZ.1.hb
  have hQ : x_QB (z_N Z) (z_R Z) (z_P Z) (z_Q Z) := hZ.2.1.1
  obtain ⟨⟨b1, b2, b3, b4⟩, b5, b6, b7⟩ := id hB
  obtain ⟨u1, u2, u3, u4, u5, u6, u7, u8, u9⟩ := id hQ
  obtain ⟨h2, g0, g1, g2, g3, g4, g5, g6, g7, g8, g9, g10, g11⟩ := id cH
  obtain ⟨h2n, n0, ⟨f1, n1, n1e⟩, n2, ⟨f3, n3, n3e⟩, n4, n5⟩ := id cN
  obtain ⟨-, hXn, hEk, hEa, htx, t0, -⟩ := id cT
  obtain ⟨⟨-, hTc, hTx, r0, r1⟩, -⟩ := id cR
  obtain ⟨-, hSn, s0, -⟩ := id cS
  obtain ⟨-, hBn, k0, -⟩ := id cB
  obtain ⟨-, p0, -⟩ := id cP
  obtain ⟨-, d0, -⟩ := id cD
  have FC := x_fC.rf h
  obtain ⟨Q0, HG0⟩ := cR.2.1 nx hTx
  refine x_Met.of (lo := [some (.ref 2), some (.int v), none]) (by decide) rfl rfl rfl ?_
  refine R_iload_n dX7_seed_0 rfl ?_
  refine R_ifge 7 dX7_seed_1 rfl (fun c_1 => ?_) (fun c_1 => ?_)
  · refine R_aload_n dX7_seed_7 rfl ?_
    refine R_get dX7_seed_8 f_X7_73 c0 rfl ?_
    refine R_istore_n dX7_seed_11 (Nat.le_of_ble_eq_true rfl) rfl ?_
    refine R_aload_n dX7_seed_12 rfl ?_
    refine R_iload_n dX7_seed_13 rfl ?_
    refine R_put dX7_seed_14 f_X7_73 c0 (Nat.le_of_ble_eq_true rfl) (fun _ => rfl) (fun _ => rfl) ?_
    simp only [List.set_cons_succ, List.set_cons_zero]
    have c_1 : ¬ v < 0 := Int32.not_lt.mpr c_1
    obtain ⟨ev, hv⟩ := x_nneg c_1
    have C := C.obj (i_n v) (z_f Z)
    have FC := FC.set (c := 2) (x_cob hb db (i_n v) (z_f Z)) (by omega) (by omega)
    have ec : x_cob hb db (i_n v) (z_f Z) = .inr (7, [.ref 3, .ref hb, .ref db, .ref 49, .ref 58, .ref 330, .ref 331, .ref 332, .ref 333, .ref 348, .ref 351, .int v, .int (z_f Z)]) := by unfold x_cob; rw [← ev]
    rw [ec] at C FC
    refine R_iload_n dX7_seed_17 rfl ?_
    exact R_iret dX7_seed_18 rfl rfl rfl (x_KC.ok C.cl FC (by rw [z_seed, if_neg c_1]))
  · refine R_ldc (-1000000002) dX7_seed_4 k_X7_80 ?_
    exact R_iret dX7_seed_6 rfl rfl rfl (x_KC.ok C.cl (x_fC.rf _) (by rw [z_seed, if_pos (Int32.not_le.mp c_1)]))
theorem c_quiet_loop {h : xH} {n : Nat} (hn : n ≤ 60) (q : Int32) : ∀ (m i : Nat), i ≤ n → n + 1 ≤ i + m → x_Rn m_X7_quiet 30 [some (.ref 2), some (.int (nI n)), some (.int q), some (.long (z_qt q i)), none, some (.int (nI i))] [] h (0, 0) (x_pr (z_qt q n).toInt32 h) := by
  intro m
  induction m with
  | zero => intro i h1 h3; omega
  | succ m ih =>
    intro i h1 h3
    refine R_iload dX7_quiet_30 rfl ?_
    refine R_iload_n dX7_quiet_32 rfl ?_
    refine R_geN 51 dX7_quiet_33 rfl (by omega) (by omega) (fun c_33 => ?_) (fun c_33 => ?_)
    · have e : i = n := by omega
      subst e
      refine R_lload_n dX7_quiet_51 rfl ?_
      refine R_l2i dX7_quiet_52 ?_
      exact R_iret dX7_quiet_53 rfl rfl rfl (x_pr.eq rfl)
    · refine R_lload_n dX7_quiet_36 rfl ?_
      refine R_iload_n dX7_quiet_37 rfl ?_
      refine R_i2l dX7_quiet_38 ?_
      refine R_lmul dX7_quiet_39 ?_
      refine R_ldc2 (100) dX7_quiet_40 k_X7_277 ?_
      refine R_ldiv dX7_quiet_43 (by decide) ?_
      refine R_lstore_n dX7_quiet_44 (Nat.le_of_ble_eq_true rfl) rfl ?_
      refine R_iincN dX7_quiet_45 rfl (Nat.le_of_ble_eq_true rfl) rfl ?_
      refine R_goto 30 dX7_quiet_48 rfl ?_
      exact ih (i + 1) (by omega) (by omega)
theorem x_has_gt {x : Int32} {n : Nat} (hn : n < 2 ^ 31) (h : nI (n - 1) < x) : x_has x n = false := by
  refine decide_eq_false (fun z => z.2 ?_)
  rw [Int32.lt_iff_toInt_lt, nI_toInt (by omega)] at h
  rw [Int32.le_iff_toInt_le, nI_toInt hn]
  omega
theorem c_quiet {h : xH} (n q : Int32) : x_Met m_X7_quiet [.ref 2, .int n, .int q] h (x_pr (z_quiet n q) h) := by
  refine x_Met.of (lo := [some (.ref 2), some (.int n), some (.int q), none, none, none]) (by decide) rfl rfl rfl ?_
  refine R_iload_n dX7_quiet_0 rfl ?_
  refine R_iflt 20 dX7_quiet_1 rfl (fun c_1 => ?_) (fun c_1 => ?_)
  · refine R_ldc (-1000000002) dX7_quiet_20 k_X7_80 ?_
    exact R_iret dX7_quiet_22 rfl rfl rfl (x_pr.eq (by rw [z_quiet, show x_has n 61 = false from decide_eq_false (fun z => z.1 c_1)]; rfl))
  · refine R_iload_n dX7_quiet_4 rfl ?_
    refine R_bipush (nI 60) dX7_quiet_5 rfl ?_
    refine R_icmpgt 20 dX7_quiet_7 rfl (fun c_7 => ?_) (fun c_7 => ?_)
    · refine R_ldc (-1000000002) dX7_quiet_20 k_X7_80 ?_
      exact R_iret dX7_quiet_22 rfl rfl rfl (x_pr.eq (by rw [z_quiet, show x_has n 61 = false from x_has_gt (n := 61) (by decide) c_7]; rfl))
    · refine R_iload_n dX7_quiet_10 rfl ?_
      refine R_iflt 20 dX7_quiet_11 rfl (fun c_11 => ?_) (fun c_11 => ?_)
      · refine R_ldc (-1000000002) dX7_quiet_20 k_X7_80 ?_
        exact R_iret dX7_quiet_22 rfl rfl rfl (x_pr.eq (by rw [z_quiet, show x_has q 101 = false from decide_eq_false (fun z => z.1 c_11), Bool.and_false]; rfl))
      · refine R_iload_n dX7_quiet_14 rfl ?_
        refine R_bipush (nI 100) dX7_quiet_15 rfl ?_
        refine R_icmple 23 dX7_quiet_17 rfl (fun c_17 => ?_) (fun c_17 => ?_)
        · refine R_ldc2 (1000000000) dX7_quiet_23 k_X7_275 ?_
          refine R_lstore_n dX7_quiet_26 (Nat.le_of_ble_eq_true rfl) rfl ?_
          refine R_iconst (nI 0) dX7_quiet_27 rfl ?_
          refine R_istore dX7_quiet_28 (Nat.le_of_ble_eq_true rfl) rfl ?_
          obtain ⟨i, hi1, hi2, rfl⟩ := x_rng (a := 0) (b := 60) (by decide) c_1 (Int32.not_lt.mp c_7) (by decide)
          obtain ⟨j, hj1, hj2, rfl⟩ := x_rng (a := 0) (b := 100) (by decide) c_11 c_17 (by decide)
          have e : z_quiet (nI i) (nI j) = (z_qt (nI j) i).toInt32 := by rw [z_quiet, x_has_nI (by omega) (by decide), x_has_nI (by omega) (by decide), i_n_nI (by omega)]; rfl
          rw [e]
          exact c_quiet_loop (by omega) (nI j) (i + 1) 0 (by omega) (by omega)
        · refine R_ldc (-1000000002) dX7_quiet_20 k_X7_80 ?_
          exact R_iret dX7_quiet_22 rfl rfl rfl (x_pr.eq (by rw [z_quiet, show x_has q 101 = false from x_has_gt (n := 101) (by decide) (Int32.not_le.mp c_17), Bool.and_false]; rfl))
theorem c_keep {h : xH} {Z : xZ} {k : Nat} (HC : x_Class h Z) (hZ : x_ZB k Z) (hk : k ≤ 50000) (i : Int32) : x_Met m_X7_keep [.ref 2, .int i] h (x_KC h (z_keep Z i)) := by
  obtain ⟨hb, db, E, Wd, nx, fw, lt, A, B, C⟩ := HC
  have hd := C.hd
  obtain ⟨c1, cx, c0, cT, cH, cD, cN, cR, cI, cP, cS, cB⟩ := id C
  have hB : x_HB (z_N Z) (z_R Z) (z_D Z) (z_P Z) (z_F Z) := hZ.1.hb
  have hQ : x_QB (z_N Z) (z_R Z) (z_P Z) (z_Q Z) := hZ.2.1.1
  obtain ⟨⟨b1, b2, b3, b4⟩, b5, b6, b7⟩ := id hB
  obtain ⟨u1, u2, u3, u4, u5, u6, u7, u8, u9⟩ := id hQ
  obtain ⟨h2, g0, g1, g2, g3, g4, g5, g6, g7, g8, g9, g10, g11⟩ := id cH
  obtain ⟨h2n, n0, ⟨f1, n1, n1e⟩, n2, ⟨f3, n3, n3e⟩, n4, n5⟩ := id cN
  obtain ⟨-, hXn, hEk, hEa, htx, t0, -⟩ := id cT
  obtain ⟨⟨-, hTc, hTx, r0, r1⟩, -⟩ := id cR
  obtain ⟨-, hSn, s0, -⟩ := id cS
  obtain ⟨-, hBn, k0, -⟩ := id cB
  obtain ⟨-, p0, -⟩ := id cP
  obtain ⟨-, d0, -⟩ := id cD
  have FC := x_fC.rf h
  obtain ⟨Q0, HG0⟩ := cR.2.1 nx hTx
  obtain ⟨i0, ⟨fs1, i1, i1e⟩, ⟨fs2, i2, i2e⟩, i4, i5⟩ := id cI
  refine x_Met.of (lo := [some (.ref 2), some (.int i)]) (by decide) rfl rfl rfl ?_
  refine R_iload_n dX7_keep_0 rfl ?_
  refine R_iflt 9 dX7_keep_1 rfl (fun c_1 => ?_) (fun c_1 => ?_)
  · refine R_ldc (-1000000001) dX7_keep_9 k_X7_151 ?_
    exact R_iret dX7_keep_11 rfl rfl rfl (x_KC.ok C.cl (x_fC.rf _) (by rw [z_keep, z_tb_f (decide_eq_false (fun z => z.1 c_1))]))
  · refine R_iload_n dX7_keep_4 rfl ?_
    refine R_iconst (nI 2) dX7_keep_5 rfl ?_
    refine R_icmplt 12 dX7_keep_6 rfl (fun c_6 => ?_) (fun c_6 => ?_)
    · have c4 : x_has i 2 = true := decide_eq_true ⟨c_1, by rw [Int32.not_le]; exact c_6⟩
      obtain ⟨j, hj, rfl⟩ := x_has_t (by omega) c4
      obtain ⟨Qm, HM⟩ := i4 j hj
      obtain ⟨-, m0, -⟩ := id HM
      refine R_aload_n dX7_keep_12 rfl ?_
      refine R_get dX7_keep_13 f_X7_40 c0 rfl ?_
      refine R_iload_n dX7_keep_16 rfl ?_
      refine R_aald dX7_keep_17 i0 (by omega) (fun _ => rfl) rfl rfl (by omega) (by decide) (if_pos (by omega)) ?_
      refine R_aload_n dX7_keep_18 rfl ?_
      refine R_get dX7_keep_19 f_X7_29 c0 rfl ?_
      refine R_cV1v (N := m_X2_copyFrom) dX7_keep_22 l_X7_295 i_X2_copyFrom m0 (c_Night_copyFrom HM cN b2 b4 (by omega)) rfl rfl (fun h22 q_22 => ?_)
      obtain ⟨HM1, FR2⟩ := q_22
      have c0 := (FR2 2 (by omega)).trans c0
      have i1 := (FR2 331 (by omega)).trans i1
      have i2 := (FR2 332 (by omega)).trans i2
      refine R_aload_n dX7_keep_25 rfl ?_
      refine R_get dX7_keep_26 f_X7_44 c0 rfl ?_
      refine R_iload_n dX7_keep_29 rfl ?_
      refine R_aload_n dX7_keep_30 rfl ?_
      refine R_get dX7_keep_31 f_X7_73 c0 rfl ?_
      refine R_iast dX7_keep_34 i1 (by omega) rfl (by omega) (by decide) ?_
      have c0 : (List.set h22 331 (x_ia 2 (upd fs1 j (nI (z_s Z)))))[2]? = _ := (List.getElem?_set_ne (by omega)).trans c0
      have i2b : (List.set h22 331 (x_ia 2 (upd fs1 j (nI (z_s Z)))))[332]? = _ := (List.getElem?_set_ne (by omega)).trans i2
      refine R_aload_n dX7_keep_35 rfl ?_
      refine R_get dX7_keep_36 f_X7_48 c0 rfl ?_
      refine R_iload_n dX7_keep_39 rfl ?_
      refine R_iconst (nI 1) dX7_keep_40 rfl ?_
      refine R_zast dX7_keep_41 i2b (Or.inr rfl) rfl (by omega) (by decide) ?_
      have HI1 := cI.keep (s := z_s Z) hj HM1 FR2 i1 i2 i1e i2e
      have C := C.imgs HI1 (fun q hq => by rw [List.getElem?_set_ne (by omega), List.getElem?_set_ne (by omega)]; exact FR2 q (by omega))
      have FC := ((FC.fr FR2 (by omega) (by omega)).set (c := 331) (x_ia 2 (upd fs1 j (nI (z_s Z)))) (by omega) (by omega)).set (c := 332) (.inl (2, 2, .inl (upd fs2 j (nI 1)))) (by omega) (by omega)
      obtain ⟨c1, cx, c0, cT, cH, cD, cN, cR, cI, cP, cS, cB⟩ := id C
      have c0 : (List.set (List.set h22 331 (x_ia 2 (upd fs1 j (nI (z_s Z))))) 332 (.inl (2, 2, .inl (upd fs2 j (nI 1)))))[2]? = some (x_cob hb db (z_s Z) (z_f Z)) := c0
      have cT : x_Text (List.set (List.set h22 331 (x_ia 2 (upd fs1 j (nI (z_s Z))))) 332 (.inl (2, 2, .inl (upd fs2 j (nI 1))))) 3 (z_X Z).1 (z_X Z).2 _ := cT
      have cH : x_House (List.set (List.set h22 331 (x_ia 2 (upd fs1 j (nI (z_s Z))))) 332 (.inl (2, 2, .inl (upd fs2 j (nI 1))))) hb (z_N Z) (z_R Z) (z_D Z) (z_P Z) (z_F Z) := cH
      have cN : x_Night (List.set (List.set h22 331 (x_ia 2 (upd fs1 j (nI (z_s Z))))) 332 (.inl (2, 2, .inl (upd fs2 j (nI 1))))) 49 (z_R Z) (z_P Z) (z_Q Z) := cN
      have cR : x_Ring (List.set (List.set h22 331 (x_ia 2 (upd fs1 j (nI (z_s Z))))) 332 (.inl (2, 2, .inl (upd fs2 j (nI 1))))) _ (z_R Z) (z_P Z) (z_T Z) := cR
      have cI : x_Imgs (List.set (List.set h22 331 (x_ia 2 (upd fs1 j (nI (z_s Z))))) 332 (.inl (2, 2, .inl (upd fs2 j (nI 1))))) (z_R Z) (z_P Z) (fun x => if x = j then true else (z_I Z).1 x, fun x => if x = j then z_Q Z else (z_I Z).2.1 x, fun x => if x = j then z_s Z else (z_I Z).2.2 x) := cI
      have cS : x_Seen (List.set (List.set h22 331 (x_ia 2 (upd fs1 j (nI (z_s Z))))) 332 (.inl (2, 2, .inl (upd fs2 j (nI 1))))) 348 (z_S Z).1 (z_S Z).2.1 (z_S Z).2.2 := cS
      have cB : x_Book (List.set (List.set h22 331 (x_ia 2 (upd fs1 j (nI (z_s Z))))) 332 (.inl (2, 2, .inl (upd fs2 j (nI 1))))) 351 (z_B Z).1 (z_B Z).2.1 (z_B Z).2.2 := cB
      obtain ⟨h2, g0, g1, g2, g3, g4, g5, g6, g7, g8, g9, g10, g11⟩ := id cH
      obtain ⟨h2n, n0, ⟨f1, n1, n1e⟩, n2, ⟨f3, n3, n3e⟩, n4, n5⟩ := id cN
      obtain ⟨-, hXn, hEk, hEa, htx, t0, -⟩ := id cT
      obtain ⟨⟨-, hTc, hTx, r0, r1⟩, -⟩ := id cR
      obtain ⟨-, hSn, s0, -⟩ := id cS
      obtain ⟨-, hBn, k0, -⟩ := id cB
      obtain ⟨-, p0, -⟩ := id cP
      obtain ⟨-, d0, -⟩ := id cD
      refine R_aload_n dX7_keep_42 rfl ?_
      refine R_get dX7_keep_43 f_X7_36 c0 rfl ?_
      refine R_cV0v (N := m_X6_clear) dX7_keep_46 l_X7_105 i_X6_clear r0 (c_Trail_clear cR.1) rfl rfl (fun h46 q_46 => ?_)
      obtain ⟨HT1, FR3⟩ := q_46
      have C := C.ring (cR.clear (z_T Z).2 HT1 FR3) (fun q hq => FR3 q (by omega))
      have FC : x_fC h h46 := FC.trans (fun q hq => FR3 q (by omega))
      refine R_iconst (nI 1) dX7_keep_49 rfl ?_
      exact R_iret dX7_keep_50 rfl rfl rfl (x_KC.ok C.cl FC (by rw [z_keep, z_tb_t hj (by decide)]; rfl))
    · refine R_ldc (-1000000001) dX7_keep_9 k_X7_151 ?_
      exact R_iret dX7_keep_11 rfl rfl rfl (x_KC.ok C.cl (x_fC.rf _) (by rw [z_keep, z_tb_f (decide_eq_false (fun z => z.2 (by rw [← Int32.not_lt]; exact c_6)))]))
theorem c_goBack {h : xH} {Z : xZ} {k : Nat} (HC : x_Class h Z) (hZ : x_ZB k Z) (hk : k ≤ 50000) (i : Int32) : x_Met m_X7_goBack [.ref 2, .int i] h (x_KC h (z_goBack Z i)) := by
  obtain ⟨hb, db, E, Wd, nx, fw, lt, A, B, C⟩ := HC
  have hd := C.hd
  obtain ⟨c1, cx, c0, cT, cH, cD, cN, cR, cI, cP, cS, cB⟩ := id C
  have hB : x_HB (z_N Z) (z_R Z) (z_D Z) (z_P Z) (z_F Z) := hZ.1.hb
  have hQ : x_QB (z_N Z) (z_R Z) (z_P Z) (z_Q Z) := hZ.2.1.1
  obtain ⟨⟨b1, b2, b3, b4⟩, b5, b6, b7⟩ := id hB
  obtain ⟨u1, u2, u3, u4, u5, u6, u7, u8, u9⟩ := id hQ
  obtain ⟨h2, g0, g1, g2, g3, g4, g5, g6, g7, g8, g9, g10, g11⟩ := id cH
  obtain ⟨h2n, n0, ⟨f1, n1, n1e⟩, n2, ⟨f3, n3, n3e⟩, n4, n5⟩ := id cN
  obtain ⟨-, hXn, hEk, hEa, htx, t0, -⟩ := id cT
  obtain ⟨⟨-, hTc, hTx, r0, r1⟩, -⟩ := id cR
  obtain ⟨-, hSn, s0, -⟩ := id cS
  obtain ⟨-, hBn, k0, -⟩ := id cB
  obtain ⟨-, p0, -⟩ := id cP
  obtain ⟨-, d0, -⟩ := id cD
  have FC := x_fC.rf h
  obtain ⟨Q0, HG0⟩ := cR.2.1 nx hTx
  obtain ⟨i0, ⟨fs1, i1, i1e⟩, ⟨fs2, i2, i2e⟩, i4, i5⟩ := id cI
  refine x_Met.of (lo := [some (.ref 2), some (.int i)]) (by decide) rfl rfl rfl ?_
  refine R_iload_n dX7_goBack_0 rfl ?_
  refine R_iflt 9 dX7_goBack_1 rfl (fun c_1 => ?_) (fun c_1 => ?_)
  · refine R_ldc (-1000000001) dX7_goBack_9 k_X7_151 ?_
    exact R_iret dX7_goBack_11 rfl rfl rfl (x_KC.ok C.cl (x_fC.rf _) (by rw [z_goBack, z_tb_f (decide_eq_false (fun z => z.1 c_1))]))
  · refine R_iload_n dX7_goBack_4 rfl ?_
    refine R_iconst (nI 2) dX7_goBack_5 rfl ?_
    refine R_icmplt 12 dX7_goBack_6 rfl (fun c_6 => ?_) (fun c_6 => ?_)
    · have c4 : x_has i 2 = true := decide_eq_true ⟨c_1, by rw [Int32.not_le]; exact c_6⟩
      obtain ⟨j, hj, rfl⟩ := x_has_t (by omega) c4
      obtain ⟨Qm, HM⟩ := i4 j hj
      obtain ⟨-, m0, -⟩ := id HM
      refine R_aload_n dX7_goBack_12 rfl ?_
      refine R_get dX7_goBack_13 f_X7_48 c0 rfl ?_
      refine R_iload_n dX7_goBack_16 rfl ?_
      refine R_zald dX7_goBack_17 i2 rfl (by omega) (by decide) ?_
      rw [i2e j hj]
      refine R_ifneB 24 dX7_goBack_18 rfl (fun c_18 => ?_) (fun c_18 => ?_)
      · have HM1 := i5 j hj c_18
        refine R_aload_n dX7_goBack_24 rfl ?_
        refine R_get dX7_goBack_25 f_X7_29 c0 rfl ?_
        refine R_aload_n dX7_goBack_28 rfl ?_
        refine R_get dX7_goBack_29 f_X7_40 c0 rfl ?_
        refine R_iload_n dX7_goBack_32 rfl ?_
        refine R_aald dX7_goBack_33 i0 (by omega) (fun _ => rfl) rfl rfl (by omega) (by decide) (if_pos (by omega)) ?_
        refine R_cV1v (N := m_X2_copyFrom) dX7_goBack_34 l_X7_295 i_X2_copyFrom n0 (c_Night_copyFrom cN HM1 b2 b4 (by omega)) rfl rfl (fun h34 q_34 => ?_)
        obtain ⟨HN1, FR2⟩ := q_34
        have C := C.night HN1 FR2
        have FC := FC.fr FR2 (by omega) (by omega)
        have i1 := (FR2 331 (by omega)).trans i1
        obtain ⟨c1, cx, c0, cT, cH, cD, cN, cR, cI, cP, cS, cB⟩ := id C
        have c0 : h34[2]? = some (x_cob hb db (z_s Z) (z_f Z)) := c0
        have cT : x_Text h34 3 (z_X Z).1 (z_X Z).2 _ := cT
        have cH : x_House h34 hb (z_N Z) (z_R Z) (z_D Z) (z_P Z) (z_F Z) := cH
        have cN : x_Night h34 49 (z_R Z) (z_P Z) ((z_I Z).2.1 j) := cN
        have cR : x_Ring h34 _ (z_R Z) (z_P Z) (z_T Z) := cR
        have cI : x_Imgs h34 (z_R Z) (z_P Z) (z_I Z) := cI
        have cS : x_Seen h34 348 (z_S Z).1 (z_S Z).2.1 (z_S Z).2.2 := cS
        have cB : x_Book h34 351 (z_B Z).1 (z_B Z).2.1 (z_B Z).2.2 := cB
        obtain ⟨h2, g0, g1, g2, g3, g4, g5, g6, g7, g8, g9, g10, g11⟩ := id cH
        obtain ⟨h2n, n0, ⟨f1, n1, n1e⟩, n2, ⟨f3, n3, n3e⟩, n4, n5⟩ := id cN
        obtain ⟨-, hXn, hEk, hEa, htx, t0, -⟩ := id cT
        obtain ⟨⟨-, hTc, hTx, r0, r1⟩, -⟩ := id cR
        obtain ⟨-, hSn, s0, -⟩ := id cS
        obtain ⟨-, hBn, k0, -⟩ := id cB
        obtain ⟨-, p0, -⟩ := id cP
        obtain ⟨-, d0, -⟩ := id cD
        refine R_aload_n dX7_goBack_37 rfl ?_
        refine R_aload_n dX7_goBack_38 rfl ?_
        refine R_get dX7_goBack_39 f_X7_44 c0 rfl ?_
        refine R_iload_n dX7_goBack_42 rfl ?_
        refine R_iald dX7_goBack_43 i1 rfl (by omega) (by decide) ?_
        refine R_put dX7_goBack_44 f_X7_73 c0 (Nat.le_of_ble_eq_true rfl) (fun _ => rfl) (fun _ => rfl) ?_
        simp only [List.set_cons_succ, List.set_cons_zero]
        rw [i1e j hj c_18]
        have C := C.obj ((z_I Z).2.2 j) (z_f Z)
        have FC := FC.set (c := 2) (x_cob hb db ((z_I Z).2.2 j) (z_f Z)) (by omega) (by omega)
        obtain ⟨c1, cx, c0, cT, cH, cD, cN, cR, cI, cP, cS, cB⟩ := id C
        have c0 : (List.set h34 2 (x_cob hb db ((z_I Z).2.2 j) (z_f Z)))[2]? = some (x_cob hb db ((z_I Z).2.2 j) (z_f Z)) := c0
        have cT : x_Text (List.set h34 2 (x_cob hb db ((z_I Z).2.2 j) (z_f Z))) 3 (z_X Z).1 (z_X Z).2 _ := cT
        have cH : x_House (List.set h34 2 (x_cob hb db ((z_I Z).2.2 j) (z_f Z))) hb (z_N Z) (z_R Z) (z_D Z) (z_P Z) (z_F Z) := cH
        have cN : x_Night (List.set h34 2 (x_cob hb db ((z_I Z).2.2 j) (z_f Z))) 49 (z_R Z) (z_P Z) ((z_I Z).2.1 j) := cN
        have cR : x_Ring (List.set h34 2 (x_cob hb db ((z_I Z).2.2 j) (z_f Z))) _ (z_R Z) (z_P Z) (z_T Z) := cR
        have cI : x_Imgs (List.set h34 2 (x_cob hb db ((z_I Z).2.2 j) (z_f Z))) (z_R Z) (z_P Z) (z_I Z) := cI
        have cS : x_Seen (List.set h34 2 (x_cob hb db ((z_I Z).2.2 j) (z_f Z))) 348 (z_S Z).1 (z_S Z).2.1 (z_S Z).2.2 := cS
        have cB : x_Book (List.set h34 2 (x_cob hb db ((z_I Z).2.2 j) (z_f Z))) 351 (z_B Z).1 (z_B Z).2.1 (z_B Z).2.2 := cB
        obtain ⟨h2, g0, g1, g2, g3, g4, g5, g6, g7, g8, g9, g10, g11⟩ := id cH
        obtain ⟨h2n, n0, ⟨f1, n1, n1e⟩, n2, ⟨f3, n3, n3e⟩, n4, n5⟩ := id cN
        obtain ⟨-, hXn, hEk, hEa, htx, t0, -⟩ := id cT
        obtain ⟨⟨-, hTc, hTx, r0, r1⟩, -⟩ := id cR
        obtain ⟨-, hSn, s0, -⟩ := id cS
        obtain ⟨-, hBn, k0, -⟩ := id cB
        obtain ⟨-, p0, -⟩ := id cP
        obtain ⟨-, d0, -⟩ := id cD
        refine R_aload_n dX7_goBack_47 rfl ?_
        refine R_get dX7_goBack_48 f_X7_36 c0 rfl ?_
        refine R_cV0v (N := m_X6_clear) dX7_goBack_51 l_X7_105 i_X6_clear r0 (c_Trail_clear cR.1) rfl rfl (fun h51 q_51 => ?_)
        obtain ⟨HT1, FR3⟩ := q_51
        have C := C.ring (cR.clear (z_T Z).2 HT1 FR3) (fun q hq => FR3 q (by omega))
        have FC : x_fC h h51 := FC.trans (fun q hq => FR3 q (by omega))
        refine R_iconst (nI 1) dX7_goBack_54 rfl ?_
        exact R_iret dX7_goBack_55 rfl rfl rfl (x_KC.ok C.cl FC (by rw [z_goBack, z_tb_t hj (by decide), if_pos c_18]; rfl))
      · refine R_ldc (-1000000003) dX7_goBack_21 k_X7_217 ?_
        exact R_iret dX7_goBack_23 rfl rfl rfl (x_KC.ok C.cl (x_fC.rf _) (by rw [z_goBack, z_tb_t hj (by decide), if_neg (by rw [c_18]; decide)]))
    · refine R_ldc (-1000000001) dX7_goBack_9 k_X7_151 ?_
      exact R_iret dX7_goBack_11 rfl rfl rfl (x_KC.ok C.cl (x_fC.rf _) (by rw [z_goBack, z_tb_f (decide_eq_false (fun z => z.2 (by rw [← Int32.not_lt]; exact c_6)))]))
