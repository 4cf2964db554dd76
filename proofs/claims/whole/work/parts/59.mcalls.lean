/-! THE MODEL's calls that change -/
theorem x_in_t {v : Int32} {a b : Nat} (ha : a < 2 ^ 31) (hb : b < 2 ^ 31 - 1) (h : x_in v (nI a) (nI b) = true) : ∃ i, a ≤ i ∧ i ≤ b ∧ v = nI i := by
  have h := of_decide_eq_true h
  exact x_rng hb h.1 (Int32.not_lt.mp h.2) ha
theorem z_rg_in {α : Type} {a b : Nat} {x : Int32} {f : Nat → α} {e : α} (h : x_in x (nI a) (nI b) = false) : z_rg a b x f e = e := by
  rw [z_rg, if_neg (fun z => of_decide_eq_false h ⟨z.1, Int32.not_lt.mpr z.2⟩)]
theorem x_ML.text {h : xH} {Z : xZ} {M : Nat → Nat → Int32} {sd : Nat → Int64} {kp t : Nat → Int32} (C : x_ML h Z M sd kp t) {g : Nat → Int32} (X : xX) (hx : ∀ i, i < X.1 → g i = nI (X.2 i)) : x_ML ((h.set 373 (x_ia 240 g)).set 372 (x_mob X.1 (z_f Z) (z_N Z) (z_R Z) (z_D Z) (z_P Z) (z_T Z).1 (z_s Z) (z_S Z).1 (z_B Z).1 t)) (z_setX Z X) (s_arr M 0 g) sd kp t :=
  ⟨(C.1.arr (i := 0) (by decide) (by decide) (by decide) g).obj _, C.2.1, C.2.2.1, C.2.2.2.1, C.2.2.2.2.1, C.2.2.2.2.2.1, C.2.2.2.2.2.2.1, C.2.2.2.2.2.2.2.1, C.2.2.2.2.2.2.2.2.1, C.2.2.2.2.2.2.2.2.2.1, C.2.2.2.2.2.2.2.2.2.2.1, C.2.2.2.2.2.2.2.2.2.2.2.1, C.2.2.2.2.2.2.2.2.2.2.2.2.1, C.2.2.2.2.2.2.2.2.2.2.2.2.2.1, hx⟩
theorem x_ML.seen {h : xH} {Z : xZ} {M : Nat → Nat → Int32} {sd : Nat → Int64} {kp t : Nat → Int32} (C : x_ML h Z M sd kp t) {g : Nat → Int32} (S : xSn) (hx : ∀ i, i < S.1 → g (2 * i) = nI (S.2.1 i) ∧ g (2 * i + 1) = x_b (S.2.2 i)) : x_ML ((h.set 386 (x_ia 12 g)).set 372 (x_mob (z_X Z).1 (z_f Z) (z_N Z) (z_R Z) (z_D Z) (z_P Z) (z_T Z).1 (z_s Z) S.1 (z_B Z).1 t)) (z_setS Z S) (s_arr M 13 g) sd kp t :=
  ⟨(C.1.arr (i := 13) (by decide) (by decide) (by decide) g).obj _, C.2.1, C.2.2.1, C.2.2.2.1, C.2.2.2.2.1, C.2.2.2.2.2.1, C.2.2.2.2.2.2.1, C.2.2.2.2.2.2.2.1, C.2.2.2.2.2.2.2.2.1, C.2.2.2.2.2.2.2.2.2.1, C.2.2.2.2.2.2.2.2.2.2.1, C.2.2.2.2.2.2.2.2.2.2.2.1, hx, C.2.2.2.2.2.2.2.2.2.2.2.2.2⟩
theorem x_ML.book {h : xH} {Z : xZ} {M : Nat → Nat → Int32} {sd : Nat → Int64} {kp t : Nat → Int32} (C : x_ML h Z M sd kp t) {g : Nat → Int32} (B : xBk) (hx : ∀ i, i < B.1 → g (2 * i) = nI (B.2.1 i) ∧ g (2 * i + 1) = B.2.2 i) : x_ML ((h.set 387 (x_ia 40 g)).set 372 (x_mob (z_X Z).1 (z_f Z) (z_N Z) (z_R Z) (z_D Z) (z_P Z) (z_T Z).1 (z_s Z) (z_S Z).1 B.1 t)) (z_setB Z B) (s_arr M 14 g) sd kp t :=
  ⟨(C.1.arr (i := 14) (by decide) (by decide) (by decide) g).obj _, C.2.1, C.2.2.1, C.2.2.2.1, C.2.2.2.2.1, C.2.2.2.2.2.1, C.2.2.2.2.2.2.1, C.2.2.2.2.2.2.2.1, C.2.2.2.2.2.2.2.2.1, C.2.2.2.2.2.2.2.2.2.1, C.2.2.2.2.2.2.2.2.2.2.1, C.2.2.2.2.2.2.2.2.2.2.2.1, C.2.2.2.2.2.2.2.2.2.2.2.2.1, hx, C.2.2.2.2.2.2.2.2.2.2.2.2.2.2⟩
theorem x_ML.sn0 {h : xH} {Z : xZ} {M : Nat → Nat → Int32} {sd : Nat → Int64} {kp t : Nat → Int32} (C : x_ML h Z M sd kp t) (sn : xSn) (bn : xBk) (h1 : sn.1 = 0) (h2 : bn.1 = 0) : x_ML (h.set 372 (x_mob (z_X Z).1 (z_f Z) (z_N Z) (z_R Z) (z_D Z) (z_P Z) (z_T Z).1 (z_s Z) sn.1 bn.1 t)) (z_setB (z_setS Z sn) bn) M sd kp t :=
  ⟨C.1.obj _, C.2.1, C.2.2.1, C.2.2.2.1, C.2.2.2.2.1, C.2.2.2.2.2.1, C.2.2.2.2.2.2.1, C.2.2.2.2.2.2.2.1, C.2.2.2.2.2.2.2.2.1, C.2.2.2.2.2.2.2.2.2.1, C.2.2.2.2.2.2.2.2.2.2.1, C.2.2.2.2.2.2.2.2.2.2.2.1, fun i hi => absurd (h1 ▸ hi : i < 0) (Nat.not_lt_zero i), fun i hi => absurd (h2 ▸ hi : i < 0) (Nat.not_lt_zero i), C.2.2.2.2.2.2.2.2.2.2.2.2.2.2⟩
theorem x_ML.seed {h : xH} {Z : xZ} {M : Nat → Nat → Int32} {sd : Nat → Int64} {kp t : Nat → Int32} (C : x_ML h Z M sd kp t) (s : Nat) : x_ML (h.set 372 (x_mob (z_X Z).1 (z_f Z) (z_N Z) (z_R Z) (z_D Z) (z_P Z) (z_T Z).1 s (z_S Z).1 (z_B Z).1 t)) (z_sets Z s) M sd kp t := ⟨C.1.obj _, C.2⟩
theorem x_ML.none {h : xH} {Z : xZ} {M : Nat → Nat → Int32} {sd : Nat → Int64} {kp t : Nat → Int32} (C : x_ML h Z M sd kp t) : x_ML (h.set 372 (x_mob (z_X Z).1 (z_f Z) (z_N Z) (z_R Z) (z_D Z) (z_P Z) 0 (z_s Z) (z_S Z).1 (z_B Z).1 t)) (z_setT Z (z_none (z_T Z))) M sd kp t :=
  ⟨C.1.obj _, C.2.1, C.2.2.1, C.2.2.2.1, C.2.2.2.2.1, C.2.2.2.2.2.1, C.2.2.2.2.2.2.1, C.2.2.2.2.2.2.2.1, C.2.2.2.2.2.2.2.2.1, fun j hj => absurd hj (Nat.not_lt_zero j), C.2.2.2.2.2.2.2.2.2.2⟩
theorem n_feed {h : xH} {Z : xZ} {k : Nat} {M : Nat → Nat → Int32} {sd : Nat → Int64} {kp t : Nat → Int32} (C : x_ML h Z M sd kp t) (hZ : x_ZB k Z) (hk : k ≤ 50000) (l : Int32) : x_Met m_X8_feed [.ref 372, .int l] h (x_KD h (z_feed Z l)) := by
  obtain ⟨HM, HZ⟩ := id C
  have mo : h[372]? = some (x_mob (z_X Z).1 (z_f Z) (z_N Z) (z_R Z) (z_D Z) (z_P Z) (z_T Z).1 (z_s Z) (z_S Z).1 (z_B Z).1 t) := HM.1
  have m0 : h[373]? = some (x_ia 240 (M 0)) := HM.2 0 (by decide)
  obtain ⟨w1, w2, w3, w4, w5, w6, w7, hq, wt, wi, wk, ws, wb, wx⟩ := id HZ
  obtain ⟨q0, q1, q2, q3, q9, q15, q21, q45⟩ := id hq
  have q21z : ∀ r9, r9 < z_R Z → M 8 (21 + r9) = q_la (z_Q Z) 0 r9 := fun r9 hr9 => q21 0 r9 (by decide) hr9
  have hB : x_HB (z_N Z) (z_R Z) (z_D Z) (z_P Z) (z_F Z) := hZ.1.hb
  have hQ : x_QB (z_N Z) (z_R Z) (z_P Z) (z_Q Z) := hZ.2.1.1
  obtain ⟨⟨b1, b2, b3, b4⟩, b5, b6, b7⟩ := id hB
  obtain ⟨u1, u2, u3, u4, u5, u6, u7, u8, u9⟩ := id hQ
  have bT : (z_T Z).1 ≤ 30 := hZ.2.2.1.1
  have bs : z_s Z < 2 ^ 31 := hZ.2.2.2.2.1
  have bX : (z_X Z).1 ≤ 240 := hZ.2.2.2.2.2.1.1
  have bXc : ∀ i, i < (z_X Z).1 → (z_X Z).2 i < 256 := hZ.2.2.2.2.2.1.2
  have bS : (z_S Z).1 ≤ 6 := hZ.2.2.2.2.2.2.1.1
  have bSr : ∀ i, i < (z_S Z).1 → (z_S Z).2.1 i < z_R Z := hZ.2.2.2.2.2.2.1.2
  have bB : (z_B Z).1 ≤ 20 := hZ.2.2.2.2.2.2.2.1
  have bBr : ∀ i, i < (z_B Z).1 → (z_B Z).2.1 i < z_R Z := hZ.2.2.2.2.2.2.2.2
  have FD := x_fD.rf h
  refine x_Met.of (lo := [some (.ref 372), some (.int l)]) (by decide) rfl rfl rfl ?_
  refine R_iload_n dX8_feed_0 rfl ?_
  refine R_iconst (nI 0) dX8_feed_1 rfl ?_
  refine R_sipush (nI 255) dX8_feed_2 rfl ?_
  refine R_cS3p (N := m_X8_in) dX8_feed_5 l_X8_85 i_X8_in (n_in _ _ _) rfl rfl ?_
  refine R_ifneB 14 dX8_feed_8 rfl (fun c_8 => ?_) (fun c_8 => ?_)
  · obtain ⟨i, hi1, hi2, rfl⟩ := x_in_t (a := 0) (b := 255) (by decide) (by decide) c_8
    refine R_aload_n dX8_feed_14 rfl ?_
    refine R_get dX8_feed_15 f_X8_96 mo rfl ?_
    refine R_sipush (nI 240) dX8_feed_18 rfl ?_
    refine R_neN 27 dX8_feed_21 rfl (by omega) (by omega) (fun c_21 => ?_) (fun c_21 => ?_)
    · refine R_aload_n dX8_feed_27 rfl ?_
      refine R_get dX8_feed_28 f_X8_7 mo rfl ?_
      refine R_aload_n dX8_feed_31 rfl ?_
      refine R_get dX8_feed_32 f_X8_96 mo rfl ?_
      refine R_iload_n dX8_feed_35 rfl ?_
      refine R_iast dX8_feed_36 m0 (by omega) rfl (by omega) (by decide) ?_
      have m0b : (List.set h 373 (x_ia 240 (upd (M 0) (z_X Z).1 (nI i))))[373]? = some (x_ia 240 (upd (M 0) (z_X Z).1 (nI i))) := List.getElem?_set_self (List.getElem?_eq_some_iff.mp m0).1
      have mo0 := mo
      have mo : (List.set h 373 (x_ia 240 (upd (M 0) (z_X Z).1 (nI i))))[372]? = some (x_mob (z_X Z).1 (z_f Z) (z_N Z) (z_R Z) (z_D Z) (z_P Z) (z_T Z).1 (z_s Z) (z_S Z).1 (z_B Z).1 t) := (List.getElem?_set_ne (by omega)).trans mo
      refine R_aload_n dX8_feed_37 rfl ?_
      refine R_dup dX8_feed_38 rfl ?_
      refine R_get dX8_feed_39 f_X8_96 mo rfl ?_
      refine R_iconst (nI 1) dX8_feed_42 rfl ?_
      refine R_iaddN dX8_feed_43 ?_
      refine R_put dX8_feed_44 f_X8_96 mo (Nat.le_of_ble_eq_true rfl) (fun _ => rfl) (fun _ => rfl) ?_
      simp only [List.set_cons_succ, List.set_cons_zero]
      have C := C.text (g := (upd (M 0) (z_X Z).1 (nI i))) ((z_X Z).1 + 1, s_snoc (z_X Z).1 (z_X Z).2 i) (fun x hx => by
        have hx : x < (z_X Z).1 + 1 := hx
        show upd (M 0) (z_X Z).1 (nI i) x = nI (if x = (z_X Z).1 then i else (z_X Z).2 x)
        by_cases e : x = (z_X Z).1
        · subst e; rw [x_upd_eq, if_pos rfl]
        · rw [x_upd_ne e, if_neg e]; exact wx x (by omega))
      have FD := (FD.set (c := 373) (x_ia 240 (upd (M 0) (z_X Z).1 (nI i))) (by omega)).set (c := 372) (x_mob ((z_X Z).1 + 1) (z_f Z) (z_N Z) (z_R Z) (z_D Z) (z_P Z) (z_T Z).1 (z_s Z) (z_S Z).1 (z_B Z).1 t) (by omega)
      have mo : (List.set (List.set h 373 (x_ia 240 (upd (M 0) (z_X Z).1 (nI i)))) 372 (x_mob ((z_X Z).1 + 1) (z_f Z) (z_N Z) (z_R Z) (z_D Z) (z_P Z) (z_T Z).1 (z_s Z) (z_S Z).1 (z_B Z).1 t))[372]? = some (x_mob ((z_X Z).1 + 1) (z_f Z) (z_N Z) (z_R Z) (z_D Z) (z_P Z) (z_T Z).1 (z_s Z) (z_S Z).1 (z_B Z).1 t) := C.1.1
      refine R_aload_n dX8_feed_47 rfl ?_
      refine R_get dX8_feed_48 f_X8_96 mo rfl ?_
      exact R_iret dX8_feed_51 rfl rfl rfl (x_KD.ok C.cl FD (by rw [z_feed, z_rg_t hi1 hi2 (by decide), if_neg c_21]))
    · refine R_ldc (-1000000004) dX8_feed_24 k_X8_99 ?_
      exact R_iret dX8_feed_26 rfl rfl rfl (x_KD.ok C.cl (x_fD.rf _) (by rw [z_feed, z_rg_t hi1 hi2 (by decide), if_pos c_21]))
  · refine R_ldc (-1000000002) dX8_feed_11 k_X8_95 ?_
    exact R_iret dX8_feed_13 rfl rfl rfl (x_KD.ok C.cl (x_fD.rf _) (by rw [z_feed, z_rg_in c_8]))
theorem n_say {h : xH} {Z : xZ} {k : Nat} {M : Nat → Nat → Int32} {sd : Nat → Int64} {kp t : Nat → Int32} (C : x_ML h Z M sd kp t) (hZ : x_ZB k Z) (hk : k ≤ 50000) (p : Int32) : x_Met m_X8_say [.ref 372, .int p] h (x_KD h (z_say Z p)) := by
  obtain ⟨HM, HZ⟩ := id C
  have mo : h[372]? = some (x_mob (z_X Z).1 (z_f Z) (z_N Z) (z_R Z) (z_D Z) (z_P Z) (z_T Z).1 (z_s Z) (z_S Z).1 (z_B Z).1 t) := HM.1
  have m8 : h[381]? = some (x_ia 51 (M 8)) := HM.2 8 (by decide)
  obtain ⟨w1, w2, w3, w4, w5, w6, w7, hq, wt, wi, wk, ws, wb, wx⟩ := id HZ
  obtain ⟨q0, q1, q2, q3, q9, q15, q21, q45⟩ := id hq
  have q21z : ∀ r9, r9 < z_R Z → M 8 (21 + r9) = q_la (z_Q Z) 0 r9 := fun r9 hr9 => q21 0 r9 (by decide) hr9
  have hB : x_HB (z_N Z) (z_R Z) (z_D Z) (z_P Z) (z_F Z) := hZ.1.hb
  have hQ : x_QB (z_N Z) (z_R Z) (z_P Z) (z_Q Z) := hZ.2.1.1
  obtain ⟨⟨b1, b2, b3, b4⟩, b5, b6, b7⟩ := id hB
  obtain ⟨u1, u2, u3, u4, u5, u6, u7, u8, u9⟩ := id hQ
  have bT : (z_T Z).1 ≤ 30 := hZ.2.2.1.1
  have bs : z_s Z < 2 ^ 31 := hZ.2.2.2.2.1
  have bX : (z_X Z).1 ≤ 240 := hZ.2.2.2.2.2.1.1
  have bXc : ∀ i, i < (z_X Z).1 → (z_X Z).2 i < 256 := hZ.2.2.2.2.2.1.2
  have bS : (z_S Z).1 ≤ 6 := hZ.2.2.2.2.2.2.1.1
  have bSr : ∀ i, i < (z_S Z).1 → (z_S Z).2.1 i < z_R Z := hZ.2.2.2.2.2.2.1.2
  have bB : (z_B Z).1 ≤ 20 := hZ.2.2.2.2.2.2.2.1
  have bBr : ∀ i, i < (z_B Z).1 → (z_B Z).2.1 i < z_R Z := hZ.2.2.2.2.2.2.2.2
  have FD := x_fD.rf h
  refine x_Met.of (lo := [some (.ref 372), some (.int p), none]) (by decide) rfl rfl rfl ?_
  refine R_aload_n dX8_say_0 rfl ?_
  refine R_iload_n dX8_say_1 rfl ?_
  refine R_cV1p (N := m_X8_isHeir) dX8_say_2 l_X8_229 i_X8_isHeir mo (n_isHeir C hZ hk _) rfl rfl ?_
  refine R_ifneB 11 dX8_say_5 rfl (fun c_5 => ?_) (fun c_5 => ?_)
  · obtain ⟨i, hi, rfl⟩ := x_has_t (by omega) c_5
    refine R_aload_n dX8_say_11 rfl ?_
    refine R_get dX8_say_12 f_X8_38 mo rfl ?_
    refine R_iconst (nI 2) dX8_say_15 rfl ?_
    refine R_iald dX8_say_16 m8 rfl (by omega) (by decide) ?_
    rw [q2]
    refine R_ldc (nI 90000) dX8_say_17 k_X8_235 ?_
    refine R_ltN 25 dX8_say_19 rfl (by omega) (by omega) (fun c_19 => ?_) (fun c_19 => ?_)
    · refine R_aload_n dX8_say_25 rfl ?_
      refine R_iload_n dX8_say_26 rfl ?_
      refine R_cV1p (N := m_X8_countsOf) dX8_say_27 l_X8_232 i_X8_countsOf mo (n_counts C hZ hk hi) rfl rfl ?_
      refine R_istore_n dX8_say_30 (Nat.le_of_ble_eq_true rfl) rfl ?_
      refine R_aload_n dX8_say_31 rfl ?_
      refine R_cV0v (N := m_X8_notes) dX8_say_32 l_X8_236 i_X8_notes mo (n_notes C hZ hk) rfl rfl (fun h32 q_32 => ?_)
      obtain ⟨⟨M, sd, kp, t, C⟩, FD1⟩ := q_32
      have FD := FD.trans FD1
      have hZ1 := hZ.t
      obtain ⟨HM, HZ⟩ := id C
      have mo : h32[372]? = some (x_mob (z_X Z).1 (z_f Z) (z_N Z) (z_R Z) (z_D Z) (z_P Z) (t_rem (z_Q Z) (z_T Z)).1 (z_s Z) (z_S Z).1 (z_B Z).1 t) := HM.1
      have m8 : h32[381]? = some (x_ia 51 (M 8)) := HM.2 8 (by decide)
      have hq : x_stq (M 8) (z_R Z) (z_P Z) (z_Q Z) := HZ.2.2.2.2.2.2.2.1
      obtain ⟨q0, q1, q2, q3, q9, q15, q21, q45⟩ := id hq
      have q21z : ∀ r9, r9 < z_R Z → M 8 (21 + r9) = q_la (z_Q Z) 0 r9 := fun r9 hr9 => q21 0 r9 (by decide) hr9
      refine R_aload_n dX8_say_35 rfl ?_
      refine R_iload_n dX8_say_36 rfl ?_
      refine R_cV1v (N := m_X8_says) dX8_say_37 l_X8_239 i_X8_says mo (n_says C hZ1 hk (p := i) hi) rfl rfl (fun h37 q_37 => ?_)
      obtain ⟨HMo, FD1⟩ := q_37
      have FD := FD.trans FD1
      refine R_iload_n dX8_say_40 rfl ?_
      exact R_iret dX8_say_41 rfl rfl rfl (x_KD.ok HMo FD (by rw [z_say, z_tb_t hi (by omega), if_neg (by omega)]))
    · refine R_ldc (-1000000004) dX8_say_22 k_X8_99 ?_
      exact R_iret dX8_say_24 rfl rfl rfl (x_KD.ok C.cl (x_fD.rf _) (by rw [z_say, z_tb_t hi (by omega), if_pos (by omega)]))
  · refine R_ldc (-1000000001) dX8_say_8 k_X8_222 ?_
    exact R_iret dX8_say_10 rfl rfl rfl (x_KD.ok C.cl (x_fD.rf _) (by rw [z_say, z_tb_f c_5]))
theorem n_behind {h : xH} {Z : xZ} {k : Nat} {M : Nat → Nat → Int32} {sd : Nat → Int64} {kp t : Nat → Int32} (C : x_ML h Z M sd kp t) (hZ : x_ZB k Z) (hk : k ≤ 50000) {d r : Nat} (hd : d < z_D Z) (hr : r < z_R Z) : x_Met m_X8_behind [.ref 372, .int (nI d), .int (nI r)] h (x_pr (s_behind (z_F Z) d r) h) := by
  obtain ⟨HM, HZ⟩ := id C
  have mo : h[372]? = some (x_mob (z_X Z).1 (z_f Z) (z_N Z) (z_R Z) (z_D Z) (z_P Z) (z_T Z).1 (z_s Z) (z_S Z).1 (z_B Z).1 t) := HM.1
  have m1 : h[374]? = some (x_ia 8 (M 1)) := HM.2 1 (by decide)
  have m2 : h[375]? = some (x_ia 8 (M 2)) := HM.2 2 (by decide)
  obtain ⟨w1, w2, w3, w4, w5, w6, w7, hq, wt, wi, wk, ws, wb, wx⟩ := id HZ
  obtain ⟨q0, q1, q2, q3, q9, q15, q21, q45⟩ := id hq
  have q21z : ∀ r9, r9 < z_R Z → M 8 (21 + r9) = q_la (z_Q Z) 0 r9 := fun r9 hr9 => q21 0 r9 (by decide) hr9
  have hB : x_HB (z_N Z) (z_R Z) (z_D Z) (z_P Z) (z_F Z) := hZ.1.hb
  have hQ : x_QB (z_N Z) (z_R Z) (z_P Z) (z_Q Z) := hZ.2.1.1
  obtain ⟨⟨b1, b2, b3, b4⟩, b5, b6, b7⟩ := id hB
  obtain ⟨u1, u2, u3, u4, u5, u6, u7, u8, u9⟩ := id hQ
  have bT : (z_T Z).1 ≤ 30 := hZ.2.2.1.1
  have bs : z_s Z < 2 ^ 31 := hZ.2.2.2.2.1
  have bX : (z_X Z).1 ≤ 240 := hZ.2.2.2.2.2.1.1
  have bXc : ∀ i, i < (z_X Z).1 → (z_X Z).2 i < 256 := hZ.2.2.2.2.2.1.2
  have bS : (z_S Z).1 ≤ 6 := hZ.2.2.2.2.2.2.1.1
  have bSr : ∀ i, i < (z_S Z).1 → (z_S Z).2.1 i < z_R Z := hZ.2.2.2.2.2.2.1.2
  have bB : (z_B Z).1 ≤ 20 := hZ.2.2.2.2.2.2.2.1
  have bBr : ∀ i, i < (z_B Z).1 → (z_B Z).2.1 i < z_R Z := hZ.2.2.2.2.2.2.2.2
  have w9 := b5 d hd
  refine x_Met.of (lo := [some (.ref 372), some (.int (nI d)), some (.int (nI r))]) (by decide) rfl rfl rfl ?_
  refine R_aload_n dX8_behind_0 rfl ?_
  refine R_get dX8_behind_1 f_X8_17 mo rfl ?_
  refine R_iload_n dX8_behind_4 rfl ?_
  refine R_iald dX8_behind_5 m1 rfl (by omega) (by decide) ?_
  rw [w1 d (by omega)]
  refine R_iload_n dX8_behind_6 rfl ?_
  refine R_neN 19 dX8_behind_7 rfl (by omega) (by omega) (fun c_7 => ?_) (fun c_7 => ?_)
  · refine R_aload_n dX8_behind_19 rfl ?_
    refine R_get dX8_behind_20 f_X8_20 mo rfl ?_
    refine R_iload_n dX8_behind_23 rfl ?_
    refine R_iald dX8_behind_24 m2 rfl (by omega) (by decide) ?_
    rw [w2 d (by omega)]
    refine R_iload_n dX8_behind_25 rfl ?_
    refine R_neN 38 dX8_behind_26 rfl (by omega) (by omega) (fun c_26 => ?_) (fun c_26 => ?_)
    · refine R_iconst (-1) dX8_behind_38 rfl ?_
      exact R_iret dX8_behind_39 rfl rfl rfl (x_pr.eq (by simp [s_behind, *]))
    · refine R_aload_n dX8_behind_29 rfl ?_
      refine R_get dX8_behind_30 f_X8_17 mo rfl ?_
      refine R_iload_n dX8_behind_33 rfl ?_
      refine R_iald dX8_behind_34 m1 rfl (by omega) (by decide) ?_
      rw [w1 d (by omega)]
      refine R_goto 39 dX8_behind_35 rfl ?_
      exact R_iret dX8_behind_39 rfl rfl rfl (x_pr.eq (by simp [s_behind, *]))
  · refine R_aload_n dX8_behind_10 rfl ?_
    refine R_get dX8_behind_11 f_X8_20 mo rfl ?_
    refine R_iload_n dX8_behind_14 rfl ?_
    refine R_iald dX8_behind_15 m2 rfl (by omega) (by decide) ?_
    rw [w2 d (by omega)]
    refine R_goto 39 dX8_behind_16 rfl ?_
    exact R_iret dX8_behind_39 rfl rfl rfl (x_pr.eq (by simp [s_behind, *]))
theorem n_go {h : xH} {Z : xZ} {k : Nat} {M : Nat → Nat → Int32} {sd : Nat → Int64} {kp t : Nat → Int32} (C : x_ML h Z M sd kp t) (hZ : x_ZB k Z) (hk : k ≤ 50000) (p d : Int32) : x_Met m_X8_go [.ref 372, .int p, .int d] h (x_KD h (z_go Z p d)) := by
  obtain ⟨HM, HZ⟩ := id C
  have mo : h[372]? = some (x_mob (z_X Z).1 (z_f Z) (z_N Z) (z_R Z) (z_D Z) (z_P Z) (z_T Z).1 (z_s Z) (z_S Z).1 (z_B Z).1 t) := HM.1
  have m8 : h[381]? = some (x_ia 51 (M 8)) := HM.2 8 (by decide)
  obtain ⟨w1, w2, w3, w4, w5, w6, w7, hq, wt, wi, wk, ws, wb, wx⟩ := id HZ
  obtain ⟨q0, q1, q2, q3, q9, q15, q21, q45⟩ := id hq
  have q21z : ∀ r9, r9 < z_R Z → M 8 (21 + r9) = q_la (z_Q Z) 0 r9 := fun r9 hr9 => q21 0 r9 (by decide) hr9
  have hB : x_HB (z_N Z) (z_R Z) (z_D Z) (z_P Z) (z_F Z) := hZ.1.hb
  have hQ : x_QB (z_N Z) (z_R Z) (z_P Z) (z_Q Z) := hZ.2.1.1
  obtain ⟨⟨b1, b2, b3, b4⟩, b5, b6, b7⟩ := id hB
  obtain ⟨u1, u2, u3, u4, u5, u6, u7, u8, u9⟩ := id hQ
  have bT : (z_T Z).1 ≤ 30 := hZ.2.2.1.1
  have bs : z_s Z < 2 ^ 31 := hZ.2.2.2.2.1
  have bX : (z_X Z).1 ≤ 240 := hZ.2.2.2.2.2.1.1
  have bXc : ∀ i, i < (z_X Z).1 → (z_X Z).2 i < 256 := hZ.2.2.2.2.2.1.2
  have bS : (z_S Z).1 ≤ 6 := hZ.2.2.2.2.2.2.1.1
  have bSr : ∀ i, i < (z_S Z).1 → (z_S Z).2.1 i < z_R Z := hZ.2.2.2.2.2.2.1.2
  have bB : (z_B Z).1 ≤ 20 := hZ.2.2.2.2.2.2.2.1
  have bBr : ∀ i, i < (z_B Z).1 → (z_B Z).2.1 i < z_R Z := hZ.2.2.2.2.2.2.2.2
  have FD := x_fD.rf h
  refine x_Met.of (lo := [some (.ref 372), some (.int p), some (.int d), none]) (by decide) rfl rfl rfl ?_
  refine R_aload_n dX8_go_0 rfl ?_
  refine R_iload_n dX8_go_1 rfl ?_
  refine R_cV1p (N := m_X8_isHeir) dX8_go_2 l_X8_229 i_X8_isHeir mo (n_isHeir C hZ hk _) rfl rfl ?_
  refine R_ifeqB 16 dX8_go_5 rfl (fun c_5 => ?_) (fun c_5 => ?_)
  · refine R_ldc (-1000000001) dX8_go_16 k_X8_222 ?_
    exact R_iret dX8_go_18 rfl rfl rfl (x_KD.ok C.cl (x_fD.rf _) (by rw [z_go, z_tb_f c_5]))
  · obtain ⟨i, hi, rfl⟩ := x_has_t (by omega) c_5
    refine R_aload_n dX8_go_8 rfl ?_
    refine R_iload_n dX8_go_9 rfl ?_
    refine R_cV1p (N := m_X8_isDoor) dX8_go_10 l_X8_226 i_X8_isDoor mo (n_isDoor C hZ hk _) rfl rfl ?_
    refine R_ifneB 19 dX8_go_13 rfl (fun c_13 => ?_) (fun c_13 => ?_)
    · obtain ⟨j, hj, rfl⟩ := x_has_t (by omega) c_13
      refine R_aload_n dX8_go_19 rfl ?_
      refine R_iload_n dX8_go_20 rfl ?_
      refine R_aload_n dX8_go_21 rfl ?_
      refine R_get dX8_go_22 f_X8_38 mo rfl ?_
      refine R_bipush (nI 45) dX8_go_25 rfl ?_
      refine R_iload_n dX8_go_27 rfl ?_
      refine R_iaddN dX8_go_28 ?_
      refine R_iald dX8_go_29 m8 rfl (by omega) (by decide) ?_
      rw [q45 i (by omega)]
      refine R_cV2p (N := m_X8_behind) dX8_go_30 l_X8_242 i_X8_behind mo (n_behind C hZ hk hj (u6 i hi)) rfl rfl ?_
      refine R_istore_n dX8_go_33 (Nat.le_of_ble_eq_true rfl) rfl ?_
      refine R_iload_n dX8_go_34 rfl ?_
      refine R_iconst (-1) dX8_go_35 rfl ?_
      refine R_icmpne 42 dX8_go_36 rfl (fun c_36 => ?_) (fun c_36 => ?_)
      · obtain ⟨x, hx, et⟩ := (s_behind_in (R := z_R Z) (r := q_pl (z_Q Z) i) (fun d hd => ⟨(b5 d hd).1, (b5 d hd).2.1⟩) hj).resolve_left c_36
        refine R_aload_n dX8_go_42 rfl ?_
        refine R_cV0v (N := m_X8_notes) dX8_go_43 l_X8_236 i_X8_notes mo (n_notes C hZ hk) rfl rfl (fun h43 q_43 => ?_)
        obtain ⟨⟨M, sd, kp, t, C⟩, FD1⟩ := q_43
        have FD := FD.trans FD1
        have hZ1 := hZ.t
        obtain ⟨HM, HZ⟩ := id C
        have mo : h43[372]? = some (x_mob (z_X Z).1 (z_f Z) (z_N Z) (z_R Z) (z_D Z) (z_P Z) (t_rem (z_Q Z) (z_T Z)).1 (z_s Z) (z_S Z).1 (z_B Z).1 t) := HM.1
        have m8 : h43[381]? = some (x_ia 51 (M 8)) := HM.2 8 (by decide)
        have hq : x_stq (M 8) (z_R Z) (z_P Z) (z_Q Z) := HZ.2.2.2.2.2.2.2.1
        obtain ⟨q0, q1, q2, q3, q9, q15, q21, q45⟩ := id hq
        have q21z : ∀ r9, r9 < z_R Z → M 8 (21 + r9) = q_la (z_Q Z) 0 r9 := fun r9 hr9 => q21 0 r9 (by decide) hr9
        refine R_aload_n dX8_go_46 rfl ?_
        refine R_get dX8_go_47 f_X8_38 mo rfl ?_
        refine R_bipush (nI 45) dX8_go_50 rfl ?_
        refine R_iload_n dX8_go_52 rfl ?_
        refine R_iaddN dX8_go_53 ?_
        refine R_iload_n dX8_go_54 rfl ?_
        refine R_iast dX8_go_55 m8 (by omega) rfl (by omega) (by decide) ?_
        have hq2 : x_stq (upd (M 8) (45 + i) (s_behind (z_F Z) j (q_pl (z_Q Z) i))) (z_R Z) (z_P Z) (q_go (z_Q Z) i (i_n (s_behind (z_F Z) j (q_pl (z_Q Z) i)))) := by
          have z := hq.pl b2 b4 hi (i_n (s_behind (z_F Z) j (q_pl (z_Q Z) i)))
          rw [show nI (i_n (s_behind (z_F Z) j (q_pl (z_Q Z) i))) = (s_behind (z_F Z) j (q_pl (z_Q Z) i)) by rw [et, i_n_nI (by omega)]] at z
          exact z
        have C := C.st hq2
        have FD := FD.set (c := 381) (x_ia 51 (upd (M 8) (45 + i) (s_behind (z_F Z) j (q_pl (z_Q Z) i)))) (by omega)
        refine R_iload_n dX8_go_56 rfl ?_
        exact R_iret dX8_go_57 rfl rfl rfl (x_KD.ok C.cl FD (by rw [z_go, z_tb_t hi (by omega), z_tb_t hj (by omega), if_neg c_36]))
      · refine R_ldc (-1000000003) dX8_go_39 k_X8_245 ?_
        exact R_iret dX8_go_41 rfl rfl rfl (x_KD.ok C.cl (x_fD.rf _) (by rw [z_go, z_tb_t hi (by omega), z_tb_t hj (by omega), if_pos c_36]))
    · refine R_ldc (-1000000001) dX8_go_16 k_X8_222 ?_
      exact R_iret dX8_go_18 rfl rfl rfl (x_KD.ok C.cl (x_fD.rf _) (by rw [z_go, z_tb_t hi (by omega), z_tb_f c_13]))
theorem n_out {h : xH} {Z : xZ} {k : Nat} {M : Nat → Nat → Int32} {sd : Nat → Int64} {kp t : Nat → Int32} (C : x_ML h Z M sd kp t) (hZ : x_ZB k Z) (hk : k ≤ 50000) (r : Int32) : x_Met m_X8_out [.ref 372, .int r] h (x_KD h (z_out Z r)) := by
  obtain ⟨HM, HZ⟩ := id C
  have mo : h[372]? = some (x_mob (z_X Z).1 (z_f Z) (z_N Z) (z_R Z) (z_D Z) (z_P Z) (z_T Z).1 (z_s Z) (z_S Z).1 (z_B Z).1 t) := HM.1
  have m8 : h[381]? = some (x_ia 51 (M 8)) := HM.2 8 (by decide)
  obtain ⟨w1, w2, w3, w4, w5, w6, w7, hq, wt, wi, wk, ws, wb, wx⟩ := id HZ
  obtain ⟨q0, q1, q2, q3, q9, q15, q21, q45⟩ := id hq
  have q21z : ∀ r9, r9 < z_R Z → M 8 (21 + r9) = q_la (z_Q Z) 0 r9 := fun r9 hr9 => q21 0 r9 (by decide) hr9
  have hB : x_HB (z_N Z) (z_R Z) (z_D Z) (z_P Z) (z_F Z) := hZ.1.hb
  have hQ : x_QB (z_N Z) (z_R Z) (z_P Z) (z_Q Z) := hZ.2.1.1
  obtain ⟨⟨b1, b2, b3, b4⟩, b5, b6, b7⟩ := id hB
  obtain ⟨u1, u2, u3, u4, u5, u6, u7, u8, u9⟩ := id hQ
  have bT : (z_T Z).1 ≤ 30 := hZ.2.2.1.1
  have bs : z_s Z < 2 ^ 31 := hZ.2.2.2.2.1
  have bX : (z_X Z).1 ≤ 240 := hZ.2.2.2.2.2.1.1
  have bXc : ∀ i, i < (z_X Z).1 → (z_X Z).2 i < 256 := hZ.2.2.2.2.2.1.2
  have bS : (z_S Z).1 ≤ 6 := hZ.2.2.2.2.2.2.1.1
  have bSr : ∀ i, i < (z_S Z).1 → (z_S Z).2.1 i < z_R Z := hZ.2.2.2.2.2.2.1.2
  have bB : (z_B Z).1 ≤ 20 := hZ.2.2.2.2.2.2.2.1
  have bBr : ∀ i, i < (z_B Z).1 → (z_B Z).2.1 i < z_R Z := hZ.2.2.2.2.2.2.2.2
  have FD := x_fD.rf h
  refine x_Met.of (lo := [some (.ref 372), some (.int r), none]) (by decide) rfl rfl rfl ?_
  refine R_aload_n dX8_out_0 rfl ?_
  refine R_iload_n dX8_out_1 rfl ?_
  refine R_cV1p (N := m_X8_isRoom) dX8_out_2 l_X8_218 i_X8_isRoom mo (n_isRoom C hZ hk _) rfl rfl ?_
  refine R_ifneB 11 dX8_out_5 rfl (fun c_5 => ?_) (fun c_5 => ?_)
  · obtain ⟨i, hi, rfl⟩ := x_has_t (by omega) c_5
    refine R_aload_n dX8_out_11 rfl ?_
    refine R_get dX8_out_12 f_X8_38 mo rfl ?_
    refine R_bipush (nI 9) dX8_out_15 rfl ?_
    refine R_iload_n dX8_out_17 rfl ?_
    refine R_iaddN dX8_out_18 ?_
    refine R_iald dX8_out_19 m8 rfl (by omega) (by decide) ?_
    rw [q9 i (by omega)]
    refine R_iconst (nI 1) dX8_out_20 rfl ?_
    refine R_icmpne 27 dX8_out_21 rfl (fun c_21 => ?_) (fun c_21 => ?_)
    · refine R_aload_n dX8_out_27 rfl ?_
      refine R_aload_n dX8_out_28 rfl ?_
      refine R_get dX8_out_29 f_X8_38 mo rfl ?_
      refine R_iload_n dX8_out_32 rfl ?_
      refine R_aload_n dX8_out_33 rfl ?_
      refine R_get dX8_out_34 f_X8_38 mo rfl ?_
      refine R_iconst (nI 0) dX8_out_37 rfl ?_
      refine R_iald dX8_out_38 m8 rfl (by omega) (by decide) ?_
      rw [q0]
      refine R_cV3p (N := m_X8_isLit) dX8_out_39 l_X8_177 i_X8_isLit mo (n_isLit C hZ hk hi u1) rfl rfl ?_
      refine R_ifeqB 49 dX8_out_42 rfl (fun c_42 => ?_) (fun c_42 => ?_)
      · refine R_iconst (nI 0) dX8_out_49 rfl ?_
        refine R_istore_n dX8_out_50 (Nat.le_of_ble_eq_true rfl) rfl ?_
        refine R_aload_n dX8_out_51 rfl ?_
        refine R_cV0v (N := m_X8_notes) dX8_out_52 l_X8_236 i_X8_notes mo (n_notes C hZ hk) rfl rfl (fun h52 q_52 => ?_)
        obtain ⟨⟨M, sd, kp, t, C⟩, FD1⟩ := q_52
        have FD := FD.trans FD1
        have hZ1 := hZ.t
        obtain ⟨HM, HZ⟩ := id C
        have mo : h52[372]? = some (x_mob (z_X Z).1 (z_f Z) (z_N Z) (z_R Z) (z_D Z) (z_P Z) (t_rem (z_Q Z) (z_T Z)).1 (z_s Z) (z_S Z).1 (z_B Z).1 t) := HM.1
        have m8 : h52[381]? = some (x_ia 51 (M 8)) := HM.2 8 (by decide)
        have hq : x_stq (M 8) (z_R Z) (z_P Z) (z_Q Z) := HZ.2.2.2.2.2.2.2.1
        obtain ⟨q0, q1, q2, q3, q9, q15, q21, q45⟩ := id hq
        have q21z : ∀ r9, r9 < z_R Z → M 8 (21 + r9) = q_la (z_Q Z) 0 r9 := fun r9 hr9 => q21 0 r9 (by decide) hr9
        refine R_aload_n dX8_out_55 rfl ?_
        refine R_get dX8_out_56 f_X8_38 mo rfl ?_
        refine R_bipush (nI 9) dX8_out_59 rfl ?_
        refine R_iload_n dX8_out_61 rfl ?_
        refine R_iaddN dX8_out_62 ?_
        refine R_iconst (nI 1) dX8_out_63 rfl ?_
        refine R_iast dX8_out_64 m8 (by omega) rfl (by omega) (by decide) ?_
        have hq2 : x_stq (upd (M 8) (9 + i) (x_b true)) (z_R Z) (z_P Z) (q_out (z_Q Z) i) := (hq.ou b2 hi true).eq rfl rfl rfl (fun _ _ => rfl) (fun j _ => by
          show (if j = i then true else q_ou (z_Q Z) j) = (q_ou (z_Q Z) j || decide (j = i))
          by_cases e : j = i
          · rw [if_pos e, decide_eq_true e, Bool.or_true]
          · rw [if_neg e, decide_eq_false e, Bool.or_false]) (fun _ _ => rfl) (fun _ _ _ _ => rfl) (fun _ _ => rfl)
        have C := C.st hq2
        have FD := FD.set (c := 381) (x_ia 51 (upd (M 8) (9 + i) (x_b true))) (by omega)
        refine R_iload_n dX8_out_65 rfl ?_
        exact R_iret dX8_out_66 rfl rfl rfl (x_KD.ok C.cl FD (by rw [z_out, z_tb_t hi (by omega), if_neg (by rw [x_b_n1.mp c_21]; decide), c_42]; rfl))
      · refine R_iconst (nI 1) dX8_out_45 rfl ?_
        refine R_goto 50 dX8_out_46 rfl ?_
        refine R_istore_n dX8_out_50 (Nat.le_of_ble_eq_true rfl) rfl ?_
        refine R_aload_n dX8_out_51 rfl ?_
        refine R_cV0v (N := m_X8_notes) dX8_out_52 l_X8_236 i_X8_notes mo (n_notes C hZ hk) rfl rfl (fun h52 q_52 => ?_)
        obtain ⟨⟨M, sd, kp, t, C⟩, FD1⟩ := q_52
        have FD := FD.trans FD1
        have hZ1 := hZ.t
        obtain ⟨HM, HZ⟩ := id C
        have mo : h52[372]? = some (x_mob (z_X Z).1 (z_f Z) (z_N Z) (z_R Z) (z_D Z) (z_P Z) (t_rem (z_Q Z) (z_T Z)).1 (z_s Z) (z_S Z).1 (z_B Z).1 t) := HM.1
        have m8 : h52[381]? = some (x_ia 51 (M 8)) := HM.2 8 (by decide)
        have hq : x_stq (M 8) (z_R Z) (z_P Z) (z_Q Z) := HZ.2.2.2.2.2.2.2.1
        obtain ⟨q0, q1, q2, q3, q9, q15, q21, q45⟩ := id hq
        have q21z : ∀ r9, r9 < z_R Z → M 8 (21 + r9) = q_la (z_Q Z) 0 r9 := fun r9 hr9 => q21 0 r9 (by decide) hr9
        refine R_aload_n dX8_out_55 rfl ?_
        refine R_get dX8_out_56 f_X8_38 mo rfl ?_
        refine R_bipush (nI 9) dX8_out_59 rfl ?_
        refine R_iload_n dX8_out_61 rfl ?_
        refine R_iaddN dX8_out_62 ?_
        refine R_iconst (nI 1) dX8_out_63 rfl ?_
        refine R_iast dX8_out_64 m8 (by omega) rfl (by omega) (by decide) ?_
        have hq2 : x_stq (upd (M 8) (9 + i) (x_b true)) (z_R Z) (z_P Z) (q_out (z_Q Z) i) := (hq.ou b2 hi true).eq rfl rfl rfl (fun _ _ => rfl) (fun j _ => by
          show (if j = i then true else q_ou (z_Q Z) j) = (q_ou (z_Q Z) j || decide (j = i))
          by_cases e : j = i
          · rw [if_pos e, decide_eq_true e, Bool.or_true]
          · rw [if_neg e, decide_eq_false e, Bool.or_false]) (fun _ _ => rfl) (fun _ _ _ _ => rfl) (fun _ _ => rfl)
        have C := C.st hq2
        have FD := FD.set (c := 381) (x_ia 51 (upd (M 8) (9 + i) (x_b true))) (by omega)
        refine R_iload_n dX8_out_65 rfl ?_
        exact R_iret dX8_out_66 rfl rfl rfl (x_KD.ok C.cl FD (by rw [z_out, z_tb_t hi (by omega), if_neg (by rw [x_b_n1.mp c_21]; decide), c_42]; rfl))
    · refine R_ldc (-1000000003) dX8_out_24 k_X8_245 ?_
      exact R_iret dX8_out_26 rfl rfl rfl (x_KD.ok C.cl (x_fD.rf _) (by rw [z_out, z_tb_t hi (by omega), if_pos (x_b_is1.mp c_21)]))
  · refine R_ldc (-1000000001) dX8_out_8 k_X8_222 ?_
    exact R_iret dX8_out_10 rfl rfl rfl (x_KD.ok C.cl (x_fD.rf _) (by rw [z_out, z_tb_f c_5]))
theorem n_light {h : xH} {Z : xZ} {k : Nat} {M : Nat → Nat → Int32} {sd : Nat → Int64} {kp t : Nat → Int32} (C : x_ML h Z M sd kp t) (hZ : x_ZB k Z) (hk : k + 1 ≤ 50000) (r : Int32) : x_Met m_X8_light [.ref 372, .int r] h (x_KD h (z_light Z r)) := by
  have hk1 := hk
  have hk : k ≤ 50000 := by omega
  obtain ⟨HM, HZ⟩ := id C
  have mo : h[372]? = some (x_mob (z_X Z).1 (z_f Z) (z_N Z) (z_R Z) (z_D Z) (z_P Z) (z_T Z).1 (z_s Z) (z_S Z).1 (z_B Z).1 t) := HM.1
  have m8 : h[381]? = some (x_ia 51 (M 8)) := HM.2 8 (by decide)
  obtain ⟨w1, w2, w3, w4, w5, w6, w7, hq, wt, wi, wk, ws, wb, wx⟩ := id HZ
  obtain ⟨q0, q1, q2, q3, q9, q15, q21, q45⟩ := id hq
  have q21z : ∀ r9, r9 < z_R Z → M 8 (21 + r9) = q_la (z_Q Z) 0 r9 := fun r9 hr9 => q21 0 r9 (by decide) hr9
  have hB : x_HB (z_N Z) (z_R Z) (z_D Z) (z_P Z) (z_F Z) := hZ.1.hb
  have hQ : x_QB (z_N Z) (z_R Z) (z_P Z) (z_Q Z) := hZ.2.1.1
  obtain ⟨⟨b1, b2, b3, b4⟩, b5, b6, b7⟩ := id hB
  obtain ⟨u1, u2, u3, u4, u5, u6, u7, u8, u9⟩ := id hQ
  have bT : (z_T Z).1 ≤ 30 := hZ.2.2.1.1
  have bs : z_s Z < 2 ^ 31 := hZ.2.2.2.2.1
  have bX : (z_X Z).1 ≤ 240 := hZ.2.2.2.2.2.1.1
  have bXc : ∀ i, i < (z_X Z).1 → (z_X Z).2 i < 256 := hZ.2.2.2.2.2.1.2
  have bS : (z_S Z).1 ≤ 6 := hZ.2.2.2.2.2.2.1.1
  have bSr : ∀ i, i < (z_S Z).1 → (z_S Z).2.1 i < z_R Z := hZ.2.2.2.2.2.2.1.2
  have bB : (z_B Z).1 ≤ 20 := hZ.2.2.2.2.2.2.2.1
  have bBr : ∀ i, i < (z_B Z).1 → (z_B Z).2.1 i < z_R Z := hZ.2.2.2.2.2.2.2.2
  have FD := x_fD.rf h
  refine x_Met.of (lo := [some (.ref 372), some (.int r)]) (by decide) rfl rfl rfl ?_
  refine R_aload_n dX8_light_0 rfl ?_
  refine R_iload_n dX8_light_1 rfl ?_
  refine R_cV1p (N := m_X8_isRoom) dX8_light_2 l_X8_218 i_X8_isRoom mo (n_isRoom C hZ hk _) rfl rfl ?_
  refine R_ifneB 11 dX8_light_5 rfl (fun c_5 => ?_) (fun c_5 => ?_)
  · obtain ⟨i, hi, rfl⟩ := x_has_t (by omega) c_5
    refine R_aload_n dX8_light_11 rfl ?_
    refine R_get dX8_light_12 f_X8_38 mo rfl ?_
    refine R_bipush (nI 9) dX8_light_15 rfl ?_
    refine R_iload_n dX8_light_17 rfl ?_
    refine R_iaddN dX8_light_18 ?_
    refine R_iald dX8_light_19 m8 rfl (by omega) (by decide) ?_
    rw [q9 i (by omega)]
    refine R_ifneB 26 dX8_light_20 rfl (fun c_20 => ?_) (fun c_20 => ?_)
    · refine R_aload_n dX8_light_26 rfl ?_
      refine R_cV0v (N := m_X8_notes) dX8_light_27 l_X8_236 i_X8_notes mo (n_notes C hZ hk) rfl rfl (fun h27 q_27 => ?_)
      obtain ⟨⟨M, sd, kp, t, C⟩, FD1⟩ := q_27
      have FD := FD.trans FD1
      have hZ1 := hZ.t
      obtain ⟨HM, HZ⟩ := id C
      have mo : h27[372]? = some (x_mob (z_X Z).1 (z_f Z) (z_N Z) (z_R Z) (z_D Z) (z_P Z) (t_rem (z_Q Z) (z_T Z)).1 (z_s Z) (z_S Z).1 (z_B Z).1 t) := HM.1
      have m8 : h27[381]? = some (x_ia 51 (M 8)) := HM.2 8 (by decide)
      have hq : x_stq (M 8) (z_R Z) (z_P Z) (z_Q Z) := HZ.2.2.2.2.2.2.2.1
      obtain ⟨q0, q1, q2, q3, q9, q15, q21, q45⟩ := id hq
      have q21z : ∀ r9, r9 < z_R Z → M 8 (21 + r9) = q_la (z_Q Z) 0 r9 := fun r9 hr9 => q21 0 r9 (by decide) hr9
      refine R_aload_n dX8_light_30 rfl ?_
      refine R_get dX8_light_31 f_X8_38 mo rfl ?_
      refine R_bipush (nI 9) dX8_light_34 rfl ?_
      refine R_iload_n dX8_light_36 rfl ?_
      refine R_iaddN dX8_light_37 ?_
      refine R_iconst (nI 0) dX8_light_38 rfl ?_
      refine R_iast dX8_light_39 m8 (by omega) rfl (by omega) (by decide) ?_
      have hq2 : x_stq (upd (M 8) (9 + i) (x_b false)) (z_R Z) (z_P Z) (q_lit (z_Q Z) i) := (hq.ou b2 hi false).eq rfl rfl rfl (fun _ _ => rfl) (fun j _ => by
        show (if j = i then false else q_ou (z_Q Z) j) = (q_ou (z_Q Z) j && decide (¬ j = i))
        by_cases e : j = i
        · rw [if_pos e, decide_eq_false (fun z => z e), Bool.and_false]
        · rw [if_neg e, decide_eq_true e, Bool.and_true]) (fun _ _ => rfl) (fun _ _ _ _ => rfl) (fun _ _ => rfl)
      have C := C.st hq2
      have FD := FD.set (c := 381) (x_ia 51 (upd (M 8) (9 + i) (x_b false))) (by omega)
      have hZ2 := hZ.qt (hZ.2.1.lit (r := i))
      obtain ⟨HM, HZ⟩ := id C
      have mo : (List.set h27 381 (x_ia 51 (upd (M 8) (9 + i) (x_b false))))[372]? = some (x_mob (z_X Z).1 (z_f Z) (z_N Z) (z_R Z) (z_D Z) (z_P Z) (t_rem (z_Q Z) (z_T Z)).1 (z_s Z) (z_S Z).1 (z_B Z).1 t) := HM.1
      have m8 : (List.set h27 381 (x_ia 51 (upd (M 8) (9 + i) (x_b false))))[381]? = some (x_ia 51 ((s_arr M 8 (upd (M 8) (9 + i) (x_b false))) 8)) := HM.2 8 (by decide)
      have hq : x_stq ((s_arr M 8 (upd (M 8) (9 + i) (x_b false))) 8) (z_R Z) (z_P Z) (q_lit (z_Q Z) i) := HZ.2.2.2.2.2.2.2.1
      obtain ⟨q0, q1, q2, q3, q9, q15, q21, q45⟩ := id hq
      have q21z : ∀ r9, r9 < z_R Z → (s_arr M 8 (upd (M 8) (9 + i) (x_b false))) 8 (21 + r9) = q_la (q_lit (z_Q Z) i) 0 r9 := fun r9 hr9 => q21 0 r9 (by decide) hr9
      refine R_aload_n dX8_light_40 rfl ?_
      refine R_aload_n dX8_light_41 rfl ?_
      refine R_get dX8_light_42 f_X8_38 mo rfl ?_
      refine R_iload_n dX8_light_45 rfl ?_
      refine R_aload_n dX8_light_46 rfl ?_
      refine R_get dX8_light_47 f_X8_38 mo rfl ?_
      refine R_iconst (nI 0) dX8_light_50 rfl ?_
      refine R_iald dX8_light_51 m8 rfl (by omega) (by decide) ?_
      rw [show s_arr M 8 (upd (M 8) (9 + i) (x_b false)) 8 0 = nI (q_hr (z_Q Z)) from q0]
      refine R_cV3p (N := m_X8_isLit) dX8_light_52 l_X8_177 i_X8_isLit mo (n_isLit C hZ2 hk1 hi u1) rfl rfl ?_
      refine R_ifeqB 62 dX8_light_55 rfl (fun c_55 => ?_) (fun c_55 => ?_)
      · refine R_iconst (nI 0) dX8_light_62 rfl ?_
        exact R_iret dX8_light_63 rfl rfl rfl (x_KD.ok C.cl FD (by rw [z_light, z_tb_t hi (by omega), if_neg (by rw [c_20]; decide), show s_lit (q_lit (z_Q Z) i) (q_hr (z_Q Z)) i = _ from c_55]; rfl))
      · refine R_iconst (nI 1) dX8_light_58 rfl ?_
        refine R_goto 63 dX8_light_59 rfl ?_
        exact R_iret dX8_light_63 rfl rfl rfl (x_KD.ok C.cl FD (by rw [z_light, z_tb_t hi (by omega), if_neg (by rw [c_20]; decide), show s_lit (q_lit (z_Q Z) i) (q_hr (z_Q Z)) i = _ from c_55]; rfl))
    · refine R_ldc (-1000000003) dX8_light_23 k_X8_245 ?_
      exact R_iret dX8_light_25 rfl rfl rfl (x_KD.ok C.cl (x_fD.rf _) (by rw [z_light, z_tb_t hi (by omega), if_pos c_20]))
  · refine R_ldc (-1000000001) dX8_light_8 k_X8_222 ?_
    exact R_iret dX8_light_10 rfl rfl rfl (x_KD.ok C.cl (x_fD.rf _) (by rw [z_light, z_tb_f c_5]))
theorem n_candle {h : xH} {Z : xZ} {k : Nat} {M : Nat → Nat → Int32} {sd : Nat → Int64} {kp t : Nat → Int32} (C : x_ML h Z M sd kp t) (hZ : x_ZB k Z) (hk : k ≤ 50000) (r c : Int32) : x_Met m_X8_candle [.ref 372, .int r, .int c] h (x_KD h (z_candle Z r c)) := by
  obtain ⟨HM, HZ⟩ := id C
  have mo : h[372]? = some (x_mob (z_X Z).1 (z_f Z) (z_N Z) (z_R Z) (z_D Z) (z_P Z) (z_T Z).1 (z_s Z) (z_S Z).1 (z_B Z).1 t) := HM.1
  have m8 : h[381]? = some (x_ia 51 (M 8)) := HM.2 8 (by decide)
  obtain ⟨w1, w2, w3, w4, w5, w6, w7, hq, wt, wi, wk, ws, wb, wx⟩ := id HZ
  obtain ⟨q0, q1, q2, q3, q9, q15, q21, q45⟩ := id hq
  have q21z : ∀ r9, r9 < z_R Z → M 8 (21 + r9) = q_la (z_Q Z) 0 r9 := fun r9 hr9 => q21 0 r9 (by decide) hr9
  have hB : x_HB (z_N Z) (z_R Z) (z_D Z) (z_P Z) (z_F Z) := hZ.1.hb
  have hQ : x_QB (z_N Z) (z_R Z) (z_P Z) (z_Q Z) := hZ.2.1.1
  obtain ⟨⟨b1, b2, b3, b4⟩, b5, b6, b7⟩ := id hB
  obtain ⟨u1, u2, u3, u4, u5, u6, u7, u8, u9⟩ := id hQ
  have bT : (z_T Z).1 ≤ 30 := hZ.2.2.1.1
  have bs : z_s Z < 2 ^ 31 := hZ.2.2.2.2.1
  have bX : (z_X Z).1 ≤ 240 := hZ.2.2.2.2.2.1.1
  have bXc : ∀ i, i < (z_X Z).1 → (z_X Z).2 i < 256 := hZ.2.2.2.2.2.1.2
  have bS : (z_S Z).1 ≤ 6 := hZ.2.2.2.2.2.2.1.1
  have bSr : ∀ i, i < (z_S Z).1 → (z_S Z).2.1 i < z_R Z := hZ.2.2.2.2.2.2.1.2
  have bB : (z_B Z).1 ≤ 20 := hZ.2.2.2.2.2.2.2.1
  have bBr : ∀ i, i < (z_B Z).1 → (z_B Z).2.1 i < z_R Z := hZ.2.2.2.2.2.2.2.2
  have FD := x_fD.rf h
  refine x_Met.of (lo := [some (.ref 372), some (.int r), some (.int c), none]) (by decide) rfl rfl rfl ?_
  refine R_aload_n dX8_candle_0 rfl ?_
  refine R_iload_n dX8_candle_1 rfl ?_
  refine R_cV1p (N := m_X8_isRoom) dX8_candle_2 l_X8_218 i_X8_isRoom mo (n_isRoom C hZ hk _) rfl rfl ?_
  refine R_ifneB 11 dX8_candle_5 rfl (fun c_5 => ?_) (fun c_5 => ?_)
  · obtain ⟨i, hi, rfl⟩ := x_has_t (by omega) c_5
    refine R_iload_n dX8_candle_11 rfl ?_
    refine R_iconst (nI 0) dX8_candle_12 rfl ?_
    refine R_bipush (nI 20) dX8_candle_13 rfl ?_
    refine R_cS3p (N := m_X8_in) dX8_candle_15 l_X8_85 i_X8_in (n_in _ _ _) rfl rfl ?_
    refine R_ifneB 24 dX8_candle_18 rfl (fun c_18 => ?_) (fun c_18 => ?_)
    · obtain ⟨j, hj1, hj2, rfl⟩ := x_in_t (a := 0) (b := 20) (by decide) (by decide) c_18
      refine R_aload_n dX8_candle_24 rfl ?_
      refine R_get dX8_candle_25 f_X8_38 mo rfl ?_
      refine R_iconst (nI 3) dX8_candle_28 rfl ?_
      refine R_iload_n dX8_candle_29 rfl ?_
      refine R_iaddN dX8_candle_30 ?_
      refine R_iald dX8_candle_31 m8 rfl (by omega) (by decide) ?_
      rw [q3 i (by omega)]
      refine R_istore_n dX8_candle_32 (Nat.le_of_ble_eq_true rfl) rfl ?_
      refine R_aload_n dX8_candle_33 rfl ?_
      refine R_cV0v (N := m_X8_notes) dX8_candle_34 l_X8_236 i_X8_notes mo (n_notes C hZ hk) rfl rfl (fun h34 q_34 => ?_)
      obtain ⟨⟨M, sd, kp, t, C⟩, FD1⟩ := q_34
      have FD := FD.trans FD1
      have hZ1 := hZ.t
      obtain ⟨HM, HZ⟩ := id C
      have mo : h34[372]? = some (x_mob (z_X Z).1 (z_f Z) (z_N Z) (z_R Z) (z_D Z) (z_P Z) (t_rem (z_Q Z) (z_T Z)).1 (z_s Z) (z_S Z).1 (z_B Z).1 t) := HM.1
      have m8 : h34[381]? = some (x_ia 51 (M 8)) := HM.2 8 (by decide)
      have hq : x_stq (M 8) (z_R Z) (z_P Z) (z_Q Z) := HZ.2.2.2.2.2.2.2.1
      obtain ⟨q0, q1, q2, q3, q9, q15, q21, q45⟩ := id hq
      have q21z : ∀ r9, r9 < z_R Z → M 8 (21 + r9) = q_la (z_Q Z) 0 r9 := fun r9 hr9 => q21 0 r9 (by decide) hr9
      refine R_aload_n dX8_candle_37 rfl ?_
      refine R_get dX8_candle_38 f_X8_38 mo rfl ?_
      refine R_iconst (nI 3) dX8_candle_41 rfl ?_
      refine R_iload_n dX8_candle_42 rfl ?_
      refine R_iaddN dX8_candle_43 ?_
      refine R_iload_n dX8_candle_44 rfl ?_
      refine R_iast dX8_candle_45 m8 (by omega) rfl (by omega) (by decide) ?_
      have C := C.st (hq.bu b2 hi j)
      have FD := FD.set (c := 381) (x_ia 51 (upd (M 8) (3 + i) (nI j))) (by omega)
      refine R_iload_n dX8_candle_46 rfl ?_
      exact R_iret dX8_candle_47 rfl rfl rfl (x_KD.ok C.cl FD (by rw [z_candle, z_tb_t hi (by omega), z_rg_t hj1 hj2 (by decide)]; rfl))
    · refine R_ldc (-1000000002) dX8_candle_21 k_X8_95 ?_
      exact R_iret dX8_candle_23 rfl rfl rfl (x_KD.ok C.cl (x_fD.rf _) (by rw [z_candle, z_tb_t hi (by omega), z_rg_in c_18]))
  · refine R_ldc (-1000000001) dX8_candle_8 k_X8_222 ?_
    exact R_iret dX8_candle_10 rfl rfl rfl (x_KD.ok C.cl (x_fD.rf _) (by rw [z_candle, z_tb_f c_5]))
