/-! THE MODEL: undo, see, write, tear, seed, keep, go back -/
theorem x_ML.undo {h : xH} {Z : xZ} {M : Nat → Nat → Int32} {sd : Nat → Int64} {kp t : Nat → Int32} (C : x_ML h Z M sd kp t) {n : Nat} {g : Nat → Int32} (hn1 : 1 ≤ n) (hn : n ≤ (z_T Z).1) (hq : x_stq g (z_R Z) (z_P Z) ((z_T Z).2 (n - 1))) : x_ML ((h.set 372 (x_mob (z_X Z).1 (z_f Z) (z_N Z) (z_R Z) (z_D Z) (z_P Z) ((z_T Z).1 - n) (z_s Z) (z_S Z).1 (z_B Z).1 t)).set 381 (x_ia 51 g)) (z_setQ (z_setT Z ((z_T Z).1 - n, fun j => (z_T Z).2 (j + n))) ((z_T Z).2 (n - 1))) (s_arr M 8 g) sd kp t := by
  refine ⟨(C.1.obj _).arr (i := 8) (by decide) (by decide) (by decide) g, C.2.1, C.2.2.1, C.2.2.2.1, C.2.2.2.2.1, C.2.2.2.2.2.1, C.2.2.2.2.2.2.1, C.2.2.2.2.2.2.2.1, hq, fun j hj => ?_, C.2.2.2.2.2.2.2.2.2.2⟩
  have hj : j < (z_T Z).1 - n := hj
  have z := C.2.2.2.2.2.2.2.2.2.1 (j + n) (by omega)
  rw [show (z_T Z).1 - 1 - (j + n) = (z_T Z).1 - n - 1 - j by omega] at z
  exact z
theorem x_ML.keep {h : xH} {Z : xZ} {M : Nat → Nat → Int32} {sd : Nat → Int64} {kp t : Nat → Int32} (C : x_ML h Z M sd kp t) {j : Nat} (hj : j < 2) (hR : z_R Z ≤ 6) (hP : z_P Z ≤ 6) : x_ML ((((h.set 383 (x_ia 102 (va_cpy (M 8) (M 10) 0 (51 * j) 51))).set 384 (x_la 2 (vp_updL sd j (lN (z_s Z))))).set 385 (.inl (2, 2, .inl (upd kp j (nI 1))))).set 372 (x_mob (z_X Z).1 (z_f Z) (z_N Z) (z_R Z) (z_D Z) (z_P Z) 0 (z_s Z) (z_S Z).1 (z_B Z).1 t)) (z_setT (z_setI Z (fun x => if x = j then true else (z_I Z).1 x, fun x => if x = j then z_Q Z else (z_I Z).2.1 x, fun x => if x = j then z_s Z else (z_I Z).2.2 x)) (z_none (z_T Z))) (s_arr M 10 (va_cpy (M 8) (M 10) 0 (51 * j) 51)) (vp_updL sd j (lN (z_s Z))) (upd kp j (nI 1)) t := by
  refine ⟨(((C.1.arr (i := 10) (by decide) (by decide) (by decide) _).sd _).kp _).obj _, C.2.1, C.2.2.1, C.2.2.2.1, C.2.2.2.2.1, C.2.2.2.2.2.1, C.2.2.2.2.2.2.1, C.2.2.2.2.2.2.2.1, C.2.2.2.2.2.2.2.2.1, fun j hj => absurd hj (Nat.not_lt_zero j), fun i hi ht => ?_, fun i hi => ?_, C.2.2.2.2.2.2.2.2.2.2.2.2⟩
  · show x_stq (fun x => va_cpy (M 8) (M 10) 0 (51 * j) 51 (51 * i + x)) _ _ (if i = j then z_Q Z else (z_I Z).2.1 i) ∧ vp_updL sd j (lN (z_s Z)) i = lN (if i = j then z_s Z else (z_I Z).2.2 i)
    have ht : (if i = j then true else (z_I Z).1 i) = true := ht
    by_cases e : i = j
    · subst e
      rw [if_pos rfl, if_pos rfl]
      refine ⟨C.2.2.2.2.2.2.2.2.1.cong hR hP (fun x hx => ?_), by unfold vp_updL; rw [if_pos rfl]⟩
      show va_cpy (M 8) (M 10) 0 (51 * i) 51 (51 * i + x) = M 8 x
      unfold va_cpy
      rw [if_pos (by omega), show 0 + (51 * i + x - 51 * i) = x by omega]
    · rw [if_neg e] at ht ⊢
      rw [if_neg e]
      have z := C.2.2.2.2.2.2.2.2.2.2.1 i hi ht
      refine ⟨z.1.cong hR hP (fun x hx => ?_), by unfold vp_updL; rw [if_neg e]; exact z.2⟩
      show va_cpy (M 8) (M 10) 0 (51 * j) 51 (51 * i + x) = M 10 (51 * i + x)
      unfold va_cpy
      rw [if_neg (by omega)]
  · show upd kp j (nI 1) i = x_b (if i = j then true else (z_I Z).1 i)
    by_cases e : i = j
    · subst e; rw [x_upd_eq, if_pos rfl]; rfl
    · rw [x_upd_ne e, if_neg e]; exact C.2.2.2.2.2.2.2.2.2.2.2.1 i hi
theorem x_ML.back {h : xH} {Z : xZ} {M : Nat → Nat → Int32} {sd : Nat → Int64} {kp t : Nat → Int32} (C : x_ML h Z M sd kp t) {g : Nat → Int32} {Q : xQ} {s : Nat} (hq : x_stq g (z_R Z) (z_P Z) Q) : x_ML (((h.set 381 (x_ia 51 g)).set 372 (x_mob (z_X Z).1 (z_f Z) (z_N Z) (z_R Z) (z_D Z) (z_P Z) (z_T Z).1 s (z_S Z).1 (z_B Z).1 t)).set 372 (x_mob (z_X Z).1 (z_f Z) (z_N Z) (z_R Z) (z_D Z) (z_P Z) 0 s (z_S Z).1 (z_B Z).1 t)) (z_setT (z_sets (z_setQ Z Q) s) (z_none (z_T Z))) (s_arr M 8 g) sd kp t :=
  ((C.st hq).seed s).none
theorem n_undo {h : xH} {Z : xZ} {k : Nat} {M : Nat → Nat → Int32} {sd : Nat → Int64} {kp t : Nat → Int32} (C : x_ML h Z M sd kp t) (hZ : x_ZB k Z) (hk : k ≤ 50000) (n : Int32) : x_Met m_X8_undo [.ref 372, .int n] h (x_KD h (z_undo Z n)) := by
  obtain ⟨HM, HZ⟩ := id C
  have mo : h[372]? = some (x_mob (z_X Z).1 (z_f Z) (z_N Z) (z_R Z) (z_D Z) (z_P Z) (z_T Z).1 (z_s Z) (z_S Z).1 (z_B Z).1 t) := HM.1
  have m8 : h[381]? = some (x_ia 51 (M 8)) := HM.2 8 (by decide)
  have m9 : h[382]? = some (x_ia 1530 (M 9)) := HM.2 9 (by decide)
  obtain ⟨w1, w2, w3, w4, w5, w6, w7, hq, wt, wi, wk, ws, wb, wx⟩ := id HZ
  obtain ⟨q0, q1, q2, q3, q9, q15, q21, q45⟩ := id hq
  have q21z : ∀ r9, r9 < z_R Z → M 8 (21 + r9) = q_la (z_Q Z) 0 r9 := fun r9 hr9 => q21 0 r9 (by decide) hr9
  have hB : x_HB (z_N Z) (z_R Z) (z_D Z) (z_P Z) (z_F Z) := hZ.1.hb
  have hQ : x_QB (z_N Z) (z_R Z) (z_P Z) (z_Q Z) := hZ.2.1.1
  obtain ⟨⟨b1, b2, b3, b4⟩, b5, b6, b7⟩ := id hB
  obtain ⟨u1, u2, u3, u4, u5, u6, u7, u8, u9⟩ := id hQ
  have bT : (z_T Z).1 ≤ 30 := hZ.2.2.1.1
  have bs : z_s Z < 2 ^ 31 := hZ.2.2.2.2.1
  have bX : (z_X Z).1 ≤ 240 := hZ.2.2.2.2.2.1.1
  have bXc : ∀ i, i < (z_X Z).1 → (z_X Z).2 i < 256 := hZ.2.2.2.2.2.1.2
  have bS : (z_S Z).1 ≤ 6 := hZ.2.2.2.2.2.2.1.1
  have bSr : ∀ i, i < (z_S Z).1 → (z_S Z).2.1 i < z_R Z := hZ.2.2.2.2.2.2.1.2
  have bB : (z_B Z).1 ≤ 20 := hZ.2.2.2.2.2.2.2.1
  have bBr : ∀ i, i < (z_B Z).1 → (z_B Z).2.1 i < z_R Z := hZ.2.2.2.2.2.2.2.2
  have FD := x_fD.rf h
  refine x_Met.of (lo := [some (.ref 372), some (.int n)]) (by decide) rfl rfl rfl ?_
  refine R_iload_n dX8_undo_0 rfl ?_
  refine R_iconst (nI 1) dX8_undo_1 rfl ?_
  refine R_bipush (nI 30) dX8_undo_2 rfl ?_
  refine R_cS3p (N := m_X8_in) dX8_undo_4 l_X8_85 i_X8_in (n_in _ _ _) rfl rfl ?_
  refine R_ifneB 13 dX8_undo_7 rfl (fun c_7 => ?_) (fun c_7 => ?_)
  · obtain ⟨i, hi1, hi2, rfl⟩ := x_in_t (a := 1) (b := 30) (by decide) (by decide) c_7
    refine R_iload_n dX8_undo_13 rfl ?_
    refine R_aload_n dX8_undo_14 rfl ?_
    refine R_get dX8_undo_15 f_X8_164 mo rfl ?_
    refine R_leN 24 dX8_undo_18 rfl (by omega) (by omega) (fun c_18 => ?_) (fun c_18 => ?_)
    · refine R_aload_n dX8_undo_24 rfl ?_
      refine R_dup dX8_undo_25 rfl ?_
      refine R_get dX8_undo_26 f_X8_164 mo rfl ?_
      refine R_iload_n dX8_undo_29 rfl ?_
      refine R_isubN dX8_undo_30 (by omega) ?_
      refine R_put dX8_undo_31 f_X8_164 mo (Nat.le_of_ble_eq_true rfl) (fun _ => rfl) (fun _ => rfl) ?_
      simp only [List.set_cons_succ, List.set_cons_zero]
      have mo : (List.set h 372 (x_mob ((z_X Z).1) (z_f Z) (z_N Z) (z_R Z) (z_D Z) (z_P Z) ((z_T Z).1 - i) (z_s Z) ((z_S Z).1) ((z_B Z).1) t))[372]? = some (x_mob ((z_X Z).1) (z_f Z) (z_N Z) (z_R Z) (z_D Z) (z_P Z) ((z_T Z).1 - i) (z_s Z) ((z_S Z).1) ((z_B Z).1) t) := List.getElem?_set_self (List.getElem?_eq_some_iff.mp mo).1
      have m8 : (List.set h 372 (x_mob ((z_X Z).1) (z_f Z) (z_N Z) (z_R Z) (z_D Z) (z_P Z) ((z_T Z).1 - i) (z_s Z) ((z_S Z).1) ((z_B Z).1) t))[381]? = some (x_ia 51 (M 8)) := (List.getElem?_set_ne (by omega)).trans m8
      have m9 : (List.set h 372 (x_mob ((z_X Z).1) (z_f Z) (z_N Z) (z_R Z) (z_D Z) (z_P Z) ((z_T Z).1 - i) (z_s Z) ((z_S Z).1) ((z_B Z).1) t))[382]? = some (x_ia 1530 (M 9)) := (List.getElem?_set_ne (by omega)).trans m9
      refine R_aload_n dX8_undo_34 rfl ?_
      refine R_get dX8_undo_35 f_X8_41 mo rfl ?_
      refine R_bipush (nI 51) dX8_undo_38 rfl ?_
      refine R_aload_n dX8_undo_40 rfl ?_
      refine R_get dX8_undo_41 f_X8_164 mo rfl ?_
      refine R_imulN dX8_undo_44 ?_
      refine R_aload_n dX8_undo_45 rfl ?_
      refine R_get dX8_undo_46 f_X8_38 mo rfl ?_
      refine R_iconst (nI 0) dX8_undo_49 rfl ?_
      refine R_bipush (nI 51) dX8_undo_50 rfl ?_
      refine R_cS5v (N := m_X8_bring) dX8_undo_52 l_X8_157 i_X8_bring (n_bring (na := 1530) (nb := 51) m9 m8 (by decide) (by omega) (by omega) (by omega) (by omega) (by decide) (by decide)) rfl rfl (fun h52 q_52 => ?_)
      subst q_52
      have hq2 : x_stq (va_cpy (M 9) (M 8) (51 * ((z_T Z).1 - i)) 0 51) (z_R Z) (z_P Z) ((z_T Z).2 (i - 1)) := by
        refine (wt (i - 1) (by omega)).cong b2 b4 (fun x hx => ?_)
        show (va_cpy (M 9) (M 8) (51 * ((z_T Z).1 - i)) 0 51) x = M 9 (51 * ((z_T Z).1 - 1 - (i - 1)) + x)
        unfold va_cpy
        rw [if_pos (by omega), show 51 * ((z_T Z).1 - i) + (x - 0) = 51 * ((z_T Z).1 - 1 - (i - 1)) + x by omega]
      have C := C.undo hi1 (by omega) hq2
      have FD := (FD.set (c := 372) (x_mob ((z_X Z).1) (z_f Z) (z_N Z) (z_R Z) (z_D Z) (z_P Z) ((z_T Z).1 - i) (z_s Z) ((z_S Z).1) ((z_B Z).1) t) (by omega)).set (c := 381) (x_ia 51 (va_cpy (M 9) (M 8) (51 * ((z_T Z).1 - i)) 0 51)) (by omega)
      have mo : (List.set (List.set h 372 (x_mob ((z_X Z).1) (z_f Z) (z_N Z) (z_R Z) (z_D Z) (z_P Z) ((z_T Z).1 - i) (z_s Z) ((z_S Z).1) ((z_B Z).1) t)) 381 (x_ia 51 (va_cpy (M 9) (M 8) (51 * ((z_T Z).1 - i)) 0 51)))[372]? = some (x_mob ((z_X Z).1) (z_f Z) (z_N Z) (z_R Z) (z_D Z) (z_P Z) ((z_T Z).1 - i) (z_s Z) ((z_S Z).1) ((z_B Z).1) t) := (List.getElem?_set_ne (by omega)).trans mo
      have m8 : (List.set (List.set h 372 (x_mob ((z_X Z).1) (z_f Z) (z_N Z) (z_R Z) (z_D Z) (z_P Z) ((z_T Z).1 - i) (z_s Z) ((z_S Z).1) ((z_B Z).1) t)) 381 (x_ia 51 (va_cpy (M 9) (M 8) (51 * ((z_T Z).1 - i)) 0 51)))[381]? = some (x_ia 51 (va_cpy (M 9) (M 8) (51 * ((z_T Z).1 - i)) 0 51)) := List.getElem?_set_self (List.getElem?_eq_some_iff.mp m8).1
      refine R_aload_n dX8_undo_55 rfl ?_
      refine R_get dX8_undo_56 f_X8_38 mo rfl ?_
      refine R_iconst (nI 0) dX8_undo_59 rfl ?_
      refine R_iald dX8_undo_60 m8 rfl (by omega) (by decide) ?_
      rw [show (va_cpy (M 9) (M 8) (51 * ((z_T Z).1 - i)) 0 51) 0 = nI (q_hr ((z_T Z).2 (i - 1))) from hq2.1]
      exact R_iret dX8_undo_61 rfl rfl rfl (x_KD.ok C.cl FD (by rw [z_undo, z_rg_t hi1 hi2 (by decide), if_neg (by omega)]))
    · refine R_ldc (-1000000003) dX8_undo_21 k_X8_245 ?_
      exact R_iret dX8_undo_23 rfl rfl rfl (x_KD.ok C.cl (x_fD.rf _) (by rw [z_undo, z_rg_t hi1 hi2 (by decide), if_pos (by omega)]))
  · refine R_ldc (-1000000002) dX8_undo_10 k_X8_95 ?_
    exact R_iret dX8_undo_12 rfl rfl rfl (x_KD.ok C.cl (x_fD.rf _) (by rw [z_undo, z_rg_in c_7]))
theorem n_see {h : xH} {Z : xZ} {k : Nat} {M : Nat → Nat → Int32} {sd : Nat → Int64} {kp t : Nat → Int32} (C : x_ML h Z M sd kp t) (hZ : x_ZB k Z) (hk : k ≤ 50000) (r : Int32) (v : Bool) : x_Met m_X8_see [.ref 372, .int r, .int (x_b v)] h (x_KD h (z_see Z r v)) := by
  obtain ⟨HM, HZ⟩ := id C
  have mo : h[372]? = some (x_mob (z_X Z).1 (z_f Z) (z_N Z) (z_R Z) (z_D Z) (z_P Z) (z_T Z).1 (z_s Z) (z_S Z).1 (z_B Z).1 t) := HM.1
  have m13 : h[386]? = some (x_ia 12 (M 13)) := HM.2 13 (by decide)
  obtain ⟨w1, w2, w3, w4, w5, w6, w7, hq, wt, wi, wk, ws, wb, wx⟩ := id HZ
  obtain ⟨q0, q1, q2, q3, q9, q15, q21, q45⟩ := id hq
  have q21z : ∀ r9, r9 < z_R Z → M 8 (21 + r9) = q_la (z_Q Z) 0 r9 := fun r9 hr9 => q21 0 r9 (by decide) hr9
  have hB : x_HB (z_N Z) (z_R Z) (z_D Z) (z_P Z) (z_F Z) := hZ.1.hb
  have hQ : x_QB (z_N Z) (z_R Z) (z_P Z) (z_Q Z) := hZ.2.1.1
  obtain ⟨⟨b1, b2, b3, b4⟩, b5, b6, b7⟩ := id hB
  obtain ⟨u1, u2, u3, u4, u5, u6, u7, u8, u9⟩ := id hQ
  have bT : (z_T Z).1 ≤ 30 := hZ.2.2.1.1
  have bs : z_s Z < 2 ^ 31 := hZ.2.2.2.2.1
  have bX : (z_X Z).1 ≤ 240 := hZ.2.2.2.2.2.1.1
  have bXc : ∀ i, i < (z_X Z).1 → (z_X Z).2 i < 256 := hZ.2.2.2.2.2.1.2
  have bS : (z_S Z).1 ≤ 6 := hZ.2.2.2.2.2.2.1.1
  have bSr : ∀ i, i < (z_S Z).1 → (z_S Z).2.1 i < z_R Z := hZ.2.2.2.2.2.2.1.2
  have bB : (z_B Z).1 ≤ 20 := hZ.2.2.2.2.2.2.2.1
  have bBr : ∀ i, i < (z_B Z).1 → (z_B Z).2.1 i < z_R Z := hZ.2.2.2.2.2.2.2.2
  have FD := x_fD.rf h
  refine x_Met.of (lo := [some (.ref 372), some (.int r), some (.int (x_b v))]) (by decide) rfl rfl rfl ?_
  refine R_aload_n dX8_see_0 rfl ?_
  refine R_iload_n dX8_see_1 rfl ?_
  refine R_cV1p (N := m_X8_isRoom) dX8_see_2 l_X8_218 i_X8_isRoom mo (n_isRoom C hZ hk _) rfl rfl ?_
  refine R_ifneB 11 dX8_see_5 rfl (fun c_5 => ?_) (fun c_5 => ?_)
  · obtain ⟨i, hi, rfl⟩ := x_has_t (by omega) c_5
    refine R_aload_n dX8_see_11 rfl ?_
    refine R_get dX8_see_12 f_X8_167 mo rfl ?_
    refine R_bipush (nI 6) dX8_see_15 rfl ?_
    refine R_neN 23 dX8_see_17 rfl (by omega) (by omega) (fun c_17 => ?_) (fun c_17 => ?_)
    · refine R_aload_n dX8_see_23 rfl ?_
      refine R_get dX8_see_24 f_X8_55 mo rfl ?_
      refine R_iconst (nI 2) dX8_see_27 rfl ?_
      refine R_aload_n dX8_see_28 rfl ?_
      refine R_get dX8_see_29 f_X8_167 mo rfl ?_
      refine R_imulN dX8_see_32 ?_
      refine R_iload_n dX8_see_33 rfl ?_
      refine R_iast dX8_see_34 m13 (by omega) rfl (by omega) (by decide) ?_
      have m13 : (List.set h 386 (x_ia 12 (upd (M 13) (2 * (z_S Z).1) (nI i))))[386]? = some (x_ia 12 (upd (M 13) (2 * (z_S Z).1) (nI i))) := List.getElem?_set_self (List.getElem?_eq_some_iff.mp m13).1
      have mo : (List.set h 386 (x_ia 12 (upd (M 13) (2 * (z_S Z).1) (nI i))))[372]? = some (x_mob ((z_X Z).1) (z_f Z) (z_N Z) (z_R Z) (z_D Z) (z_P Z) ((z_T Z).1) (z_s Z) ((z_S Z).1) ((z_B Z).1) t) := (List.getElem?_set_ne (by omega)).trans mo
      refine R_aload_n dX8_see_35 rfl ?_
      refine R_get dX8_see_36 f_X8_55 mo rfl ?_
      refine R_iconst (nI 2) dX8_see_39 rfl ?_
      refine R_aload_n dX8_see_40 rfl ?_
      refine R_get dX8_see_41 f_X8_167 mo rfl ?_
      refine R_imulN dX8_see_44 ?_
      refine R_iconst (nI 1) dX8_see_45 rfl ?_
      refine R_iaddN dX8_see_46 ?_
      refine R_iload_n dX8_see_47 rfl ?_
      refine R_ifeqB 55 dX8_see_48 rfl (fun c_48 => ?_) (fun c_48 => ?_)
      · have ev : nI 0 = x_b v := x_bf c_48
        refine R_iconst (nI 0) dX8_see_55 rfl ?_
        refine R_iast dX8_see_56 m13 (by omega) rfl (by omega) (by decide) ?_
        rw [List.set_set, ev]
        have mo : (List.set h 386 (x_ia 12 (upd (upd (M 13) (2 * (z_S Z).1) (nI i)) (2 * (z_S Z).1 + 1) (x_b v))))[372]? = some (x_mob ((z_X Z).1) (z_f Z) (z_N Z) (z_R Z) (z_D Z) (z_P Z) ((z_T Z).1) (z_s Z) ((z_S Z).1) ((z_B Z).1) t) := (List.getElem?_set_ne (by omega)).trans HM.1
        refine R_aload_n dX8_see_57 rfl ?_
        refine R_dup dX8_see_58 rfl ?_
        refine R_get dX8_see_59 f_X8_167 mo rfl ?_
        refine R_iconst (nI 1) dX8_see_62 rfl ?_
        refine R_iaddN dX8_see_63 ?_
        refine R_put dX8_see_64 f_X8_167 mo (Nat.le_of_ble_eq_true rfl) (fun _ => rfl) (fun _ => rfl) ?_
        simp only [List.set_cons_succ, List.set_cons_zero]
        have C := C.seen (g := (upd (upd (M 13) (2 * (z_S Z).1) (nI i)) (2 * (z_S Z).1 + 1) (x_b v))) ((z_S Z).1 + 1, s_snoc (z_S Z).1 (z_S Z).2.1 i, s_snoc (z_S Z).1 (z_S Z).2.2 v) (fun x hx => by
          have hx : x < (z_S Z).1 + 1 := hx
          show (upd (upd (M 13) (2 * (z_S Z).1) (nI i)) (2 * (z_S Z).1 + 1) (x_b v)) (2 * x) = nI (if x = (z_S Z).1 then i else _) ∧ (upd (upd (M 13) (2 * (z_S Z).1) (nI i)) (2 * (z_S Z).1 + 1) (x_b v)) (2 * x + 1) = x_b (if x = (z_S Z).1 then v else _)
          by_cases e : x = (z_S Z).1
          · subst e
            rw [x_upd_ne (by omega), x_upd_eq, x_upd_eq, if_pos rfl, if_pos rfl]; exact ⟨rfl, rfl⟩
          · rw [x_upd_ne (by omega), x_upd_ne (by omega), x_upd_ne (by omega), x_upd_ne (by omega), if_neg e, if_neg e]; exact ws x (by omega))
        have FD := (FD.set (c := 386) (x_ia 12 (upd (upd (M 13) (2 * (z_S Z).1) (nI i)) (2 * (z_S Z).1 + 1) (x_b v))) (by omega)).set (c := 372) (x_mob ((z_X Z).1) (z_f Z) (z_N Z) (z_R Z) (z_D Z) (z_P Z) ((z_T Z).1) (z_s Z) ((z_S Z).1 + 1) ((z_B Z).1) t) (by omega)
        have mo : (List.set (List.set h 386 (x_ia 12 (upd (upd (M 13) (2 * (z_S Z).1) (nI i)) (2 * (z_S Z).1 + 1) (x_b v)))) 372 (x_mob ((z_X Z).1) (z_f Z) (z_N Z) (z_R Z) (z_D Z) (z_P Z) ((z_T Z).1) (z_s Z) ((z_S Z).1 + 1) ((z_B Z).1) t))[372]? = some (x_mob ((z_X Z).1) (z_f Z) (z_N Z) (z_R Z) (z_D Z) (z_P Z) ((z_T Z).1) (z_s Z) ((z_S Z).1 + 1) ((z_B Z).1) t) := C.1.1
        refine R_aload_n dX8_see_67 rfl ?_
        refine R_get dX8_see_68 f_X8_167 mo rfl ?_
        exact R_iret dX8_see_71 rfl rfl rfl (x_KD.ok C.cl FD (by rw [z_see, z_tb_t hi (by omega), if_neg c_17]))
      · have ev : nI 1 = x_b v := x_bt c_48
        refine R_iconst (nI 1) dX8_see_51 rfl ?_
        refine R_goto 56 dX8_see_52 rfl ?_
        refine R_iast dX8_see_56 m13 (by omega) rfl (by omega) (by decide) ?_
        rw [List.set_set, ev]
        have mo : (List.set h 386 (x_ia 12 (upd (upd (M 13) (2 * (z_S Z).1) (nI i)) (2 * (z_S Z).1 + 1) (x_b v))))[372]? = some (x_mob ((z_X Z).1) (z_f Z) (z_N Z) (z_R Z) (z_D Z) (z_P Z) ((z_T Z).1) (z_s Z) ((z_S Z).1) ((z_B Z).1) t) := (List.getElem?_set_ne (by omega)).trans HM.1
        refine R_aload_n dX8_see_57 rfl ?_
        refine R_dup dX8_see_58 rfl ?_
        refine R_get dX8_see_59 f_X8_167 mo rfl ?_
        refine R_iconst (nI 1) dX8_see_62 rfl ?_
        refine R_iaddN dX8_see_63 ?_
        refine R_put dX8_see_64 f_X8_167 mo (Nat.le_of_ble_eq_true rfl) (fun _ => rfl) (fun _ => rfl) ?_
        simp only [List.set_cons_succ, List.set_cons_zero]
        have C := C.seen (g := (upd (upd (M 13) (2 * (z_S Z).1) (nI i)) (2 * (z_S Z).1 + 1) (x_b v))) ((z_S Z).1 + 1, s_snoc (z_S Z).1 (z_S Z).2.1 i, s_snoc (z_S Z).1 (z_S Z).2.2 v) (fun x hx => by
          have hx : x < (z_S Z).1 + 1 := hx
          show (upd (upd (M 13) (2 * (z_S Z).1) (nI i)) (2 * (z_S Z).1 + 1) (x_b v)) (2 * x) = nI (if x = (z_S Z).1 then i else _) ∧ (upd (upd (M 13) (2 * (z_S Z).1) (nI i)) (2 * (z_S Z).1 + 1) (x_b v)) (2 * x + 1) = x_b (if x = (z_S Z).1 then v else _)
          by_cases e : x = (z_S Z).1
          · subst e
            rw [x_upd_ne (by omega), x_upd_eq, x_upd_eq, if_pos rfl, if_pos rfl]; exact ⟨rfl, rfl⟩
          · rw [x_upd_ne (by omega), x_upd_ne (by omega), x_upd_ne (by omega), x_upd_ne (by omega), if_neg e, if_neg e]; exact ws x (by omega))
        have FD := (FD.set (c := 386) (x_ia 12 (upd (upd (M 13) (2 * (z_S Z).1) (nI i)) (2 * (z_S Z).1 + 1) (x_b v))) (by omega)).set (c := 372) (x_mob ((z_X Z).1) (z_f Z) (z_N Z) (z_R Z) (z_D Z) (z_P Z) ((z_T Z).1) (z_s Z) ((z_S Z).1 + 1) ((z_B Z).1) t) (by omega)
        have mo : (List.set (List.set h 386 (x_ia 12 (upd (upd (M 13) (2 * (z_S Z).1) (nI i)) (2 * (z_S Z).1 + 1) (x_b v)))) 372 (x_mob ((z_X Z).1) (z_f Z) (z_N Z) (z_R Z) (z_D Z) (z_P Z) ((z_T Z).1) (z_s Z) ((z_S Z).1 + 1) ((z_B Z).1) t))[372]? = some (x_mob ((z_X Z).1) (z_f Z) (z_N Z) (z_R Z) (z_D Z) (z_P Z) ((z_T Z).1) (z_s Z) ((z_S Z).1 + 1) ((z_B Z).1) t) := C.1.1
        refine R_aload_n dX8_see_67 rfl ?_
        refine R_get dX8_see_68 f_X8_167 mo rfl ?_
        exact R_iret dX8_see_71 rfl rfl rfl (x_KD.ok C.cl FD (by rw [z_see, z_tb_t hi (by omega), if_neg c_17]))
    · refine R_ldc (-1000000004) dX8_see_20 k_X8_99 ?_
      exact R_iret dX8_see_22 rfl rfl rfl (x_KD.ok C.cl (x_fD.rf _) (by rw [z_see, z_tb_t hi (by omega), if_pos c_17]))
  · refine R_ldc (-1000000001) dX8_see_8 k_X8_222 ?_
    exact R_iret dX8_see_10 rfl rfl rfl (x_KD.ok C.cl (x_fD.rf _) (by rw [z_see, z_tb_f c_5]))
theorem n_write {h : xH} {Z : xZ} {k : Nat} {M : Nat → Nat → Int32} {sd : Nat → Int64} {kp t : Nat → Int32} (C : x_ML h Z M sd kp t) (hZ : x_ZB k Z) (hk : k ≤ 50000) (r p : Int32) : x_Met m_X8_write [.ref 372, .int r, .int p] h (x_KD h (z_write Z r p)) := by
  obtain ⟨HM, HZ⟩ := id C
  have mo : h[372]? = some (x_mob (z_X Z).1 (z_f Z) (z_N Z) (z_R Z) (z_D Z) (z_P Z) (z_T Z).1 (z_s Z) (z_S Z).1 (z_B Z).1 t) := HM.1
  have m14 : h[387]? = some (x_ia 40 (M 14)) := HM.2 14 (by decide)
  obtain ⟨w1, w2, w3, w4, w5, w6, w7, hq, wt, wi, wk, ws, wb, wx⟩ := id HZ
  obtain ⟨q0, q1, q2, q3, q9, q15, q21, q45⟩ := id hq
  have q21z : ∀ r9, r9 < z_R Z → M 8 (21 + r9) = q_la (z_Q Z) 0 r9 := fun r9 hr9 => q21 0 r9 (by decide) hr9
  have hB : x_HB (z_N Z) (z_R Z) (z_D Z) (z_P Z) (z_F Z) := hZ.1.hb
  have hQ : x_QB (z_N Z) (z_R Z) (z_P Z) (z_Q Z) := hZ.2.1.1
  obtain ⟨⟨b1, b2, b3, b4⟩, b5, b6, b7⟩ := id hB
  obtain ⟨u1, u2, u3, u4, u5, u6, u7, u8, u9⟩ := id hQ
  have bT : (z_T Z).1 ≤ 30 := hZ.2.2.1.1
  have bs : z_s Z < 2 ^ 31 := hZ.2.2.2.2.1
  have bX : (z_X Z).1 ≤ 240 := hZ.2.2.2.2.2.1.1
  have bXc : ∀ i, i < (z_X Z).1 → (z_X Z).2 i < 256 := hZ.2.2.2.2.2.1.2
  have bS : (z_S Z).1 ≤ 6 := hZ.2.2.2.2.2.2.1.1
  have bSr : ∀ i, i < (z_S Z).1 → (z_S Z).2.1 i < z_R Z := hZ.2.2.2.2.2.2.1.2
  have bB : (z_B Z).1 ≤ 20 := hZ.2.2.2.2.2.2.2.1
  have bBr : ∀ i, i < (z_B Z).1 → (z_B Z).2.1 i < z_R Z := hZ.2.2.2.2.2.2.2.2
  have FD := x_fD.rf h
  refine x_Met.of (lo := [some (.ref 372), some (.int r), some (.int p)]) (by decide) rfl rfl rfl ?_
  refine R_aload_n dX8_write_0 rfl ?_
  refine R_iload_n dX8_write_1 rfl ?_
  refine R_cV1p (N := m_X8_isRoom) dX8_write_2 l_X8_218 i_X8_isRoom mo (n_isRoom C hZ hk _) rfl rfl ?_
  refine R_ifeqB 21 dX8_write_5 rfl (fun c_5 => ?_) (fun c_5 => ?_)
  · refine R_ldc (-1000000001) dX8_write_21 k_X8_222 ?_
    exact R_iret dX8_write_23 rfl rfl rfl (x_KD.ok C.cl (x_fD.rf _) (by rw [z_write, z_tb_f c_5]))
  · obtain ⟨i, hi, rfl⟩ := x_has_t (by omega) c_5
    refine R_iload_n dX8_write_8 rfl ?_
    refine R_iconst (-1) dX8_write_9 rfl ?_
    refine R_icmpeq 24 dX8_write_10 rfl (fun c_10 => ?_) (fun c_10 => ?_)
    · have hwr : p = -1 ∨ x_has p (z_P Z) = true := Or.inl c_10
      refine R_aload_n dX8_write_24 rfl ?_
      refine R_get dX8_write_25 f_X8_170 mo rfl ?_
      refine R_bipush (nI 20) dX8_write_28 rfl ?_
      refine R_neN 36 dX8_write_30 rfl (by omega) (by omega) (fun c_30 => ?_) (fun c_30 => ?_)
      · refine R_aload_n dX8_write_36 rfl ?_
        refine R_get dX8_write_37 f_X8_58 mo rfl ?_
        refine R_iconst (nI 2) dX8_write_40 rfl ?_
        refine R_aload_n dX8_write_41 rfl ?_
        refine R_get dX8_write_42 f_X8_170 mo rfl ?_
        refine R_imulN dX8_write_45 ?_
        refine R_iload_n dX8_write_46 rfl ?_
        refine R_iast dX8_write_47 m14 (by omega) rfl (by omega) (by decide) ?_
        have m14 : (List.set h 387 (x_ia 40 (upd (M 14) (2 * (z_B Z).1) (nI i))))[387]? = some (x_ia 40 (upd (M 14) (2 * (z_B Z).1) (nI i))) := List.getElem?_set_self (List.getElem?_eq_some_iff.mp m14).1
        have mo : (List.set h 387 (x_ia 40 (upd (M 14) (2 * (z_B Z).1) (nI i))))[372]? = some (x_mob ((z_X Z).1) (z_f Z) (z_N Z) (z_R Z) (z_D Z) (z_P Z) ((z_T Z).1) (z_s Z) ((z_S Z).1) ((z_B Z).1) t) := (List.getElem?_set_ne (by omega)).trans mo
        refine R_aload_n dX8_write_48 rfl ?_
        refine R_get dX8_write_49 f_X8_58 mo rfl ?_
        refine R_iconst (nI 2) dX8_write_52 rfl ?_
        refine R_aload_n dX8_write_53 rfl ?_
        refine R_get dX8_write_54 f_X8_170 mo rfl ?_
        refine R_imulN dX8_write_57 ?_
        refine R_iconst (nI 1) dX8_write_58 rfl ?_
        refine R_iaddN dX8_write_59 ?_
        refine R_iload_n dX8_write_60 rfl ?_
        refine R_iast dX8_write_61 m14 (by omega) rfl (by omega) (by decide) ?_
        rw [List.set_set]
        have mo : (List.set h 387 (x_ia 40 (upd (upd (M 14) (2 * (z_B Z).1) (nI i)) (2 * (z_B Z).1 + 1) p)))[372]? = some (x_mob ((z_X Z).1) (z_f Z) (z_N Z) (z_R Z) (z_D Z) (z_P Z) ((z_T Z).1) (z_s Z) ((z_S Z).1) ((z_B Z).1) t) := (List.getElem?_set_ne (by omega)).trans HM.1
        refine R_aload_n dX8_write_62 rfl ?_
        refine R_dup dX8_write_63 rfl ?_
        refine R_get dX8_write_64 f_X8_170 mo rfl ?_
        refine R_iconst (nI 1) dX8_write_67 rfl ?_
        refine R_iaddN dX8_write_68 ?_
        refine R_put dX8_write_69 f_X8_170 mo (Nat.le_of_ble_eq_true rfl) (fun _ => rfl) (fun _ => rfl) ?_
        simp only [List.set_cons_succ, List.set_cons_zero]
        have C := C.book (g := (upd (upd (M 14) (2 * (z_B Z).1) (nI i)) (2 * (z_B Z).1 + 1) p)) ((z_B Z).1 + 1, s_snoc (z_B Z).1 (z_B Z).2.1 i, s_snoc (z_B Z).1 (z_B Z).2.2 p) (fun x hx => by
          have hx : x < (z_B Z).1 + 1 := hx
          show (upd (upd (M 14) (2 * (z_B Z).1) (nI i)) (2 * (z_B Z).1 + 1) p) (2 * x) = nI (if x = (z_B Z).1 then i else _) ∧ (upd (upd (M 14) (2 * (z_B Z).1) (nI i)) (2 * (z_B Z).1 + 1) p) (2 * x + 1) = (if x = (z_B Z).1 then p else _)
          by_cases e : x = (z_B Z).1
          · subst e
            rw [x_upd_ne (by omega), x_upd_eq, x_upd_eq, if_pos rfl, if_pos rfl]; exact ⟨rfl, rfl⟩
          · rw [x_upd_ne (by omega), x_upd_ne (by omega), x_upd_ne (by omega), x_upd_ne (by omega), if_neg e, if_neg e]; exact wb x (by omega))
        have FD := (FD.set (c := 387) (x_ia 40 (upd (upd (M 14) (2 * (z_B Z).1) (nI i)) (2 * (z_B Z).1 + 1) p)) (by omega)).set (c := 372) (x_mob ((z_X Z).1) (z_f Z) (z_N Z) (z_R Z) (z_D Z) (z_P Z) ((z_T Z).1) (z_s Z) ((z_S Z).1) ((z_B Z).1 + 1) t) (by omega)
        have mo : (List.set (List.set h 387 (x_ia 40 (upd (upd (M 14) (2 * (z_B Z).1) (nI i)) (2 * (z_B Z).1 + 1) p))) 372 (x_mob ((z_X Z).1) (z_f Z) (z_N Z) (z_R Z) (z_D Z) (z_P Z) ((z_T Z).1) (z_s Z) ((z_S Z).1) ((z_B Z).1 + 1) t))[372]? = some (x_mob ((z_X Z).1) (z_f Z) (z_N Z) (z_R Z) (z_D Z) (z_P Z) ((z_T Z).1) (z_s Z) ((z_S Z).1) ((z_B Z).1 + 1) t) := C.1.1
        refine R_aload_n dX8_write_72 rfl ?_
        refine R_get dX8_write_73 f_X8_170 mo rfl ?_
        exact R_iret dX8_write_76 rfl rfl rfl (x_KD.ok C.cl FD (by rw [z_write, z_tb_t hi (by omega), if_pos hwr, if_neg c_30]))
      · refine R_ldc (-1000000004) dX8_write_33 k_X8_99 ?_
        exact R_iret dX8_write_35 rfl rfl rfl (x_KD.ok C.cl (x_fD.rf _) (by rw [z_write, z_tb_t hi (by omega), if_pos hwr, if_pos c_30]))
    · refine R_aload_n dX8_write_13 rfl ?_
      refine R_iload_n dX8_write_14 rfl ?_
      refine R_cV1p (N := m_X8_isHeir) dX8_write_15 l_X8_229 i_X8_isHeir mo (n_isHeir C hZ hk _) rfl rfl ?_
      refine R_ifneB 24 dX8_write_18 rfl (fun c_18 => ?_) (fun c_18 => ?_)
      · have hwr : p = -1 ∨ x_has p (z_P Z) = true := Or.inr c_18
        refine R_aload_n dX8_write_24 rfl ?_
        refine R_get dX8_write_25 f_X8_170 mo rfl ?_
        refine R_bipush (nI 20) dX8_write_28 rfl ?_
        refine R_neN 36 dX8_write_30 rfl (by omega) (by omega) (fun c_30 => ?_) (fun c_30 => ?_)
        · refine R_aload_n dX8_write_36 rfl ?_
          refine R_get dX8_write_37 f_X8_58 mo rfl ?_
          refine R_iconst (nI 2) dX8_write_40 rfl ?_
          refine R_aload_n dX8_write_41 rfl ?_
          refine R_get dX8_write_42 f_X8_170 mo rfl ?_
          refine R_imulN dX8_write_45 ?_
          refine R_iload_n dX8_write_46 rfl ?_
          refine R_iast dX8_write_47 m14 (by omega) rfl (by omega) (by decide) ?_
          have m14 : (List.set h 387 (x_ia 40 (upd (M 14) (2 * (z_B Z).1) (nI i))))[387]? = some (x_ia 40 (upd (M 14) (2 * (z_B Z).1) (nI i))) := List.getElem?_set_self (List.getElem?_eq_some_iff.mp m14).1
          have mo : (List.set h 387 (x_ia 40 (upd (M 14) (2 * (z_B Z).1) (nI i))))[372]? = some (x_mob ((z_X Z).1) (z_f Z) (z_N Z) (z_R Z) (z_D Z) (z_P Z) ((z_T Z).1) (z_s Z) ((z_S Z).1) ((z_B Z).1) t) := (List.getElem?_set_ne (by omega)).trans mo
          refine R_aload_n dX8_write_48 rfl ?_
          refine R_get dX8_write_49 f_X8_58 mo rfl ?_
          refine R_iconst (nI 2) dX8_write_52 rfl ?_
          refine R_aload_n dX8_write_53 rfl ?_
          refine R_get dX8_write_54 f_X8_170 mo rfl ?_
          refine R_imulN dX8_write_57 ?_
          refine R_iconst (nI 1) dX8_write_58 rfl ?_
          refine R_iaddN dX8_write_59 ?_
          refine R_iload_n dX8_write_60 rfl ?_
          refine R_iast dX8_write_61 m14 (by omega) rfl (by omega) (by decide) ?_
          rw [List.set_set]
          have mo : (List.set h 387 (x_ia 40 (upd (upd (M 14) (2 * (z_B Z).1) (nI i)) (2 * (z_B Z).1 + 1) p)))[372]? = some (x_mob ((z_X Z).1) (z_f Z) (z_N Z) (z_R Z) (z_D Z) (z_P Z) ((z_T Z).1) (z_s Z) ((z_S Z).1) ((z_B Z).1) t) := (List.getElem?_set_ne (by omega)).trans HM.1
          refine R_aload_n dX8_write_62 rfl ?_
          refine R_dup dX8_write_63 rfl ?_
          refine R_get dX8_write_64 f_X8_170 mo rfl ?_
          refine R_iconst (nI 1) dX8_write_67 rfl ?_
          refine R_iaddN dX8_write_68 ?_
          refine R_put dX8_write_69 f_X8_170 mo (Nat.le_of_ble_eq_true rfl) (fun _ => rfl) (fun _ => rfl) ?_
          simp only [List.set_cons_succ, List.set_cons_zero]
          have C := C.book (g := (upd (upd (M 14) (2 * (z_B Z).1) (nI i)) (2 * (z_B Z).1 + 1) p)) ((z_B Z).1 + 1, s_snoc (z_B Z).1 (z_B Z).2.1 i, s_snoc (z_B Z).1 (z_B Z).2.2 p) (fun x hx => by
            have hx : x < (z_B Z).1 + 1 := hx
            show (upd (upd (M 14) (2 * (z_B Z).1) (nI i)) (2 * (z_B Z).1 + 1) p) (2 * x) = nI (if x = (z_B Z).1 then i else _) ∧ (upd (upd (M 14) (2 * (z_B Z).1) (nI i)) (2 * (z_B Z).1 + 1) p) (2 * x + 1) = (if x = (z_B Z).1 then p else _)
            by_cases e : x = (z_B Z).1
            · subst e
              rw [x_upd_ne (by omega), x_upd_eq, x_upd_eq, if_pos rfl, if_pos rfl]; exact ⟨rfl, rfl⟩
            · rw [x_upd_ne (by omega), x_upd_ne (by omega), x_upd_ne (by omega), x_upd_ne (by omega), if_neg e, if_neg e]; exact wb x (by omega))
          have FD := (FD.set (c := 387) (x_ia 40 (upd (upd (M 14) (2 * (z_B Z).1) (nI i)) (2 * (z_B Z).1 + 1) p)) (by omega)).set (c := 372) (x_mob ((z_X Z).1) (z_f Z) (z_N Z) (z_R Z) (z_D Z) (z_P Z) ((z_T Z).1) (z_s Z) ((z_S Z).1) ((z_B Z).1 + 1) t) (by omega)
          have mo : (List.set (List.set h 387 (x_ia 40 (upd (upd (M 14) (2 * (z_B Z).1) (nI i)) (2 * (z_B Z).1 + 1) p))) 372 (x_mob ((z_X Z).1) (z_f Z) (z_N Z) (z_R Z) (z_D Z) (z_P Z) ((z_T Z).1) (z_s Z) ((z_S Z).1) ((z_B Z).1 + 1) t))[372]? = some (x_mob ((z_X Z).1) (z_f Z) (z_N Z) (z_R Z) (z_D Z) (z_P Z) ((z_T Z).1) (z_s Z) ((z_S Z).1) ((z_B Z).1 + 1) t) := C.1.1
          refine R_aload_n dX8_write_72 rfl ?_
          refine R_get dX8_write_73 f_X8_170 mo rfl ?_
          exact R_iret dX8_write_76 rfl rfl rfl (x_KD.ok C.cl FD (by rw [z_write, z_tb_t hi (by omega), if_pos hwr, if_neg c_30]))
        · refine R_ldc (-1000000004) dX8_write_33 k_X8_99 ?_
          exact R_iret dX8_write_35 rfl rfl rfl (x_KD.ok C.cl (x_fD.rf _) (by rw [z_write, z_tb_t hi (by omega), if_pos hwr, if_pos c_30]))
      · refine R_ldc (-1000000001) dX8_write_21 k_X8_222 ?_
        exact R_iret dX8_write_23 rfl rfl rfl (x_KD.ok C.cl (x_fD.rf _) (by rw [z_write, z_tb_t hi (by omega), if_neg (fun z => z.elim c_10 (fun q => absurd (q.symm.trans c_18) (by decide)))]))
theorem n_tear {h : xH} {Z : xZ} {k : Nat} {M : Nat → Nat → Int32} {sd : Nat → Int64} {kp t : Nat → Int32} (C : x_ML h Z M sd kp t) (hZ : x_ZB k Z) (hk : k ≤ 50000) : x_Met m_X8_tear [.ref 372] h (x_KD h (z_tear Z)) := by
  obtain ⟨HM, HZ⟩ := id C
  have mo : h[372]? = some (x_mob (z_X Z).1 (z_f Z) (z_N Z) (z_R Z) (z_D Z) (z_P Z) (z_T Z).1 (z_s Z) (z_S Z).1 (z_B Z).1 t) := HM.1
  obtain ⟨w1, w2, w3, w4, w5, w6, w7, hq, wt, wi, wk, ws, wb, wx⟩ := id HZ
  obtain ⟨q0, q1, q2, q3, q9, q15, q21, q45⟩ := id hq
  have q21z : ∀ r9, r9 < z_R Z → M 8 (21 + r9) = q_la (z_Q Z) 0 r9 := fun r9 hr9 => q21 0 r9 (by decide) hr9
  have hB : x_HB (z_N Z) (z_R Z) (z_D Z) (z_P Z) (z_F Z) := hZ.1.hb
  have hQ : x_QB (z_N Z) (z_R Z) (z_P Z) (z_Q Z) := hZ.2.1.1
  obtain ⟨⟨b1, b2, b3, b4⟩, b5, b6, b7⟩ := id hB
  obtain ⟨u1, u2, u3, u4, u5, u6, u7, u8, u9⟩ := id hQ
  have bT : (z_T Z).1 ≤ 30 := hZ.2.2.1.1
  have bs : z_s Z < 2 ^ 31 := hZ.2.2.2.2.1
  have bX : (z_X Z).1 ≤ 240 := hZ.2.2.2.2.2.1.1
  have bXc : ∀ i, i < (z_X Z).1 → (z_X Z).2 i < 256 := hZ.2.2.2.2.2.1.2
  have bS : (z_S Z).1 ≤ 6 := hZ.2.2.2.2.2.2.1.1
  have bSr : ∀ i, i < (z_S Z).1 → (z_S Z).2.1 i < z_R Z := hZ.2.2.2.2.2.2.1.2
  have bB : (z_B Z).1 ≤ 20 := hZ.2.2.2.2.2.2.2.1
  have bBr : ∀ i, i < (z_B Z).1 → (z_B Z).2.1 i < z_R Z := hZ.2.2.2.2.2.2.2.2
  have FD := x_fD.rf h
  refine x_Met.of (lo := [some (.ref 372), none]) (by decide) rfl rfl rfl ?_
  refine R_aload_n dX8_tear_0 rfl ?_
  refine R_get dX8_tear_1 f_X8_167 mo rfl ?_
  refine R_aload_n dX8_tear_4 rfl ?_
  refine R_get dX8_tear_5 f_X8_170 mo rfl ?_
  refine R_iaddN dX8_tear_8 ?_
  refine R_istore_n dX8_tear_9 (Nat.le_of_ble_eq_true rfl) rfl ?_
  refine R_aload_n dX8_tear_10 rfl ?_
  refine R_iconst (nI 0) dX8_tear_11 rfl ?_
  refine R_put dX8_tear_12 f_X8_167 mo (Nat.le_of_ble_eq_true rfl) (fun _ => rfl) (fun _ => rfl) ?_
  simp only [List.set_cons_succ, List.set_cons_zero]
  have mo : (List.set h 372 (x_mob ((z_X Z).1) (z_f Z) (z_N Z) (z_R Z) (z_D Z) (z_P Z) ((z_T Z).1) (z_s Z) (0) ((z_B Z).1) t))[372]? = some (x_mob ((z_X Z).1) (z_f Z) (z_N Z) (z_R Z) (z_D Z) (z_P Z) ((z_T Z).1) (z_s Z) (0) ((z_B Z).1) t) := List.getElem?_set_self (List.getElem?_eq_some_iff.mp mo).1
  refine R_aload_n dX8_tear_15 rfl ?_
  refine R_iconst (nI 0) dX8_tear_16 rfl ?_
  refine R_put dX8_tear_17 f_X8_170 mo (Nat.le_of_ble_eq_true rfl) (fun _ => rfl) (fun _ => rfl) ?_
  simp only [List.set_cons_succ, List.set_cons_zero]
  rw [List.set_set]
  have C := C.sn0 (0, (z_S Z).2) (0, (z_B Z).2) rfl rfl
  have FD := FD.set (c := 372) (x_mob ((z_X Z).1) (z_f Z) (z_N Z) (z_R Z) (z_D Z) (z_P Z) ((z_T Z).1) (z_s Z) (0) (0) t) (by omega)
  refine R_iload_n dX8_tear_20 rfl ?_
  exact R_iret dX8_tear_21 rfl rfl rfl (x_KD.ok C.cl FD (by rfl))
theorem n_seed {h : xH} {Z : xZ} {k : Nat} {M : Nat → Nat → Int32} {sd : Nat → Int64} {kp t : Nat → Int32} (C : x_ML h Z M sd kp t) (hZ : x_ZB k Z) (hk : k ≤ 50000) (v : Int32) : x_Met m_X8_seed [.ref 372, .int v] h (x_KD h (z_seed Z v)) := by
  obtain ⟨HM, HZ⟩ := id C
  have mo : h[372]? = some (x_mob (z_X Z).1 (z_f Z) (z_N Z) (z_R Z) (z_D Z) (z_P Z) (z_T Z).1 (z_s Z) (z_S Z).1 (z_B Z).1 t) := HM.1
  obtain ⟨w1, w2, w3, w4, w5, w6, w7, hq, wt, wi, wk, ws, wb, wx⟩ := id HZ
  obtain ⟨q0, q1, q2, q3, q9, q15, q21, q45⟩ := id hq
  have q21z : ∀ r9, r9 < z_R Z → M 8 (21 + r9) = q_la (z_Q Z) 0 r9 := fun r9 hr9 => q21 0 r9 (by decide) hr9
  have hB : x_HB (z_N Z) (z_R Z) (z_D Z) (z_P Z) (z_F Z) := hZ.1.hb
  have hQ : x_QB (z_N Z) (z_R Z) (z_P Z) (z_Q Z) := hZ.2.1.1
  obtain ⟨⟨b1, b2, b3, b4⟩, b5, b6, b7⟩ := id hB
  obtain ⟨u1, u2, u3, u4, u5, u6, u7, u8, u9⟩ := id hQ
  have bT : (z_T Z).1 ≤ 30 := hZ.2.2.1.1
  have bs : z_s Z < 2 ^ 31 := hZ.2.2.2.2.1
  have bX : (z_X Z).1 ≤ 240 := hZ.2.2.2.2.2.1.1
  have bXc : ∀ i, i < (z_X Z).1 → (z_X Z).2 i < 256 := hZ.2.2.2.2.2.1.2
  have bS : (z_S Z).1 ≤ 6 := hZ.2.2.2.2.2.2.1.1
  have bSr : ∀ i, i < (z_S Z).1 → (z_S Z).2.1 i < z_R Z := hZ.2.2.2.2.2.2.1.2
  have bB : (z_B Z).1 ≤ 20 := hZ.2.2.2.2.2.2.2.1
  have bBr : ∀ i, i < (z_B Z).1 → (z_B Z).2.1 i < z_R Z := hZ.2.2.2.2.2.2.2.2
  have FD := x_fD.rf h
  refine x_Met.of (lo := [some (.ref 372), some (.int v), none]) (by decide) rfl rfl rfl ?_
  refine R_iload_n dX8_seed_0 rfl ?_
  refine R_ifge 7 dX8_seed_1 rfl (fun c_1 => ?_) (fun c_1 => ?_)
  · refine R_aload_n dX8_seed_7 rfl ?_
    refine R_get dX8_seed_8 f_X8_249 mo rfl ?_
    refine R_l2i dX8_seed_11 ?_
    refine R_istore_n dX8_seed_12 (Nat.le_of_ble_eq_true rfl) rfl ?_
    refine R_aload_n dX8_seed_13 rfl ?_
    refine R_iload_n dX8_seed_14 rfl ?_
    refine R_i2l dX8_seed_15 ?_
    refine R_put dX8_seed_16 f_X8_249 mo (Nat.le_of_ble_eq_true rfl) (fun _ => rfl) (fun _ => rfl) ?_
    simp only [List.set_cons_succ, List.set_cons_zero]
    have c_1 : ¬ v < 0 := Int32.not_lt.mpr c_1
    obtain ⟨ev, hv⟩ := x_nneg c_1
    have e64 : v.toInt64 = lN (i_n v) := by rw [← x_i2l hv, ← ev]
    rw [e64]
    have C := C.seed (i_n v)
    have FD := FD.set (c := 372) (x_mob ((z_X Z).1) (z_f Z) (z_N Z) (z_R Z) (z_D Z) (z_P Z) ((z_T Z).1) (i_n v) ((z_S Z).1) ((z_B Z).1) t) (by omega)
    refine R_iload_n dX8_seed_19 rfl ?_
    exact R_iret dX8_seed_20 rfl rfl rfl (x_KD.ok C.cl FD (by rw [z_seed, if_neg c_1, lN_i]))
  · refine R_ldc (-1000000002) dX8_seed_4 k_X8_95 ?_
    exact R_iret dX8_seed_6 rfl rfl rfl (x_KD.ok C.cl (x_fD.rf _) (by rw [z_seed, if_pos (Int32.not_le.mp c_1)]))
theorem n_keep {h : xH} {Z : xZ} {k : Nat} {M : Nat → Nat → Int32} {sd : Nat → Int64} {kp t : Nat → Int32} (C : x_ML h Z M sd kp t) (hZ : x_ZB k Z) (hk : k ≤ 50000) (i : Int32) : x_Met m_X8_keep [.ref 372, .int i] h (x_KD h (z_keep Z i)) := by
  obtain ⟨HM, HZ⟩ := id C
  have mo : h[372]? = some (x_mob (z_X Z).1 (z_f Z) (z_N Z) (z_R Z) (z_D Z) (z_P Z) (z_T Z).1 (z_s Z) (z_S Z).1 (z_B Z).1 t) := HM.1
  have m8 : h[381]? = some (x_ia 51 (M 8)) := HM.2 8 (by decide)
  have m10 : h[383]? = some (x_ia 102 (M 10)) := HM.2 10 (by decide)
  have m11 : h[384]? = some (x_la 2 sd) := HM.2 11 (by decide)
  have m12 : h[385]? = some (.inl (2, 2, .inl kp)) := HM.2 12 (by decide)
  obtain ⟨w1, w2, w3, w4, w5, w6, w7, hq, wt, wi, wk, ws, wb, wx⟩ := id HZ
  obtain ⟨q0, q1, q2, q3, q9, q15, q21, q45⟩ := id hq
  have q21z : ∀ r9, r9 < z_R Z → M 8 (21 + r9) = q_la (z_Q Z) 0 r9 := fun r9 hr9 => q21 0 r9 (by decide) hr9
  have hB : x_HB (z_N Z) (z_R Z) (z_D Z) (z_P Z) (z_F Z) := hZ.1.hb
  have hQ : x_QB (z_N Z) (z_R Z) (z_P Z) (z_Q Z) := hZ.2.1.1
  obtain ⟨⟨b1, b2, b3, b4⟩, b5, b6, b7⟩ := id hB
  obtain ⟨u1, u2, u3, u4, u5, u6, u7, u8, u9⟩ := id hQ
  have bT : (z_T Z).1 ≤ 30 := hZ.2.2.1.1
  have bs : z_s Z < 2 ^ 31 := hZ.2.2.2.2.1
  have bX : (z_X Z).1 ≤ 240 := hZ.2.2.2.2.2.1.1
  have bXc : ∀ i, i < (z_X Z).1 → (z_X Z).2 i < 256 := hZ.2.2.2.2.2.1.2
  have bS : (z_S Z).1 ≤ 6 := hZ.2.2.2.2.2.2.1.1
  have bSr : ∀ i, i < (z_S Z).1 → (z_S Z).2.1 i < z_R Z := hZ.2.2.2.2.2.2.1.2
  have bB : (z_B Z).1 ≤ 20 := hZ.2.2.2.2.2.2.2.1
  have bBr : ∀ i, i < (z_B Z).1 → (z_B Z).2.1 i < z_R Z := hZ.2.2.2.2.2.2.2.2
  have FD := x_fD.rf h
  refine x_Met.of (lo := [some (.ref 372), some (.int i)]) (by decide) rfl rfl rfl ?_
  refine R_iload_n dX8_keep_0 rfl ?_
  refine R_iconst (nI 0) dX8_keep_1 rfl ?_
  refine R_iconst (nI 1) dX8_keep_2 rfl ?_
  refine R_cS3p (N := m_X8_in) dX8_keep_3 l_X8_85 i_X8_in (n_in _ _ _) rfl rfl ?_
  refine R_ifneB 12 dX8_keep_6 rfl (fun c_6 => ?_) (fun c_6 => ?_)
  · rw [x_in_has (by decide)] at c_6
    obtain ⟨j, hj, rfl⟩ := x_has_t (by omega) c_6
    refine R_aload_n dX8_keep_12 rfl ?_
    refine R_get dX8_keep_13 f_X8_38 mo rfl ?_
    refine R_iconst (nI 0) dX8_keep_16 rfl ?_
    refine R_aload_n dX8_keep_17 rfl ?_
    refine R_get dX8_keep_18 f_X8_44 mo rfl ?_
    refine R_bipush (nI 51) dX8_keep_21 rfl ?_
    refine R_iload_n dX8_keep_23 rfl ?_
    refine R_imulN dX8_keep_24 ?_
    refine R_bipush (nI 51) dX8_keep_25 rfl ?_
    refine R_cS5v (N := m_X8_bring) dX8_keep_27 l_X8_157 i_X8_bring (n_bring (na := 51) (nb := 102) m8 m10 (by decide) (by omega) (by omega) (by omega) (by omega) (by decide) (by decide)) rfl rfl (fun h27 q_27 => ?_)
    subst q_27
    have mo : (List.set h 383 (x_ia 102 (va_cpy (M 8) (M 10) 0 (51 * j) 51)))[372]? = some (x_mob ((z_X Z).1) (z_f Z) (z_N Z) (z_R Z) (z_D Z) (z_P Z) ((z_T Z).1) (z_s Z) ((z_S Z).1) ((z_B Z).1) t) := (List.getElem?_set_ne (by omega)).trans mo
    have m11 : (List.set h 383 (x_ia 102 (va_cpy (M 8) (M 10) 0 (51 * j) 51)))[384]? = some (x_la 2 sd) := (List.getElem?_set_ne (by omega)).trans m11
    have m12 : (List.set h 383 (x_ia 102 (va_cpy (M 8) (M 10) 0 (51 * j) 51)))[385]? = some (.inl (2, 2, .inl kp)) := (List.getElem?_set_ne (by omega)).trans m12
    refine R_aload_n dX8_keep_30 rfl ?_
    refine R_get dX8_keep_31 f_X8_47 mo rfl ?_
    refine R_iload_n dX8_keep_34 rfl ?_
    refine R_aload_n dX8_keep_35 rfl ?_
    refine R_get dX8_keep_36 f_X8_249 mo rfl ?_
    refine R_last dX8_keep_39 m11 (by omega) rfl (by omega) (by decide) ?_
    have mo : (List.set (List.set h 383 (x_ia 102 (va_cpy (M 8) (M 10) 0 (51 * j) 51))) 384 (x_la 2 (vp_updL sd j (lN (z_s Z)))))[372]? = some (x_mob ((z_X Z).1) (z_f Z) (z_N Z) (z_R Z) (z_D Z) (z_P Z) ((z_T Z).1) (z_s Z) ((z_S Z).1) ((z_B Z).1) t) := (List.getElem?_set_ne (by omega)).trans mo
    have m12 : (List.set (List.set h 383 (x_ia 102 (va_cpy (M 8) (M 10) 0 (51 * j) 51))) 384 (x_la 2 (vp_updL sd j (lN (z_s Z)))))[385]? = some (.inl (2, 2, .inl kp)) := (List.getElem?_set_ne (by omega)).trans m12
    refine R_aload_n dX8_keep_40 rfl ?_
    refine R_get dX8_keep_41 f_X8_51 mo rfl ?_
    refine R_iload_n dX8_keep_44 rfl ?_
    refine R_iconst (nI 1) dX8_keep_45 rfl ?_
    refine R_zast dX8_keep_46 m12 (Or.inr rfl) rfl (by omega) (by decide) ?_
    have mo : (List.set (List.set (List.set h 383 (x_ia 102 (va_cpy (M 8) (M 10) 0 (51 * j) 51))) 384 (x_la 2 (vp_updL sd j (lN (z_s Z))))) 385 (.inl (2, 2, .inl (upd kp j (nI 1)))))[372]? = some (x_mob ((z_X Z).1) (z_f Z) (z_N Z) (z_R Z) (z_D Z) (z_P Z) ((z_T Z).1) (z_s Z) ((z_S Z).1) ((z_B Z).1) t) := (List.getElem?_set_ne (by omega)).trans mo
    refine R_aload_n dX8_keep_47 rfl ?_
    refine R_iconst (nI 0) dX8_keep_48 rfl ?_
    refine R_put dX8_keep_49 f_X8_164 mo (Nat.le_of_ble_eq_true rfl) (fun _ => rfl) (fun _ => rfl) ?_
    simp only [List.set_cons_succ, List.set_cons_zero]
    have C := C.keep hj b2 b4
    have FD := (((FD.set (c := 383) (x_ia 102 (va_cpy (M 8) (M 10) 0 (51 * j) 51)) (by omega)).set (c := 384) (x_la 2 (vp_updL sd j (lN (z_s Z)))) (by omega)).set (c := 385) (.inl (2, 2, .inl (upd kp j (nI 1)))) (by omega)).set (c := 372) (x_mob ((z_X Z).1) (z_f Z) (z_N Z) (z_R Z) (z_D Z) (z_P Z) (0) (z_s Z) ((z_S Z).1) ((z_B Z).1) t) (by omega)
    refine R_iconst (nI 1) dX8_keep_52 rfl ?_
    exact R_iret dX8_keep_53 rfl rfl rfl (x_KD.ok C.cl FD (by rw [z_keep, z_tb_t hj (by decide)]))
  · rw [x_in_has (by decide)] at c_6
    refine R_ldc (-1000000001) dX8_keep_9 k_X8_222 ?_
    exact R_iret dX8_keep_11 rfl rfl rfl (x_KD.ok C.cl (x_fD.rf _) (by rw [z_keep, z_tb_f c_6]))
theorem n_goBack {h : xH} {Z : xZ} {k : Nat} {M : Nat → Nat → Int32} {sd : Nat → Int64} {kp t : Nat → Int32} (C : x_ML h Z M sd kp t) (hZ : x_ZB k Z) (hk : k ≤ 50000) (i : Int32) : x_Met m_X8_goBack [.ref 372, .int i] h (x_KD h (z_goBack Z i)) := by
  obtain ⟨HM, HZ⟩ := id C
  have mo : h[372]? = some (x_mob (z_X Z).1 (z_f Z) (z_N Z) (z_R Z) (z_D Z) (z_P Z) (z_T Z).1 (z_s Z) (z_S Z).1 (z_B Z).1 t) := HM.1
  have m8 : h[381]? = some (x_ia 51 (M 8)) := HM.2 8 (by decide)
  have m10 : h[383]? = some (x_ia 102 (M 10)) := HM.2 10 (by decide)
  have m11 : h[384]? = some (x_la 2 sd) := HM.2 11 (by decide)
  have m12 : h[385]? = some (.inl (2, 2, .inl kp)) := HM.2 12 (by decide)
  obtain ⟨w1, w2, w3, w4, w5, w6, w7, hq, wt, wi, wk, ws, wb, wx⟩ := id HZ
  obtain ⟨q0, q1, q2, q3, q9, q15, q21, q45⟩ := id hq
  have q21z : ∀ r9, r9 < z_R Z → M 8 (21 + r9) = q_la (z_Q Z) 0 r9 := fun r9 hr9 => q21 0 r9 (by decide) hr9
  have hB : x_HB (z_N Z) (z_R Z) (z_D Z) (z_P Z) (z_F Z) := hZ.1.hb
  have hQ : x_QB (z_N Z) (z_R Z) (z_P Z) (z_Q Z) := hZ.2.1.1
  obtain ⟨⟨b1, b2, b3, b4⟩, b5, b6, b7⟩ := id hB
  obtain ⟨u1, u2, u3, u4, u5, u6, u7, u8, u9⟩ := id hQ
  have bT : (z_T Z).1 ≤ 30 := hZ.2.2.1.1
  have bs : z_s Z < 2 ^ 31 := hZ.2.2.2.2.1
  have bX : (z_X Z).1 ≤ 240 := hZ.2.2.2.2.2.1.1
  have bXc : ∀ i, i < (z_X Z).1 → (z_X Z).2 i < 256 := hZ.2.2.2.2.2.1.2
  have bS : (z_S Z).1 ≤ 6 := hZ.2.2.2.2.2.2.1.1
  have bSr : ∀ i, i < (z_S Z).1 → (z_S Z).2.1 i < z_R Z := hZ.2.2.2.2.2.2.1.2
  have bB : (z_B Z).1 ≤ 20 := hZ.2.2.2.2.2.2.2.1
  have bBr : ∀ i, i < (z_B Z).1 → (z_B Z).2.1 i < z_R Z := hZ.2.2.2.2.2.2.2.2
  have FD := x_fD.rf h
  refine x_Met.of (lo := [some (.ref 372), some (.int i)]) (by decide) rfl rfl rfl ?_
  refine R_iload_n dX8_goBack_0 rfl ?_
  refine R_iconst (nI 0) dX8_goBack_1 rfl ?_
  refine R_iconst (nI 1) dX8_goBack_2 rfl ?_
  refine R_cS3p (N := m_X8_in) dX8_goBack_3 l_X8_85 i_X8_in (n_in _ _ _) rfl rfl ?_
  refine R_ifneB 12 dX8_goBack_6 rfl (fun c_6 => ?_) (fun c_6 => ?_)
  · rw [x_in_has (by decide)] at c_6
    obtain ⟨j, hj, rfl⟩ := x_has_t (by omega) c_6
    refine R_aload_n dX8_goBack_12 rfl ?_
    refine R_get dX8_goBack_13 f_X8_51 mo rfl ?_
    refine R_iload_n dX8_goBack_16 rfl ?_
    refine R_zald dX8_goBack_17 m12 rfl (by omega) (by decide) ?_
    rw [wk j hj]
    refine R_ifneB 24 dX8_goBack_18 rfl (fun c_18 => ?_) (fun c_18 => ?_)
    · refine R_aload_n dX8_goBack_24 rfl ?_
      refine R_get dX8_goBack_25 f_X8_44 mo rfl ?_
      refine R_bipush (nI 51) dX8_goBack_28 rfl ?_
      refine R_iload_n dX8_goBack_30 rfl ?_
      refine R_imulN dX8_goBack_31 ?_
      refine R_aload_n dX8_goBack_32 rfl ?_
      refine R_get dX8_goBack_33 f_X8_38 mo rfl ?_
      refine R_iconst (nI 0) dX8_goBack_36 rfl ?_
      refine R_bipush (nI 51) dX8_goBack_37 rfl ?_
      refine R_cS5v (N := m_X8_bring) dX8_goBack_39 l_X8_157 i_X8_bring (n_bring (na := 102) (nb := 51) m10 m8 (by decide) (by omega) (by omega) (by omega) (by omega) (by decide) (by decide)) rfl rfl (fun h39 q_39 => ?_)
      subst q_39
      have mo : (List.set h 381 (x_ia 51 (va_cpy (M 10) (M 8) (51 * j) 0 51)))[372]? = some (x_mob ((z_X Z).1) (z_f Z) (z_N Z) (z_R Z) (z_D Z) (z_P Z) ((z_T Z).1) (z_s Z) ((z_S Z).1) ((z_B Z).1) t) := (List.getElem?_set_ne (by omega)).trans mo
      have m11 : (List.set h 381 (x_ia 51 (va_cpy (M 10) (M 8) (51 * j) 0 51)))[384]? = some (x_la 2 sd) := (List.getElem?_set_ne (by omega)).trans m11
      have wij := wi j hj c_18
      have hq2 : x_stq (va_cpy (M 10) (M 8) (51 * j) 0 51) (z_R Z) (z_P Z) ((z_I Z).2.1 j) := by
        refine wij.1.cong b2 b4 (fun x hx => ?_)
        show (va_cpy (M 10) (M 8) (51 * j) 0 51) x = M 10 (51 * j + x)
        unfold va_cpy
        rw [if_pos (by omega), show 51 * j + (x - 0) = 51 * j + x by omega]
      refine R_aload_n dX8_goBack_42 rfl ?_
      refine R_aload_n dX8_goBack_43 rfl ?_
      refine R_get dX8_goBack_44 f_X8_47 mo rfl ?_
      refine R_iload_n dX8_goBack_47 rfl ?_
      refine R_lald dX8_goBack_48 m11 rfl (by omega) (by decide) ?_
      refine R_put dX8_goBack_49 f_X8_249 mo (Nat.le_of_ble_eq_true rfl) (fun _ => rfl) (fun _ => rfl) ?_
      rw [wij.2]
      simp only [List.set_cons_succ, List.set_cons_zero]
      have mo : (List.set (List.set h 381 (x_ia 51 (va_cpy (M 10) (M 8) (51 * j) 0 51))) 372 (x_mob ((z_X Z).1) (z_f Z) (z_N Z) (z_R Z) (z_D Z) (z_P Z) ((z_T Z).1) ((z_I Z).2.2 j) ((z_S Z).1) ((z_B Z).1) t))[372]? = some (x_mob ((z_X Z).1) (z_f Z) (z_N Z) (z_R Z) (z_D Z) (z_P Z) ((z_T Z).1) ((z_I Z).2.2 j) ((z_S Z).1) ((z_B Z).1) t) := List.getElem?_set_self (List.getElem?_eq_some_iff.mp mo).1
      refine R_aload_n dX8_goBack_52 rfl ?_
      refine R_iconst (nI 0) dX8_goBack_53 rfl ?_
      refine R_put dX8_goBack_54 f_X8_164 mo (Nat.le_of_ble_eq_true rfl) (fun _ => rfl) (fun _ => rfl) ?_
      simp only [List.set_cons_succ, List.set_cons_zero]
      have C := C.back (s := (z_I Z).2.2 j) hq2
      have FD := ((FD.set (c := 381) (x_ia 51 (va_cpy (M 10) (M 8) (51 * j) 0 51)) (by omega)).set (c := 372) (x_mob ((z_X Z).1) (z_f Z) (z_N Z) (z_R Z) (z_D Z) (z_P Z) ((z_T Z).1) ((z_I Z).2.2 j) ((z_S Z).1) ((z_B Z).1) t) (by omega)).set (c := 372) (x_mob ((z_X Z).1) (z_f Z) (z_N Z) (z_R Z) (z_D Z) (z_P Z) (0) ((z_I Z).2.2 j) ((z_S Z).1) ((z_B Z).1) t) (by omega)
      refine R_iconst (nI 1) dX8_goBack_57 rfl ?_
      exact R_iret dX8_goBack_58 rfl rfl rfl (x_KD.ok C.cl FD (by rw [z_goBack, z_tb_t hj (by decide), if_pos c_18]))
    · refine R_ldc (-1000000003) dX8_goBack_21 k_X8_245 ?_
      exact R_iret dX8_goBack_23 rfl rfl rfl (x_KD.ok C.cl (x_fD.rf _) (by rw [z_goBack, z_tb_t hj (by decide), if_neg (by rw [c_18]; decide)]))
  · rw [x_in_has (by decide)] at c_6
    refine R_ldc (-1000000001) dX8_goBack_9 k_X8_222 ?_
    exact R_iret dX8_goBack_11 rfl rfl rfl (x_KD.ok C.cl (x_fD.rf _) (by rw [z_goBack, z_tb_f c_6]))
