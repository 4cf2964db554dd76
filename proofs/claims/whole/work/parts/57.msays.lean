/-! THE MODEL says; an hour passes -/
theorem s_sayst_step {N R : Nat} {F : xF} {Q : xQ} {p k r : Nat} (hr : r < R) {v : Int32} (hv : v = if s_reach N F Q p (q_pl Q p) (q_hr Q) k (s_wd Q k) r then nI (s_name F p k) else s_sayst N R F Q p k r k r) (i j : Nat) : (if i = k ∧ j = r then v else s_sayst N R F Q p k r i j) = s_sayst N R F Q p k (r + 1) i j := by
  cases hc : s_reach N F Q p (q_pl Q p) (q_hr Q) k (s_wd Q k) r with
  | true =>
    rw [hc] at hv
    have hv : v = nI (s_name F p k) := hv
    have hc2 : (decide (r < R) && s_reach N F Q p (q_pl Q p) (q_hr Q) k (s_wd Q k) r) = true := by rw [hc, decide_eq_true hr]; rfl
    have z := congrFun (s_sayst_yes hc2 i) j
    rw [← z]
    by_cases e : i = k
    · subst e
      rw [if_pos rfl]
      by_cases e2 : j = r
      · subst e2; rw [if_pos ⟨rfl, rfl⟩, x_upd_eq]; exact hv
      · rw [if_neg (fun w => e2 w.2), x_upd_ne e2]
    · rw [if_neg e, if_neg (fun w => e w.1)]
  | false =>
    rw [hc] at hv
    have hv : v = s_sayst N R F Q p k r k r := hv
    have hc2 : (decide (r < R) && s_reach N F Q p (q_pl Q p) (q_hr Q) k (s_wd Q k) r) = false := by rw [hc, Bool.and_false]
    rw [← s_sayst_no hc2 i j]
    by_cases e : i = k ∧ j = r
    · obtain ⟨rfl, rfl⟩ := e; rw [if_pos ⟨rfl, rfl⟩]; exact hv
    · rw [if_neg e]
theorem x_ZB.la {k : Nat} {Z : xZ} {la : Nat → Nat → Int32} (h : x_ZB k Z) (hl : ∀ i r, i < 4 → r < z_R Z → la i r = -1 ∨ ∃ q, q < 6 ∧ la i r = nI q) : x_ZB k (z_setQ Z (q_setla (z_Q Z) la)) := ⟨h.1, ⟨h.2.1.1.la hl, h.2.1.2⟩, h.2.2⟩
theorem n_says_in {h : xH} {Z : xZ} {k : Nat} (hZ : x_ZB k Z) (hk : k ≤ 50000) {p y : Nat} (hp : p < z_P Z) (hy : y < 4) (ko : ∀ (g : xH) (M : Nat → Nat → Int32) (sd : Nat → Int64) (kp t : Nat → Int32) (v5 : Option Value), x_ML g (z_setQ Z (q_setla (z_Q Z) (s_sayst (z_N Z) (z_R Z) (z_F Z) (z_Q Z) p (y + 1) 0))) M sd kp t → x_fD h g → x_Rn m_X8_says 96 [some (.ref 372), some (.int (nI p)), some (.int (nI y)), some (.int (s_set (z_R Z) (s_reach (z_N Z) (z_F Z) (z_Q Z) p (q_pl (z_Q Z) p) (q_hr (z_Q Z)) y (s_wd (z_Q Z) y)))), some (.int (nI (z_R Z))), v5] [] g (0, 0) (x_KV h (z_setQ Z (s_speak (z_N Z) (z_R Z) (z_F Z) (z_Q Z) p)))) : ∀ (m r : Nat), r ≤ z_R Z → z_R Z + 1 ≤ r + m → ∀ (M : Nat → Nat → Int32) (sd : Nat → Int64) (kp t : Nat → Int32) (v5 : Option Value) {g : xH}, x_ML g (z_setQ Z (q_setla (z_Q Z) (s_sayst (z_N Z) (z_R Z) (z_F Z) (z_Q Z) p y r))) M sd kp t → x_fD h g → x_Rn m_X8_says 37 [some (.ref 372), some (.int (nI p)), some (.int (nI y)), some (.int (s_set (z_R Z) (s_reach (z_N Z) (z_F Z) (z_Q Z) p (q_pl (z_Q Z) p) (q_hr (z_Q Z)) y (s_wd (z_Q Z) y)))), some (.int (nI r)), v5] [] g (0, 0) (x_KV h (z_setQ Z (s_speak (z_N Z) (z_R Z) (z_F Z) (z_Q Z) p))) := by
  have hB : x_HB (z_N Z) (z_R Z) (z_D Z) (z_P Z) (z_F Z) := hZ.1.hb
  have hQ : x_QB (z_N Z) (z_R Z) (z_P Z) (z_Q Z) := hZ.2.1.1
  obtain ⟨⟨b1, b2, b3, b4⟩, b5, b6, b7⟩ := id hB
  obtain ⟨u1, u2, u3, u4, u5, u6, u7, u8, u9⟩ := id hQ
  have bT : (z_T Z).1 ≤ 30 := hZ.2.2.1.1
  have bs : z_s Z < 2 ^ 31 := hZ.2.2.2.2.1
  have bX : (z_X Z).1 ≤ 240 := hZ.2.2.2.2.2.1.1
  have bXc : ∀ i, i < (z_X Z).1 → (z_X Z).2 i < 256 := hZ.2.2.2.2.2.1.2
  have bS : (z_S Z).1 ≤ 6 := hZ.2.2.2.2.2.2.1.1
  have bSr : ∀ i, i < (z_S Z).1 → (z_S Z).2.1 i < z_R Z := hZ.2.2.2.2.2.2.1.2
  have bB : (z_B Z).1 ≤ 20 := hZ.2.2.2.2.2.2.2.1
  have bBr : ∀ i, i < (z_B Z).1 → (z_B Z).2.1 i < z_R Z := hZ.2.2.2.2.2.2.2.2
  intro m
  induction m with
  | zero => intro r h1 h3; omega
  | succ m ih =>
    intro r h1 h3 M sd kp t v5 g C FD
    obtain ⟨HM, HZ⟩ := id C
    have mo : g[372]? = some (x_mob (z_X Z).1 (z_f Z) (z_N Z) (z_R Z) (z_D Z) (z_P Z) (z_T Z).1 (z_s Z) (z_S Z).1 (z_B Z).1 t) := HM.1
    have m8 : g[381]? = some (x_ia 51 (M 8)) := HM.2 8 (by decide)
    have hq : x_stq (M 8) (z_R Z) (z_P Z) (q_setla (z_Q Z) (s_sayst (z_N Z) (z_R Z) (z_F Z) (z_Q Z) p y r)) := HZ.2.2.2.2.2.2.2.1
    obtain ⟨q0, q1, q2, q3, q9, q15, q21, q45⟩ := id hq
    have q21z : ∀ r9, r9 < z_R Z → M 8 (21 + r9) = q_la (q_setla (z_Q Z) (s_sayst (z_N Z) (z_R Z) (z_F Z) (z_Q Z) p y r)) 0 r9 := fun r9 hr9 => q21 0 r9 (by decide) hr9
    refine R_iload dX8_says_37 rfl ?_
    refine R_aload_n dX8_says_39 rfl ?_
    refine R_get dX8_says_40 f_X8_82 mo rfl ?_
    refine R_geN 96 dX8_says_43 rfl (by omega) (by omega) (fun c_43 => ?_) (fun c_43 => ?_)
    · have e : r = z_R Z := by omega
      have C2 : x_ML g (z_setQ Z (q_setla (z_Q Z) (s_sayst (z_N Z) (z_R Z) (z_F Z) (z_Q Z) p (y + 1) 0))) M sd kp t := by
        refine ⟨HM, HZ.1, HZ.2.1, HZ.2.2.1, HZ.2.2.2.1, HZ.2.2.2.2.1, HZ.2.2.2.2.2.1, HZ.2.2.2.2.2.2.1, ?_, HZ.2.2.2.2.2.2.2.2⟩
        rw [e] at hq
        exact hq.eq rfl rfl rfl (fun _ _ => rfl) (fun _ _ => rfl) (fun _ _ => rfl) (fun i x _ _ => s_sayst_end (z_N Z) (z_R Z) (z_F Z) (z_Q Z) p y i x) (fun _ _ => rfl)
      subst e
      exact ko g M sd kp t _ C2 FD
    · have hr : r < z_R Z := by omega
      refine R_bipush (nI 21) dX8_says_46 rfl ?_
      refine R_bipush (nI 6) dX8_says_48 rfl ?_
      refine R_iload_n dX8_says_50 rfl ?_
      refine R_imulN dX8_says_51 ?_
      refine R_iaddN dX8_says_52 ?_
      refine R_iload dX8_says_53 rfl ?_
      refine R_iaddN dX8_says_55 ?_
      refine R_istore dX8_says_56 (Nat.le_of_ble_eq_true rfl) rfl ?_
      refine R_aload_n dX8_says_58 rfl ?_
      refine R_get dX8_says_59 f_X8_38 mo rfl ?_
      refine R_iload dX8_says_62 rfl ?_
      refine R_iload_n dX8_says_64 rfl ?_
      refine R_iload dX8_says_65 rfl ?_
      refine R_cS2p (N := m_X8_has) dX8_says_67 l_X8_181 i_X8_has (n_has (s_bitR b2 (s_reach (z_N Z) (z_F Z) (z_Q Z) p (q_pl (z_Q Z) p) (q_hr (z_Q Z)) y (s_wd (z_Q Z) y)) (by omega))) rfl rfl ?_
      refine R_ifeqB 82 dX8_says_70 rfl (fun c_70 => ?_) (fun c_70 => ?_)
      · skip
        refine R_aload_n dX8_says_82 rfl ?_
        refine R_get dX8_says_83 f_X8_38 mo rfl ?_
        refine R_iload dX8_says_86 rfl ?_
        refine R_iald dX8_says_88 m8 rfl (by omega) (by decide) ?_
        rw [q21 y r (by omega) (by omega)]
        refine R_iast dX8_says_89 m8 (by omega) rfl (by omega) (by decide) ?_
        have hq2 : x_stq (upd (M 8) (21 + 6 * y + r) ((s_sayst (z_N Z) (z_R Z) (z_F Z) (z_Q Z) p y r) y r)) (z_R Z) (z_P Z) (q_setla (z_Q Z) (s_sayst (z_N Z) (z_R Z) (z_F Z) (z_Q Z) p y (r + 1))) := (hq.la b2 hy hr ((s_sayst (z_N Z) (z_R Z) (z_F Z) (z_Q Z) p y r) y r)).eq rfl rfl rfl (fun _ _ => rfl) (fun _ _ => rfl) (fun _ _ => rfl) (fun i x _ _ => s_sayst_step hr (by rw [c_70]; rfl) i x) (fun _ _ => rfl)
        have C2 := C.st hq2
        have FD2 := FD.set (c := 381) (x_ia 51 (upd (M 8) (21 + 6 * y + r) ((s_sayst (z_N Z) (z_R Z) (z_F Z) (z_Q Z) p y r) y r))) (by omega)
        refine R_iincN dX8_says_90 rfl (Nat.le_of_ble_eq_true rfl) rfl ?_
        refine R_goto 37 dX8_says_93 rfl ?_
        exact ih (r + 1) (by omega) (by omega) _ _ _ _ _ C2 FD2
      · skip
        refine R_aload_n dX8_says_73 rfl ?_
        refine R_iload_n dX8_says_74 rfl ?_
        refine R_iload_n dX8_says_75 rfl ?_
        refine R_cV2p (N := m_X8_whoseOf) dX8_says_76 l_X8_197 i_X8_whoseOf mo (n_whose C (hZ.la (fun i r h3 h4 => s_sayst_B hB hQ hp i r h3 h4)) hk (p := p) (y := y) hp hy) rfl rfl ?_
        refine R_goto 89 dX8_says_79 rfl ?_
        refine R_iast dX8_says_89 m8 (by omega) rfl (by omega) (by decide) ?_
        have hq2 : x_stq (upd (M 8) (21 + 6 * y + r) (nI (s_name (z_F Z) p y))) (z_R Z) (z_P Z) (q_setla (z_Q Z) (s_sayst (z_N Z) (z_R Z) (z_F Z) (z_Q Z) p y (r + 1))) := (hq.la b2 hy hr (nI (s_name (z_F Z) p y))).eq rfl rfl rfl (fun _ _ => rfl) (fun _ _ => rfl) (fun _ _ => rfl) (fun i x _ _ => s_sayst_step hr (by rw [c_70]; rfl) i x) (fun _ _ => rfl)
        have C2 := C.st hq2
        have FD2 := FD.set (c := 381) (x_ia 51 (upd (M 8) (21 + 6 * y + r) (nI (s_name (z_F Z) p y)))) (by omega)
        refine R_iincN dX8_says_90 rfl (Nat.le_of_ble_eq_true rfl) rfl ?_
        refine R_goto 37 dX8_says_93 rfl ?_
        exact ih (r + 1) (by omega) (by omega) _ _ _ _ _ C2 FD2
theorem n_says_out {h : xH} {Z : xZ} {k : Nat} (hZ : x_ZB k Z) (hk : k ≤ 50000) {p : Nat} (hp : p < z_P Z) : ∀ (m y : Nat), y ≤ 4 → 5 ≤ y + m → ∀ (M : Nat → Nat → Int32) (sd : Nat → Int64) (kp t : Nat → Int32) (v3 v4 v5 : Option Value) {g : xH}, x_ML g (z_setQ Z (q_setla (z_Q Z) (s_sayst (z_N Z) (z_R Z) (z_F Z) (z_Q Z) p y 0))) M sd kp t → x_fD h g → x_Rn m_X8_says 2 [some (.ref 372), some (.int (nI p)), some (.int (nI y)), v3, v4, v5] [] g (0, 0) (x_KV h (z_setQ Z (s_speak (z_N Z) (z_R Z) (z_F Z) (z_Q Z) p))) := by
  have hB : x_HB (z_N Z) (z_R Z) (z_D Z) (z_P Z) (z_F Z) := hZ.1.hb
  have hQ : x_QB (z_N Z) (z_R Z) (z_P Z) (z_Q Z) := hZ.2.1.1
  obtain ⟨⟨b1, b2, b3, b4⟩, b5, b6, b7⟩ := id hB
  obtain ⟨u1, u2, u3, u4, u5, u6, u7, u8, u9⟩ := id hQ
  have bT : (z_T Z).1 ≤ 30 := hZ.2.2.1.1
  have bs : z_s Z < 2 ^ 31 := hZ.2.2.2.2.1
  have bX : (z_X Z).1 ≤ 240 := hZ.2.2.2.2.2.1.1
  have bXc : ∀ i, i < (z_X Z).1 → (z_X Z).2 i < 256 := hZ.2.2.2.2.2.1.2
  have bS : (z_S Z).1 ≤ 6 := hZ.2.2.2.2.2.2.1.1
  have bSr : ∀ i, i < (z_S Z).1 → (z_S Z).2.1 i < z_R Z := hZ.2.2.2.2.2.2.1.2
  have bB : (z_B Z).1 ≤ 20 := hZ.2.2.2.2.2.2.2.1
  have bBr : ∀ i, i < (z_B Z).1 → (z_B Z).2.1 i < z_R Z := hZ.2.2.2.2.2.2.2.2
  intro m
  induction m with
  | zero => intro y h1 h3; omega
  | succ m ih =>
    intro y h1 h3 M sd kp t v3 v4 v5 g C FD
    have tail : y < 4 → ∀ (g : xH) (M : Nat → Nat → Int32) (sd : Nat → Int64) (kp t : Nat → Int32) (v5 : Option Value), x_ML g (z_setQ Z (q_setla (z_Q Z) (s_sayst (z_N Z) (z_R Z) (z_F Z) (z_Q Z) p (y + 1) 0))) M sd kp t → x_fD h g → x_Rn m_X8_says 96 [some (.ref 372), some (.int (nI p)), some (.int (nI y)), some (.int (s_set (z_R Z) (s_reach (z_N Z) (z_F Z) (z_Q Z) p (q_pl (z_Q Z) p) (q_hr (z_Q Z)) y (s_wd (z_Q Z) y)))), some (.int (nI (z_R Z))), v5] [] g (0, 0) (x_KV h (z_setQ Z (s_speak (z_N Z) (z_R Z) (z_F Z) (z_Q Z) p))) := by
      intro hy g M sd kp t v5 C FD
      refine R_iincN dX8_says_96 rfl (Nat.le_of_ble_eq_true rfl) rfl ?_
      refine R_goto 2 dX8_says_99 rfl ?_
      exact ih (y + 1) (by omega) (by omega) M sd kp t _ _ _ C FD
    obtain ⟨HM, HZ⟩ := id C
    have mo : g[372]? = some (x_mob (z_X Z).1 (z_f Z) (z_N Z) (z_R Z) (z_D Z) (z_P Z) (z_T Z).1 (z_s Z) (z_S Z).1 (z_B Z).1 t) := HM.1
    have m8 : g[381]? = some (x_ia 51 (M 8)) := HM.2 8 (by decide)
    have hq : x_stq (M 8) (z_R Z) (z_P Z) (q_setla (z_Q Z) (s_sayst (z_N Z) (z_R Z) (z_F Z) (z_Q Z) p y 0)) := HZ.2.2.2.2.2.2.2.1
    obtain ⟨q0, q1, q2, q3, q9, q15, q21, q45⟩ := id hq
    have q21z : ∀ r9, r9 < z_R Z → M 8 (21 + r9) = q_la (q_setla (z_Q Z) (s_sayst (z_N Z) (z_R Z) (z_F Z) (z_Q Z) p y 0)) 0 r9 := fun r9 hr9 => q21 0 r9 (by decide) hr9
    refine R_iload_n dX8_says_2 rfl ?_
    refine R_iconst (nI 4) dX8_says_3 rfl ?_
    refine R_geN 102 dX8_says_4 rfl (by omega) (by omega) (fun c_4 => ?_) (fun c_4 => ?_)
    · have e : y = 4 := by omega
      subst e
      refine R_aload_n dX8_says_102 rfl ?_
      refine R_get dX8_says_103 f_X8_38 mo rfl ?_
      refine R_iconst (nI 2) dX8_says_106 rfl ?_
      refine R_dup2 dX8_says_107 rfl rfl ?_
      refine R_iald dX8_says_108 m8 rfl (by omega) (by decide) ?_
      rw [q2]
      refine R_iconst (nI 1) dX8_says_109 rfl ?_
      refine R_iaddN dX8_says_110 ?_
      refine R_iast dX8_says_111 m8 (by omega) rfl (by omega) (by decide) ?_
      have hq2 : x_stq (upd (M 8) 2 (nI (q_sy (z_Q Z) + 1))) (z_R Z) (z_P Z) (s_speak (z_N Z) (z_R Z) (z_F Z) (z_Q Z) p) := (hq.sy b2 (q_sy (z_Q Z) + 1)).eq rfl rfl rfl (fun _ _ => rfl) (fun _ _ => rfl) (fun _ _ => rfl) (fun i x hi hx => by show (s_sayst (z_N Z) (z_R Z) (z_F Z) (z_Q Z) p 4 0) i x = s_said _ _ _ _ _ i x; rw [s_sayst, if_pos (Or.inl (by omega))]) (fun _ _ => rfl)
      have C2 := C.st hq2
      have FD2 := FD.set (c := 381) (x_ia 51 (upd (M 8) 2 (nI (q_sy (z_Q Z) + 1)))) (by omega)
      exact R_vret dX8_says_112 rfl rfl rfl ⟨rfl, C2.cl, FD2⟩
    · have hy : y < 4 := by omega
      refine R_aload_n dX8_says_7 rfl ?_
      refine R_iload_n dX8_says_8 rfl ?_
      refine R_aload_n dX8_says_9 rfl ?_
      refine R_get dX8_says_10 f_X8_38 mo rfl ?_
      refine R_bipush (nI 45) dX8_says_13 rfl ?_
      refine R_iload_n dX8_says_15 rfl ?_
      refine R_iaddN dX8_says_16 ?_
      refine R_iald dX8_says_17 m8 rfl (by omega) (by decide) ?_
      rw [q45 p (by omega)]
      refine R_aload_n dX8_says_18 rfl ?_
      refine R_get dX8_says_19 f_X8_38 mo rfl ?_
      refine R_iconst (nI 0) dX8_says_22 rfl ?_
      refine R_iald dX8_says_23 m8 rfl (by omega) (by decide) ?_
      rw [q0]
      refine R_iload_n dX8_says_24 rfl ?_
      refine R_aload_n dX8_says_25 rfl ?_
      refine R_iload_n dX8_says_26 rfl ?_
      refine R_cV1p (N := m_X8_wordedOf) dX8_says_27 l_X8_189 i_X8_wordedOf mo (n_worded C (hZ.la (fun i r h3 h4 => s_sayst_B hB hQ hp i r h3 h4)) hk (y := y) (by omega)) rfl rfl ?_
      refine R_cV5p (N := m_X8_countsIn) dX8_says_30 l_X8_193 i_X8_countsIn mo (n_countsIn C (hZ.la (fun i r h3 h4 => s_sayst_B hB hQ hp i r h3 h4)) hk (wd := s_wd (q_setla (z_Q Z) (s_sayst (z_N Z) (z_R Z) (z_F Z) (z_Q Z) p y 0)) y) (f := q_pl (z_Q Z) p) (u := q_hr (z_Q Z)) hp (u6 p hp) u1 (y := y) (by omega) (s_bitR b2 _ (u6 p hp))) rfl rfl ?_
      have ewd : s_wd (q_setla (z_Q Z) (s_sayst (z_N Z) (z_R Z) (z_F Z) (z_Q Z) p y 0)) y = s_wd (z_Q Z) y := funext (fun r => by
        show decide (¬ (s_sayst (z_N Z) (z_R Z) (z_F Z) (z_Q Z) p y 0) y r = -1) = decide (¬ q_la (z_Q Z) y r = -1)
        rw [s_sayst, if_neg (by omega)])
      have ere : s_reach (z_N Z) (z_F Z) (q_setla (z_Q Z) (s_sayst (z_N Z) (z_R Z) (z_F Z) (z_Q Z) p y 0)) p (q_pl (z_Q Z) p) (q_hr (z_Q Z)) y (s_wd (q_setla (z_Q Z) (s_sayst (z_N Z) (z_R Z) (z_F Z) (z_Q Z) p y 0)) y) = s_reach (z_N Z) (z_F Z) (z_Q Z) p (q_pl (z_Q Z) p) (q_hr (z_Q Z)) y (s_wd (z_Q Z) y) := by rw [ewd]; rfl
      have ere2 : s_set (z_R (z_setQ Z (q_setla (z_Q Z) (s_sayst (z_N Z) (z_R Z) (z_F Z) (z_Q Z) p y 0)))) (s_reach (z_N (z_setQ Z (q_setla (z_Q Z) (s_sayst (z_N Z) (z_R Z) (z_F Z) (z_Q Z) p y 0)))) (z_F (z_setQ Z (q_setla (z_Q Z) (s_sayst (z_N Z) (z_R Z) (z_F Z) (z_Q Z) p y 0)))) (z_Q (z_setQ Z (q_setla (z_Q Z) (s_sayst (z_N Z) (z_R Z) (z_F Z) (z_Q Z) p y 0)))) p (q_pl (z_Q Z) p) (q_hr (z_Q Z)) y (s_wd (q_setla (z_Q Z) (s_sayst (z_N Z) (z_R Z) (z_F Z) (z_Q Z) p y 0)) y)) = s_set (z_R Z) (s_reach (z_N Z) (z_F Z) (z_Q Z) p (q_pl (z_Q Z) p) (q_hr (z_Q Z)) y (s_wd (z_Q Z) y)) := congrArg (s_set (z_R Z)) ere
      rw [ere2]
      refine R_istore_n dX8_says_33 (Nat.le_of_ble_eq_true rfl) rfl ?_
      refine R_iconst (nI 0) dX8_says_34 rfl ?_
      refine R_istore dX8_says_35 (Nat.le_of_ble_eq_true rfl) rfl ?_
      exact n_says_in hZ hk hp hy (fun g M sd kp t v5 C FD => tail hy g M sd kp t v5 C FD) (z_R Z + 1) 0 (by omega) (by omega) M sd kp t _ C FD
theorem n_says {h : xH} {Z : xZ} {k : Nat} {M : Nat → Nat → Int32} {sd : Nat → Int64} {kp t : Nat → Int32} (C : x_ML h Z M sd kp t) (hZ : x_ZB k Z) (hk : k ≤ 50000) {p : Nat} (hp : p < z_P Z) : x_Met m_X8_says [.ref 372, .int (nI p)] h (x_KV h (z_setQ Z (s_speak (z_N Z) (z_R Z) (z_F Z) (z_Q Z) p))) := by
  have C0 : x_ML h (z_setQ Z (q_setla (z_Q Z) (s_sayst (z_N Z) (z_R Z) (z_F Z) (z_Q Z) p 0 0))) M sd kp t := by
    refine ⟨C.1, C.2.1, C.2.2.1, C.2.2.2.1, C.2.2.2.2.1, C.2.2.2.2.2.1, C.2.2.2.2.2.2.1, C.2.2.2.2.2.2.2.1, ?_, C.2.2.2.2.2.2.2.2.2⟩
    exact C.2.2.2.2.2.2.2.2.1.eq rfl rfl rfl (fun _ _ => rfl) (fun _ _ => rfl) (fun _ _ => rfl) (fun i x _ _ => (if_neg (by omega)).symm) (fun _ _ => rfl)
  refine x_Met.of (lo := [some (.ref 372), some (.int (nI p)), none, none, none, none]) (by decide) rfl rfl rfl ?_
  refine R_iconst (nI 0) dX8_says_0 rfl ?_
  refine R_istore_n dX8_says_1 (Nat.le_of_ble_eq_true rfl) rfl ?_
  exact n_says_out hZ hk hp 5 0 (by omega) (by omega) M sd kp t none none none C0 (x_fD.rf h)
