/-! THE MODEL's fewest, laid -/
/-- the hours after u are laid, and of u the rooms before (a, b) -/
def x_fwp (Z : xZ) (p s : Nat) (f : Nat → Int32) (u a b : Nat) : Prop := (∀ u' r w, u < u' → u' ≤ z_N Z → r < z_R Z → w < 64 → f (384 * u' + 64 * r + w) = nI (v_V Z p s (z_N Z - u') r w)) ∧ ∀ r w, r < z_R Z → w < 64 → (r < a ∨ (r = a ∧ w < b)) → f (384 * u + 64 * r + w) = nI (v_V Z p s (z_N Z - u) r w)
theorem x_fwp.put {Z : xZ} {p s : Nat} {f : Nat → Int32} {u a b v : Nat} (h : x_fwp Z p s f u a b) (hR : z_R Z ≤ 6) (ha : a < z_R Z) (hb : b < 64) (hv : v = v_V Z p s (z_N Z - u) a b) : x_fwp Z p s (upd f (384 * u + 64 * a + b) (nI v)) u a (b + 1) := by
  refine ⟨fun u' r w h1 h2 h3 h4 => ?_, fun r w h3 h4 h5 => ?_⟩
  · rw [x_upd_ne (by omega)]; exact h.1 u' r w h1 h2 h3 h4
  · by_cases e : r = a ∧ w = b
    · rw [e.1, e.2, x_upd_eq, hv]
    · rw [x_upd_ne (by omega)]; exact h.2 r w h3 h4 (by omega)
theorem x_fwp.next {Z : xZ} {p s : Nat} {f : Nat → Int32} {u a : Nat} (h : x_fwp Z p s f u a 64) : x_fwp Z p s f u (a + 1) 0 := ⟨h.1, fun r w h3 h4 h5 => h.2 r w h3 h4 (by omega)⟩
theorem x_fwp.down {Z : xZ} {p s : Nat} {f : Nat → Int32} {u : Nat} (h : x_fwp Z p s f (u + 1) (z_R Z) 0) : x_fwp Z p s f u 0 0 := ⟨fun u' r w h1 h2 h3 h4 => by
    by_cases e : u' = u + 1
    · subst e; exact h.2 r w h3 h4 (Or.inl h3)
    · exact h.1 u' r w (by omega) h2 h3 h4, fun r w h3 h4 h5 => by omega⟩
theorem x_fwp.hf {Z : xZ} {p s : Nat} {f : Nat → Int32} {u a b : Nat} (h : x_fwp Z p s f u a b) (hu : u < z_N Z) : ∀ r w, r < z_R Z → w < 64 → f (384 * (u + 1) + 64 * r + w) = nI (v_V Z p s (z_N Z - (u + 1)) r w) ∧ v_V Z p s (z_N Z - (u + 1)) r w ≤ 99 := fun r w hr hw => ⟨h.1 (u + 1) r w (by omega) (by omega) hr hw, v_V_le _ _ _ _ _ _⟩
theorem v_V_0 (Z : xZ) (p s r w : Nat) : v_V Z p s 0 r w = if s_dif s w = 0 then 0 else 99 := rfl
theorem v_V_s (Z : xZ) (p s k r w : Nat) : v_V Z p s (k + 1) r w = min (1 + v_go (z_F Z) (v_V Z p s k) (w ||| v_won Z p (z_N Z - 1 - k) r) (z_D Z) r) (v_go (z_F Z) (v_V Z p s k) w (z_D Z) r) := rfl
theorem v_V_u {Z : xZ} {p s u r w : Nat} (hu : u < z_N Z) : v_V Z p s (z_N Z - u) r w = min (1 + v_go (z_F Z) (v_V Z p s (z_N Z - (u + 1))) (w ||| v_won Z p u r) (z_D Z) r) (v_go (z_F Z) (v_V Z p s (z_N Z - (u + 1))) w (z_D Z) r) := by
  have e : z_N Z - u = (z_N Z - (u + 1)) + 1 := by omega
  rw [e, v_V_s, show z_N Z - 1 - (z_N Z - (u + 1)) = u by omega]
theorem x_ML.few {h : xH} {Z : xZ} {M : Nat → Nat → Int32} {sd : Nat → Int64} {kp t : Nat → Int32} (C : x_ML h Z M sd kp t) (g : Nat → Int32) : x_ML (h.set 394 (x_ia 8064 g)) Z (s_arr M 21 g) sd kp t := ⟨C.1.arr (i := 21) (by decide) (by decide) (by decide) g, C.2⟩
theorem n_lf_w {h : xH} {Z : xZ} {k : Nat} {sd : Nat → Int64} {kp t : Nat → Int32} (hZ : x_ZB k Z) (hk : k ≤ 50000) {p s : Nat} (hp : p < z_P Z) (hs : s < 64) {K : Option Value → xH → Prop} {r : Nat} (hr : r < z_R Z) (kk : ∀ (g : xH) M, x_ML g Z M sd kp t → x_fD h g → x_fwp Z p s (M 21) (z_N Z) r 64 → x_Rn m_X8_laysFew 56 [some (.ref 372), some (.int (nI p)), some (.int (nI s)), some (.int (nI r)), some (.int (nI 64)), none, none, none] [] g (0, 0) K) : ∀ (m w : Nat), w ≤ 64 → 65 ≤ w + m → ∀ (g : xH) M, x_ML g Z M sd kp t → x_fD h g → x_fwp Z p s (M 21) (z_N Z) r w → x_Rn m_X8_laysFew 13 [some (.ref 372), some (.int (nI p)), some (.int (nI s)), some (.int (nI r)), some (.int (nI w)), none, none, none] [] g (0, 0) K := by
  have hB : x_HB (z_N Z) (z_R Z) (z_D Z) (z_P Z) (z_F Z) := hZ.1.hb
  have hQ : x_QB (z_N Z) (z_R Z) (z_P Z) (z_Q Z) := hZ.2.1.1
  obtain ⟨⟨b1, b2, b3, b4⟩, b5, b6, b7⟩ := id hB
  obtain ⟨u1, u2, u3, u4, u5, u6, u7, u8, u9⟩ := id hQ
  have bT : (z_T Z).1 ≤ 30 := hZ.2.2.1.1
  have bs : z_s Z < 2 ^ 31 := hZ.2.2.2.2.1
  have bX : (z_X Z).1 ≤ 240 := hZ.2.2.2.2.2.1.1
  have bXc : ∀ i, i < (z_X Z).1 → (z_X Z).2 i < 256 := hZ.2.2.2.2.2.1.2
  have bS : (z_S Z).1 ≤ 6 := hZ.2.2.2.2.2.2.1.1
  have bSr : ∀ i, i < (z_S Z).1 → (z_S Z).2.1 i < z_R Z := hZ.2.2.2.2.2.2.1.2
  have bB : (z_B Z).1 ≤ 20 := hZ.2.2.2.2.2.2.2.1
  have bBr : ∀ i, i < (z_B Z).1 → (z_B Z).2.1 i < z_R Z := hZ.2.2.2.2.2.2.2.2
  intro m
  induction m with
  | zero => intro w h1 h3; omega
  | succ m ih =>
    intro w h1 h3 g M C FD H
    obtain ⟨HM, HZ⟩ := id C
    have mo : g[372]? = some (x_mob (z_X Z).1 (z_f Z) (z_N Z) (z_R Z) (z_D Z) (z_P Z) (z_T Z).1 (z_s Z) (z_S Z).1 (z_B Z).1 t) := HM.1
    have m8 : g[381]? = some (x_ia 51 (M 8)) := HM.2 8 (by decide)
    have m21 : g[394]? = some (x_ia 8064 (M 21)) := HM.2 21 (by decide)
    obtain ⟨w1, w2, w3, w4, w5, w6, w7, hq, wt, wi, wk, ws, wb, wx⟩ := id HZ
    obtain ⟨q0, q1, q2, q3, q9, q15, q21, q45⟩ := id hq
    have q21z : ∀ r9, r9 < z_R Z → M 8 (21 + r9) = q_la (z_Q Z) 0 r9 := fun r9 hr9 => q21 0 r9 (by decide) hr9
    refine R_iload dX8_laysFew_13 rfl ?_
    refine R_bipush (nI 64) dX8_laysFew_15 rfl ?_
    refine R_geN 56 dX8_laysFew_17 rfl (by omega) (by omega) (fun c_17 => ?_) (fun c_17 => ?_)
    · have e : w = 64 := by omega
      subst e
      exact kk g M C FD H
    · refine R_aload_n dX8_laysFew_20 rfl ?_
      refine R_get dX8_laysFew_21 f_X8_79 mo rfl ?_
      refine R_aload_n dX8_laysFew_24 rfl ?_
      refine R_get dX8_laysFew_25 f_X8_154 mo rfl ?_
      refine R_iload_n dX8_laysFew_28 rfl ?_
      refine R_iload dX8_laysFew_29 rfl ?_
      refine R_cS3p (N := m_X8_at) dX8_laysFew_31 l_X8_267 i_X8_at (n_at (z_N Z) r w) rfl rfl ?_
      refine R_iload_n dX8_laysFew_34 rfl ?_
      refine R_iload dX8_laysFew_35 rfl ?_
      refine R_iconst (-1) dX8_laysFew_37 rfl ?_
      refine R_ixor dX8_laysFew_38 ?_
      refine R_iand dX8_laysFew_39 ?_
      refine R_ifne 47 dX8_laysFew_40 rfl (fun c_40 => ?_) (fun c_40 => ?_)
      · have ev : (if s_dif s w = 0 then 0 else 99) = 99 := if_neg (fun z => c_40 ((nI_dif64 s hs w (by omega)).mpr z))
        refine R_bipush (nI 99) dX8_laysFew_47 rfl ?_
        refine R_iast dX8_laysFew_49 m21 (by omega) rfl (by omega) (by decide) ?_
        have C := C.few (upd (M 21) (384 * z_N Z + 64 * r + w) (nI 99))
        have FD := FD.set (c := 394) (x_ia 8064 (upd (M 21) (384 * z_N Z + 64 * r + w) (nI 99))) (by omega)
        have H := H.put b2 hr (by omega) (v := 99) (by rw [Nat.sub_self, v_V_0, ev])
        refine R_iincN dX8_laysFew_50 rfl (Nat.le_of_ble_eq_true rfl) rfl ?_
        refine R_goto 13 dX8_laysFew_53 rfl ?_
        exact ih (w + 1) (by omega) (by omega) _ _ C FD H
      · have ev : (if s_dif s w = 0 then 0 else 99) = 0 := if_pos ((nI_dif64 s hs w (by omega)).mp c_40)
        refine R_iconst (nI 0) dX8_laysFew_43 rfl ?_
        refine R_goto 49 dX8_laysFew_44 rfl ?_
        refine R_iast dX8_laysFew_49 m21 (by omega) rfl (by omega) (by decide) ?_
        have C := C.few (upd (M 21) (384 * z_N Z + 64 * r + w) (nI 0))
        have FD := FD.set (c := 394) (x_ia 8064 (upd (M 21) (384 * z_N Z + 64 * r + w) (nI 0))) (by omega)
        have H := H.put b2 hr (by omega) (v := 0) (by rw [Nat.sub_self, v_V_0, ev])
        refine R_iincN dX8_laysFew_50 rfl (Nat.le_of_ble_eq_true rfl) rfl ?_
        refine R_goto 13 dX8_laysFew_53 rfl ?_
        exact ih (w + 1) (by omega) (by omega) _ _ C FD H
theorem n_lf_r {h : xH} {Z : xZ} {k : Nat} {sd : Nat → Int64} {kp t : Nat → Int32} (hZ : x_ZB k Z) (hk : k ≤ 50000) {p s : Nat} (hp : p < z_P Z) (hs : s < 64) {K : Option Value → xH → Prop} (kk : ∀ (g : xH) M v4, x_ML g Z M sd kp t → x_fD h g → x_fwp Z p s (M 21) (z_N Z) (z_R Z) 0 → x_Rn m_X8_laysFew 62 [some (.ref 372), some (.int (nI p)), some (.int (nI s)), some (.int (nI (z_R Z))), v4, none, none, none] [] g (0, 0) K) : ∀ (m r : Nat), r ≤ z_R Z → z_R Z + 1 ≤ r + m → ∀ (g : xH) M v4, x_ML g Z M sd kp t → x_fD h g → x_fwp Z p s (M 21) (z_N Z) r 0 → x_Rn m_X8_laysFew 2 [some (.ref 372), some (.int (nI p)), some (.int (nI s)), some (.int (nI r)), v4, none, none, none] [] g (0, 0) K := by
  have hB : x_HB (z_N Z) (z_R Z) (z_D Z) (z_P Z) (z_F Z) := hZ.1.hb
  have hQ : x_QB (z_N Z) (z_R Z) (z_P Z) (z_Q Z) := hZ.2.1.1
  obtain ⟨⟨b1, b2, b3, b4⟩, b5, b6, b7⟩ := id hB
  obtain ⟨u1, u2, u3, u4, u5, u6, u7, u8, u9⟩ := id hQ
  have bT : (z_T Z).1 ≤ 30 := hZ.2.2.1.1
  have bs : z_s Z < 2 ^ 31 := hZ.2.2.2.2.1
  have bX : (z_X Z).1 ≤ 240 := hZ.2.2.2.2.2.1.1
  have bXc : ∀ i, i < (z_X Z).1 → (z_X Z).2 i < 256 := hZ.2.2.2.2.2.1.2
  have bS : (z_S Z).1 ≤ 6 := hZ.2.2.2.2.2.2.1.1
  have bSr : ∀ i, i < (z_S Z).1 → (z_S Z).2.1 i < z_R Z := hZ.2.2.2.2.2.2.1.2
  have bB : (z_B Z).1 ≤ 20 := hZ.2.2.2.2.2.2.2.1
  have bBr : ∀ i, i < (z_B Z).1 → (z_B Z).2.1 i < z_R Z := hZ.2.2.2.2.2.2.2.2
  intro m
  induction m with
  | zero => intro r h1 h3; omega
  | succ m ih =>
    intro r h1 h3 g M v4 C FD H
    obtain ⟨HM, HZ⟩ := id C
    have mo : g[372]? = some (x_mob (z_X Z).1 (z_f Z) (z_N Z) (z_R Z) (z_D Z) (z_P Z) (z_T Z).1 (z_s Z) (z_S Z).1 (z_B Z).1 t) := HM.1
    have m8 : g[381]? = some (x_ia 51 (M 8)) := HM.2 8 (by decide)
    have m21 : g[394]? = some (x_ia 8064 (M 21)) := HM.2 21 (by decide)
    obtain ⟨w1, w2, w3, w4, w5, w6, w7, hq, wt, wi, wk, ws, wb, wx⟩ := id HZ
    obtain ⟨q0, q1, q2, q3, q9, q15, q21, q45⟩ := id hq
    have q21z : ∀ r9, r9 < z_R Z → M 8 (21 + r9) = q_la (z_Q Z) 0 r9 := fun r9 hr9 => q21 0 r9 (by decide) hr9
    refine R_iload_n dX8_laysFew_2 rfl ?_
    refine R_aload_n dX8_laysFew_3 rfl ?_
    refine R_get dX8_laysFew_4 f_X8_82 mo rfl ?_
    refine R_geN 62 dX8_laysFew_7 rfl (by omega) (by omega) (fun c_7 => ?_) (fun c_7 => ?_)
    · have e : r = z_R Z := by omega
      subst e
      exact kk g M _ C FD H
    · refine R_iconst (nI 0) dX8_laysFew_10 rfl ?_
      refine R_istore dX8_laysFew_11 (Nat.le_of_ble_eq_true rfl) rfl ?_
      refine n_lf_w hZ hk hp hs (by omega) (fun g M C FD H => ?_) 65 0 (by omega) (by omega) _ _ C FD H
      refine R_iincN dX8_laysFew_56 rfl (Nat.le_of_ble_eq_true rfl) rfl ?_
      refine R_goto 2 dX8_laysFew_59 rfl ?_
      exact ih (r + 1) (by omega) (by omega) _ _ _ C FD H.next
theorem n_lf_hw {h : xH} {Z : xZ} {k : Nat} {sd : Nat → Int64} {kp t : Nat → Int32} (hZ : x_ZB k Z) (hk : k ≤ 50000) {p s : Nat} (hp : p < z_P Z) (hs : s < 64) {K : Option Value → xH → Prop} {u r : Nat} (hu : u < z_N Z) (hr : r < z_R Z) (kk : ∀ (g : xH) M v6 v7, x_ML g Z M sd kp t → x_fD h g → x_fwp Z p s (M 21) u r 64 → x_Rn m_X8_laysFew 157 [some (.ref 372), some (.int (nI p)), some (.int (nI s)), some (.int (nI u)), some (.int (nI r)), some (.int (nI 64)), v6, v7] [] g (0, 0) K) : ∀ (m w : Nat), w ≤ 64 → 65 ≤ w + m → ∀ (g : xH) M v6 v7, x_ML g Z M sd kp t → x_fD h g → x_fwp Z p s (M 21) u r w → x_Rn m_X8_laysFew 94 [some (.ref 372), some (.int (nI p)), some (.int (nI s)), some (.int (nI u)), some (.int (nI r)), some (.int (nI w)), v6, v7] [] g (0, 0) K := by
  have hB : x_HB (z_N Z) (z_R Z) (z_D Z) (z_P Z) (z_F Z) := hZ.1.hb
  have hQ : x_QB (z_N Z) (z_R Z) (z_P Z) (z_Q Z) := hZ.2.1.1
  obtain ⟨⟨b1, b2, b3, b4⟩, b5, b6, b7⟩ := id hB
  obtain ⟨u1, u2, u3, u4, u5, u6, u7, u8, u9⟩ := id hQ
  have bT : (z_T Z).1 ≤ 30 := hZ.2.2.1.1
  have bs : z_s Z < 2 ^ 31 := hZ.2.2.2.2.1
  have bX : (z_X Z).1 ≤ 240 := hZ.2.2.2.2.2.1.1
  have bXc : ∀ i, i < (z_X Z).1 → (z_X Z).2 i < 256 := hZ.2.2.2.2.2.1.2
  have bS : (z_S Z).1 ≤ 6 := hZ.2.2.2.2.2.2.1.1
  have bSr : ∀ i, i < (z_S Z).1 → (z_S Z).2.1 i < z_R Z := hZ.2.2.2.2.2.2.1.2
  have bB : (z_B Z).1 ≤ 20 := hZ.2.2.2.2.2.2.2.1
  have bBr : ∀ i, i < (z_B Z).1 → (z_B Z).2.1 i < z_R Z := hZ.2.2.2.2.2.2.2.2
  intro m
  induction m with
  | zero => intro w h1 h3; omega
  | succ m ih =>
    intro w h1 h3 g M v6 v7 C FD H
    obtain ⟨HM, HZ⟩ := id C
    have mo : g[372]? = some (x_mob (z_X Z).1 (z_f Z) (z_N Z) (z_R Z) (z_D Z) (z_P Z) (z_T Z).1 (z_s Z) (z_S Z).1 (z_B Z).1 t) := HM.1
    have m8 : g[381]? = some (x_ia 51 (M 8)) := HM.2 8 (by decide)
    have m21 : g[394]? = some (x_ia 8064 (M 21)) := HM.2 21 (by decide)
    obtain ⟨w1, w2, w3, w4, w5, w6, w7, hq, wt, wi, wk, ws, wb, wx⟩ := id HZ
    obtain ⟨q0, q1, q2, q3, q9, q15, q21, q45⟩ := id hq
    have q21z : ∀ r9, r9 < z_R Z → M 8 (21 + r9) = q_la (z_Q Z) 0 r9 := fun r9 hr9 => q21 0 r9 (by decide) hr9
    refine R_iload dX8_laysFew_94 rfl ?_
    refine R_bipush (nI 64) dX8_laysFew_96 rfl ?_
    refine R_geN 157 dX8_laysFew_98 rfl (by omega) (by omega) (fun c_98 => ?_) (fun c_98 => ?_)
    · have e : w = 64 := by omega
      subst e
      exact kk g M _ _ C FD H
    · refine R_aload_n dX8_laysFew_101 rfl ?_
      refine R_iload_n dX8_laysFew_102 rfl ?_
      refine R_iload dX8_laysFew_103 rfl ?_
      refine R_iload dX8_laysFew_105 rfl ?_
      refine R_cV3p (N := m_X8_goesOn) dX8_laysFew_107 l_X8_270 i_X8_goesOn mo (n_goesOn C hZ hk hu hr (by omega) (H.hf hu)) rfl rfl ?_
      have g1 := v_go_le (z_F Z) (v_V Z p s (z_N Z - (u + 1))) w r (z_D Z)
      have g2 := v_V_le Z p s (z_N Z - (u + 1)) r w
      have g3 := v_go_le (z_F Z) (v_V Z p s (z_N Z - (u + 1))) (w ||| v_won Z p u r) r (z_D Z)
      have g4 := v_V_le Z p s (z_N Z - (u + 1)) r (w ||| v_won Z p u r)
      refine R_istore dX8_laysFew_110 (Nat.le_of_ble_eq_true rfl) rfl ?_
      refine R_aload_n dX8_laysFew_112 rfl ?_
      refine R_iload_n dX8_laysFew_113 rfl ?_
      refine R_iload_n dX8_laysFew_114 rfl ?_
      refine R_iload dX8_laysFew_115 rfl ?_
      refine R_iload dX8_laysFew_117 rfl ?_
      refine R_cV4p (N := m_X8_saysIn) dX8_laysFew_119 l_X8_273 i_X8_saysIn mo (n_saysIn C hZ hk hp hu hr (by omega) (H.hf hu)) rfl rfl ?_
      refine R_istore dX8_laysFew_122 (Nat.le_of_ble_eq_true rfl) rfl ?_
      refine R_aload_n dX8_laysFew_124 rfl ?_
      refine R_get dX8_laysFew_125 f_X8_79 mo rfl ?_
      refine R_iload_n dX8_laysFew_128 rfl ?_
      refine R_iload dX8_laysFew_129 rfl ?_
      refine R_iload dX8_laysFew_131 rfl ?_
      refine R_cS3p (N := m_X8_at) dX8_laysFew_133 l_X8_267 i_X8_at (n_at u r w) rfl rfl ?_
      refine R_iload dX8_laysFew_136 rfl ?_
      refine R_iload dX8_laysFew_138 rfl ?_
      refine R_geN 148 dX8_laysFew_140 rfl (by omega) (by omega) (fun c_140 => ?_) (fun c_140 => ?_)
      · refine R_iload dX8_laysFew_148 rfl ?_
        refine R_iast dX8_laysFew_150 m21 (by omega) rfl (by omega) (by decide) ?_
        have C := C.few (upd (M 21) (384 * u + 64 * r + w) (nI (v_go (z_F Z) (v_V Z p s (z_N Z - (u + 1))) w (z_D Z) r)))
        have FD := FD.set (c := 394) (x_ia 8064 (upd (M 21) (384 * u + 64 * r + w) (nI (v_go (z_F Z) (v_V Z p s (z_N Z - (u + 1))) w (z_D Z) r)))) (by omega)
        have H := H.put b2 hr (by omega) (v := v_go (z_F Z) (v_V Z p s (z_N Z - (u + 1))) w (z_D Z) r) (by rw [v_V_u hu]; omega)
        refine R_iincN dX8_laysFew_151 rfl (Nat.le_of_ble_eq_true rfl) rfl ?_
        refine R_goto 94 dX8_laysFew_154 rfl ?_
        exact ih (w + 1) (by omega) (by omega) _ _ _ _ C FD H
      · refine R_iload dX8_laysFew_143 rfl ?_
        refine R_goto 150 dX8_laysFew_145 rfl ?_
        refine R_iast dX8_laysFew_150 m21 (by omega) rfl (by omega) (by decide) ?_
        have C := C.few (upd (M 21) (384 * u + 64 * r + w) (nI (1 + v_go (z_F Z) (v_V Z p s (z_N Z - (u + 1))) (w ||| v_won Z p u r) (z_D Z) r)))
        have FD := FD.set (c := 394) (x_ia 8064 (upd (M 21) (384 * u + 64 * r + w) (nI (1 + v_go (z_F Z) (v_V Z p s (z_N Z - (u + 1))) (w ||| v_won Z p u r) (z_D Z) r)))) (by omega)
        have H := H.put b2 hr (by omega) (v := 1 + v_go (z_F Z) (v_V Z p s (z_N Z - (u + 1))) (w ||| v_won Z p u r) (z_D Z) r) (by rw [v_V_u hu]; omega)
        refine R_iincN dX8_laysFew_151 rfl (Nat.le_of_ble_eq_true rfl) rfl ?_
        refine R_goto 94 dX8_laysFew_154 rfl ?_
        exact ih (w + 1) (by omega) (by omega) _ _ _ _ C FD H
theorem n_lf_hr {h : xH} {Z : xZ} {k : Nat} {sd : Nat → Int64} {kp t : Nat → Int32} (hZ : x_ZB k Z) (hk : k ≤ 50000) {p s : Nat} (hp : p < z_P Z) (hs : s < 64) {K : Option Value → xH → Prop} {u : Nat} (hu : u < z_N Z) (kk : ∀ (g : xH) M v5 v6 v7, x_ML g Z M sd kp t → x_fD h g → x_fwp Z p s (M 21) u (z_R Z) 0 → x_Rn m_X8_laysFew 163 [some (.ref 372), some (.int (nI p)), some (.int (nI s)), some (.int (nI u)), some (.int (nI (z_R Z))), v5, v6, v7] [] g (0, 0) K) : ∀ (m r : Nat), r ≤ z_R Z → z_R Z + 1 ≤ r + m → ∀ (g : xH) M v5 v6 v7, x_ML g Z M sd kp t → x_fD h g → x_fwp Z p s (M 21) u r 0 → x_Rn m_X8_laysFew 82 [some (.ref 372), some (.int (nI p)), some (.int (nI s)), some (.int (nI u)), some (.int (nI r)), v5, v6, v7] [] g (0, 0) K := by
  have hB : x_HB (z_N Z) (z_R Z) (z_D Z) (z_P Z) (z_F Z) := hZ.1.hb
  have hQ : x_QB (z_N Z) (z_R Z) (z_P Z) (z_Q Z) := hZ.2.1.1
  obtain ⟨⟨b1, b2, b3, b4⟩, b5, b6, b7⟩ := id hB
  obtain ⟨u1, u2, u3, u4, u5, u6, u7, u8, u9⟩ := id hQ
  have bT : (z_T Z).1 ≤ 30 := hZ.2.2.1.1
  have bs : z_s Z < 2 ^ 31 := hZ.2.2.2.2.1
  have bX : (z_X Z).1 ≤ 240 := hZ.2.2.2.2.2.1.1
  have bXc : ∀ i, i < (z_X Z).1 → (z_X Z).2 i < 256 := hZ.2.2.2.2.2.1.2
  have bS : (z_S Z).1 ≤ 6 := hZ.2.2.2.2.2.2.1.1
  have bSr : ∀ i, i < (z_S Z).1 → (z_S Z).2.1 i < z_R Z := hZ.2.2.2.2.2.2.1.2
  have bB : (z_B Z).1 ≤ 20 := hZ.2.2.2.2.2.2.2.1
  have bBr : ∀ i, i < (z_B Z).1 → (z_B Z).2.1 i < z_R Z := hZ.2.2.2.2.2.2.2.2
  intro m
  induction m with
  | zero => intro r h1 h3; omega
  | succ m ih =>
    intro r h1 h3 g M v5 v6 v7 C FD H
    obtain ⟨HM, HZ⟩ := id C
    have mo : g[372]? = some (x_mob (z_X Z).1 (z_f Z) (z_N Z) (z_R Z) (z_D Z) (z_P Z) (z_T Z).1 (z_s Z) (z_S Z).1 (z_B Z).1 t) := HM.1
    have m8 : g[381]? = some (x_ia 51 (M 8)) := HM.2 8 (by decide)
    have m21 : g[394]? = some (x_ia 8064 (M 21)) := HM.2 21 (by decide)
    obtain ⟨w1, w2, w3, w4, w5, w6, w7, hq, wt, wi, wk, ws, wb, wx⟩ := id HZ
    obtain ⟨q0, q1, q2, q3, q9, q15, q21, q45⟩ := id hq
    have q21z : ∀ r9, r9 < z_R Z → M 8 (21 + r9) = q_la (z_Q Z) 0 r9 := fun r9 hr9 => q21 0 r9 (by decide) hr9
    refine R_iload dX8_laysFew_82 rfl ?_
    refine R_aload_n dX8_laysFew_84 rfl ?_
    refine R_get dX8_laysFew_85 f_X8_82 mo rfl ?_
    refine R_geN 163 dX8_laysFew_88 rfl (by omega) (by omega) (fun c_88 => ?_) (fun c_88 => ?_)
    · have e : r = z_R Z := by omega
      subst e
      exact kk g M _ _ _ C FD H
    · refine R_iconst (nI 0) dX8_laysFew_91 rfl ?_
      refine R_istore dX8_laysFew_92 (Nat.le_of_ble_eq_true rfl) rfl ?_
      refine n_lf_hw hZ hk hp hs hu (by omega) (fun g M v6 v7 C FD H => ?_) 65 0 (by omega) (by omega) _ _ _ _ C FD H
      refine R_iincN dX8_laysFew_157 rfl (Nat.le_of_ble_eq_true rfl) rfl ?_
      refine R_goto 82 dX8_laysFew_160 rfl ?_
      exact ih (r + 1) (by omega) (by omega) _ _ _ _ _ C FD H.next
theorem n_lf_h {h : xH} {Z : xZ} {k : Nat} {sd : Nat → Int64} {kp t : Nat → Int32} (hZ : x_ZB k Z) (hk : k ≤ 50000) {p s : Nat} (hp : p < z_P Z) (hs : s < 64) (hN : q_hr (z_Q Z) < z_N Z) : ∀ (i : Nat), q_hr (z_Q Z) + i ≤ z_N Z → ∀ (g : xH) M v4 v5 v6 v7, x_ML g Z M sd kp t → x_fD h g → x_fwp Z p s (M 21) (q_hr (z_Q Z) + i) (z_R Z) 0 → x_Rn m_X8_laysFew 69 [some (.ref 372), some (.int (nI p)), some (.int (nI s)), some (.int (nI (q_hr (z_Q Z) + i) - nI 1)), v4, v5, v6, v7] [] g (0, 0) (x_vd (fun h' => ∃ M', x_ML h' Z M' sd kp t ∧ x_fwp Z p s (M' 21) (q_hr (z_Q Z)) (z_R Z) 0 ∧ x_fD h h')) := by
  have hB : x_HB (z_N Z) (z_R Z) (z_D Z) (z_P Z) (z_F Z) := hZ.1.hb
  have hQ : x_QB (z_N Z) (z_R Z) (z_P Z) (z_Q Z) := hZ.2.1.1
  obtain ⟨⟨b1, b2, b3, b4⟩, b5, b6, b7⟩ := id hB
  obtain ⟨u1, u2, u3, u4, u5, u6, u7, u8, u9⟩ := id hQ
  have bT : (z_T Z).1 ≤ 30 := hZ.2.2.1.1
  have bs : z_s Z < 2 ^ 31 := hZ.2.2.2.2.1
  have bX : (z_X Z).1 ≤ 240 := hZ.2.2.2.2.2.1.1
  have bXc : ∀ i, i < (z_X Z).1 → (z_X Z).2 i < 256 := hZ.2.2.2.2.2.1.2
  have bS : (z_S Z).1 ≤ 6 := hZ.2.2.2.2.2.2.1.1
  have bSr : ∀ i, i < (z_S Z).1 → (z_S Z).2.1 i < z_R Z := hZ.2.2.2.2.2.2.1.2
  have bB : (z_B Z).1 ≤ 20 := hZ.2.2.2.2.2.2.2.1
  have bBr : ∀ i, i < (z_B Z).1 → (z_B Z).2.1 i < z_R Z := hZ.2.2.2.2.2.2.2.2
  intro i
  induction i with
  | zero =>
    intro hi g M v4 v5 v6 v7 C FD H
    obtain ⟨HM, HZ⟩ := id C
    have mo : g[372]? = some (x_mob (z_X Z).1 (z_f Z) (z_N Z) (z_R Z) (z_D Z) (z_P Z) (z_T Z).1 (z_s Z) (z_S Z).1 (z_B Z).1 t) := HM.1
    have m8 : g[381]? = some (x_ia 51 (M 8)) := HM.2 8 (by decide)
    have m21 : g[394]? = some (x_ia 8064 (M 21)) := HM.2 21 (by decide)
    obtain ⟨w1, w2, w3, w4, w5, w6, w7, hq, wt, wi, wk, ws, wb, wx⟩ := id HZ
    obtain ⟨q0, q1, q2, q3, q9, q15, q21, q45⟩ := id hq
    have q21z : ∀ r9, r9 < z_R Z → M 8 (21 + r9) = q_la (z_Q Z) 0 r9 := fun r9 hr9 => q21 0 r9 (by decide) hr9
    refine R_iload_n dX8_laysFew_69 rfl ?_
    refine R_aload_n dX8_laysFew_70 rfl ?_
    refine R_get dX8_laysFew_71 f_X8_38 mo rfl ?_
    refine R_iconst (nI 0) dX8_laysFew_74 rfl ?_
    refine R_iald dX8_laysFew_75 m8 rfl (by omega) (by decide) ?_
    rw [q0]
    refine R_icmplt 169 dX8_laysFew_76 rfl (fun c_76 => ?_) (fun c_76 => ?_)
    · exact R_vret dX8_laysFew_169 rfl rfl rfl ⟨rfl, M, C, H, FD⟩
    · exact absurd (x_jm1 (by omega)) c_76
  | succ i ih =>
    intro hi g M v4 v5 v6 v7 C FD H
    obtain ⟨HM, HZ⟩ := id C
    have mo : g[372]? = some (x_mob (z_X Z).1 (z_f Z) (z_N Z) (z_R Z) (z_D Z) (z_P Z) (z_T Z).1 (z_s Z) (z_S Z).1 (z_B Z).1 t) := HM.1
    have m8 : g[381]? = some (x_ia 51 (M 8)) := HM.2 8 (by decide)
    have m21 : g[394]? = some (x_ia 8064 (M 21)) := HM.2 21 (by decide)
    obtain ⟨w1, w2, w3, w4, w5, w6, w7, hq, wt, wi, wk, ws, wb, wx⟩ := id HZ
    obtain ⟨q0, q1, q2, q3, q9, q15, q21, q45⟩ := id hq
    have q21z : ∀ r9, r9 < z_R Z → M 8 (21 + r9) = q_la (z_Q Z) 0 r9 := fun r9 hr9 => q21 0 r9 (by decide) hr9
    rw [show nI (q_hr (z_Q Z) + (i + 1)) - nI 1 = nI (q_hr (z_Q Z) + i) from pk_sub (by omega)]
    refine R_iload_n dX8_laysFew_69 rfl ?_
    refine R_aload_n dX8_laysFew_70 rfl ?_
    refine R_get dX8_laysFew_71 f_X8_38 mo rfl ?_
    refine R_iconst (nI 0) dX8_laysFew_74 rfl ?_
    refine R_iald dX8_laysFew_75 m8 rfl (by omega) (by decide) ?_
    rw [q0]
    refine R_icmplt 169 dX8_laysFew_76 rfl (fun c_76 => ?_) (fun c_76 => ?_)
    · exact absurd ((nI_ltI (by omega) (by omega)).mp c_76) (by omega)
    · refine R_iconst (nI 0) dX8_laysFew_79 rfl ?_
      refine R_istore dX8_laysFew_80 (Nat.le_of_ble_eq_true rfl) rfl ?_
      refine n_lf_hr hZ hk hp hs (u := q_hr (z_Q Z) + i) (by omega) (fun g M v5 v6 v7 C FD H => ?_) (z_R Z + 1) 0 (by omega) (by omega) _ _ _ _ _ C FD (x_fwp.down H)
      refine R_iinc _ dX8_laysFew_163 rfl rfl (Nat.le_of_ble_eq_true rfl) rfl ?_
      refine R_goto 69 dX8_laysFew_166 rfl ?_
      rw [show nI (q_hr (z_Q Z) + i) + Int32.ofInt (-1) = nI (q_hr (z_Q Z) + i) - nI 1 from x_m1s _]
      exact ih (by omega) _ _ _ _ _ _ C FD H
theorem n_laysFew {h : xH} {Z : xZ} {k : Nat} {sd : Nat → Int64} {kp t : Nat → Int32} (hZ : x_ZB k Z) (hk : k ≤ 50000) {p s : Nat} (hp : p < z_P Z) (hs : s < 64) (hN : q_hr (z_Q Z) < z_N Z) {M : Nat → Nat → Int32} (C : x_ML h Z M sd kp t) : x_Met m_X8_laysFew [.ref 372, .int (nI p), .int (nI s)] h (x_vd (fun h' => ∃ M', x_ML h' Z M' sd kp t ∧ x_fwp Z p s (M' 21) (q_hr (z_Q Z)) (z_R Z) 0 ∧ x_fD h h')) := by
  have hB : x_HB (z_N Z) (z_R Z) (z_D Z) (z_P Z) (z_F Z) := hZ.1.hb
  have hQ : x_QB (z_N Z) (z_R Z) (z_P Z) (z_Q Z) := hZ.2.1.1
  obtain ⟨⟨b1, b2, b3, b4⟩, b5, b6, b7⟩ := id hB
  obtain ⟨u1, u2, u3, u4, u5, u6, u7, u8, u9⟩ := id hQ
  have bT : (z_T Z).1 ≤ 30 := hZ.2.2.1.1
  have bs : z_s Z < 2 ^ 31 := hZ.2.2.2.2.1
  have bX : (z_X Z).1 ≤ 240 := hZ.2.2.2.2.2.1.1
  have bXc : ∀ i, i < (z_X Z).1 → (z_X Z).2 i < 256 := hZ.2.2.2.2.2.1.2
  have bS : (z_S Z).1 ≤ 6 := hZ.2.2.2.2.2.2.1.1
  have bSr : ∀ i, i < (z_S Z).1 → (z_S Z).2.1 i < z_R Z := hZ.2.2.2.2.2.2.1.2
  have bB : (z_B Z).1 ≤ 20 := hZ.2.2.2.2.2.2.2.1
  have bBr : ∀ i, i < (z_B Z).1 → (z_B Z).2.1 i < z_R Z := hZ.2.2.2.2.2.2.2.2
  obtain ⟨HM, HZ⟩ := id C
  have mo : h[372]? = some (x_mob (z_X Z).1 (z_f Z) (z_N Z) (z_R Z) (z_D Z) (z_P Z) (z_T Z).1 (z_s Z) (z_S Z).1 (z_B Z).1 t) := HM.1
  have m8 : h[381]? = some (x_ia 51 (M 8)) := HM.2 8 (by decide)
  have m21 : h[394]? = some (x_ia 8064 (M 21)) := HM.2 21 (by decide)
  obtain ⟨w1, w2, w3, w4, w5, w6, w7, hq, wt, wi, wk, ws, wb, wx⟩ := id HZ
  obtain ⟨q0, q1, q2, q3, q9, q15, q21, q45⟩ := id hq
  have q21z : ∀ r9, r9 < z_R Z → M 8 (21 + r9) = q_la (z_Q Z) 0 r9 := fun r9 hr9 => q21 0 r9 (by decide) hr9
  have FD := x_fD.rf h
  refine x_Met.of (lo := [some (.ref 372), some (.int (nI p)), some (.int (nI s)), none, none, none, none, none]) (by decide) rfl rfl rfl ?_
  refine R_iconst (nI 0) dX8_laysFew_0 rfl ?_
  refine R_istore_n dX8_laysFew_1 (Nat.le_of_ble_eq_true rfl) rfl ?_
  refine n_lf_r hZ hk hp hs (fun g M v4 C FD H => ?_) (z_R Z + 1) 0 (by omega) (by omega) _ _ _ C FD ⟨fun u' r w h1 h2 => by omega, fun r w _ _ h5 => by omega⟩
  obtain ⟨HM, HZ⟩ := id C
  have mo : g[372]? = some (x_mob (z_X Z).1 (z_f Z) (z_N Z) (z_R Z) (z_D Z) (z_P Z) (z_T Z).1 (z_s Z) (z_S Z).1 (z_B Z).1 t) := HM.1
  have m8 : g[381]? = some (x_ia 51 (M 8)) := HM.2 8 (by decide)
  have m21 : g[394]? = some (x_ia 8064 (M 21)) := HM.2 21 (by decide)
  obtain ⟨w1, w2, w3, w4, w5, w6, w7, hq, wt, wi, wk, ws, wb, wx⟩ := id HZ
  obtain ⟨q0, q1, q2, q3, q9, q15, q21, q45⟩ := id hq
  have q21z : ∀ r9, r9 < z_R Z → M 8 (21 + r9) = q_la (z_Q Z) 0 r9 := fun r9 hr9 => q21 0 r9 (by decide) hr9
  refine R_aload_n dX8_laysFew_62 rfl ?_
  refine R_get dX8_laysFew_63 f_X8_154 mo rfl ?_
  refine R_iconst (nI 1) dX8_laysFew_66 rfl ?_
  refine R_isub dX8_laysFew_67 ?_
  refine R_istore_n dX8_laysFew_68 (Nat.le_of_ble_eq_true rfl) rfl ?_
  have z := n_lf_h hZ hk hp hs hN (z_N Z - q_hr (z_Q Z)) (by omega) _ _ v4 none none none C FD (by rw [show q_hr (z_Q Z) + (z_N Z - q_hr (z_Q Z)) = z_N Z by omega]; exact H)
  rw [show q_hr (z_Q Z) + (z_N Z - q_hr (z_Q Z)) = z_N Z by omega] at z
  exact z
