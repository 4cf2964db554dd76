/-! THE MODEL's calls that only look, 1 -/
theorem s_set_0 {n : Nat} {f : Nat → Bool} (h : ∀ r, r < n → f r = false) : nI 0 = s_set n f := (s_none n).trans (s_set_cong (fun k hk => (h k hk).symm))
theorem s_set_1 {n i : Nat} {f : Nat → Bool} (hn : n ≤ 6) (hi : i < n) (h : ∀ r, r < n → f r = decide (r = i)) : nI 1 <<< (nI i &&& 31) = s_set n f := (s_one hn hi).trans (s_set_cong (fun k hk => (h k hk).symm))
theorem s_bitR {n : Nat} (hn : n ≤ 6) (f : Nat → Bool) {r : Nat} (hr : r < n) : ((s_set n f >>> (nI r &&& 31)) &&& nI 1) = x_b (f r) := by rw [s_bit hn f (by omega), decide_eq_true hr]; rfl
theorem s_la_lt {x : Int32} (h : x = -1 ∨ ∃ p, p < 6 ∧ x = nI p) : x < 0 ↔ x = -1 := by
  rcases h with rfl | ⟨p, hp, rfl⟩
  · decide
  · exact ⟨fun z => absurd z (nI_pos (by omega)), fun z => absurd z (nI_ne_neg1 (by omega))⟩
theorem x_kern : ∀ m, m < 64 → ¬ m = 0 → nI m &&& nI (m - 1) = nI (m &&& (m - 1)) ∧ m &&& (m - 1) < m ∧ s_cnt 6 (fun i => m.testBit i) = s_cnt 6 (fun i => (m &&& (m - 1)).testBit i) + 1 := by decide +kernel
theorem n_bits_loop {h : xH} {x : Int32} {c : Nat} (m : Nat) : m < 64 → ∀ n : Nat, n + s_cnt 6 (fun i => m.testBit i) = c → x_Rn m_X8_bits 4 [some (.int x), some (.int (nI n)), some (.int (nI m))] [] h (0, 0) (x_pr (nI c) h) := by
  induction m using Nat.strongRecOn with
  | ind m ih =>
  intro hm n hc
  refine R_iload_n dX8_bits_4 rfl ?_
  refine R_ifeqN 20 dX8_bits_5 rfl (by omega) (fun c_5 => ?_) (fun c_5 => ?_)
  · subst c_5
    have hc : n = c := by rw [← hc]; rfl
    refine R_iload_n dX8_bits_20 rfl ?_
    exact R_iret dX8_bits_21 rfl rfl rfl (x_pr.eq (congrArg nI hc))
  · have kr := x_kern m hm c_5
    refine R_iincN dX8_bits_8 rfl (Nat.le_of_ble_eq_true rfl) rfl ?_
    refine R_iload_n dX8_bits_11 rfl ?_
    refine R_iload_n dX8_bits_12 rfl ?_
    refine R_iconst (nI 1) dX8_bits_13 rfl ?_
    refine R_isubN dX8_bits_14 (by omega) ?_
    refine R_iand dX8_bits_15 ?_
    rw [kr.1]
    refine R_istore_n dX8_bits_16 (Nat.le_of_ble_eq_true rfl) rfl ?_
    refine R_goto 4 dX8_bits_17 rfl ?_
    exact ih (m &&& (m - 1)) kr.2.1 (by omega) (n + 1) (by rw [← hc, kr.2.2]; omega)
theorem n_bits_m {h : xH} {m : Nat} (hm : m < 64) : x_Met m_X8_bits [.int (nI m)] h (x_pr (nI (s_cnt 6 (fun i => m.testBit i))) h) := by
  refine x_Met.of (lo := [some (.int (nI m)), none, none]) (by decide) rfl rfl rfl ?_
  refine R_iconst (nI 0) dX8_bits_0 rfl ?_
  refine R_istore_n dX8_bits_1 (Nat.le_of_ble_eq_true rfl) rfl ?_
  refine R_iload_n dX8_bits_2 rfl ?_
  refine R_istore_n dX8_bits_3 (Nat.le_of_ble_eq_true rfl) rfl ?_
  exact n_bits_loop m hm 0 (Nat.zero_add _)
theorem n_bits {h : xH} {n : Nat} (hn : n ≤ 6) (f : Nat → Bool) : x_Met m_X8_bits [.int (s_set n f)] h (x_pr (nI (s_cnt n f)) h) := by
  rw [s_set_mask f n (by omega), ← s_cnt_mask hn f]
  exact n_bits_m (s_mask64 hn f)
theorem va_upd {f g : Nat → Int32} {i j k : Nat} : upd (va_cpy f g i j k) (j + k) (f (i + k)) = va_cpy f g i j (k + 1) := by
  funext x
  unfold va_cpy
  by_cases e : x = j + k
  · subst e; rw [if_pos (by omega), show i + (j + k - j) = i + k by omega]; simp [upd]
  · simp only [upd, e, if_false]
    by_cases c : j ≤ x ∧ x < j + k
    · rw [if_pos c, if_pos (by omega)]
    · rw [if_neg c, if_neg (by omega)]
theorem va_upd_s {f : Nat → Int32} {i j k : Nat} (h : j ≤ i) : upd (va_cpy f f i j k) (j + k) (va_cpy f f i j k (i + k)) = va_cpy f f i j (k + 1) := by
  have e : va_cpy f f i j k (i + k) = f (i + k) := by unfold va_cpy; rw [if_neg (by omega)]
  rw [e]; exact va_upd
theorem va_cpy0 {α : Type} (f g : Nat → α) (i j : Nat) : va_cpy f g i j 0 = g := by funext x; unfold va_cpy; rw [if_neg (by omega)]
theorem n_bring_loop {h : xH} {a b na nb i j n : Nat} {f g : Nat → Int32} (ha : h[a]? = some (x_ia na f)) (hb : h[b]? = some (x_ia nb g)) (hab : ¬ a = b) (h2 : 2 ≤ b) (h2a : 2 ≤ a) (h3 : i + n ≤ na) (h4 : j + n ≤ nb) (h5 : na < 10000) (h6 : nb < 10000) : ∀ (m k : Nat), k ≤ n → n + 1 ≤ k + m → x_Rn m_X8_bring 3 [some (.ref a), some (.int (nI i)), some (.ref b), some (.int (nI j)), some (.int (nI n)), some (.int (nI k))] [] (h.set b (x_ia nb (va_cpy f g i j k))) (0, 0) (x_vd (fun h' => h' = h.set b (x_ia nb (va_cpy f g i j n)))) := by
  intro m
  induction m with
  | zero => intro k h1 h3; omega
  | succ m ih =>
    intro k hk1 hk2
    have to : (h.set b (x_ia nb (va_cpy f g i j k)))[b]? = some (x_ia nb (va_cpy f g i j k)) := List.getElem?_set_self (List.getElem?_eq_some_iff.mp hb).1
    have fr : (h.set b (x_ia nb (va_cpy f g i j k)))[a]? = some (x_ia na f) := (List.getElem?_set_ne (fun z => hab z.symm)).trans ha
    refine R_iload dX8_bring_3 rfl ?_
    refine R_iload dX8_bring_5 rfl ?_
    refine R_geN 28 dX8_bring_7 rfl (by omega) (by omega) (fun c_7 => ?_) (fun c_7 => ?_)
    · have e : k = n := by omega
      subst e
      exact R_vret dX8_bring_28 rfl rfl rfl ⟨rfl, rfl⟩
    · refine R_aload_n dX8_bring_10 rfl ?_
      refine R_iload_n dX8_bring_11 rfl ?_
      refine R_iload dX8_bring_12 rfl ?_
      refine R_iaddN dX8_bring_14 ?_
      refine R_aload_n dX8_bring_15 rfl ?_
      refine R_iload_n dX8_bring_16 rfl ?_
      refine R_iload dX8_bring_17 rfl ?_
      refine R_iaddN dX8_bring_19 ?_
      refine R_iald dX8_bring_20 fr rfl (by omega) (by omega) ?_
      refine R_iast dX8_bring_21 to (by omega) rfl (by omega) (by omega) ?_
      rw [List.set_set, va_upd]
      refine R_iincN dX8_bring_22 rfl (Nat.le_of_ble_eq_true rfl) rfl ?_
      refine R_goto 3 dX8_bring_25 rfl ?_
      exact ih (k + 1) (by omega) (by omega)
theorem n_bring {h : xH} {a b na nb i j n : Nat} {f g : Nat → Int32} (ha : h[a]? = some (x_ia na f)) (hb : h[b]? = some (x_ia nb g)) (hab : ¬ a = b) (h2 : 2 ≤ b) (h2a : 2 ≤ a) (h3 : i + n ≤ na) (h4 : j + n ≤ nb) (h5 : na < 10000) (h6 : nb < 10000) : x_Met m_X8_bring [.ref a, .int (nI i), .ref b, .int (nI j), .int (nI n)] h (x_vd (fun h' => h' = h.set b (x_ia nb (va_cpy f g i j n)))) := by
  refine x_Met.of (lo := [some (.ref a), some (.int (nI i)), some (.ref b), some (.int (nI j)), some (.int (nI n)), none]) (by decide) rfl rfl rfl ?_
  refine R_iconst (nI 0) dX8_bring_0 rfl ?_
  refine R_istore dX8_bring_1 (Nat.le_of_ble_eq_true rfl) rfl ?_
  have z := n_bring_loop ha hb hab h2 h2a h3 h4 h5 h6 (n + 1) 0 (by omega) (by omega)
  rw [va_cpy0, x_same hb] at z
  exact z
theorem n_bring_s_loop {h : xH} {b nb i j n : Nat} {f : Nat → Int32} (hb : h[b]? = some (x_ia nb f)) (hij : j ≤ i) (h2 : 2 ≤ b) (h3 : i + n ≤ nb) (h6 : nb < 10000) : ∀ (m k : Nat), k ≤ n → n + 1 ≤ k + m → x_Rn m_X8_bring 3 [some (.ref b), some (.int (nI i)), some (.ref b), some (.int (nI j)), some (.int (nI n)), some (.int (nI k))] [] (h.set b (x_ia nb (va_cpy f f i j k))) (0, 0) (x_vd (fun h' => h' = h.set b (x_ia nb (va_cpy f f i j n)))) := by
  intro m
  induction m with
  | zero => intro k h1 h3; omega
  | succ m ih =>
    intro k hk1 hk2
    have to : (h.set b (x_ia nb (va_cpy f f i j k)))[b]? = some (x_ia nb (va_cpy f f i j k)) := List.getElem?_set_self (List.getElem?_eq_some_iff.mp hb).1
    refine R_iload dX8_bring_3 rfl ?_
    refine R_iload dX8_bring_5 rfl ?_
    refine R_geN 28 dX8_bring_7 rfl (by omega) (by omega) (fun c_7 => ?_) (fun c_7 => ?_)
    · have e : k = n := by omega
      subst e
      exact R_vret dX8_bring_28 rfl rfl rfl ⟨rfl, rfl⟩
    · refine R_aload_n dX8_bring_10 rfl ?_
      refine R_iload_n dX8_bring_11 rfl ?_
      refine R_iload dX8_bring_12 rfl ?_
      refine R_iaddN dX8_bring_14 ?_
      refine R_aload_n dX8_bring_15 rfl ?_
      refine R_iload_n dX8_bring_16 rfl ?_
      refine R_iload dX8_bring_17 rfl ?_
      refine R_iaddN dX8_bring_19 ?_
      refine R_iald dX8_bring_20 to rfl (by omega) (by omega) ?_
      refine R_iast dX8_bring_21 to (by omega) rfl (by omega) (by omega) ?_
      rw [List.set_set, va_upd_s (by omega)]
      refine R_iincN dX8_bring_22 rfl (Nat.le_of_ble_eq_true rfl) rfl ?_
      refine R_goto 3 dX8_bring_25 rfl ?_
      exact ih (k + 1) (by omega) (by omega)
theorem n_bring_s {h : xH} {b nb i j n : Nat} {f : Nat → Int32} (hb : h[b]? = some (x_ia nb f)) (hij : j ≤ i) (h2 : 2 ≤ b) (h3 : i + n ≤ nb) (h6 : nb < 10000) : x_Met m_X8_bring [.ref b, .int (nI i), .ref b, .int (nI j), .int (nI n)] h (x_vd (fun h' => h' = h.set b (x_ia nb (va_cpy f f i j n)))) := by
  refine x_Met.of (lo := [some (.ref b), some (.int (nI i)), some (.ref b), some (.int (nI j)), some (.int (nI n)), none]) (by decide) rfl rfl rfl ?_
  refine R_iconst (nI 0) dX8_bring_0 rfl ?_
  refine R_istore dX8_bring_1 (Nat.le_of_ble_eq_true rfl) rfl ?_
  have z := n_bring_s_loop hb hij h2 h3 h6 (n + 1) 0 (by omega) (by omega)
  rw [va_cpy0, x_same hb] at z
  exact z
theorem n_isLit {h : xH} {Z : xZ} {k : Nat} {M : Nat → Nat → Int32} {sd : Nat → Int64} {kp t : Nat → Int32} (C : x_ML h Z M sd kp t) (hZ : x_ZB k Z) (hk : k ≤ 50000) {r u : Nat} (hr : r < z_R Z) (hu : u ≤ 20) : x_Met m_X8_isLit [.ref 372, .ref 381, .int (nI r), .int (nI u)] h (x_pr (x_b (s_lit (z_Q Z) u r)) h) := by
  obtain ⟨HM, HZ⟩ := id C
  have mo : h[372]? = some (x_mob (z_X Z).1 (z_f Z) (z_N Z) (z_R Z) (z_D Z) (z_P Z) (z_T Z).1 (z_s Z) (z_S Z).1 (z_B Z).1 t) := HM.1
  have m8 : h[381]? = some (x_ia 51 (M 8)) := HM.2 8 (by decide)
  obtain ⟨w1, w2, w3, w4, w5, w6, w7, hq, wt, wi, wk, ws, wb, wx⟩ := id HZ
  obtain ⟨q0, q1, q2, q3, q9, q15, q21, q45⟩ := id hq
  have q21z : ∀ r, r < z_R Z → M 8 (21 + r) = q_la (z_Q Z) 0 r := fun r hr => q21 0 r (by decide) hr
  have hB : x_HB (z_N Z) (z_R Z) (z_D Z) (z_P Z) (z_F Z) := hZ.1.hb
  have hQ : x_QB (z_N Z) (z_R Z) (z_P Z) (z_Q Z) := hZ.2.1.1
  obtain ⟨⟨b1, b2, b3, b4⟩, b5, b6, b7⟩ := id hB
  obtain ⟨u1, u2, u3, u4, u5, u6, u7, u8, u9⟩ := id hQ
  have bT : (z_T Z).1 ≤ 30 := hZ.2.2.1.1
  have bs : z_s Z < 2 ^ 31 := hZ.2.2.2.2.1
  have bX : (z_X Z).1 ≤ 240 := hZ.2.2.2.2.2.1.1
  have bXc : ∀ i, i < (z_X Z).1 → (z_X Z).2 i < 256 := hZ.2.2.2.2.2.1.2
  have bS : (z_S Z).1 ≤ 6 := hZ.2.2.2.2.2.2.1.1
  have bSr : ∀ i, i < (z_S Z).1 → (z_S Z).2.1 i < z_R Z := hZ.2.2.2.2.2.2.1.2
  have bB : (z_B Z).1 ≤ 20 := hZ.2.2.2.2.2.2.2.1
  have bBr : ∀ i, i < (z_B Z).1 → (z_B Z).2.1 i < z_R Z := hZ.2.2.2.2.2.2.2.2
  have ub := u5 r hr
  refine x_Met.of (lo := [some (.ref 372), some (.ref 381), some (.int (nI r)), some (.int (nI u))]) (by decide) rfl rfl rfl ?_
  refine R_iload_n dX8_isLit_0 rfl ?_
  refine R_aload_n dX8_isLit_1 rfl ?_
  refine R_iconst (nI 3) dX8_isLit_2 rfl ?_
  refine R_iload_n dX8_isLit_3 rfl ?_
  refine R_iaddN dX8_isLit_4 ?_
  refine R_iald dX8_isLit_5 m8 rfl (by omega) (by decide) ?_
  rw [q3 r (by omega)]
  refine R_geN 22 dX8_isLit_6 rfl (by omega) (by omega) (fun c_6 => ?_) (fun c_6 => ?_)
  · refine R_iconst (nI 0) dX8_isLit_22 rfl ?_
    exact R_zret dX8_isLit_23 rfl (Or.inl rfl) rfl rfl (x_pr.eq (x_bf (by unfold s_lit; rw [decide_eq_false (by omega)]; rfl)))
  · refine R_aload_n dX8_isLit_9 rfl ?_
    refine R_bipush (nI 9) dX8_isLit_10 rfl ?_
    refine R_iload_n dX8_isLit_12 rfl ?_
    refine R_iaddN dX8_isLit_13 ?_
    refine R_iald dX8_isLit_14 m8 rfl (by omega) (by decide) ?_
    rw [q9 r (by omega)]
    refine R_ifneB 22 dX8_isLit_15 rfl (fun c_15 => ?_) (fun c_15 => ?_)
    · refine R_iconst (nI 0) dX8_isLit_22 rfl ?_
      exact R_zret dX8_isLit_23 rfl (Or.inl rfl) rfl rfl (x_pr.eq (x_bf (by unfold s_lit; rw [c_15]; simp)))
    · refine R_iconst (nI 1) dX8_isLit_18 rfl ?_
      refine R_goto 23 dX8_isLit_19 rfl ?_
      exact R_zret dX8_isLit_23 rfl (Or.inr rfl) rfl rfl (x_pr.eq (x_bt (by simp [s_lit, *])))
theorem n_litOf_loop {h : xH} {Z : xZ} {k : Nat} {M : Nat → Nat → Int32} {sd : Nat → Int64} {kp t : Nat → Int32} (C : x_ML h Z M sd kp t) (hZ : x_ZB k Z) (hk : k ≤ 50000) : ∀ (m r : Nat), r ≤ z_R Z → z_R Z + 1 ≤ r + m → x_Rn m_X8_litOf 4 [some (.ref 372), some (.int (s_set r (s_lit (z_Q Z) (q_hr (z_Q Z))))), some (.int (nI r))] [] h (0, 0) (x_pr (s_set (z_R Z) (s_lit (z_Q Z) (q_hr (z_Q Z)))) h) := by
  obtain ⟨HM, HZ⟩ := id C
  have mo : h[372]? = some (x_mob (z_X Z).1 (z_f Z) (z_N Z) (z_R Z) (z_D Z) (z_P Z) (z_T Z).1 (z_s Z) (z_S Z).1 (z_B Z).1 t) := HM.1
  have m8 : h[381]? = some (x_ia 51 (M 8)) := HM.2 8 (by decide)
  obtain ⟨w1, w2, w3, w4, w5, w6, w7, hq, wt, wi, wk, ws, wb, wx⟩ := id HZ
  obtain ⟨q0, q1, q2, q3, q9, q15, q21, q45⟩ := id hq
  have q21z : ∀ r, r < z_R Z → M 8 (21 + r) = q_la (z_Q Z) 0 r := fun r hr => q21 0 r (by decide) hr
  have hB : x_HB (z_N Z) (z_R Z) (z_D Z) (z_P Z) (z_F Z) := hZ.1.hb
  have hQ : x_QB (z_N Z) (z_R Z) (z_P Z) (z_Q Z) := hZ.2.1.1
  obtain ⟨⟨b1, b2, b3, b4⟩, b5, b6, b7⟩ := id hB
  obtain ⟨u1, u2, u3, u4, u5, u6, u7, u8, u9⟩ := id hQ
  have bT : (z_T Z).1 ≤ 30 := hZ.2.2.1.1
  have bs : z_s Z < 2 ^ 31 := hZ.2.2.2.2.1
  have bX : (z_X Z).1 ≤ 240 := hZ.2.2.2.2.2.1.1
  have bXc : ∀ i, i < (z_X Z).1 → (z_X Z).2 i < 256 := hZ.2.2.2.2.2.1.2
  have bS : (z_S Z).1 ≤ 6 := hZ.2.2.2.2.2.2.1.1
  have bSr : ∀ i, i < (z_S Z).1 → (z_S Z).2.1 i < z_R Z := hZ.2.2.2.2.2.2.1.2
  have bB : (z_B Z).1 ≤ 20 := hZ.2.2.2.2.2.2.2.1
  have bBr : ∀ i, i < (z_B Z).1 → (z_B Z).2.1 i < z_R Z := hZ.2.2.2.2.2.2.2.2
  intro m
  induction m with
  | zero => intro r h1 h3; omega
  | succ m ih =>
    intro r h1 h3
    refine R_iload_n dX8_litOf_4 rfl ?_
    refine R_aload_n dX8_litOf_5 rfl ?_
    refine R_get dX8_litOf_6 f_X8_82 mo rfl ?_
    refine R_geN 46 dX8_litOf_9 rfl (by omega) (by omega) (fun c_9 => ?_) (fun c_9 => ?_)
    · have e : r = z_R Z := by omega
      subst e
      refine R_iload_n dX8_litOf_46 rfl ?_
      exact R_iret dX8_litOf_47 rfl rfl rfl x_pr.mk
    · refine R_iload_n dX8_litOf_12 rfl ?_
      refine R_aload_n dX8_litOf_13 rfl ?_
      refine R_aload_n dX8_litOf_14 rfl ?_
      refine R_get dX8_litOf_15 f_X8_38 mo rfl ?_
      refine R_iload_n dX8_litOf_18 rfl ?_
      refine R_aload_n dX8_litOf_19 rfl ?_
      refine R_get dX8_litOf_20 f_X8_38 mo rfl ?_
      refine R_iconst (nI 0) dX8_litOf_23 rfl ?_
      refine R_iald dX8_litOf_24 m8 rfl (by omega) (by decide) ?_
      rw [q0]
      refine R_cV3p (N := m_X8_isLit) dX8_litOf_25 l_X8_177 i_X8_isLit mo (n_isLit C hZ hk (by omega) u1) rfl rfl ?_
      refine R_ifeqB 37 dX8_litOf_28 rfl (fun c_28 => ?_) (fun c_28 => ?_)
      · have hs := s_set_f2 (n := r) (f := (s_lit (z_Q Z) (q_hr (z_Q Z)))) c_28
        refine R_iconst (nI 0) dX8_litOf_37 rfl ?_
        refine R_ior dX8_litOf_38 ?_
        rw [hs]
        refine R_istore_n dX8_litOf_39 (Nat.le_of_ble_eq_true rfl) rfl ?_
        refine R_iincN dX8_litOf_40 rfl (Nat.le_of_ble_eq_true rfl) rfl ?_
        refine R_goto 4 dX8_litOf_43 rfl ?_
        exact ih (r + 1) (by omega) (by omega)
      · have hs := s_set_t (n := r) (f := (s_lit (z_Q Z) (q_hr (z_Q Z)))) c_28
        refine R_iconst (nI 1) dX8_litOf_31 rfl ?_
        refine R_iload_n dX8_litOf_32 rfl ?_
        refine R_ishl dX8_litOf_33 ?_
        refine R_goto 38 dX8_litOf_34 rfl ?_
        refine R_ior dX8_litOf_38 ?_
        rw [hs]
        refine R_istore_n dX8_litOf_39 (Nat.le_of_ble_eq_true rfl) rfl ?_
        refine R_iincN dX8_litOf_40 rfl (Nat.le_of_ble_eq_true rfl) rfl ?_
        refine R_goto 4 dX8_litOf_43 rfl ?_
        exact ih (r + 1) (by omega) (by omega)
theorem n_litOf {h : xH} {Z : xZ} {k : Nat} {M : Nat → Nat → Int32} {sd : Nat → Int64} {kp t : Nat → Int32} (C : x_ML h Z M sd kp t) (hZ : x_ZB k Z) (hk : k ≤ 50000) : x_Met m_X8_litOf [.ref 372] h (x_pr (s_set (z_R Z) (s_lit (z_Q Z) (q_hr (z_Q Z)))) h) := by

  refine x_Met.of (lo := [some (.ref 372), none, none]) (by decide) rfl rfl rfl ?_
  refine R_iconst (nI 0) dX8_litOf_0 rfl ?_
  refine R_istore_n dX8_litOf_1 (Nat.le_of_ble_eq_true rfl) rfl ?_
  refine R_iconst (nI 0) dX8_litOf_2 rfl ?_
  refine R_istore_n dX8_litOf_3 (Nat.le_of_ble_eq_true rfl) rfl ?_
  exact n_litOf_loop C hZ hk (z_R Z + 1) 0 (by omega) (by omega)
theorem n_hears_loop {h : xH} {Z : xZ} {k : Nat} {M : Nat → Nat → Int32} {sd : Nat → Int64} {kp t : Nat → Int32} (C : x_ML h Z M sd kp t) (hZ : x_ZB k Z) (hk : k ≤ 50000) {p f : Nat} (hp : p < z_P Z) (hf : f < z_R Z) : ∀ (m r : Nat), r ≤ z_R Z → z_R Z + 1 ≤ r + m → x_Rn m_X8_hearsFrom 5 [some (.ref 372), some (.int (nI p)), some (.int (nI f)), some (.int (s_set r (s_heard (z_F Z) p f))), some (.int (nI r))] [] h (0, 0) (x_pr (s_set (z_R Z) (s_heard (z_F Z) p f)) h) := by
  obtain ⟨HM, HZ⟩ := id C
  have mo : h[372]? = some (x_mob (z_X Z).1 (z_f Z) (z_N Z) (z_R Z) (z_D Z) (z_P Z) (z_T Z).1 (z_s Z) (z_S Z).1 (z_B Z).1 t) := HM.1
  have m6 : h[379]? = some (x_ia 36 (M 6)) := HM.2 6 (by decide)
  have m5 : h[378]? = some (x_ia 6 (M 5)) := HM.2 5 (by decide)
  obtain ⟨w1, w2, w3, w4, w5, w6, w7, hq, wt, wi, wk, ws, wb, wx⟩ := id HZ
  obtain ⟨q0, q1, q2, q3, q9, q15, q21, q45⟩ := id hq
  have q21z : ∀ r, r < z_R Z → M 8 (21 + r) = q_la (z_Q Z) 0 r := fun r hr => q21 0 r (by decide) hr
  have hB : x_HB (z_N Z) (z_R Z) (z_D Z) (z_P Z) (z_F Z) := hZ.1.hb
  have hQ : x_QB (z_N Z) (z_R Z) (z_P Z) (z_Q Z) := hZ.2.1.1
  obtain ⟨⟨b1, b2, b3, b4⟩, b5, b6, b7⟩ := id hB
  obtain ⟨u1, u2, u3, u4, u5, u6, u7, u8, u9⟩ := id hQ
  have bT : (z_T Z).1 ≤ 30 := hZ.2.2.1.1
  have bs : z_s Z < 2 ^ 31 := hZ.2.2.2.2.1
  have bX : (z_X Z).1 ≤ 240 := hZ.2.2.2.2.2.1.1
  have bXc : ∀ i, i < (z_X Z).1 → (z_X Z).2 i < 256 := hZ.2.2.2.2.2.1.2
  have bS : (z_S Z).1 ≤ 6 := hZ.2.2.2.2.2.2.1.1
  have bSr : ∀ i, i < (z_S Z).1 → (z_S Z).2.1 i < z_R Z := hZ.2.2.2.2.2.2.1.2
  have bB : (z_B Z).1 ≤ 20 := hZ.2.2.2.2.2.2.2.1
  have bBr : ∀ i, i < (z_B Z).1 → (z_B Z).2.1 i < z_R Z := hZ.2.2.2.2.2.2.2.2
  intro m
  induction m with
  | zero => intro r h1 h3; omega
  | succ m ih =>
    intro r h1 h3
    refine R_iload dX8_hearsFrom_5 rfl ?_
    refine R_aload_n dX8_hearsFrom_7 rfl ?_
    refine R_get dX8_hearsFrom_8 f_X8_82 mo rfl ?_
    refine R_geN 52 dX8_hearsFrom_11 rfl (by omega) (by omega) (fun c_11 => ?_) (fun c_11 => ?_)
    · have e : r = z_R Z := by omega
      subst e
      refine R_iload_n dX8_hearsFrom_52 rfl ?_
      exact R_iret dX8_hearsFrom_53 rfl rfl rfl x_pr.mk
    · have v1 := (b7 f r hf (by omega)).1
      have v2 := b6 p hp
      refine R_iload_n dX8_hearsFrom_14 rfl ?_
      refine R_aload_n dX8_hearsFrom_15 rfl ?_
      refine R_get dX8_hearsFrom_16 f_X8_32 mo rfl ?_
      refine R_bipush (nI 6) dX8_hearsFrom_19 rfl ?_
      refine R_iload_n dX8_hearsFrom_21 rfl ?_
      refine R_imulN dX8_hearsFrom_22 ?_
      refine R_iload dX8_hearsFrom_23 rfl ?_
      refine R_iaddN dX8_hearsFrom_25 ?_
      refine R_iald dX8_hearsFrom_26 m6 rfl (by omega) (by decide) ?_
      rw [w6 f r (by omega) (by omega)]
      refine R_aload_n dX8_hearsFrom_27 rfl ?_
      refine R_get dX8_hearsFrom_28 f_X8_29 mo rfl ?_
      refine R_iload_n dX8_hearsFrom_31 rfl ?_
      refine R_iald dX8_hearsFrom_32 m5 rfl (by omega) (by decide) ?_
      rw [w5 p (by omega)]
      refine R_geN 43 dX8_hearsFrom_33 rfl (by omega) (by omega) (fun c_33 => ?_) (fun c_33 => ?_)
      · have hs := s_set_f2 (n := r) (f := (s_heard (z_F Z) p f)) (decide_eq_false (by omega))
        refine R_iconst (nI 0) dX8_hearsFrom_43 rfl ?_
        refine R_ior dX8_hearsFrom_44 ?_
        rw [hs]
        refine R_istore_n dX8_hearsFrom_45 (Nat.le_of_ble_eq_true rfl) rfl ?_
        refine R_iincN dX8_hearsFrom_46 rfl (Nat.le_of_ble_eq_true rfl) rfl ?_
        refine R_goto 5 dX8_hearsFrom_49 rfl ?_
        exact ih (r + 1) (by omega) (by omega)
      · have hs := s_set_t (n := r) (f := (s_heard (z_F Z) p f)) (decide_eq_true (by omega))
        refine R_iconst (nI 1) dX8_hearsFrom_36 rfl ?_
        refine R_iload dX8_hearsFrom_37 rfl ?_
        refine R_ishl dX8_hearsFrom_39 ?_
        refine R_goto 44 dX8_hearsFrom_40 rfl ?_
        refine R_ior dX8_hearsFrom_44 ?_
        rw [hs]
        refine R_istore_n dX8_hearsFrom_45 (Nat.le_of_ble_eq_true rfl) rfl ?_
        refine R_iincN dX8_hearsFrom_46 rfl (Nat.le_of_ble_eq_true rfl) rfl ?_
        refine R_goto 5 dX8_hearsFrom_49 rfl ?_
        exact ih (r + 1) (by omega) (by omega)
theorem n_hears {h : xH} {Z : xZ} {k : Nat} {M : Nat → Nat → Int32} {sd : Nat → Int64} {kp t : Nat → Int32} (C : x_ML h Z M sd kp t) (hZ : x_ZB k Z) (hk : k ≤ 50000) {p f : Nat} (hp : p < z_P Z) (hf : f < z_R Z) : x_Met m_X8_hearsFrom [.ref 372, .int (nI p), .int (nI f)] h (x_pr (s_set (z_R Z) (s_heard (z_F Z) p f)) h) := by

  refine x_Met.of (lo := [some (.ref 372), some (.int (nI p)), some (.int (nI f)), none, none]) (by decide) rfl rfl rfl ?_
  refine R_iconst (nI 0) dX8_hearsFrom_0 rfl ?_
  refine R_istore_n dX8_hearsFrom_1 (Nat.le_of_ble_eq_true rfl) rfl ?_
  refine R_iconst (nI 0) dX8_hearsFrom_2 rfl ?_
  refine R_istore dX8_hearsFrom_3 (Nat.le_of_ble_eq_true rfl) rfl ?_
  exact n_hears_loop C hZ hk hp hf (z_R Z + 1) 0 (by omega) (by omega)
theorem n_whose {h : xH} {Z : xZ} {k : Nat} {M : Nat → Nat → Int32} {sd : Nat → Int64} {kp t : Nat → Int32} (C : x_ML h Z M sd kp t) (hZ : x_ZB k Z) (hk : k ≤ 50000) {p y : Nat} (hp : p < z_P Z) (hy : y < 4) : x_Met m_X8_whoseOf [.ref 372, .int (nI p), .int (nI y)] h (x_pr (nI (s_name (z_F Z) p y)) h) := by
  obtain ⟨HM, HZ⟩ := id C
  have mo : h[372]? = some (x_mob (z_X Z).1 (z_f Z) (z_N Z) (z_R Z) (z_D Z) (z_P Z) (z_T Z).1 (z_s Z) (z_S Z).1 (z_B Z).1 t) := HM.1
  have m4 : h[377]? = some (x_ia 6 (M 4)) := HM.2 4 (by decide)
  obtain ⟨w1, w2, w3, w4, w5, w6, w7, hq, wt, wi, wk, ws, wb, wx⟩ := id HZ
  obtain ⟨q0, q1, q2, q3, q9, q15, q21, q45⟩ := id hq
  have q21z : ∀ r, r < z_R Z → M 8 (21 + r) = q_la (z_Q Z) 0 r := fun r hr => q21 0 r (by decide) hr
  have hB : x_HB (z_N Z) (z_R Z) (z_D Z) (z_P Z) (z_F Z) := hZ.1.hb
  have hQ : x_QB (z_N Z) (z_R Z) (z_P Z) (z_Q Z) := hZ.2.1.1
  obtain ⟨⟨b1, b2, b3, b4⟩, b5, b6, b7⟩ := id hB
  obtain ⟨u1, u2, u3, u4, u5, u6, u7, u8, u9⟩ := id hQ
  have bT : (z_T Z).1 ≤ 30 := hZ.2.2.1.1
  have bs : z_s Z < 2 ^ 31 := hZ.2.2.2.2.1
  have bX : (z_X Z).1 ≤ 240 := hZ.2.2.2.2.2.1.1
  have bXc : ∀ i, i < (z_X Z).1 → (z_X Z).2 i < 256 := hZ.2.2.2.2.2.1.2
  have bS : (z_S Z).1 ≤ 6 := hZ.2.2.2.2.2.2.1.1
  have bSr : ∀ i, i < (z_S Z).1 → (z_S Z).2.1 i < z_R Z := hZ.2.2.2.2.2.2.1.2
  have bB : (z_B Z).1 ≤ 20 := hZ.2.2.2.2.2.2.2.1
  have bBr : ∀ i, i < (z_B Z).1 → (z_B Z).2.1 i < z_R Z := hZ.2.2.2.2.2.2.2.2
  have v2 := b6 p hp
  refine x_Met.of (lo := [some (.ref 372), some (.int (nI p)), some (.int (nI y))]) (by decide) rfl rfl rfl ?_
  refine R_aload_n dX8_whoseOf_0 rfl ?_
  refine R_get dX8_whoseOf_1 f_X8_26 mo rfl ?_
  refine R_iload_n dX8_whoseOf_4 rfl ?_
  refine R_iald dX8_whoseOf_5 m4 rfl (by omega) (by decide) ?_
  rw [w4 p (by omega)]
  refine R_iconst (nI 2) dX8_whoseOf_6 rfl ?_
  refine R_neN 19 dX8_whoseOf_7 rfl (by omega) (by omega) (fun c_7 => ?_) (fun c_7 => ?_)
  · refine R_iload_n dX8_whoseOf_19 rfl ?_
    exact R_iret dX8_whoseOf_20 rfl rfl rfl (x_pr.eq (congrArg nI (by simp [s_name, *])))
  · refine R_iload_n dX8_whoseOf_10 rfl ?_
    refine R_iconst (nI 3) dX8_whoseOf_11 rfl ?_
    refine R_eqN 19 dX8_whoseOf_12 rfl (by omega) (by omega) (fun c_12 => ?_) (fun c_12 => ?_)
    · refine R_iload_n dX8_whoseOf_19 rfl ?_
      exact R_iret dX8_whoseOf_20 rfl rfl rfl (x_pr.eq (congrArg nI (by simp [s_name, *])))
    · refine R_iconst (nI 0) dX8_whoseOf_15 rfl ?_
      refine R_goto 20 dX8_whoseOf_16 rfl ?_
      exact R_iret dX8_whoseOf_20 rfl rfl rfl (x_pr.eq (congrArg nI (by simp [s_name, *])))
theorem n_worded_loop {h : xH} {Z : xZ} {k : Nat} {M : Nat → Nat → Int32} {sd : Nat → Int64} {kp t : Nat → Int32} (C : x_ML h Z M sd kp t) (hZ : x_ZB k Z) (hk : k ≤ 50000) {y : Nat} (hy : y < 4) : ∀ (m r : Nat), r ≤ z_R Z → z_R Z + 1 ≤ r + m → x_Rn m_X8_wordedOf 4 [some (.ref 372), some (.int (nI y)), some (.int (s_set r (s_wd (z_Q Z) y))), some (.int (nI r))] [] h (0, 0) (x_pr (s_set (z_R Z) (s_wd (z_Q Z) y)) h) := by
  obtain ⟨HM, HZ⟩ := id C
  have mo : h[372]? = some (x_mob (z_X Z).1 (z_f Z) (z_N Z) (z_R Z) (z_D Z) (z_P Z) (z_T Z).1 (z_s Z) (z_S Z).1 (z_B Z).1 t) := HM.1
  have m8 : h[381]? = some (x_ia 51 (M 8)) := HM.2 8 (by decide)
  obtain ⟨w1, w2, w3, w4, w5, w6, w7, hq, wt, wi, wk, ws, wb, wx⟩ := id HZ
  obtain ⟨q0, q1, q2, q3, q9, q15, q21, q45⟩ := id hq
  have q21z : ∀ r, r < z_R Z → M 8 (21 + r) = q_la (z_Q Z) 0 r := fun r hr => q21 0 r (by decide) hr
  have hB : x_HB (z_N Z) (z_R Z) (z_D Z) (z_P Z) (z_F Z) := hZ.1.hb
  have hQ : x_QB (z_N Z) (z_R Z) (z_P Z) (z_Q Z) := hZ.2.1.1
  obtain ⟨⟨b1, b2, b3, b4⟩, b5, b6, b7⟩ := id hB
  obtain ⟨u1, u2, u3, u4, u5, u6, u7, u8, u9⟩ := id hQ
  have bT : (z_T Z).1 ≤ 30 := hZ.2.2.1.1
  have bs : z_s Z < 2 ^ 31 := hZ.2.2.2.2.1
  have bX : (z_X Z).1 ≤ 240 := hZ.2.2.2.2.2.1.1
  have bXc : ∀ i, i < (z_X Z).1 → (z_X Z).2 i < 256 := hZ.2.2.2.2.2.1.2
  have bS : (z_S Z).1 ≤ 6 := hZ.2.2.2.2.2.2.1.1
  have bSr : ∀ i, i < (z_S Z).1 → (z_S Z).2.1 i < z_R Z := hZ.2.2.2.2.2.2.1.2
  have bB : (z_B Z).1 ≤ 20 := hZ.2.2.2.2.2.2.2.1
  have bBr : ∀ i, i < (z_B Z).1 → (z_B Z).2.1 i < z_R Z := hZ.2.2.2.2.2.2.2.2
  intro m
  induction m with
  | zero => intro r h1 h3; omega
  | succ m ih =>
    intro r h1 h3
    refine R_iload_n dX8_wordedOf_4 rfl ?_
    refine R_aload_n dX8_wordedOf_5 rfl ?_
    refine R_get dX8_wordedOf_6 f_X8_82 mo rfl ?_
    refine R_geN 45 dX8_wordedOf_9 rfl (by omega) (by omega) (fun c_9 => ?_) (fun c_9 => ?_)
    · have e : r = z_R Z := by omega
      subst e
      refine R_iload_n dX8_wordedOf_45 rfl ?_
      exact R_iret dX8_wordedOf_46 rfl rfl rfl x_pr.mk
    · refine R_iload_n dX8_wordedOf_12 rfl ?_
      refine R_aload_n dX8_wordedOf_13 rfl ?_
      refine R_get dX8_wordedOf_14 f_X8_38 mo rfl ?_
      refine R_bipush (nI 21) dX8_wordedOf_17 rfl ?_
      refine R_bipush (nI 6) dX8_wordedOf_19 rfl ?_
      refine R_iload_n dX8_wordedOf_21 rfl ?_
      refine R_imulN dX8_wordedOf_22 ?_
      refine R_iaddN dX8_wordedOf_23 ?_
      refine R_iload_n dX8_wordedOf_24 rfl ?_
      refine R_iaddN dX8_wordedOf_25 ?_
      refine R_iald dX8_wordedOf_26 m8 rfl (by omega) (by decide) ?_
      rw [q21 y r (by omega) (by omega)]
      refine R_iflt 36 dX8_wordedOf_27 rfl (fun c_27 => ?_) (fun c_27 => ?_)
      · have hs := s_set_f2 (n := r) (f := (s_wd (z_Q Z) y)) (decide_eq_false (fun z => z ((s_la_lt (u9 y r hy (by omega))).mp c_27)))
        refine R_iconst (nI 0) dX8_wordedOf_36 rfl ?_
        refine R_ior dX8_wordedOf_37 ?_
        rw [hs]
        refine R_istore_n dX8_wordedOf_38 (Nat.le_of_ble_eq_true rfl) rfl ?_
        refine R_iincN dX8_wordedOf_39 rfl (Nat.le_of_ble_eq_true rfl) rfl ?_
        refine R_goto 4 dX8_wordedOf_42 rfl ?_
        exact ih (r + 1) (by omega) (by omega)
      · have hs := s_set_t (n := r) (f := (s_wd (z_Q Z) y)) (decide_eq_true (fun z => c_27 ((s_la_lt (u9 y r hy (by omega))).mpr z)))
        refine R_iconst (nI 1) dX8_wordedOf_30 rfl ?_
        refine R_iload_n dX8_wordedOf_31 rfl ?_
        refine R_ishl dX8_wordedOf_32 ?_
        refine R_goto 37 dX8_wordedOf_33 rfl ?_
        refine R_ior dX8_wordedOf_37 ?_
        rw [hs]
        refine R_istore_n dX8_wordedOf_38 (Nat.le_of_ble_eq_true rfl) rfl ?_
        refine R_iincN dX8_wordedOf_39 rfl (Nat.le_of_ble_eq_true rfl) rfl ?_
        refine R_goto 4 dX8_wordedOf_42 rfl ?_
        exact ih (r + 1) (by omega) (by omega)
theorem n_worded {h : xH} {Z : xZ} {k : Nat} {M : Nat → Nat → Int32} {sd : Nat → Int64} {kp t : Nat → Int32} (C : x_ML h Z M sd kp t) (hZ : x_ZB k Z) (hk : k ≤ 50000) {y : Nat} (hy : y < 4) : x_Met m_X8_wordedOf [.ref 372, .int (nI y)] h (x_pr (s_set (z_R Z) (s_wd (z_Q Z) y)) h) := by

  refine x_Met.of (lo := [some (.ref 372), some (.int (nI y)), none, none]) (by decide) rfl rfl rfl ?_
  refine R_iconst (nI 0) dX8_wordedOf_0 rfl ?_
  refine R_istore_n dX8_wordedOf_1 (Nat.le_of_ble_eq_true rfl) rfl ?_
  refine R_iconst (nI 0) dX8_wordedOf_2 rfl ?_
  refine R_istore_n dX8_wordedOf_3 (Nat.le_of_ble_eq_true rfl) rfl ?_
  exact n_worded_loop C hZ hk hy (z_R Z + 1) 0 (by omega) (by omega)
theorem n_will {h : xH} {Z : xZ} {k : Nat} {M : Nat → Nat → Int32} {sd : Nat → Int64} {kp t : Nat → Int32} (C : x_ML h Z M sd kp t) (hZ : x_ZB k Z) (hk : k ≤ 50000) {r y : Nat} (hr : r < z_R Z) (hy : y < 4) : x_Met m_X8_willBy [.ref 372, .int (nI r), .int (nI y)] h (x_pr (s_will (z_Q Z) r y) h) := by
  obtain ⟨HM, HZ⟩ := id C
  have mo : h[372]? = some (x_mob (z_X Z).1 (z_f Z) (z_N Z) (z_R Z) (z_D Z) (z_P Z) (z_T Z).1 (z_s Z) (z_S Z).1 (z_B Z).1 t) := HM.1
  have m8 : h[381]? = some (x_ia 51 (M 8)) := HM.2 8 (by decide)
  obtain ⟨w1, w2, w3, w4, w5, w6, w7, hq, wt, wi, wk, ws, wb, wx⟩ := id HZ
  obtain ⟨q0, q1, q2, q3, q9, q15, q21, q45⟩ := id hq
  have q21z : ∀ r, r < z_R Z → M 8 (21 + r) = q_la (z_Q Z) 0 r := fun r hr => q21 0 r (by decide) hr
  have hB : x_HB (z_N Z) (z_R Z) (z_D Z) (z_P Z) (z_F Z) := hZ.1.hb
  have hQ : x_QB (z_N Z) (z_R Z) (z_P Z) (z_Q Z) := hZ.2.1.1
  obtain ⟨⟨b1, b2, b3, b4⟩, b5, b6, b7⟩ := id hB
  obtain ⟨u1, u2, u3, u4, u5, u6, u7, u8, u9⟩ := id hQ
  have bT : (z_T Z).1 ≤ 30 := hZ.2.2.1.1
  have bs : z_s Z < 2 ^ 31 := hZ.2.2.2.2.1
  have bX : (z_X Z).1 ≤ 240 := hZ.2.2.2.2.2.1.1
  have bXc : ∀ i, i < (z_X Z).1 → (z_X Z).2 i < 256 := hZ.2.2.2.2.2.1.2
  have bS : (z_S Z).1 ≤ 6 := hZ.2.2.2.2.2.2.1.1
  have bSr : ∀ i, i < (z_S Z).1 → (z_S Z).2.1 i < z_R Z := hZ.2.2.2.2.2.2.1.2
  have bB : (z_B Z).1 ≤ 20 := hZ.2.2.2.2.2.2.2.1
  have bBr : ∀ i, i < (z_B Z).1 → (z_B Z).2.1 i < z_R Z := hZ.2.2.2.2.2.2.2.2
  refine x_Met.of (lo := [some (.ref 372), some (.int (nI r)), some (.int (nI y)), none]) (by decide) rfl rfl rfl ?_
  refine R_aload_n dX8_willBy_0 rfl ?_
  refine R_get dX8_willBy_1 f_X8_38 mo rfl ?_
  refine R_bipush (nI 21) dX8_willBy_4 rfl ?_
  refine R_bipush (nI 6) dX8_willBy_6 rfl ?_
  refine R_iload_n dX8_willBy_8 rfl ?_
  refine R_imulN dX8_willBy_9 ?_
  refine R_iaddN dX8_willBy_10 ?_
  refine R_iload_n dX8_willBy_11 rfl ?_
  refine R_iaddN dX8_willBy_12 ?_
  refine R_iald dX8_willBy_13 m8 rfl (by omega) (by decide) ?_
  rw [q21 y r (by omega) (by omega)]
  refine R_istore_n dX8_willBy_14 (Nat.le_of_ble_eq_true rfl) rfl ?_
  refine R_iload_n dX8_willBy_15 rfl ?_
  refine R_iflt 23 dX8_willBy_16 rfl (fun c_16 => ?_) (fun c_16 => ?_)
  · refine R_aload_n dX8_willBy_23 rfl ?_
    refine R_get dX8_willBy_24 f_X8_38 mo rfl ?_
    refine R_bipush (nI 15) dX8_willBy_27 rfl ?_
    refine R_iload_n dX8_willBy_29 rfl ?_
    refine R_iaddN dX8_willBy_30 ?_
    refine R_iald dX8_willBy_31 m8 rfl (by omega) (by decide) ?_
    rw [q15 r (by omega)]
    exact R_iret dX8_willBy_32 rfl rfl rfl (x_pr.eq (by rw [s_will, if_pos ((s_la_lt (u9 y r hy hr)).mp c_16)]))
  · refine R_iload_n dX8_willBy_19 rfl ?_
    refine R_goto 32 dX8_willBy_20 rfl ?_
    exact R_iret dX8_willBy_32 rfl rfl rfl (x_pr.eq (by rw [s_will, if_neg (fun z => c_16 ((s_la_lt (u9 y r hy hr)).mpr z))]))
theorem n_own_loop {h : xH} {Z : xZ} {k : Nat} {M : Nat → Nat → Int32} {sd : Nat → Int64} {kp t : Nat → Int32} (C : x_ML h Z M sd kp t) (hZ : x_ZB k Z) (hk : k ≤ 50000) (q : Int32) : ∀ (m r : Nat), r ≤ z_R Z → z_R Z + 1 ≤ r + m → x_Rn m_X8_hasRooms 4 [some (.ref 372), some (.int q), some (.int (s_set r (s_own (z_Q Z) q))), some (.int (nI r))] [] h (0, 0) (x_pr (s_set (z_R Z) (s_own (z_Q Z) q)) h) := by
  obtain ⟨HM, HZ⟩ := id C
  have mo : h[372]? = some (x_mob (z_X Z).1 (z_f Z) (z_N Z) (z_R Z) (z_D Z) (z_P Z) (z_T Z).1 (z_s Z) (z_S Z).1 (z_B Z).1 t) := HM.1
  have m8 : h[381]? = some (x_ia 51 (M 8)) := HM.2 8 (by decide)
  obtain ⟨w1, w2, w3, w4, w5, w6, w7, hq, wt, wi, wk, ws, wb, wx⟩ := id HZ
  obtain ⟨q0, q1, q2, q3, q9, q15, q21, q45⟩ := id hq
  have q21z : ∀ r, r < z_R Z → M 8 (21 + r) = q_la (z_Q Z) 0 r := fun r hr => q21 0 r (by decide) hr
  have hB : x_HB (z_N Z) (z_R Z) (z_D Z) (z_P Z) (z_F Z) := hZ.1.hb
  have hQ : x_QB (z_N Z) (z_R Z) (z_P Z) (z_Q Z) := hZ.2.1.1
  obtain ⟨⟨b1, b2, b3, b4⟩, b5, b6, b7⟩ := id hB
  obtain ⟨u1, u2, u3, u4, u5, u6, u7, u8, u9⟩ := id hQ
  have bT : (z_T Z).1 ≤ 30 := hZ.2.2.1.1
  have bs : z_s Z < 2 ^ 31 := hZ.2.2.2.2.1
  have bX : (z_X Z).1 ≤ 240 := hZ.2.2.2.2.2.1.1
  have bXc : ∀ i, i < (z_X Z).1 → (z_X Z).2 i < 256 := hZ.2.2.2.2.2.1.2
  have bS : (z_S Z).1 ≤ 6 := hZ.2.2.2.2.2.2.1.1
  have bSr : ∀ i, i < (z_S Z).1 → (z_S Z).2.1 i < z_R Z := hZ.2.2.2.2.2.2.1.2
  have bB : (z_B Z).1 ≤ 20 := hZ.2.2.2.2.2.2.2.1
  have bBr : ∀ i, i < (z_B Z).1 → (z_B Z).2.1 i < z_R Z := hZ.2.2.2.2.2.2.2.2
  intro m
  induction m with
  | zero => intro r h1 h3; omega
  | succ m ih =>
    intro r h1 h3
    refine R_iload_n dX8_hasRooms_4 rfl ?_
    refine R_aload_n dX8_hasRooms_5 rfl ?_
    refine R_get dX8_hasRooms_6 f_X8_82 mo rfl ?_
    refine R_geN 41 dX8_hasRooms_9 rfl (by omega) (by omega) (fun c_9 => ?_) (fun c_9 => ?_)
    · have e : r = z_R Z := by omega
      subst e
      refine R_iload_n dX8_hasRooms_41 rfl ?_
      exact R_iret dX8_hasRooms_42 rfl rfl rfl x_pr.mk
    · refine R_iload_n dX8_hasRooms_12 rfl ?_
      refine R_aload_n dX8_hasRooms_13 rfl ?_
      refine R_get dX8_hasRooms_14 f_X8_38 mo rfl ?_
      refine R_bipush (nI 15) dX8_hasRooms_17 rfl ?_
      refine R_iload_n dX8_hasRooms_19 rfl ?_
      refine R_iaddN dX8_hasRooms_20 ?_
      refine R_iald dX8_hasRooms_21 m8 rfl (by omega) (by decide) ?_
      rw [q15 r (by omega)]
      refine R_iload_n dX8_hasRooms_22 rfl ?_
      refine R_icmpne 32 dX8_hasRooms_23 rfl (fun c_23 => ?_) (fun c_23 => ?_)
      · have hs := s_set_f2 (n := r) (f := (s_own (z_Q Z) q)) (decide_eq_false c_23)
        refine R_iconst (nI 0) dX8_hasRooms_32 rfl ?_
        refine R_ior dX8_hasRooms_33 ?_
        rw [hs]
        refine R_istore_n dX8_hasRooms_34 (Nat.le_of_ble_eq_true rfl) rfl ?_
        refine R_iincN dX8_hasRooms_35 rfl (Nat.le_of_ble_eq_true rfl) rfl ?_
        refine R_goto 4 dX8_hasRooms_38 rfl ?_
        exact ih (r + 1) (by omega) (by omega)
      · have hs := s_set_t (n := r) (f := (s_own (z_Q Z) q)) (decide_eq_true c_23)
        refine R_iconst (nI 1) dX8_hasRooms_26 rfl ?_
        refine R_iload_n dX8_hasRooms_27 rfl ?_
        refine R_ishl dX8_hasRooms_28 ?_
        refine R_goto 33 dX8_hasRooms_29 rfl ?_
        refine R_ior dX8_hasRooms_33 ?_
        rw [hs]
        refine R_istore_n dX8_hasRooms_34 (Nat.le_of_ble_eq_true rfl) rfl ?_
        refine R_iincN dX8_hasRooms_35 rfl (Nat.le_of_ble_eq_true rfl) rfl ?_
        refine R_goto 4 dX8_hasRooms_38 rfl ?_
        exact ih (r + 1) (by omega) (by omega)
theorem n_own {h : xH} {Z : xZ} {k : Nat} {M : Nat → Nat → Int32} {sd : Nat → Int64} {kp t : Nat → Int32} (C : x_ML h Z M sd kp t) (hZ : x_ZB k Z) (hk : k ≤ 50000) (q : Int32) : x_Met m_X8_hasRooms [.ref 372, .int q] h (x_pr (s_set (z_R Z) (s_own (z_Q Z) q)) h) := by

  refine x_Met.of (lo := [some (.ref 372), some (.int q), none, none]) (by decide) rfl rfl rfl ?_
  refine R_iconst (nI 0) dX8_hasRooms_0 rfl ?_
  refine R_istore_n dX8_hasRooms_1 (Nat.le_of_ble_eq_true rfl) rfl ?_
  refine R_iconst (nI 0) dX8_hasRooms_2 rfl ?_
  refine R_istore_n dX8_hasRooms_3 (Nat.le_of_ble_eq_true rfl) rfl ?_
  exact n_own_loop C hZ hk q (z_R Z + 1) 0 (by omega) (by omega)
