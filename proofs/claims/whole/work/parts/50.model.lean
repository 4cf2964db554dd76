/-! THE MODEL: its cells -/
def m_len (i : Nat) : Nat := [240, 8, 8, 8, 6, 6, 36, 36, 51, 1530, 102, 2, 2, 12, 40, 8, 8, 8, 6, 6, 51, 8064].getD i 0
def x_mc (i : Nat) (M : Nat → Nat → Int32) (sd : Nat → Int64) (kp : Nat → Int32) : xC := if i = 11 then x_la 2 sd else if i = 12 then .inl (2, 2, .inl kp) else x_ia (m_len i) (M i)
def x_MR (h : xH) (ob : xC) (M : Nat → Nat → Int32) (sd : Nat → Int64) (kp : Nat → Int32) : Prop := h[372]? = some ob ∧ ∀ i, i < 22 → h[373 + i]? = some (x_mc i M sd kp)
abbrev x_mob (n : Nat) (fa : Int32) (N R D P c s sn bn : Nat) (t : Nat → Int32) : xC := .inr (8, [.ref 373, .int (nI n), .int fa, .int (nI N), .int (nI R), .int (nI D), .int (nI P), .ref 374, .ref 375, .ref 376, .ref 377, .ref 378, .ref 379, .ref 380, .ref 381, .ref 382, .int (nI c), .long (lN s), .ref 383, .ref 384, .ref 385, .ref 386, .int (nI sn), .ref 387, .int (nI bn), .int (t 0), .int (t 1), .int (t 2), .int (t 3), .int (t 4), .int (t 5), .int (t 6), .ref 388, .ref 389, .ref 390, .ref 391, .ref 392, .ref 393, .ref 394])
theorem x_MR.obj {h : xH} {ob : xC} {M : Nat → Nat → Int32} {sd : Nat → Int64} {kp : Nat → Int32} (H : x_MR h ob M sd kp) (ob' : xC) : x_MR (h.set 372 ob') ob' M sd kp :=
  ⟨List.getElem?_set_self (List.getElem?_eq_some_iff.mp H.1).1, fun i hi => (List.getElem?_set_ne (by omega)).trans (H.2 i hi)⟩
def s_arr (M : Nat → Nat → Int32) (i : Nat) (g : Nat → Int32) : Nat → Nat → Int32 := fun x => if x = i then g else M x
theorem s_arr_ne {M : Nat → Nat → Int32} {i x : Nat} {g : Nat → Int32} (h : ¬ x = i) : s_arr M i g x = M x := if_neg h
theorem s_arr_eq {M : Nat → Nat → Int32} {i : Nat} {g : Nat → Int32} : s_arr M i g i = g := if_pos rfl
theorem x_MR.arr {h : xH} {ob : xC} {M : Nat → Nat → Int32} {sd : Nat → Int64} {kp : Nat → Int32} (H : x_MR h ob M sd kp) {i : Nat} (hi : i < 22) (h11 : ¬ i = 11) (h12 : ¬ i = 12) (g : Nat → Int32) : x_MR (h.set (373 + i) (x_ia (m_len i) g)) ob (s_arr M i g) sd kp := by
  refine ⟨(List.getElem?_set_ne (by omega)).trans H.1, fun x hx => ?_⟩
  by_cases e : x = i
  · subst e
    rw [List.getElem?_set_self (List.getElem?_eq_some_iff.mp (H.2 x hx)).1, x_mc, if_neg h11, if_neg h12, s_arr_eq]
  · rw [List.getElem?_set_ne (by omega), H.2 x hx]
    unfold x_mc
    rw [s_arr_ne e]
theorem x_MR.sd {h : xH} {ob : xC} {M : Nat → Nat → Int32} {sd : Nat → Int64} {kp : Nat → Int32} (H : x_MR h ob M sd kp) (sd' : Nat → Int64) : x_MR (h.set 384 (x_la 2 sd')) ob M sd' kp := by
  refine ⟨(List.getElem?_set_ne (by omega)).trans H.1, fun x hx => ?_⟩
  by_cases e : x = 11
  · subst e; exact List.getElem?_set_self (List.getElem?_eq_some_iff.mp (H.2 11 hx)).1
  · rw [List.getElem?_set_ne (by omega), H.2 x hx]; unfold x_mc; rw [if_neg e, if_neg e]
theorem x_MR.kp {h : xH} {ob : xC} {M : Nat → Nat → Int32} {sd : Nat → Int64} {kp : Nat → Int32} (H : x_MR h ob M sd kp) (kp' : Nat → Int32) : x_MR (h.set 385 (.inl (2, 2, .inl kp'))) ob M sd kp' := by
  refine ⟨(List.getElem?_set_ne (by omega)).trans H.1, fun x hx => ?_⟩
  by_cases e : x = 12
  · subst e; exact List.getElem?_set_self (List.getElem?_eq_some_iff.mp (H.2 12 hx)).1
  · rw [List.getElem?_set_ne (by omega), H.2 x hx]; unfold x_mc; rw [if_neg e, if_neg e]
theorem x_MR.kept {h h' : xH} {ob : xC} {M : Nat → Nat → Int32} {sd : Nat → Int64} {kp : Nat → Int32} (H : x_MR h ob M sd kp) (hq : ∀ q, 372 ≤ q → h'[q]? = h[q]?) : x_MR h' ob M sd kp :=
  ⟨(hq 372 (by omega)).trans H.1, fun i hi => (hq _ (by omega)).trans (H.2 i hi)⟩
/-- a night in 51 ints -/
def x_stq (f : Nat → Int32) (R P : Nat) (Q : xQ) : Prop := f 0 = nI (q_hr Q) ∧ f 1 = nI (q_nt Q) ∧ f 2 = nI (q_sy Q) ∧ (∀ r, r < R → f (3 + r) = nI (q_bu Q r)) ∧ (∀ r, r < R → f (9 + r) = x_b (q_ou Q r)) ∧ (∀ r, r < R → f (15 + r) = q_ow Q r) ∧ (∀ k r, k < 4 → r < R → f (21 + 6 * k + r) = q_la Q k r) ∧ ∀ p, p < P → f (45 + p) = nI (q_pl Q p)
def x_MZ (Z : xZ) (M : Nat → Nat → Int32) (sd : Nat → Int64) (kp : Nat → Int32) : Prop := (∀ d, d < z_D Z → M 1 d = nI (z_F Z 1 d)) ∧ (∀ d, d < z_D Z → M 2 d = nI (z_F Z 2 d)) ∧ (∀ d, d < z_D Z → M 3 d = nI (z_F Z 3 d)) ∧ (∀ p, p < z_P Z → M 4 p = nI (z_F Z 4 p)) ∧ (∀ p, p < z_P Z → M 5 p = nI (z_F Z 5 p)) ∧ (∀ x y, x < z_R Z → y < z_R Z → M 6 (6 * x + y) = nI (z_F Z (10 + x) y)) ∧ (∀ x y, x < z_R Z → y < z_R Z → M 7 (6 * x + y) = nI (z_F Z (20 + x) y)) ∧ x_stq (M 8) (z_R Z) (z_P Z) (z_Q Z) ∧
  (∀ j, j < (z_T Z).1 → x_stq (fun i => M 9 (51 * ((z_T Z).1 - 1 - j) + i)) (z_R Z) (z_P Z) ((z_T Z).2 j)) ∧ (∀ i, i < 2 → (z_I Z).1 i = true → x_stq (fun x => M 10 (51 * i + x)) (z_R Z) (z_P Z) ((z_I Z).2.1 i) ∧ sd i = lN ((z_I Z).2.2 i)) ∧ (∀ i, i < 2 → kp i = x_b ((z_I Z).1 i)) ∧ (∀ i, i < (z_S Z).1 → M 13 (2 * i) = nI ((z_S Z).2.1 i) ∧ M 13 (2 * i + 1) = x_b ((z_S Z).2.2 i)) ∧ (∀ i, i < (z_B Z).1 → M 14 (2 * i) = nI ((z_B Z).2.1 i) ∧ M 14 (2 * i + 1) = (z_B Z).2.2 i) ∧ ∀ i, i < (z_X Z).1 → M 0 i = nI ((z_X Z).2 i)
def x_ML (h : xH) (Z : xZ) (M : Nat → Nat → Int32) (sd : Nat → Int64) (kp t : Nat → Int32) : Prop := x_MR h (x_mob (z_X Z).1 (z_f Z) (z_N Z) (z_R Z) (z_D Z) (z_P Z) (z_T Z).1 (z_s Z) (z_S Z).1 (z_B Z).1 t) M sd kp ∧ x_MZ Z M sd kp
def x_Model (h : xH) (Z : xZ) : Prop := ∃ M sd kp t, x_ML h Z M sd kp t
theorem x_ML.cl {h : xH} {Z : xZ} {M : Nat → Nat → Int32} {sd : Nat → Int64} {kp t : Nat → Int32} (C : x_ML h Z M sd kp t) : x_Model h Z := ⟨M, sd, kp, t, C⟩
def x_fD (h h' : xH) : Prop := ∀ q, q < 372 → h'[q]? = h[q]?
theorem x_fD.rf (h : xH) : x_fD h h := fun _ _ => rfl
theorem x_fD.trans {h g k : xH} (a : x_fD h g) (b : x_fD g k) : x_fD h k := fun q hq => (b q hq).trans (a q hq)
theorem x_fD.set {h g : xH} {c : Nat} (a : x_fD h g) (e : xC) (h1 : 372 ≤ c) : x_fD h (g.set c e) := fun q hq => by rw [List.getElem?_set_ne (by omega)]; exact a q hq
def x_KD (h : xH) (e : Int32 × xZ) : Option Value → xH → Prop := x_ir (fun r h' => r = e.1 ∧ x_Model h' e.2 ∧ x_fD h h')
theorem x_KD.ok {h h' : xH} {e : Int32 × xZ} {r : Int32} {Z : xZ} (HC : x_Model h' Z) (f : x_fD h h') (he : e = (r, Z)) : x_KD h e (some (.int r)) h' := by subst he; exact ⟨r, rfl, rfl, HC, f⟩
/-! small ones -/
theorem s_set_f2 {n : Nat} {f : Nat → Bool} (h : f n = false) : s_set n f ||| nI 0 = s_set (n + 1) f := by rw [show s_set n f ||| nI 0 = s_set n f from Int32.or_zero, s_set_f h]
theorem x_inR {r : Int32} {n : Nat} (hn : n < 1000) : decide (¬ r < nI 0 ∧ ¬ nI n - nI 1 < r) = x_has r n := by
  unfold x_has
  congr 1
  refine propext ⟨fun z => ⟨z.1, fun q => z.2 ?_⟩, fun z => ⟨z.1, fun q => z.2 ?_⟩⟩
  · cases n with
    | zero =>
      have e : (nI 0 - nI 1).toInt = -1 := by decide
      rw [Int32.lt_iff_toInt_lt, e]
      rw [Int32.le_iff_toInt_le, nI_toInt (by omega)] at q
      omega
    | succ n =>
      rw [pk_sub (by omega), Int32.lt_iff_toInt_lt, nI_toInt (by omega)]
      rw [Int32.le_iff_toInt_le, nI_toInt (by omega)] at q
      omega
  · cases n with
    | zero =>
      have e : (nI 0 - nI 1).toInt = -1 := by decide
      rw [Int32.lt_iff_toInt_lt, e] at q
      rw [Int32.le_iff_toInt_le, nI_toInt (by omega)]
      omega
    | succ n =>
      rw [pk_sub (by omega), Int32.lt_iff_toInt_lt, nI_toInt (by omega)] at q
      rw [Int32.le_iff_toInt_le, nI_toInt (by omega)]
      omega
def x_in (v a b : Int32) : Bool := decide (¬ v < a ∧ ¬ b < v)
theorem n_in {h : xH} (v a b : Int32) : x_Met m_X8_in [.int v, .int a, .int b] h (x_pr (x_b (x_in v a b)) h) := by

  refine x_Met.of (lo := [some (.int v), some (.int a), some (.int b)]) (by decide) rfl rfl rfl ?_
  refine R_iload_n dX8_in_0 rfl ?_
  refine R_iload_n dX8_in_1 rfl ?_
  refine R_icmplt 14 dX8_in_2 rfl (fun c_2 => ?_) (fun c_2 => ?_)
  · refine R_iconst (nI 0) dX8_in_14 rfl ?_
    exact R_zret dX8_in_15 rfl (Or.inl rfl) rfl rfl (x_pr.eq (x_bf (decide_eq_false (fun z => z.1 c_2))))
  · refine R_iload_n dX8_in_5 rfl ?_
    refine R_iload_n dX8_in_6 rfl ?_
    refine R_icmpgt 14 dX8_in_7 rfl (fun c_7 => ?_) (fun c_7 => ?_)
    · refine R_iconst (nI 0) dX8_in_14 rfl ?_
      exact R_zret dX8_in_15 rfl (Or.inl rfl) rfl rfl (x_pr.eq (x_bf (decide_eq_false (fun z => z.2 c_7))))
    · refine R_iconst (nI 1) dX8_in_10 rfl ?_
      refine R_goto 15 dX8_in_11 rfl ?_
      exact R_zret dX8_in_15 rfl (Or.inr rfl) rfl rfl (x_pr.eq (x_bt (decide_eq_true ⟨c_2, c_7⟩)))
theorem x_b_is1 {b : Bool} : x_b b = nI 1 ↔ b = true := by cases b <;> decide
theorem x_b_n1 {b : Bool} : ¬ x_b b = nI 1 ↔ b = false := by cases b <;> decide
theorem n_has {h : xH} {x : Int32} {r : Nat} {b : Bool} (hb : ((x >>> (nI r &&& 31)) &&& nI 1) = x_b b) : x_Met m_X8_has [.int x, .int (nI r)] h (x_pr (x_b b) h) := by

  refine x_Met.of (lo := [some (.int x), some (.int (nI r))]) (by decide) rfl rfl rfl ?_
  refine R_iload_n dX8_has_0 rfl ?_
  refine R_iload_n dX8_has_1 rfl ?_
  refine R_ishr dX8_has_2 ?_
  refine R_iconst (nI 1) dX8_has_3 rfl ?_
  refine R_iand dX8_has_4 ?_
  rw [hb]
  refine R_iconst (nI 1) dX8_has_5 rfl ?_
  refine R_icmpne 13 dX8_has_6 rfl (fun c_6 => ?_) (fun c_6 => ?_)
  · refine R_iconst (nI 0) dX8_has_13 rfl ?_
    exact R_zret dX8_has_14 rfl (Or.inl rfl) rfl rfl (x_pr.eq (x_bf (x_b_n1.mp c_6)))
  · refine R_iconst (nI 1) dX8_has_9 rfl ?_
    refine R_goto 14 dX8_has_10 rfl ?_
    exact R_zret dX8_has_14 rfl (Or.inr rfl) rfl rfl (x_pr.eq (x_bt (x_b_is1.mp c_6)))
theorem n_isRoom {h : xH} {Z : xZ} {k : Nat} {M : Nat → Nat → Int32} {sd : Nat → Int64} {kp t : Nat → Int32} (C : x_ML h Z M sd kp t) (hZ : x_ZB k Z) (hk : k ≤ 50000) (r : Int32) : x_Met m_X8_isRoom [.ref 372, .int r] h (x_pr (x_b (x_has r (z_R Z))) h) := by
  obtain ⟨HM, HZ⟩ := id C
  have mo : h[372]? = some (x_mob (z_X Z).1 (z_f Z) (z_N Z) (z_R Z) (z_D Z) (z_P Z) (z_T Z).1 (z_s Z) (z_S Z).1 (z_B Z).1 t) := HM.1
  obtain ⟨w1, w2, w3, w4, w5, w6, w7, hq, wt, wi, wk, ws, wb, wx⟩ := id HZ
  obtain ⟨q0, q1, q2, q3, q9, q15, q21, q45⟩ := id hq
  have q21z : ∀ r, r < z_R Z → M 8 (21 + r) = q_la (z_Q Z) 0 r := fun r hr => q21 0 r (by decide) hr
  have hB : x_HB (z_N Z) (z_R Z) (z_D Z) (z_P Z) (z_F Z) := hZ.1.hb
  have hQ : x_QB (z_N Z) (z_R Z) (z_P Z) (z_Q Z) := hZ.2.1.1
  obtain ⟨⟨b1, b2, b3, b4⟩, b5, b6, b7⟩ := id hB
  obtain ⟨u1, u2, u3, u4, u5, u6, u7, u8, u9⟩ := id hQ
  have bT : (z_T Z).1 ≤ 30 := hZ.2.2.1.1
  have bs : z_s Z < 2 ^ 31 := hZ.2.2.2.2.1
  have bX : (z_X Z).1 ≤ 240 := hZ.2.2.2.2.2.1.1
  have bXc : ∀ i, i < (z_X Z).1 → (z_X Z).2 i < 256 := hZ.2.2.2.2.2.1.2
  have bS : (z_S Z).1 ≤ 6 := hZ.2.2.2.2.2.2.1.1
  have bSr : ∀ i, i < (z_S Z).1 → (z_S Z).2.1 i < z_R Z := hZ.2.2.2.2.2.2.1.2
  have bB : (z_B Z).1 ≤ 20 := hZ.2.2.2.2.2.2.2.1
  have bBr : ∀ i, i < (z_B Z).1 → (z_B Z).2.1 i < z_R Z := hZ.2.2.2.2.2.2.2.2
  refine x_Met.of (lo := [some (.ref 372), some (.int r)]) (by decide) rfl rfl rfl ?_
  refine R_iload_n dX8_isRoom_0 rfl ?_
  refine R_iconst (nI 0) dX8_isRoom_1 rfl ?_
  refine R_aload_n dX8_isRoom_2 rfl ?_
  refine R_get dX8_isRoom_3 f_X8_82 mo rfl ?_
  refine R_iconst (nI 1) dX8_isRoom_6 rfl ?_
  refine R_isub dX8_isRoom_7 ?_
  refine R_cS3p (N := m_X8_in) dX8_isRoom_8 l_X8_85 i_X8_in (n_in _ _ _) rfl rfl ?_
  exact R_zret dX8_isRoom_11 rfl (x_b01 _) rfl rfl (x_pr.eq (congrArg x_b (x_inR (by omega))))
theorem n_isHeir {h : xH} {Z : xZ} {k : Nat} {M : Nat → Nat → Int32} {sd : Nat → Int64} {kp t : Nat → Int32} (C : x_ML h Z M sd kp t) (hZ : x_ZB k Z) (hk : k ≤ 50000) (r : Int32) : x_Met m_X8_isHeir [.ref 372, .int r] h (x_pr (x_b (x_has r (z_P Z))) h) := by
  obtain ⟨HM, HZ⟩ := id C
  have mo : h[372]? = some (x_mob (z_X Z).1 (z_f Z) (z_N Z) (z_R Z) (z_D Z) (z_P Z) (z_T Z).1 (z_s Z) (z_S Z).1 (z_B Z).1 t) := HM.1
  obtain ⟨w1, w2, w3, w4, w5, w6, w7, hq, wt, wi, wk, ws, wb, wx⟩ := id HZ
  obtain ⟨q0, q1, q2, q3, q9, q15, q21, q45⟩ := id hq
  have q21z : ∀ r, r < z_R Z → M 8 (21 + r) = q_la (z_Q Z) 0 r := fun r hr => q21 0 r (by decide) hr
  have hB : x_HB (z_N Z) (z_R Z) (z_D Z) (z_P Z) (z_F Z) := hZ.1.hb
  have hQ : x_QB (z_N Z) (z_R Z) (z_P Z) (z_Q Z) := hZ.2.1.1
  obtain ⟨⟨b1, b2, b3, b4⟩, b5, b6, b7⟩ := id hB
  obtain ⟨u1, u2, u3, u4, u5, u6, u7, u8, u9⟩ := id hQ
  have bT : (z_T Z).1 ≤ 30 := hZ.2.2.1.1
  have bs : z_s Z < 2 ^ 31 := hZ.2.2.2.2.1
  have bX : (z_X Z).1 ≤ 240 := hZ.2.2.2.2.2.1.1
  have bXc : ∀ i, i < (z_X Z).1 → (z_X Z).2 i < 256 := hZ.2.2.2.2.2.1.2
  have bS : (z_S Z).1 ≤ 6 := hZ.2.2.2.2.2.2.1.1
  have bSr : ∀ i, i < (z_S Z).1 → (z_S Z).2.1 i < z_R Z := hZ.2.2.2.2.2.2.1.2
  have bB : (z_B Z).1 ≤ 20 := hZ.2.2.2.2.2.2.2.1
  have bBr : ∀ i, i < (z_B Z).1 → (z_B Z).2.1 i < z_R Z := hZ.2.2.2.2.2.2.2.2
  refine x_Met.of (lo := [some (.ref 372), some (.int r)]) (by decide) rfl rfl rfl ?_
  refine R_iload_n dX8_isHeir_0 rfl ?_
  refine R_iconst (nI 0) dX8_isHeir_1 rfl ?_
  refine R_aload_n dX8_isHeir_2 rfl ?_
  refine R_get dX8_isHeir_3 f_X8_89 mo rfl ?_
  refine R_iconst (nI 1) dX8_isHeir_6 rfl ?_
  refine R_isub dX8_isHeir_7 ?_
  refine R_cS3p (N := m_X8_in) dX8_isHeir_8 l_X8_85 i_X8_in (n_in _ _ _) rfl rfl ?_
  exact R_zret dX8_isHeir_11 rfl (x_b01 _) rfl rfl (x_pr.eq (congrArg x_b (x_inR (by omega))))
theorem n_isDoor {h : xH} {Z : xZ} {k : Nat} {M : Nat → Nat → Int32} {sd : Nat → Int64} {kp t : Nat → Int32} (C : x_ML h Z M sd kp t) (hZ : x_ZB k Z) (hk : k ≤ 50000) (r : Int32) : x_Met m_X8_isDoor [.ref 372, .int r] h (x_pr (x_b (x_has r (z_D Z))) h) := by
  obtain ⟨HM, HZ⟩ := id C
  have mo : h[372]? = some (x_mob (z_X Z).1 (z_f Z) (z_N Z) (z_R Z) (z_D Z) (z_P Z) (z_T Z).1 (z_s Z) (z_S Z).1 (z_B Z).1 t) := HM.1
  obtain ⟨w1, w2, w3, w4, w5, w6, w7, hq, wt, wi, wk, ws, wb, wx⟩ := id HZ
  obtain ⟨q0, q1, q2, q3, q9, q15, q21, q45⟩ := id hq
  have q21z : ∀ r, r < z_R Z → M 8 (21 + r) = q_la (z_Q Z) 0 r := fun r hr => q21 0 r (by decide) hr
  have hB : x_HB (z_N Z) (z_R Z) (z_D Z) (z_P Z) (z_F Z) := hZ.1.hb
  have hQ : x_QB (z_N Z) (z_R Z) (z_P Z) (z_Q Z) := hZ.2.1.1
  obtain ⟨⟨b1, b2, b3, b4⟩, b5, b6, b7⟩ := id hB
  obtain ⟨u1, u2, u3, u4, u5, u6, u7, u8, u9⟩ := id hQ
  have bT : (z_T Z).1 ≤ 30 := hZ.2.2.1.1
  have bs : z_s Z < 2 ^ 31 := hZ.2.2.2.2.1
  have bX : (z_X Z).1 ≤ 240 := hZ.2.2.2.2.2.1.1
  have bXc : ∀ i, i < (z_X Z).1 → (z_X Z).2 i < 256 := hZ.2.2.2.2.2.1.2
  have bS : (z_S Z).1 ≤ 6 := hZ.2.2.2.2.2.2.1.1
  have bSr : ∀ i, i < (z_S Z).1 → (z_S Z).2.1 i < z_R Z := hZ.2.2.2.2.2.2.1.2
  have bB : (z_B Z).1 ≤ 20 := hZ.2.2.2.2.2.2.2.1
  have bBr : ∀ i, i < (z_B Z).1 → (z_B Z).2.1 i < z_R Z := hZ.2.2.2.2.2.2.2.2
  refine x_Met.of (lo := [some (.ref 372), some (.int r)]) (by decide) rfl rfl rfl ?_
  refine R_iload_n dX8_isDoor_0 rfl ?_
  refine R_iconst (nI 0) dX8_isDoor_1 rfl ?_
  refine R_aload_n dX8_isDoor_2 rfl ?_
  refine R_get dX8_isDoor_3 f_X8_92 mo rfl ?_
  refine R_iconst (nI 1) dX8_isDoor_6 rfl ?_
  refine R_isub dX8_isDoor_7 ?_
  refine R_cS3p (N := m_X8_in) dX8_isDoor_8 l_X8_85 i_X8_in (n_in _ _ _) rfl rfl ?_
  exact R_zret dX8_isDoor_11 rfl (x_b01 _) rfl rfl (x_pr.eq (congrArg x_b (x_inR (by omega))))
theorem n_at {h : xH} (a b c : Nat) : x_Met m_X8_at [.int (nI a), .int (nI b), .int (nI c)] h (x_pr (nI (384 * a + 64 * b + c)) h) := by

  refine x_Met.of (lo := [some (.int (nI a)), some (.int (nI b)), some (.int (nI c))]) (by decide) rfl rfl rfl ?_
  refine R_sipush (nI 384) dX8_at_0 rfl ?_
  refine R_iload_n dX8_at_3 rfl ?_
  refine R_imulN dX8_at_4 ?_
  refine R_bipush (nI 64) dX8_at_5 rfl ?_
  refine R_iload_n dX8_at_7 rfl ?_
  refine R_imulN dX8_at_8 ?_
  refine R_iaddN dX8_at_9 ?_
  refine R_iload_n dX8_at_10 rfl ?_
  refine R_iaddN dX8_at_11 ?_
  exact R_iret dX8_at_12 rfl rfl rfl x_pr.mk
