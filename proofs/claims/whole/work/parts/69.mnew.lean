/-! THE MODEL's manor -/
theorem e_fail_k {c : Bool} {kd pos : Nat} {E : xE} (hk : ¬ kd = 0) (h : (e_failIf c kd pos E).1 = 0) : e_failIf c kd pos E = E := e_failIf_n (e_failIf_fk hk h).1
theorem e_num_m {tx : Nat → Nat} {n lw hi : Nat} {E : xE} (h : (e_num tx n lw hi E).2.1 = 0) : (e_num tx n lw hi E).2.2.1 = E.2.1 := by
  have h1 := e_fail_k (by decide) h
  have h2 : (e_failIf (decide (s_dig tx n (s_skip tx n E.2.2) = 0)) 1 (s_skip tx n E.2.2) (E.1, E.2.1, s_skip tx n E.2.2 + s_dig tx n (s_skip tx n E.2.2))).1 = 0 := (congrArg Prod.fst h1).symm.trans h
  have h3 := e_fail_k (by decide) h2
  show (e_failIf _ 2 _ (e_failIf _ 1 _ (E.1, E.2.1, _))).2.1 = E.2.1
  rw [h1, h3]
theorem e_end_m {tx : Nat → Nat} {n : Nat} {E : xE} (h : (e_end tx n E).1 = 0) : (e_end tx n E).2.1 = E.2.1 := by
  have h1 := e_fail_k (by decide) (show (e_failIf _ 1 _ (E.1, E.2.1, s_skip tx n E.2.2)).1 = 0 from h)
  show (e_failIf _ 1 _ (E.1, E.2.1, s_skip tx n E.2.2)).2.1 = E.2.1
  rw [h1]
theorem e_clause_m {tx : Nat → Nat} {n : Nat} {E : xE} {W : xW} (h : (e_clause tx n E W).1.1 = 0) : (e_clause tx n E W).1.2.1 = E.2.1 := by
  unfold e_clause at h ⊢
  by_cases c1 : ¬ tx E.2.2 = 110 ∧ W.1 = 0
  · rw [if_pos c1] at h; exact absurd h (e_fail_fk (by decide))
  rw [if_neg c1] at h ⊢
  by_cases c2 : tx E.2.2 = 110
  · rw [if_pos c2] at h ⊢
    have a := e_end_m (E := (e_nq tx n E.2.2 (E.1, E.2.1, E.2.2 + 1) W).2) h
    have z := e_end_fk (E := (e_nq tx n E.2.2 (E.1, E.2.1, E.2.2 + 1) W).2) h
    have b : (e_nq tx n E.2.2 (E.1, E.2.1, E.2.2 + 1) W).2.2.1 = (e_failIf (decide (¬ W.1 = 0)) 3 E.2.2 (E.1, E.2.1, E.2.2 + 1)).2.1 := e_num_m z
    have z2 : (e_failIf (decide (¬ W.1 = 0)) 3 E.2.2 (E.1, E.2.1, E.2.2 + 1)).1 = 0 := e_num_fk z
    rw [e_fail_k (by decide) z2] at b
    exact a.trans b
  rw [if_neg c2] at h ⊢
  by_cases c3 : tx E.2.2 = 114
  · rw [if_pos c3] at h ⊢
    have a := e_end_m (E := (e_rq tx n E.2.2 (E.1, E.2.1, E.2.2 + 1) W).2) h
    have z := e_end_fk (E := (e_rq tx n E.2.2 (E.1, E.2.1, E.2.2 + 1) W).2) h
    have b : (e_rq tx n E.2.2 (E.1, E.2.1, E.2.2 + 1) W).2.2.1 = (e_failIf (decide (6 ≤ W.2.1)) 3 E.2.2 (E.1, E.2.1, E.2.2 + 1)).2.1 := e_num_m z
    have z2 : (e_failIf (decide (6 ≤ W.2.1)) 3 E.2.2 (E.1, E.2.1, E.2.2 + 1)).1 = 0 := e_num_fk z
    rw [e_fail_k (by decide) z2] at b
    exact a.trans b
  rw [if_neg c3] at h ⊢
  by_cases c4 : tx E.2.2 = 100
  · rw [if_pos c4] at h ⊢
    have a := e_end_m (E := (e_dqt tx n E.2.2 (E.1, E.2.1, E.2.2 + 1) W).2) h
    have z := e_end_fk (E := (e_dqt tx n E.2.2 (E.1, E.2.1, E.2.2 + 1) W).2) h
    have b : (e_dqt tx n E.2.2 (E.1, E.2.1, E.2.2 + 1) W).2.2.1 = (e_failIf (decide ((e_dqa tx n E.2.2 (E.1, E.2.1, E.2.2 + 1) W).1 = (e_dqb tx n E.2.2 (E.1, E.2.1, E.2.2 + 1) W).1)) 4 (e_skip tx n (e_dqa tx n E.2.2 (E.1, E.2.1, E.2.2 + 1) W).2).2.2 (e_dqb tx n E.2.2 (E.1, E.2.1, E.2.2 + 1) W).2).2.1 := e_num_m z
    have z2 : (e_failIf (decide ((e_dqa tx n E.2.2 (E.1, E.2.1, E.2.2 + 1) W).1 = (e_dqb tx n E.2.2 (E.1, E.2.1, E.2.2 + 1) W).1)) 4 (e_skip tx n (e_dqa tx n E.2.2 (E.1, E.2.1, E.2.2 + 1) W).2).2.2 (e_dqb tx n E.2.2 (E.1, E.2.1, E.2.2 + 1) W).2).1 = 0 := e_num_fk z
    rw [e_fail_k (by decide) z2] at b
    have z3 : (e_dqb tx n E.2.2 (E.1, E.2.1, E.2.2 + 1) W).2.1 = 0 := (e_failIf_fk (by decide) z2).2
    have b3 : (e_dqb tx n E.2.2 (E.1, E.2.1, E.2.2 + 1) W).2.2.1 = (e_dqa tx n E.2.2 (E.1, E.2.1, E.2.2 + 1) W).2.2.1 := by rw [e_dqb_eq] at z3 ⊢; exact e_num_m z3
    have z4 : (e_dqa tx n E.2.2 (E.1, E.2.1, E.2.2 + 1) W).2.1 = 0 := by rw [e_dqb_eq] at z3; exact e_num_fk z3
    have b4 : (e_dqa tx n E.2.2 (E.1, E.2.1, E.2.2 + 1) W).2.2.1 = (e_failIf (decide (8 ≤ W.2.2.1)) 3 E.2.2 (E.1, E.2.1, E.2.2 + 1)).2.1 := e_num_m z4
    have z5 : (e_failIf (decide (8 ≤ W.2.2.1)) 3 E.2.2 (E.1, E.2.1, E.2.2 + 1)).1 = 0 := e_num_fk z4
    rw [e_fail_k (by decide) z5] at b4
    exact a.trans (b.trans (b3.trans b4))
  rw [if_neg c4] at h ⊢
  by_cases c5 : tx E.2.2 = 112
  · rw [if_pos c5] at h ⊢
    have a := e_end_m (E := (e_hqr tx n E.2.2 (E.1, E.2.1, E.2.2 + 1) W).2) h
    have z := e_end_fk (E := (e_hqr tx n E.2.2 (E.1, E.2.1, E.2.2 + 1) W).2) h
    have er : (e_hqr tx n E.2.2 (E.1, E.2.1, E.2.2 + 1) W) = e_num tx n 0 W.2.1 (e_hqv tx n E.2.2 (E.1, E.2.1, E.2.2 + 1) W).2 := by unfold e_hqr; rfl
    have ev : (e_hqv tx n E.2.2 (E.1, E.2.1, E.2.2 + 1) W) = e_num tx n 1 21 (e_hqk tx n E.2.2 (E.1, E.2.1, E.2.2 + 1) W).2 := by unfold e_hqv; rfl
    have ek : (e_hqk tx n E.2.2 (E.1, E.2.1, E.2.2 + 1) W) = e_num tx n 0 5 (e_failIf (decide (6 ≤ W.2.2.2.1)) 3 E.2.2 (E.1, E.2.1, E.2.2 + 1)) := by unfold e_hqk; rfl
    rw [ek] at ev
    rw [ev] at er
    rw [er] at z a
    have b := e_num_m z
    have z2 := e_num_fk z
    have b2 := e_num_m z2
    have z3 := e_num_fk z2
    have b3 := e_num_m z3
    have z4 := e_num_fk z3
    show (e_end tx n (e_hqr tx n E.2.2 (E.1, E.2.1, E.2.2 + 1) W).2).2.1 = _
    rw [er, a, b, b2, b3, e_fail_k (by decide) z4]
  rw [if_neg c5] at h; exact absurd h (e_fail_fk (by decide))
theorem e_loop_m {tx : Nat → Nat} {n : Nat} : ∀ (k : Nat) (E : xE) (W : xW), (E.1 = 0 → E.2.1 = -1) → (e_loop tx n k E W).1.1 = 0 → (e_loop tx n k E W).1.2.1 = -1
  | 0, E, W, hE, h => hE h
  | k + 1, E, W, hE, h => by
    rw [e_loop] at h ⊢
    by_cases c : E.2.2 < n ∧ E.1 = 0
    · rw [if_pos c] at h ⊢
      exact e_loop_m k _ _ (fun z => (e_clause_m z).trans (hE c.2)) h
    · rw [if_neg c] at h ⊢; exact hE h
theorem z_man_m {Z : xZ} {F : xF} (h : (z_man Z F).1.1 = 0) : (z_man Z F).1.2.1 = -1 := e_loop_m 240 _ _ (fun _ => rfl) h
theorem x_MR.br {g g' : xH} {ob : xC} {M : Nat → Nat → Int32} {sd : Nat → Int64} {kp : Nat → Int32} (HM : x_MR g ob M sd kp) {i j n : Nat} (hi : i < 22) (h11 : ¬ i = 11) (h12 : ¬ i = 12) (e : g' = g.set (373 + i) (x_ia (m_len i) (va_cpy (M j) (M i) 0 0 n))) : ∃ M', x_MR g' ob M' sd kp ∧ (∀ x, ¬ x = i → M' x = M x) ∧ ∀ d, d < n → M' i d = M j d := by
  subst e
  refine ⟨_, HM.arr hi h11 h12 _, fun x hx => s_arr_ne hx, fun d hd => ?_⟩
  rw [s_arr_eq]
  unfold va_cpy
  rw [if_pos (by omega)]
  congr 1
  omega
theorem x_MR.pt {h : xH} {n c s sn bn N R D P : Nat} {fa : Int32} {a w rh rr rd rp : Nat} {wa : Int32} {M : Nat → Nat → Int32} {sd : Nat → Int64} {kp : Nat → Int32} (H : x_MR h (.inr (8, [.ref 373, .int (nI n), .int fa, .int (nI N), .int (nI R), .int (nI D), .int (nI P), .ref 374, .ref 375, .ref 376, .ref 377, .ref 378, .ref 379, .ref 380, .ref 381, .ref 382, .int (nI c), .long (lN s), .ref 383, .ref 384, .ref 385, .ref 386, .int (nI sn), .ref 387, .int (nI bn), .int (nI a), .int (nI w), .int wa, .int (nI rh), .int (nI rr), .int (nI rd), .int (nI rp), .ref 388, .ref 389, .ref 390, .ref 391, .ref 392, .ref 393, .ref 394])) M sd kp) : x_MR h (x_mob n fa N R D P c s sn bn (x_pt a w wa rh rr rd rp)) M sd kp := H
theorem x_MR.tp {h : xH} {n c s sn bn N R D P : Nat} {fa : Int32} {a w rh rr rd rp : Nat} {wa : Int32} {M : Nat → Nat → Int32} {sd : Nat → Int64} {kp : Nat → Int32} (H : x_MR h (x_mob n fa N R D P c s sn bn (x_pt a w wa rh rr rd rp)) M sd kp) : x_MR h (.inr (8, [.ref 373, .int (nI n), .int fa, .int (nI N), .int (nI R), .int (nI D), .int (nI P), .ref 374, .ref 375, .ref 376, .ref 377, .ref 378, .ref 379, .ref 380, .ref 381, .ref 382, .int (nI c), .long (lN s), .ref 383, .ref 384, .ref 385, .ref 386, .int (nI sn), .ref 387, .int (nI bn), .int (nI a), .int (nI w), .int wa, .int (nI rh), .int (nI rr), .int (nI rd), .int (nI rp), .ref 388, .ref 389, .ref 390, .ref 391, .ref 392, .ref 393, .ref 394])) M sd kp := H
theorem n_manor {h : xH} {Z : xZ} {k : Nat} {M : Nat → Nat → Int32} {sd : Nat → Int64} {kp t : Nat → Int32} (C : x_ML h Z M sd kp t) (hZ : x_ZB k Z) (hk : k ≤ 50000) {r : Int32} {Z' : xZ} (hr : x_manR Z r Z') : x_Met m_X8_manor [.ref 372] h (x_KD h (r, Z')) := by
  obtain ⟨HM, HZ⟩ := id C
  have bX : (z_X Z).1 ≤ 240 := hZ.2.2.2.2.2.1.1
  have bXc : ∀ i, i < (z_X Z).1 → (z_X Z).2 i < 256 := hZ.2.2.2.2.2.1.2
  have mo : h[372]? = some (x_mob (z_X Z).1 (z_f Z) (z_N Z) (z_R Z) (z_D Z) (z_P Z) (z_T Z).1 (z_s Z) (z_S Z).1 (z_B Z).1 t) := HM.1
  obtain ⟨F, hr⟩ := hr
  refine x_Met.of (lo := [some (.ref 372)]) (by decide) rfl rfl rfl ?_
  refine R_aload_n dX8_manor_0 rfl ?_
  refine R_cV0v (N := m_X8_readManor) dX8_manor_1 l_X8_151 i_X8_readManor HM.1 (n_readManor C bX bXc F) rfl rfl (fun h1 q_1 => ?_)
  obtain ⟨M1, a, w, wa, rh, rr, rd, rp, C1, PR, FD0⟩ := q_1
  have HM0 : x_MR h1 (.inr (8, [.ref 373, .int (nI ((z_X Z).1)), .int ((z_f Z)), .int (nI ((z_N Z))), .int (nI ((z_R Z))), .int (nI ((z_D Z))), .int (nI ((z_P Z))), .ref 374, .ref 375, .ref 376, .ref 377, .ref 378, .ref 379, .ref 380, .ref 381, .ref 382, .int (nI ((z_T Z).1)), .long (lN ((z_s Z))), .ref 383, .ref 384, .ref 385, .ref 386, .int (nI ((z_S Z).1)), .ref 387, .int (nI ((z_B Z).1)), .int (nI a), .int (nI w), .int wa, .int (nI rh), .int (nI rr), .int (nI rd), .int (nI rp), .ref 388, .ref 389, .ref 390, .ref 391, .ref 392, .ref 393, .ref 394])) M1 sd kp := C1.1.tp
  have HM := HM0
  have PR : x_PR (z_man Z F) M1 a w wa rh rr rd rp := PR
  have hw9 : w ≤ 100 := by
    by_cases z : (z_man Z F).1.1 = 0
    · have := (PR.1.1 z).2; omega
    · have := (PR.1.2.1 z).1; have := PR.1.2.2.2; omega
  have hW : x_WB (z_man Z F).2 := e_into_WB _ _ _
  refine R_aload_n dX8_manor_4 rfl ?_
  refine R_iconst (nI 0) dX8_manor_5 rfl ?_
  refine R_put dX8_manor_6 f_X8_96 HM.1 (Nat.le_of_ble_eq_true rfl) (fun _ => rfl) (fun _ => rfl) ?_
  simp only [List.set_set, List.set_cons_succ, List.set_cons_zero]
  have HM := HM0.obj (.inr (8, [.ref 373, .int (nI 0), .int ((z_f Z)), .int (nI ((z_N Z))), .int (nI ((z_R Z))), .int (nI ((z_D Z))), .int (nI ((z_P Z))), .ref 374, .ref 375, .ref 376, .ref 377, .ref 378, .ref 379, .ref 380, .ref 381, .ref 382, .int (nI ((z_T Z).1)), .long (lN ((z_s Z))), .ref 383, .ref 384, .ref 385, .ref 386, .int (nI ((z_S Z).1)), .ref 387, .int (nI ((z_B Z).1)), .int (nI a), .int (nI w), .int wa, .int (nI rh), .int (nI rr), .int (nI rd), .int (nI rp), .ref 388, .ref 389, .ref 390, .ref 391, .ref 392, .ref 393, .ref 394]))
  have FD := FD0.set (c := 372) (.inr (8, [.ref 373, .int (nI 0), .int ((z_f Z)), .int (nI ((z_N Z))), .int (nI ((z_R Z))), .int (nI ((z_D Z))), .int (nI ((z_P Z))), .ref 374, .ref 375, .ref 376, .ref 377, .ref 378, .ref 379, .ref 380, .ref 381, .ref 382, .int (nI ((z_T Z).1)), .long (lN ((z_s Z))), .ref 383, .ref 384, .ref 385, .ref 386, .int (nI ((z_S Z).1)), .ref 387, .int (nI ((z_B Z).1)), .int (nI a), .int (nI w), .int wa, .int (nI rh), .int (nI rr), .int (nI rd), .int (nI rp), .ref 388, .ref 389, .ref 390, .ref 391, .ref 392, .ref 393, .ref 394])) (by omega)
  refine R_aload_n dX8_manor_9 rfl ?_
  refine R_get dX8_manor_10 f_X8_107 HM.1 rfl ?_
  refine R_ifeqN 32 dX8_manor_13 rfl (by omega) (fun c_13 => ?_) (fun c_13 => ?_)
  · have h0 : (z_man Z F).1.1 = 0 := Classical.byContradiction (fun z => z ((PR.1.2.1 z).1.symm.trans c_13))
    obtain ⟨-, er, F', f1, f2, eZ⟩ := hr.resolve_left (fun hz => hz.1 h0)
    have em := z_man_m h0
    obtain ⟨p1, p2, p3, p4, pd, pp, pr, pz, pm⟩ := PR.2 h0
    obtain ⟨⟨b1, b2, b3, b4⟩, b5, b6, b7, b8⟩ := id hW
    subst p1 p2 p3 p4 c_13
    have hd6 : ∀ d, d < (z_man Z F).2.2.2.1 → (z_man Z F).2.2.2.2.2 1 d < 6 ∧ (z_man Z F).2.2.2.2.2 2 d < 6 ∧ ¬ (z_man Z F).2.2.2.2.2 1 d = (z_man Z F).2.2.2.2.2 2 d ∧ (z_man Z F).2.2.2.2.2 3 d ≤ 9 := fun d hd => by have := b5 d hd; omega
    refine R_aload_n dX8_manor_32 rfl ?_
    refine R_iconst (-1) dX8_manor_33 rfl ?_
    refine R_put dX8_manor_34 f_X8_13 HM.1 (Nat.le_of_ble_eq_true rfl) (fun _ => rfl) (fun _ => rfl) ?_
    simp only [List.set_set, List.set_cons_succ, List.set_cons_zero]
    have HM := HM0.obj (.inr (8, [.ref 373, .int (nI 0), .int ((-1)), .int (nI ((z_N Z))), .int (nI ((z_R Z))), .int (nI ((z_D Z))), .int (nI ((z_P Z))), .ref 374, .ref 375, .ref 376, .ref 377, .ref 378, .ref 379, .ref 380, .ref 381, .ref 382, .int (nI ((z_T Z).1)), .long (lN ((z_s Z))), .ref 383, .ref 384, .ref 385, .ref 386, .int (nI ((z_S Z).1)), .ref 387, .int (nI ((z_B Z).1)), .int (nI a), .int (nI 0), .int wa, .int (nI (z_man Z F).2.1), .int (nI (z_man Z F).2.2.1), .int (nI (z_man Z F).2.2.2.1), .int (nI (z_man Z F).2.2.2.2.1), .ref 388, .ref 389, .ref 390, .ref 391, .ref 392, .ref 393, .ref 394]))
    have FD := FD0.set (c := 372) (.inr (8, [.ref 373, .int (nI 0), .int ((-1)), .int (nI ((z_N Z))), .int (nI ((z_R Z))), .int (nI ((z_D Z))), .int (nI ((z_P Z))), .ref 374, .ref 375, .ref 376, .ref 377, .ref 378, .ref 379, .ref 380, .ref 381, .ref 382, .int (nI ((z_T Z).1)), .long (lN ((z_s Z))), .ref 383, .ref 384, .ref 385, .ref 386, .int (nI ((z_S Z).1)), .ref 387, .int (nI ((z_B Z).1)), .int (nI a), .int (nI 0), .int wa, .int (nI (z_man Z F).2.1), .int (nI (z_man Z F).2.2.1), .int (nI (z_man Z F).2.2.2.1), .int (nI (z_man Z F).2.2.2.2.1), .ref 388, .ref 389, .ref 390, .ref 391, .ref 392, .ref 393, .ref 394])) (by omega)
    refine R_aload_n dX8_manor_37 rfl ?_
    refine R_aload_n dX8_manor_38 rfl ?_
    refine R_get dX8_manor_39 f_X8_136 HM.1 rfl ?_
    refine R_put dX8_manor_42 f_X8_154 HM.1 (Nat.le_of_ble_eq_true rfl) (fun _ => rfl) (fun _ => rfl) ?_
    simp only [List.set_set, List.set_cons_succ, List.set_cons_zero]
    have HM := HM0.obj (.inr (8, [.ref 373, .int (nI 0), .int ((-1)), .int (nI ((z_man Z F).2.1)), .int (nI ((z_R Z))), .int (nI ((z_D Z))), .int (nI ((z_P Z))), .ref 374, .ref 375, .ref 376, .ref 377, .ref 378, .ref 379, .ref 380, .ref 381, .ref 382, .int (nI ((z_T Z).1)), .long (lN ((z_s Z))), .ref 383, .ref 384, .ref 385, .ref 386, .int (nI ((z_S Z).1)), .ref 387, .int (nI ((z_B Z).1)), .int (nI a), .int (nI 0), .int wa, .int (nI (z_man Z F).2.1), .int (nI (z_man Z F).2.2.1), .int (nI (z_man Z F).2.2.2.1), .int (nI (z_man Z F).2.2.2.2.1), .ref 388, .ref 389, .ref 390, .ref 391, .ref 392, .ref 393, .ref 394]))
    have FD := FD0.set (c := 372) (.inr (8, [.ref 373, .int (nI 0), .int ((-1)), .int (nI ((z_man Z F).2.1)), .int (nI ((z_R Z))), .int (nI ((z_D Z))), .int (nI ((z_P Z))), .ref 374, .ref 375, .ref 376, .ref 377, .ref 378, .ref 379, .ref 380, .ref 381, .ref 382, .int (nI ((z_T Z).1)), .long (lN ((z_s Z))), .ref 383, .ref 384, .ref 385, .ref 386, .int (nI ((z_S Z).1)), .ref 387, .int (nI ((z_B Z).1)), .int (nI a), .int (nI 0), .int wa, .int (nI (z_man Z F).2.1), .int (nI (z_man Z F).2.2.1), .int (nI (z_man Z F).2.2.2.1), .int (nI (z_man Z F).2.2.2.2.1), .ref 388, .ref 389, .ref 390, .ref 391, .ref 392, .ref 393, .ref 394])) (by omega)
    refine R_aload_n dX8_manor_45 rfl ?_
    refine R_aload_n dX8_manor_46 rfl ?_
    refine R_get dX8_manor_47 f_X8_120 HM.1 rfl ?_
    refine R_put dX8_manor_50 f_X8_82 HM.1 (Nat.le_of_ble_eq_true rfl) (fun _ => rfl) (fun _ => rfl) ?_
    simp only [List.set_set, List.set_cons_succ, List.set_cons_zero]
    have HM := HM0.obj (.inr (8, [.ref 373, .int (nI 0), .int ((-1)), .int (nI ((z_man Z F).2.1)), .int (nI ((z_man Z F).2.2.1)), .int (nI ((z_D Z))), .int (nI ((z_P Z))), .ref 374, .ref 375, .ref 376, .ref 377, .ref 378, .ref 379, .ref 380, .ref 381, .ref 382, .int (nI ((z_T Z).1)), .long (lN ((z_s Z))), .ref 383, .ref 384, .ref 385, .ref 386, .int (nI ((z_S Z).1)), .ref 387, .int (nI ((z_B Z).1)), .int (nI a), .int (nI 0), .int wa, .int (nI (z_man Z F).2.1), .int (nI (z_man Z F).2.2.1), .int (nI (z_man Z F).2.2.2.1), .int (nI (z_man Z F).2.2.2.2.1), .ref 388, .ref 389, .ref 390, .ref 391, .ref 392, .ref 393, .ref 394]))
    have FD := FD0.set (c := 372) (.inr (8, [.ref 373, .int (nI 0), .int ((-1)), .int (nI ((z_man Z F).2.1)), .int (nI ((z_man Z F).2.2.1)), .int (nI ((z_D Z))), .int (nI ((z_P Z))), .ref 374, .ref 375, .ref 376, .ref 377, .ref 378, .ref 379, .ref 380, .ref 381, .ref 382, .int (nI ((z_T Z).1)), .long (lN ((z_s Z))), .ref 383, .ref 384, .ref 385, .ref 386, .int (nI ((z_S Z).1)), .ref 387, .int (nI ((z_B Z).1)), .int (nI a), .int (nI 0), .int wa, .int (nI (z_man Z F).2.1), .int (nI (z_man Z F).2.2.1), .int (nI (z_man Z F).2.2.2.1), .int (nI (z_man Z F).2.2.2.2.1), .ref 388, .ref 389, .ref 390, .ref 391, .ref 392, .ref 393, .ref 394])) (by omega)
    refine R_aload_n dX8_manor_53 rfl ?_
    refine R_aload_n dX8_manor_54 rfl ?_
    refine R_get dX8_manor_55 f_X8_130 HM.1 rfl ?_
    refine R_put dX8_manor_58 f_X8_92 HM.1 (Nat.le_of_ble_eq_true rfl) (fun _ => rfl) (fun _ => rfl) ?_
    simp only [List.set_set, List.set_cons_succ, List.set_cons_zero]
    have HM := HM0.obj (.inr (8, [.ref 373, .int (nI 0), .int ((-1)), .int (nI ((z_man Z F).2.1)), .int (nI ((z_man Z F).2.2.1)), .int (nI ((z_man Z F).2.2.2.1)), .int (nI ((z_P Z))), .ref 374, .ref 375, .ref 376, .ref 377, .ref 378, .ref 379, .ref 380, .ref 381, .ref 382, .int (nI ((z_T Z).1)), .long (lN ((z_s Z))), .ref 383, .ref 384, .ref 385, .ref 386, .int (nI ((z_S Z).1)), .ref 387, .int (nI ((z_B Z).1)), .int (nI a), .int (nI 0), .int wa, .int (nI (z_man Z F).2.1), .int (nI (z_man Z F).2.2.1), .int (nI (z_man Z F).2.2.2.1), .int (nI (z_man Z F).2.2.2.2.1), .ref 388, .ref 389, .ref 390, .ref 391, .ref 392, .ref 393, .ref 394]))
    have FD := FD0.set (c := 372) (.inr (8, [.ref 373, .int (nI 0), .int ((-1)), .int (nI ((z_man Z F).2.1)), .int (nI ((z_man Z F).2.2.1)), .int (nI ((z_man Z F).2.2.2.1)), .int (nI ((z_P Z))), .ref 374, .ref 375, .ref 376, .ref 377, .ref 378, .ref 379, .ref 380, .ref 381, .ref 382, .int (nI ((z_T Z).1)), .long (lN ((z_s Z))), .ref 383, .ref 384, .ref 385, .ref 386, .int (nI ((z_S Z).1)), .ref 387, .int (nI ((z_B Z).1)), .int (nI a), .int (nI 0), .int wa, .int (nI (z_man Z F).2.1), .int (nI (z_man Z F).2.2.1), .int (nI (z_man Z F).2.2.2.1), .int (nI (z_man Z F).2.2.2.2.1), .ref 388, .ref 389, .ref 390, .ref 391, .ref 392, .ref 393, .ref 394])) (by omega)
    refine R_aload_n dX8_manor_61 rfl ?_
    refine R_aload_n dX8_manor_62 rfl ?_
    refine R_get dX8_manor_63 f_X8_133 HM.1 rfl ?_
    refine R_put dX8_manor_66 f_X8_89 HM.1 (Nat.le_of_ble_eq_true rfl) (fun _ => rfl) (fun _ => rfl) ?_
    simp only [List.set_set, List.set_cons_succ, List.set_cons_zero]
    have HM := HM0.obj (.inr (8, [.ref 373, .int (nI 0), .int ((-1)), .int (nI ((z_man Z F).2.1)), .int (nI ((z_man Z F).2.2.1)), .int (nI ((z_man Z F).2.2.2.1)), .int (nI ((z_man Z F).2.2.2.2.1)), .ref 374, .ref 375, .ref 376, .ref 377, .ref 378, .ref 379, .ref 380, .ref 381, .ref 382, .int (nI ((z_T Z).1)), .long (lN ((z_s Z))), .ref 383, .ref 384, .ref 385, .ref 386, .int (nI ((z_S Z).1)), .ref 387, .int (nI ((z_B Z).1)), .int (nI a), .int (nI 0), .int wa, .int (nI (z_man Z F).2.1), .int (nI (z_man Z F).2.2.1), .int (nI (z_man Z F).2.2.2.1), .int (nI (z_man Z F).2.2.2.2.1), .ref 388, .ref 389, .ref 390, .ref 391, .ref 392, .ref 393, .ref 394]))
    have FD := FD0.set (c := 372) (.inr (8, [.ref 373, .int (nI 0), .int ((-1)), .int (nI ((z_man Z F).2.1)), .int (nI ((z_man Z F).2.2.1)), .int (nI ((z_man Z F).2.2.2.1)), .int (nI ((z_man Z F).2.2.2.2.1)), .ref 374, .ref 375, .ref 376, .ref 377, .ref 378, .ref 379, .ref 380, .ref 381, .ref 382, .int (nI ((z_T Z).1)), .long (lN ((z_s Z))), .ref 383, .ref 384, .ref 385, .ref 386, .int (nI ((z_S Z).1)), .ref 387, .int (nI ((z_B Z).1)), .int (nI a), .int (nI 0), .int wa, .int (nI (z_man Z F).2.1), .int (nI (z_man Z F).2.2.1), .int (nI (z_man Z F).2.2.2.1), .int (nI (z_man Z F).2.2.2.2.1), .ref 388, .ref 389, .ref 390, .ref 391, .ref 392, .ref 393, .ref 394])) (by omega)
    refine R_aload_n dX8_manor_69 rfl ?_
    refine R_get dX8_manor_70 f_X8_61 HM.1 rfl ?_
    refine R_iconst (nI 0) dX8_manor_73 rfl ?_
    refine R_aload_n dX8_manor_74 rfl ?_
    refine R_get dX8_manor_75 f_X8_17 HM.1 rfl ?_
    refine R_iconst (nI 0) dX8_manor_78 rfl ?_
    refine R_bipush (nI 8) dX8_manor_79 rfl ?_
    refine R_cS5v (N := m_X8_bring) dX8_manor_81 l_X8_157 i_X8_bring (n_bring (na := 8) (nb := 8) (f := M1 15) (g := M1 1) (HM.2 15 (by decide)) (HM.2 1 (by decide)) (by decide) (by omega) (by omega) (by omega) (by omega) (by decide) (by decide)) rfl rfl (fun h81 q_81 => ?_)
    have FD : x_fD h h81 := by rw [q_81]; exact FD.set (c := 374) _ (by omega)
    obtain ⟨M81, HM, k81, c81⟩ := HM.br (i := 1) (j := 15) (n := 8) (by decide) (by decide) (by decide) q_81
    refine R_aload_n dX8_manor_84 rfl ?_
    refine R_get dX8_manor_85 f_X8_64 HM.1 rfl ?_
    refine R_iconst (nI 0) dX8_manor_88 rfl ?_
    refine R_aload_n dX8_manor_89 rfl ?_
    refine R_get dX8_manor_90 f_X8_20 HM.1 rfl ?_
    refine R_iconst (nI 0) dX8_manor_93 rfl ?_
    refine R_bipush (nI 8) dX8_manor_94 rfl ?_
    refine R_cS5v (N := m_X8_bring) dX8_manor_96 l_X8_157 i_X8_bring (n_bring (na := 8) (nb := 8) (f := M81 16) (g := M81 2) (HM.2 16 (by decide)) (HM.2 2 (by decide)) (by decide) (by omega) (by omega) (by omega) (by omega) (by decide) (by decide)) rfl rfl (fun h96 q_96 => ?_)
    have FD : x_fD h h96 := by rw [q_96]; exact FD.set (c := 375) _ (by omega)
    obtain ⟨M96, HM, k96, c96⟩ := HM.br (i := 2) (j := 16) (n := 8) (by decide) (by decide) (by decide) q_96
    refine R_aload_n dX8_manor_99 rfl ?_
    refine R_get dX8_manor_100 f_X8_67 HM.1 rfl ?_
    refine R_iconst (nI 0) dX8_manor_103 rfl ?_
    refine R_aload_n dX8_manor_104 rfl ?_
    refine R_get dX8_manor_105 f_X8_23 HM.1 rfl ?_
    refine R_iconst (nI 0) dX8_manor_108 rfl ?_
    refine R_bipush (nI 8) dX8_manor_109 rfl ?_
    refine R_cS5v (N := m_X8_bring) dX8_manor_111 l_X8_157 i_X8_bring (n_bring (na := 8) (nb := 8) (f := M96 17) (g := M96 3) (HM.2 17 (by decide)) (HM.2 3 (by decide)) (by decide) (by omega) (by omega) (by omega) (by omega) (by decide) (by decide)) rfl rfl (fun h111 q_111 => ?_)
    have FD : x_fD h h111 := by rw [q_111]; exact FD.set (c := 376) _ (by omega)
    obtain ⟨M111, HM, k111, c111⟩ := HM.br (i := 3) (j := 17) (n := 8) (by decide) (by decide) (by decide) q_111
    refine R_aload_n dX8_manor_114 rfl ?_
    refine R_get dX8_manor_115 f_X8_70 HM.1 rfl ?_
    refine R_iconst (nI 0) dX8_manor_118 rfl ?_
    refine R_aload_n dX8_manor_119 rfl ?_
    refine R_get dX8_manor_120 f_X8_26 HM.1 rfl ?_
    refine R_iconst (nI 0) dX8_manor_123 rfl ?_
    refine R_bipush (nI 6) dX8_manor_124 rfl ?_
    refine R_cS5v (N := m_X8_bring) dX8_manor_126 l_X8_157 i_X8_bring (n_bring (na := 6) (nb := 6) (f := M111 18) (g := M111 4) (HM.2 18 (by decide)) (HM.2 4 (by decide)) (by decide) (by omega) (by omega) (by omega) (by omega) (by decide) (by decide)) rfl rfl (fun h126 q_126 => ?_)
    have FD : x_fD h h126 := by rw [q_126]; exact FD.set (c := 377) _ (by omega)
    obtain ⟨M126, HM, k126, c126⟩ := HM.br (i := 4) (j := 18) (n := 6) (by decide) (by decide) (by decide) q_126
    refine R_aload_n dX8_manor_129 rfl ?_
    refine R_get dX8_manor_130 f_X8_73 HM.1 rfl ?_
    refine R_iconst (nI 0) dX8_manor_133 rfl ?_
    refine R_aload_n dX8_manor_134 rfl ?_
    refine R_get dX8_manor_135 f_X8_29 HM.1 rfl ?_
    refine R_iconst (nI 0) dX8_manor_138 rfl ?_
    refine R_bipush (nI 6) dX8_manor_139 rfl ?_
    refine R_cS5v (N := m_X8_bring) dX8_manor_141 l_X8_157 i_X8_bring (n_bring (na := 6) (nb := 6) (f := M126 19) (g := M126 5) (HM.2 19 (by decide)) (HM.2 5 (by decide)) (by decide) (by omega) (by omega) (by omega) (by omega) (by decide) (by decide)) rfl rfl (fun h141 q_141 => ?_)
    have FD : x_fD h h141 := by rw [q_141]; exact FD.set (c := 378) _ (by omega)
    obtain ⟨M141, HM, k141, c141⟩ := HM.br (i := 5) (j := 19) (n := 6) (by decide) (by decide) (by decide) q_141
    refine R_aload_n dX8_manor_144 rfl ?_
    refine R_get dX8_manor_145 f_X8_76 HM.1 rfl ?_
    refine R_iconst (nI 0) dX8_manor_148 rfl ?_
    refine R_aload_n dX8_manor_149 rfl ?_
    refine R_get dX8_manor_150 f_X8_38 HM.1 rfl ?_
    refine R_iconst (nI 0) dX8_manor_153 rfl ?_
    refine R_bipush (nI 51) dX8_manor_154 rfl ?_
    refine R_cS5v (N := m_X8_bring) dX8_manor_156 l_X8_157 i_X8_bring (n_bring (na := 51) (nb := 51) (f := M141 20) (g := M141 8) (HM.2 20 (by decide)) (HM.2 8 (by decide)) (by decide) (by omega) (by omega) (by omega) (by omega) (by decide) (by decide)) rfl rfl (fun h156 q_156 => ?_)
    have FD : x_fD h h156 := by rw [q_156]; exact FD.set (c := 381) _ (by omega)
    obtain ⟨M156, HM, k156, c156⟩ := HM.br (i := 8) (j := 20) (n := 51) (by decide) (by decide) (by decide) q_156
    refine R_aload_n dX8_manor_159 rfl ?_
    have E1 : ∀ d, d < 8 → M156 1 d = M1 15 d := fun d hd => ((congrFun ((k156 1 (by decide)).trans ((k141 1 (by decide)).trans ((k126 1 (by decide)).trans ((k111 1 (by decide)).trans ((k96 1 (by decide))))))) d).trans ((c81 d (by omega)).trans (congrFun rfl d)))
    have E2 : ∀ d, d < 8 → M156 2 d = M1 16 d := fun d hd => ((congrFun ((k156 2 (by decide)).trans ((k141 2 (by decide)).trans ((k126 2 (by decide)).trans ((k111 2 (by decide)))))) d).trans ((c96 d (by omega)).trans (congrFun ((k81 16 (by decide))) d)))
    have E3 : ∀ d, d < 8 → M156 3 d = M1 17 d := fun d hd => ((congrFun ((k156 3 (by decide)).trans ((k141 3 (by decide)).trans ((k126 3 (by decide))))) d).trans ((c111 d (by omega)).trans (congrFun ((k96 17 (by decide)).trans ((k81 17 (by decide)))) d)))
    have E4 : ∀ d, d < 6 → M156 4 d = M1 18 d := fun d hd => ((congrFun ((k156 4 (by decide)).trans ((k141 4 (by decide)))) d).trans ((c126 d (by omega)).trans (congrFun ((k111 18 (by decide)).trans ((k96 18 (by decide)).trans ((k81 18 (by decide))))) d)))
    have E5 : ∀ d, d < 6 → M156 5 d = M1 19 d := fun d hd => ((congrFun ((k156 5 (by decide))) d).trans ((c141 d (by omega)).trans (congrFun ((k126 19 (by decide)).trans ((k111 19 (by decide)).trans ((k96 19 (by decide)).trans ((k81 19 (by decide)))))) d)))
    have E8 : ∀ d, d < 51 → M156 8 d = M1 20 d := fun d hd => ((congrFun rfl d).trans ((c156 d (by omega)).trans (congrFun ((k141 20 (by decide)).trans ((k126 20 (by decide)).trans ((k111 20 (by decide)).trans ((k96 20 (by decide)).trans ((k81 20 (by decide))))))) d)))
    refine R_cV0v (N := m_X8_laysWalls) dX8_manor_160 l_X8_161 i_X8_laysWalls HM.1 (n_laysWalls (h := h) (F := (z_man Z F).2.2.2.2.2) (by omega) (fun d hd => (E1 d (by omega)).trans (pd d (by omega)).1) (fun d hd => (E2 d (by omega)).trans (pd d (by omega)).2.1) (fun d hd => (E3 d (by omega)).trans (pd d (by omega)).2.2) hd6 HM.pt FD) rfl rfl (fun h160 q_160 => ?_)
    obtain ⟨M160, ⟨HM, k160, FD⟩, t6, t7⟩ := q_160
    have HM := HM.tp
    have HM0 := HM
    have FD0 := FD
    refine R_aload_n dX8_manor_163 rfl ?_
    refine R_iconst (nI 0) dX8_manor_164 rfl ?_
    refine R_put dX8_manor_165 f_X8_164 HM.1 (Nat.le_of_ble_eq_true rfl) (fun _ => rfl) (fun _ => rfl) ?_
    simp only [List.set_set, List.set_cons_succ, List.set_cons_zero]
    have HM := HM0.obj (.inr (8, [.ref 373, .int (nI 0), .int ((-1)), .int (nI ((z_man Z F).2.1)), .int (nI ((z_man Z F).2.2.1)), .int (nI ((z_man Z F).2.2.2.1)), .int (nI ((z_man Z F).2.2.2.2.1)), .ref 374, .ref 375, .ref 376, .ref 377, .ref 378, .ref 379, .ref 380, .ref 381, .ref 382, .int (nI 0), .long (lN ((z_s Z))), .ref 383, .ref 384, .ref 385, .ref 386, .int (nI ((z_S Z).1)), .ref 387, .int (nI ((z_B Z).1)), .int (nI a), .int (nI 0), .int wa, .int (nI (z_man Z F).2.1), .int (nI (z_man Z F).2.2.1), .int (nI (z_man Z F).2.2.2.1), .int (nI (z_man Z F).2.2.2.2.1), .ref 388, .ref 389, .ref 390, .ref 391, .ref 392, .ref 393, .ref 394]))
    have FD := FD0.set (c := 372) (.inr (8, [.ref 373, .int (nI 0), .int ((-1)), .int (nI ((z_man Z F).2.1)), .int (nI ((z_man Z F).2.2.1)), .int (nI ((z_man Z F).2.2.2.1)), .int (nI ((z_man Z F).2.2.2.2.1)), .ref 374, .ref 375, .ref 376, .ref 377, .ref 378, .ref 379, .ref 380, .ref 381, .ref 382, .int (nI 0), .long (lN ((z_s Z))), .ref 383, .ref 384, .ref 385, .ref 386, .int (nI ((z_S Z).1)), .ref 387, .int (nI ((z_B Z).1)), .int (nI a), .int (nI 0), .int wa, .int (nI (z_man Z F).2.1), .int (nI (z_man Z F).2.2.1), .int (nI (z_man Z F).2.2.2.1), .int (nI (z_man Z F).2.2.2.2.1), .ref 388, .ref 389, .ref 390, .ref 391, .ref 392, .ref 393, .ref 394])) (by omega)
    refine R_aload_n dX8_manor_168 rfl ?_
    refine R_iconst (nI 0) dX8_manor_169 rfl ?_
    refine R_put dX8_manor_170 f_X8_167 HM.1 (Nat.le_of_ble_eq_true rfl) (fun _ => rfl) (fun _ => rfl) ?_
    simp only [List.set_set, List.set_cons_succ, List.set_cons_zero]
    have HM := HM0.obj (.inr (8, [.ref 373, .int (nI 0), .int ((-1)), .int (nI ((z_man Z F).2.1)), .int (nI ((z_man Z F).2.2.1)), .int (nI ((z_man Z F).2.2.2.1)), .int (nI ((z_man Z F).2.2.2.2.1)), .ref 374, .ref 375, .ref 376, .ref 377, .ref 378, .ref 379, .ref 380, .ref 381, .ref 382, .int (nI 0), .long (lN ((z_s Z))), .ref 383, .ref 384, .ref 385, .ref 386, .int (nI 0), .ref 387, .int (nI ((z_B Z).1)), .int (nI a), .int (nI 0), .int wa, .int (nI (z_man Z F).2.1), .int (nI (z_man Z F).2.2.1), .int (nI (z_man Z F).2.2.2.1), .int (nI (z_man Z F).2.2.2.2.1), .ref 388, .ref 389, .ref 390, .ref 391, .ref 392, .ref 393, .ref 394]))
    have FD := FD0.set (c := 372) (.inr (8, [.ref 373, .int (nI 0), .int ((-1)), .int (nI ((z_man Z F).2.1)), .int (nI ((z_man Z F).2.2.1)), .int (nI ((z_man Z F).2.2.2.1)), .int (nI ((z_man Z F).2.2.2.2.1)), .ref 374, .ref 375, .ref 376, .ref 377, .ref 378, .ref 379, .ref 380, .ref 381, .ref 382, .int (nI 0), .long (lN ((z_s Z))), .ref 383, .ref 384, .ref 385, .ref 386, .int (nI 0), .ref 387, .int (nI ((z_B Z).1)), .int (nI a), .int (nI 0), .int wa, .int (nI (z_man Z F).2.1), .int (nI (z_man Z F).2.2.1), .int (nI (z_man Z F).2.2.2.1), .int (nI (z_man Z F).2.2.2.2.1), .ref 388, .ref 389, .ref 390, .ref 391, .ref 392, .ref 393, .ref 394])) (by omega)
    refine R_aload_n dX8_manor_173 rfl ?_
    refine R_iconst (nI 0) dX8_manor_174 rfl ?_
    refine R_put dX8_manor_175 f_X8_170 HM.1 (Nat.le_of_ble_eq_true rfl) (fun _ => rfl) (fun _ => rfl) ?_
    simp only [List.set_set, List.set_cons_succ, List.set_cons_zero]
    have HM := HM0.obj (.inr (8, [.ref 373, .int (nI 0), .int ((-1)), .int (nI ((z_man Z F).2.1)), .int (nI ((z_man Z F).2.2.1)), .int (nI ((z_man Z F).2.2.2.1)), .int (nI ((z_man Z F).2.2.2.2.1)), .ref 374, .ref 375, .ref 376, .ref 377, .ref 378, .ref 379, .ref 380, .ref 381, .ref 382, .int (nI 0), .long (lN ((z_s Z))), .ref 383, .ref 384, .ref 385, .ref 386, .int (nI 0), .ref 387, .int (nI 0), .int (nI a), .int (nI 0), .int wa, .int (nI (z_man Z F).2.1), .int (nI (z_man Z F).2.2.1), .int (nI (z_man Z F).2.2.2.1), .int (nI (z_man Z F).2.2.2.2.1), .ref 388, .ref 389, .ref 390, .ref 391, .ref 392, .ref 393, .ref 394]))
    have FD := FD0.set (c := 372) (.inr (8, [.ref 373, .int (nI 0), .int ((-1)), .int (nI ((z_man Z F).2.1)), .int (nI ((z_man Z F).2.2.1)), .int (nI ((z_man Z F).2.2.2.1)), .int (nI ((z_man Z F).2.2.2.2.1)), .ref 374, .ref 375, .ref 376, .ref 377, .ref 378, .ref 379, .ref 380, .ref 381, .ref 382, .int (nI 0), .long (lN ((z_s Z))), .ref 383, .ref 384, .ref 385, .ref 386, .int (nI 0), .ref 387, .int (nI 0), .int (nI a), .int (nI 0), .int wa, .int (nI (z_man Z F).2.1), .int (nI (z_man Z F).2.2.1), .int (nI (z_man Z F).2.2.2.1), .int (nI (z_man Z F).2.2.2.2.1), .ref 388, .ref 389, .ref 390, .ref 391, .ref 392, .ref 393, .ref 394])) (by omega)
    refine R_aload_n dX8_manor_178 rfl ?_
    refine R_get dX8_manor_179 f_X8_51 HM.1 rfl ?_
    refine R_iconst (nI 0) dX8_manor_182 rfl ?_
    refine R_iconst (nI 0) dX8_manor_183 rfl ?_
    refine R_zast dX8_manor_184 (HM.2 12 (by decide)) (Or.inl rfl) rfl (by omega) (by decide) ?_
    have HM := HM.kp (upd kp 0 (nI 0))
    have FD := FD.set (c := 385) (.inl (2, 2, .inl (upd kp 0 (nI 0)))) (by omega)
    refine R_aload_n dX8_manor_185 rfl ?_
    refine R_get dX8_manor_186 f_X8_51 HM.1 rfl ?_
    refine R_iconst (nI 1) dX8_manor_189 rfl ?_
    refine R_iconst (nI 0) dX8_manor_190 rfl ?_
    refine R_zast dX8_manor_191 (HM.2 12 (by decide)) (Or.inl rfl) rfl (by omega) (by decide) ?_
    have HM := HM.kp (upd (upd kp 0 (nI 0)) 1 (nI 0))
    have FD := FD.set (c := 385) (.inl (2, 2, .inl (upd (upd kp 0 (nI 0)) 1 (nI 0)))) (by omega)
    refine R_aload_n dX8_manor_192 rfl ?_
    refine R_get dX8_manor_193 f_X8_89 HM.1 rfl ?_
    have e0 := f1 0 (by decide)
    have e1 := f1 1 (by decide)
    have e2 := f1 2 (by decide)
    have e3 := f1 3 (by decide)
    have e4 := f1 4 (by decide)
    have e5 := f1 5 (by decide)
    have e6 := f1 6 (by decide)
    have G : ∀ i, ¬ i = 6 → ¬ i = 7 → M160 i = M156 i := k160
    have hd7 : ∀ d, d < (z_man Z F).2.2.2.1 → (z_man Z F).2.2.2.2.2 1 d < (z_man Z F).2.2.1 ∧ (z_man Z F).2.2.2.2.2 2 d < (z_man Z F).2.2.1 ∧ ¬ (z_man Z F).2.2.2.2.2 1 d = (z_man Z F).2.2.2.2.2 2 d := fun d hd => ⟨(b5 d hd).1, (b5 d hd).2.1, (b5 d hd).2.2.1⟩
    have T8 : ∀ x, x < 51 → M160 8 x = M1 20 x := fun x hx => (congrFun (G 8 (by decide) (by decide)) x).trans (E8 x hx)
    refine R_iret dX8_manor_196 rfl rfl rfl ⟨_, rfl, er.symm, ?_, FD⟩
    rw [eZ]
    refine ⟨M160, sd, (upd (upd kp 0 (nI 0)) 1 (nI 0)), _, (em ▸ HM.pt : x_MR _ (x_mob 0 (z_man Z F).1.2.1 (z_man Z F).2.1 (z_man Z F).2.2.1 (z_man Z F).2.2.2.1 (z_man Z F).2.2.2.2.1 0 (z_s Z) 0 0 (x_pt a 0 wa (z_man Z F).2.1 (z_man Z F).2.2.1 (z_man Z F).2.2.2.1 (z_man Z F).2.2.2.2.1)) M160 sd (upd (upd kp 0 (nI 0)) 1 (nI 0))), ?_, ?_, ?_, ?_, ?_, ?_, ?_, ⟨?_, ?_, ?_, ?_, ?_, ?_, ?_, ?_⟩, ?_, ?_, ?_, ?_, ?_, ?_⟩
    · intro d hd; show M160 1 d = nI (F' 1 d); rw [e1, G 1 (by decide) (by decide), E1 d (by have : d < (z_man Z F).2.2.2.1 := hd; omega)]; exact (pd d hd).1
    · intro d hd; show M160 2 d = nI (F' 2 d); rw [e2, G 2 (by decide) (by decide), E2 d (by have : d < (z_man Z F).2.2.2.1 := hd; omega)]; exact (pd d hd).2.1
    · intro d hd; show M160 3 d = nI (F' 3 d); rw [e3, G 3 (by decide) (by decide), E3 d (by have : d < (z_man Z F).2.2.2.1 := hd; omega)]; exact (pd d hd).2.2
    · intro d hd; show M160 4 d = nI (F' 4 d); rw [e4, G 4 (by decide) (by decide), E4 d (by have : d < (z_man Z F).2.2.2.2.1 := hd; omega)]; exact (pp d hd).1
    · intro d hd; show M160 5 d = nI (F' 5 d); rw [e5, G 5 (by decide) (by decide), E5 d (by have : d < (z_man Z F).2.2.2.2.1 := hd; omega)]; exact (pp d hd).2.1
    · intro x y hx hy
      have hx : x < (z_man Z F).2.2.1 := hx
      have hy : y < (z_man Z F).2.2.1 := hy
      show M160 6 (6 * x + y) = nI (F' (10 + x) y)
      have sf := s_fl_6 (F := (z_man Z F).2.2.2.2.2) (D := (z_man Z F).2.2.2.1) (len := (z_man Z F).2.2.2.2.2 3) b2 hd7 hx hy (6 - (z_man Z F).2.2.1) (by omega)
      rw [show (z_man Z F).2.2.1 + (6 - (z_man Z F).2.2.1) = 6 by omega] at sf
      rw [t6 x y (by omega) (by omega), (f2 x y hx hy).1, sf]; rfl
    · intro x y hx hy
      have hx : x < (z_man Z F).2.2.1 := hx
      have hy : y < (z_man Z F).2.2.1 := hy
      show M160 7 (6 * x + y) = nI (F' (20 + x) y)
      have sf := s_fl_6 (F := (z_man Z F).2.2.2.2.2) (D := (z_man Z F).2.2.2.1) (len := fun _ => 1) b2 hd7 hx hy (6 - (z_man Z F).2.2.1) (by omega)
      rw [show (z_man Z F).2.2.1 + (6 - (z_man Z F).2.2.1) = 6 by omega] at sf
      rw [t7 x y (by omega) (by omega), (f2 x y hx hy).2, sf]; rfl
    · show M160 8 0 = nI 0; rw [T8 0 (by omega)]; exact pz 0 (by omega)
    · show M160 8 1 = nI 0; rw [T8 1 (by omega)]; exact pz 1 (by omega)
    · show M160 8 2 = nI 0; rw [T8 2 (by omega)]; exact pz 2 (by omega)
    · intro r hr; have hr : r < (z_man Z F).2.2.1 := hr; show M160 8 (3 + r) = nI (F' 0 r); rw [T8 _ (by omega), e0]; exact pr r hr
    · intro r hr; have hr : r < (z_man Z F).2.2.1 := hr; show M160 8 (9 + r) = x_b false; rw [T8 _ (by omega)]; exact pz _ (by omega)
    · intro r hr; have hr : r < (z_man Z F).2.2.1 := hr; show M160 8 (15 + r) = -1; rw [T8 _ (by omega)]; exact pm _ (by omega) (by omega)
    · intro j r hj hr; have hr : r < (z_man Z F).2.2.1 := hr; show M160 8 (21 + 6 * j + r) = -1; rw [T8 _ (by omega)]; exact pm _ (by omega) (by omega)
    · intro p hp; have hp : p < (z_man Z F).2.2.2.2.1 := hp; show M160 8 (45 + p) = nI (F' 6 p); rw [T8 _ (by omega), e6]; exact (pp p hp).2.2
    · intro j hj; exact absurd hj (Nat.not_lt_zero j)
    · intro i hi z; exact absurd z Bool.false_ne_true
    · intro i hi
      show (upd (upd kp 0 (nI 0)) 1 (nI 0)) i = nI 0
      by_cases e : i = 1
      · rw [e, x_upd_eq]
      · rw [x_upd_ne e, show i = 0 by omega, x_upd_eq]
    · intro i hi; exact absurd hi (Nat.not_lt_zero i)
    · intro i hi; exact absurd hi (Nat.not_lt_zero i)
    · intro i hi; exact absurd hi (Nat.not_lt_zero i)
  · have h0 : ¬ (z_man Z F).1.1 = 0 := fun z => c_13 (PR.1.1 z).2
    obtain ⟨-, er, eZ⟩ := hr.resolve_right (fun hz => h0 hz.1)
    obtain ⟨ew, ewa⟩ := PR.1.2.1 h0
    subst ew ewa
    refine R_aload_n dX8_manor_16 rfl ?_
    refine R_aload_n dX8_manor_17 rfl ?_
    refine R_get dX8_manor_18 f_X8_110 HM.1 rfl ?_
    refine R_put dX8_manor_21 f_X8_13 HM.1 (Nat.le_of_ble_eq_true rfl) (fun _ => rfl) (fun _ => rfl) ?_
    simp only [List.set_set, List.set_cons_succ, List.set_cons_zero]
    have HM := HM0.obj (.inr (8, [.ref 373, .int (nI 0), .int (z_man Z F).1.2.1, .int (nI ((z_N Z))), .int (nI ((z_R Z))), .int (nI ((z_D Z))), .int (nI ((z_P Z))), .ref 374, .ref 375, .ref 376, .ref 377, .ref 378, .ref 379, .ref 380, .ref 381, .ref 382, .int (nI ((z_T Z).1)), .long (lN ((z_s Z))), .ref 383, .ref 384, .ref 385, .ref 386, .int (nI ((z_S Z).1)), .ref 387, .int (nI ((z_B Z).1)), .int (nI a), .int (nI (z_man Z F).1.1), .int (z_man Z F).1.2.1, .int (nI rh), .int (nI rr), .int (nI rd), .int (nI rp), .ref 388, .ref 389, .ref 390, .ref 391, .ref 392, .ref 393, .ref 394]))
    have FD := FD0.set (c := 372) (.inr (8, [.ref 373, .int (nI 0), .int (z_man Z F).1.2.1, .int (nI ((z_N Z))), .int (nI ((z_R Z))), .int (nI ((z_D Z))), .int (nI ((z_P Z))), .ref 374, .ref 375, .ref 376, .ref 377, .ref 378, .ref 379, .ref 380, .ref 381, .ref 382, .int (nI ((z_T Z).1)), .long (lN ((z_s Z))), .ref 383, .ref 384, .ref 385, .ref 386, .int (nI ((z_S Z).1)), .ref 387, .int (nI ((z_B Z).1)), .int (nI a), .int (nI (z_man Z F).1.1), .int (z_man Z F).1.2.1, .int (nI rh), .int (nI rr), .int (nI rd), .int (nI rp), .ref 388, .ref 389, .ref 390, .ref 391, .ref 392, .ref 393, .ref 394])) (by omega)
    refine R_bipush (-10) dX8_manor_24 rfl ?_
    refine R_aload_n dX8_manor_26 rfl ?_
    refine R_get dX8_manor_27 f_X8_107 HM.1 rfl ?_
    refine R_isub dX8_manor_30 ?_
    obtain ⟨w1, w2, w3, w4, w5, w6, w7, hq, wt, wi, wk, ws, wb, wx⟩ := C1.2
    exact R_iret dX8_manor_31 rfl rfl rfl ⟨_, rfl, er.symm, by rw [eZ]; exact ⟨M1, sd, kp, _, HM.pt, w1, w2, w3, w4, w5, w6, w7, hq, wt, wi, wk, ws, wb, fun i hi => absurd hi (Nat.not_lt_zero i)⟩, FD⟩
