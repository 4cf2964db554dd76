/-! THE MODEL's clauses -/
theorem x_ML.r15 {h : xH} {Z : xZ} {M : Nat → Nat → Int32} {sd : Nat → Int64} {kp t : Nat → Int32} (C : x_ML h Z M sd kp t) (g : Nat → Int32) : x_ML (h.set 388 (x_ia 8 g)) Z (s_arr M 15 g) sd kp t := ⟨C.1.arr (i := 15) (by decide) (by decide) (by decide) g, C.2⟩
theorem x_ML.r16 {h : xH} {Z : xZ} {M : Nat → Nat → Int32} {sd : Nat → Int64} {kp t : Nat → Int32} (C : x_ML h Z M sd kp t) (g : Nat → Int32) : x_ML (h.set 389 (x_ia 8 g)) Z (s_arr M 16 g) sd kp t := ⟨C.1.arr (i := 16) (by decide) (by decide) (by decide) g, C.2⟩
theorem x_ML.r17 {h : xH} {Z : xZ} {M : Nat → Nat → Int32} {sd : Nat → Int64} {kp t : Nat → Int32} (C : x_ML h Z M sd kp t) (g : Nat → Int32) : x_ML (h.set 390 (x_ia 8 g)) Z (s_arr M 17 g) sd kp t := ⟨C.1.arr (i := 17) (by decide) (by decide) (by decide) g, C.2⟩
theorem x_ML.r18 {h : xH} {Z : xZ} {M : Nat → Nat → Int32} {sd : Nat → Int64} {kp t : Nat → Int32} (C : x_ML h Z M sd kp t) (g : Nat → Int32) : x_ML (h.set 391 (x_ia 6 g)) Z (s_arr M 18 g) sd kp t := ⟨C.1.arr (i := 18) (by decide) (by decide) (by decide) g, C.2⟩
theorem x_ML.r19 {h : xH} {Z : xZ} {M : Nat → Nat → Int32} {sd : Nat → Int64} {kp t : Nat → Int32} (C : x_ML h Z M sd kp t) (g : Nat → Int32) : x_ML (h.set 392 (x_ia 6 g)) Z (s_arr M 19 g) sd kp t := ⟨C.1.arr (i := 19) (by decide) (by decide) (by decide) g, C.2⟩
theorem x_ML.r20 {h : xH} {Z : xZ} {M : Nat → Nat → Int32} {sd : Nat → Int64} {kp t : Nat → Int32} (C : x_ML h Z M sd kp t) (g : Nat → Int32) : x_ML (h.set 393 (x_ia 51 g)) Z (s_arr M 20 g) sd kp t := ⟨C.1.arr (i := 20) (by decide) (by decide) (by decide) g, C.2⟩
theorem e_end_of {tx : Nat → Nat} {n : Nat} {E : xE} {f : Nat} (hf : f = s_skip tx n E.2.2) : e_end tx n E = ((e_failIf (decide (¬ (f < n ∧ tx f = 59))) 1 f (E.1, E.2.1, f)).1, (e_failIf (decide (¬ (f < n ∧ tx f = 59))) 1 f (E.1, E.2.1, f)).2.1, f + 1) := by subst hf; rfl
theorem e_end_keep {tx : Nat → Nat} {n : Nat} {E : xE} (h : ¬ E.1 = 0) : (e_end tx n E).1 = E.1 ∧ (e_end tx n E).2.1 = E.2.1 := by
  rw [e_end_of rfl, e_failIf_k3 h]; exact ⟨rfl, rfl⟩
theorem e_end_0 {tx : Nat → Nat} {n : Nat} {E : xE} {f : Nat} (hf : f = s_skip tx n E.2.2) (h : f < n ∧ tx f = 59) : e_end tx n E = (E.1, E.2.1, f + 1) := by
  rw [e_end_of hf, e_failIf_n (decide_eq_false (fun z => z h))]
theorem e_end_1 {tx : Nat → Nat} {n : Nat} {E : xE} {f : Nat} (h0 : E.1 = 0) (hf : f = s_skip tx n E.2.2) (h : ¬ (f < n ∧ tx f = 59)) : e_end tx n E = (1, nI f, f + 1) := by
  rw [e_end_of hf, e_failIf_t (E := (E.1, E.2.1, f)) h0 (decide_eq_true h)]
theorem e_nu_m1 {tx : Nat → Nat} {n lw hi : Nat} {E : xE} : e_nu tx n lw hi (-1) E = e_num tx n lw hi E := by
  have h := e_num_lt tx n lw hi E
  unfold e_nu
  rw [e_failIf_n (decide_eq_false (fun z => nI_ne_neg1 h z.symm))]
theorem e_num_skip {tx : Nat → Nat} {n lw hi : Nat} {E : xE} : e_num tx n lw hi (e_skip tx n E) = e_num tx n lw hi E := by
  unfold e_num e_skip
  show (s_val tx (s_skip tx n (s_skip tx n E.2.2)) _, _) = _
  simp only [s_skip_idem]
theorem n_ends {h : xH} {Z : xZ} {M : Nat → Nat → Int32} {sd : Nat → Int64} {kp : Nat → Int32} {a w rh rr rd rp : Nat} {wa : Int32} (C : x_ML h Z M sd kp (x_pt (a) (w) wa (rh) (rr) (rd) (rp))) {E : xE} (pe : x_PE E a w wa) (hE : E.1 = 0 → E.2.2 ≤ (z_X Z).1) (bX : (z_X Z).1 ≤ 240) (bXc : ∀ i, i < (z_X Z).1 → (z_X Z).2 i < 256) : x_Met m_X8_ends [.ref 372] h (x_vd (fun h' => ∃ a' w' wa', x_ML h' Z M sd kp (x_pt a' w' wa' rh rr rd rp) ∧ x_PE (e_end (z_X Z).2 (z_X Z).1 E) a' w' wa' ∧ x_fD h h')) := by
  have mo := C.mo
  have ha := pe.2.2.1
  have hw9 : w ≤ 100 := by
    by_cases z : E.1 = 0
    · have := (pe.1 z).2; omega
    · have := (pe.2.1 z).1; have := pe.2.2.2; omega
  have ha5 : E.1 = 0 → a ≤ 500 := fun z => by have := (pe.1 z).1; have := hE z; omega
  refine x_Met.of (lo := [some (.ref 372)]) (by decide) rfl rfl rfl ?_
  refine R_aload_n dX8_ends_0 rfl ?_
  refine R_get dX8_ends_1 f_X8_107 mo rfl ?_
  refine R_ifeqN 8 dX8_ends_4 rfl (by omega) (fun c_4 => ?_) (fun c_4 => ?_)
  · have h0 : E.1 = 0 := Classical.byContradiction (fun z => z ((pe.2.1 z).1.symm.trans c_4))
    refine R_aload_n dX8_ends_8 rfl ?_
    refine R_cV0v (N := m_X8_skips) dX8_ends_9 l_X8_113 i_X8_skips mo (n_skips C (ha5 h0) bX bXc) rfl rfl (fun h9 q_9 => ?_)
    obtain ⟨ea, ew⟩ := pe.1 h0
    obtain ⟨C, FD⟩ := q_9
    subst ew
    have mo := C.mo
    have hs1 := (s_skip_le (tx := (z_X Z).2) (hE h0)).2
    rw [← ea] at hs1
    refine R_aload_n dX8_ends_12 rfl ?_
    refine R_cV0p (N := m_X8_here) dX8_ends_13 l_X8_103 i_X8_here mo (n_here C (by omega) bX bXc) rfl rfl ?_
    refine R_bipush (nI 59) dX8_ends_16 rfl ?_
    refine R_icmpne 34 dX8_ends_18 rfl (fun c_18 => ?_) (fun c_18 => ?_)
    · have hn : ¬ ((s_skip (z_X Z).2 (z_X Z).1 a) < (z_X Z).1 ∧ (z_X Z).2 (s_skip (z_X Z).2 (z_X Z).1 a) = 59) := fun z => c_18 (by rw [s_here, if_pos z.1, z.2])
      refine R_aload_n dX8_ends_34 rfl ?_
      refine R_iconst (nI 1) dX8_ends_35 rfl ?_
      refine R_cV1v (N := m_X8_fails) dX8_ends_36 l_X8_116 i_X8_fails mo (n_fails C rfl) rfl rfl (fun h36 q_36 => ?_)
      obtain ⟨C, FD1⟩ := q_36
      have FD := FD.trans FD1
      exact R_vret dX8_ends_39 rfl rfl rfl ⟨rfl, _, _, _, C, by rw [e_end_1 h0 (f := (s_skip (z_X Z).2 (z_X Z).1 a)) (by rw [ea]) hn]; exact ⟨fun z => absurd z (show ¬ 1 = 0 by decide), fun _ => ⟨rfl, rfl⟩, by omega, by show 1 ≤ 100; decide⟩, FD⟩
    · have hy := s_here_is (by decide) (fun j hj => by have := bXc j hj; omega) c_18
      refine R_aload_n dX8_ends_21 rfl ?_
      refine R_dup dX8_ends_22 rfl ?_
      refine R_get dX8_ends_23 f_X8_100 mo rfl ?_
      refine R_iconst (nI 1) dX8_ends_26 rfl ?_
      refine R_iaddN dX8_ends_27 ?_
      refine R_put dX8_ends_28 f_X8_100 mo (Nat.le_of_ble_eq_true rfl) (fun _ => rfl) (fun _ => rfl) ?_
      simp only [List.set_cons_succ, List.set_cons_zero]
      have C := C.tp ((s_skip (z_X Z).2 (z_X Z).1 a) + 1) (0) wa (rh) (rr) (rd) (rp)
      have FD := FD.set (c := 372) (.inr (8, [.ref 373, .int (nI (z_X Z).1), .int (z_f Z), .int (nI (z_N Z)), .int (nI (z_R Z)), .int (nI (z_D Z)), .int (nI (z_P Z)), .ref 374, .ref 375, .ref 376, .ref 377, .ref 378, .ref 379, .ref 380, .ref 381, .ref 382, .int (nI (z_T Z).1), .long (lN (z_s Z)), .ref 383, .ref 384, .ref 385, .ref 386, .int (nI (z_S Z).1), .ref 387, .int (nI (z_B Z).1), .int (nI ((s_skip (z_X Z).2 (z_X Z).1 a) + 1)), .int (nI (0)), .int wa, .int (nI (rh)), .int (nI (rr)), .int (nI (rd)), .int (nI (rp)), .ref 388, .ref 389, .ref 390, .ref 391, .ref 392, .ref 393, .ref 394])) (by omega)
      have mo := C.mo
      refine R_goto 39 dX8_ends_31 rfl ?_
      exact R_vret dX8_ends_39 rfl rfl rfl ⟨rfl, _, _, _, C, by rw [e_end_0 (f := (s_skip (z_X Z).2 (z_X Z).1 a)) (by rw [ea]) hy]; exact ⟨fun _ => ⟨rfl, rfl⟩, fun z => absurd h0 z, by omega, by show E.1 ≤ 100; omega⟩, FD⟩
  · have h0 : ¬ E.1 = 0 := fun z => c_4 (pe.1 z).2
    have ek := e_end_keep (tx := (z_X Z).2) (n := (z_X Z).1) h0
    exact R_vret dX8_ends_7 rfl rfl rfl ⟨rfl, a, w, wa, C, ⟨fun z => absurd (ek.1.symm.trans z) h0, fun _ => by rw [ek.1, ek.2]; exact pe.2.1 h0, pe.2.2.1, by rw [ek.1]; exact pe.2.2.2⟩, x_fD.rf h⟩
theorem e_num_in_n {tx : Nat → Nat} {n lw hi : Nat} {E : xE} (hE : E.1 = 0 → E.2.2 ≤ n) : (e_num tx n lw hi E).2.1 = 0 → (e_num tx n lw hi E).2.2.2 ≤ n := fun z => e_num_le (hE (e_num_fk z))
theorem e_nu_in {tx : Nat → Nat} {n lw hi : Nat} {nt : Int32} {E : xE} (hE : E.1 = 0 → E.2.2 ≤ n) : (e_nu tx n lw hi nt E).2.1 = 0 → (e_nu tx n lw hi nt E).2.2.2 ≤ n := fun z => by
  have z1 := (e_failIf_fk (show ¬ 4 = 0 by decide) z).2
  show (e_failIf _ 4 _ (e_num tx n lw hi E).2).2.2 ≤ n
  rw [e_failIf_at]
  exact e_num_in_n hE z1
theorem n_readRoom {h : xH} {Z : xZ} {M : Nat → Nat → Int32} {sd : Nat → Int64} {kp : Nat → Int32} {a w rh rr rd rp : Nat} {wa : Int32} (C : x_ML h Z M sd kp (x_pt (a) (w) wa (rh) (rr) (rd) (rp))) {E : xE} (pe : x_PE E a w wa) (hE : E.1 = 0 → E.2.2 ≤ (z_X Z).1) (hr : rr < 6) (bX : (z_X Z).1 ≤ 240) (bXc : ∀ i, i < (z_X Z).1 → (z_X Z).2 i < 256) : x_Met m_X8_readRoom [.ref 372] h (x_vd (fun h' => ∃ a' w' wa' v, x_ML h' Z (s_arr M 20 (upd (M 20) (3 + rr) v)) sd kp (x_pt a' w' wa' rh (rr + 1) rd rp) ∧ x_PE (e_end (z_X Z).2 (z_X Z).1 (e_nu (z_X Z).2 (z_X Z).1 0 21 (-1) E).2) a' w' wa' ∧ v = (if (e_nu (z_X Z).2 (z_X Z).1 0 21 (-1) E).2.1 = 0 then nI (e_nu (z_X Z).2 (z_X Z).1 0 21 (-1) E).1 else nI 0) ∧ x_fD h h')) := by
  have FD := x_fD.rf h
  have mo := C.mo
  have ha := pe.2.2.1
  have hw9 : w ≤ 100 := by
    by_cases z : E.1 = 0
    · have := (pe.1 z).2; omega
    · have := (pe.2.1 z).1; have := pe.2.2.2; omega
  have ha5 : E.1 = 0 → a ≤ 500 := fun z => by have := (pe.1 z).1; have := hE z; omega
  have m20 : h[393]? = some (x_ia 51 (M 20)) := C.1.2 20 (by decide)
  refine x_Met.of (lo := [some (.ref 372)]) (by decide) rfl rfl rfl ?_
  refine R_aload_n dX8_readRoom_0 rfl ?_
  refine R_get dX8_readRoom_1 f_X8_76 mo rfl ?_
  refine R_iconst (nI 3) dX8_readRoom_4 rfl ?_
  refine R_aload_n dX8_readRoom_5 rfl ?_
  refine R_get dX8_readRoom_6 f_X8_120 mo rfl ?_
  refine R_iaddN dX8_readRoom_9 ?_
  refine R_aload_n dX8_readRoom_10 rfl ?_
  refine R_iconst (nI 0) dX8_readRoom_11 rfl ?_
  refine R_bipush (nI 20) dX8_readRoom_12 rfl ?_
  refine R_iconst (-1) dX8_readRoom_14 rfl ?_
  refine R_cV3i (N := m_X8_number) dX8_readRoom_15 l_X8_123 i_X8_number mo (n_number (lw := 0) (hi := 21) (E := E) (by omega) (x_hiC (by decide)) C pe hE bX bXc) rfl rfl (fun r15 h15 q_15 => ?_)
  obtain ⟨a15, w15, wa15, C, pe15, er15, FD1⟩ := q_15
  have FD := FD.trans FD1
  have mo := C.mo
  have m20 : h15[393]? = some (x_ia 51 (M 20)) := C.1.2 20 (by decide)
  refine R_iast dX8_readRoom_18 m20 (by omega) rfl (by omega) (by decide) ?_
  have C := C.r20 (upd (M 20) (3 + rr) r15)
  have FD := FD.set (c := 393) (x_ia 51 (upd (M 20) (3 + rr) r15)) (by omega)
  have mo := C.mo
  refine R_aload_n dX8_readRoom_19 rfl ?_
  refine R_dup dX8_readRoom_20 rfl ?_
  refine R_get dX8_readRoom_21 f_X8_120 mo rfl ?_
  refine R_iconst (nI 1) dX8_readRoom_24 rfl ?_
  refine R_iaddN dX8_readRoom_25 ?_
  refine R_put dX8_readRoom_26 f_X8_120 mo (Nat.le_of_ble_eq_true rfl) (fun _ => rfl) (fun _ => rfl) ?_
  simp only [List.set_cons_succ, List.set_cons_zero]
  have C := C.tp (a15) (w15) wa15 (rh) (rr + 1) (rd) (rp)
  have FD := FD.set (c := 372) (.inr (8, [.ref 373, .int (nI (z_X Z).1), .int (z_f Z), .int (nI (z_N Z)), .int (nI (z_R Z)), .int (nI (z_D Z)), .int (nI (z_P Z)), .ref 374, .ref 375, .ref 376, .ref 377, .ref 378, .ref 379, .ref 380, .ref 381, .ref 382, .int (nI (z_T Z).1), .long (lN (z_s Z)), .ref 383, .ref 384, .ref 385, .ref 386, .int (nI (z_S Z).1), .ref 387, .int (nI (z_B Z).1), .int (nI (a15)), .int (nI (w15)), .int wa15, .int (nI (rh)), .int (nI (rr + 1)), .int (nI (rd)), .int (nI (rp)), .ref 388, .ref 389, .ref 390, .ref 391, .ref 392, .ref 393, .ref 394])) (by omega)
  have mo := C.mo
  refine R_aload_n dX8_readRoom_29 rfl ?_
  refine R_cV0v (N := m_X8_ends) dX8_readRoom_30 l_X8_127 i_X8_ends mo (n_ends (E := (e_nu (z_X Z).2 (z_X Z).1 0 21 (-1) E).2) C pe15 (e_nu_in hE) bX bXc) rfl rfl (fun h30 q_30 => ?_)
  obtain ⟨a30, w30, wa30, C, pe30, FD1⟩ := q_30
  have FD := FD.trans FD1
  exact R_vret dX8_readRoom_33 rfl rfl rfl ⟨rfl, a30, w30, wa30, r15, C, pe30, er15, FD⟩
theorem n_readHeir {h : xH} {Z : xZ} {M : Nat → Nat → Int32} {sd : Nat → Int64} {kp : Nat → Int32} {a w rh rr rd rp : Nat} {wa : Int32} (C : x_ML h Z M sd kp (x_pt (a) (w) wa (rh) (rr) (rd) (rp))) {E : xE} (pe : x_PE E a w wa) (hE : E.1 = 0 → E.2.2 ≤ (z_X Z).1) (hp : rp < 6) (hr : rr ≤ 6) (bX : (z_X Z).1 ≤ 240) (bXc : ∀ i, i < (z_X Z).1 → (z_X Z).2 i < 256) : x_Met m_X8_readHeir [.ref 372] h (x_vd (fun h' => ∃ a' w' wa' v1 v2 v3, x_ML h' Z (s_arr (s_arr (s_arr M 18 (upd (M 18) rp v1)) 19 (upd (M 19) rp v2)) 20 (upd (M 20) (45 + rp) v3)) sd kp (x_pt a' w' wa' rh rr rd (rp + 1)) ∧ x_PE (e_end (z_X Z).2 (z_X Z).1 (e_nu (z_X Z).2 (z_X Z).1 0 rr (-1) (e_nu (z_X Z).2 (z_X Z).1 1 21 (-1) (e_nu (z_X Z).2 (z_X Z).1 0 5 (-1) E).2).2).2) a' w' wa' ∧ v1 = (if (e_nu (z_X Z).2 (z_X Z).1 0 5 (-1) E).2.1 = 0 then nI (e_nu (z_X Z).2 (z_X Z).1 0 5 (-1) E).1 else nI 0) ∧ v2 = (if (e_nu (z_X Z).2 (z_X Z).1 1 21 (-1) (e_nu (z_X Z).2 (z_X Z).1 0 5 (-1) E).2).2.1 = 0 then nI (e_nu (z_X Z).2 (z_X Z).1 1 21 (-1) (e_nu (z_X Z).2 (z_X Z).1 0 5 (-1) E).2).1 else nI 0) ∧ v3 = (if (e_nu (z_X Z).2 (z_X Z).1 0 rr (-1) (e_nu (z_X Z).2 (z_X Z).1 1 21 (-1) (e_nu (z_X Z).2 (z_X Z).1 0 5 (-1) E).2).2).2.1 = 0 then nI (e_nu (z_X Z).2 (z_X Z).1 0 rr (-1) (e_nu (z_X Z).2 (z_X Z).1 1 21 (-1) (e_nu (z_X Z).2 (z_X Z).1 0 5 (-1) E).2).2).1 else nI 0) ∧ x_fD h h')) := by
  have FD := x_fD.rf h
  have mo := C.mo
  have ha := pe.2.2.1
  have hw9 : w ≤ 100 := by
    by_cases z : E.1 = 0
    · have := (pe.1 z).2; omega
    · have := (pe.2.1 z).1; have := pe.2.2.2; omega
  have ha5 : E.1 = 0 → a ≤ 500 := fun z => by have := (pe.1 z).1; have := hE z; omega
  have m18 : h[391]? = some (x_ia 6 (M 18)) := C.1.2 18 (by decide)
  have m19 : h[392]? = some (x_ia 6 (M 19)) := C.1.2 19 (by decide)
  have m20 : h[393]? = some (x_ia 51 (M 20)) := C.1.2 20 (by decide)
  refine x_Met.of (lo := [some (.ref 372), none]) (by decide) rfl rfl rfl ?_
  refine R_aload_n dX8_readHeir_0 rfl ?_
  refine R_get dX8_readHeir_1 f_X8_133 mo rfl ?_
  refine R_istore_n dX8_readHeir_4 (Nat.le_of_ble_eq_true rfl) rfl ?_
  refine R_aload_n dX8_readHeir_5 rfl ?_
  refine R_get dX8_readHeir_6 f_X8_70 mo rfl ?_
  refine R_iload_n dX8_readHeir_9 rfl ?_
  refine R_aload_n dX8_readHeir_10 rfl ?_
  refine R_iconst (nI 0) dX8_readHeir_11 rfl ?_
  refine R_iconst (nI 4) dX8_readHeir_12 rfl ?_
  refine R_iconst (-1) dX8_readHeir_13 rfl ?_
  refine R_cV3i (N := m_X8_number) dX8_readHeir_14 l_X8_123 i_X8_number mo (n_number (lw := 0) (hi := 5) (E := E) (by omega) (x_hiC (by decide)) C pe hE bX bXc) rfl rfl (fun r14 h14 q_14 => ?_)
  obtain ⟨a14, w14, wa14, C, pe14, er14, FD1⟩ := q_14
  have FD := FD.trans FD1
  have mo := C.mo
  have m18 : h14[391]? = some (x_ia 6 (M 18)) := C.1.2 18 (by decide)
  refine R_iast dX8_readHeir_17 m18 (by omega) rfl (by omega) (by decide) ?_
  have C := C.r18 (upd (M 18) rp r14)
  have FD := FD.set (c := 391) (x_ia 6 (upd (M 18) rp r14)) (by omega)
  have mo := C.mo
  refine R_aload_n dX8_readHeir_18 rfl ?_
  refine R_get dX8_readHeir_19 f_X8_73 mo rfl ?_
  refine R_iload_n dX8_readHeir_22 rfl ?_
  refine R_aload_n dX8_readHeir_23 rfl ?_
  refine R_iconst (nI 1) dX8_readHeir_24 rfl ?_
  refine R_bipush (nI 20) dX8_readHeir_25 rfl ?_
  refine R_iconst (-1) dX8_readHeir_27 rfl ?_
  refine R_cV3i (N := m_X8_number) dX8_readHeir_28 l_X8_123 i_X8_number mo (n_number (lw := 1) (hi := 21) (E := (e_nu (z_X Z).2 (z_X Z).1 0 5 (-1) E).2) (by omega) (x_hiC (by decide)) C pe14 (e_nu_in hE) bX bXc) rfl rfl (fun r28 h28 q_28 => ?_)
  obtain ⟨a28, w28, wa28, C, pe28, er28, FD1⟩ := q_28
  have FD := FD.trans FD1
  have mo := C.mo
  have m19 : h28[392]? = some (x_ia 6 (M 19)) := C.1.2 19 (by decide)
  refine R_iast dX8_readHeir_31 m19 (by omega) rfl (by omega) (by decide) ?_
  have C := C.r19 (upd (M 19) rp r28)
  have FD := FD.set (c := 392) (x_ia 6 (upd (M 19) rp r28)) (by omega)
  have mo := C.mo
  refine R_aload_n dX8_readHeir_32 rfl ?_
  refine R_get dX8_readHeir_33 f_X8_76 mo rfl ?_
  refine R_bipush (nI 45) dX8_readHeir_36 rfl ?_
  refine R_iload_n dX8_readHeir_38 rfl ?_
  refine R_iaddN dX8_readHeir_39 ?_
  refine R_aload_n dX8_readHeir_40 rfl ?_
  refine R_iconst (nI 0) dX8_readHeir_41 rfl ?_
  refine R_aload_n dX8_readHeir_42 rfl ?_
  refine R_get dX8_readHeir_43 f_X8_120 mo rfl ?_
  refine R_iconst (nI 1) dX8_readHeir_46 rfl ?_
  refine R_isub dX8_readHeir_47 ?_
  refine R_iconst (-1) dX8_readHeir_48 rfl ?_
  refine R_cV3i (N := m_X8_number) dX8_readHeir_49 l_X8_123 i_X8_number mo (n_number (lw := 0) (hi := rr) (E := (e_nu (z_X Z).2 (z_X Z).1 1 21 (-1) (e_nu (z_X Z).2 (z_X Z).1 0 5 (-1) E).2).2) (by omega) (x_hiR rr (by omega)) C pe28 (e_nu_in (e_nu_in hE)) bX bXc) rfl rfl (fun r49 h49 q_49 => ?_)
  obtain ⟨a49, w49, wa49, C, pe49, er49, FD1⟩ := q_49
  have FD := FD.trans FD1
  have mo := C.mo
  have m20 : h49[393]? = some (x_ia 51 (M 20)) := C.1.2 20 (by decide)
  refine R_iast dX8_readHeir_52 m20 (by omega) rfl (by omega) (by decide) ?_
  have C := C.r20 (upd (M 20) (45 + rp) r49)
  have FD := FD.set (c := 393) (x_ia 51 (upd (M 20) (45 + rp) r49)) (by omega)
  have mo := C.mo
  refine R_aload_n dX8_readHeir_53 rfl ?_
  refine R_dup dX8_readHeir_54 rfl ?_
  refine R_get dX8_readHeir_55 f_X8_133 mo rfl ?_
  refine R_iconst (nI 1) dX8_readHeir_58 rfl ?_
  refine R_iaddN dX8_readHeir_59 ?_
  refine R_put dX8_readHeir_60 f_X8_133 mo (Nat.le_of_ble_eq_true rfl) (fun _ => rfl) (fun _ => rfl) ?_
  simp only [List.set_cons_succ, List.set_cons_zero]
  have C := C.tp (a49) (w49) wa49 (rh) (rr) (rd) (rp + 1)
  have FD := FD.set (c := 372) (.inr (8, [.ref 373, .int (nI (z_X Z).1), .int (z_f Z), .int (nI (z_N Z)), .int (nI (z_R Z)), .int (nI (z_D Z)), .int (nI (z_P Z)), .ref 374, .ref 375, .ref 376, .ref 377, .ref 378, .ref 379, .ref 380, .ref 381, .ref 382, .int (nI (z_T Z).1), .long (lN (z_s Z)), .ref 383, .ref 384, .ref 385, .ref 386, .int (nI (z_S Z).1), .ref 387, .int (nI (z_B Z).1), .int (nI (a49)), .int (nI (w49)), .int wa49, .int (nI (rh)), .int (nI (rr)), .int (nI (rd)), .int (nI (rp + 1)), .ref 388, .ref 389, .ref 390, .ref 391, .ref 392, .ref 393, .ref 394])) (by omega)
  have mo := C.mo
  refine R_aload_n dX8_readHeir_63 rfl ?_
  refine R_cV0v (N := m_X8_ends) dX8_readHeir_64 l_X8_127 i_X8_ends mo (n_ends (E := (e_nu (z_X Z).2 (z_X Z).1 0 rr (-1) (e_nu (z_X Z).2 (z_X Z).1 1 21 (-1) (e_nu (z_X Z).2 (z_X Z).1 0 5 (-1) E).2).2).2) C pe49 (e_nu_in (e_nu_in (e_nu_in hE))) bX bXc) rfl rfl (fun h64 q_64 => ?_)
  obtain ⟨a64, w64, wa64, C, pe64, FD1⟩ := q_64
  have FD := FD.trans FD1
  exact R_vret dX8_readHeir_67 rfl rfl rfl ⟨rfl, a64, w64, wa64, r14, r28, r49, C, pe64, er14, er28, er49, FD⟩
theorem n_readDoor {h : xH} {Z : xZ} {M : Nat → Nat → Int32} {sd : Nat → Int64} {kp : Nat → Int32} {a w rh rr rd rp : Nat} {wa : Int32} (C : x_ML h Z M sd kp (x_pt (a) (w) wa (rh) (rr) (rd) (rp))) {E : xE} (pe : x_PE E a w wa) (hE : E.1 = 0 → E.2.2 ≤ (z_X Z).1) (hd : rd < 8) (hr : rr ≤ 6) (bX : (z_X Z).1 ≤ 240) (bXc : ∀ i, i < (z_X Z).1 → (z_X Z).2 i < 256) : x_Met m_X8_readDoor [.ref 372] h (x_vd (fun h' => ∃ a' w' wa' v1 v2 v3, x_ML h' Z (s_arr (s_arr (s_arr M 15 (upd (M 15) rd v1)) 16 (upd (M 16) rd v2)) 17 (upd (M 17) rd v3)) sd kp (x_pt a' w' wa' rh rr (rd + 1) rp) ∧ v1 = (if (e_nu (z_X Z).2 (z_X Z).1 0 rr (-1) E).2.1 = 0 then nI (e_nu (z_X Z).2 (z_X Z).1 0 rr (-1) E).1 else nI 0) ∧ x_PE (e_end (z_X Z).2 (z_X Z).1 (e_nu (z_X Z).2 (z_X Z).1 0 10 (-1) (e_nu (z_X Z).2 (z_X Z).1 0 rr v1 (e_nu (z_X Z).2 (z_X Z).1 0 rr (-1) E).2).2).2) a' w' wa' ∧ v2 = (if (e_nu (z_X Z).2 (z_X Z).1 0 rr v1 (e_nu (z_X Z).2 (z_X Z).1 0 rr (-1) E).2).2.1 = 0 then nI (e_nu (z_X Z).2 (z_X Z).1 0 rr v1 (e_nu (z_X Z).2 (z_X Z).1 0 rr (-1) E).2).1 else nI 0) ∧ v3 = (if (e_nu (z_X Z).2 (z_X Z).1 0 10 (-1) (e_nu (z_X Z).2 (z_X Z).1 0 rr v1 (e_nu (z_X Z).2 (z_X Z).1 0 rr (-1) E).2).2).2.1 = 0 then nI (e_nu (z_X Z).2 (z_X Z).1 0 10 (-1) (e_nu (z_X Z).2 (z_X Z).1 0 rr v1 (e_nu (z_X Z).2 (z_X Z).1 0 rr (-1) E).2).2).1 else nI 0) ∧ x_fD h h')) := by
  have FD := x_fD.rf h
  have mo := C.mo
  have ha := pe.2.2.1
  have hw9 : w ≤ 100 := by
    by_cases z : E.1 = 0
    · have := (pe.1 z).2; omega
    · have := (pe.2.1 z).1; have := pe.2.2.2; omega
  have ha5 : E.1 = 0 → a ≤ 500 := fun z => by have := (pe.1 z).1; have := hE z; omega
  have m15 : h[388]? = some (x_ia 8 (M 15)) := C.1.2 15 (by decide)
  have m16 : h[389]? = some (x_ia 8 (M 16)) := C.1.2 16 (by decide)
  have m17 : h[390]? = some (x_ia 8 (M 17)) := C.1.2 17 (by decide)
  refine x_Met.of (lo := [some (.ref 372), none]) (by decide) rfl rfl rfl ?_
  refine R_aload_n dX8_readDoor_0 rfl ?_
  refine R_get dX8_readDoor_1 f_X8_130 mo rfl ?_
  refine R_istore_n dX8_readDoor_4 (Nat.le_of_ble_eq_true rfl) rfl ?_
  refine R_aload_n dX8_readDoor_5 rfl ?_
  refine R_get dX8_readDoor_6 f_X8_61 mo rfl ?_
  refine R_iload_n dX8_readDoor_9 rfl ?_
  refine R_aload_n dX8_readDoor_10 rfl ?_
  refine R_iconst (nI 0) dX8_readDoor_11 rfl ?_
  refine R_aload_n dX8_readDoor_12 rfl ?_
  refine R_get dX8_readDoor_13 f_X8_120 mo rfl ?_
  refine R_iconst (nI 1) dX8_readDoor_16 rfl ?_
  refine R_isub dX8_readDoor_17 ?_
  refine R_iconst (-1) dX8_readDoor_18 rfl ?_
  refine R_cV3i (N := m_X8_number) dX8_readDoor_19 l_X8_123 i_X8_number mo (n_number (lw := 0) (hi := rr) (E := E) (by omega) (x_hiR rr (by omega)) C pe hE bX bXc) rfl rfl (fun r19 h19 q_19 => ?_)
  obtain ⟨a19, w19, wa19, C, pe19, er19, FD1⟩ := q_19
  have FD := FD.trans FD1
  have mo := C.mo
  have m15 : h19[388]? = some (x_ia 8 (M 15)) := C.1.2 15 (by decide)
  refine R_iast dX8_readDoor_22 m15 (by omega) rfl (by omega) (by decide) ?_
  have C := C.r15 (upd (M 15) rd r19)
  have FD := FD.set (c := 388) (x_ia 8 (upd (M 15) rd r19)) (by omega)
  have mo := C.mo
  have m15b : (List.set h19 388 (x_ia 8 (upd (M 15) rd r19)))[388]? = some (x_ia 8 (upd (M 15) rd r19)) := List.getElem?_set_self (List.getElem?_eq_some_iff.mp m15).1
  refine R_aload_n dX8_readDoor_23 rfl ?_
  refine R_get dX8_readDoor_24 f_X8_64 mo rfl ?_
  refine R_iload_n dX8_readDoor_27 rfl ?_
  refine R_aload_n dX8_readDoor_28 rfl ?_
  refine R_iconst (nI 0) dX8_readDoor_29 rfl ?_
  refine R_aload_n dX8_readDoor_30 rfl ?_
  refine R_get dX8_readDoor_31 f_X8_120 mo rfl ?_
  refine R_iconst (nI 1) dX8_readDoor_34 rfl ?_
  refine R_isub dX8_readDoor_35 ?_
  refine R_aload_n dX8_readDoor_36 rfl ?_
  refine R_get dX8_readDoor_37 f_X8_61 mo rfl ?_
  refine R_iload_n dX8_readDoor_40 rfl ?_
  refine R_iald dX8_readDoor_41 m15b rfl (by omega) (by decide) ?_
  rw [show upd (M 15) rd r19 rd = r19 from x_upd_eq]
  refine R_cV3i (N := m_X8_number) dX8_readDoor_42 l_X8_123 i_X8_number mo (n_number (lw := 0) (hi := rr) (E := (e_nu (z_X Z).2 (z_X Z).1 0 rr (-1) E).2) (by omega) (x_hiR rr (by omega)) C pe19 (e_nu_in hE) bX bXc) rfl rfl (fun r42 h42 q_42 => ?_)
  obtain ⟨a42, w42, wa42, C, pe42, er42, FD1⟩ := q_42
  have FD := FD.trans FD1
  have mo := C.mo
  have m16 : h42[389]? = some (x_ia 8 (M 16)) := C.1.2 16 (by decide)
  refine R_iast dX8_readDoor_45 m16 (by omega) rfl (by omega) (by decide) ?_
  have C := C.r16 (upd (M 16) rd r42)
  have FD := FD.set (c := 389) (x_ia 8 (upd (M 16) rd r42)) (by omega)
  have mo := C.mo
  refine R_aload_n dX8_readDoor_46 rfl ?_
  refine R_get dX8_readDoor_47 f_X8_67 mo rfl ?_
  refine R_iload_n dX8_readDoor_50 rfl ?_
  refine R_aload_n dX8_readDoor_51 rfl ?_
  refine R_iconst (nI 0) dX8_readDoor_52 rfl ?_
  refine R_bipush (nI 9) dX8_readDoor_53 rfl ?_
  refine R_iconst (-1) dX8_readDoor_55 rfl ?_
  refine R_cV3i (N := m_X8_number) dX8_readDoor_56 l_X8_123 i_X8_number mo (n_number (lw := 0) (hi := 10) (E := (e_nu (z_X Z).2 (z_X Z).1 0 rr r19 (e_nu (z_X Z).2 (z_X Z).1 0 rr (-1) E).2).2) (by omega) (x_hiC (by decide)) C pe42 (e_nu_in (e_nu_in hE)) bX bXc) rfl rfl (fun r56 h56 q_56 => ?_)
  obtain ⟨a56, w56, wa56, C, pe56, er56, FD1⟩ := q_56
  have FD := FD.trans FD1
  have mo := C.mo
  have m17 : h56[390]? = some (x_ia 8 (M 17)) := C.1.2 17 (by decide)
  refine R_iast dX8_readDoor_59 m17 (by omega) rfl (by omega) (by decide) ?_
  have C := C.r17 (upd (M 17) rd r56)
  have FD := FD.set (c := 390) (x_ia 8 (upd (M 17) rd r56)) (by omega)
  have mo := C.mo
  refine R_aload_n dX8_readDoor_60 rfl ?_
  refine R_dup dX8_readDoor_61 rfl ?_
  refine R_get dX8_readDoor_62 f_X8_130 mo rfl ?_
  refine R_iconst (nI 1) dX8_readDoor_65 rfl ?_
  refine R_iaddN dX8_readDoor_66 ?_
  refine R_put dX8_readDoor_67 f_X8_130 mo (Nat.le_of_ble_eq_true rfl) (fun _ => rfl) (fun _ => rfl) ?_
  simp only [List.set_cons_succ, List.set_cons_zero]
  have C := C.tp (a56) (w56) wa56 (rh) (rr) (rd + 1) (rp)
  have FD := FD.set (c := 372) (.inr (8, [.ref 373, .int (nI (z_X Z).1), .int (z_f Z), .int (nI (z_N Z)), .int (nI (z_R Z)), .int (nI (z_D Z)), .int (nI (z_P Z)), .ref 374, .ref 375, .ref 376, .ref 377, .ref 378, .ref 379, .ref 380, .ref 381, .ref 382, .int (nI (z_T Z).1), .long (lN (z_s Z)), .ref 383, .ref 384, .ref 385, .ref 386, .int (nI (z_S Z).1), .ref 387, .int (nI (z_B Z).1), .int (nI (a56)), .int (nI (w56)), .int wa56, .int (nI (rh)), .int (nI (rr)), .int (nI (rd + 1)), .int (nI (rp)), .ref 388, .ref 389, .ref 390, .ref 391, .ref 392, .ref 393, .ref 394])) (by omega)
  have mo := C.mo
  refine R_aload_n dX8_readDoor_70 rfl ?_
  refine R_cV0v (N := m_X8_ends) dX8_readDoor_71 l_X8_127 i_X8_ends mo (n_ends (E := (e_nu (z_X Z).2 (z_X Z).1 0 10 (-1) (e_nu (z_X Z).2 (z_X Z).1 0 rr r19 (e_nu (z_X Z).2 (z_X Z).1 0 rr (-1) E).2).2).2) C pe56 (e_nu_in (e_nu_in (e_nu_in hE))) bX bXc) rfl rfl (fun h71 q_71 => ?_)
  obtain ⟨a71, w71, wa71, C, pe71, FD1⟩ := q_71
  have FD := FD.trans FD1
  exact R_vret dX8_readDoor_74 rfl rfl rfl ⟨rfl, a71, w71, wa71, r19, r42, r56, C, er19, pe71, er42, er56, FD⟩
