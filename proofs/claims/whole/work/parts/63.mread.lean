/-! THE MODEL reads -/
def x_pt (a w : Nat) (wa : Int32) (rh rr rd rp : Nat) : Nat → Int32
  | 0 => nI a
  | 1 => nI w
  | 2 => wa
  | 3 => nI rh
  | 4 => nI rr
  | 5 => nI rd
  | 6 => nI rp
  | _ => 0
theorem x_ML.tt {h : xH} {Z : xZ} {M : Nat → Nat → Int32} {sd : Nat → Int64} {kp t : Nat → Int32} (C : x_ML h Z M sd kp t) (t' : Nat → Int32) : x_ML (h.set 372 (x_mob (z_X Z).1 (z_f Z) (z_N Z) (z_R Z) (z_D Z) (z_P Z) (z_T Z).1 (z_s Z) (z_S Z).1 (z_B Z).1 t')) Z M sd kp t' := ⟨C.1.obj _, C.2⟩
theorem x_ML.mo {h : xH} {Z : xZ} {M : Nat → Nat → Int32} {sd : Nat → Int64} {kp : Nat → Int32} {a w rh rr rd rp : Nat} {wa : Int32} (C : x_ML h Z M sd kp (x_pt a w wa rh rr rd rp)) : h[372]? = some (.inr (8, [.ref 373, .int (nI (z_X Z).1), .int (z_f Z), .int (nI (z_N Z)), .int (nI (z_R Z)), .int (nI (z_D Z)), .int (nI (z_P Z)), .ref 374, .ref 375, .ref 376, .ref 377, .ref 378, .ref 379, .ref 380, .ref 381, .ref 382, .int (nI (z_T Z).1), .long (lN (z_s Z)), .ref 383, .ref 384, .ref 385, .ref 386, .int (nI (z_S Z).1), .ref 387, .int (nI (z_B Z).1), .int (nI (a)), .int (nI (w)), .int wa, .int (nI (rh)), .int (nI (rr)), .int (nI (rd)), .int (nI (rp)), .ref 388, .ref 389, .ref 390, .ref 391, .ref 392, .ref 393, .ref 394])) := C.1.1
theorem x_ML.tp {h : xH} {Z : xZ} {M : Nat → Nat → Int32} {sd : Nat → Int64} {kp t : Nat → Int32} (C : x_ML h Z M sd kp t) (a w : Nat) (wa : Int32) (rh rr rd rp : Nat) : x_ML (h.set 372 (.inr (8, [.ref 373, .int (nI (z_X Z).1), .int (z_f Z), .int (nI (z_N Z)), .int (nI (z_R Z)), .int (nI (z_D Z)), .int (nI (z_P Z)), .ref 374, .ref 375, .ref 376, .ref 377, .ref 378, .ref 379, .ref 380, .ref 381, .ref 382, .int (nI (z_T Z).1), .long (lN (z_s Z)), .ref 383, .ref 384, .ref 385, .ref 386, .int (nI (z_S Z).1), .ref 387, .int (nI (z_B Z).1), .int (nI (a)), .int (nI (w)), .int wa, .int (nI (rh)), .int (nI (rr)), .int (nI (rd)), .int (nI (rp)), .ref 388, .ref 389, .ref 390, .ref 391, .ref 392, .ref 393, .ref 394]))) Z M sd kp (x_pt a w wa rh rr rd rp) := C.tt (x_pt a w wa rh rr rd rp)
/-- where the reading stands, by the class's own account -/
def x_PE (E : xE) (a w : Nat) (wa : Int32) : Prop := (E.1 = 0 → a = E.2.2 ∧ w = 0) ∧ (¬ E.1 = 0 → w = E.1 ∧ wa = E.2.1) ∧ a ≤ 1000 ∧ E.1 ≤ 100
def s_here (n : Nat) (tx : Nat → Nat) (a : Nat) : Int32 := if a < n then nI (tx a) else -1
theorem x_in_N {c a b : Nat} (hc : c < 2 ^ 31) (ha : a < 2 ^ 31) (hb : b < 2 ^ 31) : x_in (nI c) (nI a) (nI b) = decide (a ≤ c ∧ c ≤ b) := by
  unfold x_in
  congr 1
  apply propext
  rw [nI_ltI hc ha, nI_ltI hb hc]
  omega
theorem n_here {h : xH} {Z : xZ} {M : Nat → Nat → Int32} {sd : Nat → Int64} {kp : Nat → Int32} {a w rh rr rd rp : Nat} {wa : Int32} (C : x_ML h Z M sd kp (x_pt (a) (w) wa (rh) (rr) (rd) (rp))) (ha : a ≤ 1000) (bX : (z_X Z).1 ≤ 240) (bXc : ∀ i, i < (z_X Z).1 → (z_X Z).2 i < 256) : x_Met m_X8_here [.ref 372] h (x_pr (s_here (z_X Z).1 (z_X Z).2 a) h) := by
  have mo := C.mo
  have wx : ∀ i, i < (z_X Z).1 → M 0 i = nI ((z_X Z).2 i) := C.2.2.2.2.2.2.2.2.2.2.2.2.2.2
  have m0 : h[373]? = some (x_ia 240 (M 0)) := C.1.2 0 (by decide)
  refine x_Met.of (lo := [some (.ref 372)]) (by decide) rfl rfl rfl ?_
  refine R_aload_n dX8_here_0 rfl ?_
  refine R_get dX8_here_1 f_X8_100 mo rfl ?_
  refine R_aload_n dX8_here_4 rfl ?_
  refine R_get dX8_here_5 f_X8_96 mo rfl ?_
  refine R_geN 23 dX8_here_8 rfl (by omega) (by omega) (fun c_8 => ?_) (fun c_8 => ?_)
  · refine R_iconst (-1) dX8_here_23 rfl ?_
    exact R_iret dX8_here_24 rfl rfl rfl (x_pr.eq (by rw [s_here, if_neg (by omega)]))
  · refine R_aload_n dX8_here_11 rfl ?_
    refine R_get dX8_here_12 f_X8_7 mo rfl ?_
    refine R_aload_n dX8_here_15 rfl ?_
    refine R_get dX8_here_16 f_X8_100 mo rfl ?_
    refine R_iald dX8_here_19 m0 rfl (by omega) (by decide) ?_
    rw [wx a (by omega)]
    refine R_goto 24 dX8_here_20 rfl ?_
    exact R_iret dX8_here_24 rfl rfl rfl (x_pr.eq (by rw [s_here, if_pos c_8]))
theorem s_skip_up (tx : Nat → Nat) (n i : Nat) : i ≤ s_skip tx n i := by
  by_cases h : i ≤ n
  · exact (s_skip_le h).1
  · rw [s_skip_f (by omega)]; exact Nat.le_refl i
theorem s_skip_le5 {tx : Nat → Nat} {n i : Nat} (hn : n ≤ 240) (h : i ≤ 500) : s_skip tx n i ≤ 500 := by
  by_cases h1 : i ≤ n
  · have := (s_skip_le (tx := tx) h1).2; omega
  · rw [s_skip_f (by omega)]; exact h
theorem s_here_is {n : Nat} {tx : Nat → Nat} {a c : Nat} (hc : c < 2 ^ 31) (ht : ∀ j, j < n → tx j < 2 ^ 31) (h : s_here n tx a = nI c) : a < n ∧ tx a = c := by
  unfold s_here at h
  split at h
  · rename_i h1
    exact ⟨h1, (nI_eq (ht a h1) hc).mp h⟩
  · exact absurd (show nI c < 0 by rw [← h]; decide) (nI_pos hc)
theorem n_skips_loop {h : xH} {Z : xZ} {M : Nat → Nat → Int32} {sd : Nat → Int64} {kp : Nat → Int32} {a w rh rr rd rp : Nat} {wa : Int32} (bX : (z_X Z).1 ≤ 240) (bXc : ∀ i, i < (z_X Z).1 → (z_X Z).2 i < 256) (ha : a ≤ 500) : ∀ (m i : Nat), 1001 ≤ i + m → ∀ (g : xH), x_ML g Z M sd kp (x_pt (i) (w) wa (rh) (rr) (rd) (rp)) → x_fD h g → s_skip (z_X Z).2 (z_X Z).1 i = s_skip (z_X Z).2 (z_X Z).1 a → x_Rn m_X8_skips 0 [some (.ref 372)] [] g (0, 0) (x_vd (fun h' => x_ML h' Z M sd kp (x_pt (s_skip (z_X Z).2 (z_X Z).1 a) (w) wa (rh) (rr) (rd) (rp)) ∧ x_fD h h')) := by
  intro m
  induction m with
  | zero => intro i h1 g C FD hs; have := s_skip_up (z_X Z).2 (z_X Z).1 i; have := s_skip_le5 (tx := (z_X Z).2) bX ha; omega
  | succ m ih =>
    intro i h1 g C FD hs
    have hi5 : i ≤ 500 := by have := s_skip_up (z_X Z).2 (z_X Z).1 i; have := s_skip_le5 (tx := (z_X Z).2) bX ha; omega
    have mo := C.mo
    refine R_aload_n dX8_skips_0 rfl ?_
    refine R_cV0p (N := m_X8_here) dX8_skips_1 l_X8_103 i_X8_here mo (n_here C (by omega) bX bXc) rfl rfl ?_
    refine R_bipush (nI 32) dX8_skips_4 rfl ?_
    refine R_icmpne 22 dX8_skips_6 rfl (fun c_6 => ?_) (fun c_6 => ?_)
    · have hn : ¬ (i < (z_X Z).1 ∧ (z_X Z).2 i = 32) := fun z => c_6 (by rw [s_here, if_pos z.1, z.2])
      exact R_vret dX8_skips_22 rfl rfl rfl ⟨rfl, by rw [← hs, s_skip_f hn]; exact C, FD⟩
    · have hy : i < (z_X Z).1 ∧ (z_X Z).2 i = 32 := s_here_is (by decide) (fun j hj => by have := bXc j hj; omega) c_6
      refine R_aload_n dX8_skips_9 rfl ?_
      refine R_dup dX8_skips_10 rfl ?_
      refine R_get dX8_skips_11 f_X8_100 mo rfl ?_
      refine R_iconst (nI 1) dX8_skips_14 rfl ?_
      refine R_iaddN dX8_skips_15 ?_
      refine R_put dX8_skips_16 f_X8_100 mo (Nat.le_of_ble_eq_true rfl) (fun _ => rfl) (fun _ => rfl) ?_
      simp only [List.set_cons_succ, List.set_cons_zero]
      have C := C.tp (i + 1) (w) wa (rh) (rr) (rd) (rp)
      have FD := FD.set (c := 372) (.inr (8, [.ref 373, .int (nI (z_X Z).1), .int (z_f Z), .int (nI (z_N Z)), .int (nI (z_R Z)), .int (nI (z_D Z)), .int (nI (z_P Z)), .ref 374, .ref 375, .ref 376, .ref 377, .ref 378, .ref 379, .ref 380, .ref 381, .ref 382, .int (nI (z_T Z).1), .long (lN (z_s Z)), .ref 383, .ref 384, .ref 385, .ref 386, .int (nI (z_S Z).1), .ref 387, .int (nI (z_B Z).1), .int (nI (i + 1)), .int (nI (w)), .int wa, .int (nI (rh)), .int (nI (rr)), .int (nI (rd)), .int (nI (rp)), .ref 388, .ref 389, .ref 390, .ref 391, .ref 392, .ref 393, .ref 394])) (by omega)
      have mo := C.mo
      refine R_goto 0 dX8_skips_19 rfl ?_
      rw [s_skip_t hy.1 hy.2] at hs
      exact ih (i + 1) (by omega) _ C FD hs
theorem n_skips {h : xH} {Z : xZ} {M : Nat → Nat → Int32} {sd : Nat → Int64} {kp : Nat → Int32} {a w rh rr rd rp : Nat} {wa : Int32} (C : x_ML h Z M sd kp (x_pt (a) (w) wa (rh) (rr) (rd) (rp))) (ha : a ≤ 500) (bX : (z_X Z).1 ≤ 240) (bXc : ∀ i, i < (z_X Z).1 → (z_X Z).2 i < 256) : x_Met m_X8_skips [.ref 372] h (x_vd (fun h' => x_ML h' Z M sd kp (x_pt (s_skip (z_X Z).2 (z_X Z).1 a) (w) wa (rh) (rr) (rd) (rp)) ∧ x_fD h h')) := by
  refine x_Met.of (lo := [some (.ref 372)]) (by decide) rfl rfl rfl ?_
  exact n_skips_loop bX bXc ha 1001 a (by omega) h C (x_fD.rf h) rfl
theorem n_fails {h : xH} {Z : xZ} {M : Nat → Nat → Int32} {sd : Nat → Int64} {kp : Nat → Int32} {a w rh rr rd rp : Nat} {wa : Int32} {kd : Nat} (C : x_ML h Z M sd kp (x_pt (a) (w) wa (rh) (rr) (rd) (rp))) (hw : w = 0) : x_Met m_X8_fails [.ref 372, .int (nI kd)] h (x_vd (fun h' => x_ML h' Z M sd kp (x_pt (a) (kd) (nI a) (rh) (rr) (rd) (rp)) ∧ x_fD h h')) := by
  have FD := x_fD.rf h
  have mo := C.mo
  refine x_Met.of (lo := [some (.ref 372), some (.int (nI kd))]) (by decide) rfl rfl rfl ?_
  refine R_aload_n dX8_fails_0 rfl ?_
  refine R_get dX8_fails_1 f_X8_107 mo rfl ?_
  refine R_ifneN 20 dX8_fails_4 rfl (by omega) (fun c_4 => ?_) (fun c_4 => ?_)
  · exact absurd hw c_4
  · refine R_aload_n dX8_fails_7 rfl ?_
    refine R_iload_n dX8_fails_8 rfl ?_
    refine R_put dX8_fails_9 f_X8_107 mo (Nat.le_of_ble_eq_true rfl) (fun _ => rfl) (fun _ => rfl) ?_
    simp only [List.set_cons_succ, List.set_cons_zero]
    have C := C.tp (a) (kd) wa (rh) (rr) (rd) (rp)
    have FD := FD.set (c := 372) (.inr (8, [.ref 373, .int (nI (z_X Z).1), .int (z_f Z), .int (nI (z_N Z)), .int (nI (z_R Z)), .int (nI (z_D Z)), .int (nI (z_P Z)), .ref 374, .ref 375, .ref 376, .ref 377, .ref 378, .ref 379, .ref 380, .ref 381, .ref 382, .int (nI (z_T Z).1), .long (lN (z_s Z)), .ref 383, .ref 384, .ref 385, .ref 386, .int (nI (z_S Z).1), .ref 387, .int (nI (z_B Z).1), .int (nI (a)), .int (nI (kd)), .int wa, .int (nI (rh)), .int (nI (rr)), .int (nI (rd)), .int (nI (rp)), .ref 388, .ref 389, .ref 390, .ref 391, .ref 392, .ref 393, .ref 394])) (by omega)
    have mo := C.mo
    refine R_aload_n dX8_fails_12 rfl ?_
    refine R_aload_n dX8_fails_13 rfl ?_
    refine R_get dX8_fails_14 f_X8_100 mo rfl ?_
    refine R_put dX8_fails_17 f_X8_110 mo (Nat.le_of_ble_eq_true rfl) (fun _ => rfl) (fun _ => rfl) ?_
    simp only [List.set_cons_succ, List.set_cons_zero]
    have C := C.tp (a) (kd) (nI a) (rh) (rr) (rd) (rp)
    have FD := FD.set (c := 372) (.inr (8, [.ref 373, .int (nI (z_X Z).1), .int (z_f Z), .int (nI (z_N Z)), .int (nI (z_R Z)), .int (nI (z_D Z)), .int (nI (z_P Z)), .ref 374, .ref 375, .ref 376, .ref 377, .ref 378, .ref 379, .ref 380, .ref 381, .ref 382, .int (nI (z_T Z).1), .long (lN (z_s Z)), .ref 383, .ref 384, .ref 385, .ref 386, .int (nI (z_S Z).1), .ref 387, .int (nI (z_B Z).1), .int (nI (a)), .int (nI (kd)), .int (nI a), .int (nI (rh)), .int (nI (rr)), .int (nI (rd)), .int (nI (rp)), .ref 388, .ref 389, .ref 390, .ref 391, .ref 392, .ref 393, .ref 394])) (by omega)
    have mo := C.mo
    exact R_vret dX8_fails_20 rfl rfl rfl ⟨rfl, C, FD⟩
