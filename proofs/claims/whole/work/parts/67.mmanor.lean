/-! THE MODEL reads a manor -/
theorem e_num_ge {tx : Nat → Nat} {n lw hi : Nat} {E : xE} : E.2.2 ≤ (e_num tx n lw hi E).2.2.2 := by
  rw [e_num_at]; have := s_skip_up tx n E.2.2; omega
theorem e_end_at {tx : Nat → Nat} {n : Nat} {E : xE} (h : (e_end tx n E).1 = 0) : E.2.2 + 1 ≤ (e_end tx n E).2.2 ∧ (e_end tx n E).2.2 ≤ n := by
  have h1 := (e_failIf_fk (by decide) (show (e_failIf _ 1 _ (E.1, E.2.1, s_skip tx n E.2.2)).1 = 0 from h)).1
  have h2 := s_skip_up tx n E.2.2
  have h3 : s_skip tx n E.2.2 < n := (Classical.byContradiction (of_decide_eq_false h1)).1
  show E.2.2 + 1 ≤ s_skip tx n E.2.2 + 1 ∧ s_skip tx n E.2.2 + 1 ≤ n
  omega
theorem e_clause_at {tx : Nat → Nat} {n : Nat} {E : xE} {W : xW} (h : (e_clause tx n E W).1.1 = 0) : E.2.2 + 1 ≤ (e_clause tx n E W).1.2.2 ∧ (e_clause tx n E W).1.2.2 ≤ n := by
  unfold e_clause at h ⊢
  by_cases c1 : ¬ tx E.2.2 = 110 ∧ W.1 = 0
  · rw [if_pos c1] at h; exact absurd h (e_fail_fk (by decide))
  rw [if_neg c1] at h ⊢
  by_cases c2 : tx E.2.2 = 110
  · rw [if_pos c2] at h ⊢
    have a := e_end_at (E := (e_nq tx n E.2.2 (E.1, E.2.1, E.2.2 + 1) W).2) h
    have b := e_num_ge (tx := tx) (n := n) (lw := 1) (hi := 21) (E := e_failIf (decide (¬ W.1 = 0)) 3 E.2.2 (E.1, E.2.1, E.2.2 + 1))
    rw [e_failIf_at] at b
    have b : E.2.2 + 1 ≤ (e_nq tx n E.2.2 (E.1, E.2.1, E.2.2 + 1) W).2.2.2 := b
    exact ⟨by have := a.1; show _ ≤ (e_end tx n (e_nq tx n E.2.2 (E.1, E.2.1, E.2.2 + 1) W).2).2.2; omega, a.2⟩
  rw [if_neg c2] at h ⊢
  by_cases c3 : tx E.2.2 = 114
  · rw [if_pos c3] at h ⊢
    have a := e_end_at (E := (e_rq tx n E.2.2 (E.1, E.2.1, E.2.2 + 1) W).2) h
    have b := e_num_ge (tx := tx) (n := n) (lw := 0) (hi := 21) (E := e_failIf (decide (6 ≤ W.2.1)) 3 E.2.2 (E.1, E.2.1, E.2.2 + 1))
    rw [e_failIf_at] at b
    have b : E.2.2 + 1 ≤ (e_rq tx n E.2.2 (E.1, E.2.1, E.2.2 + 1) W).2.2.2 := b
    exact ⟨by have := a.1; show _ ≤ (e_end tx n (e_rq tx n E.2.2 (E.1, E.2.1, E.2.2 + 1) W).2).2.2; omega, a.2⟩
  rw [if_neg c3] at h ⊢
  by_cases c4 : tx E.2.2 = 100
  · rw [if_pos c4] at h ⊢
    have a := e_end_at (E := (e_dqt tx n E.2.2 (E.1, E.2.1, E.2.2 + 1) W).2) h
    have b1 := e_num_ge (tx := tx) (n := n) (lw := 0) (hi := W.2.1) (E := e_failIf (decide (8 ≤ W.2.2.1)) 3 E.2.2 (E.1, E.2.1, E.2.2 + 1))
    rw [e_failIf_at] at b1
    have b1 : E.2.2 + 1 ≤ (e_dqa tx n E.2.2 (E.1, E.2.1, E.2.2 + 1) W).2.2.2 := b1
    have b2 := e_num_ge (tx := tx) (n := n) (lw := 0) (hi := W.2.1) (E := (e_dqa tx n E.2.2 (E.1, E.2.1, E.2.2 + 1) W).2)
    rw [← e_dqb_eq] at b2
    have b3 : (e_dqb tx n E.2.2 (E.1, E.2.1, E.2.2 + 1) W).2.2.2 ≤ (e_dqt tx n E.2.2 (E.1, E.2.1, E.2.2 + 1) W).2.2.2 := by
      unfold e_dqt
      refine Nat.le_trans ?_ e_num_ge
      rw [e_failIf_at]; exact Nat.le_refl _
    exact ⟨by have := a.1; show _ ≤ (e_end tx n (e_dqt tx n E.2.2 (E.1, E.2.1, E.2.2 + 1) W).2).2.2; omega, a.2⟩
  rw [if_neg c4] at h ⊢
  by_cases c5 : tx E.2.2 = 112
  · rw [if_pos c5] at h ⊢
    have a := e_end_at (E := (e_hqr tx n E.2.2 (E.1, E.2.1, E.2.2 + 1) W).2) h
    have b1 := e_num_ge (tx := tx) (n := n) (lw := 0) (hi := 5) (E := e_failIf (decide (6 ≤ W.2.2.2.1)) 3 E.2.2 (E.1, E.2.1, E.2.2 + 1))
    rw [e_failIf_at] at b1
    have b1 : E.2.2 + 1 ≤ (e_hqk tx n E.2.2 (E.1, E.2.1, E.2.2 + 1) W).2.2.2 := b1
    have b2 : (e_hqk tx n E.2.2 (E.1, E.2.1, E.2.2 + 1) W).2.2.2 ≤ (e_hqv tx n E.2.2 (E.1, E.2.1, E.2.2 + 1) W).2.2.2 := by unfold e_hqv; exact e_num_ge
    have b3 : (e_hqv tx n E.2.2 (E.1, E.2.1, E.2.2 + 1) W).2.2.2 ≤ (e_hqr tx n E.2.2 (E.1, E.2.1, E.2.2 + 1) W).2.2.2 := by unfold e_hqr; exact e_num_ge
    exact ⟨by have := a.1; show _ ≤ (e_end tx n (e_hqr tx n E.2.2 (E.1, E.2.1, E.2.2 + 1) W).2).2.2; omega, a.2⟩
  rw [if_neg c5] at h; exact absurd h (e_fail_fk (by decide))
theorem x_sets {h : xH} {c : Nat} {v w : xC} (e : h[c]? = some w) : (h.set c v)[c]? = some v := List.getElem?_set_self (List.getElem?_eq_some_iff.mp e).1
theorem n_readClause {h : xH} {Z : xZ} {M : Nat → Nat → Int32} {sd : Nat → Int64} {kp : Nat → Int32} {a rh rr rd rp : Nat} {wa : Int32} (C : x_ML h Z M sd kp (x_pt (a) (0) wa (rh) (rr) (rd) (rp))) {E : xE} {W : xW} (h0 : E.1 = 0) (ea : a = E.2.2) (hlt : a < (z_X Z).1) (HW : x_PW W M rh rr rd rp) (hWB : x_WB W) (bX : (z_X Z).1 ≤ 240) (bXc : ∀ i, i < (z_X Z).1 → (z_X Z).2 i < 256) : x_Met m_X8_readClause [.ref 372] h (x_vd (fun h' => ∃ M' a' w' wa' rh' rr' rd' rp', x_ML h' Z M' sd kp (x_pt a' w' wa' rh' rr' rd' rp') ∧ x_PR (e_clause (z_X Z).2 (z_X Z).1 E W) M' a' w' wa' rh' rr' rd' rp' ∧ x_fD h h')) := by
  have FD := x_fD.rf h
  have mo := C.mo
  have hl := bXc a hlt
  have el : (z_X Z).2 E.2.2 = (z_X Z).2 a := by rw [ea]
  obtain ⟨hw1, hw2, hw3, hw4, hw5, hw6, hw7, hw8, hw9⟩ := id HW
  obtain ⟨⟨b1, b2, b3, b4⟩, b5, b6, b7, b8⟩ := id hWB
  rw [← hw1] at b1 b8
  rw [← hw2] at b2
  rw [← hw3] at b3
  rw [← hw4] at b4
  refine x_Met.of (lo := [some (.ref 372), none, none]) (by decide) rfl rfl rfl ?_
  refine R_aload_n dX8_readClause_0 rfl ?_
  refine R_cV0p (N := m_X8_here) dX8_readClause_1 l_X8_103 i_X8_here mo (n_here C (by omega) bX bXc) rfl rfl ?_
  rw [show s_here (z_X Z).1 (z_X Z).2 a = nI ((z_X Z).2 a) from if_pos hlt]
  refine R_istore_n dX8_readClause_4 (Nat.le_of_ble_eq_true rfl) rfl ?_
  refine R_aload_n dX8_readClause_5 rfl ?_
  refine R_get dX8_readClause_6 f_X8_136 mo rfl ?_
  refine R_ifneN 16 dX8_readClause_9 rfl (by omega) (fun c_9 => ?_) (fun c_9 => ?_)
  · skip
    refine R_iconst (nI 0) dX8_readClause_16 rfl ?_
    refine R_istore_n dX8_readClause_17 (Nat.le_of_ble_eq_true rfl) rfl ?_
    refine R_iload_n dX8_readClause_18 rfl ?_
    refine R_bipush (nI 110) dX8_readClause_19 rfl ?_
    refine R_neN 57 dX8_readClause_21 rfl (by omega) (by omega) (fun c_21 => ?_) (fun c_21 => ?_)
    · skip
      refine R_iload_n dX8_readClause_57 rfl ?_
      refine R_ifneN 85 dX8_readClause_58 rfl (by omega) (fun c_58 => ?_) (fun c_58 => ?_)
      · omega
      · skip
        refine R_iload_n dX8_readClause_61 rfl ?_
        refine R_bipush (nI 110) dX8_readClause_62 rfl ?_
        refine R_eqN 93 dX8_readClause_64 rfl (by omega) (by omega) (fun c_64 => ?_) (fun c_64 => ?_)
        · omega
        · skip
          refine R_iload_n dX8_readClause_67 rfl ?_
          refine R_bipush (nI 114) dX8_readClause_68 rfl ?_
          refine R_eqN 93 dX8_readClause_70 rfl (by omega) (by omega) (fun c_70 => ?_) (fun c_70 => ?_)
          · skip
            refine R_iload_n dX8_readClause_93 rfl ?_
            refine R_bipush (nI 110) dX8_readClause_94 rfl ?_
            refine R_eqN 144 dX8_readClause_96 rfl (by omega) (by omega) (fun c_96 => ?_) (fun c_96 => ?_)
            · omega
            · skip
              refine R_iload_n dX8_readClause_99 rfl ?_
              refine R_bipush (nI 114) dX8_readClause_100 rfl ?_
              refine R_neN 114 dX8_readClause_102 rfl (by omega) (by omega) (fun c_102 => ?_) (fun c_102 => ?_)
              · omega
              · skip
                refine R_aload_n dX8_readClause_105 rfl ?_
                refine R_get dX8_readClause_106 f_X8_120 mo rfl ?_
                refine R_bipush (nI 6) dX8_readClause_109 rfl ?_
                refine R_eqN 144 dX8_readClause_111 rfl (by omega) (by omega) (fun c_111 => ?_) (fun c_111 => ?_)
                · refine R_aload_n dX8_readClause_144 rfl ?_
                  refine R_iconst (nI 3) dX8_readClause_145 rfl ?_
                  refine R_cV1v (N := m_X8_fails) dX8_readClause_146 l_X8_116 i_X8_fails mo (n_fails (kd := 3) C rfl) rfl rfl (fun h146 q_146 => ?_)
                  obtain ⟨C, FD1⟩ := q_146
                  have FD := FD.trans FD1
                  refine R_goto 192 dX8_readClause_149 rfl ?_
                  have ec : e_clause (z_X Z).2 (z_X Z).1 E W = e_room (z_X Z).2 (z_X Z).1 E.2.2 (E.1, E.2.1, E.2.2 + 1) W := by rw [e_clause, if_neg (show ¬ (¬ (z_X Z).2 E.2.2 = 110 ∧ W.1 = 0) by omega), if_neg (show ¬ (z_X Z).2 E.2.2 = 110 by omega), if_pos (show (z_X Z).2 E.2.2 = 114 by omega)]
                  have em := (e_many (tx := (z_X Z).2) (n := (z_X Z).1) (wat := E.2.2) (E := (E.1, E.2.1, E.2.2 + 1)) (W := W) h0).2.1 (by omega)
                  exact R_vret dX8_readClause_192 rfl rfl rfl ⟨rfl, M, _, _, _, _, _, _, _, C, x_PR.bad (kd := 3) (pos := a) (by decide) (by decide) (by omega) (by rw [ec]; exact em.1) (by rw [ec, ea]; exact em.2), FD⟩
                · refine R_iload_n dX8_readClause_114 rfl ?_
                  refine R_bipush (nI 100) dX8_readClause_115 rfl ?_
                  refine R_neN 129 dX8_readClause_117 rfl (by omega) (by omega) (fun c_117 => ?_) (fun c_117 => ?_)
                  · skip
                    refine R_iload_n dX8_readClause_129 rfl ?_
                    refine R_bipush (nI 112) dX8_readClause_130 rfl ?_
                    refine R_neN 152 dX8_readClause_132 rfl (by omega) (by omega) (fun c_132 => ?_) (fun c_132 => ?_)
                    · skip
                      refine R_aload_n dX8_readClause_152 rfl ?_
                      refine R_dup dX8_readClause_153 rfl ?_
                      refine R_get dX8_readClause_154 f_X8_100 mo rfl ?_
                      refine R_iconst (nI 1) dX8_readClause_157 rfl ?_
                      refine R_iaddN dX8_readClause_158 ?_
                      refine R_put dX8_readClause_159 f_X8_100 mo (Nat.le_of_ble_eq_true rfl) (fun _ => rfl) (fun _ => rfl) ?_
                      simp only [List.set_cons_succ, List.set_cons_zero]
                      have C := C.tp (a + 1) (0) wa (rh) (rr) (rd) (rp)
                      have FD := FD.set (c := 372) (.inr (8, [.ref 373, .int (nI (z_X Z).1), .int (z_f Z), .int (nI (z_N Z)), .int (nI (z_R Z)), .int (nI (z_D Z)), .int (nI (z_P Z)), .ref 374, .ref 375, .ref 376, .ref 377, .ref 378, .ref 379, .ref 380, .ref 381, .ref 382, .int (nI (z_T Z).1), .long (lN (z_s Z)), .ref 383, .ref 384, .ref 385, .ref 386, .int (nI (z_S Z).1), .ref 387, .int (nI (z_B Z).1), .int (nI (a + 1)), .int (nI (0)), .int wa, .int (nI (rh)), .int (nI (rr)), .int (nI (rd)), .int (nI (rp)), .ref 388, .ref 389, .ref 390, .ref 391, .ref 392, .ref 393, .ref 394])) (by omega)
                      have mo := C.mo
                      have pe : x_PE (E.1, E.2.1, E.2.2 + 1) (a + 1) 0 wa := ⟨fun _ => ⟨by rw [ea], rfl⟩, fun z => absurd h0 z, by omega, by show E.1 ≤ 100; omega⟩
                      have hE : (E.1, E.2.1, E.2.2 + 1).1 = 0 → (E.1, E.2.1, E.2.2 + 1).2.2 ≤ (z_X Z).1 := fun _ => by show E.2.2 + 1 ≤ _; omega
                      refine R_iload_n dX8_readClause_162 rfl ?_
                      refine R_bipush (nI 114) dX8_readClause_163 rfl ?_
                      refine R_neN 175 dX8_readClause_165 rfl (by omega) (by omega) (fun c_165 => ?_) (fun c_165 => ?_)
                      · omega
                      · skip
                        refine R_aload_n dX8_readClause_168 rfl ?_
                        refine R_cV0v (N := m_X8_readRoom) dX8_readClause_169 l_X8_139 i_X8_readRoom mo (n_readRoom (E := (E.1, E.2.1, E.2.2 + 1)) C pe hE (by omega) bX bXc) rfl rfl (fun h169 q_169 => ?_)
                        obtain ⟨aR, wR, waR, vR, C, peR, hvR, FD1⟩ := q_169
                        have FD := FD.trans FD1
                        refine R_goto 192 dX8_readClause_172 rfl ?_
                        have ec : e_clause (z_X Z).2 (z_X Z).1 E W = e_room (z_X Z).2 (z_X Z).1 E.2.2 (E.1, E.2.1, E.2.2 + 1) W := by rw [e_clause, if_neg (show ¬ (¬ (z_X Z).2 E.2.2 = 110 ∧ W.1 = 0) by omega), if_neg (show ¬ (z_X Z).2 E.2.2 = 110 by omega), if_pos (show (z_X Z).2 E.2.2 = 114 by omega)]
                        exact R_vret dX8_readClause_192 rfl rfl rfl ⟨rfl, _, _, _, _, _, _, _, _, C, by rw [ec]; exact x_PR.room HW (by omega) peR hvR, FD⟩
                    · omega
                  · omega
          · skip
            refine R_iload_n dX8_readClause_73 rfl ?_
            refine R_bipush (nI 100) dX8_readClause_74 rfl ?_
            refine R_eqN 93 dX8_readClause_76 rfl (by omega) (by omega) (fun c_76 => ?_) (fun c_76 => ?_)
            · skip
              refine R_iload_n dX8_readClause_93 rfl ?_
              refine R_bipush (nI 110) dX8_readClause_94 rfl ?_
              refine R_eqN 144 dX8_readClause_96 rfl (by omega) (by omega) (fun c_96 => ?_) (fun c_96 => ?_)
              · omega
              · skip
                refine R_iload_n dX8_readClause_99 rfl ?_
                refine R_bipush (nI 114) dX8_readClause_100 rfl ?_
                refine R_neN 114 dX8_readClause_102 rfl (by omega) (by omega) (fun c_102 => ?_) (fun c_102 => ?_)
                · skip
                  refine R_iload_n dX8_readClause_114 rfl ?_
                  refine R_bipush (nI 100) dX8_readClause_115 rfl ?_
                  refine R_neN 129 dX8_readClause_117 rfl (by omega) (by omega) (fun c_117 => ?_) (fun c_117 => ?_)
                  · omega
                  · skip
                    refine R_aload_n dX8_readClause_120 rfl ?_
                    refine R_get dX8_readClause_121 f_X8_130 mo rfl ?_
                    refine R_bipush (nI 8) dX8_readClause_124 rfl ?_
                    refine R_eqN 144 dX8_readClause_126 rfl (by omega) (by omega) (fun c_126 => ?_) (fun c_126 => ?_)
                    · refine R_aload_n dX8_readClause_144 rfl ?_
                      refine R_iconst (nI 3) dX8_readClause_145 rfl ?_
                      refine R_cV1v (N := m_X8_fails) dX8_readClause_146 l_X8_116 i_X8_fails mo (n_fails (kd := 3) C rfl) rfl rfl (fun h146 q_146 => ?_)
                      obtain ⟨C, FD1⟩ := q_146
                      have FD := FD.trans FD1
                      refine R_goto 192 dX8_readClause_149 rfl ?_
                      have ec : e_clause (z_X Z).2 (z_X Z).1 E W = e_door (z_X Z).2 (z_X Z).1 E.2.2 (E.1, E.2.1, E.2.2 + 1) W := by rw [e_clause, if_neg (show ¬ (¬ (z_X Z).2 E.2.2 = 110 ∧ W.1 = 0) by omega), if_neg (show ¬ (z_X Z).2 E.2.2 = 110 by omega), if_neg (show ¬ (z_X Z).2 E.2.2 = 114 by omega), if_pos (show (z_X Z).2 E.2.2 = 100 by omega)]
                      have em := (e_many (tx := (z_X Z).2) (n := (z_X Z).1) (wat := E.2.2) (E := (E.1, E.2.1, E.2.2 + 1)) (W := W) h0).2.2.1 (by omega)
                      exact R_vret dX8_readClause_192 rfl rfl rfl ⟨rfl, M, _, _, _, _, _, _, _, C, x_PR.bad (kd := 3) (pos := a) (by decide) (by decide) (by omega) (by rw [ec]; exact em.1) (by rw [ec, ea]; exact em.2), FD⟩
                    · refine R_iload_n dX8_readClause_129 rfl ?_
                      refine R_bipush (nI 112) dX8_readClause_130 rfl ?_
                      refine R_neN 152 dX8_readClause_132 rfl (by omega) (by omega) (fun c_132 => ?_) (fun c_132 => ?_)
                      · skip
                        refine R_aload_n dX8_readClause_152 rfl ?_
                        refine R_dup dX8_readClause_153 rfl ?_
                        refine R_get dX8_readClause_154 f_X8_100 mo rfl ?_
                        refine R_iconst (nI 1) dX8_readClause_157 rfl ?_
                        refine R_iaddN dX8_readClause_158 ?_
                        refine R_put dX8_readClause_159 f_X8_100 mo (Nat.le_of_ble_eq_true rfl) (fun _ => rfl) (fun _ => rfl) ?_
                        simp only [List.set_cons_succ, List.set_cons_zero]
                        have C := C.tp (a + 1) (0) wa (rh) (rr) (rd) (rp)
                        have FD := FD.set (c := 372) (.inr (8, [.ref 373, .int (nI (z_X Z).1), .int (z_f Z), .int (nI (z_N Z)), .int (nI (z_R Z)), .int (nI (z_D Z)), .int (nI (z_P Z)), .ref 374, .ref 375, .ref 376, .ref 377, .ref 378, .ref 379, .ref 380, .ref 381, .ref 382, .int (nI (z_T Z).1), .long (lN (z_s Z)), .ref 383, .ref 384, .ref 385, .ref 386, .int (nI (z_S Z).1), .ref 387, .int (nI (z_B Z).1), .int (nI (a + 1)), .int (nI (0)), .int wa, .int (nI (rh)), .int (nI (rr)), .int (nI (rd)), .int (nI (rp)), .ref 388, .ref 389, .ref 390, .ref 391, .ref 392, .ref 393, .ref 394])) (by omega)
                        have mo := C.mo
                        have pe : x_PE (E.1, E.2.1, E.2.2 + 1) (a + 1) 0 wa := ⟨fun _ => ⟨by rw [ea], rfl⟩, fun z => absurd h0 z, by omega, by show E.1 ≤ 100; omega⟩
                        have hE : (E.1, E.2.1, E.2.2 + 1).1 = 0 → (E.1, E.2.1, E.2.2 + 1).2.2 ≤ (z_X Z).1 := fun _ => by show E.2.2 + 1 ≤ _; omega
                        refine R_iload_n dX8_readClause_162 rfl ?_
                        refine R_bipush (nI 114) dX8_readClause_163 rfl ?_
                        refine R_neN 175 dX8_readClause_165 rfl (by omega) (by omega) (fun c_165 => ?_) (fun c_165 => ?_)
                        · skip
                          refine R_iload_n dX8_readClause_175 rfl ?_
                          refine R_bipush (nI 100) dX8_readClause_176 rfl ?_
                          refine R_neN 188 dX8_readClause_178 rfl (by omega) (by omega) (fun c_178 => ?_) (fun c_178 => ?_)
                          · omega
                          · skip
                            refine R_aload_n dX8_readClause_181 rfl ?_
                            refine R_cV0v (N := m_X8_readDoor) dX8_readClause_182 l_X8_142 i_X8_readDoor mo (n_readDoor (E := (E.1, E.2.1, E.2.2 + 1)) C pe hE (by omega) (by omega) bX bXc) rfl rfl (fun h182 q_182 => ?_)
                            obtain ⟨aR, wR, waR, v1, v2, v3, C, hv1, peR, hv2, hv3, FD1⟩ := q_182
                            have FD := FD.trans FD1
                            refine R_goto 192 dX8_readClause_185 rfl ?_
                            have ec : e_clause (z_X Z).2 (z_X Z).1 E W = e_door (z_X Z).2 (z_X Z).1 E.2.2 (E.1, E.2.1, E.2.2 + 1) W := by rw [e_clause, if_neg (show ¬ (¬ (z_X Z).2 E.2.2 = 110 ∧ W.1 = 0) by omega), if_neg (show ¬ (z_X Z).2 E.2.2 = 110 by omega), if_neg (show ¬ (z_X Z).2 E.2.2 = 114 by omega), if_pos (show (z_X Z).2 E.2.2 = 100 by omega)]
                            exact R_vret dX8_readClause_192 rfl rfl rfl ⟨rfl, _, _, _, _, _, _, _, _, C, by rw [ec]; exact x_PR.door HW (by omega) hv1 peR hv2 hv3, FD⟩
                        · omega
                      · omega
                · omega
            · skip
              refine R_iload_n dX8_readClause_79 rfl ?_
              refine R_bipush (nI 112) dX8_readClause_80 rfl ?_
              refine R_eqN 93 dX8_readClause_82 rfl (by omega) (by omega) (fun c_82 => ?_) (fun c_82 => ?_)
              · skip
                refine R_iload_n dX8_readClause_93 rfl ?_
                refine R_bipush (nI 110) dX8_readClause_94 rfl ?_
                refine R_eqN 144 dX8_readClause_96 rfl (by omega) (by omega) (fun c_96 => ?_) (fun c_96 => ?_)
                · omega
                · skip
                  refine R_iload_n dX8_readClause_99 rfl ?_
                  refine R_bipush (nI 114) dX8_readClause_100 rfl ?_
                  refine R_neN 114 dX8_readClause_102 rfl (by omega) (by omega) (fun c_102 => ?_) (fun c_102 => ?_)
                  · skip
                    refine R_iload_n dX8_readClause_114 rfl ?_
                    refine R_bipush (nI 100) dX8_readClause_115 rfl ?_
                    refine R_neN 129 dX8_readClause_117 rfl (by omega) (by omega) (fun c_117 => ?_) (fun c_117 => ?_)
                    · skip
                      refine R_iload_n dX8_readClause_129 rfl ?_
                      refine R_bipush (nI 112) dX8_readClause_130 rfl ?_
                      refine R_neN 152 dX8_readClause_132 rfl (by omega) (by omega) (fun c_132 => ?_) (fun c_132 => ?_)
                      · omega
                      · skip
                        refine R_aload_n dX8_readClause_135 rfl ?_
                        refine R_get dX8_readClause_136 f_X8_133 mo rfl ?_
                        refine R_bipush (nI 6) dX8_readClause_139 rfl ?_
                        refine R_neN 152 dX8_readClause_141 rfl (by omega) (by omega) (fun c_141 => ?_) (fun c_141 => ?_)
                        · refine R_aload_n dX8_readClause_152 rfl ?_
                          refine R_dup dX8_readClause_153 rfl ?_
                          refine R_get dX8_readClause_154 f_X8_100 mo rfl ?_
                          refine R_iconst (nI 1) dX8_readClause_157 rfl ?_
                          refine R_iaddN dX8_readClause_158 ?_
                          refine R_put dX8_readClause_159 f_X8_100 mo (Nat.le_of_ble_eq_true rfl) (fun _ => rfl) (fun _ => rfl) ?_
                          simp only [List.set_cons_succ, List.set_cons_zero]
                          have C := C.tp (a + 1) (0) wa (rh) (rr) (rd) (rp)
                          have FD := FD.set (c := 372) (.inr (8, [.ref 373, .int (nI (z_X Z).1), .int (z_f Z), .int (nI (z_N Z)), .int (nI (z_R Z)), .int (nI (z_D Z)), .int (nI (z_P Z)), .ref 374, .ref 375, .ref 376, .ref 377, .ref 378, .ref 379, .ref 380, .ref 381, .ref 382, .int (nI (z_T Z).1), .long (lN (z_s Z)), .ref 383, .ref 384, .ref 385, .ref 386, .int (nI (z_S Z).1), .ref 387, .int (nI (z_B Z).1), .int (nI (a + 1)), .int (nI (0)), .int wa, .int (nI (rh)), .int (nI (rr)), .int (nI (rd)), .int (nI (rp)), .ref 388, .ref 389, .ref 390, .ref 391, .ref 392, .ref 393, .ref 394])) (by omega)
                          have mo := C.mo
                          have pe : x_PE (E.1, E.2.1, E.2.2 + 1) (a + 1) 0 wa := ⟨fun _ => ⟨by rw [ea], rfl⟩, fun z => absurd h0 z, by omega, by show E.1 ≤ 100; omega⟩
                          have hE : (E.1, E.2.1, E.2.2 + 1).1 = 0 → (E.1, E.2.1, E.2.2 + 1).2.2 ≤ (z_X Z).1 := fun _ => by show E.2.2 + 1 ≤ _; omega
                          refine R_iload_n dX8_readClause_162 rfl ?_
                          refine R_bipush (nI 114) dX8_readClause_163 rfl ?_
                          refine R_neN 175 dX8_readClause_165 rfl (by omega) (by omega) (fun c_165 => ?_) (fun c_165 => ?_)
                          · skip
                            refine R_iload_n dX8_readClause_175 rfl ?_
                            refine R_bipush (nI 100) dX8_readClause_176 rfl ?_
                            refine R_neN 188 dX8_readClause_178 rfl (by omega) (by omega) (fun c_178 => ?_) (fun c_178 => ?_)
                            · skip
                              refine R_aload_n dX8_readClause_188 rfl ?_
                              refine R_cV0v (N := m_X8_readHeir) dX8_readClause_189 l_X8_145 i_X8_readHeir mo (n_readHeir (E := (E.1, E.2.1, E.2.2 + 1)) C pe hE (by omega) (by omega) bX bXc) rfl rfl (fun h189 q_189 => ?_)
                              obtain ⟨aR, wR, waR, v1, v2, v3, C, peR, hv1, hv2, hv3, FD1⟩ := q_189
                              have FD := FD.trans FD1
                              have ec : e_clause (z_X Z).2 (z_X Z).1 E W = e_heir (z_X Z).2 (z_X Z).1 E.2.2 (E.1, E.2.1, E.2.2 + 1) W := by rw [e_clause, if_neg (show ¬ (¬ (z_X Z).2 E.2.2 = 110 ∧ W.1 = 0) by omega), if_neg (show ¬ (z_X Z).2 E.2.2 = 110 by omega), if_neg (show ¬ (z_X Z).2 E.2.2 = 114 by omega), if_neg (show ¬ (z_X Z).2 E.2.2 = 100 by omega), if_pos (show (z_X Z).2 E.2.2 = 112 by omega)]
                              exact R_vret dX8_readClause_192 rfl rfl rfl ⟨rfl, _, _, _, _, _, _, _, _, C, by rw [ec]; exact x_PR.heir HW (by omega) (by omega) peR hv1 hv2 hv3, FD⟩
                            · omega
                          · omega
                        · refine R_aload_n dX8_readClause_144 rfl ?_
                          refine R_iconst (nI 3) dX8_readClause_145 rfl ?_
                          refine R_cV1v (N := m_X8_fails) dX8_readClause_146 l_X8_116 i_X8_fails mo (n_fails (kd := 3) C rfl) rfl rfl (fun h146 q_146 => ?_)
                          obtain ⟨C, FD1⟩ := q_146
                          have FD := FD.trans FD1
                          refine R_goto 192 dX8_readClause_149 rfl ?_
                          have ec : e_clause (z_X Z).2 (z_X Z).1 E W = e_heir (z_X Z).2 (z_X Z).1 E.2.2 (E.1, E.2.1, E.2.2 + 1) W := by rw [e_clause, if_neg (show ¬ (¬ (z_X Z).2 E.2.2 = 110 ∧ W.1 = 0) by omega), if_neg (show ¬ (z_X Z).2 E.2.2 = 110 by omega), if_neg (show ¬ (z_X Z).2 E.2.2 = 114 by omega), if_neg (show ¬ (z_X Z).2 E.2.2 = 100 by omega), if_pos (show (z_X Z).2 E.2.2 = 112 by omega)]
                          have em := (e_many (tx := (z_X Z).2) (n := (z_X Z).1) (wat := E.2.2) (E := (E.1, E.2.1, E.2.2 + 1)) (W := W) h0).2.2.2 (by omega)
                          exact R_vret dX8_readClause_192 rfl rfl rfl ⟨rfl, M, _, _, _, _, _, _, _, C, x_PR.bad (kd := 3) (pos := a) (by decide) (by decide) (by omega) (by rw [ec]; exact em.1) (by rw [ec, ea]; exact em.2), FD⟩
                    · omega
                  · omega
              · skip
                refine R_aload_n dX8_readClause_85 rfl ?_
                refine R_iconst (nI 1) dX8_readClause_86 rfl ?_
                refine R_cV1v (N := m_X8_fails) dX8_readClause_87 l_X8_116 i_X8_fails mo (n_fails (kd := 1) C rfl) rfl rfl (fun h87 q_87 => ?_)
                obtain ⟨C, FD1⟩ := q_87
                have FD := FD.trans FD1
                refine R_goto 192 dX8_readClause_90 rfl ?_
                have ec : e_clause (z_X Z).2 (z_X Z).1 E W = (e_fail 1 E.2.2 (E.1, E.2.1, E.2.2 + 1), W) := by rw [e_clause, if_neg (show ¬ (¬ (z_X Z).2 E.2.2 = 110 ∧ W.1 = 0) by omega), if_neg (show ¬ (z_X Z).2 E.2.2 = 110 by omega), if_neg (show ¬ (z_X Z).2 E.2.2 = 114 by omega), if_neg (show ¬ (z_X Z).2 E.2.2 = 100 by omega), if_neg (show ¬ (z_X Z).2 E.2.2 = 112 by omega)]
                have ef : e_fail 1 E.2.2 (E.1, E.2.1, E.2.2 + 1) = (1, nI E.2.2, E.2.2 + 1) := e_fail_0 h0
                exact R_vret dX8_readClause_192 rfl rfl rfl ⟨rfl, M, _, _, _, _, _, _, _, C, x_PR.bad (kd := 1) (pos := a) (by decide) (by decide) (by omega) (by rw [ec, ef]) (by rw [ec, ef, ea]), FD⟩
    · skip
      refine R_iload_n dX8_readClause_24 rfl ?_
      refine R_ifeqN 57 dX8_readClause_25 rfl (by omega) (fun c_25 => ?_) (fun c_25 => ?_)
      · skip
        refine R_iload_n dX8_readClause_57 rfl ?_
        refine R_ifneN 85 dX8_readClause_58 rfl (by omega) (fun c_58 => ?_) (fun c_58 => ?_)
        · omega
        · skip
          refine R_iload_n dX8_readClause_61 rfl ?_
          refine R_bipush (nI 110) dX8_readClause_62 rfl ?_
          refine R_eqN 93 dX8_readClause_64 rfl (by omega) (by omega) (fun c_64 => ?_) (fun c_64 => ?_)
          · skip
            refine R_iload_n dX8_readClause_93 rfl ?_
            refine R_bipush (nI 110) dX8_readClause_94 rfl ?_
            refine R_eqN 144 dX8_readClause_96 rfl (by omega) (by omega) (fun c_96 => ?_) (fun c_96 => ?_)
            · skip
              refine R_aload_n dX8_readClause_144 rfl ?_
              refine R_iconst (nI 3) dX8_readClause_145 rfl ?_
              refine R_cV1v (N := m_X8_fails) dX8_readClause_146 l_X8_116 i_X8_fails mo (n_fails (kd := 3) C rfl) rfl rfl (fun h146 q_146 => ?_)
              obtain ⟨C, FD1⟩ := q_146
              have FD := FD.trans FD1
              refine R_goto 192 dX8_readClause_149 rfl ?_
              have ec : e_clause (z_X Z).2 (z_X Z).1 E W = e_night (z_X Z).2 (z_X Z).1 E.2.2 (E.1, E.2.1, E.2.2 + 1) W := by rw [e_clause, if_neg (show ¬ (¬ (z_X Z).2 E.2.2 = 110 ∧ W.1 = 0) by omega), if_pos (show (z_X Z).2 E.2.2 = 110 by omega)]
              have em := (e_many (tx := (z_X Z).2) (n := (z_X Z).1) (wat := E.2.2) (E := (E.1, E.2.1, E.2.2 + 1)) (W := W) h0).1 (by omega)
              exact R_vret dX8_readClause_192 rfl rfl rfl ⟨rfl, M, _, _, _, _, _, _, _, C, x_PR.bad (kd := 3) (pos := a) (by decide) (by decide) (by omega) (by rw [ec]; exact em.1) (by rw [ec, ea]; exact em.2), FD⟩
            · omega
          · omega
      · omega
  · skip
    refine R_iconst (nI 1) dX8_readClause_12 rfl ?_
    refine R_goto 17 dX8_readClause_13 rfl ?_
    refine R_istore_n dX8_readClause_17 (Nat.le_of_ble_eq_true rfl) rfl ?_
    refine R_iload_n dX8_readClause_18 rfl ?_
    refine R_bipush (nI 110) dX8_readClause_19 rfl ?_
    refine R_neN 57 dX8_readClause_21 rfl (by omega) (by omega) (fun c_21 => ?_) (fun c_21 => ?_)
    · skip
      refine R_iload_n dX8_readClause_57 rfl ?_
      refine R_ifneN 85 dX8_readClause_58 rfl (by omega) (fun c_58 => ?_) (fun c_58 => ?_)
      · skip
        refine R_aload_n dX8_readClause_85 rfl ?_
        refine R_iconst (nI 1) dX8_readClause_86 rfl ?_
        refine R_cV1v (N := m_X8_fails) dX8_readClause_87 l_X8_116 i_X8_fails mo (n_fails (kd := 1) C rfl) rfl rfl (fun h87 q_87 => ?_)
        obtain ⟨C, FD1⟩ := q_87
        have FD := FD.trans FD1
        refine R_goto 192 dX8_readClause_90 rfl ?_
        have ec : e_clause (z_X Z).2 (z_X Z).1 E W = (e_fail 1 E.2.2 (E.1, E.2.1, E.2.2 + 1), W) := by rw [e_clause, if_pos (show ¬ (z_X Z).2 E.2.2 = 110 ∧ W.1 = 0 by omega)]
        have ef : e_fail 1 E.2.2 (E.1, E.2.1, E.2.2 + 1) = (1, nI E.2.2, E.2.2 + 1) := e_fail_0 h0
        exact R_vret dX8_readClause_192 rfl rfl rfl ⟨rfl, M, _, _, _, _, _, _, _, C, x_PR.bad (kd := 1) (pos := a) (by decide) (by decide) (by omega) (by rw [ec, ef]) (by rw [ec, ef, ea]), FD⟩
      · omega
    · skip
      refine R_iload_n dX8_readClause_24 rfl ?_
      refine R_ifeqN 57 dX8_readClause_25 rfl (by omega) (fun c_25 => ?_) (fun c_25 => ?_)
      · omega
      · skip
        refine R_aload_n dX8_readClause_28 rfl ?_
        refine R_dup dX8_readClause_29 rfl ?_
        refine R_get dX8_readClause_30 f_X8_100 mo rfl ?_
        refine R_iconst (nI 1) dX8_readClause_33 rfl ?_
        refine R_iaddN dX8_readClause_34 ?_
        refine R_put dX8_readClause_35 f_X8_100 mo (Nat.le_of_ble_eq_true rfl) (fun _ => rfl) (fun _ => rfl) ?_
        simp only [List.set_cons_succ, List.set_cons_zero]
        have C := C.tp (a + 1) (0) wa (rh) (rr) (rd) (rp)
        have FD := FD.set (c := 372) (.inr (8, [.ref 373, .int (nI (z_X Z).1), .int (z_f Z), .int (nI (z_N Z)), .int (nI (z_R Z)), .int (nI (z_D Z)), .int (nI (z_P Z)), .ref 374, .ref 375, .ref 376, .ref 377, .ref 378, .ref 379, .ref 380, .ref 381, .ref 382, .int (nI (z_T Z).1), .long (lN (z_s Z)), .ref 383, .ref 384, .ref 385, .ref 386, .int (nI (z_S Z).1), .ref 387, .int (nI (z_B Z).1), .int (nI (a + 1)), .int (nI (0)), .int wa, .int (nI (rh)), .int (nI (rr)), .int (nI (rd)), .int (nI (rp)), .ref 388, .ref 389, .ref 390, .ref 391, .ref 392, .ref 393, .ref 394])) (by omega)
        have mo := C.mo
        have pe : x_PE (E.1, E.2.1, E.2.2 + 1) (a + 1) 0 wa := ⟨fun _ => ⟨by rw [ea], rfl⟩, fun z => absurd h0 z, by omega, by show E.1 ≤ 100; omega⟩
        have hE : (E.1, E.2.1, E.2.2 + 1).1 = 0 → (E.1, E.2.1, E.2.2 + 1).2.2 ≤ (z_X Z).1 := fun _ => by show E.2.2 + 1 ≤ _; omega
        refine R_aload_n dX8_readClause_38 rfl ?_
        refine R_aload_n dX8_readClause_39 rfl ?_
        refine R_iconst (nI 1) dX8_readClause_40 rfl ?_
        refine R_bipush (nI 20) dX8_readClause_41 rfl ?_
        refine R_iconst (-1) dX8_readClause_43 rfl ?_
        refine R_cV3i (N := m_X8_number) dX8_readClause_44 l_X8_123 i_X8_number mo (n_number (lw := 1) (hi := 21) (E := (E.1, E.2.1, E.2.2 + 1)) (by omega) (x_hiC (by decide)) C pe hE bX bXc) rfl rfl (fun r44 h44 q_44 => ?_)
        obtain ⟨a44, w44, wa44, C, pe44, er44, FD1⟩ := q_44
        have FD := FD.trans FD1
        have mo := C.mo
        obtain ⟨v44, hv44, rfl⟩ : ∃ v, v = (if (e_nu (z_X Z).2 (z_X Z).1 1 21 (-1) (E.1, E.2.1, E.2.2 + 1)).2.1 = 0 then (e_nu (z_X Z).2 (z_X Z).1 1 21 (-1) (E.1, E.2.1, E.2.2 + 1)).1 else 0) ∧ r44 = nI v := ⟨_, rfl, by rw [er44]; split <;> rfl⟩
        refine R_put dX8_readClause_47 f_X8_136 mo (Nat.le_of_ble_eq_true rfl) (fun _ => rfl) (fun _ => rfl) ?_
        simp only [List.set_cons_succ, List.set_cons_zero]
        have C := C.tp (a44) (w44) wa44 (v44) (rr) (rd) (rp)
        have FD := FD.set (c := 372) (.inr (8, [.ref 373, .int (nI (z_X Z).1), .int (z_f Z), .int (nI (z_N Z)), .int (nI (z_R Z)), .int (nI (z_D Z)), .int (nI (z_P Z)), .ref 374, .ref 375, .ref 376, .ref 377, .ref 378, .ref 379, .ref 380, .ref 381, .ref 382, .int (nI (z_T Z).1), .long (lN (z_s Z)), .ref 383, .ref 384, .ref 385, .ref 386, .int (nI (z_S Z).1), .ref 387, .int (nI (z_B Z).1), .int (nI (a44)), .int (nI (w44)), .int wa44, .int (nI (v44)), .int (nI (rr)), .int (nI (rd)), .int (nI (rp)), .ref 388, .ref 389, .ref 390, .ref 391, .ref 392, .ref 393, .ref 394])) (by omega)
        have mo := C.mo
        refine R_aload_n dX8_readClause_50 rfl ?_
        refine R_cV0v (N := m_X8_ends) dX8_readClause_51 l_X8_127 i_X8_ends mo (n_ends (E := (e_nu (z_X Z).2 (z_X Z).1 1 21 (-1) (E.1, E.2.1, E.2.2 + 1)).2) C pe44 (e_nu_in hE) bX bXc) rfl rfl (fun h51 q_51 => ?_)
        obtain ⟨a51, w51, wa51, C, pe51, FD1⟩ := q_51
        have FD := FD.trans FD1
        refine R_goto 192 dX8_readClause_54 rfl ?_
        have ec : e_clause (z_X Z).2 (z_X Z).1 E W = e_night (z_X Z).2 (z_X Z).1 E.2.2 (E.1, E.2.1, E.2.2 + 1) W := by rw [e_clause, if_neg (show ¬ (¬ (z_X Z).2 E.2.2 = 110 ∧ W.1 = 0) by omega), if_pos (show (z_X Z).2 E.2.2 = 110 by omega)]
        exact R_vret dX8_readClause_192 rfl rfl rfl ⟨rfl, M, _, _, _, _, _, _, _, C, by rw [ec]; exact x_PR.night HW (by omega) pe51 hv44, FD⟩
def s_rd (i : Nat) : Int32 := if 15 ≤ i ∧ i < 45 then -1 else nI 0
theorem n_readManor_init {h : xH} {Z : xZ} {sd : Nat → Int64} {kp : Nat → Int32} {wa : Int32} {K : Option Value → xH → Prop} (kk : ∀ g M, x_ML g Z M sd kp (x_pt (0) (0) wa (0) (0) (0) (0)) → x_fD h g → (∀ i, i < 51 → M 20 i = s_rd i) → x_Rn m_X8_readManor 66 [some (.ref 372), some (.int (nI 51))] [] g (0, 0) K) : ∀ (m k : Nat), k + m = 51 → ∀ g M, x_ML g Z M sd kp (x_pt (0) (0) wa (0) (0) (0) (0)) → x_fD h g → (∀ i, i < k → M 20 i = s_rd i) → x_Rn m_X8_readManor 32 [some (.ref 372), some (.int (nI k))] [] g (0, 0) K := by
  intro m
  induction m with
  | zero =>
    intro k hm g M C FD hM
    have mo := C.mo
    refine R_iload_n dX8_readManor_32 rfl ?_
    refine R_bipush (nI 51) dX8_readManor_33 rfl ?_
    refine R_geN 66 dX8_readManor_35 rfl (by omega) (by omega) (fun c_35 => ?_) (fun c_35 => ?_)
    · have hk : k = 51 := by omega
      subst hk
      exact kk g M C FD (fun i hi => hM i (by omega))
    · omega
  | succ m ih =>
    intro k hm g M C FD hM
    have mo := C.mo
    refine R_iload_n dX8_readManor_32 rfl ?_
    refine R_bipush (nI 51) dX8_readManor_33 rfl ?_
    refine R_geN 66 dX8_readManor_35 rfl (by omega) (by omega) (fun c_35 => ?_) (fun c_35 => ?_)
    · have hk : k = 51 := by omega
      subst hk
      exact kk g M C FD (fun i hi => hM i (by omega))
    · have m20 : g[393]? = some (x_ia 51 (M 20)) := C.1.2 20 (by decide)
      refine R_aload_n dX8_readManor_38 rfl ?_
      refine R_get dX8_readManor_39 f_X8_76 mo rfl ?_
      refine R_iload_n dX8_readManor_42 rfl ?_
      refine R_iload_n dX8_readManor_43 rfl ?_
      refine R_bipush (nI 15) dX8_readManor_44 rfl ?_
      refine R_bipush (nI 44) dX8_readManor_46 rfl ?_
      refine R_cS3p (N := m_X8_in) dX8_readManor_48 l_X8_85 i_X8_in (n_in _ _ _) rfl rfl ?_
      rw [x_in_N (by omega) (by omega) (by omega)]
      refine R_ifeqB 58 dX8_readManor_51 rfl (fun c_51 => ?_) (fun c_51 => ?_)
      · refine R_iconst (nI 0) dX8_readManor_58 rfl ?_
        refine R_iast dX8_readManor_59 m20 (by omega) rfl (by omega) (by decide) ?_
        have C := C.r20 (upd (M 20) k (nI 0))
        have FD := FD.set (c := 393) (x_ia 51 (upd (M 20) k (nI 0))) (by omega)
        refine R_iincN dX8_readManor_60 rfl (Nat.le_of_ble_eq_true rfl) rfl ?_
        refine R_goto 32 dX8_readManor_63 rfl ?_
        exact ih (k + 1) (by omega) _ _ C FD (fun i hi => by
          show upd (M 20) k (nI 0) i = s_rd i
          by_cases e : i = k
          · subst e; rw [x_upd_eq, s_rd, if_neg (fun z => by have c := of_decide_eq_false c_51; omega)]
          · rw [x_upd_ne e]; exact hM i (by omega))
      · refine R_iconst (-1) dX8_readManor_54 rfl ?_
        refine R_goto 59 dX8_readManor_55 rfl ?_
        refine R_iast dX8_readManor_59 m20 (by omega) rfl (by omega) (by decide) ?_
        have C := C.r20 (upd (M 20) k (-1))
        have FD := FD.set (c := 393) (x_ia 51 (upd (M 20) k (-1))) (by omega)
        refine R_iincN dX8_readManor_60 rfl (Nat.le_of_ble_eq_true rfl) rfl ?_
        refine R_goto 32 dX8_readManor_63 rfl ?_
        exact ih (k + 1) (by omega) _ _ C FD (fun i hi => by
          show upd (M 20) k (-1) i = s_rd i
          by_cases e : i = k
          · subst e; rw [x_upd_eq, s_rd, if_pos (by have c := of_decide_eq_true c_51; omega)]
          · rw [x_upd_ne e]; exact hM i (by omega))
theorem n_readManor_loop {h : xH} {Z : xZ} {sd : Nat → Int64} {kp : Nat → Int32} {F : xF} {x1 : Option Value} (bX : (z_X Z).1 ≤ 240) (bXc : ∀ i, i < (z_X Z).1 → (z_X Z).2 i < 256) : ∀ (k : Nat) (E : xE) (W : xW) (M : Nat → Nat → Int32) (a w : Nat) (wa : Int32) (rh rr rd rp : Nat) (g : xH), x_ML g Z M sd kp (x_pt a w wa rh rr rd rp) → x_fD h g → x_PR (E, W) M a w wa rh rr rd rp → x_WB W → (E.1 = 0 → E.2.2 ≤ (z_X Z).1 ∧ (z_X Z).1 ≤ E.2.2 + k) → e_loop (z_X Z).2 (z_X Z).1 k E W = e_into (z_X Z).2 (z_X Z).1 F → x_Rn m_X8_readManor 70 [some (.ref 372), x1] [] g (0, 0) (x_vd (fun h' => ∃ M' a' w' wa' rh' rr' rd' rp', x_ML h' Z M' sd kp (x_pt a' w' wa' rh' rr' rd' rp') ∧ x_PR (e_into (z_X Z).2 (z_X Z).1 F) M' a' w' wa' rh' rr' rd' rp' ∧ x_fD h h')) := by
  intro k
  induction k with
  | zero =>
    intro E W M a w wa rh rr rd rp g C FD HP hWB hN he
    have mo := C.mo
    have ha9 := HP.1.2.2.1
    have hw9 : w ≤ 100 := by
      by_cases z : E.1 = 0
      · have := (HP.1.1 z).2; omega
      · have := (HP.1.2.1 z).1; have := HP.1.2.2.2; omega
    have he : (E, W) = e_into (z_X Z).2 (z_X Z).1 F := he
    refine R_aload_n dX8_readManor_70 rfl ?_
    refine R_get dX8_readManor_71 f_X8_107 mo rfl ?_
    refine R_ifneN 106 dX8_readManor_74 rfl (by omega) (fun c_74 => ?_) (fun c_74 => ?_)
    · have h0 : ¬ E.1 = 0 := fun z => c_74 (HP.1.1 z).2
      exact R_vret dX8_readManor_106 rfl rfl rfl ⟨rfl, M, a, _, wa, rh, rr, rd, rp, C, by rw [← he]; exact HP, FD⟩
    · have h0 : E.1 = 0 := Classical.byContradiction (fun z => z ((HP.1.2.1 z).1.symm.trans c_74))
      have ea : a = E.2.2 := (HP.1.1 h0).1
      subst c_74
      obtain ⟨hn1, hn2⟩ := hN h0
      refine R_aload_n dX8_readManor_77 rfl ?_
      refine R_get dX8_readManor_78 f_X8_100 mo rfl ?_
      refine R_aload_n dX8_readManor_81 rfl ?_
      refine R_get dX8_readManor_82 f_X8_96 mo rfl ?_
      refine R_geN 106 dX8_readManor_85 rfl (by omega) (by omega) (fun c_85 => ?_) (fun c_85 => ?_)
      · exact R_vret dX8_readManor_106 rfl rfl rfl ⟨rfl, M, a, _, wa, rh, rr, rd, rp, C, by rw [← he]; exact HP, FD⟩
      · omega
  | succ k ih =>
    intro E W M a w wa rh rr rd rp g C FD HP hWB hN he
    have mo := C.mo
    have ha9 := HP.1.2.2.1
    have hw9 : w ≤ 100 := by
      by_cases z : E.1 = 0
      · have := (HP.1.1 z).2; omega
      · have := (HP.1.2.1 z).1; have := HP.1.2.2.2; omega
    refine R_aload_n dX8_readManor_70 rfl ?_
    refine R_get dX8_readManor_71 f_X8_107 mo rfl ?_
    refine R_ifneN 106 dX8_readManor_74 rfl (by omega) (fun c_74 => ?_) (fun c_74 => ?_)
    · have h0 : ¬ E.1 = 0 := fun z => c_74 (HP.1.1 z).2
      exact R_vret dX8_readManor_106 rfl rfl rfl ⟨rfl, M, a, _, wa, rh, rr, rd, rp, C, by rw [← he, e_loop_stop (fun z => h0 z.2)]; exact HP, FD⟩
    · have h0 : E.1 = 0 := Classical.byContradiction (fun z => z ((HP.1.2.1 z).1.symm.trans c_74))
      have ea : a = E.2.2 := (HP.1.1 h0).1
      subst c_74
      obtain ⟨hn1, hn2⟩ := hN h0
      refine R_aload_n dX8_readManor_77 rfl ?_
      refine R_get dX8_readManor_78 f_X8_100 mo rfl ?_
      refine R_aload_n dX8_readManor_81 rfl ?_
      refine R_get dX8_readManor_82 f_X8_96 mo rfl ?_
      refine R_geN 106 dX8_readManor_85 rfl (by omega) (by omega) (fun c_85 => ?_) (fun c_85 => ?_)
      · exact R_vret dX8_readManor_106 rfl rfl rfl ⟨rfl, M, a, _, wa, rh, rr, rd, rp, C, by rw [← he, e_loop_stop (fun z => by omega)]; exact HP, FD⟩
      · refine R_aload_n dX8_readManor_88 rfl ?_
        refine R_cV0v (N := m_X8_readClause) dX8_readManor_89 l_X8_148 i_X8_readClause mo (n_readClause (E := E) (W := W) C h0 ea (by omega) (HP.2 h0) hWB bX bXc) rfl rfl (fun h89 q_89 => ?_)
        obtain ⟨M89, a89, w89, wa89, rh89, rr89, rd89, rp89, C, HP1, FD1⟩ := q_89
        have FD := FD.trans FD1
        have mo := C.mo
        have hw89 : w89 ≤ 100 := by
          by_cases z : (e_clause (z_X Z).2 (z_X Z).1 E W).1.1 = 0
          · have := (HP1.1.1 z).2; omega
          · have := (HP1.1.2.1 z).1; have := HP1.1.2.2.2; omega
        rw [e_loop, if_pos (show E.2.2 < (z_X Z).1 ∧ E.1 = 0 from ⟨by omega, h0⟩)] at he
        refine R_aload_n dX8_readManor_92 rfl ?_
        refine R_get dX8_readManor_93 f_X8_107 mo rfl ?_
        refine R_ifneN 70 dX8_readManor_96 rfl (by omega) (fun c_96 => ?_) (fun c_96 => ?_)
        · have hk : ¬ (e_clause (z_X Z).2 (z_X Z).1 E W).1.1 = 0 := fun z => c_96 (HP1.1.1 z).2
          exact ih (e_skip (z_X Z).2 (z_X Z).1 (e_clause (z_X Z).2 (z_X Z).1 E W).1) (e_clause (z_X Z).2 (z_X Z).1 E W).2 _ _ _ _ _ _ _ _ _ C FD ⟨⟨fun z => absurd z hk, HP1.1.2.1, HP1.1.2.2.1, HP1.1.2.2.2⟩, fun z => absurd z hk⟩ hWB.clause (fun z => absurd z hk) he
        · have hk : (e_clause (z_X Z).2 (z_X Z).1 E W).1.1 = 0 := Classical.byContradiction (fun z => z ((HP1.1.2.1 z).1.symm.trans c_96))
          obtain ⟨eb, ew⟩ := HP1.1.1 hk
          obtain ⟨hs0, hs1⟩ := e_clause_at hk
          have hs2 := (s_skip_le (tx := (z_X Z).2) hs1).2
          have hs3 := (s_skip_le (tx := (z_X Z).2) hs1).1
          have hs4 : s_skip (z_X Z).2 (z_X Z).1 a89 ≤ (z_X Z).1 := by rw [eb]; exact hs2
          refine R_aload_n dX8_readManor_99 rfl ?_
          refine R_cV0v (N := m_X8_skips) dX8_readManor_100 l_X8_113 i_X8_skips mo (n_skips C (by omega) bX bXc) rfl rfl (fun h100 q_100 => ?_)
          obtain ⟨C, FD1⟩ := q_100
          have FD := FD.trans FD1
          refine R_goto 70 dX8_readManor_103 rfl ?_
          subst ew
          exact ih (e_skip (z_X Z).2 (z_X Z).1 (e_clause (z_X Z).2 (z_X Z).1 E W).1) (e_clause (z_X Z).2 (z_X Z).1 E W).2 _ _ _ _ _ _ _ _ _ C FD ⟨⟨fun _ => ⟨by rw [eb]; rfl, rfl⟩, fun z => absurd hk z, by omega, HP1.1.2.2.2⟩, HP1.2⟩ hWB.clause (fun _ => ⟨hs2, by show _ ≤ s_skip (z_X Z).2 (z_X Z).1 (e_clause (z_X Z).2 (z_X Z).1 E W).1.2.2 + k; omega⟩) he
theorem n_readManor {h : xH} {Z : xZ} {M : Nat → Nat → Int32} {sd : Nat → Int64} {kp t : Nat → Int32} (C : x_ML h Z M sd kp t) (bX : (z_X Z).1 ≤ 240) (bXc : ∀ i, i < (z_X Z).1 → (z_X Z).2 i < 256) (F : xF) : x_Met m_X8_readManor [.ref 372] h (x_vd (fun h' => ∃ M' a' w' wa' rh' rr' rd' rp', x_ML h' Z M' sd kp (x_pt a' w' wa' rh' rr' rd' rp') ∧ x_PR (e_into (z_X Z).2 (z_X Z).1 F) M' a' w' wa' rh' rr' rd' rp' ∧ x_fD h h')) := by
  have FD := x_fD.rf h
  obtain ⟨HM, HZ⟩ := id C
  have mo : h[372]? = some (x_mob (z_X Z).1 (z_f Z) (z_N Z) (z_R Z) (z_D Z) (z_P Z) (z_T Z).1 (z_s Z) (z_S Z).1 (z_B Z).1 t) := HM.1
  refine x_Met.of (lo := [some (.ref 372), none]) (by decide) rfl rfl rfl ?_
  refine R_aload_n dX8_readManor_0 rfl ?_
  refine R_iconst (nI 0) dX8_readManor_1 rfl ?_
  refine R_put dX8_readManor_2 f_X8_100 mo (Nat.le_of_ble_eq_true rfl) (fun _ => rfl) (fun _ => rfl) ?_
  simp only [List.set_set, List.set_cons_succ, List.set_cons_zero]
  refine R_aload_n dX8_readManor_5 rfl ?_
  refine R_iconst (nI 0) dX8_readManor_6 rfl ?_
  refine R_put dX8_readManor_7 f_X8_107 (x_sets mo) (Nat.le_of_ble_eq_true rfl) (fun _ => rfl) (fun _ => rfl) ?_
  simp only [List.set_set, List.set_cons_succ, List.set_cons_zero]
  refine R_aload_n dX8_readManor_10 rfl ?_
  refine R_iconst (nI 0) dX8_readManor_11 rfl ?_
  refine R_put dX8_readManor_12 f_X8_136 (x_sets mo) (Nat.le_of_ble_eq_true rfl) (fun _ => rfl) (fun _ => rfl) ?_
  simp only [List.set_set, List.set_cons_succ, List.set_cons_zero]
  refine R_aload_n dX8_readManor_15 rfl ?_
  refine R_iconst (nI 0) dX8_readManor_16 rfl ?_
  refine R_put dX8_readManor_17 f_X8_120 (x_sets mo) (Nat.le_of_ble_eq_true rfl) (fun _ => rfl) (fun _ => rfl) ?_
  simp only [List.set_set, List.set_cons_succ, List.set_cons_zero]
  refine R_aload_n dX8_readManor_20 rfl ?_
  refine R_iconst (nI 0) dX8_readManor_21 rfl ?_
  refine R_put dX8_readManor_22 f_X8_130 (x_sets mo) (Nat.le_of_ble_eq_true rfl) (fun _ => rfl) (fun _ => rfl) ?_
  simp only [List.set_set, List.set_cons_succ, List.set_cons_zero]
  refine R_aload_n dX8_readManor_25 rfl ?_
  refine R_iconst (nI 0) dX8_readManor_26 rfl ?_
  refine R_put dX8_readManor_27 f_X8_133 (x_sets mo) (Nat.le_of_ble_eq_true rfl) (fun _ => rfl) (fun _ => rfl) ?_
  simp only [List.set_set, List.set_cons_succ, List.set_cons_zero]
  have C := C.tp 0 0 (t 2) 0 0 0 0
  have FD := FD.set (c := 372) (.inr (8, [.ref 373, .int (nI (z_X Z).1), .int (z_f Z), .int (nI (z_N Z)), .int (nI (z_R Z)), .int (nI (z_D Z)), .int (nI (z_P Z)), .ref 374, .ref 375, .ref 376, .ref 377, .ref 378, .ref 379, .ref 380, .ref 381, .ref 382, .int (nI (z_T Z).1), .long (lN (z_s Z)), .ref 383, .ref 384, .ref 385, .ref 386, .int (nI (z_S Z).1), .ref 387, .int (nI (z_B Z).1), .int (nI (0)), .int (nI (0)), .int (t 2), .int (nI (0)), .int (nI (0)), .int (nI (0)), .int (nI (0)), .ref 388, .ref 389, .ref 390, .ref 391, .ref 392, .ref 393, .ref 394])) (by omega)
  refine R_iconst (nI 0) dX8_readManor_30 rfl ?_
  refine R_istore_n dX8_readManor_31 (Nat.le_of_ble_eq_true rfl) rfl ?_
  refine n_readManor_init (h := h) (fun g M C FD hM => ?_) 51 0 (by decide) _ _ C FD (fun i hi => absurd hi (Nat.not_lt_zero i))
  have mo := C.mo
  refine R_aload_n dX8_readManor_66 rfl ?_
  refine R_cV0v (N := m_X8_skips) dX8_readManor_67 l_X8_113 i_X8_skips mo (n_skips C (by omega) bX bXc) rfl rfl (fun h67 q_67 => ?_)
  obtain ⟨C, FD1⟩ := q_67
  have FD := FD.trans FD1
  have hs := s_skip_le (tx := (z_X Z).2) (Nat.zero_le (z_X Z).1)
  exact n_readManor_loop bX bXc 240 (e_skip (z_X Z).2 (z_X Z).1 (0, -1, 0)) (0, 0, 0, 0, F) _ _ _ _ _ _ _ _ _ C FD ⟨⟨fun _ => ⟨rfl, rfl⟩, fun z => absurd rfl z, by have := hs.2; omega, by show 0 ≤ 100; decide⟩, fun _ => ⟨rfl, rfl, rfl, rfl, fun d hd => absurd hd (Nat.not_lt_zero d), fun d hd => absurd hd (Nat.not_lt_zero d), fun d hd => absurd hd (Nat.not_lt_zero d), fun i hi => (hM i (by omega)).trans (if_neg (by omega)), fun i h1 h2 => (hM i (by omega)).trans (if_pos ⟨h1, h2⟩)⟩⟩ (x_WB0 F) (fun _ => ⟨hs.2, by omega⟩) rfl
