/-! THE MODEL's numbers -/
def e_nu (tx : Nat → Nat) (n lw hi : Nat) (nt : Int32) (E : xE) : Nat × xE := ((e_num tx n lw hi E).1, e_failIf (decide (nt = nI (e_num tx n lw hi E).1)) 4 (s_skip tx n E.2.2) (e_num tx n lw hi E).2)
theorem e_failIf_keep {c : Bool} {kd pos : Nat} {E : xE} (h : ¬ E.1 = 0) : e_failIf c kd pos E = E := by
  unfold e_failIf e_fail
  cases c
  · rfl
  · rw [if_pos rfl, if_neg h]
theorem e_failIf_k3 {c : Bool} {kd pos x : Nat} {y : Int32} {z : Nat} (h : ¬ x = 0) : e_failIf c kd pos (x, y, z) = (x, y, z) := e_failIf_keep (E := (x, y, z)) h
theorem e_failIf_t {kd pos : Nat} {E : xE} (h : E.1 = 0) {c : Bool} (hc : c = true) : e_failIf c kd pos E = (kd, nI pos, E.2.2) := by
  unfold e_failIf e_fail; rw [if_pos hc, if_pos h]
theorem e_failIf_n {kd pos : Nat} {E : xE} {c : Bool} (hc : c = false) : e_failIf c kd pos E = E := by
  unfold e_failIf; rw [if_neg (by rw [hc]; decide)]
theorem e_nu_keep {tx : Nat → Nat} {n lw hi : Nat} {nt : Int32} {E : xE} (h : ¬ E.1 = 0) : (e_nu tx n lw hi nt E).2.1 = E.1 ∧ (e_nu tx n lw hi nt E).2.2.1 = E.2.1 := by
  have e1 : (e_num tx n lw hi E).2 = (E.1, E.2.1, s_skip tx n E.2.2 + s_dig tx n (s_skip tx n E.2.2)) := by
    unfold e_num
    rw [e_failIf_k3 h, e_failIf_k3 h]
  show (e_failIf _ 4 _ (e_num tx n lw hi E).2).1 = E.1 ∧ (e_failIf _ 4 _ (e_num tx n lw hi E).2).2.1 = E.2.1
  rw [e1, e_failIf_k3 h]
  exact ⟨rfl, rfl⟩
theorem e_num_of {tx : Nat → Nat} {n lw hi : Nat} {E : xE} {f d v : Nat} (hf : f = s_skip tx n E.2.2) (hd : d = s_dig tx n f) (hv : v = s_val tx f (min d 3)) : e_num tx n lw hi E = (v, e_failIf (decide (3 < d ∨ v < lw ∨ hi ≤ v)) 2 f (e_failIf (decide (d = 0)) 1 f (E.1, E.2.1, f + d))) := by subst hf hd hv; rfl
theorem e_nu_1 {tx : Nat → Nat} {n lw hi : Nat} {nt : Int32} {E : xE} {f d v : Nat} (h0 : E.1 = 0) (hf : f = s_skip tx n E.2.2) (hd : d = s_dig tx n f) (hv : v = s_val tx f (min d 3)) (h : d = 0) : (e_nu tx n lw hi nt E).2 = (1, nI f, f + d) := by
  show e_failIf _ 4 _ (e_num tx n lw hi E).2 = _
  rw [e_num_of hf hd hv, e_failIf_t (c := decide (d = 0)) (E := (E.1, E.2.1, f + d)) h0 (decide_eq_true h), e_failIf_k3 (show ¬ 1 = 0 by decide), e_failIf_k3 (show ¬ 1 = 0 by decide)]
theorem e_nu_2 {tx : Nat → Nat} {n lw hi : Nat} {nt : Int32} {E : xE} {f d v : Nat} (h0 : E.1 = 0) (hf : f = s_skip tx n E.2.2) (hd : d = s_dig tx n f) (hv : v = s_val tx f (min d 3)) (h : ¬ d = 0) (h2 : 3 < d ∨ v < lw ∨ hi ≤ v) : (e_nu tx n lw hi nt E).2 = (2, nI f, f + d) := by
  show e_failIf _ 4 _ (e_num tx n lw hi E).2 = _
  rw [e_num_of hf hd hv, e_failIf_n (c := decide (d = 0)) (decide_eq_false h), e_failIf_t (E := (E.1, E.2.1, f + d)) h0 (decide_eq_true h2), e_failIf_k3 (show ¬ 2 = 0 by decide)]
theorem e_nu_v {tx : Nat → Nat} {n lw hi : Nat} {nt : Int32} {E : xE} {f d v : Nat} (hf : f = s_skip tx n E.2.2) (hd : d = s_dig tx n f) (hv : v = s_val tx f (min d 3)) : (e_nu tx n lw hi nt E).1 = v := by
  show (e_num tx n lw hi E).1 = v
  rw [e_num_of hf hd hv]
theorem e_nu_4 {tx : Nat → Nat} {n lw hi : Nat} {nt : Int32} {E : xE} {f d v : Nat} (h0 : E.1 = 0) (hf : f = s_skip tx n E.2.2) (hd : d = s_dig tx n f) (hv : v = s_val tx f (min d 3)) (h : ¬ d = 0) (h2 : ¬ (3 < d ∨ v < lw ∨ hi ≤ v)) (h3 : nt = nI v) : (e_nu tx n lw hi nt E).2 = (4, nI f, f + d) := by
  show e_failIf (decide (nt = nI (e_num tx n lw hi E).1)) 4 (s_skip tx n E.2.2) (e_num tx n lw hi E).2 = _
  rw [e_num_of hf hd hv, e_failIf_n (c := decide (d = 0)) (decide_eq_false h), e_failIf_n (c := decide (3 < d ∨ v < lw ∨ hi ≤ v)) (decide_eq_false h2), e_failIf_t (E := (E.1, E.2.1, f + d)) h0 (decide_eq_true h3), ← hf]
theorem e_nu_0 {tx : Nat → Nat} {n lw hi : Nat} {nt : Int32} {E : xE} {f d v : Nat} (hf : f = s_skip tx n E.2.2) (hd : d = s_dig tx n f) (hv : v = s_val tx f (min d 3)) (h : ¬ d = 0) (h2 : ¬ (3 < d ∨ v < lw ∨ hi ≤ v)) (h3 : ¬ nt = nI v) : (e_nu tx n lw hi nt E).2 = (E.1, E.2.1, f + d) := by
  show e_failIf (decide (nt = nI (e_num tx n lw hi E).1)) 4 (s_skip tx n E.2.2) (e_num tx n lw hi E).2 = _
  rw [e_num_of hf hd hv, e_failIf_n (c := decide (d = 0)) (decide_eq_false h), e_failIf_n (c := decide (3 < d ∨ v < lw ∨ hi ≤ v)) (decide_eq_false h2), e_failIf_n (decide_eq_false h3)]
theorem x_in_hi {v lw hi : Nat} {hiI : Int32} (hv : v < 1000) (hlw : lw < 1000) (hhi : ∀ v, v < 1000 → (nI v ≤ hiI ↔ v < hi)) : x_in (nI v) (nI lw) hiI = decide (lw ≤ v ∧ v < hi) := by
  unfold x_in
  congr 1
  apply propext
  rw [nI_ltI (by omega) (by omega), Int32.not_lt, hhi v hv]
  omega
theorem n_number_tail {h : xH} {Z : xZ} {M : Nat → Nat → Int32} {sd : Nat → Int64} {kp : Nat → Int32} {rh rr rd rp : Nat} {wa : Int32} {E : xE} {lw hi : Nat} {hiI nt : Int32} (hlw : lw < 1000) (hhi : ∀ v, v < 1000 → (nI v ≤ hiI ↔ v < hi)) (h0 : E.1 = 0) {f d : Nat} (hf : f = s_skip (z_X Z).2 (z_X Z).1 E.2.2) (hd : d = s_dig (z_X Z).2 (z_X Z).1 f) (hfd : f + d ≤ 300) (hv3 : s_val (z_X Z).2 f (min d 3) < 1000) {g : xH} (C : x_ML g Z M sd kp (x_pt f 0 wa rh rr rd rp)) (FD : x_fD h g) : x_Rn m_X8_number 95 [some (.ref 372), some (.int (nI lw)), some (.int hiI), some (.int nt), some (.int (nI d)), some (.int (nI (s_val (z_X Z).2 f (min d 4))))] [] g (0, 0) (x_ir (fun r h' => ∃ a' w' wa', x_ML h' Z M sd kp (x_pt a' w' wa' rh rr rd rp) ∧ x_PE (e_nu (z_X Z).2 (z_X Z).1 lw hi nt E).2 a' w' wa' ∧ r = (if (e_nu (z_X Z).2 (z_X Z).1 lw hi nt E).2.1 = 0 then nI (e_nu (z_X Z).2 (z_X Z).1 lw hi nt E).1 else nI 0) ∧ x_fD h h')) := by
  have mo := C.mo
  refine R_iload dX8_number_95 rfl ?_
  refine R_ifneN 108 dX8_number_97 rfl (by omega) (fun c_97 => ?_) (fun c_97 => ?_)
  · skip
    refine R_iload dX8_number_108 rfl ?_
    refine R_iconst (nI 3) dX8_number_110 rfl ?_
    refine R_gtN 124 dX8_number_111 rfl (by omega) (by omega) (fun c_111 => ?_) (fun c_111 => ?_)
    · have hbad : 3 < d ∨ s_val (z_X Z).2 f (min d 3) < lw ∨ hi ≤ s_val (z_X Z).2 f (min d 3) := Or.inl (by omega)
      refine R_aload_n dX8_number_124 rfl ?_
      refine R_iconst (nI 2) dX8_number_125 rfl ?_
      refine R_cV1v (N := m_X8_fails) dX8_number_126 l_X8_116 i_X8_fails mo (n_fails C rfl) rfl rfl (fun h126 q_126 => ?_)
      obtain ⟨C, FD1⟩ := q_126
      have FD := FD.trans FD1
      have mo := C.mo
      refine R_goto 143 dX8_number_129 rfl ?_
      refine R_aload_n dX8_number_143 rfl ?_
      refine R_dup dX8_number_144 rfl ?_
      refine R_get dX8_number_145 f_X8_100 mo rfl ?_
      refine R_iload dX8_number_148 rfl ?_
      refine R_iaddN dX8_number_150 ?_
      refine R_put dX8_number_151 f_X8_100 mo (Nat.le_of_ble_eq_true rfl) (fun _ => rfl) (fun _ => rfl) ?_
      simp only [List.set_cons_succ, List.set_cons_zero]
      have C := C.tp (f + d) (2) (nI f) (rh) (rr) (rd) (rp)
      have FD := FD.set (c := 372) (.inr (8, [.ref 373, .int (nI (z_X Z).1), .int (z_f Z), .int (nI (z_N Z)), .int (nI (z_R Z)), .int (nI (z_D Z)), .int (nI (z_P Z)), .ref 374, .ref 375, .ref 376, .ref 377, .ref 378, .ref 379, .ref 380, .ref 381, .ref 382, .int (nI (z_T Z).1), .long (lN (z_s Z)), .ref 383, .ref 384, .ref 385, .ref 386, .int (nI (z_S Z).1), .ref 387, .int (nI (z_B Z).1), .int (nI (f + d)), .int (nI (2)), .int (nI f), .int (nI (rh)), .int (nI (rr)), .int (nI (rd)), .int (nI (rp)), .ref 388, .ref 389, .ref 390, .ref 391, .ref 392, .ref 393, .ref 394])) (by omega)
      have mo := C.mo
      refine R_aload_n dX8_number_154 rfl ?_
      refine R_get dX8_number_155 f_X8_107 mo rfl ?_
      refine R_ifeqN 165 dX8_number_158 rfl (by omega) (fun c_158 => ?_) (fun c_158 => ?_)
      · exact absurd c_158 (by decide)
      · skip
        refine R_iconst (nI 0) dX8_number_161 rfl ?_
        refine R_goto 167 dX8_number_162 rfl ?_
        exact R_iret dX8_number_167 rfl rfl rfl ⟨_, rfl, _, _, _, C, by rw [e_nu_2 h0 hf hd rfl (by omega) hbad]; exact ⟨fun z => absurd z (show ¬ 2 = 0 by decide), fun _ => ⟨rfl, rfl⟩, by omega, by show 2 ≤ 100; decide⟩, by rw [e_nu_2 h0 hf hd rfl (by omega) hbad]; rfl, FD⟩
    · have hmin : min d 4 = min d 3 := by omega
      have hv3 : s_val (z_X Z).2 f (min d 4) < 1000 := by rw [hmin]; exact hv3
      refine R_iload dX8_number_114 rfl ?_
      refine R_iload_n dX8_number_116 rfl ?_
      refine R_iload_n dX8_number_117 rfl ?_
      refine R_cS3p (N := m_X8_in) dX8_number_118 l_X8_85 i_X8_in (n_in _ _ _) rfl rfl ?_
      refine R_ifneB 132 dX8_number_121 rfl (fun c_121 => ?_) (fun c_121 => ?_)
      · rw [x_in_hi hv3 hlw hhi] at c_121
        have hgood : ¬ (3 < d ∨ s_val (z_X Z).2 f (min d 3) < lw ∨ hi ≤ s_val (z_X Z).2 f (min d 3)) := by
          have c_121 := of_decide_eq_true c_121
          rw [hmin] at c_121
          omega
        refine R_iload dX8_number_132 rfl ?_
        refine R_iload_n dX8_number_134 rfl ?_
        refine R_icmpne 143 dX8_number_135 rfl (fun c_135 => ?_) (fun c_135 => ?_)
        · have h4 : ¬ nt = nI (s_val (z_X Z).2 f (min d 3)) := fun z => c_135 (by rw [z, hmin])
          refine R_aload_n dX8_number_143 rfl ?_
          refine R_dup dX8_number_144 rfl ?_
          refine R_get dX8_number_145 f_X8_100 mo rfl ?_
          refine R_iload dX8_number_148 rfl ?_
          refine R_iaddN dX8_number_150 ?_
          refine R_put dX8_number_151 f_X8_100 mo (Nat.le_of_ble_eq_true rfl) (fun _ => rfl) (fun _ => rfl) ?_
          simp only [List.set_cons_succ, List.set_cons_zero]
          have C := C.tp (f + d) (0) wa (rh) (rr) (rd) (rp)
          have FD := FD.set (c := 372) (.inr (8, [.ref 373, .int (nI (z_X Z).1), .int (z_f Z), .int (nI (z_N Z)), .int (nI (z_R Z)), .int (nI (z_D Z)), .int (nI (z_P Z)), .ref 374, .ref 375, .ref 376, .ref 377, .ref 378, .ref 379, .ref 380, .ref 381, .ref 382, .int (nI (z_T Z).1), .long (lN (z_s Z)), .ref 383, .ref 384, .ref 385, .ref 386, .int (nI (z_S Z).1), .ref 387, .int (nI (z_B Z).1), .int (nI (f + d)), .int (nI (0)), .int wa, .int (nI (rh)), .int (nI (rr)), .int (nI (rd)), .int (nI (rp)), .ref 388, .ref 389, .ref 390, .ref 391, .ref 392, .ref 393, .ref 394])) (by omega)
          have mo := C.mo
          refine R_aload_n dX8_number_154 rfl ?_
          refine R_get dX8_number_155 f_X8_107 mo rfl ?_
          refine R_ifeqN 165 dX8_number_158 rfl (by omega) (fun c_158 => ?_) (fun c_158 => ?_)
          · skip
            refine R_iload dX8_number_165 rfl ?_
            exact R_iret dX8_number_167 rfl rfl rfl ⟨_, rfl, _, _, _, C, by rw [e_nu_0 hf hd rfl (by omega) hgood h4]; exact ⟨fun _ => ⟨rfl, rfl⟩, fun z => absurd h0 z, by omega, by show E.1 ≤ 100; omega⟩, by rw [e_nu_0 hf hd rfl (by omega) hgood h4, if_pos h0, e_nu_v hf hd rfl, hmin], FD⟩
          · exact absurd rfl c_158
        · have h4 : nt = nI (s_val (z_X Z).2 f (min d 3)) := by rw [← hmin]; exact c_135.symm
          refine R_aload_n dX8_number_138 rfl ?_
          refine R_iconst (nI 4) dX8_number_139 rfl ?_
          refine R_cV1v (N := m_X8_fails) dX8_number_140 l_X8_116 i_X8_fails mo (n_fails C rfl) rfl rfl (fun h140 q_140 => ?_)
          obtain ⟨C, FD1⟩ := q_140
          have FD := FD.trans FD1
          have mo := C.mo
          refine R_aload_n dX8_number_143 rfl ?_
          refine R_dup dX8_number_144 rfl ?_
          refine R_get dX8_number_145 f_X8_100 mo rfl ?_
          refine R_iload dX8_number_148 rfl ?_
          refine R_iaddN dX8_number_150 ?_
          refine R_put dX8_number_151 f_X8_100 mo (Nat.le_of_ble_eq_true rfl) (fun _ => rfl) (fun _ => rfl) ?_
          simp only [List.set_cons_succ, List.set_cons_zero]
          have C := C.tp (f + d) (4) (nI f) (rh) (rr) (rd) (rp)
          have FD := FD.set (c := 372) (.inr (8, [.ref 373, .int (nI (z_X Z).1), .int (z_f Z), .int (nI (z_N Z)), .int (nI (z_R Z)), .int (nI (z_D Z)), .int (nI (z_P Z)), .ref 374, .ref 375, .ref 376, .ref 377, .ref 378, .ref 379, .ref 380, .ref 381, .ref 382, .int (nI (z_T Z).1), .long (lN (z_s Z)), .ref 383, .ref 384, .ref 385, .ref 386, .int (nI (z_S Z).1), .ref 387, .int (nI (z_B Z).1), .int (nI (f + d)), .int (nI (4)), .int (nI f), .int (nI (rh)), .int (nI (rr)), .int (nI (rd)), .int (nI (rp)), .ref 388, .ref 389, .ref 390, .ref 391, .ref 392, .ref 393, .ref 394])) (by omega)
          have mo := C.mo
          refine R_aload_n dX8_number_154 rfl ?_
          refine R_get dX8_number_155 f_X8_107 mo rfl ?_
          refine R_ifeqN 165 dX8_number_158 rfl (by omega) (fun c_158 => ?_) (fun c_158 => ?_)
          · exact absurd c_158 (by decide)
          · skip
            refine R_iconst (nI 0) dX8_number_161 rfl ?_
            refine R_goto 167 dX8_number_162 rfl ?_
            exact R_iret dX8_number_167 rfl rfl rfl ⟨_, rfl, _, _, _, C, by rw [e_nu_4 h0 hf hd rfl (by omega) hgood h4]; exact ⟨fun z => absurd z (show ¬ 4 = 0 by decide), fun _ => ⟨rfl, rfl⟩, by omega, by show 4 ≤ 100; decide⟩, by rw [e_nu_4 h0 hf hd rfl (by omega) hgood h4]; rfl, FD⟩
      · rw [x_in_hi hv3 hlw hhi] at c_121
        have hbad : 3 < d ∨ s_val (z_X Z).2 f (min d 3) < lw ∨ hi ≤ s_val (z_X Z).2 f (min d 3) := by
          have c_121 := of_decide_eq_false c_121
          rw [hmin] at c_121
          omega
        refine R_aload_n dX8_number_124 rfl ?_
        refine R_iconst (nI 2) dX8_number_125 rfl ?_
        refine R_cV1v (N := m_X8_fails) dX8_number_126 l_X8_116 i_X8_fails mo (n_fails C rfl) rfl rfl (fun h126 q_126 => ?_)
        obtain ⟨C, FD1⟩ := q_126
        have FD := FD.trans FD1
        have mo := C.mo
        refine R_goto 143 dX8_number_129 rfl ?_
        refine R_aload_n dX8_number_143 rfl ?_
        refine R_dup dX8_number_144 rfl ?_
        refine R_get dX8_number_145 f_X8_100 mo rfl ?_
        refine R_iload dX8_number_148 rfl ?_
        refine R_iaddN dX8_number_150 ?_
        refine R_put dX8_number_151 f_X8_100 mo (Nat.le_of_ble_eq_true rfl) (fun _ => rfl) (fun _ => rfl) ?_
        simp only [List.set_cons_succ, List.set_cons_zero]
        have C := C.tp (f + d) (2) (nI f) (rh) (rr) (rd) (rp)
        have FD := FD.set (c := 372) (.inr (8, [.ref 373, .int (nI (z_X Z).1), .int (z_f Z), .int (nI (z_N Z)), .int (nI (z_R Z)), .int (nI (z_D Z)), .int (nI (z_P Z)), .ref 374, .ref 375, .ref 376, .ref 377, .ref 378, .ref 379, .ref 380, .ref 381, .ref 382, .int (nI (z_T Z).1), .long (lN (z_s Z)), .ref 383, .ref 384, .ref 385, .ref 386, .int (nI (z_S Z).1), .ref 387, .int (nI (z_B Z).1), .int (nI (f + d)), .int (nI (2)), .int (nI f), .int (nI (rh)), .int (nI (rr)), .int (nI (rd)), .int (nI (rp)), .ref 388, .ref 389, .ref 390, .ref 391, .ref 392, .ref 393, .ref 394])) (by omega)
        have mo := C.mo
        refine R_aload_n dX8_number_154 rfl ?_
        refine R_get dX8_number_155 f_X8_107 mo rfl ?_
        refine R_ifeqN 165 dX8_number_158 rfl (by omega) (fun c_158 => ?_) (fun c_158 => ?_)
        · exact absurd c_158 (by decide)
        · skip
          refine R_iconst (nI 0) dX8_number_161 rfl ?_
          refine R_goto 167 dX8_number_162 rfl ?_
          exact R_iret dX8_number_167 rfl rfl rfl ⟨_, rfl, _, _, _, C, by rw [e_nu_2 h0 hf hd rfl (by omega) hbad]; exact ⟨fun z => absurd z (show ¬ 2 = 0 by decide), fun _ => ⟨rfl, rfl⟩, by omega, by show 2 ≤ 100; decide⟩, by rw [e_nu_2 h0 hf hd rfl (by omega) hbad]; rfl, FD⟩
  · have hz : d = 0 := c_97
    refine R_aload_n dX8_number_100 rfl ?_
    refine R_iconst (nI 1) dX8_number_101 rfl ?_
    refine R_cV1v (N := m_X8_fails) dX8_number_102 l_X8_116 i_X8_fails mo (n_fails C rfl) rfl rfl (fun h102 q_102 => ?_)
    obtain ⟨C, FD1⟩ := q_102
    have FD := FD.trans FD1
    have mo := C.mo
    refine R_goto 143 dX8_number_105 rfl ?_
    refine R_aload_n dX8_number_143 rfl ?_
    refine R_dup dX8_number_144 rfl ?_
    refine R_get dX8_number_145 f_X8_100 mo rfl ?_
    refine R_iload dX8_number_148 rfl ?_
    refine R_iaddN dX8_number_150 ?_
    refine R_put dX8_number_151 f_X8_100 mo (Nat.le_of_ble_eq_true rfl) (fun _ => rfl) (fun _ => rfl) ?_
    simp only [List.set_cons_succ, List.set_cons_zero]
    have C := C.tp (f + d) (1) (nI f) (rh) (rr) (rd) (rp)
    have FD := FD.set (c := 372) (.inr (8, [.ref 373, .int (nI (z_X Z).1), .int (z_f Z), .int (nI (z_N Z)), .int (nI (z_R Z)), .int (nI (z_D Z)), .int (nI (z_P Z)), .ref 374, .ref 375, .ref 376, .ref 377, .ref 378, .ref 379, .ref 380, .ref 381, .ref 382, .int (nI (z_T Z).1), .long (lN (z_s Z)), .ref 383, .ref 384, .ref 385, .ref 386, .int (nI (z_S Z).1), .ref 387, .int (nI (z_B Z).1), .int (nI (f + d)), .int (nI (1)), .int (nI f), .int (nI (rh)), .int (nI (rr)), .int (nI (rd)), .int (nI (rp)), .ref 388, .ref 389, .ref 390, .ref 391, .ref 392, .ref 393, .ref 394])) (by omega)
    have mo := C.mo
    refine R_aload_n dX8_number_154 rfl ?_
    refine R_get dX8_number_155 f_X8_107 mo rfl ?_
    refine R_ifeqN 165 dX8_number_158 rfl (by omega) (fun c_158 => ?_) (fun c_158 => ?_)
    · exact absurd c_158 (by decide)
    · skip
      refine R_iconst (nI 0) dX8_number_161 rfl ?_
      refine R_goto 167 dX8_number_162 rfl ?_
      exact R_iret dX8_number_167 rfl rfl rfl ⟨_, rfl, _, _, _, C, by rw [e_nu_1 h0 hf hd rfl hz]; exact ⟨fun z => absurd z (show ¬ 1 = 0 by decide), fun _ => ⟨rfl, rfl⟩, by omega, by show 1 ≤ 100; decide⟩, by rw [e_nu_1 h0 hf hd rfl hz]; rfl, FD⟩
theorem n_number_loop {Z : xZ} {M : Nat → Nat → Int32} {sd : Nat → Int64} {kp : Nat → Int32} {rh rr rd rp : Nat} {wa : Int32}  {f d : Nat} {g : xH} (C : x_ML g Z M sd kp (x_pt f 0 wa rh rr rd rp)) (bX : (z_X Z).1 ≤ 240) (bXc : ∀ i, i < (z_X Z).1 → (z_X Z).2 i < 256) (hf5 : f ≤ 500) (hd3 : d ≤ 300) {K : Option Value → xH → Prop} {lw : Nat} {hiI nt : Int32} (kk : x_Rn m_X8_number 95 [some (.ref 372), some (.int (nI lw)), some (.int hiI), some (.int nt), some (.int (nI d)), some (.int (nI (s_val (z_X Z).2 f (min d 4))))] [] g (0, 0) K) : ∀ (m j : Nat), d + 1 ≤ j + m → j + s_dig (z_X Z).2 (z_X Z).1 (f + j) = d → x_Rn m_X8_number 19 [some (.ref 372), some (.int (nI lw)), some (.int hiI), some (.int nt), some (.int (nI j)), some (.int (nI (s_val (z_X Z).2 f (min j 4))))] [] g (0, 0) K := by
  have mo := C.mo
  have wx : ∀ i, i < (z_X Z).1 → M 0 i = nI ((z_X Z).2 i) := C.2.2.2.2.2.2.2.2.2.2.2.2.2.2
  have m0 : g[373]? = some (x_ia 240 (M 0)) := C.1.2 0 (by decide)
  intro m
  induction m with
  | zero => intro j h1 hj; omega
  | succ m ih =>
    intro j h1 hj
    refine R_aload_n dX8_number_19 rfl ?_
    refine R_get dX8_number_20 f_X8_100 mo rfl ?_
    refine R_iload dX8_number_23 rfl ?_
    refine R_iaddN dX8_number_25 ?_
    refine R_aload_n dX8_number_26 rfl ?_
    refine R_get dX8_number_27 f_X8_96 mo rfl ?_
    refine R_geN 95 dX8_number_30 rfl (by omega) (by omega) (fun c_30 => ?_) (fun c_30 => ?_)
    · have e0 := s_dig_f (tx := (z_X Z).2) (n := (z_X Z).1) (i := f + j) (by omega)
      have ed : j = d := by omega
      subst ed
      exact kk
    · have lt9 := bXc (f + j) c_30
      refine R_aload_n dX8_number_33 rfl ?_
      refine R_get dX8_number_34 f_X8_7 mo rfl ?_
      refine R_aload_n dX8_number_37 rfl ?_
      refine R_get dX8_number_38 f_X8_100 mo rfl ?_
      refine R_iload dX8_number_41 rfl ?_
      refine R_iaddN dX8_number_43 ?_
      refine R_iald dX8_number_44 m0 rfl (by omega) (by decide) ?_
      rw [wx (f + j) (by omega)]
      refine R_bipush (nI 48) dX8_number_45 rfl ?_
      refine R_bipush (nI 57) dX8_number_47 rfl ?_
      refine R_cS3p (N := m_X8_in) dX8_number_49 l_X8_85 i_X8_in (n_in _ _ _) rfl rfl ?_
      refine R_ifeqB 95 dX8_number_52 rfl (fun c_52 => ?_) (fun c_52 => ?_)
      · rw [x_in_N (by omega) (by decide) (by decide)] at c_52
        have c_52 := of_decide_eq_false c_52
        have e0 := s_dig_f (tx := (z_X Z).2) (n := (z_X Z).1) (i := f + j) (fun z => c_52 z.2)
        have ed : j = d := by omega
        subst ed
        exact kk
      · rw [x_in_N (by omega) (by decide) (by decide)] at c_52
        have c_52 := of_decide_eq_true c_52
        have e0 := s_dig_t (tx := (z_X Z).2) (n := (z_X Z).1) (i := f + j) c_30 c_52.1 c_52.2
        refine R_iload dX8_number_55 rfl ?_
        refine R_iconst (nI 4) dX8_number_57 rfl ?_
        refine R_geN 85 dX8_number_58 rfl (by omega) (by omega) (fun c_58 => ?_) (fun c_58 => ?_)
        · have hv : s_val (z_X Z).2 f (min j 4) = s_val (z_X Z).2 f (min (j + 1) 4) := by rw [show min j 4 = 4 by omega, show min (j + 1) 4 = 4 by omega]
          refine R_iload dX8_number_85 rfl ?_
          rw [hv]
          refine R_istore dX8_number_87 (Nat.le_of_ble_eq_true rfl) rfl ?_
          refine R_iincN dX8_number_89 rfl (Nat.le_of_ble_eq_true rfl) rfl ?_
          refine R_goto 19 dX8_number_92 rfl ?_
          exact ih (j + 1) (by omega) (by rw [← hj, e0, Nat.add_assoc f j 1]; omega)
        · have hv : 10 * s_val (z_X Z).2 f (min j 4) + (z_X Z).2 (f + j) - 48 = s_val (z_X Z).2 f (min (j + 1) 4) := by rw [show min j 4 = j by omega, show min (j + 1) 4 = j + 1 by omega, s_val, Nat.mul_comm]
          refine R_bipush (nI 10) dX8_number_61 rfl ?_
          refine R_iload dX8_number_63 rfl ?_
          refine R_imulN dX8_number_65 ?_
          refine R_aload_n dX8_number_66 rfl ?_
          refine R_get dX8_number_67 f_X8_7 mo rfl ?_
          refine R_aload_n dX8_number_70 rfl ?_
          refine R_get dX8_number_71 f_X8_100 mo rfl ?_
          refine R_iload dX8_number_74 rfl ?_
          refine R_iaddN dX8_number_76 ?_
          refine R_iald dX8_number_77 m0 rfl (by omega) (by decide) ?_
          rw [wx (f + j) (by omega)]
          refine R_iaddN dX8_number_78 ?_
          refine R_bipush (nI 48) dX8_number_79 rfl ?_
          refine R_isubN dX8_number_81 (by omega) ?_
          refine R_goto 87 dX8_number_82 rfl ?_
          rw [hv]
          refine R_istore dX8_number_87 (Nat.le_of_ble_eq_true rfl) rfl ?_
          refine R_iincN dX8_number_89 rfl (Nat.le_of_ble_eq_true rfl) rfl ?_
          refine R_goto 19 dX8_number_92 rfl ?_
          exact ih (j + 1) (by omega) (by rw [← hj, e0, Nat.add_assoc f j 1]; omega)
theorem n_number {h : xH} {Z : xZ} {M : Nat → Nat → Int32} {sd : Nat → Int64} {kp : Nat → Int32} {a w rh rr rd rp : Nat} {wa : Int32} {E : xE} {lw hi : Nat} {hiI nt : Int32} (hlw : lw < 1000) (hhi : ∀ v, v < 1000 → (nI v ≤ hiI ↔ v < hi)) (C : x_ML h Z M sd kp (x_pt (a) (w) wa (rh) (rr) (rd) (rp))) (pe : x_PE E a w wa) (hE : E.1 = 0 → E.2.2 ≤ (z_X Z).1) (bX : (z_X Z).1 ≤ 240) (bXc : ∀ i, i < (z_X Z).1 → (z_X Z).2 i < 256) : x_Met m_X8_number [.ref 372, .int (nI lw), .int hiI, .int nt] h (x_ir (fun r h' => ∃ a' w' wa', x_ML h' Z M sd kp (x_pt a' w' wa' rh rr rd rp) ∧ x_PE (e_nu (z_X Z).2 (z_X Z).1 lw hi nt E).2 a' w' wa' ∧ r = (if (e_nu (z_X Z).2 (z_X Z).1 lw hi nt E).2.1 = 0 then nI (e_nu (z_X Z).2 (z_X Z).1 lw hi nt E).1 else nI 0) ∧ x_fD h h')) := by
  have mo := C.mo
  have ha := pe.2.2.1
  have hw9 : w ≤ 100 := by
    by_cases z : E.1 = 0
    · have := (pe.1 z).2; omega
    · have := (pe.2.1 z).1; have := pe.2.2.2; omega
  have ha5 : E.1 = 0 → a ≤ 500 := fun z => by have := (pe.1 z).1; have := hE z; omega
  refine x_Met.of (lo := [some (.ref 372), some (.int (nI lw)), some (.int hiI), some (.int nt), none, none]) (by decide) rfl rfl rfl ?_
  refine R_aload_n dX8_number_0 rfl ?_
  refine R_get dX8_number_1 f_X8_107 mo rfl ?_
  refine R_ifeqN 9 dX8_number_4 rfl (by omega) (fun c_4 => ?_) (fun c_4 => ?_)
  · skip
    refine R_aload_n dX8_number_9 rfl ?_
    refine R_cV0v (N := m_X8_skips) dX8_number_10 l_X8_113 i_X8_skips mo (n_skips C (ha5 (Classical.byContradiction (fun z => z ((pe.2.1 z).1.symm.trans c_4)))) bX bXc) rfl rfl (fun h10 q_10 => ?_)
    obtain ⟨C, FD1⟩ := q_10
    have mo := C.mo
    refine R_iconst (nI 0) dX8_number_13 rfl ?_
    refine R_istore dX8_number_14 (Nat.le_of_ble_eq_true rfl) rfl ?_
    refine R_iconst (nI 0) dX8_number_16 rfl ?_
    refine R_istore dX8_number_17 (Nat.le_of_ble_eq_true rfl) rfl ?_
    have h0 : E.1 = 0 := Classical.byContradiction (fun z => z ((pe.2.1 z).1.symm.trans c_4))
    obtain ⟨ea, ew⟩ := pe.1 h0
    subst ea
    subst ew
    have hEn := hE h0
    have hs1 := (s_skip_le (tx := (z_X Z).2) hEn).2
    have hs2 := s_dig_le (tx := (z_X Z).2) hs1
    exact n_number_loop C bX bXc (by omega) (d := s_dig (z_X Z).2 (z_X Z).1 (s_skip (z_X Z).2 (z_X Z).1 E.2.2)) (by omega) (n_number_tail hlw hhi h0 rfl rfl (by omega) (e_num_lt (z_X Z).2 (z_X Z).1 lw hi E) C FD1) 300 0 (by omega) (by rw [Nat.zero_add, Nat.add_zero])
  · have h0 : ¬ E.1 = 0 := fun z => c_4 (pe.1 z).2
    have ek := e_nu_keep (tx := (z_X Z).2) (n := (z_X Z).1) (lw := lw) (hi := hi) (nt := nt) h0
    refine R_iconst (nI 0) dX8_number_7 rfl ?_
    exact R_iret dX8_number_8 rfl rfl rfl ⟨_, rfl, a, w, wa, C, ⟨fun z => absurd (ek.1.symm.trans z) h0, fun _ => by rw [ek.1, ek.2]; exact pe.2.1 h0, pe.2.2.1, by rw [ek.1]; exact pe.2.2.2⟩, by rw [if_neg (fun z => h0 (ek.1.symm.trans z))], x_fD.rf h⟩
