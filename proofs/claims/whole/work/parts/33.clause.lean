/-! CLAUSES -/
abbrev xW : Type := Nat × Nat × Nat × Nat × xF
def x_HouseW (h : xH) (b : Nat) (W : xW) : Prop := x_House h b W.1 W.2.1 W.2.2.1 W.2.2.2.1 W.2.2.2.2
def e_nq (tx : Nat → Nat) (n wat : Nat) (E : xE) (W : xW) : Nat × xE := e_num tx n 1 21 (e_failIf (decide (¬ W.1 = 0)) 3 wat E)
def e_night (tx : Nat → Nat) (n wat : Nat) (E : xE) (W : xW) : xE × xW := (e_end tx n (e_nq tx n wat E W).2, if (e_end tx n (e_nq tx n wat E W).2).1 = 0 then ((e_nq tx n wat E W).1, W.2) else W)
def e_rq (tx : Nat → Nat) (n wat : Nat) (E : xE) (W : xW) : Nat × xE := e_num tx n 0 21 (e_failIf (decide (6 ≤ W.2.1)) 3 wat E)
def e_room (tx : Nat → Nat) (n wat : Nat) (E : xE) (W : xW) : xE × xW := (e_end tx n (e_rq tx n wat E W).2, if (e_end tx n (e_rq tx n wat E W).2).1 = 0 then (W.1, W.2.1 + 1, W.2.2.1, W.2.2.2.1, s_row W.2.2.2.2 0 (s_snoc W.2.1 (W.2.2.2.2 0) (e_rq tx n wat E W).1)) else W)
def e_dqa (tx : Nat → Nat) (n wat : Nat) (E : xE) (W : xW) : Nat × xE := e_num tx n 0 W.2.1 (e_failIf (decide (8 ≤ W.2.2.1)) 3 wat E)
def e_dqb (tx : Nat → Nat) (n wat : Nat) (E : xE) (W : xW) : Nat × xE := e_num tx n 0 W.2.1 (e_skip tx n (e_dqa tx n wat E W).2)
def e_dqt (tx : Nat → Nat) (n wat : Nat) (E : xE) (W : xW) : Nat × xE := e_num tx n 0 10 (e_failIf (decide ((e_dqa tx n wat E W).1 = (e_dqb tx n wat E W).1)) 4 (e_skip tx n (e_dqa tx n wat E W).2).2.2 (e_dqb tx n wat E W).2)
def e_door (tx : Nat → Nat) (n wat : Nat) (E : xE) (W : xW) : xE × xW := (e_end tx n (e_dqt tx n wat E W).2, if (e_end tx n (e_dqt tx n wat E W).2).1 = 0 then (W.1, W.2.1, W.2.2.1 + 1, W.2.2.2.1, s_row (s_row (s_row W.2.2.2.2 1 (s_snoc W.2.2.1 (W.2.2.2.2 1) (e_dqa tx n wat E W).1)) 2 (s_snoc W.2.2.1 (W.2.2.2.2 2) (e_dqb tx n wat E W).1)) 3 (s_snoc W.2.2.1 (W.2.2.2.2 3) (e_dqt tx n wat E W).1)) else W)
def e_hqk (tx : Nat → Nat) (n wat : Nat) (E : xE) (W : xW) : Nat × xE := e_num tx n 0 5 (e_failIf (decide (6 ≤ W.2.2.2.1)) 3 wat E)
def e_hqv (tx : Nat → Nat) (n wat : Nat) (E : xE) (W : xW) : Nat × xE := e_num tx n 1 21 (e_hqk tx n wat E W).2
def e_hqr (tx : Nat → Nat) (n wat : Nat) (E : xE) (W : xW) : Nat × xE := e_num tx n 0 W.2.1 (e_hqv tx n wat E W).2
def e_heir (tx : Nat → Nat) (n wat : Nat) (E : xE) (W : xW) : xE × xW := (e_end tx n (e_hqr tx n wat E W).2, if (e_end tx n (e_hqr tx n wat E W).2).1 = 0 then (W.1, W.2.1, W.2.2.1, W.2.2.2.1 + 1, s_row (s_row (s_row W.2.2.2.2 4 (s_snoc W.2.2.2.1 (W.2.2.2.2 4) (e_hqk tx n wat E W).1)) 5 (s_snoc W.2.2.2.1 (W.2.2.2.2 5) (e_hqv tx n wat E W).1)) 6 (s_snoc W.2.2.2.1 (W.2.2.2.2 6) (e_hqr tx n wat E W).1)) else W)
/-- a clause, at its word -/
def e_clause (tx : Nat → Nat) (n : Nat) (E : xE) (W : xW) : xE × xW :=
  if ¬ tx E.2.2 = 110 ∧ W.1 = 0 then (e_fail 1 E.2.2 (E.1, E.2.1, E.2.2 + 1), W)
  else if tx E.2.2 = 110 then e_night tx n E.2.2 (E.1, E.2.1, E.2.2 + 1) W
  else if tx E.2.2 = 114 then e_room tx n E.2.2 (E.1, E.2.1, E.2.2 + 1) W
  else if tx E.2.2 = 100 then e_door tx n E.2.2 (E.1, E.2.1, E.2.2 + 1) W
  else if tx E.2.2 = 112 then e_heir tx n E.2.2 (E.1, E.2.1, E.2.2 + 1) W
  else (e_fail 1 E.2.2 (E.1, E.2.1, E.2.2 + 1), W)
theorem e_fail_fk {kd pos : Nat} {E : xE} (hk : ¬ kd = 0) : ¬ (e_fail kd pos E).1 = 0 := by unfold e_fail; split; exact hk; assumption
theorem e_failIf_fk {c : Bool} {kd pos : Nat} {E : xE} (hk : ¬ kd = 0) (h : (e_failIf c kd pos E).1 = 0) : c = false ∧ E.1 = 0 := by
  unfold e_failIf at h
  cases c with
  | true => exact absurd h (e_fail_fk hk)
  | false => exact ⟨rfl, h⟩
theorem e_num_fk {tx : Nat → Nat} {n lw hi : Nat} {E : xE} (h : (e_num tx n lw hi E).2.1 = 0) : E.1 = 0 := (e_failIf_fk (by decide) (e_failIf_fk (by decide) h).2).2
theorem e_end_fk {tx : Nat → Nat} {n : Nat} {E : xE} (h : (e_end tx n E).1 = 0) : E.1 = 0 := (e_failIf_fk (by decide) (show (e_failIf _ 1 _ (E.1, E.2.1, s_skip tx n E.2.2)).1 = 0 from h)).2
theorem x_hiR (R : Nat) (hR : R < 7) (v : Nat) (hv : v < 1000) : (nI v ≤ nI R - nI 1 ↔ v < R) := by
  cases R with
  | zero =>
    have h0 : (nI 0 - nI 1).toInt = -1 := by decide
    rw [Int32.le_iff_toInt_le, nI_toInt (by omega), h0]
    omega
  | succ R => rw [pk_sub (by omega), nI_leI (by omega) (by omega)]; omega
theorem x_hiC {k : Nat} (hk : k < 2 ^ 30) : ∀ v, v < 1000 → (nI v ≤ nI k ↔ v < k + 1) := fun v hv => by rw [nI_leI (by omega) (by omega)]; omega
theorem e_nq_le {tx : Nat → Nat} {n wat : Nat} {E : xE} (W : xW) (hE : E.2.2 ≤ n) : (e_nq tx n wat E W).2.2.2 ≤ n := by unfold e_nq; exact e_num_le (by rw [e_failIf_at]; exact hE)
theorem e_rq_le {tx : Nat → Nat} {n wat : Nat} {E : xE} (W : xW) (hE : E.2.2 ≤ n) : (e_rq tx n wat E W).2.2.2 ≤ n := by unfold e_rq; exact e_num_le (by rw [e_failIf_at]; exact hE)
theorem e_dqa_le {tx : Nat → Nat} {n wat : Nat} {E : xE} (W : xW) (hE : E.2.2 ≤ n) : (e_dqa tx n wat E W).2.2.2 ≤ n := by unfold e_dqa; exact e_num_le (by rw [e_failIf_at]; exact hE)
theorem e_sk_le {tx : Nat → Nat} {n : Nat} {E : xE} (hE : E.2.2 ≤ n) : (e_skip tx n E).2.2 ≤ n := by unfold e_skip; exact (s_skip_le hE).2
theorem e_dqb_le {tx : Nat → Nat} {n wat : Nat} {E : xE} (W : xW) (hE : E.2.2 ≤ n) : (e_dqb tx n wat E W).2.2.2 ≤ n := by unfold e_dqb; exact e_num_le (e_sk_le (e_dqa_le W hE))
theorem e_dqt_le {tx : Nat → Nat} {n wat : Nat} {E : xE} (W : xW) (hE : E.2.2 ≤ n) : (e_dqt tx n wat E W).2.2.2 ≤ n := by unfold e_dqt; exact e_num_le (by rw [e_failIf_at]; exact e_dqb_le W hE)
theorem e_hqk_le {tx : Nat → Nat} {n wat : Nat} {E : xE} (W : xW) (hE : E.2.2 ≤ n) : (e_hqk tx n wat E W).2.2.2 ≤ n := by unfold e_hqk; exact e_num_le (by rw [e_failIf_at]; exact hE)
theorem e_hqv_le {tx : Nat → Nat} {n wat : Nat} {E : xE} (W : xW) (hE : E.2.2 ≤ n) : (e_hqv tx n wat E W).2.2.2 ≤ n := by unfold e_hqv; exact e_num_le (e_hqk_le W hE)
theorem e_hqr_le {tx : Nat → Nat} {n wat : Nat} {E : xE} (W : xW) (hE : E.2.2 ≤ n) : (e_hqr tx n wat E W).2.2.2 ≤ n := by unfold e_hqr; exact e_num_le (e_hqv_le W hE)
theorem e_dqt_fk {tx : Nat → Nat} {n wat : Nat} {E : xE} {W : xW} (h : (e_dqt tx n wat E W).2.1 = 0) : (e_dqa tx n wat E W).1 ≠ (e_dqb tx n wat E W).1 ∧ (e_dqa tx n wat E W).2.1 = 0 := by
  unfold e_dqt at h
  have h1 := e_failIf_fk (by decide) (e_num_fk h)
  have h2 := h1.2
  unfold e_dqb at h2
  have h3 := e_num_fk h2
  unfold e_skip at h3
  exact ⟨of_decide_eq_false h1.1, h3⟩
theorem e_dqa_fk {tx : Nat → Nat} {n wat : Nat} {E : xE} {W : xW} (h : (e_dqa tx n wat E W).2.1 = 0) : W.2.2.1 < 8 ∧ E.1 = 0 := by
  unfold e_dqa at h
  have h1 := e_failIf_fk (by decide) (e_num_fk h)
  exact ⟨Nat.not_le.mp (of_decide_eq_false h1.1), h1.2⟩
theorem e_rq_fk {tx : Nat → Nat} {n wat : Nat} {E : xE} {W : xW} (h : (e_rq tx n wat E W).2.1 = 0) : W.2.1 < 6 ∧ E.1 = 0 := by
  unfold e_rq at h
  have h1 := e_failIf_fk (by decide) (e_num_fk h)
  exact ⟨Nat.not_le.mp (of_decide_eq_false h1.1), h1.2⟩
theorem e_nq_fk {tx : Nat → Nat} {n wat : Nat} {E : xE} {W : xW} (h : (e_nq tx n wat E W).2.1 = 0) : W.1 = 0 ∧ E.1 = 0 := by
  unfold e_nq at h
  have h1 := e_failIf_fk (by decide) (e_num_fk h)
  have := of_decide_eq_false h1.1
  exact ⟨by omega, h1.2⟩
theorem e_hqr_fk {tx : Nat → Nat} {n wat : Nat} {E : xE} {W : xW} (h : (e_hqr tx n wat E W).2.1 = 0) : W.2.2.2.1 < 6 ∧ E.1 = 0 := by
  unfold e_hqr at h
  have h0 := e_num_fk h
  unfold e_hqv at h0
  have h1 := e_num_fk h0
  unfold e_hqk at h1
  have h2 := e_failIf_fk (by decide) (e_num_fk h1)
  exact ⟨Nat.not_le.mp (of_decide_eq_false h2.1), h2.2⟩
/-- only the text's cell b and the house's cells at c are others -/
def x_f2 (h h' : xH) (b c : Nat) : Prop := ∀ q, ¬ q = b → q < c ∨ c + 22 ≤ q → h'[q]? = h[q]?
theorem x_f2.rf (h : xH) (b c : Nat) : x_f2 h h b c := fun _ _ _ => rfl
theorem x_f2.t {h g k : xH} {b c : Nat} (f : x_f2 h g b c) (a : x_f1 g k b) : x_f2 h k b c := fun q h1 h2 => (a q h1).trans (f q h1 h2)
theorem x_f2.h {h g k : xH} {b c : Nat} (f : x_f2 h g b c) (a : x_fr g k c 22) : x_f2 h k b c := fun q h1 h2 => (a q h2).trans (f q h1 h2)
theorem x_f2.trans {h g k : xH} {b c : Nat} (f : x_f2 h g b c) (a : x_f2 g k b c) : x_f2 h k b c := fun q h1 h2 => (a q h1 h2).trans (f q h1 h2)
theorem c_Text_night {h : xH} {b c n wat N R D P : Nat} {tx : Nat → Nat} {F : xF} {E : xE} (HT : x_Text h b n tx E) (H : x_House h c N R D P F) (hb : N ≤ 20 ∧ R ≤ 6 ∧ D ≤ 8 ∧ P ≤ 6) (hdis : b + 2 ≤ c) (hE : E.2.2 ≤ n) (hw : wat < 1000) : x_Met m_X5_readNight [.ref b, .ref c, .int (nI wat)] h (x_vd (fun h' => x_Text h' b n tx (e_night tx n wat E (N, R, D, P, F)).1 ∧ x_HouseW h' c (e_night tx n wat E (N, R, D, P, F)).2 ∧ x_f2 h h' b c)) := by
  obtain ⟨h2, hn, hk, hat, htx, t0, tf, t1, t1e⟩ := id HT
  obtain ⟨h2, g0, g1, g2, g3, g4, g5, g6, g7, g8, g9, g10, g11⟩ := id H
  obtain ⟨b1, b2, b3, b4⟩ := hb
  have FR := x_f2.rf h b c
  refine x_Met.of (lo := [some (.ref b), some (.ref c), some (.int (nI wat)), none]) (by decide) rfl rfl rfl ?_
  refine R_aload_n dX5_readNight_0 rfl ?_
  refine R_aload_n dX5_readNight_1 rfl ?_
  refine R_get dX5_readNight_2 f_X5_40 g0 rfl ?_
  refine R_ifeqN 12 dX5_readNight_5 rfl (by omega) (fun c_5 => ?_) (fun c_5 => ?_)
  · refine R_iconst (nI 0) dX5_readNight_12 rfl ?_
    refine R_iconst (nI 3) dX5_readNight_13 rfl ?_
    refine R_iload_n dX5_readNight_14 rfl ?_
    refine R_cV3v (N := m_X5_failIf) dX5_readNight_15 l_X5_60 i_X5_failIf t0 (c_Text_failIfx HT (by omega) (c := decide (¬ N = 0)) (x_bf (decide_eq_false (by omega)))) rfl rfl (fun h15 q_15 => ?_)
    obtain ⟨HT, FR2⟩ := q_15
    have H := H.kept (fun q q1 q2 => FR2 q (by omega))
    have FR := FR.t FR2
    obtain ⟨h2, hn, hk, hat, htx, t0, tf, t1, t1e⟩ := id HT
    obtain ⟨h2, g0, g1, g2, g3, g4, g5, g6, g7, g8, g9, g10, g11⟩ := id H
    refine R_aload_n dX5_readNight_18 rfl ?_
    refine R_iconst (nI 1) dX5_readNight_19 rfl ?_
    refine R_bipush (nI 20) dX5_readNight_20 rfl ?_
    refine R_cV2i (N := m_X5_readNumber) dX5_readNight_22 l_X5_64 i_X5_readNumber t0 (c_Text_num HT (hi := 21) (by omega) (x_hiC (by decide)) (by rw [e_failIf_at]; exact hE)) rfl rfl (fun r22 h22 q_22 => ?_)
    obtain ⟨er, HT, FR2⟩ := q_22
    have er : r22 = nI (e_nq tx n wat E (N, R, D, P, F)).1 := er
    have HT : x_Text h22 b n tx (e_nq tx n wat E (N, R, D, P, F)).2 := HT
    subst er
    have H := H.kept (fun q q1 q2 => FR2 q (by omega))
    have FR := FR.t FR2
    obtain ⟨h2, hn, hk, hat, htx, t0, tf, t1, t1e⟩ := id HT
    obtain ⟨h2, g0, g1, g2, g3, g4, g5, g6, g7, g8, g9, g10, g11⟩ := id H
    refine R_istore_n dX5_readNight_25 (Nat.le_of_ble_eq_true rfl) rfl ?_
    refine R_aload_n dX5_readNight_26 rfl ?_
    refine R_cV0i (N := m_X5_readEnd) dX5_readNight_27 l_X5_68 i_X5_readEnd t0 (c_Text_end HT (e_nq_le _ hE)) rfl rfl (fun r27 h27 q_27 => ?_)
    obtain ⟨er, HT, FR2⟩ := q_27
    have er : r27 = x_b (decide ((e_end tx n (e_nq tx n wat E (N, R, D, P, F)).2).1 = 0)) := er
    have HT : x_Text h27 b n tx (e_end tx n (e_nq tx n wat E (N, R, D, P, F)).2) := HT
    subst er
    have H := H.kept (fun q q1 q2 => FR2 q (by omega))
    have FR := FR.t FR2
    obtain ⟨h2, hn, hk, hat, htx, t0, tf, t1, t1e⟩ := id HT
    obtain ⟨h2, g0, g1, g2, g3, g4, g5, g6, g7, g8, g9, g10, g11⟩ := id H
    refine R_ifeqB 38 dX5_readNight_30 rfl (fun c_30 => ?_) (fun c_30 => ?_)
    · exact R_vret dX5_readNight_38 rfl rfl rfl ⟨rfl, HT, by show x_HouseW _ c (if _ then _ else _); rw [if_neg (of_decide_eq_false c_30)]; exact H, FR⟩
    · refine R_aload_n dX5_readNight_33 rfl ?_
      refine R_iload_n dX5_readNight_34 rfl ?_
      refine R_put dX5_readNight_35 f_X5_40 g0 (Nat.le_of_ble_eq_true rfl) (fun _ => rfl) (fun _ => rfl) ?_
      simp only [List.set_cons_succ, List.set_cons_zero]
      have H := H.obj (e_nq tx n wat E (N, R, D, P, F)).1 R D P
      have FR3 := (x_fr.rf h27 c 22).set (a := c) (.inr (1, [.int (nI (e_nq tx n wat E (N, R, D, P, F)).1), .int (nI R), .int (nI D), .int (nI P), .ref (c + 1), .ref (c + 2), .ref (c + 3), .ref (c + 4), .ref (c + 5), .ref (c + 6), .ref (c + 7), .ref (c + 8), .ref (c + 15)])) (by omega) (by omega)
      have HT := HT.kept (FR3 b (by omega)) (FR3 (b + 1) (by omega))
      have FR := FR.h FR3
      exact R_vret dX5_readNight_38 rfl rfl rfl ⟨rfl, HT, by show x_HouseW _ c (if _ then _ else _); rw [if_pos (of_decide_eq_true c_30)]; exact H, FR⟩
  · refine R_iconst (nI 1) dX5_readNight_8 rfl ?_
    refine R_goto 13 dX5_readNight_9 rfl ?_
    refine R_iconst (nI 3) dX5_readNight_13 rfl ?_
    refine R_iload_n dX5_readNight_14 rfl ?_
    refine R_cV3v (N := m_X5_failIf) dX5_readNight_15 l_X5_60 i_X5_failIf t0 (c_Text_failIfx HT (by omega) (c := decide (¬ N = 0)) (x_bt (decide_eq_true (by omega)))) rfl rfl (fun h15 q_15 => ?_)
    obtain ⟨HT, FR2⟩ := q_15
    have H := H.kept (fun q q1 q2 => FR2 q (by omega))
    have FR := FR.t FR2
    obtain ⟨h2, hn, hk, hat, htx, t0, tf, t1, t1e⟩ := id HT
    obtain ⟨h2, g0, g1, g2, g3, g4, g5, g6, g7, g8, g9, g10, g11⟩ := id H
    refine R_aload_n dX5_readNight_18 rfl ?_
    refine R_iconst (nI 1) dX5_readNight_19 rfl ?_
    refine R_bipush (nI 20) dX5_readNight_20 rfl ?_
    refine R_cV2i (N := m_X5_readNumber) dX5_readNight_22 l_X5_64 i_X5_readNumber t0 (c_Text_num HT (hi := 21) (by omega) (x_hiC (by decide)) (by rw [e_failIf_at]; exact hE)) rfl rfl (fun r22 h22 q_22 => ?_)
    obtain ⟨er, HT, FR2⟩ := q_22
    have er : r22 = nI (e_nq tx n wat E (N, R, D, P, F)).1 := er
    have HT : x_Text h22 b n tx (e_nq tx n wat E (N, R, D, P, F)).2 := HT
    subst er
    have H := H.kept (fun q q1 q2 => FR2 q (by omega))
    have FR := FR.t FR2
    obtain ⟨h2, hn, hk, hat, htx, t0, tf, t1, t1e⟩ := id HT
    obtain ⟨h2, g0, g1, g2, g3, g4, g5, g6, g7, g8, g9, g10, g11⟩ := id H
    refine R_istore_n dX5_readNight_25 (Nat.le_of_ble_eq_true rfl) rfl ?_
    refine R_aload_n dX5_readNight_26 rfl ?_
    refine R_cV0i (N := m_X5_readEnd) dX5_readNight_27 l_X5_68 i_X5_readEnd t0 (c_Text_end HT (e_nq_le _ hE)) rfl rfl (fun r27 h27 q_27 => ?_)
    obtain ⟨er, HT, FR2⟩ := q_27
    have er : r27 = x_b (decide ((e_end tx n (e_nq tx n wat E (N, R, D, P, F)).2).1 = 0)) := er
    have HT : x_Text h27 b n tx (e_end tx n (e_nq tx n wat E (N, R, D, P, F)).2) := HT
    subst er
    have H := H.kept (fun q q1 q2 => FR2 q (by omega))
    have FR := FR.t FR2
    obtain ⟨h2, hn, hk, hat, htx, t0, tf, t1, t1e⟩ := id HT
    obtain ⟨h2, g0, g1, g2, g3, g4, g5, g6, g7, g8, g9, g10, g11⟩ := id H
    refine R_ifeqB 38 dX5_readNight_30 rfl (fun c_30 => ?_) (fun c_30 => ?_)
    · exact R_vret dX5_readNight_38 rfl rfl rfl ⟨rfl, HT, by show x_HouseW _ c (if _ then _ else _); rw [if_neg (of_decide_eq_false c_30)]; exact H, FR⟩
    · refine R_aload_n dX5_readNight_33 rfl ?_
      refine R_iload_n dX5_readNight_34 rfl ?_
      refine R_put dX5_readNight_35 f_X5_40 g0 (Nat.le_of_ble_eq_true rfl) (fun _ => rfl) (fun _ => rfl) ?_
      simp only [List.set_cons_succ, List.set_cons_zero]
      have H := H.obj (e_nq tx n wat E (N, R, D, P, F)).1 R D P
      have FR3 := (x_fr.rf h27 c 22).set (a := c) (.inr (1, [.int (nI (e_nq tx n wat E (N, R, D, P, F)).1), .int (nI R), .int (nI D), .int (nI P), .ref (c + 1), .ref (c + 2), .ref (c + 3), .ref (c + 4), .ref (c + 5), .ref (c + 6), .ref (c + 7), .ref (c + 8), .ref (c + 15)])) (by omega) (by omega)
      have HT := HT.kept (FR3 b (by omega)) (FR3 (b + 1) (by omega))
      have FR := FR.h FR3
      exact R_vret dX5_readNight_38 rfl rfl rfl ⟨rfl, HT, by show x_HouseW _ c (if _ then _ else _); rw [if_pos (of_decide_eq_true c_30)]; exact H, FR⟩
theorem c_Text_room {h : xH} {b c n wat N R D P : Nat} {tx : Nat → Nat} {F : xF} {E : xE} (HT : x_Text h b n tx E) (H : x_House h c N R D P F) (hb : N ≤ 20 ∧ R ≤ 6 ∧ D ≤ 8 ∧ P ≤ 6) (hdis : b + 2 ≤ c) (hE : E.2.2 ≤ n) (hw : wat < 1000) : x_Met m_X5_readRoom [.ref b, .ref c, .int (nI wat)] h (x_vd (fun h' => x_Text h' b n tx (e_room tx n wat E (N, R, D, P, F)).1 ∧ x_HouseW h' c (e_room tx n wat E (N, R, D, P, F)).2 ∧ x_f2 h h' b c)) := by
  obtain ⟨h2, hn, hk, hat, htx, t0, tf, t1, t1e⟩ := id HT
  obtain ⟨h2, g0, g1, g2, g3, g4, g5, g6, g7, g8, g9, g10, g11⟩ := id H
  obtain ⟨b1, b2, b3, b4⟩ := hb
  have FR := x_f2.rf h b c
  refine x_Met.of (lo := [some (.ref b), some (.ref c), some (.int (nI wat)), none]) (by decide) rfl rfl rfl ?_
  refine R_aload_n dX5_readRoom_0 rfl ?_
  refine R_aload_n dX5_readRoom_1 rfl ?_
  refine R_get dX5_readRoom_2 f_X5_72 g0 rfl ?_
  refine R_bipush (nI 6) dX5_readRoom_5 rfl ?_
  refine R_ltN 14 dX5_readRoom_7 rfl (by omega) (by omega) (fun c_7 => ?_) (fun c_7 => ?_)
  · refine R_iconst (nI 0) dX5_readRoom_14 rfl ?_
    refine R_iconst (nI 3) dX5_readRoom_15 rfl ?_
    refine R_iload_n dX5_readRoom_16 rfl ?_
    refine R_cV3v (N := m_X5_failIf) dX5_readRoom_17 l_X5_60 i_X5_failIf t0 (c_Text_failIfx HT (by omega) (c := decide (6 ≤ R)) (x_bf (decide_eq_false (by omega)))) rfl rfl (fun h17 q_17 => ?_)
    obtain ⟨HT, FR2⟩ := q_17
    have H := H.kept (fun q q1 q2 => FR2 q (by omega))
    have FR := FR.t FR2
    obtain ⟨h2, hn, hk, hat, htx, t0, tf, t1, t1e⟩ := id HT
    obtain ⟨h2, g0, g1, g2, g3, g4, g5, g6, g7, g8, g9, g10, g11⟩ := id H
    refine R_aload_n dX5_readRoom_20 rfl ?_
    refine R_iconst (nI 0) dX5_readRoom_21 rfl ?_
    refine R_bipush (nI 20) dX5_readRoom_22 rfl ?_
    refine R_cV2i (N := m_X5_readNumber) dX5_readRoom_24 l_X5_64 i_X5_readNumber t0 (c_Text_num HT (hi := 21) (by omega) (x_hiC (by decide)) (by rw [e_failIf_at]; exact hE)) rfl rfl (fun r24 h24 q_24 => ?_)
    obtain ⟨er, HT, FR2⟩ := q_24
    have er : r24 = nI (e_rq tx n wat E (N, R, D, P, F)).1 := er
    have HT : x_Text h24 b n tx (e_rq tx n wat E (N, R, D, P, F)).2 := HT
    subst er
    have H := H.kept (fun q q1 q2 => FR2 q (by omega))
    have FR := FR.t FR2
    obtain ⟨h2, hn, hk, hat, htx, t0, tf, t1, t1e⟩ := id HT
    obtain ⟨h2, g0, g1, g2, g3, g4, g5, g6, g7, g8, g9, g10, g11⟩ := id H
    refine R_istore_n dX5_readRoom_27 (Nat.le_of_ble_eq_true rfl) rfl ?_
    refine R_aload_n dX5_readRoom_28 rfl ?_
    refine R_cV0i (N := m_X5_readEnd) dX5_readRoom_29 l_X5_68 i_X5_readEnd t0 (c_Text_end HT (e_rq_le _ hE)) rfl rfl (fun r29 h29 q_29 => ?_)
    obtain ⟨er, HT, FR2⟩ := q_29
    have er : r29 = x_b (decide ((e_end tx n (e_rq tx n wat E (N, R, D, P, F)).2).1 = 0)) := er
    have HT : x_Text h29 b n tx (e_end tx n (e_rq tx n wat E (N, R, D, P, F)).2) := HT
    subst er
    have H := H.kept (fun q q1 q2 => FR2 q (by omega))
    have FR := FR.t FR2
    obtain ⟨h2, hn, hk, hat, htx, t0, tf, t1, t1e⟩ := id HT
    obtain ⟨h2, g0, g1, g2, g3, g4, g5, g6, g7, g8, g9, g10, g11⟩ := id H
    refine R_ifeqB 40 dX5_readRoom_32 rfl (fun c_32 => ?_) (fun c_32 => ?_)
    · exact R_vret dX5_readRoom_40 rfl rfl rfl ⟨rfl, HT, by show x_HouseW _ c (if _ then _ else _); rw [if_neg (of_decide_eq_false c_32)]; exact H, FR⟩
    · have hlim : R < 6 := (e_rq_fk (e_end_fk (of_decide_eq_true c_32))).1
      refine R_aload_n dX5_readRoom_35 rfl ?_
      refine R_iload_n dX5_readRoom_36 rfl ?_
      refine R_cV1v (N := m_X1_addRoom) dX5_readRoom_37 l_X5_75 i_X1_addRoom g0 (c_House_addRoom H hlim _) rfl rfl (fun h37 q_37 => ?_)
      obtain ⟨H, FR3⟩ := q_37
      have HT := HT.kept (FR3 b (by omega)) (FR3 (b + 1) (by omega))
      have FR := FR.h FR3
      exact R_vret dX5_readRoom_40 rfl rfl rfl ⟨rfl, HT, by show x_HouseW _ c (if _ then _ else _); rw [if_pos (of_decide_eq_true c_32)]; exact H, FR⟩
  · refine R_iconst (nI 1) dX5_readRoom_10 rfl ?_
    refine R_goto 15 dX5_readRoom_11 rfl ?_
    refine R_iconst (nI 3) dX5_readRoom_15 rfl ?_
    refine R_iload_n dX5_readRoom_16 rfl ?_
    refine R_cV3v (N := m_X5_failIf) dX5_readRoom_17 l_X5_60 i_X5_failIf t0 (c_Text_failIfx HT (by omega) (c := decide (6 ≤ R)) (x_bt (decide_eq_true (by omega)))) rfl rfl (fun h17 q_17 => ?_)
    obtain ⟨HT, FR2⟩ := q_17
    have H := H.kept (fun q q1 q2 => FR2 q (by omega))
    have FR := FR.t FR2
    obtain ⟨h2, hn, hk, hat, htx, t0, tf, t1, t1e⟩ := id HT
    obtain ⟨h2, g0, g1, g2, g3, g4, g5, g6, g7, g8, g9, g10, g11⟩ := id H
    refine R_aload_n dX5_readRoom_20 rfl ?_
    refine R_iconst (nI 0) dX5_readRoom_21 rfl ?_
    refine R_bipush (nI 20) dX5_readRoom_22 rfl ?_
    refine R_cV2i (N := m_X5_readNumber) dX5_readRoom_24 l_X5_64 i_X5_readNumber t0 (c_Text_num HT (hi := 21) (by omega) (x_hiC (by decide)) (by rw [e_failIf_at]; exact hE)) rfl rfl (fun r24 h24 q_24 => ?_)
    obtain ⟨er, HT, FR2⟩ := q_24
    have er : r24 = nI (e_rq tx n wat E (N, R, D, P, F)).1 := er
    have HT : x_Text h24 b n tx (e_rq tx n wat E (N, R, D, P, F)).2 := HT
    subst er
    have H := H.kept (fun q q1 q2 => FR2 q (by omega))
    have FR := FR.t FR2
    obtain ⟨h2, hn, hk, hat, htx, t0, tf, t1, t1e⟩ := id HT
    obtain ⟨h2, g0, g1, g2, g3, g4, g5, g6, g7, g8, g9, g10, g11⟩ := id H
    refine R_istore_n dX5_readRoom_27 (Nat.le_of_ble_eq_true rfl) rfl ?_
    refine R_aload_n dX5_readRoom_28 rfl ?_
    refine R_cV0i (N := m_X5_readEnd) dX5_readRoom_29 l_X5_68 i_X5_readEnd t0 (c_Text_end HT (e_rq_le _ hE)) rfl rfl (fun r29 h29 q_29 => ?_)
    obtain ⟨er, HT, FR2⟩ := q_29
    have er : r29 = x_b (decide ((e_end tx n (e_rq tx n wat E (N, R, D, P, F)).2).1 = 0)) := er
    have HT : x_Text h29 b n tx (e_end tx n (e_rq tx n wat E (N, R, D, P, F)).2) := HT
    subst er
    have H := H.kept (fun q q1 q2 => FR2 q (by omega))
    have FR := FR.t FR2
    obtain ⟨h2, hn, hk, hat, htx, t0, tf, t1, t1e⟩ := id HT
    obtain ⟨h2, g0, g1, g2, g3, g4, g5, g6, g7, g8, g9, g10, g11⟩ := id H
    refine R_ifeqB 40 dX5_readRoom_32 rfl (fun c_32 => ?_) (fun c_32 => ?_)
    · exact R_vret dX5_readRoom_40 rfl rfl rfl ⟨rfl, HT, by show x_HouseW _ c (if _ then _ else _); rw [if_neg (of_decide_eq_false c_32)]; exact H, FR⟩
    · have hlim : R < 6 := (e_rq_fk (e_end_fk (of_decide_eq_true c_32))).1
      refine R_aload_n dX5_readRoom_35 rfl ?_
      refine R_iload_n dX5_readRoom_36 rfl ?_
      refine R_cV1v (N := m_X1_addRoom) dX5_readRoom_37 l_X5_75 i_X1_addRoom g0 (c_House_addRoom H hlim _) rfl rfl (fun h37 q_37 => ?_)
      obtain ⟨H, FR3⟩ := q_37
      have HT := HT.kept (FR3 b (by omega)) (FR3 (b + 1) (by omega))
      have FR := FR.h FR3
      exact R_vret dX5_readRoom_40 rfl rfl rfl ⟨rfl, HT, by show x_HouseW _ c (if _ then _ else _); rw [if_pos (of_decide_eq_true c_32)]; exact H, FR⟩
theorem c_Text_door {h : xH} {b c n wat N R D P : Nat} {tx : Nat → Nat} {F : xF} {E : xE} (HT : x_Text h b n tx E) (H : x_House h c N R D P F) (hb : N ≤ 20 ∧ R ≤ 6 ∧ D ≤ 8 ∧ P ≤ 6) (hdis : b + 2 ≤ c) (hE : E.2.2 ≤ n) (hw : wat < 1000) : x_Met m_X5_readDoor [.ref b, .ref c, .int (nI wat)] h (x_vd (fun h' => x_Text h' b n tx (e_door tx n wat E (N, R, D, P, F)).1 ∧ x_HouseW h' c (e_door tx n wat E (N, R, D, P, F)).2 ∧ x_f2 h h' b c)) := by
  obtain ⟨h2, hn, hk, hat, htx, t0, tf, t1, t1e⟩ := id HT
  obtain ⟨h2, g0, g1, g2, g3, g4, g5, g6, g7, g8, g9, g10, g11⟩ := id H
  obtain ⟨b1, b2, b3, b4⟩ := hb
  have FR := x_f2.rf h b c
  refine x_Met.of (lo := [some (.ref b), some (.ref c), some (.int (nI wat)), none, none, none, none]) (by decide) rfl rfl rfl ?_
  refine R_aload_n dX5_readDoor_0 rfl ?_
  refine R_aload_n dX5_readDoor_1 rfl ?_
  refine R_get dX5_readDoor_2 f_X5_79 g0 rfl ?_
  refine R_bipush (nI 8) dX5_readDoor_5 rfl ?_
  refine R_ltN 14 dX5_readDoor_7 rfl (by omega) (by omega) (fun c_7 => ?_) (fun c_7 => ?_)
  · refine R_iconst (nI 0) dX5_readDoor_14 rfl ?_
    refine R_iconst (nI 3) dX5_readDoor_15 rfl ?_
    refine R_iload_n dX5_readDoor_16 rfl ?_
    refine R_cV3v (N := m_X5_failIf) dX5_readDoor_17 l_X5_60 i_X5_failIf t0 (c_Text_failIfx HT (by omega) (c := decide (8 ≤ D)) (x_bf (decide_eq_false (by omega)))) rfl rfl (fun h17 q_17 => ?_)
    obtain ⟨HT, FR2⟩ := q_17
    have H := H.kept (fun q q1 q2 => FR2 q (by omega))
    have FR := FR.t FR2
    obtain ⟨h2, hn, hk, hat, htx, t0, tf, t1, t1e⟩ := id HT
    obtain ⟨h2, g0, g1, g2, g3, g4, g5, g6, g7, g8, g9, g10, g11⟩ := id H
    refine R_aload_n dX5_readDoor_20 rfl ?_
    refine R_iconst (nI 0) dX5_readDoor_21 rfl ?_
    refine R_aload_n dX5_readDoor_22 rfl ?_
    refine R_get dX5_readDoor_23 f_X5_72 g0 rfl ?_
    refine R_iconst (nI 1) dX5_readDoor_26 rfl ?_
    refine R_isub dX5_readDoor_27 ?_
    refine R_cV2i (N := m_X5_readNumber) dX5_readDoor_28 l_X5_64 i_X5_readNumber t0 (c_Text_num HT (hi := R) (by omega) (x_hiR R (by omega)) (by rw [e_failIf_at]; exact hE)) rfl rfl (fun r28 h28 q_28 => ?_)
    obtain ⟨er, HT, FR2⟩ := q_28
    have er : r28 = nI (e_dqa tx n wat E (N, R, D, P, F)).1 := er
    have HT : x_Text h28 b n tx (e_dqa tx n wat E (N, R, D, P, F)).2 := HT
    subst er
    have H := H.kept (fun q q1 q2 => FR2 q (by omega))
    have FR := FR.t FR2
    obtain ⟨h2, hn, hk, hat, htx, t0, tf, t1, t1e⟩ := id HT
    obtain ⟨h2, g0, g1, g2, g3, g4, g5, g6, g7, g8, g9, g10, g11⟩ := id H
    refine R_istore_n dX5_readDoor_31 (Nat.le_of_ble_eq_true rfl) rfl ?_
    refine R_aload_n dX5_readDoor_32 rfl ?_
    refine R_cV0v (N := m_X5_skipBlanks) dX5_readDoor_33 l_X5_33 i_X5_skipBlanks t0 (c_Text_skip HT) rfl rfl (fun h33 q_33 => ?_)
    obtain ⟨HT, FR2⟩ := q_33
    have HT : x_Text h33 b n tx (e_skip tx n (e_dqa tx n wat E (N, R, D, P, F)).2) := HT
    have H := H.kept (fun q q1 q2 => FR2 q (by omega))
    have FR := FR.t FR2
    obtain ⟨h2, hn, hk, hat, htx, t0, tf, t1, t1e⟩ := id HT
    obtain ⟨h2, g0, g1, g2, g3, g4, g5, g6, g7, g8, g9, g10, g11⟩ := id H
    refine R_aload_n dX5_readDoor_36 rfl ?_
    refine R_get dX5_readDoor_37 f_X5_25 t0 rfl ?_
    refine R_istore dX5_readDoor_40 (Nat.le_of_ble_eq_true rfl) rfl ?_
    refine R_aload_n dX5_readDoor_42 rfl ?_
    refine R_iconst (nI 0) dX5_readDoor_43 rfl ?_
    refine R_aload_n dX5_readDoor_44 rfl ?_
    refine R_get dX5_readDoor_45 f_X5_72 g0 rfl ?_
    refine R_iconst (nI 1) dX5_readDoor_48 rfl ?_
    refine R_isub dX5_readDoor_49 ?_
    refine R_cV2i (N := m_X5_readNumber) dX5_readDoor_50 l_X5_64 i_X5_readNumber t0 (c_Text_num HT (hi := R) (by omega) (x_hiR R (by omega)) (e_sk_le (e_dqa_le _ hE))) rfl rfl (fun r50 h50 q_50 => ?_)
    obtain ⟨er, HT, FR2⟩ := q_50
    have er : r50 = nI (e_dqb tx n wat E (N, R, D, P, F)).1 := er
    have HT : x_Text h50 b n tx (e_dqb tx n wat E (N, R, D, P, F)).2 := HT
    subst er
    have H := H.kept (fun q q1 q2 => FR2 q (by omega))
    have FR := FR.t FR2
    obtain ⟨h2, hn, hk, hat, htx, t0, tf, t1, t1e⟩ := id HT
    obtain ⟨h2, g0, g1, g2, g3, g4, g5, g6, g7, g8, g9, g10, g11⟩ := id H
    refine R_istore dX5_readDoor_53 (Nat.le_of_ble_eq_true rfl) rfl ?_
    refine R_aload_n dX5_readDoor_55 rfl ?_
    refine R_iload_n dX5_readDoor_56 rfl ?_
    refine R_iload dX5_readDoor_57 rfl ?_
    have x1 : (e_dqa tx n wat E (N, R, D, P, F)).1 < 1000 := e_num_lt _ _ _ _ _
    have x2 : (e_dqb tx n wat E (N, R, D, P, F)).1 < 1000 := e_num_lt _ _ _ _ _
    refine R_neN 66 dX5_readDoor_59 rfl (by omega) (by omega) (fun c_59 => ?_) (fun c_59 => ?_)
    · refine R_iconst (nI 0) dX5_readDoor_66 rfl ?_
      refine R_iconst (nI 4) dX5_readDoor_67 rfl ?_
      refine R_iload dX5_readDoor_68 rfl ?_
      refine R_cV3v (N := m_X5_failIf) dX5_readDoor_70 l_X5_60 i_X5_failIf t0 (c_Text_failIfx HT (by omega) (c := decide ((e_dqa tx n wat E (N, R, D, P, F)).1 = (e_dqb tx n wat E (N, R, D, P, F)).1)) (x_bf (decide_eq_false (by assumption)))) rfl rfl (fun h70 q_70 => ?_)
      obtain ⟨HT, FR2⟩ := q_70
      have H := H.kept (fun q q1 q2 => FR2 q (by omega))
      have FR := FR.t FR2
      obtain ⟨h2, hn, hk, hat, htx, t0, tf, t1, t1e⟩ := id HT
      obtain ⟨h2, g0, g1, g2, g3, g4, g5, g6, g7, g8, g9, g10, g11⟩ := id H
      refine R_aload_n dX5_readDoor_73 rfl ?_
      refine R_iconst (nI 0) dX5_readDoor_74 rfl ?_
      refine R_bipush (nI 9) dX5_readDoor_75 rfl ?_
      refine R_cV2i (N := m_X5_readNumber) dX5_readDoor_77 l_X5_64 i_X5_readNumber t0 (c_Text_num HT (hi := 10) (by omega) (x_hiC (by decide)) (by rw [e_failIf_at]; exact e_dqb_le _ hE)) rfl rfl (fun r77 h77 q_77 => ?_)
      obtain ⟨er, HT, FR2⟩ := q_77
      have er : r77 = nI (e_dqt tx n wat E (N, R, D, P, F)).1 := er
      have HT : x_Text h77 b n tx (e_dqt tx n wat E (N, R, D, P, F)).2 := HT
      subst er
      have H := H.kept (fun q q1 q2 => FR2 q (by omega))
      have FR := FR.t FR2
      obtain ⟨h2, hn, hk, hat, htx, t0, tf, t1, t1e⟩ := id HT
      obtain ⟨h2, g0, g1, g2, g3, g4, g5, g6, g7, g8, g9, g10, g11⟩ := id H
      refine R_istore dX5_readDoor_80 (Nat.le_of_ble_eq_true rfl) rfl ?_
      refine R_aload_n dX5_readDoor_82 rfl ?_
      refine R_cV0i (N := m_X5_readEnd) dX5_readDoor_83 l_X5_68 i_X5_readEnd t0 (c_Text_end HT (e_dqt_le _ hE)) rfl rfl (fun r83 h83 q_83 => ?_)
      obtain ⟨er, HT, FR2⟩ := q_83
      have er : r83 = x_b (decide ((e_end tx n (e_dqt tx n wat E (N, R, D, P, F)).2).1 = 0)) := er
      have HT : x_Text h83 b n tx (e_end tx n (e_dqt tx n wat E (N, R, D, P, F)).2) := HT
      subst er
      have H := H.kept (fun q q1 q2 => FR2 q (by omega))
      have FR := FR.t FR2
      obtain ⟨h2, hn, hk, hat, htx, t0, tf, t1, t1e⟩ := id HT
      obtain ⟨h2, g0, g1, g2, g3, g4, g5, g6, g7, g8, g9, g10, g11⟩ := id H
      refine R_ifeqB 98 dX5_readDoor_86 rfl (fun c_86 => ?_) (fun c_86 => ?_)
      · exact R_vret dX5_readDoor_98 rfl rfl rfl ⟨rfl, HT, by show x_HouseW _ c (if _ then _ else _); rw [if_neg (of_decide_eq_false c_86)]; exact H, FR⟩
      · have hlim : D < 8 := (e_dqa_fk (e_dqt_fk (e_end_fk (of_decide_eq_true c_86))).2).1
        refine R_aload_n dX5_readDoor_89 rfl ?_
        refine R_iload_n dX5_readDoor_90 rfl ?_
        refine R_iload dX5_readDoor_91 rfl ?_
        refine R_iload dX5_readDoor_93 rfl ?_
        refine R_cV3v (N := m_X1_addDoor) dX5_readDoor_95 l_X5_82 i_X1_addDoor g0 (c_House_addDoor H hlim _ _ _) rfl rfl (fun h95 q_95 => ?_)
        obtain ⟨H, FR3⟩ := q_95
        have HT := HT.kept (FR3 b (by omega)) (FR3 (b + 1) (by omega))
        have FR := FR.h FR3
        exact R_vret dX5_readDoor_98 rfl rfl rfl ⟨rfl, HT, by show x_HouseW _ c (if _ then _ else _); rw [if_pos (of_decide_eq_true c_86)]; exact H, FR⟩
    · refine R_iconst (nI 1) dX5_readDoor_62 rfl ?_
      refine R_goto 67 dX5_readDoor_63 rfl ?_
      refine R_iconst (nI 4) dX5_readDoor_67 rfl ?_
      refine R_iload dX5_readDoor_68 rfl ?_
      refine R_cV3v (N := m_X5_failIf) dX5_readDoor_70 l_X5_60 i_X5_failIf t0 (c_Text_failIfx HT (by omega) (c := decide ((e_dqa tx n wat E (N, R, D, P, F)).1 = (e_dqb tx n wat E (N, R, D, P, F)).1)) (x_bt (decide_eq_true (by assumption)))) rfl rfl (fun h70 q_70 => ?_)
      obtain ⟨HT, FR2⟩ := q_70
      have H := H.kept (fun q q1 q2 => FR2 q (by omega))
      have FR := FR.t FR2
      obtain ⟨h2, hn, hk, hat, htx, t0, tf, t1, t1e⟩ := id HT
      obtain ⟨h2, g0, g1, g2, g3, g4, g5, g6, g7, g8, g9, g10, g11⟩ := id H
      refine R_aload_n dX5_readDoor_73 rfl ?_
      refine R_iconst (nI 0) dX5_readDoor_74 rfl ?_
      refine R_bipush (nI 9) dX5_readDoor_75 rfl ?_
      refine R_cV2i (N := m_X5_readNumber) dX5_readDoor_77 l_X5_64 i_X5_readNumber t0 (c_Text_num HT (hi := 10) (by omega) (x_hiC (by decide)) (by rw [e_failIf_at]; exact e_dqb_le _ hE)) rfl rfl (fun r77 h77 q_77 => ?_)
      obtain ⟨er, HT, FR2⟩ := q_77
      have er : r77 = nI (e_dqt tx n wat E (N, R, D, P, F)).1 := er
      have HT : x_Text h77 b n tx (e_dqt tx n wat E (N, R, D, P, F)).2 := HT
      subst er
      have H := H.kept (fun q q1 q2 => FR2 q (by omega))
      have FR := FR.t FR2
      obtain ⟨h2, hn, hk, hat, htx, t0, tf, t1, t1e⟩ := id HT
      obtain ⟨h2, g0, g1, g2, g3, g4, g5, g6, g7, g8, g9, g10, g11⟩ := id H
      refine R_istore dX5_readDoor_80 (Nat.le_of_ble_eq_true rfl) rfl ?_
      refine R_aload_n dX5_readDoor_82 rfl ?_
      refine R_cV0i (N := m_X5_readEnd) dX5_readDoor_83 l_X5_68 i_X5_readEnd t0 (c_Text_end HT (e_dqt_le _ hE)) rfl rfl (fun r83 h83 q_83 => ?_)
      obtain ⟨er, HT, FR2⟩ := q_83
      have er : r83 = x_b (decide ((e_end tx n (e_dqt tx n wat E (N, R, D, P, F)).2).1 = 0)) := er
      have HT : x_Text h83 b n tx (e_end tx n (e_dqt tx n wat E (N, R, D, P, F)).2) := HT
      subst er
      have H := H.kept (fun q q1 q2 => FR2 q (by omega))
      have FR := FR.t FR2
      obtain ⟨h2, hn, hk, hat, htx, t0, tf, t1, t1e⟩ := id HT
      obtain ⟨h2, g0, g1, g2, g3, g4, g5, g6, g7, g8, g9, g10, g11⟩ := id H
      refine R_ifeqB 98 dX5_readDoor_86 rfl (fun c_86 => ?_) (fun c_86 => ?_)
      · exact R_vret dX5_readDoor_98 rfl rfl rfl ⟨rfl, HT, by show x_HouseW _ c (if _ then _ else _); rw [if_neg (of_decide_eq_false c_86)]; exact H, FR⟩
      · have hlim : D < 8 := (e_dqa_fk (e_dqt_fk (e_end_fk (of_decide_eq_true c_86))).2).1
        refine R_aload_n dX5_readDoor_89 rfl ?_
        refine R_iload_n dX5_readDoor_90 rfl ?_
        refine R_iload dX5_readDoor_91 rfl ?_
        refine R_iload dX5_readDoor_93 rfl ?_
        refine R_cV3v (N := m_X1_addDoor) dX5_readDoor_95 l_X5_82 i_X1_addDoor g0 (c_House_addDoor H hlim _ _ _) rfl rfl (fun h95 q_95 => ?_)
        obtain ⟨H, FR3⟩ := q_95
        have HT := HT.kept (FR3 b (by omega)) (FR3 (b + 1) (by omega))
        have FR := FR.h FR3
        exact R_vret dX5_readDoor_98 rfl rfl rfl ⟨rfl, HT, by show x_HouseW _ c (if _ then _ else _); rw [if_pos (of_decide_eq_true c_86)]; exact H, FR⟩
  · refine R_iconst (nI 1) dX5_readDoor_10 rfl ?_
    refine R_goto 15 dX5_readDoor_11 rfl ?_
    refine R_iconst (nI 3) dX5_readDoor_15 rfl ?_
    refine R_iload_n dX5_readDoor_16 rfl ?_
    refine R_cV3v (N := m_X5_failIf) dX5_readDoor_17 l_X5_60 i_X5_failIf t0 (c_Text_failIfx HT (by omega) (c := decide (8 ≤ D)) (x_bt (decide_eq_true (by omega)))) rfl rfl (fun h17 q_17 => ?_)
    obtain ⟨HT, FR2⟩ := q_17
    have H := H.kept (fun q q1 q2 => FR2 q (by omega))
    have FR := FR.t FR2
    obtain ⟨h2, hn, hk, hat, htx, t0, tf, t1, t1e⟩ := id HT
    obtain ⟨h2, g0, g1, g2, g3, g4, g5, g6, g7, g8, g9, g10, g11⟩ := id H
    refine R_aload_n dX5_readDoor_20 rfl ?_
    refine R_iconst (nI 0) dX5_readDoor_21 rfl ?_
    refine R_aload_n dX5_readDoor_22 rfl ?_
    refine R_get dX5_readDoor_23 f_X5_72 g0 rfl ?_
    refine R_iconst (nI 1) dX5_readDoor_26 rfl ?_
    refine R_isub dX5_readDoor_27 ?_
    refine R_cV2i (N := m_X5_readNumber) dX5_readDoor_28 l_X5_64 i_X5_readNumber t0 (c_Text_num HT (hi := R) (by omega) (x_hiR R (by omega)) (by rw [e_failIf_at]; exact hE)) rfl rfl (fun r28 h28 q_28 => ?_)
    obtain ⟨er, HT, FR2⟩ := q_28
    have er : r28 = nI (e_dqa tx n wat E (N, R, D, P, F)).1 := er
    have HT : x_Text h28 b n tx (e_dqa tx n wat E (N, R, D, P, F)).2 := HT
    subst er
    have H := H.kept (fun q q1 q2 => FR2 q (by omega))
    have FR := FR.t FR2
    obtain ⟨h2, hn, hk, hat, htx, t0, tf, t1, t1e⟩ := id HT
    obtain ⟨h2, g0, g1, g2, g3, g4, g5, g6, g7, g8, g9, g10, g11⟩ := id H
    refine R_istore_n dX5_readDoor_31 (Nat.le_of_ble_eq_true rfl) rfl ?_
    refine R_aload_n dX5_readDoor_32 rfl ?_
    refine R_cV0v (N := m_X5_skipBlanks) dX5_readDoor_33 l_X5_33 i_X5_skipBlanks t0 (c_Text_skip HT) rfl rfl (fun h33 q_33 => ?_)
    obtain ⟨HT, FR2⟩ := q_33
    have HT : x_Text h33 b n tx (e_skip tx n (e_dqa tx n wat E (N, R, D, P, F)).2) := HT
    have H := H.kept (fun q q1 q2 => FR2 q (by omega))
    have FR := FR.t FR2
    obtain ⟨h2, hn, hk, hat, htx, t0, tf, t1, t1e⟩ := id HT
    obtain ⟨h2, g0, g1, g2, g3, g4, g5, g6, g7, g8, g9, g10, g11⟩ := id H
    refine R_aload_n dX5_readDoor_36 rfl ?_
    refine R_get dX5_readDoor_37 f_X5_25 t0 rfl ?_
    refine R_istore dX5_readDoor_40 (Nat.le_of_ble_eq_true rfl) rfl ?_
    refine R_aload_n dX5_readDoor_42 rfl ?_
    refine R_iconst (nI 0) dX5_readDoor_43 rfl ?_
    refine R_aload_n dX5_readDoor_44 rfl ?_
    refine R_get dX5_readDoor_45 f_X5_72 g0 rfl ?_
    refine R_iconst (nI 1) dX5_readDoor_48 rfl ?_
    refine R_isub dX5_readDoor_49 ?_
    refine R_cV2i (N := m_X5_readNumber) dX5_readDoor_50 l_X5_64 i_X5_readNumber t0 (c_Text_num HT (hi := R) (by omega) (x_hiR R (by omega)) (e_sk_le (e_dqa_le _ hE))) rfl rfl (fun r50 h50 q_50 => ?_)
    obtain ⟨er, HT, FR2⟩ := q_50
    have er : r50 = nI (e_dqb tx n wat E (N, R, D, P, F)).1 := er
    have HT : x_Text h50 b n tx (e_dqb tx n wat E (N, R, D, P, F)).2 := HT
    subst er
    have H := H.kept (fun q q1 q2 => FR2 q (by omega))
    have FR := FR.t FR2
    obtain ⟨h2, hn, hk, hat, htx, t0, tf, t1, t1e⟩ := id HT
    obtain ⟨h2, g0, g1, g2, g3, g4, g5, g6, g7, g8, g9, g10, g11⟩ := id H
    refine R_istore dX5_readDoor_53 (Nat.le_of_ble_eq_true rfl) rfl ?_
    refine R_aload_n dX5_readDoor_55 rfl ?_
    refine R_iload_n dX5_readDoor_56 rfl ?_
    refine R_iload dX5_readDoor_57 rfl ?_
    have x1 : (e_dqa tx n wat E (N, R, D, P, F)).1 < 1000 := e_num_lt _ _ _ _ _
    have x2 : (e_dqb tx n wat E (N, R, D, P, F)).1 < 1000 := e_num_lt _ _ _ _ _
    refine R_neN 66 dX5_readDoor_59 rfl (by omega) (by omega) (fun c_59 => ?_) (fun c_59 => ?_)
    · refine R_iconst (nI 0) dX5_readDoor_66 rfl ?_
      refine R_iconst (nI 4) dX5_readDoor_67 rfl ?_
      refine R_iload dX5_readDoor_68 rfl ?_
      refine R_cV3v (N := m_X5_failIf) dX5_readDoor_70 l_X5_60 i_X5_failIf t0 (c_Text_failIfx HT (by omega) (c := decide ((e_dqa tx n wat E (N, R, D, P, F)).1 = (e_dqb tx n wat E (N, R, D, P, F)).1)) (x_bf (decide_eq_false (by assumption)))) rfl rfl (fun h70 q_70 => ?_)
      obtain ⟨HT, FR2⟩ := q_70
      have H := H.kept (fun q q1 q2 => FR2 q (by omega))
      have FR := FR.t FR2
      obtain ⟨h2, hn, hk, hat, htx, t0, tf, t1, t1e⟩ := id HT
      obtain ⟨h2, g0, g1, g2, g3, g4, g5, g6, g7, g8, g9, g10, g11⟩ := id H
      refine R_aload_n dX5_readDoor_73 rfl ?_
      refine R_iconst (nI 0) dX5_readDoor_74 rfl ?_
      refine R_bipush (nI 9) dX5_readDoor_75 rfl ?_
      refine R_cV2i (N := m_X5_readNumber) dX5_readDoor_77 l_X5_64 i_X5_readNumber t0 (c_Text_num HT (hi := 10) (by omega) (x_hiC (by decide)) (by rw [e_failIf_at]; exact e_dqb_le _ hE)) rfl rfl (fun r77 h77 q_77 => ?_)
      obtain ⟨er, HT, FR2⟩ := q_77
      have er : r77 = nI (e_dqt tx n wat E (N, R, D, P, F)).1 := er
      have HT : x_Text h77 b n tx (e_dqt tx n wat E (N, R, D, P, F)).2 := HT
      subst er
      have H := H.kept (fun q q1 q2 => FR2 q (by omega))
      have FR := FR.t FR2
      obtain ⟨h2, hn, hk, hat, htx, t0, tf, t1, t1e⟩ := id HT
      obtain ⟨h2, g0, g1, g2, g3, g4, g5, g6, g7, g8, g9, g10, g11⟩ := id H
      refine R_istore dX5_readDoor_80 (Nat.le_of_ble_eq_true rfl) rfl ?_
      refine R_aload_n dX5_readDoor_82 rfl ?_
      refine R_cV0i (N := m_X5_readEnd) dX5_readDoor_83 l_X5_68 i_X5_readEnd t0 (c_Text_end HT (e_dqt_le _ hE)) rfl rfl (fun r83 h83 q_83 => ?_)
      obtain ⟨er, HT, FR2⟩ := q_83
      have er : r83 = x_b (decide ((e_end tx n (e_dqt tx n wat E (N, R, D, P, F)).2).1 = 0)) := er
      have HT : x_Text h83 b n tx (e_end tx n (e_dqt tx n wat E (N, R, D, P, F)).2) := HT
      subst er
      have H := H.kept (fun q q1 q2 => FR2 q (by omega))
      have FR := FR.t FR2
      obtain ⟨h2, hn, hk, hat, htx, t0, tf, t1, t1e⟩ := id HT
      obtain ⟨h2, g0, g1, g2, g3, g4, g5, g6, g7, g8, g9, g10, g11⟩ := id H
      refine R_ifeqB 98 dX5_readDoor_86 rfl (fun c_86 => ?_) (fun c_86 => ?_)
      · exact R_vret dX5_readDoor_98 rfl rfl rfl ⟨rfl, HT, by show x_HouseW _ c (if _ then _ else _); rw [if_neg (of_decide_eq_false c_86)]; exact H, FR⟩
      · have hlim : D < 8 := (e_dqa_fk (e_dqt_fk (e_end_fk (of_decide_eq_true c_86))).2).1
        refine R_aload_n dX5_readDoor_89 rfl ?_
        refine R_iload_n dX5_readDoor_90 rfl ?_
        refine R_iload dX5_readDoor_91 rfl ?_
        refine R_iload dX5_readDoor_93 rfl ?_
        refine R_cV3v (N := m_X1_addDoor) dX5_readDoor_95 l_X5_82 i_X1_addDoor g0 (c_House_addDoor H hlim _ _ _) rfl rfl (fun h95 q_95 => ?_)
        obtain ⟨H, FR3⟩ := q_95
        have HT := HT.kept (FR3 b (by omega)) (FR3 (b + 1) (by omega))
        have FR := FR.h FR3
        exact R_vret dX5_readDoor_98 rfl rfl rfl ⟨rfl, HT, by show x_HouseW _ c (if _ then _ else _); rw [if_pos (of_decide_eq_true c_86)]; exact H, FR⟩
    · refine R_iconst (nI 1) dX5_readDoor_62 rfl ?_
      refine R_goto 67 dX5_readDoor_63 rfl ?_
      refine R_iconst (nI 4) dX5_readDoor_67 rfl ?_
      refine R_iload dX5_readDoor_68 rfl ?_
      refine R_cV3v (N := m_X5_failIf) dX5_readDoor_70 l_X5_60 i_X5_failIf t0 (c_Text_failIfx HT (by omega) (c := decide ((e_dqa tx n wat E (N, R, D, P, F)).1 = (e_dqb tx n wat E (N, R, D, P, F)).1)) (x_bt (decide_eq_true (by assumption)))) rfl rfl (fun h70 q_70 => ?_)
      obtain ⟨HT, FR2⟩ := q_70
      have H := H.kept (fun q q1 q2 => FR2 q (by omega))
      have FR := FR.t FR2
      obtain ⟨h2, hn, hk, hat, htx, t0, tf, t1, t1e⟩ := id HT
      obtain ⟨h2, g0, g1, g2, g3, g4, g5, g6, g7, g8, g9, g10, g11⟩ := id H
      refine R_aload_n dX5_readDoor_73 rfl ?_
      refine R_iconst (nI 0) dX5_readDoor_74 rfl ?_
      refine R_bipush (nI 9) dX5_readDoor_75 rfl ?_
      refine R_cV2i (N := m_X5_readNumber) dX5_readDoor_77 l_X5_64 i_X5_readNumber t0 (c_Text_num HT (hi := 10) (by omega) (x_hiC (by decide)) (by rw [e_failIf_at]; exact e_dqb_le _ hE)) rfl rfl (fun r77 h77 q_77 => ?_)
      obtain ⟨er, HT, FR2⟩ := q_77
      have er : r77 = nI (e_dqt tx n wat E (N, R, D, P, F)).1 := er
      have HT : x_Text h77 b n tx (e_dqt tx n wat E (N, R, D, P, F)).2 := HT
      subst er
      have H := H.kept (fun q q1 q2 => FR2 q (by omega))
      have FR := FR.t FR2
      obtain ⟨h2, hn, hk, hat, htx, t0, tf, t1, t1e⟩ := id HT
      obtain ⟨h2, g0, g1, g2, g3, g4, g5, g6, g7, g8, g9, g10, g11⟩ := id H
      refine R_istore dX5_readDoor_80 (Nat.le_of_ble_eq_true rfl) rfl ?_
      refine R_aload_n dX5_readDoor_82 rfl ?_
      refine R_cV0i (N := m_X5_readEnd) dX5_readDoor_83 l_X5_68 i_X5_readEnd t0 (c_Text_end HT (e_dqt_le _ hE)) rfl rfl (fun r83 h83 q_83 => ?_)
      obtain ⟨er, HT, FR2⟩ := q_83
      have er : r83 = x_b (decide ((e_end tx n (e_dqt tx n wat E (N, R, D, P, F)).2).1 = 0)) := er
      have HT : x_Text h83 b n tx (e_end tx n (e_dqt tx n wat E (N, R, D, P, F)).2) := HT
      subst er
      have H := H.kept (fun q q1 q2 => FR2 q (by omega))
      have FR := FR.t FR2
      obtain ⟨h2, hn, hk, hat, htx, t0, tf, t1, t1e⟩ := id HT
      obtain ⟨h2, g0, g1, g2, g3, g4, g5, g6, g7, g8, g9, g10, g11⟩ := id H
      refine R_ifeqB 98 dX5_readDoor_86 rfl (fun c_86 => ?_) (fun c_86 => ?_)
      · exact R_vret dX5_readDoor_98 rfl rfl rfl ⟨rfl, HT, by show x_HouseW _ c (if _ then _ else _); rw [if_neg (of_decide_eq_false c_86)]; exact H, FR⟩
      · have hlim : D < 8 := (e_dqa_fk (e_dqt_fk (e_end_fk (of_decide_eq_true c_86))).2).1
        refine R_aload_n dX5_readDoor_89 rfl ?_
        refine R_iload_n dX5_readDoor_90 rfl ?_
        refine R_iload dX5_readDoor_91 rfl ?_
        refine R_iload dX5_readDoor_93 rfl ?_
        refine R_cV3v (N := m_X1_addDoor) dX5_readDoor_95 l_X5_82 i_X1_addDoor g0 (c_House_addDoor H hlim _ _ _) rfl rfl (fun h95 q_95 => ?_)
        obtain ⟨H, FR3⟩ := q_95
        have HT := HT.kept (FR3 b (by omega)) (FR3 (b + 1) (by omega))
        have FR := FR.h FR3
        exact R_vret dX5_readDoor_98 rfl rfl rfl ⟨rfl, HT, by show x_HouseW _ c (if _ then _ else _); rw [if_pos (of_decide_eq_true c_86)]; exact H, FR⟩
theorem c_Text_heir {h : xH} {b c n wat N R D P : Nat} {tx : Nat → Nat} {F : xF} {E : xE} (HT : x_Text h b n tx E) (H : x_House h c N R D P F) (hb : N ≤ 20 ∧ R ≤ 6 ∧ D ≤ 8 ∧ P ≤ 6) (hdis : b + 2 ≤ c) (hE : E.2.2 ≤ n) (hw : wat < 1000) : x_Met m_X5_readHeir [.ref b, .ref c, .int (nI wat)] h (x_vd (fun h' => x_Text h' b n tx (e_heir tx n wat E (N, R, D, P, F)).1 ∧ x_HouseW h' c (e_heir tx n wat E (N, R, D, P, F)).2 ∧ x_f2 h h' b c)) := by
  obtain ⟨h2, hn, hk, hat, htx, t0, tf, t1, t1e⟩ := id HT
  obtain ⟨h2, g0, g1, g2, g3, g4, g5, g6, g7, g8, g9, g10, g11⟩ := id H
  obtain ⟨b1, b2, b3, b4⟩ := hb
  have FR := x_f2.rf h b c
  refine x_Met.of (lo := [some (.ref b), some (.ref c), some (.int (nI wat)), none, none, none]) (by decide) rfl rfl rfl ?_
  refine R_aload_n dX5_readHeir_0 rfl ?_
  refine R_aload_n dX5_readHeir_1 rfl ?_
  refine R_get dX5_readHeir_2 f_X5_86 g0 rfl ?_
  refine R_bipush (nI 6) dX5_readHeir_5 rfl ?_
  refine R_ltN 14 dX5_readHeir_7 rfl (by omega) (by omega) (fun c_7 => ?_) (fun c_7 => ?_)
  · refine R_iconst (nI 0) dX5_readHeir_14 rfl ?_
    refine R_iconst (nI 3) dX5_readHeir_15 rfl ?_
    refine R_iload_n dX5_readHeir_16 rfl ?_
    refine R_cV3v (N := m_X5_failIf) dX5_readHeir_17 l_X5_60 i_X5_failIf t0 (c_Text_failIfx HT (by omega) (c := decide (6 ≤ P)) (x_bf (decide_eq_false (by omega)))) rfl rfl (fun h17 q_17 => ?_)
    obtain ⟨HT, FR2⟩ := q_17
    have H := H.kept (fun q q1 q2 => FR2 q (by omega))
    have FR := FR.t FR2
    obtain ⟨h2, hn, hk, hat, htx, t0, tf, t1, t1e⟩ := id HT
    obtain ⟨h2, g0, g1, g2, g3, g4, g5, g6, g7, g8, g9, g10, g11⟩ := id H
    refine R_aload_n dX5_readHeir_20 rfl ?_
    refine R_iconst (nI 0) dX5_readHeir_21 rfl ?_
    refine R_iconst (nI 4) dX5_readHeir_22 rfl ?_
    refine R_cV2i (N := m_X5_readNumber) dX5_readHeir_23 l_X5_64 i_X5_readNumber t0 (c_Text_num HT (hi := 5) (by omega) (x_hiC (by decide)) (by rw [e_failIf_at]; exact hE)) rfl rfl (fun r23 h23 q_23 => ?_)
    obtain ⟨er, HT, FR2⟩ := q_23
    have er : r23 = nI (e_hqk tx n wat E (N, R, D, P, F)).1 := er
    have HT : x_Text h23 b n tx (e_hqk tx n wat E (N, R, D, P, F)).2 := HT
    subst er
    have H := H.kept (fun q q1 q2 => FR2 q (by omega))
    have FR := FR.t FR2
    obtain ⟨h2, hn, hk, hat, htx, t0, tf, t1, t1e⟩ := id HT
    obtain ⟨h2, g0, g1, g2, g3, g4, g5, g6, g7, g8, g9, g10, g11⟩ := id H
    refine R_istore_n dX5_readHeir_26 (Nat.le_of_ble_eq_true rfl) rfl ?_
    refine R_aload_n dX5_readHeir_27 rfl ?_
    refine R_iconst (nI 1) dX5_readHeir_28 rfl ?_
    refine R_bipush (nI 20) dX5_readHeir_29 rfl ?_
    refine R_cV2i (N := m_X5_readNumber) dX5_readHeir_31 l_X5_64 i_X5_readNumber t0 (c_Text_num HT (hi := 21) (by omega) (x_hiC (by decide)) (e_hqk_le _ hE)) rfl rfl (fun r31 h31 q_31 => ?_)
    obtain ⟨er, HT, FR2⟩ := q_31
    have er : r31 = nI (e_hqv tx n wat E (N, R, D, P, F)).1 := er
    have HT : x_Text h31 b n tx (e_hqv tx n wat E (N, R, D, P, F)).2 := HT
    subst er
    have H := H.kept (fun q q1 q2 => FR2 q (by omega))
    have FR := FR.t FR2
    obtain ⟨h2, hn, hk, hat, htx, t0, tf, t1, t1e⟩ := id HT
    obtain ⟨h2, g0, g1, g2, g3, g4, g5, g6, g7, g8, g9, g10, g11⟩ := id H
    refine R_istore dX5_readHeir_34 (Nat.le_of_ble_eq_true rfl) rfl ?_
    refine R_aload_n dX5_readHeir_36 rfl ?_
    refine R_iconst (nI 0) dX5_readHeir_37 rfl ?_
    refine R_aload_n dX5_readHeir_38 rfl ?_
    refine R_get dX5_readHeir_39 f_X5_72 g0 rfl ?_
    refine R_iconst (nI 1) dX5_readHeir_42 rfl ?_
    refine R_isub dX5_readHeir_43 ?_
    refine R_cV2i (N := m_X5_readNumber) dX5_readHeir_44 l_X5_64 i_X5_readNumber t0 (c_Text_num HT (hi := R) (by omega) (x_hiR R (by omega)) (e_hqv_le _ hE)) rfl rfl (fun r44 h44 q_44 => ?_)
    obtain ⟨er, HT, FR2⟩ := q_44
    have er : r44 = nI (e_hqr tx n wat E (N, R, D, P, F)).1 := er
    have HT : x_Text h44 b n tx (e_hqr tx n wat E (N, R, D, P, F)).2 := HT
    subst er
    have H := H.kept (fun q q1 q2 => FR2 q (by omega))
    have FR := FR.t FR2
    obtain ⟨h2, hn, hk, hat, htx, t0, tf, t1, t1e⟩ := id HT
    obtain ⟨h2, g0, g1, g2, g3, g4, g5, g6, g7, g8, g9, g10, g11⟩ := id H
    refine R_istore dX5_readHeir_47 (Nat.le_of_ble_eq_true rfl) rfl ?_
    refine R_aload_n dX5_readHeir_49 rfl ?_
    refine R_cV0i (N := m_X5_readEnd) dX5_readHeir_50 l_X5_68 i_X5_readEnd t0 (c_Text_end HT (e_hqr_le _ hE)) rfl rfl (fun r50 h50 q_50 => ?_)
    obtain ⟨er, HT, FR2⟩ := q_50
    have er : r50 = x_b (decide ((e_end tx n (e_hqr tx n wat E (N, R, D, P, F)).2).1 = 0)) := er
    have HT : x_Text h50 b n tx (e_end tx n (e_hqr tx n wat E (N, R, D, P, F)).2) := HT
    subst er
    have H := H.kept (fun q q1 q2 => FR2 q (by omega))
    have FR := FR.t FR2
    obtain ⟨h2, hn, hk, hat, htx, t0, tf, t1, t1e⟩ := id HT
    obtain ⟨h2, g0, g1, g2, g3, g4, g5, g6, g7, g8, g9, g10, g11⟩ := id H
    refine R_ifeqB 65 dX5_readHeir_53 rfl (fun c_53 => ?_) (fun c_53 => ?_)
    · exact R_vret dX5_readHeir_65 rfl rfl rfl ⟨rfl, HT, by show x_HouseW _ c (if _ then _ else _); rw [if_neg (of_decide_eq_false c_53)]; exact H, FR⟩
    · have hlim : P < 6 := (e_hqr_fk (e_end_fk (of_decide_eq_true c_53))).1
      refine R_aload_n dX5_readHeir_56 rfl ?_
      refine R_iload_n dX5_readHeir_57 rfl ?_
      refine R_iload dX5_readHeir_58 rfl ?_
      refine R_iload dX5_readHeir_60 rfl ?_
      refine R_cV3v (N := m_X1_addHeir) dX5_readHeir_62 l_X5_89 i_X1_addHeir g0 (c_House_addHeir H hlim _ _ _) rfl rfl (fun h62 q_62 => ?_)
      obtain ⟨H, FR3⟩ := q_62
      have HT := HT.kept (FR3 b (by omega)) (FR3 (b + 1) (by omega))
      have FR := FR.h FR3
      exact R_vret dX5_readHeir_65 rfl rfl rfl ⟨rfl, HT, by show x_HouseW _ c (if _ then _ else _); rw [if_pos (of_decide_eq_true c_53)]; exact H, FR⟩
  · refine R_iconst (nI 1) dX5_readHeir_10 rfl ?_
    refine R_goto 15 dX5_readHeir_11 rfl ?_
    refine R_iconst (nI 3) dX5_readHeir_15 rfl ?_
    refine R_iload_n dX5_readHeir_16 rfl ?_
    refine R_cV3v (N := m_X5_failIf) dX5_readHeir_17 l_X5_60 i_X5_failIf t0 (c_Text_failIfx HT (by omega) (c := decide (6 ≤ P)) (x_bt (decide_eq_true (by omega)))) rfl rfl (fun h17 q_17 => ?_)
    obtain ⟨HT, FR2⟩ := q_17
    have H := H.kept (fun q q1 q2 => FR2 q (by omega))
    have FR := FR.t FR2
    obtain ⟨h2, hn, hk, hat, htx, t0, tf, t1, t1e⟩ := id HT
    obtain ⟨h2, g0, g1, g2, g3, g4, g5, g6, g7, g8, g9, g10, g11⟩ := id H
    refine R_aload_n dX5_readHeir_20 rfl ?_
    refine R_iconst (nI 0) dX5_readHeir_21 rfl ?_
    refine R_iconst (nI 4) dX5_readHeir_22 rfl ?_
    refine R_cV2i (N := m_X5_readNumber) dX5_readHeir_23 l_X5_64 i_X5_readNumber t0 (c_Text_num HT (hi := 5) (by omega) (x_hiC (by decide)) (by rw [e_failIf_at]; exact hE)) rfl rfl (fun r23 h23 q_23 => ?_)
    obtain ⟨er, HT, FR2⟩ := q_23
    have er : r23 = nI (e_hqk tx n wat E (N, R, D, P, F)).1 := er
    have HT : x_Text h23 b n tx (e_hqk tx n wat E (N, R, D, P, F)).2 := HT
    subst er
    have H := H.kept (fun q q1 q2 => FR2 q (by omega))
    have FR := FR.t FR2
    obtain ⟨h2, hn, hk, hat, htx, t0, tf, t1, t1e⟩ := id HT
    obtain ⟨h2, g0, g1, g2, g3, g4, g5, g6, g7, g8, g9, g10, g11⟩ := id H
    refine R_istore_n dX5_readHeir_26 (Nat.le_of_ble_eq_true rfl) rfl ?_
    refine R_aload_n dX5_readHeir_27 rfl ?_
    refine R_iconst (nI 1) dX5_readHeir_28 rfl ?_
    refine R_bipush (nI 20) dX5_readHeir_29 rfl ?_
    refine R_cV2i (N := m_X5_readNumber) dX5_readHeir_31 l_X5_64 i_X5_readNumber t0 (c_Text_num HT (hi := 21) (by omega) (x_hiC (by decide)) (e_hqk_le _ hE)) rfl rfl (fun r31 h31 q_31 => ?_)
    obtain ⟨er, HT, FR2⟩ := q_31
    have er : r31 = nI (e_hqv tx n wat E (N, R, D, P, F)).1 := er
    have HT : x_Text h31 b n tx (e_hqv tx n wat E (N, R, D, P, F)).2 := HT
    subst er
    have H := H.kept (fun q q1 q2 => FR2 q (by omega))
    have FR := FR.t FR2
    obtain ⟨h2, hn, hk, hat, htx, t0, tf, t1, t1e⟩ := id HT
    obtain ⟨h2, g0, g1, g2, g3, g4, g5, g6, g7, g8, g9, g10, g11⟩ := id H
    refine R_istore dX5_readHeir_34 (Nat.le_of_ble_eq_true rfl) rfl ?_
    refine R_aload_n dX5_readHeir_36 rfl ?_
    refine R_iconst (nI 0) dX5_readHeir_37 rfl ?_
    refine R_aload_n dX5_readHeir_38 rfl ?_
    refine R_get dX5_readHeir_39 f_X5_72 g0 rfl ?_
    refine R_iconst (nI 1) dX5_readHeir_42 rfl ?_
    refine R_isub dX5_readHeir_43 ?_
    refine R_cV2i (N := m_X5_readNumber) dX5_readHeir_44 l_X5_64 i_X5_readNumber t0 (c_Text_num HT (hi := R) (by omega) (x_hiR R (by omega)) (e_hqv_le _ hE)) rfl rfl (fun r44 h44 q_44 => ?_)
    obtain ⟨er, HT, FR2⟩ := q_44
    have er : r44 = nI (e_hqr tx n wat E (N, R, D, P, F)).1 := er
    have HT : x_Text h44 b n tx (e_hqr tx n wat E (N, R, D, P, F)).2 := HT
    subst er
    have H := H.kept (fun q q1 q2 => FR2 q (by omega))
    have FR := FR.t FR2
    obtain ⟨h2, hn, hk, hat, htx, t0, tf, t1, t1e⟩ := id HT
    obtain ⟨h2, g0, g1, g2, g3, g4, g5, g6, g7, g8, g9, g10, g11⟩ := id H
    refine R_istore dX5_readHeir_47 (Nat.le_of_ble_eq_true rfl) rfl ?_
    refine R_aload_n dX5_readHeir_49 rfl ?_
    refine R_cV0i (N := m_X5_readEnd) dX5_readHeir_50 l_X5_68 i_X5_readEnd t0 (c_Text_end HT (e_hqr_le _ hE)) rfl rfl (fun r50 h50 q_50 => ?_)
    obtain ⟨er, HT, FR2⟩ := q_50
    have er : r50 = x_b (decide ((e_end tx n (e_hqr tx n wat E (N, R, D, P, F)).2).1 = 0)) := er
    have HT : x_Text h50 b n tx (e_end tx n (e_hqr tx n wat E (N, R, D, P, F)).2) := HT
    subst er
    have H := H.kept (fun q q1 q2 => FR2 q (by omega))
    have FR := FR.t FR2
    obtain ⟨h2, hn, hk, hat, htx, t0, tf, t1, t1e⟩ := id HT
    obtain ⟨h2, g0, g1, g2, g3, g4, g5, g6, g7, g8, g9, g10, g11⟩ := id H
    refine R_ifeqB 65 dX5_readHeir_53 rfl (fun c_53 => ?_) (fun c_53 => ?_)
    · exact R_vret dX5_readHeir_65 rfl rfl rfl ⟨rfl, HT, by show x_HouseW _ c (if _ then _ else _); rw [if_neg (of_decide_eq_false c_53)]; exact H, FR⟩
    · have hlim : P < 6 := (e_hqr_fk (e_end_fk (of_decide_eq_true c_53))).1
      refine R_aload_n dX5_readHeir_56 rfl ?_
      refine R_iload_n dX5_readHeir_57 rfl ?_
      refine R_iload dX5_readHeir_58 rfl ?_
      refine R_iload dX5_readHeir_60 rfl ?_
      refine R_cV3v (N := m_X1_addHeir) dX5_readHeir_62 l_X5_89 i_X1_addHeir g0 (c_House_addHeir H hlim _ _ _) rfl rfl (fun h62 q_62 => ?_)
      obtain ⟨H, FR3⟩ := q_62
      have HT := HT.kept (FR3 b (by omega)) (FR3 (b + 1) (by omega))
      have FR := FR.h FR3
      exact R_vret dX5_readHeir_65 rfl rfl rfl ⟨rfl, HT, by show x_HouseW _ c (if _ then _ else _); rw [if_pos (of_decide_eq_true c_53)]; exact H, FR⟩
