/-! THE WHOLE TEXT -/
def x_WB (W : xW) : Prop := (W.1 ≤ 20 ∧ W.2.1 ≤ 6 ∧ W.2.2.1 ≤ 8 ∧ W.2.2.2.1 ≤ 6) ∧ (∀ d, d < W.2.2.1 → W.2.2.2.2 1 d < W.2.1 ∧ W.2.2.2.2 2 d < W.2.1 ∧ ¬ W.2.2.2.2 1 d = W.2.2.2.2 2 d ∧ W.2.2.2.2 3 d ≤ 9) ∧ (∀ p, p < W.2.2.2.1 → W.2.2.2.2 4 p ≤ 4 ∧ 1 ≤ W.2.2.2.2 5 p ∧ W.2.2.2.2 5 p ≤ 20 ∧ W.2.2.2.2 6 p < W.2.1) ∧ (∀ r, r < W.2.1 → W.2.2.2.2 0 r ≤ 20) ∧ (W.1 = 0 → W.2.1 = 0 ∧ W.2.2.1 = 0 ∧ W.2.2.2.1 = 0)
theorem e_num_in {tx : Nat → Nat} {n lw hi : Nat} {E : xE} (h : (e_num tx n lw hi E).2.1 = 0) : lw ≤ (e_num tx n lw hi E).1 ∧ (e_num tx n lw hi E).1 < hi := by
  have h1 := of_decide_eq_false (e_failIf_fk (by decide) h).1
  unfold e_num
  dsimp only
  omega
theorem x_WB.night {tx : Nat → Nat} {n wat : Nat} {E : xE} {W : xW} (h : x_WB W) : x_WB (e_night tx n wat E W).2 := by
  show x_WB (if _ then _ else _)
  split
  · rename_i hz
    have h1 := e_end_fk hz
    have h2 := (e_nq_fk h1).1
    unfold e_nq at h1
    have h3 := e_num_in h1
    obtain ⟨⟨a1, a2, a3, a4⟩, a5, a6, a7, a8⟩ := h
    have a9 := a8 h2
    refine ⟨⟨?_, a2, a3, a4⟩, a5, a6, a7, fun z => a9⟩
    show (e_nq tx n wat E W).1 ≤ 20
    unfold e_nq
    omega
  · exact h
theorem x_WB.room {tx : Nat → Nat} {n wat : Nat} {E : xE} {W : xW} (h : x_WB W) (hN : ¬ W.1 = 0) : x_WB (e_room tx n wat E W).2 := by
  show x_WB (if _ then _ else _)
  split
  · rename_i hz
    have h1 := e_end_fk hz
    have h2 := (e_rq_fk h1).1
    unfold e_rq at h1
    have h3 := e_num_in h1
    have h4 : (e_rq tx n wat E W).1 ≤ 20 := by unfold e_rq; omega
    obtain ⟨⟨a1, a2, a3, a4⟩, a5, a6, a7, a8⟩ := h
    refine ⟨⟨a1, h2, a3, a4⟩, fun d hd => ?_, fun p hp => ?_, fun r hr => ?_, fun z => absurd z hN⟩
    · have := a5 d hd
      exact ⟨by show W.2.2.2.2 1 d < W.2.1 + 1; omega, by show W.2.2.2.2 2 d < W.2.1 + 1; omega, this.2.2.1, this.2.2.2⟩
    · have := a6 p hp
      exact ⟨this.1, this.2.1, this.2.2.1, by show W.2.2.2.2 6 p < W.2.1 + 1; omega⟩
    · show (if r = W.2.1 then (e_rq tx n wat E W).1 else W.2.2.2.2 0 r) ≤ 20
      split
      · exact h4
      · exact a7 r (by have hr : r < W.2.1 + 1 := hr; omega)
  · exact h
theorem x_WB.door {tx : Nat → Nat} {n wat : Nat} {E : xE} {W : xW} (h : x_WB W) (hN : ¬ W.1 = 0) : x_WB (e_door tx n wat E W).2 := by
  show x_WB (if _ then _ else _)
  split
  · rename_i hz
    have h1 := e_end_fk hz
    have h2 := e_dqt_fk h1
    have h3 := (e_dqa_fk h2.2).1
    have h4 : (e_dqb tx n wat E W).2.1 = 0 := by
      have h9 := h1
      unfold e_dqt at h9
      exact (e_failIf_fk (by decide) (e_num_fk h9)).2
    have h5 : (e_dqa tx n wat E W).1 < W.2.1 := by have h9 := h2.2; unfold e_dqa at h9 ⊢; exact (e_num_in h9).2
    have h6 : (e_dqb tx n wat E W).1 < W.2.1 := by have h9 := h4; unfold e_dqb at h9 ⊢; exact (e_num_in h9).2
    have h7 : (e_dqt tx n wat E W).1 ≤ 9 := by have h9 := h1; unfold e_dqt at h9 ⊢; have := (e_num_in h9).2; omega
    obtain ⟨⟨a1, a2, a3, a4⟩, a5, a6, a7, a8⟩ := h
    refine ⟨⟨a1, a2, h3, a4⟩, fun d hd => ?_, fun p hp => a6 p hp, fun r hr => a7 r hr, fun z => absurd z hN⟩
    show (if d = W.2.2.1 then (e_dqa tx n wat E W).1 else W.2.2.2.2 1 d) < W.2.1 ∧ (if d = W.2.2.1 then (e_dqb tx n wat E W).1 else W.2.2.2.2 2 d) < W.2.1 ∧ ¬ (if d = W.2.2.1 then (e_dqa tx n wat E W).1 else W.2.2.2.2 1 d) = (if d = W.2.2.1 then (e_dqb tx n wat E W).1 else W.2.2.2.2 2 d) ∧ (if d = W.2.2.1 then (e_dqt tx n wat E W).1 else W.2.2.2.2 3 d) ≤ 9
    by_cases e : d = W.2.2.1
    · rw [if_pos e, if_pos e, if_pos e]; exact ⟨h5, h6, h2.1, h7⟩
    · rw [if_neg e, if_neg e, if_neg e]; exact a5 d (by have hd : d < W.2.2.1 + 1 := hd; omega)
  · exact h
theorem x_WB.heir {tx : Nat → Nat} {n wat : Nat} {E : xE} {W : xW} (h : x_WB W) (hN : ¬ W.1 = 0) : x_WB (e_heir tx n wat E W).2 := by
  show x_WB (if _ then _ else _)
  split
  · rename_i hz
    have h1 := e_end_fk hz
    have h2 := (e_hqr_fk h1).1
    have h4 : (e_hqv tx n wat E W).2.1 = 0 := by have h9 := h1; unfold e_hqr at h9; exact e_num_fk h9
    have h5 : (e_hqk tx n wat E W).2.1 = 0 := by have h9 := h4; unfold e_hqv at h9; exact e_num_fk h9
    have h6 : (e_hqr tx n wat E W).1 < W.2.1 := by have h9 := h1; unfold e_hqr at h9 ⊢; exact (e_num_in h9).2
    have h7 : 1 ≤ (e_hqv tx n wat E W).1 ∧ (e_hqv tx n wat E W).1 ≤ 20 := by have h9 := h4; unfold e_hqv at h9 ⊢; have := e_num_in h9; omega
    have h8 : (e_hqk tx n wat E W).1 ≤ 4 := by have h9 := h5; unfold e_hqk at h9 ⊢; have := e_num_in h9; omega
    obtain ⟨⟨a1, a2, a3, a4⟩, a5, a6, a7, a8⟩ := h
    refine ⟨⟨a1, a2, a3, h2⟩, fun d hd => a5 d hd, fun p hp => ?_, fun r hr => a7 r hr, fun z => absurd z hN⟩
    show (if p = W.2.2.2.1 then (e_hqk tx n wat E W).1 else W.2.2.2.2 4 p) ≤ 4 ∧ 1 ≤ (if p = W.2.2.2.1 then (e_hqv tx n wat E W).1 else W.2.2.2.2 5 p) ∧ (if p = W.2.2.2.1 then (e_hqv tx n wat E W).1 else W.2.2.2.2 5 p) ≤ 20 ∧ (if p = W.2.2.2.1 then (e_hqr tx n wat E W).1 else W.2.2.2.2 6 p) < W.2.1
    by_cases e : p = W.2.2.2.1
    · rw [if_pos e, if_pos e, if_pos e]; exact ⟨h8, h7.1, h7.2, h6⟩
    · rw [if_neg e, if_neg e, if_neg e]; exact a6 p (by have hp : p < W.2.2.2.1 + 1 := hp; omega)
  · exact h
theorem x_WB.clause {tx : Nat → Nat} {n : Nat} {E : xE} {W : xW} (h : x_WB W) : x_WB (e_clause tx n E W).2 := by
  unfold e_clause
  split
  · exact h
  · rename_i h1
    split
    · exact h.night
    · rename_i h2
      have hN : ¬ W.1 = 0 := fun z => h1 ⟨h2, z⟩
      split
      · exact h.room hN
      · split
        · exact h.door hN
        · split
          · exact h.heir hN
          · exact h
def e_loop (tx : Nat → Nat) (n : Nat) : Nat → xE → xW → xE × xW
  | 0, E, W => (E, W)
  | k + 1, E, W => if E.2.2 < n ∧ E.1 = 0 then e_loop tx n k (e_skip tx n (e_clause tx n E W).1) (e_clause tx n E W).2 else (E, W)
def e_into (tx : Nat → Nat) (n : Nat) (F : xF) : xE × xW := e_loop tx n 240 (e_skip tx n (0, -1, 0)) (0, 0, 0, 0, F)
theorem c_Text_clause {h : xH} {b c n : Nat} {tx : Nat → Nat} {E : xE} {W : xW} (HT : x_Text h b n tx E) (HW : x_HouseW h c W) (hW : x_WB W) (hdis : b + 2 ≤ c) (hE : E.2.2 < n) : x_Met m_X5_readClause [.ref b, .ref c] h (x_vd (fun h' => x_Text h' b n tx (e_clause tx n E W).1 ∧ x_HouseW h' c (e_clause tx n E W).2 ∧ x_f2 h h' b c)) := by
  have H : x_House h c W.1 W.2.1 W.2.2.1 W.2.2.2.1 W.2.2.2.2 := HW
  obtain ⟨h2, hn, hk, hat, htx, t0, tf, t1, t1e⟩ := id HT
  obtain ⟨h2, g0, g1, g2, g3, g4, g5, g6, g7, g8, g9, g10, g11⟩ := id H
  obtain ⟨b1, b2, b3, b4⟩ := id hW.1
  have lt0 := htx E.2.2 hE
  refine x_Met.of (lo := [some (.ref b), some (.ref c), none, none]) (by decide) rfl rfl rfl ?_
  refine R_aload_n dX5_readClause_0 rfl ?_
  refine R_get dX5_readClause_1 f_X5_25 t0 rfl ?_
  refine R_istore_n dX5_readClause_4 (Nat.le_of_ble_eq_true rfl) rfl ?_
  refine R_aload_n dX5_readClause_5 rfl ?_
  refine R_get dX5_readClause_6 f_X5_9 t0 rfl ?_
  refine R_iload_n dX5_readClause_9 rfl ?_
  refine R_iald dX5_readClause_10 t1 rfl (by omega) (by decide) ?_
  rw [t1e E.2.2 (by omega)]
  refine R_istore_n dX5_readClause_11 (Nat.le_of_ble_eq_true rfl) rfl ?_
  refine R_aload_n dX5_readClause_12 rfl ?_
  refine R_dup dX5_readClause_13 rfl ?_
  refine R_get dX5_readClause_14 f_X5_25 t0 rfl ?_
  refine R_iconst (nI 1) dX5_readClause_17 rfl ?_
  refine R_iaddN dX5_readClause_18 ?_
  refine R_put dX5_readClause_19 f_X5_25 t0 (Nat.le_of_ble_eq_true rfl) (fun _ => rfl) (fun _ => rfl) ?_
  simp only [List.set_cons_succ, List.set_cons_zero]
  have HT := HT.obj E.1 E.2.1 (E.2.2 + 1) hk (by omega)
  have FR0 := (x_f1.rf h b).set (b := b) (.inr (5, [.ref (b + 1), .int (nI n), .int (nI (E.1)), .int (E.2.1), .int (nI (E.2.2 + 1))]))
  have FR := (x_f2.rf h b c).t FR0
  have H := H.kept (fun q q1 q2 => FR0 q (by omega))
  obtain ⟨h2, hn, hk, hat, htx, t0, tf, t1, t1e⟩ := id HT
  dsimp only at hk hat t0
  obtain ⟨h2, g0, g1, g2, g3, g4, g5, g6, g7, g8, g9, g10, g11⟩ := id H
  refine R_iload_n dX5_readClause_22 rfl ?_
  refine R_bipush (nI 110) dX5_readClause_23 rfl ?_
  refine R_eqN 42 dX5_readClause_25 rfl (by omega) (by omega) (fun c_25 => ?_) (fun c_25 => ?_)
  · have hcl : ¬ (¬ tx E.2.2 = 110 ∧ W.1 = 0) := fun z => z.1 c_25
    have lt1 := htx E.2.2 hE
    refine R_iload_n dX5_readClause_42 rfl ?_
    by_cases w1 : tx E.2.2 = 110
    · refine R_lookup 84 dX5_readClause_43 rfl (off := 41) (by rw [w1]; rfl) rfl ?_
      refine R_aload_n dX5_readClause_84 rfl ?_
      refine R_aload_n dX5_readClause_85 rfl ?_
      refine R_iload_n dX5_readClause_86 rfl ?_
      refine R_cV2v (N := m_X5_readNight) dX5_readClause_87 l_X5_47 i_X5_readNight t0 (c_Text_night HT H hW.1 hdis (by show E.2.2 + 1 ≤ n; omega) (by omega)) rfl rfl (fun h87 q_87 => ?_)
      refine R_goto 126 dX5_readClause_90 rfl ?_
      exact R_vret dX5_readClause_126 rfl rfl rfl ⟨rfl, by rw [e_clause, if_neg hcl, if_pos w1]; exact q_87.1, by rw [e_clause, if_neg hcl, if_pos w1]; exact q_87.2.1, FR.trans q_87.2.2⟩
    by_cases w2 : tx E.2.2 = 114
    · refine R_lookup 93 dX5_readClause_43 rfl (off := 50) (by rw [w2]; rfl) rfl ?_
      refine R_aload_n dX5_readClause_93 rfl ?_
      refine R_aload_n dX5_readClause_94 rfl ?_
      refine R_iload_n dX5_readClause_95 rfl ?_
      refine R_cV2v (N := m_X5_readRoom) dX5_readClause_96 l_X5_51 i_X5_readRoom t0 (c_Text_room HT H hW.1 hdis (by show E.2.2 + 1 ≤ n; omega) (by omega)) rfl rfl (fun h96 q_96 => ?_)
      refine R_goto 126 dX5_readClause_99 rfl ?_
      exact R_vret dX5_readClause_126 rfl rfl rfl ⟨rfl, by rw [e_clause, if_neg hcl, if_neg w1, if_pos w2]; exact q_96.1, by rw [e_clause, if_neg hcl, if_neg w1, if_pos w2]; exact q_96.2.1, FR.trans q_96.2.2⟩
    by_cases w3 : tx E.2.2 = 100
    · refine R_lookup 102 dX5_readClause_43 rfl (off := 59) (by rw [w3]; rfl) rfl ?_
      refine R_aload_n dX5_readClause_102 rfl ?_
      refine R_aload_n dX5_readClause_103 rfl ?_
      refine R_iload_n dX5_readClause_104 rfl ?_
      refine R_cV2v (N := m_X5_readDoor) dX5_readClause_105 l_X5_54 i_X5_readDoor t0 (c_Text_door HT H hW.1 hdis (by show E.2.2 + 1 ≤ n; omega) (by omega)) rfl rfl (fun h105 q_105 => ?_)
      refine R_goto 126 dX5_readClause_108 rfl ?_
      exact R_vret dX5_readClause_126 rfl rfl rfl ⟨rfl, by rw [e_clause, if_neg hcl, if_neg w1, if_neg w2, if_pos w3]; exact q_105.1, by rw [e_clause, if_neg hcl, if_neg w1, if_neg w2, if_pos w3]; exact q_105.2.1, FR.trans q_105.2.2⟩
    by_cases w4 : tx E.2.2 = 112
    · refine R_lookup 111 dX5_readClause_43 rfl (off := 68) (by rw [w4]; rfl) rfl ?_
      refine R_aload_n dX5_readClause_111 rfl ?_
      refine R_aload_n dX5_readClause_112 rfl ?_
      refine R_iload_n dX5_readClause_113 rfl ?_
      refine R_cV2v (N := m_X5_readHeir) dX5_readClause_114 l_X5_57 i_X5_readHeir t0 (c_Text_heir HT H hW.1 hdis (by show E.2.2 + 1 ≤ n; omega) (by omega)) rfl rfl (fun h114 q_114 => ?_)
      refine R_goto 126 dX5_readClause_117 rfl ?_
      exact R_vret dX5_readClause_126 rfl rfl rfl ⟨rfl, by rw [e_clause, if_neg hcl, if_neg w1, if_neg w2, if_neg w3, if_pos w4]; exact q_114.1, by rw [e_clause, if_neg hcl, if_neg w1, if_neg w2, if_neg w3, if_pos w4]; exact q_114.2.1, FR.trans q_114.2.2⟩
    have ne : ∀ k, k < 256 → ¬ tx E.2.2 = k → ¬ nI (tx E.2.2) = nI k := fun k hk hn z => hn ((nI_eq (by omega) (by omega)).mp z)
    refine R_lookup 120 dX5_readClause_43 rfl (off := 77) (by show Op.lookupswitch.offset [(100, 59), (110, 41), (112, 68), (114, 50)] 77 (nI (tx E.2.2)).toInt = 77; rw [lv_osw (k := nI 100) (a := 100) (ne 100 (by omega) w3) (by decide), lv_osw (k := nI 110) (a := 110) (ne 110 (by omega) w1) (by decide), lv_osw (k := nI 112) (a := 112) (ne 112 (by omega) w4) (by decide), lv_osw (k := nI 114) (a := 114) (ne 114 (by omega) w2) (by decide)]; rfl) rfl ?_
    refine R_aload_n dX5_readClause_120 rfl ?_
    refine R_iconst (nI 1) dX5_readClause_121 rfl ?_
    refine R_iload_n dX5_readClause_122 rfl ?_
    refine R_cV2v (N := m_X5_fail) dX5_readClause_123 l_X5_43 i_X5_fail t0 (c_Text_fail HT (by omega)) rfl rfl (fun h123 q_123 => ?_)
    exact R_vret dX5_readClause_126 rfl rfl rfl ⟨rfl, by rw [e_clause, if_neg hcl, if_neg w1, if_neg w2, if_neg w3, if_neg w4]; exact q_123.1, by rw [e_clause, if_neg hcl, if_neg w1, if_neg w2, if_neg w3, if_neg w4]; exact (show x_HouseW _ c W from H.kept (fun q q1 q2 => q_123.2 q (by omega))), FR.t q_123.2⟩
  · refine R_aload_n dX5_readClause_28 rfl ?_
    refine R_get dX5_readClause_29 f_X5_40 g0 rfl ?_
    refine R_ifneN 42 dX5_readClause_32 rfl (by omega) (fun c_32 => ?_) (fun c_32 => ?_)
    · have hcl : ¬ (¬ tx E.2.2 = 110 ∧ W.1 = 0) := fun z => c_32 z.2
      have lt1 := htx E.2.2 hE
      refine R_iload_n dX5_readClause_42 rfl ?_
      by_cases w1 : tx E.2.2 = 110
      · refine R_lookup 84 dX5_readClause_43 rfl (off := 41) (by rw [w1]; rfl) rfl ?_
        refine R_aload_n dX5_readClause_84 rfl ?_
        refine R_aload_n dX5_readClause_85 rfl ?_
        refine R_iload_n dX5_readClause_86 rfl ?_
        refine R_cV2v (N := m_X5_readNight) dX5_readClause_87 l_X5_47 i_X5_readNight t0 (c_Text_night HT H hW.1 hdis (by show E.2.2 + 1 ≤ n; omega) (by omega)) rfl rfl (fun h87 q_87 => ?_)
        refine R_goto 126 dX5_readClause_90 rfl ?_
        exact R_vret dX5_readClause_126 rfl rfl rfl ⟨rfl, by rw [e_clause, if_neg hcl, if_pos w1]; exact q_87.1, by rw [e_clause, if_neg hcl, if_pos w1]; exact q_87.2.1, FR.trans q_87.2.2⟩
      by_cases w2 : tx E.2.2 = 114
      · refine R_lookup 93 dX5_readClause_43 rfl (off := 50) (by rw [w2]; rfl) rfl ?_
        refine R_aload_n dX5_readClause_93 rfl ?_
        refine R_aload_n dX5_readClause_94 rfl ?_
        refine R_iload_n dX5_readClause_95 rfl ?_
        refine R_cV2v (N := m_X5_readRoom) dX5_readClause_96 l_X5_51 i_X5_readRoom t0 (c_Text_room HT H hW.1 hdis (by show E.2.2 + 1 ≤ n; omega) (by omega)) rfl rfl (fun h96 q_96 => ?_)
        refine R_goto 126 dX5_readClause_99 rfl ?_
        exact R_vret dX5_readClause_126 rfl rfl rfl ⟨rfl, by rw [e_clause, if_neg hcl, if_neg w1, if_pos w2]; exact q_96.1, by rw [e_clause, if_neg hcl, if_neg w1, if_pos w2]; exact q_96.2.1, FR.trans q_96.2.2⟩
      by_cases w3 : tx E.2.2 = 100
      · refine R_lookup 102 dX5_readClause_43 rfl (off := 59) (by rw [w3]; rfl) rfl ?_
        refine R_aload_n dX5_readClause_102 rfl ?_
        refine R_aload_n dX5_readClause_103 rfl ?_
        refine R_iload_n dX5_readClause_104 rfl ?_
        refine R_cV2v (N := m_X5_readDoor) dX5_readClause_105 l_X5_54 i_X5_readDoor t0 (c_Text_door HT H hW.1 hdis (by show E.2.2 + 1 ≤ n; omega) (by omega)) rfl rfl (fun h105 q_105 => ?_)
        refine R_goto 126 dX5_readClause_108 rfl ?_
        exact R_vret dX5_readClause_126 rfl rfl rfl ⟨rfl, by rw [e_clause, if_neg hcl, if_neg w1, if_neg w2, if_pos w3]; exact q_105.1, by rw [e_clause, if_neg hcl, if_neg w1, if_neg w2, if_pos w3]; exact q_105.2.1, FR.trans q_105.2.2⟩
      by_cases w4 : tx E.2.2 = 112
      · refine R_lookup 111 dX5_readClause_43 rfl (off := 68) (by rw [w4]; rfl) rfl ?_
        refine R_aload_n dX5_readClause_111 rfl ?_
        refine R_aload_n dX5_readClause_112 rfl ?_
        refine R_iload_n dX5_readClause_113 rfl ?_
        refine R_cV2v (N := m_X5_readHeir) dX5_readClause_114 l_X5_57 i_X5_readHeir t0 (c_Text_heir HT H hW.1 hdis (by show E.2.2 + 1 ≤ n; omega) (by omega)) rfl rfl (fun h114 q_114 => ?_)
        refine R_goto 126 dX5_readClause_117 rfl ?_
        exact R_vret dX5_readClause_126 rfl rfl rfl ⟨rfl, by rw [e_clause, if_neg hcl, if_neg w1, if_neg w2, if_neg w3, if_pos w4]; exact q_114.1, by rw [e_clause, if_neg hcl, if_neg w1, if_neg w2, if_neg w3, if_pos w4]; exact q_114.2.1, FR.trans q_114.2.2⟩
      have ne : ∀ k, k < 256 → ¬ tx E.2.2 = k → ¬ nI (tx E.2.2) = nI k := fun k hk hn z => hn ((nI_eq (by omega) (by omega)).mp z)
      refine R_lookup 120 dX5_readClause_43 rfl (off := 77) (by show Op.lookupswitch.offset [(100, 59), (110, 41), (112, 68), (114, 50)] 77 (nI (tx E.2.2)).toInt = 77; rw [lv_osw (k := nI 100) (a := 100) (ne 100 (by omega) w3) (by decide), lv_osw (k := nI 110) (a := 110) (ne 110 (by omega) w1) (by decide), lv_osw (k := nI 112) (a := 112) (ne 112 (by omega) w4) (by decide), lv_osw (k := nI 114) (a := 114) (ne 114 (by omega) w2) (by decide)]; rfl) rfl ?_
      refine R_aload_n dX5_readClause_120 rfl ?_
      refine R_iconst (nI 1) dX5_readClause_121 rfl ?_
      refine R_iload_n dX5_readClause_122 rfl ?_
      refine R_cV2v (N := m_X5_fail) dX5_readClause_123 l_X5_43 i_X5_fail t0 (c_Text_fail HT (by omega)) rfl rfl (fun h123 q_123 => ?_)
      exact R_vret dX5_readClause_126 rfl rfl rfl ⟨rfl, by rw [e_clause, if_neg hcl, if_neg w1, if_neg w2, if_neg w3, if_neg w4]; exact q_123.1, by rw [e_clause, if_neg hcl, if_neg w1, if_neg w2, if_neg w3, if_neg w4]; exact (show x_HouseW _ c W from H.kept (fun q q1 q2 => q_123.2 q (by omega))), FR.t q_123.2⟩
    · refine R_aload_n dX5_readClause_35 rfl ?_
      refine R_iconst (nI 1) dX5_readClause_36 rfl ?_
      refine R_iload_n dX5_readClause_37 rfl ?_
      refine R_cV2v (N := m_X5_fail) dX5_readClause_38 l_X5_43 i_X5_fail t0 (c_Text_fail HT (by omega)) rfl rfl (fun h38 q_38 => ?_)
      exact R_vret dX5_readClause_41 rfl rfl rfl ⟨rfl, by rw [e_clause, if_pos ⟨c_25, c_32⟩]; exact q_38.1, by rw [e_clause, if_pos ⟨c_25, c_32⟩]; exact (show x_HouseW _ c W from H.kept (fun q q1 q2 => q_38.2 q (by omega))), FR.t q_38.2⟩
theorem e_loop_stop {tx : Nat → Nat} {n : Nat} {E : xE} {W : xW} (h : ¬ (E.2.2 < n ∧ E.1 = 0)) : ∀ {k : Nat}, e_loop tx n k E W = (E, W)
  | 0 => rfl
  | k + 1 => by rw [e_loop, if_neg h]
theorem c_Text_into_loop {h : xH} {b c n : Nat} {tx : Nat → Nat} {F : xF} (hdis : b + 2 ≤ c) : ∀ (k i : Nat), i + k = 240 → ∀ (E : xE) (W : xW) {g : xH}, x_Text g b n tx E → x_HouseW g c W → x_WB W → x_f2 h g b c → e_loop tx n k E W = e_into tx n F → x_Rn m_X5_readInto 25 [some (.ref b), some (.ref c), some (.int (nI i))] [] g (0, 0) (x_vd (fun h' => x_Text h' b n tx (e_into tx n F).1 ∧ x_HouseW h' c (e_into tx n F).2 ∧ x_f2 h h' b c)) := by
  intro k
  induction k with
  | zero =>
    intro i h1 E W g HT HW hW FR he
    rw [e_loop] at he
    refine R_iload_n dX5_readInto_25 rfl ?_
    refine R_sipush (nI 240) dX5_readInto_26 rfl ?_
    refine R_geN 65 dX5_readInto_29 rfl (by omega) (by omega) (fun c_29 => ?_) (fun c_29 => by omega)
    exact R_vret dX5_readInto_65 rfl rfl rfl ⟨rfl, by rw [← he]; exact HT, by rw [← he]; exact HW, FR⟩
  | succ k ih =>
    intro i h1 E W g HT HW hW FR he
    obtain ⟨h2, hn, hk, hat, htx, t0, tf, t1, t1e⟩ := id HT
    have H : x_House g c W.1 W.2.1 W.2.2.1 W.2.2.2.1 W.2.2.2.2 := HW
    obtain ⟨h2, g0, g1, g2, g3, g4, g5, g6, g7, g8, g9, g10, g11⟩ := id H
    refine R_iload_n dX5_readInto_25 rfl ?_
    refine R_sipush (nI 240) dX5_readInto_26 rfl ?_
    refine R_geN 65 dX5_readInto_29 rfl (by omega) (by omega) (fun c_29 => ?_) (fun c_29 => ?_)
    · exact absurd c_29 (by omega)
    · refine R_aload_n dX5_readInto_32 rfl ?_
      refine R_get dX5_readInto_33 f_X5_25 t0 rfl ?_
      refine R_aload_n dX5_readInto_36 rfl ?_
      refine R_get dX5_readInto_37 f_X5_15 t0 rfl ?_
      refine R_geN 65 dX5_readInto_40 rfl (by omega) (by omega) (fun c_40 => ?_) (fun c_40 => ?_)
      · exact R_vret dX5_readInto_65 rfl rfl rfl ⟨rfl, by rw [← he, e_loop_stop (by omega)]; exact HT, by rw [← he, e_loop_stop (by omega)]; exact HW, FR⟩
      · refine R_aload_n dX5_readInto_43 rfl ?_
        refine R_get dX5_readInto_44 f_X5_19 t0 rfl ?_
        refine R_ifneN 65 dX5_readInto_47 rfl (by omega) (fun c_47 => ?_) (fun c_47 => ?_)
        · exact R_vret dX5_readInto_65 rfl rfl rfl ⟨rfl, by rw [← he, e_loop_stop (fun z => c_47 z.2)]; exact HT, by rw [← he, e_loop_stop (fun z => c_47 z.2)]; exact HW, FR⟩
        · refine R_aload_n dX5_readInto_50 rfl ?_
          refine R_aload_n dX5_readInto_51 rfl ?_
          refine R_cV1v (N := m_X5_readClause) dX5_readInto_52 l_X5_36 i_X5_readClause t0 (c_Text_clause HT HW hW hdis c_40) rfl rfl (fun h52 q_52 => ?_)
          obtain ⟨HT, HW2, FR2⟩ := q_52
          have FR := FR.trans FR2
          obtain ⟨h2, hn, hk, hat, htx, t0, tf, t1, t1e⟩ := id HT
          refine R_aload_n dX5_readInto_55 rfl ?_
          refine R_cV0v (N := m_X5_skipBlanks) dX5_readInto_56 l_X5_33 i_X5_skipBlanks t0 (c_Text_skip HT) rfl rfl (fun h56 q_56 => ?_)
          obtain ⟨HT, FR3⟩ := q_56
          have FR := FR.t FR3
          have HW2 : x_HouseW h56 c (e_clause tx n E W).2 := x_House.kept HW2 (fun q q1 q2 => FR3 q (by omega))
          refine R_iincN dX5_readInto_59 rfl (Nat.le_of_ble_eq_true rfl) rfl ?_
          refine R_goto 25 dX5_readInto_62 rfl ?_
          rw [e_loop, if_pos ⟨c_40, c_47⟩] at he
          exact ih (i + 1) (by omega) _ _ HT HW2 hW.clause FR he
theorem c_Text_into {h : xH} {b c n N R D P : Nat} {tx : Nat → Nat} {F : xF} {E : xE} (HT : x_Text h b n tx E) (H : x_House h c N R D P F) (hdis : b + 2 ≤ c) : x_Met m_X5_readInto [.ref b, .ref c] h (x_vd (fun h' => x_Text h' b n tx (e_into tx n F).1 ∧ x_HouseW h' c (e_into tx n F).2 ∧ x_f2 h h' b c)) := by
  obtain ⟨h2, hn, hk, hat, htx, t0, tf, t1, t1e⟩ := id HT
  obtain ⟨h2, g0, g1, g2, g3, g4, g5, g6, g7, g8, g9, g10, g11⟩ := id H
  refine x_Met.of (lo := [some (.ref b), some (.ref c), none]) (by decide) rfl rfl rfl ?_
  refine R_aload_n dX5_readInto_0 rfl ?_
  refine R_cV0v (N := m_X1_empty) dX5_readInto_1 l_X5_28 i_X1_empty g0 (c_House_empty H) rfl rfl (fun h1 q_1 => ?_)
  obtain ⟨H, FR1⟩ := q_1
  have HT := HT.kept (FR1 b (by omega)) (FR1 (b + 1) (by omega))
  have FR := (x_f2.rf h b c).h FR1
  have FR0 := x_f1.rf h1 b
  obtain ⟨h2, hn, hk, hat, htx, t0, tf, t1, t1e⟩ := id HT
  refine R_aload_n dX5_readInto_4 rfl ?_
  refine R_iconst (nI 0) dX5_readInto_5 rfl ?_
  refine R_put dX5_readInto_6 f_X5_19 t0 (Nat.le_of_ble_eq_true rfl) (fun _ => rfl) (fun _ => rfl) ?_
  simp only [List.set_cons_succ, List.set_cons_zero]
  have HT := HT.obj (0) (E.2.1) (E.2.2) (by omega) (by omega)
  have FR0 := x_f1.set FR0 (.inr (5, [.ref (b + 1), .int (nI n), .int (nI (0)), .int (E.2.1), .int (nI (E.2.2))]))
  obtain ⟨h2, hn, hk, hat, htx, t0, tf, t1, t1e⟩ := id HT
  dsimp only at hk hat t0
  refine R_aload_n dX5_readInto_9 rfl ?_
  refine R_iconst (-1) dX5_readInto_10 rfl ?_
  refine R_put dX5_readInto_11 f_X5_22 t0 (Nat.le_of_ble_eq_true rfl) (fun _ => rfl) (fun _ => rfl) ?_
  simp only [List.set_cons_succ, List.set_cons_zero]
  have HT := HT.obj (0) (-1) (E.2.2) (by omega) (by omega)
  have FR0 := x_f1.set FR0 (.inr (5, [.ref (b + 1), .int (nI n), .int (nI (0)), .int (-1), .int (nI (E.2.2))]))
  obtain ⟨h2, hn, hk, hat, htx, t0, tf, t1, t1e⟩ := id HT
  dsimp only at hk hat t0
  refine R_aload_n dX5_readInto_14 rfl ?_
  refine R_iconst (nI 0) dX5_readInto_15 rfl ?_
  refine R_put dX5_readInto_16 f_X5_25 t0 (Nat.le_of_ble_eq_true rfl) (fun _ => rfl) (fun _ => rfl) ?_
  simp only [List.set_cons_succ, List.set_cons_zero]
  have HT := HT.obj (0) (-1) (0) (by omega) (by omega)
  have FR0 := x_f1.set FR0 (.inr (5, [.ref (b + 1), .int (nI n), .int (nI (0)), .int (-1), .int (nI (0))]))
  obtain ⟨h2, hn, hk, hat, htx, t0, tf, t1, t1e⟩ := id HT
  dsimp only at hk hat t0
  refine R_aload_n dX5_readInto_19 rfl ?_
  refine R_cV0v (N := m_X5_skipBlanks) dX5_readInto_20 l_X5_33 i_X5_skipBlanks t0 (c_Text_skip HT) rfl rfl (fun h20 q_20 => ?_)
  obtain ⟨HT, FR3⟩ := q_20
  have FR := FR.t (FR0.trans FR3)
  have H := H.kept (fun q q1 q2 => (FR0.trans FR3) q (by omega))
  refine R_iconst (nI 0) dX5_readInto_23 rfl ?_
  refine R_istore_n dX5_readInto_24 (Nat.le_of_ble_eq_true rfl) rfl ?_
  exact c_Text_into_loop (F := F) hdis 240 0 (by omega) _ (0, 0, 0, 0, F) HT H ⟨⟨Nat.zero_le _, Nat.zero_le _, Nat.zero_le _, Nat.zero_le _⟩, fun d hd => absurd hd (Nat.not_lt_zero d), fun d hd => absurd hd (Nat.not_lt_zero d), fun d hd => absurd hd (Nat.not_lt_zero d), fun _ => ⟨rfl, rfl, rfl⟩⟩ FR rfl
