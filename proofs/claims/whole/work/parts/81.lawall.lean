/-! THE LAW, all of it -/
theorem x_end4 {L i : Nat} (hL : L ≤ 2048) (hi : i ≤ 4000) (h : ¬ nI L - nI 4 < nI i) : i + 4 ≤ L := by
  rw [Int32.lt_iff_toInt_lt, pk_sub_toInt (by omega) (by omega), nI_toInt (by omega)] at h
  omega
theorem w_loop {L : Nat} {xs : Nat → Int32} (hL : L ≤ 2048) : ∀ (m i : Nat), i ≤ 2052 → 2056 ≤ i + m → ∀ (g : xH) (Z : xZ), g[0]? = some (.inl (0, L, .inl xs)) → x_Class g Z → x_Model g Z → x_ZB (13 * i) Z → x_Rn m_L_law 18 [some (.ref 0), some (.ref 2), some (.ref 372), some (.int (nI i))] [] g (393, 12804) x_K1 := by
  intro m
  induction m with
  | zero => intro i h1 h2; omega
  | succ m ih =>
    intro i h1 h2 g Z gs HC HM hZ
    refine R_iload_n dL_law_18 rfl ?_
    refine R_aload_n dL_law_19 rfl ?_
    refine R_alen dL_law_20 gs ?_
    refine R_iconst (nI 4) dL_law_21 rfl ?_
    refine R_isub dL_law_22 ?_
    refine R_icmpgt 923 dL_law_23 rfl (fun c_23 => ?_) (fun c_23 => ?_)
    · refine R_iconst (nI 1) dL_law_923 rfl ?_
      exact R_zret dL_law_924 rfl (Or.inr rfl) rfl rfl rfl
    have hi : i + 4 ≤ L := x_end4 hL (by omega) c_23
    have nx : x_Nx L xs i := by
      intro g Z gs HC HM hZ
      refine R_iinc _ dL_law_917 rfl rfl (Nat.le_of_ble_eq_true rfl) rfl ?_
      refine R_goto 18 dL_law_920 rfl ?_
      rw [show nI i + Int32.ofInt 4 = nI (i + 4) from nI_add i 4]
      exact ih (i + 4) (by omega) (by omega) g Z gs HC HM hZ
    refine R_aload_n dL_law_26 rfl ?_
    refine R_iload_n dL_law_27 rfl ?_
    refine R_iald dL_law_28 gs rfl (by omega) (by omega) ?_
    refine R_bipush (nI 31) dL_law_29 rfl ?_
    refine R_iand dL_law_31 ?_
    generalize xs i &&& nI 31 = y
    cases hx : x_has y 29 with
    | false =>
      refine R_tout 917 dL_law_32 (by have := x_tout hx; omega) rfl ?_
      exact nx g Z gs HC HM (x_ZB.mono hZ (by omega))
    | true =>
    obtain ⟨k, hk, rfl⟩ := x_has_t (by decide) hx
    have hk : k = 0 ∨ k = 1 ∨ k = 2 ∨ k = 3 ∨ k = 4 ∨ k = 5 ∨ k = 6 ∨ k = 7 ∨ k = 8 ∨ k = 9 ∨ k = 10 ∨ k = 11 ∨ k = 12 ∨ k = 13 ∨ k = 14 ∨ k = 15 ∨ k = 16 ∨ k = 17 ∨ k = 18 ∨ k = 19 ∨ k = 20 ∨ k = 21 ∨ k = 22 ∨ k = 23 ∨ k = 24 ∨ k = 25 ∨ k = 26 ∨ k = 27 ∨ k = 28 := by omega
    rcases hk with rfl | rfl | rfl | rfl | rfl | rfl | rfl | rfl | rfl | rfl | rfl | rfl | rfl | rfl | rfl | rfl | rfl | rfl | rfl | rfl | rfl | rfl | rfl | rfl | rfl | rfl | rfl | rfl | rfl
    · refine R_tin 164 dL_law_32 (by decide) (by decide) rfl rfl ?_
      exact w_feed hL hi gs HC HM hZ nx
    · refine R_tin 187 dL_law_32 (by decide) (by decide) rfl rfl ?_
      exact w_manor hL hi gs HC HM hZ nx
    · refine R_tin 200 dL_law_32 (by decide) (by decide) rfl rfl ?_
      exact w_fault hL hi gs HC HM hZ nx
    · refine R_tin 213 dL_law_32 (by decide) (by decide) rfl rfl ?_
      exact w_told hL hi gs HC HM hZ nx
    · refine R_tin 236 dL_law_32 (by decide) (by decide) rfl rfl ?_
      exact w_room hL hi gs HC HM hZ nx
    · refine R_tin 269 dL_law_32 (by decide) (by decide) rfl rfl ?_
      exact w_door hL hi gs HC HM hZ nx
    · refine R_tin 302 dL_law_32 (by decide) (by decide) rfl rfl ?_
      exact w_heir hL hi gs HC HM hZ nx
    · refine R_tin 335 dL_law_32 (by decide) (by decide) rfl rfl ?_
      exact w_say hL hi gs HC HM hZ nx
    · refine R_tin 358 dL_law_32 (by decide) (by decide) rfl rfl ?_
      exact w_go hL hi gs HC HM hZ nx
    · refine R_tin 391 dL_law_32 (by decide) (by decide) rfl rfl ?_
      exact w_hour hL hi gs HC HM hZ nx
    · refine R_tin 414 dL_law_32 (by decide) (by decide) rfl rfl ?_
      exact w_out hL hi gs HC HM hZ nx
    · refine R_tin 437 dL_law_32 (by decide) (by decide) rfl rfl ?_
      exact w_light hL hi gs HC HM hZ nx
    · refine R_tin 460 dL_law_32 (by decide) (by decide) rfl rfl ?_
      exact w_candle hL hi gs HC HM hZ nx
    · refine R_tin 493 dL_law_32 (by decide) (by decide) rfl rfl ?_
      exact w_drift hL hi gs HC HM hZ nx
    · refine R_tin 516 dL_law_32 (by decide) (by decide) rfl rfl ?_
      exact w_undo hL hi gs HC HM hZ nx
    · refine R_tin 539 dL_law_32 (by decide) (by decide) rfl rfl ?_
      exact w_wall hL hi gs HC HM hZ nx
    · refine R_tin 572 dL_law_32 (by decide) (by decide) rfl rfl ?_
      exact w_way hL hi gs HC HM hZ nx
    · refine R_tin 605 dL_law_32 (by decide) (by decide) rfl rfl ?_
      exact w_fewest hL hi gs HC HM hZ nx
    · refine R_tin 648 dL_law_32 (by decide) (by decide) rfl rfl ?_
      exact w_reading hL hi gs HC HM hZ nx
    · refine R_tin 681 dL_law_32 (by decide) (by decide) rfl rfl ?_
      exact w_quiet hL hi gs HC HM hZ nx
    · refine R_tin 714 dL_law_32 (by decide) (by decide) rfl rfl ?_
      exact w_see hL hi gs HC HM hZ nx
    · refine R_tin 763 dL_law_32 (by decide) (by decide) rfl rfl ?_
      exact w_couldBe hL hi gs HC HM hZ nx
    · refine R_tin 776 dL_law_32 (by decide) (by decide) rfl rfl ?_
      exact w_ask hL hi gs HC HM hZ nx
    · refine R_tin 789 dL_law_32 (by decide) (by decide) rfl rfl ?_
      exact w_write hL hi gs HC HM hZ nx
    · refine R_tin 822 dL_law_32 (by decide) (by decide) rfl rfl ?_
      exact w_judge hL hi gs HC HM hZ nx
    · refine R_tin 835 dL_law_32 (by decide) (by decide) rfl rfl ?_
      exact w_tear hL hi gs HC HM hZ nx
    · refine R_tin 848 dL_law_32 (by decide) (by decide) rfl rfl ?_
      exact w_seed hL hi gs HC HM hZ nx
    · refine R_tin 871 dL_law_32 (by decide) (by decide) rfl rfl ?_
      exact w_keep hL hi gs HC HM hZ nx
    · refine R_tin 894 dL_law_32 (by decide) (by decide) rfl rfl ?_
      exact w_goBack hL hi gs HC HM hZ nx
theorem w_law {L : Nat} {xs : Nat → Int32} (hL : L ≤ 2048) : x_Rn m_L_law 0 [some (.ref 0), none, none, none] [] [.inl (0, L, .inl xs), x_la 6 x_lack] (0, 0) x_K1 := by
  refine C_new7 dL_law_0 k_L_7 rfl rfl ?_
  show x_Rn _ _ _ (.ref 2 :: _) ([.inl (0, L, .inl xs), x_la 6 x_lack] ++ [d_7]) _ _
  refine R_dup dL_law_3 rfl ?_
  refine C_callI (N := m_X7_init) dL_law_4 l_L_9 rfl i_X7_init (c_X7_init rfl rfl rfl) rfl rfl (fun h1 q1 => ?_)
  obtain ⟨l1, HC, f1⟩ := q1
  refine R_astore_n dL_law_7 (Nat.le_of_ble_eq_true rfl) rfl ?_
  refine C_new8 dL_law_8 k_L_10 rfl rfl ?_
  rw [l1]
  refine R_dup dL_law_11 rfl ?_
  refine C_callI (N := m_X8_init) dL_law_12 l_L_12 rfl i_X8_init (c_X8_init (h := h1 ++ [d_8]) (a := 372) (by rw [List.length_append, l1]; rfl) (by rw [List.getElem?_append_right (by omega), l1]; rfl) (by decide)) rfl rfl (fun h2 q2 => ?_)
  obtain ⟨l2, HM, f2⟩ := q2
  have f2 : ∀ q, q < 372 → h2[q]? = h1[q]? := fun q hq => (f2 q hq).trans (List.getElem?_append_left (by omega))
  refine R_astore_n dL_law_15 (Nat.le_of_ble_eq_true rfl) rfl ?_
  refine R_iconst (nI 0) dL_law_16 rfl ?_
  refine R_istore_n dL_law_17 (Nat.le_of_ble_eq_true rfl) rfl ?_
  exact w_loop hL 2056 0 (by omega) (by omega) h2 xZ0 ((f2 0 (by decide)).trans (f1 0 (by decide))) (HC.kept f2) HM.cl x_ZB0
