theorem c_House_hasRoom {h : xH} {b N R D P : Nat} {F : xF} (H : x_House h b N R D P F) (r : Int32) : x_Met m_X1_hasRoom [.ref b, .int r] h (x_pr (x_b (x_has r R)) h) := by
  obtain ⟨h2, g0, g1, g2, g3, g4, g5, g6, g7, g8, g9, g10, g11⟩ := H
  refine x_Met.of (lo := [some (.ref b), some (.int r)]) (by decide) rfl rfl rfl ?_
  refine R_iload_n dX1_hasRoom_0 rfl ?_
  refine R_iflt 16 dX1_hasRoom_1 rfl (fun c_1 => ?_) (fun c_1 => ?_)
  · refine R_iconst (nI 0) dX1_hasRoom_16 rfl ?_
    exact R_zret dX1_hasRoom_17 rfl (Or.inl rfl) rfl rfl (x_pr.eq (x_bf (by simp [x_has, *])))
  · refine R_iload_n dX1_hasRoom_4 rfl ?_
    refine R_aload_n dX1_hasRoom_5 rfl ?_
    refine R_get dX1_hasRoom_6 f_X1_15 g0 rfl ?_
    refine R_icmpge 16 dX1_hasRoom_9 rfl (fun c_9 => ?_) (fun c_9 => ?_)
    · refine R_iconst (nI 0) dX1_hasRoom_16 rfl ?_
      exact R_zret dX1_hasRoom_17 rfl (Or.inl rfl) rfl rfl (x_pr.eq (x_bf (by simp [x_has, *])))
    · refine R_iconst (nI 1) dX1_hasRoom_12 rfl ?_
      refine R_goto 17 dX1_hasRoom_13 rfl ?_
      exact R_zret dX1_hasRoom_17 rfl (Or.inr rfl) rfl rfl (x_pr.eq (x_bt (by simp [x_has, *])))
theorem c_House_hasDoor {h : xH} {b N R D P : Nat} {F : xF} (H : x_House h b N R D P F) (r : Int32) : x_Met m_X1_hasDoor [.ref b, .int r] h (x_pr (x_b (x_has r D)) h) := by
  obtain ⟨h2, g0, g1, g2, g3, g4, g5, g6, g7, g8, g9, g10, g11⟩ := H
  refine x_Met.of (lo := [some (.ref b), some (.int r)]) (by decide) rfl rfl rfl ?_
  refine R_iload_n dX1_hasDoor_0 rfl ?_
  refine R_iflt 16 dX1_hasDoor_1 rfl (fun c_1 => ?_) (fun c_1 => ?_)
  · refine R_iconst (nI 0) dX1_hasDoor_16 rfl ?_
    exact R_zret dX1_hasDoor_17 rfl (Or.inl rfl) rfl rfl (x_pr.eq (x_bf (by simp [x_has, *])))
  · refine R_iload_n dX1_hasDoor_4 rfl ?_
    refine R_aload_n dX1_hasDoor_5 rfl ?_
    refine R_get dX1_hasDoor_6 f_X1_18 g0 rfl ?_
    refine R_icmpge 16 dX1_hasDoor_9 rfl (fun c_9 => ?_) (fun c_9 => ?_)
    · refine R_iconst (nI 0) dX1_hasDoor_16 rfl ?_
      exact R_zret dX1_hasDoor_17 rfl (Or.inl rfl) rfl rfl (x_pr.eq (x_bf (by simp [x_has, *])))
    · refine R_iconst (nI 1) dX1_hasDoor_12 rfl ?_
      refine R_goto 17 dX1_hasDoor_13 rfl ?_
      exact R_zret dX1_hasDoor_17 rfl (Or.inr rfl) rfl rfl (x_pr.eq (x_bt (by simp [x_has, *])))
theorem c_House_hasHeir {h : xH} {b N R D P : Nat} {F : xF} (H : x_House h b N R D P F) (r : Int32) : x_Met m_X1_hasHeir [.ref b, .int r] h (x_pr (x_b (x_has r P)) h) := by
  obtain ⟨h2, g0, g1, g2, g3, g4, g5, g6, g7, g8, g9, g10, g11⟩ := H
  refine x_Met.of (lo := [some (.ref b), some (.int r)]) (by decide) rfl rfl rfl ?_
  refine R_iload_n dX1_hasHeir_0 rfl ?_
  refine R_iflt 16 dX1_hasHeir_1 rfl (fun c_1 => ?_) (fun c_1 => ?_)
  · refine R_iconst (nI 0) dX1_hasHeir_16 rfl ?_
    exact R_zret dX1_hasHeir_17 rfl (Or.inl rfl) rfl rfl (x_pr.eq (x_bf (by simp [x_has, *])))
  · refine R_iload_n dX1_hasHeir_4 rfl ?_
    refine R_aload_n dX1_hasHeir_5 rfl ?_
    refine R_get dX1_hasHeir_6 f_X1_21 g0 rfl ?_
    refine R_icmpge 16 dX1_hasHeir_9 rfl (fun c_9 => ?_) (fun c_9 => ?_)
    · refine R_iconst (nI 0) dX1_hasHeir_16 rfl ?_
      exact R_zret dX1_hasHeir_17 rfl (Or.inl rfl) rfl rfl (x_pr.eq (x_bf (by simp [x_has, *])))
    · refine R_iconst (nI 1) dX1_hasHeir_12 rfl ?_
      refine R_goto 17 dX1_hasHeir_13 rfl ?_
      exact R_zret dX1_hasHeir_17 rfl (Or.inr rfl) rfl rfl (x_pr.eq (x_bt (by simp [x_has, *])))
theorem c_House_hasRooms {h : xH} {b N R D P : Nat} {F : xF} (H : x_House h b N R D P F) (r : Int32) : x_Met m_X1_hasRooms [.ref b, .int r] h (x_pr (x_b (decide (¬ r < 0 ∧ ¬ nI 1 <<< (nI R &&& 31) ≤ r))) h) := by
  obtain ⟨h2, g0, g1, g2, g3, g4, g5, g6, g7, g8, g9, g10, g11⟩ := H
  refine x_Met.of (lo := [some (.ref b), some (.int r)]) (by decide) rfl rfl rfl ?_
  refine R_iload_n dX1_hasRooms_0 rfl ?_
  refine R_iflt 18 dX1_hasRooms_1 rfl (fun c_1 => ?_) (fun c_1 => ?_)
  · refine R_iconst (nI 0) dX1_hasRooms_18 rfl ?_
    exact R_zret dX1_hasRooms_19 rfl (Or.inl rfl) rfl rfl (x_pr.eq (x_bf (by simp [*])))
  · refine R_iload_n dX1_hasRooms_4 rfl ?_
    refine R_iconst (nI 1) dX1_hasRooms_5 rfl ?_
    refine R_aload_n dX1_hasRooms_6 rfl ?_
    refine R_get dX1_hasRooms_7 f_X1_15 g0 rfl ?_
    refine R_ishl dX1_hasRooms_10 ?_
    refine R_icmpge 18 dX1_hasRooms_11 rfl (fun c_11 => ?_) (fun c_11 => ?_)
    · refine R_iconst (nI 0) dX1_hasRooms_18 rfl ?_
      exact R_zret dX1_hasRooms_19 rfl (Or.inl rfl) rfl rfl (x_pr.eq (x_bf (by simp [*])))
    · refine R_iconst (nI 1) dX1_hasRooms_14 rfl ?_
      refine R_goto 19 dX1_hasRooms_15 rfl ?_
      exact R_zret dX1_hasRooms_19 rfl (Or.inr rfl) rfl rfl (x_pr.eq (x_bt (by simp [*])))
theorem c_House_behind {h : xH} {b N R D P : Nat} {F : xF} (H : x_House h b N R D P F) (hB : x_HB N R D P F) {d r : Nat} (hd : d < D) (hr : r < R) : x_Met m_X1_behind [.ref b, .int (nI d), .int (nI r)] h (x_pr (s_behind F d r) h) := by
  obtain ⟨h2, g0, g1, g2, g3, g4, g5, g6, g7, g8, g9, g10, g11⟩ := H
  obtain ⟨⟨b1, b2, b3, b4⟩, b5, b6, b7⟩ := hB
  have w1 := b5 d hd
  refine x_Met.of (lo := [some (.ref b), some (.int (nI d)), some (.int (nI r))]) (by decide) rfl rfl rfl ?_
  refine R_aload_n dX1_behind_0 rfl ?_
  refine R_get dX1_behind_1 f_X1_28 g0 rfl ?_
  refine R_iload_n dX1_behind_4 rfl ?_
  refine R_iald dX1_behind_5 g2 rfl (by omega) (by decide) ?_
  refine R_iload_n dX1_behind_6 rfl ?_
  refine R_neN 17 dX1_behind_7 rfl (by omega) (by omega) (fun c_7 => ?_) (fun c_7 => ?_)
  · refine R_aload_n dX1_behind_17 rfl ?_
    refine R_get dX1_behind_18 f_X1_31 g0 rfl ?_
    refine R_iload_n dX1_behind_21 rfl ?_
    refine R_iald dX1_behind_22 g3 rfl (by omega) (by decide) ?_
    refine R_iload_n dX1_behind_23 rfl ?_
    refine R_neN 36 dX1_behind_24 rfl (by omega) (by omega) (fun c_24 => ?_) (fun c_24 => ?_)
    · refine R_iconst (-1) dX1_behind_36 rfl ?_
      exact R_iret dX1_behind_37 rfl rfl rfl (x_pr.eq (by simp [s_behind, *]))
    · refine R_aload_n dX1_behind_27 rfl ?_
      refine R_get dX1_behind_28 f_X1_28 g0 rfl ?_
      refine R_iload_n dX1_behind_31 rfl ?_
      refine R_iald dX1_behind_32 g2 rfl (by omega) (by decide) ?_
      refine R_goto 37 dX1_behind_33 rfl ?_
      exact R_iret dX1_behind_37 rfl rfl rfl (x_pr.eq (by simp [s_behind, *]))
  · refine R_aload_n dX1_behind_10 rfl ?_
    refine R_get dX1_behind_11 f_X1_31 g0 rfl ?_
    refine R_iload_n dX1_behind_14 rfl ?_
    refine R_iald dX1_behind_15 g3 rfl (by omega) (by decide) ?_
    exact R_iret dX1_behind_16 rfl rfl rfl (x_pr.eq (by simp [s_behind, *]))
theorem c_House_isEarly {h : xH} {b N R D P : Nat} {F : xF} (H : x_House h b N R D P F) (hB : x_HB N R D P F) {r : Nat} (hr : r ≤ 20) : x_Met m_X1_isEarly [.ref b, .int (nI r)] h (x_pr (x_b (decide (r < N / 2))) h) := by
  obtain ⟨h2, g0, g1, g2, g3, g4, g5, g6, g7, g8, g9, g10, g11⟩ := H
  obtain ⟨⟨b1, b2, b3, b4⟩, b5, b6, b7⟩ := hB
  refine x_Met.of (lo := [some (.ref b), some (.int (nI r))]) (by decide) rfl rfl rfl ?_
  refine R_iload_n dX1_isEarly_0 rfl ?_
  refine R_aload_n dX1_isEarly_1 rfl ?_
  refine R_get dX1_isEarly_2 f_X1_9 g0 rfl ?_
  refine R_iconst (nI 2) dX1_isEarly_5 rfl ?_
  refine R_idivN dX1_isEarly_6 (by omega) (by omega) (by omega) ?_
  refine R_geN 14 dX1_isEarly_7 rfl (by omega) (by omega) (fun c_7 => ?_) (fun c_7 => ?_)
  · refine R_iconst (nI 0) dX1_isEarly_14 rfl ?_
    exact R_zret dX1_isEarly_15 rfl (Or.inl rfl) rfl rfl (x_pr.eq (x_bf (decide_eq_false (by omega))))
  · refine R_iconst (nI 1) dX1_isEarly_10 rfl ?_
    refine R_goto 15 dX1_isEarly_11 rfl ?_
    exact R_zret dX1_isEarly_15 rfl (Or.inr rfl) rfl rfl (x_pr.eq (x_bt (decide_eq_true (by omega))))
theorem c_House_nameOf {h : xH} {b N R D P : Nat} {F : xF} (H : x_House h b N R D P F) (hB : x_HB N R D P F) {p k : Nat} (hp : p < P) (hk : k < 4) : x_Met m_X1_nameOf [.ref b, .int (nI p), .int (nI k)] h (x_pr (nI (s_name F p k)) h) := by
  obtain ⟨h2, g0, g1, g2, g3, g4, g5, g6, g7, g8, g9, g10, g11⟩ := H
  obtain ⟨⟨b1, b2, b3, b4⟩, b5, b6, b7⟩ := hB
  have w1 := b6 p hp
  refine x_Met.of (lo := [some (.ref b), some (.int (nI p)), some (.int (nI k))]) (by decide) rfl rfl rfl ?_
  refine R_aload_n dX1_nameOf_0 rfl ?_
  refine R_get dX1_nameOf_1 f_X1_37 g0 rfl ?_
  refine R_iload_n dX1_nameOf_4 rfl ?_
  refine R_iald dX1_nameOf_5 g5 rfl (by omega) (by decide) ?_
  refine R_iconst (nI 2) dX1_nameOf_6 rfl ?_
  refine R_neN 19 dX1_nameOf_7 rfl (by omega) (by omega) (fun c_7 => ?_) (fun c_7 => ?_)
  · refine R_iload_n dX1_nameOf_19 rfl ?_
    exact R_iret dX1_nameOf_20 rfl rfl rfl (x_pr.eq (congrArg nI (by simp [s_name, *])))
  · refine R_iload_n dX1_nameOf_10 rfl ?_
    refine R_iconst (nI 3) dX1_nameOf_11 rfl ?_
    refine R_eqN 19 dX1_nameOf_12 rfl (by omega) (by omega) (fun c_12 => ?_) (fun c_12 => ?_)
    · refine R_iload_n dX1_nameOf_19 rfl ?_
      exact R_iret dX1_nameOf_20 rfl rfl rfl (x_pr.eq (congrArg nI (by simp [s_name, *])))
    · refine R_iconst (nI 0) dX1_nameOf_15 rfl ?_
      refine R_goto 20 dX1_nameOf_16 rfl ?_
      exact R_iret dX1_nameOf_20 rfl rfl rfl (x_pr.eq (congrArg nI (by simp [s_name, *])))
theorem c_House_isHeard {h : xH} {b N R D P : Nat} {F : xF} (H : x_House h b N R D P F) (hB : x_HB N R D P F) {p f r : Nat} (hp : p < P) (hf : f < R) (hr : r < R) : x_Met m_X1_isHeard [.ref b, .int (nI p), .int (nI f), .int (nI r)] h (x_pr (x_b (s_heard F p f r)) h) := by
  obtain ⟨h2, g0, g1, g2, g3, g4, g5, g6, g7, g8, g9, g10, g11⟩ := H
  obtain ⟨⟨b1, b2, b3, b4⟩, b5, b6, b7⟩ := hB
  have w1 := b6 p hp
  have w2 := b7 f r hf hr
  refine x_Met.of (lo := [some (.ref b), some (.int (nI p)), some (.int (nI f)), some (.int (nI r))]) (by decide) rfl rfl rfl ?_
  refine R_aload_n dX1_isHeard_0 rfl ?_
  refine R_get dX1_isHeard_1 f_X1_48 g0 rfl ?_
  refine R_iload_n dX1_isHeard_4 rfl ?_
  refine R_aald dX1_isHeard_5 g8 (by omega) (fun _ => rfl) rfl rfl (by omega) (by decide) (if_pos (by omega)) ?_
  refine R_iload_n dX1_isHeard_6 rfl ?_
  refine R_iald dX1_isHeard_7 (g9 _ (by omega)) rfl (by omega) (by decide) ?_
  refine R_aload_n dX1_isHeard_8 rfl ?_
  refine R_get dX1_isHeard_9 f_X1_40 g0 rfl ?_
  refine R_iload_n dX1_isHeard_12 rfl ?_
  refine R_iald dX1_isHeard_13 g6 rfl (by omega) (by decide) ?_
  refine R_geN 21 dX1_isHeard_14 rfl (by omega) (by omega) (fun c_14 => ?_) (fun c_14 => ?_)
  · refine R_iconst (nI 0) dX1_isHeard_21 rfl ?_
    exact R_zret dX1_isHeard_22 rfl (Or.inl rfl) rfl rfl (x_pr.eq (x_bf (decide_eq_false (by omega))))
  · refine R_iconst (nI 1) dX1_isHeard_17 rfl ?_
    refine R_goto 22 dX1_isHeard_18 rfl ?_
    exact R_zret dX1_isHeard_22 rfl (Or.inr rfl) rfl rfl (x_pr.eq (x_bt (decide_eq_true (by omega))))
theorem c_House_heardFrom_loop {h : xH} {b N R D P : Nat} {F : xF} (H : x_House h b N R D P F) (hB : x_HB N R D P F) {p f : Nat} (hp : p < P) (hf : f < R) : ∀ (n r : Nat), r ≤ R → R + 1 ≤ r + n → x_Rn m_X1_heardFrom 5 [some (.ref b), some (.int (nI p)), some (.int (nI f)), some (.int (s_set r (s_heard F p f))), some (.int (nI r))] [] h (0, 0) (x_pr (s_set R (s_heard F p f)) h) := by
  obtain ⟨h2, g0, g1, g2, g3, g4, g5, g6, g7, g8, g9, g10, g11⟩ := id H
  obtain ⟨⟨b1, b2, b3, b4⟩, b5, b6, b7⟩ := id hB
  intro n
  induction n with
  | zero => intro r h1 h3; omega
  | succ n ih =>
    intro r h1 h3
    refine R_iload dX1_heardFrom_5 rfl ?_
    refine R_aload_n dX1_heardFrom_7 rfl ?_
    refine R_get dX1_heardFrom_8 f_X1_15 g0 rfl ?_
    refine R_geN 38 dX1_heardFrom_11 rfl (by omega) (by omega) (fun c_11 => ?_) (fun c_11 => ?_)
    · have e : r = R := by omega
      subst e
      refine R_iload_n dX1_heardFrom_38 rfl ?_
      exact R_iret dX1_heardFrom_39 rfl rfl rfl x_pr.mk
    · have hr : r < R := by omega
      refine R_aload_n dX1_heardFrom_14 rfl ?_
      refine R_iload_n dX1_heardFrom_15 rfl ?_
      refine R_iload_n dX1_heardFrom_16 rfl ?_
      refine R_iload dX1_heardFrom_17 rfl ?_
      refine R_cV3p (N := m_X1_isHeard) dX1_heardFrom_19 l_X1_54 i_X1_isHeard g0 (c_House_isHeard H hB hp hf hr) rfl rfl ?_
      refine R_ifeqB 32 dX1_heardFrom_22 rfl (fun c_22 => ?_) (fun c_22 => ?_)
      · rw [s_set_f c_22]
        refine R_iincN dX1_heardFrom_32 rfl (Nat.le_of_ble_eq_true rfl) rfl ?_
        refine R_goto 5 dX1_heardFrom_35 rfl ?_
        exact ih (r + 1) (by omega) (by omega)
      · 
        refine R_iload_n dX1_heardFrom_25 rfl ?_
        refine R_iconst (nI 1) dX1_heardFrom_26 rfl ?_
        refine R_iload dX1_heardFrom_27 rfl ?_
        refine R_ishl dX1_heardFrom_29 ?_
        refine R_ior dX1_heardFrom_30 ?_
        rw [s_set_t c_22]
        refine R_istore_n dX1_heardFrom_31 (Nat.le_of_ble_eq_true rfl) rfl ?_
        refine R_iincN dX1_heardFrom_32 rfl (Nat.le_of_ble_eq_true rfl) rfl ?_
        refine R_goto 5 dX1_heardFrom_35 rfl ?_
        exact ih (r + 1) (by omega) (by omega)
theorem c_House_heardFrom {h : xH} {b N R D P : Nat} {F : xF} (H : x_House h b N R D P F) (hB : x_HB N R D P F) {p f : Nat} (hp : p < P) (hf : f < R) : x_Met m_X1_heardFrom [.ref b, .int (nI p), .int (nI f)] h (x_pr (s_set R (s_heard F p f)) h) := by
  refine x_Met.of (lo := [some (.ref b), some (.int (nI p)), some (.int (nI f)), none, none]) (by decide) rfl rfl rfl ?_
  refine R_iconst (nI 0) dX1_heardFrom_0 rfl ?_
  refine R_istore_n dX1_heardFrom_1 (Nat.le_of_ble_eq_true rfl) rfl ?_
  refine R_iconst (nI 0) dX1_heardFrom_2 rfl ?_
  refine R_istore dX1_heardFrom_3 (Nat.le_of_ble_eq_true rfl) rfl ?_
  exact c_House_heardFrom_loop H hB hp hf (R + 1) 0 (by omega) (by omega)
