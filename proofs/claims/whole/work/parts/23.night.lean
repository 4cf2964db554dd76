theorem c_Night_isOut {h : xH} {c R P : Nat} {Q : xQ} (HN : x_Night h c R P Q) {r : Nat} (hr : r < 6) : x_Met m_X2_isOut [.ref c, .int (nI r)] h (x_pr (x_b (q_ou Q r)) h) := by
  obtain ⟨h2n, n0, ⟨f1, n1, n1e⟩, n2, ⟨f3, n3, n3e⟩, n4, n5⟩ := id HN
  refine x_Met.of (lo := [some (.ref c), some (.int (nI r))]) (by decide) rfl rfl rfl ?_
  refine R_aload_n dX2_isOut_0 rfl ?_
  refine R_get dX2_isOut_1 f_X2_21 n0 rfl ?_
  refine R_iload_n dX2_isOut_4 rfl ?_
  refine R_ishr dX2_isOut_5 ?_
  refine R_iconst (nI 1) dX2_isOut_6 rfl ?_
  refine R_iand dX2_isOut_7 ?_
  rw [s_bit (Nat.le_refl 6) _ hr]
  refine R_ifeqB 15 dX2_isOut_8 rfl (fun c_8 => ?_) (fun c_8 => ?_)
  · refine R_iconst (nI 0) dX2_isOut_15 rfl ?_
    exact R_zret dX2_isOut_16 rfl (Or.inl rfl) rfl rfl (x_pr.eq (x_bf (by simpa [hr] using c_8)))
  · refine R_iconst (nI 1) dX2_isOut_11 rfl ?_
    refine R_goto 16 dX2_isOut_12 rfl ?_
    exact R_zret dX2_isOut_16 rfl (Or.inr rfl) rfl rfl (x_pr.eq (x_bt (by simpa [hr] using c_8)))
theorem c_Night_isLitAt {h : xH} {c R P : Nat} {Q : xQ} (HN : x_Night h c R P Q) (hR : R ≤ 6) {r t : Nat} (hr : r < R) (ht : t ≤ 20) (hu : q_bu Q r ≤ 20) : x_Met m_X2_isLitAt [.ref c, .int (nI r), .int (nI t)] h (x_pr (x_b (s_lit Q t r)) h) := by
  obtain ⟨h2n, n0, ⟨f1, n1, n1e⟩, n2, ⟨f3, n3, n3e⟩, n4, n5⟩ := id HN
  refine x_Met.of (lo := [some (.ref c), some (.int (nI r)), some (.int (nI t))]) (by decide) rfl rfl rfl ?_
  refine R_iload_n dX2_isLitAt_0 rfl ?_
  refine R_aload_n dX2_isLitAt_1 rfl ?_
  refine R_get dX2_isLitAt_2 f_X2_24 n0 rfl ?_
  refine R_iload_n dX2_isLitAt_5 rfl ?_
  refine R_iald dX2_isLitAt_6 n1 rfl (by omega) (by decide) ?_
  rw [n1e r (by omega)]
  refine R_geN 22 dX2_isLitAt_7 rfl (by omega) (by omega) (fun c_7 => ?_) (fun c_7 => ?_)
  · refine R_iconst (nI 0) dX2_isLitAt_22 rfl ?_
    exact R_zret dX2_isLitAt_23 rfl (Or.inl rfl) rfl rfl (x_pr.eq (x_bf (by first | (simp [s_lit, *]; done) | (simp [s_lit]; intros; omega))))
  · refine R_aload_n dX2_isLitAt_10 rfl ?_
    refine R_iload_n dX2_isLitAt_11 rfl ?_
    refine R_cV1p (N := m_X2_isOut) dX2_isLitAt_12 l_X2_70 i_X2_isOut n0 (c_Night_isOut HN (by omega)) rfl rfl ?_
    refine R_ifneB 22 dX2_isLitAt_15 rfl (fun c_15 => ?_) (fun c_15 => ?_)
    · refine R_iconst (nI 0) dX2_isLitAt_22 rfl ?_
      exact R_zret dX2_isLitAt_23 rfl (Or.inl rfl) rfl rfl (x_pr.eq (x_bf (by first | (simp [s_lit, *]; done) | (simp [s_lit]; intros; omega))))
    · refine R_iconst (nI 1) dX2_isLitAt_18 rfl ?_
      refine R_goto 23 dX2_isLitAt_19 rfl ?_
      exact R_zret dX2_isLitAt_23 rfl (Or.inr rfl) rfl rfl (x_pr.eq (x_bt (by first | (simp [s_lit, *]; done) | (simp [s_lit]; intros; omega))))
theorem c_Night_litAt_loop {h : xH} {b c N R D P : Nat} {F : xF} {Q : xQ} (H : x_House h b N R D P F) (hB : x_HB N R D P F) (HN : x_Night h c R P Q) (hQ : x_QB N R P Q) {t : Nat} (ht : t ≤ 20) : ∀ (n r : Nat), r ≤ R → R + 1 ≤ r + n → x_Rn m_X2_litAt 5 [some (.ref c), some (.ref b), some (.int (nI t)), some (.int (s_set r (s_lit Q t))), some (.int (nI r))] [] h (0, 0) (x_pr (s_set R (s_lit Q t)) h) := by
  obtain ⟨h2, g0, g1, g2, g3, g4, g5, g6, g7, g8, g9, g10, g11⟩ := id H
  obtain ⟨⟨b1, b2, b3, b4⟩, b5, b6, b7⟩ := id hB
  obtain ⟨h2n, n0, ⟨f1, n1, n1e⟩, n2, ⟨f3, n3, n3e⟩, n4, n5⟩ := id HN
  obtain ⟨u1, u2, u3, u4, u5, u6, u7, u8, u9⟩ := id hQ
  intro n
  induction n with
  | zero => intro r h1 h3; omega
  | succ n ih =>
    intro r h1 h3
    refine R_iload dX2_litAt_5 rfl ?_
    refine R_aload_n dX2_litAt_7 rfl ?_
    refine R_get dX2_litAt_8 f_X2_63 g0 rfl ?_
    refine R_geN 37 dX2_litAt_11 rfl (by omega) (by omega) (fun c_11 => ?_) (fun c_11 => ?_)
    · have e : r = R := by omega
      subst e
      refine R_iload_n dX2_litAt_37 rfl ?_
      exact R_iret dX2_litAt_38 rfl rfl rfl x_pr.mk
    · have hr : r < R := by omega
      refine R_aload_n dX2_litAt_14 rfl ?_
      refine R_iload dX2_litAt_15 rfl ?_
      refine R_iload_n dX2_litAt_17 rfl ?_
      refine R_cV2p (N := m_X2_isLitAt) dX2_litAt_18 l_X2_74 i_X2_isLitAt n0 (c_Night_isLitAt HN b2 hr ht (u5 r hr)) rfl rfl ?_
      refine R_ifeqB 31 dX2_litAt_21 rfl (fun c_21 => ?_) (fun c_21 => ?_)
      · rw [s_set_f c_21]
        refine R_iincN dX2_litAt_31 rfl (Nat.le_of_ble_eq_true rfl) rfl ?_
        refine R_goto 5 dX2_litAt_34 rfl ?_
        exact ih (r + 1) (by omega) (by omega)
      · refine R_iload_n dX2_litAt_24 rfl ?_
        refine R_iconst (nI 1) dX2_litAt_25 rfl ?_
        refine R_iload dX2_litAt_26 rfl ?_
        refine R_ishl dX2_litAt_28 ?_
        refine R_ior dX2_litAt_29 ?_
        rw [s_set_t c_21]
        refine R_istore_n dX2_litAt_30 (Nat.le_of_ble_eq_true rfl) rfl ?_
        refine R_iincN dX2_litAt_31 rfl (Nat.le_of_ble_eq_true rfl) rfl ?_
        refine R_goto 5 dX2_litAt_34 rfl ?_
        exact ih (r + 1) (by omega) (by omega)
theorem c_Night_litAt {h : xH} {b c N R D P : Nat} {F : xF} {Q : xQ} (H : x_House h b N R D P F) (hB : x_HB N R D P F) (HN : x_Night h c R P Q) (hQ : x_QB N R P Q) {t : Nat} (ht : t ≤ 20) : x_Met m_X2_litAt [.ref c, .ref b, .int (nI t)] h (x_pr (s_set R (s_lit Q t)) h) := by

  refine x_Met.of (lo := [some (.ref c), some (.ref b), some (.int (nI t)), none, none]) (by decide) rfl rfl rfl ?_
  refine R_iconst (nI 0) dX2_litAt_0 rfl ?_
  refine R_istore_n dX2_litAt_1 (Nat.le_of_ble_eq_true rfl) rfl ?_
  refine R_iconst (nI 0) dX2_litAt_2 rfl ?_
  refine R_istore dX2_litAt_3 (Nat.le_of_ble_eq_true rfl) rfl ?_
  exact c_Night_litAt_loop H hB HN hQ ht (R + 1) 0 (by omega) (by omega)
theorem c_Night_hears {h : xH} {b c N R D P : Nat} {F : xF} {Q : xQ} (H : x_House h b N R D P F) (hB : x_HB N R D P F) (HN : x_Night h c R P Q) (hQ : x_QB N R P Q) {p : Nat} (hp : p < P) : x_Met m_X2_hears [.ref c, .ref b, .int (nI p)] h (x_pr (s_set R (s_heard F p (q_pl Q p))) h) := by
  obtain ⟨h2, g0, g1, g2, g3, g4, g5, g6, g7, g8, g9, g10, g11⟩ := id H
  obtain ⟨⟨b1, b2, b3, b4⟩, b5, b6, b7⟩ := id hB
  obtain ⟨h2n, n0, ⟨f1, n1, n1e⟩, n2, ⟨f3, n3, n3e⟩, n4, n5⟩ := id HN
  obtain ⟨u1, u2, u3, u4, u5, u6, u7, u8, u9⟩ := id hQ
  refine x_Met.of (lo := [some (.ref c), some (.ref b), some (.int (nI p))]) (by decide) rfl rfl rfl ?_
  refine R_aload_n dX2_hears_0 rfl ?_
  refine R_iload_n dX2_hears_1 rfl ?_
  refine R_aload_n dX2_hears_2 rfl ?_
  refine R_get dX2_hears_3 f_X2_31 n0 rfl ?_
  refine R_iload_n dX2_hears_6 rfl ?_
  refine R_iald dX2_hears_7 n3 rfl (by omega) (by decide) ?_
  rw [n3e p (by omega)]
  refine R_cV2p (N := m_X1_heardFrom) dX2_hears_8 l_X2_78 i_X1_heardFrom g0 (c_House_heardFrom H hB hp (u6 p hp)) rfl rfl ?_
  exact R_iret dX2_hears_11 rfl rfl rfl x_pr.mk
theorem c_Night_reached {h : xH} {b c N R D P : Nat} {F : xF} {Q : xQ} (H : x_House h b N R D P F) (hB : x_HB N R D P F) (HN : x_Night h c R P Q) (hQ : x_QB N R P Q) {p f t k : Nat} (hp : p < P) (hf : f < R) (ht : t ≤ 20) (hk : k < 4) : x_Met m_X2_reached [.ref c, .ref b, .int (nI p), .int (nI f), .int (nI t), .int (nI k)] h (x_pr (s_set R (s_reach N F Q p f t k (s_wd Q k))) h) := by
  obtain ⟨h2, g0, g1, g2, g3, g4, g5, g6, g7, g8, g9, g10, g11⟩ := id H
  obtain ⟨⟨b1, b2, b3, b4⟩, b5, b6, b7⟩ := id hB
  obtain ⟨h2n, n0, ⟨f1, n1, n1e⟩, n2, ⟨f3, n3, n3e⟩, n4, n5⟩ := id HN
  obtain ⟨u1, u2, u3, u4, u5, u6, u7, u8, u9⟩ := id hQ
  have w1 := b6 p hp
  refine x_Met.of (lo := [some (.ref c), some (.ref b), some (.int (nI p)), some (.int (nI f)), some (.int (nI t)), some (.int (nI k)), none, none]) (by decide) rfl rfl rfl ?_
  refine R_aload_n dX2_reached_0 rfl ?_
  refine R_get dX2_reached_1 f_X2_81 g0 rfl ?_
  refine R_iload_n dX2_reached_4 rfl ?_
  refine R_iald dX2_reached_5 g5 rfl (by omega) (by decide) ?_
  refine R_istore dX2_reached_6 (Nat.le_of_ble_eq_true rfl) rfl ?_
  refine R_aload_n dX2_reached_8 rfl ?_
  refine R_iload dX2_reached_9 rfl ?_
  refine R_cV1p (N := m_X1_isEarly) dX2_reached_11 l_X2_84 i_X1_isEarly g0 (c_House_isEarly H hB ht) rfl rfl ?_
  refine R_ifeqB 31 dX2_reached_14 rfl (fun c_14 => ?_) (fun c_14 => ?_)
  · refine R_iload dX2_reached_31 rfl ?_
    refine R_iconst (nI 3) dX2_reached_33 rfl ?_
    refine R_neN 41 dX2_reached_34 rfl (by omega) (by omega) (fun c_34 => ?_) (fun c_34 => ?_)
    · refine R_iload dX2_reached_41 rfl ?_
      refine R_iconst (nI 4) dX2_reached_43 rfl ?_
      refine R_neN 78 dX2_reached_44 rfl (by omega) (by omega) (fun c_44 => ?_) (fun c_44 => ?_)
      · refine R_iload dX2_reached_78 rfl ?_
        refine R_iconst (nI 1) dX2_reached_80 rfl ?_
        refine R_neN 90 dX2_reached_81 rfl (by omega) (by omega) (fun c_81 => ?_) (fun c_81 => ?_)
        · refine R_aload_n dX2_reached_90 rfl ?_
          refine R_iload_n dX2_reached_91 rfl ?_
          refine R_iload_n dX2_reached_92 rfl ?_
          refine R_cV2p (N := m_X1_heardFrom) dX2_reached_93 l_X2_78 i_X1_heardFrom g0 (c_House_heardFrom H hB hp hf) rfl rfl ?_
          refine R_istore dX2_reached_96 (Nat.le_of_ble_eq_true rfl) rfl ?_
          refine R_iload dX2_reached_98 rfl ?_
          refine R_aload_n dX2_reached_100 rfl ?_
          refine R_aload_n dX2_reached_101 rfl ?_
          refine R_iload dX2_reached_102 rfl ?_
          refine R_cV2p (N := m_X2_litAt) dX2_reached_104 l_X2_87 i_X2_litAt n0 (c_Night_litAt H hB HN hQ ht) rfl rfl ?_
          refine R_iand dX2_reached_107 ?_
          exact R_iret dX2_reached_108 rfl rfl rfl (x_pr.eq (by rw [s_and b2]; exact s_set_cong (fun r hr => by simp [s_reach, s_wd, *])))
        · refine R_iconst (nI 1) dX2_reached_84 rfl ?_
          refine R_iload_n dX2_reached_85 rfl ?_
          refine R_ishl dX2_reached_86 ?_
          refine R_goto 96 dX2_reached_87 rfl ?_
          refine R_istore dX2_reached_96 (Nat.le_of_ble_eq_true rfl) rfl ?_
          refine R_iload dX2_reached_98 rfl ?_
          refine R_aload_n dX2_reached_100 rfl ?_
          refine R_aload_n dX2_reached_101 rfl ?_
          refine R_iload dX2_reached_102 rfl ?_
          refine R_cV2p (N := m_X2_litAt) dX2_reached_104 l_X2_87 i_X2_litAt n0 (c_Night_litAt H hB HN hQ ht) rfl rfl ?_
          refine R_iand dX2_reached_107 ?_
          exact R_iret dX2_reached_108 rfl rfl rfl (x_pr.eq (by rw [s_one b2 hf]; rw [s_and b2]; exact s_set_cong (fun r hr => by simp [s_reach, s_wd, *])))
      · refine R_aload_n dX2_reached_47 rfl ?_
        refine R_iload_n dX2_reached_48 rfl ?_
        refine R_iload dX2_reached_49 rfl ?_
        refine R_cV2p (N := m_X2_isLitAt) dX2_reached_51 l_X2_74 i_X2_isLitAt n0 (c_Night_isLitAt HN b2 hf ht (u5 f hf)) rfl rfl ?_
        refine R_ifeqB 76 dX2_reached_54 rfl (fun c_54 => ?_) (fun c_54 => ?_)
        · refine R_iconst (nI 0) dX2_reached_76 rfl ?_
          exact R_iret dX2_reached_77 rfl rfl rfl (x_pr.eq (by rw [s_none R]; exact s_set_cong (fun r hr => by simp [s_reach, s_wd, *])))
        · refine R_aload_n dX2_reached_57 rfl ?_
          refine R_get dX2_reached_58 f_X2_36 n0 rfl ?_
          refine R_iload dX2_reached_61 rfl ?_
          refine R_aald dX2_reached_63 n4 (by omega) (fun _ => rfl) rfl rfl (by omega) (by decide) (if_pos (by omega)) ?_
          refine R_iload_n dX2_reached_64 rfl ?_
          refine R_iald dX2_reached_65 (n5 _ (by omega)) rfl (by omega) (by decide) ?_
          refine R_iconst (-1) dX2_reached_66 rfl ?_
          refine R_icmpeq 76 dX2_reached_67 rfl (fun c_67 => ?_) (fun c_67 => ?_)
          · refine R_iconst (nI 0) dX2_reached_76 rfl ?_
            exact R_iret dX2_reached_77 rfl rfl rfl (x_pr.eq (by rw [s_none R]; exact s_set_cong (fun r hr => by simp [s_reach, s_wd, *])))
          · refine R_iconst (nI 1) dX2_reached_70 rfl ?_
            refine R_iload_n dX2_reached_71 rfl ?_
            refine R_ishl dX2_reached_72 ?_
            refine R_goto 77 dX2_reached_73 rfl ?_
            exact R_iret dX2_reached_77 rfl rfl rfl (x_pr.eq (by rw [s_one b2 hf]; exact s_set_cong (fun r hr => by simp [s_reach, s_wd, *])))
    · refine R_iconst (nI 1) dX2_reached_37 rfl ?_
      refine R_iload_n dX2_reached_38 rfl ?_
      refine R_ishl dX2_reached_39 ?_
      exact R_iret dX2_reached_40 rfl rfl rfl (x_pr.eq (by rw [s_one b2 hf]; exact s_set_cong (fun r hr => by simp [s_reach, s_wd, *])))
  · refine R_iload dX2_reached_17 rfl ?_
    refine R_iconst (nI 1) dX2_reached_19 rfl ?_
    refine R_eqN 29 dX2_reached_20 rfl (by omega) (by omega) (fun c_20 => ?_) (fun c_20 => ?_)
    · refine R_iconst (nI 0) dX2_reached_29 rfl ?_
      exact R_iret dX2_reached_30 rfl rfl rfl (x_pr.eq (by rw [s_none R]; exact s_set_cong (fun r hr => by simp [s_reach, s_wd, *])))
    · refine R_iload dX2_reached_23 rfl ?_
      refine R_iconst (nI 2) dX2_reached_25 rfl ?_
      refine R_neN 31 dX2_reached_26 rfl (by omega) (by omega) (fun c_26 => ?_) (fun c_26 => ?_)
      · refine R_iload dX2_reached_31 rfl ?_
        refine R_iconst (nI 3) dX2_reached_33 rfl ?_
        refine R_neN 41 dX2_reached_34 rfl (by omega) (by omega) (fun c_34 => ?_) (fun c_34 => ?_)
        · refine R_iload dX2_reached_41 rfl ?_
          refine R_iconst (nI 4) dX2_reached_43 rfl ?_
          refine R_neN 78 dX2_reached_44 rfl (by omega) (by omega) (fun c_44 => ?_) (fun c_44 => ?_)
          · refine R_iload dX2_reached_78 rfl ?_
            refine R_iconst (nI 1) dX2_reached_80 rfl ?_
            refine R_neN 90 dX2_reached_81 rfl (by omega) (by omega) (fun c_81 => ?_) (fun c_81 => ?_)
            · refine R_aload_n dX2_reached_90 rfl ?_
              refine R_iload_n dX2_reached_91 rfl ?_
              refine R_iload_n dX2_reached_92 rfl ?_
              refine R_cV2p (N := m_X1_heardFrom) dX2_reached_93 l_X2_78 i_X1_heardFrom g0 (c_House_heardFrom H hB hp hf) rfl rfl ?_
              refine R_istore dX2_reached_96 (Nat.le_of_ble_eq_true rfl) rfl ?_
              refine R_iload dX2_reached_98 rfl ?_
              refine R_aload_n dX2_reached_100 rfl ?_
              refine R_aload_n dX2_reached_101 rfl ?_
              refine R_iload dX2_reached_102 rfl ?_
              refine R_cV2p (N := m_X2_litAt) dX2_reached_104 l_X2_87 i_X2_litAt n0 (c_Night_litAt H hB HN hQ ht) rfl rfl ?_
              refine R_iand dX2_reached_107 ?_
              exact R_iret dX2_reached_108 rfl rfl rfl (x_pr.eq (by rw [s_and b2]; exact s_set_cong (fun r hr => by simp [s_reach, s_wd, *])))
            · refine R_iconst (nI 1) dX2_reached_84 rfl ?_
              refine R_iload_n dX2_reached_85 rfl ?_
              refine R_ishl dX2_reached_86 ?_
              refine R_goto 96 dX2_reached_87 rfl ?_
              refine R_istore dX2_reached_96 (Nat.le_of_ble_eq_true rfl) rfl ?_
              refine R_iload dX2_reached_98 rfl ?_
              refine R_aload_n dX2_reached_100 rfl ?_
              refine R_aload_n dX2_reached_101 rfl ?_
              refine R_iload dX2_reached_102 rfl ?_
              refine R_cV2p (N := m_X2_litAt) dX2_reached_104 l_X2_87 i_X2_litAt n0 (c_Night_litAt H hB HN hQ ht) rfl rfl ?_
              refine R_iand dX2_reached_107 ?_
              exact R_iret dX2_reached_108 rfl rfl rfl (x_pr.eq (by rw [s_one b2 hf]; rw [s_and b2]; exact s_set_cong (fun r hr => by simp [s_reach, s_wd, *])))
          · refine R_aload_n dX2_reached_47 rfl ?_
            refine R_iload_n dX2_reached_48 rfl ?_
            refine R_iload dX2_reached_49 rfl ?_
            refine R_cV2p (N := m_X2_isLitAt) dX2_reached_51 l_X2_74 i_X2_isLitAt n0 (c_Night_isLitAt HN b2 hf ht (u5 f hf)) rfl rfl ?_
            refine R_ifeqB 76 dX2_reached_54 rfl (fun c_54 => ?_) (fun c_54 => ?_)
            · refine R_iconst (nI 0) dX2_reached_76 rfl ?_
              exact R_iret dX2_reached_77 rfl rfl rfl (x_pr.eq (by rw [s_none R]; exact s_set_cong (fun r hr => by simp [s_reach, s_wd, *])))
            · refine R_aload_n dX2_reached_57 rfl ?_
              refine R_get dX2_reached_58 f_X2_36 n0 rfl ?_
              refine R_iload dX2_reached_61 rfl ?_
              refine R_aald dX2_reached_63 n4 (by omega) (fun _ => rfl) rfl rfl (by omega) (by decide) (if_pos (by omega)) ?_
              refine R_iload_n dX2_reached_64 rfl ?_
              refine R_iald dX2_reached_65 (n5 _ (by omega)) rfl (by omega) (by decide) ?_
              refine R_iconst (-1) dX2_reached_66 rfl ?_
              refine R_icmpeq 76 dX2_reached_67 rfl (fun c_67 => ?_) (fun c_67 => ?_)
              · refine R_iconst (nI 0) dX2_reached_76 rfl ?_
                exact R_iret dX2_reached_77 rfl rfl rfl (x_pr.eq (by rw [s_none R]; exact s_set_cong (fun r hr => by simp [s_reach, s_wd, *])))
              · refine R_iconst (nI 1) dX2_reached_70 rfl ?_
                refine R_iload_n dX2_reached_71 rfl ?_
                refine R_ishl dX2_reached_72 ?_
                refine R_goto 77 dX2_reached_73 rfl ?_
                exact R_iret dX2_reached_77 rfl rfl rfl (x_pr.eq (by rw [s_one b2 hf]; exact s_set_cong (fun r hr => by simp [s_reach, s_wd, *])))
        · refine R_iconst (nI 1) dX2_reached_37 rfl ?_
          refine R_iload_n dX2_reached_38 rfl ?_
          refine R_ishl dX2_reached_39 ?_
          exact R_iret dX2_reached_40 rfl rfl rfl (x_pr.eq (by rw [s_one b2 hf]; exact s_set_cong (fun r hr => by simp [s_reach, s_wd, *])))
      · refine R_iconst (nI 0) dX2_reached_29 rfl ?_
        exact R_iret dX2_reached_30 rfl rfl rfl (x_pr.eq (by rw [s_none R]; exact s_set_cong (fun r hr => by simp [s_reach, s_wd, *])))
theorem c_Night_counts_loop {h : xH} {b c N R D P : Nat} {F : xF} {Q : xQ} (H : x_House h b N R D P F) (hB : x_HB N R D P F) (HN : x_Night h c R P Q) (hQ : x_QB N R P Q) {p : Nat} (hp : p < P) : ∀ (n r : Nat), r ≤ R → R + 1 ≤ r + n → x_Rn m_X2_counts 29 [some (.ref c), some (.ref b), some (.int (nI p)), some (.int (s_set R (fun i => s_reach N F Q p (q_pl Q p) (q_hr Q) 0 (s_wd Q 0) i && (decide (r ≤ i) || decide (¬ q_la Q 0 i = nI (s_name F p 0)))))), some (.int (nI (s_name F p 0))), some (.int (nI r))] [] h (0, 0) (x_pr (s_set R (s_counts N F Q p)) h) := by
  obtain ⟨h2, g0, g1, g2, g3, g4, g5, g6, g7, g8, g9, g10, g11⟩ := id H
  obtain ⟨⟨b1, b2, b3, b4⟩, b5, b6, b7⟩ := id hB
  obtain ⟨h2n, n0, ⟨f1, n1, n1e⟩, n2, ⟨f3, n3, n3e⟩, n4, n5⟩ := id HN
  obtain ⟨u1, u2, u3, u4, u5, u6, u7, u8, u9⟩ := id hQ
  intro n
  induction n with
  | zero => intro r h1 h3; omega
  | succ n ih =>
    intro r h1 h3
    refine R_iload dX2_counts_29 rfl ?_
    refine R_aload_n dX2_counts_31 rfl ?_
    refine R_get dX2_counts_32 f_X2_63 g0 rfl ?_
    refine R_geN 67 dX2_counts_35 rfl (by omega) (by omega) (fun c_35 => ?_) (fun c_35 => ?_)
    · have e : r = R := by omega
      subst e
      refine R_iload_n dX2_counts_67 rfl ?_
      exact R_iret dX2_counts_68 rfl rfl rfl (x_pr.eq (s_set_cong (fun i hi => by simp [s_counts, Nat.not_le.mpr hi])))
    · have hr : r < R := by omega
      refine R_aload_n dX2_counts_38 rfl ?_
      refine R_get dX2_counts_39 f_X2_36 n0 rfl ?_
      refine R_iconst (nI 0) dX2_counts_42 rfl ?_
      refine R_aald dX2_counts_43 n4 (by omega) (fun _ => rfl) rfl rfl (by omega) (by decide) (if_pos (by omega)) ?_
      refine R_iload dX2_counts_44 rfl ?_
      refine R_iald dX2_counts_46 (n5 _ (by omega)) rfl (by omega) (by decide) ?_
      refine R_iload dX2_counts_47 rfl ?_
      refine R_icmpne 61 dX2_counts_49 rfl (fun c_49 => ?_) (fun c_49 => ?_)
      · rw [show s_set R (fun i => s_reach N F Q p (q_pl Q p) (q_hr Q) 0 (s_wd Q 0) i && (decide (r ≤ i) || decide (¬ q_la Q 0 i = nI (s_name F p 0)))) = s_set R (fun i => s_reach N F Q p (q_pl Q p) (q_hr Q) 0 (s_wd Q 0) i && (decide ((r + 1) ≤ i) || decide (¬ q_la Q 0 i = nI (s_name F p 0)))) from s_set_cong (fun i hi => by
            by_cases e : i = r
            · subst e; simp [c_49]
            · have e1 : decide (r + 1 ≤ i) = decide (r ≤ i) := by simp; omega
              rw [e1])]
        refine R_iincN dX2_counts_61 rfl (Nat.le_of_ble_eq_true rfl) rfl ?_
        refine R_goto 29 dX2_counts_64 rfl ?_
        exact ih (r + 1) (by omega) (by omega)
      · refine R_iload_n dX2_counts_52 rfl ?_
        refine R_iconst (nI 1) dX2_counts_53 rfl ?_
        refine R_iload dX2_counts_54 rfl ?_
        refine R_ishl dX2_counts_56 ?_
        refine R_iconst (-1) dX2_counts_57 rfl ?_
        refine R_ixor dX2_counts_58 ?_
        refine R_iand dX2_counts_59 ?_
        rw [s_clear b2 _ (by omega), show s_set R (fun i => (s_reach N F Q p (q_pl Q p) (q_hr Q) 0 (s_wd Q 0) i && (decide (r ≤ i) || decide (¬ q_la Q 0 i = nI (s_name F p 0)))) && decide (¬ i = r)) = s_set R (fun i => s_reach N F Q p (q_pl Q p) (q_hr Q) 0 (s_wd Q 0) i && (decide ((r + 1) ≤ i) || decide (¬ q_la Q 0 i = nI (s_name F p 0)))) from s_set_cong (fun i hi => by
            by_cases e : i = r
            · subst e; simp [c_49]
            · have e1 : decide (r + 1 ≤ i) = decide (r ≤ i) := by simp; omega
              simp [e, e1])]
        refine R_istore_n dX2_counts_60 (Nat.le_of_ble_eq_true rfl) rfl ?_
        refine R_iincN dX2_counts_61 rfl (Nat.le_of_ble_eq_true rfl) rfl ?_
        refine R_goto 29 dX2_counts_64 rfl ?_
        exact ih (r + 1) (by omega) (by omega)
theorem c_Night_counts {h : xH} {b c N R D P : Nat} {F : xF} {Q : xQ} (H : x_House h b N R D P F) (hB : x_HB N R D P F) (HN : x_Night h c R P Q) (hQ : x_QB N R P Q) {p : Nat} (hp : p < P) : x_Met m_X2_counts [.ref c, .ref b, .int (nI p)] h (x_pr (s_set R (s_counts N F Q p)) h) := by
  obtain ⟨h2, g0, g1, g2, g3, g4, g5, g6, g7, g8, g9, g10, g11⟩ := id H
  obtain ⟨⟨b1, b2, b3, b4⟩, b5, b6, b7⟩ := id hB
  obtain ⟨h2n, n0, ⟨f1, n1, n1e⟩, n2, ⟨f3, n3, n3e⟩, n4, n5⟩ := id HN
  obtain ⟨u1, u2, u3, u4, u5, u6, u7, u8, u9⟩ := id hQ
  refine x_Met.of (lo := [some (.ref c), some (.ref b), some (.int (nI p)), none, none, none]) (by decide) rfl rfl rfl ?_
  refine R_aload_n dX2_counts_0 rfl ?_
  refine R_aload_n dX2_counts_1 rfl ?_
  refine R_iload_n dX2_counts_2 rfl ?_
  refine R_aload_n dX2_counts_3 rfl ?_
  refine R_get dX2_counts_4 f_X2_31 n0 rfl ?_
  refine R_iload_n dX2_counts_7 rfl ?_
  refine R_iald dX2_counts_8 n3 rfl (by omega) (by decide) ?_
  rw [n3e p (by omega)]
  refine R_aload_n dX2_counts_9 rfl ?_
  refine R_get dX2_counts_10 f_X2_9 n0 rfl ?_
  refine R_iconst (nI 0) dX2_counts_13 rfl ?_
  refine R_cV5p (N := m_X2_reached) dX2_counts_14 l_X2_91 i_X2_reached n0 (c_Night_reached H hB HN hQ hp (u6 p hp) u1 (by omega)) rfl rfl ?_
  rw [show s_set R (s_reach N F Q p (q_pl Q p) (q_hr Q) 0 (s_wd Q 0)) = s_set R (fun i => s_reach N F Q p (q_pl Q p) (q_hr Q) 0 (s_wd Q 0) i && (decide (0 ≤ i) || decide (¬ q_la Q 0 i = nI (s_name F p 0)))) from s_set_cong (fun i hi => by simp)]
  refine R_istore_n dX2_counts_17 (Nat.le_of_ble_eq_true rfl) rfl ?_
  refine R_aload_n dX2_counts_18 rfl ?_
  refine R_iload_n dX2_counts_19 rfl ?_
  refine R_iconst (nI 0) dX2_counts_20 rfl ?_
  refine R_cV2p (N := m_X1_nameOf) dX2_counts_21 l_X2_95 i_X1_nameOf g0 (c_House_nameOf H hB hp (by omega)) rfl rfl ?_
  refine R_istore dX2_counts_24 (Nat.le_of_ble_eq_true rfl) rfl ?_
  refine R_iconst (nI 0) dX2_counts_26 rfl ?_
  refine R_istore dX2_counts_27 (Nat.le_of_ble_eq_true rfl) rfl ?_
  exact c_Night_counts_loop H hB HN hQ hp (R + 1) 0 (by omega) (by omega)
theorem c_Night_will {h : xH} {c R P : Nat} {Q : xQ} (HN : x_Night h c R P Q) {r k : Nat} (hr : r < 6) (hk : k < 4) : x_Met m_X2_will [.ref c, .int (nI r), .int (nI k)] h (x_pr (s_will Q r k) h) := by
  obtain ⟨h2n, n0, ⟨f1, n1, n1e⟩, n2, ⟨f3, n3, n3e⟩, n4, n5⟩ := id HN
  refine x_Met.of (lo := [some (.ref c), some (.int (nI r)), some (.int (nI k))]) (by decide) rfl rfl rfl ?_
  refine R_aload_n dX2_will_0 rfl ?_
  refine R_get dX2_will_1 f_X2_36 n0 rfl ?_
  refine R_iload_n dX2_will_4 rfl ?_
  refine R_aald dX2_will_5 n4 (by omega) (fun _ => rfl) rfl rfl (by omega) (by decide) (if_pos (by omega)) ?_
  refine R_iload_n dX2_will_6 rfl ?_
  refine R_iald dX2_will_7 (n5 _ (by omega)) rfl (by omega) (by decide) ?_
  refine R_iconst (-1) dX2_will_8 rfl ?_
  refine R_icmpeq 23 dX2_will_9 rfl (fun c_9 => ?_) (fun c_9 => ?_)
  · refine R_aload_n dX2_will_23 rfl ?_
    refine R_get dX2_will_24 f_X2_28 n0 rfl ?_
    refine R_iload_n dX2_will_27 rfl ?_
    refine R_iald dX2_will_28 n2 rfl (by omega) (by decide) ?_
    exact R_iret dX2_will_29 rfl rfl rfl (x_pr.eq (by simp [s_will, *]))
  · refine R_aload_n dX2_will_12 rfl ?_
    refine R_get dX2_will_13 f_X2_36 n0 rfl ?_
    refine R_iload_n dX2_will_16 rfl ?_
    refine R_aald dX2_will_17 n4 (by omega) (fun _ => rfl) rfl rfl (by omega) (by decide) (if_pos (by omega)) ?_
    refine R_iload_n dX2_will_18 rfl ?_
    refine R_iald dX2_will_19 (n5 _ (by omega)) rfl (by omega) (by decide) ?_
    refine R_goto 29 dX2_will_20 rfl ?_
    exact R_iret dX2_will_29 rfl rfl rfl (x_pr.eq (by simp [s_will, *]))
