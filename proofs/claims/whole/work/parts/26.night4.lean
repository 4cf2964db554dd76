theorem x_House.set {h : xH} {b N R D P a : Nat} {F : xF} (H : x_House h b N R D P F) (e : xC) (ha : a < b ∨ b + 22 ≤ a) : x_House (h.set a e) b N R D P F := H.kept (fun q q1 q2 => List.getElem?_set_ne (by omega))
theorem x_Night.set {h : xH} {b R P a : Nat} {Q : xQ} (H : x_Night h b R P Q) (e : xC) (ha : a < b ∨ b + 9 ≤ a) : x_Night (h.set a e) b R P Q := H.kept (fun q q1 q2 => List.getElem?_set_ne (by omega))
theorem c_Night_passHour_loop {h : xH} {b c N R D P : Nat} {F : xF} {Q : xQ} (H : x_House h b N R D P F) (hB : x_HB N R D P F) (HN : x_Night h c R P Q) (hQ : x_QB N R P Q) (hdis : b + 22 ≤ c ∨ c + 9 ≤ b) (hN : N ≤ q_hr Q + 1) : ∀ (n r : Nat), r ≤ R → R + 1 ≤ r + n → ∀ g : xH, x_Night g c R P (Q.1 + 1, Q.2.1, Q.2.2.1, Q.2.2.2.1, Q.2.2.2.2.1, Q.2.2.2.2.2.1, s_owst Q r, Q.2.2.2.2.2.2.2) → x_fr h g c 9 → x_Rn m_X2_passHour 24 [some (.ref c), some (.ref b), some (.int (nI r))] [] g (0, 0) (x_vd (fun h' => x_Night h' c R P (s_pass N R Q) ∧ x_fr h h' c 9)) := by
  obtain ⟨⟨b1, b2, b3, b4⟩, b5, b6, b7⟩ := id hB
  obtain ⟨u1, u2, u3, u4, u5, u6, u7, u8, u9⟩ := id hQ
  intro n
  induction n with
  | zero => intro r h1 h3; omega
  | succ n ih =>
    intro r h1 h3 g HG FR
    have H := H.kept (fun q q1 q2 => FR q (by omega))
    obtain ⟨h2, g0, g1, g2, g3, g4, g5, g6, g7, g8, g9, g10, g11⟩ := id H
    obtain ⟨h2n, n0, ⟨f1, n1, n1e⟩, n2, ⟨f3, n3, n3e⟩, n4, n5⟩ := id HG
    refine R_iload_n dX2_passHour_24 rfl ?_
    refine R_aload_n dX2_passHour_25 rfl ?_
    refine R_get dX2_passHour_26 f_X2_63 g0 rfl ?_
    refine R_geN 50 dX2_passHour_29 rfl (by omega) (by omega) (fun c_29 => ?_) (fun c_29 => ?_)
    · have e : r = R := by omega
      subst e
      refine R_aload_n dX2_passHour_50 rfl ?_
      refine R_cV0v (N := m_X2_clearNight) dX2_passHour_51 l_X2_57 i_X2_clearNight n0 (c_Night_clearNight HG) rfl rfl (fun h51 q_51 => ?_)
      obtain ⟨HG, FR2⟩ := q_51
      have FR := FR.trans FR2
      obtain ⟨h2n, n0, ⟨f1, n1, n1e⟩, n2, ⟨f3, n3, n3e⟩, n4, n5⟩ := id HG
      refine R_aload_n dX2_passHour_54 rfl ?_
      refine R_iconst (nI 0) dX2_passHour_55 rfl ?_
      refine R_put dX2_passHour_56 f_X2_9 n0 (Nat.le_of_ble_eq_true rfl) (fun _ => rfl) (fun _ => rfl) ?_
      simp only [List.set_cons_succ, List.set_cons_zero]
      have HG := HG.obj 0 (q_nt Q) (q_sy Q) (fun _ => false)
      have FR := FR.set (a := c) (.inr (2, [.int (nI 0), .int (nI (q_nt Q)), .int (nI (q_sy Q)), .int (s_set 6 (fun _ => false)), .ref (c + 1), .ref (c + 2), .ref (c + 3), .ref (c + 4)])) (by omega) (by omega)
      obtain ⟨h2n, n0, ⟨f1, n1, n1e⟩, n2, ⟨f3, n3, n3e⟩, n4, n5⟩ := id HG
      refine R_aload_n dX2_passHour_59 rfl ?_
      refine R_dup dX2_passHour_60 rfl ?_
      refine R_get dX2_passHour_61 f_X2_15 n0 rfl ?_
      refine R_iconst (nI 1) dX2_passHour_64 rfl ?_
      refine R_iaddN dX2_passHour_65 ?_
      refine R_put dX2_passHour_66 f_X2_15 n0 (Nat.le_of_ble_eq_true rfl) (fun _ => rfl) (fun _ => rfl) ?_
      exact R_vret dX2_passHour_69 rfl rfl rfl ⟨rfl, by rw [s_pass, if_neg (by omega)]; exact HG.obj 0 (q_nt Q + 1) (q_sy Q) (fun _ => false), FR.set _ (by omega) (by omega)⟩
    · have hr : r < R := by omega
      refine R_aload_n dX2_passHour_32 rfl ?_
      refine R_get dX2_passHour_33 f_X2_28 n0 rfl ?_
      refine R_iload_n dX2_passHour_36 rfl ?_
      refine R_aload_n dX2_passHour_37 rfl ?_
      refine R_iload_n dX2_passHour_38 rfl ?_
      refine R_iconst (nI 0) dX2_passHour_39 rfl ?_
      refine R_cV2p (N := m_X2_will) dX2_passHour_40 l_X2_66 i_X2_will n0 (c_Night_will HG (by omega) (by omega)) rfl rfl ?_
      rw [show s_will (Q.1 + 1, Q.2.1, Q.2.2.1, Q.2.2.2.1, Q.2.2.2.2.1, Q.2.2.2.2.2.1, s_owst Q r, Q.2.2.2.2.2.2.2) r 0 = s_will Q r 0 from by
          show (if q_la Q 0 r = -1 then s_owst Q r r else q_la Q 0 r) = s_will Q r 0
          rw [s_owst, if_neg (Nat.lt_irrefl r)]
          rfl]
      refine R_iast dX2_passHour_43 n2 (by omega) rfl (by omega) (by decide) ?_
      rw [show upd (s_owst Q r) r (s_will Q r 0) = s_owst Q (r + 1) from funext (fun j => by
          by_cases e : j = r
          · subst e; simp [upd, s_owst]
          · have e1 : (j < r + 1) = (j < r) := by simp; omega
            simp [upd, s_owst, e, e1])]
      refine R_iincN dX2_passHour_44 rfl (Nat.le_of_ble_eq_true rfl) rfl ?_
      refine R_goto 24 dX2_passHour_47 rfl ?_
      exact ih (r + 1) (by omega) (by omega) _ (HG.ow _) (FR.set _ (by omega) (by omega))
theorem c_Night_passHour {h : xH} {b c N R D P : Nat} {F : xF} {Q : xQ} (H : x_House h b N R D P F) (hB : x_HB N R D P F) (HN : x_Night h c R P Q) (hQ : x_QB N R P Q) (hdis : b + 22 ≤ c ∨ c + 9 ≤ b) : x_Met m_X2_passHour [.ref c, .ref b] h (x_vd (fun h' => x_Night h' c R P (s_pass N R Q) ∧ x_fr h h' c 9)) := by
  obtain ⟨h2, g0, g1, g2, g3, g4, g5, g6, g7, g8, g9, g10, g11⟩ := id H
  obtain ⟨⟨b1, b2, b3, b4⟩, b5, b6, b7⟩ := id hB
  obtain ⟨h2n, n0, ⟨f1, n1, n1e⟩, n2, ⟨f3, n3, n3e⟩, n4, n5⟩ := id HN
  obtain ⟨u1, u2, u3, u4, u5, u6, u7, u8, u9⟩ := id hQ
  have HNh := HN
  have Hh := H
  refine x_Met.of (lo := [some (.ref c), some (.ref b), none]) (by decide) rfl rfl rfl ?_
  refine R_aload_n dX2_passHour_0 rfl ?_
  refine R_dup dX2_passHour_1 rfl ?_
  refine R_get dX2_passHour_2 f_X2_9 n0 rfl ?_
  refine R_iconst (nI 1) dX2_passHour_5 rfl ?_
  refine R_iaddN dX2_passHour_6 ?_
  refine R_put dX2_passHour_7 f_X2_9 n0 (Nat.le_of_ble_eq_true rfl) (fun _ => rfl) (fun _ => rfl) ?_
  simp only [List.set_cons_succ, List.set_cons_zero]
  have HN := HN.obj (q_hr Q + 1) (q_nt Q) (q_sy Q) (q_ou Q)
  have H := H.set (a := c) (.inr (2, [.int (nI (q_hr Q + 1)), .int (nI (q_nt Q)), .int (nI (q_sy Q)), .int (s_set 6 (q_ou Q)), .ref (c + 1), .ref (c + 2), .ref (c + 3), .ref (c + 4)])) (by omega)
  have FR := (x_fr.rf h c 9).set (a := c) (.inr (2, [.int (nI (q_hr Q + 1)), .int (nI (q_nt Q)), .int (nI (q_sy Q)), .int (s_set 6 (q_ou Q)), .ref (c + 1), .ref (c + 2), .ref (c + 3), .ref (c + 4)])) (by omega) (by omega)
  obtain ⟨h2, g0, g1, g2, g3, g4, g5, g6, g7, g8, g9, g10, g11⟩ := id H
  obtain ⟨h2n, n0, ⟨f1, n1, n1e⟩, n2, ⟨f3, n3, n3e⟩, n4, n5⟩ := id HN
  have n0 : (h.set c (.inr (2, [.int (nI (q_hr Q + 1)), .int (nI (q_nt Q)), .int (nI (q_sy Q)), .int (s_set 6 (q_ou Q)), .ref (c + 1), .ref (c + 2), .ref (c + 3), .ref (c + 4)])))[c]? = some (.inr (2, [.int (nI (q_hr Q + 1)), .int (nI (q_nt Q)), .int (nI (q_sy Q)), .int (s_set 6 (q_ou Q)), .ref (c + 1), .ref (c + 2), .ref (c + 3), .ref (c + 4)])) := n0
  refine R_aload_n dX2_passHour_10 rfl ?_
  refine R_get dX2_passHour_11 f_X2_9 n0 rfl ?_
  refine R_aload_n dX2_passHour_14 rfl ?_
  refine R_get dX2_passHour_15 f_X2_60 g0 rfl ?_
  refine R_geN 22 dX2_passHour_18 rfl (by omega) (by omega) (fun c_18 => ?_) (fun c_18 => ?_)
  · refine R_iconst (nI 0) dX2_passHour_22 rfl ?_
    refine R_istore_n dX2_passHour_23 (Nat.le_of_ble_eq_true rfl) rfl ?_
    exact c_Night_passHour_loop Hh hB HNh hQ hdis (by omega) (R + 1) 0 (by omega) (by omega) _ (HN.oweq (funext (fun j => (if_neg (by omega)).symm))) FR
  · exact R_vret dX2_passHour_21 rfl rfl rfl ⟨rfl, by rw [s_pass, if_pos (by omega)]; exact HN, FR⟩
theorem s_sayst_end (N R : Nat) (F : xF) (Q : xQ) (p k i j : Nat) : s_sayst N R F Q p k R i j = s_sayst N R F Q p (k + 1) 0 i j := by
  unfold s_sayst
  by_cases h1 : i < k
  · rw [if_pos (Or.inl h1), if_pos (Or.inl (by omega))]
  · by_cases h2 : i = k
    · subst h2
      rw [if_pos (c := i < i + 1 ∨ i = i + 1 ∧ j < 0) (Or.inl (by omega))]
      by_cases h3 : j < R
      · rw [if_pos (Or.inr ⟨rfl, h3⟩)]
      · rw [if_neg (by omega), s_said, if_neg (by simp [h3])]
    · rw [if_neg (by omega), if_neg (by omega)]
theorem s_sayst_no {N R : Nat} {F : xF} {Q : xQ} {p k r : Nat} (hc : (decide (r < R) && s_reach N F Q p (q_pl Q p) (q_hr Q) k (s_wd Q k) r) = false) (i j : Nat) : s_sayst N R F Q p k r i j = s_sayst N R F Q p k (r + 1) i j := by
  unfold s_sayst
  by_cases h1 : i < k
  · rw [if_pos (Or.inl h1), if_pos (Or.inl h1)]
  · by_cases h2 : i = k ∧ j = r
    · obtain ⟨rfl, rfl⟩ := h2
      rw [if_neg (by omega), if_pos (Or.inr ⟨rfl, by omega⟩), s_said, hc]
      rfl
    · by_cases h3 : i = k ∧ j < r
      · rw [if_pos (Or.inr h3), if_pos (Or.inr (by omega))]
      · rw [if_neg (by omega), if_neg (by omega)]
theorem s_sayst_yes {N R : Nat} {F : xF} {Q : xQ} {p k r : Nat} (hc : (decide (r < R) && s_reach N F Q p (q_pl Q p) (q_hr Q) k (s_wd Q k) r) = true) (i : Nat) : (if i = k then upd (s_sayst N R F Q p k r k) r (nI (s_name F p k)) else s_sayst N R F Q p k r i) = s_sayst N R F Q p k (r + 1) i := by
  funext j
  by_cases h1 : i = k
  · subst h1
    rw [if_pos rfl]
    by_cases h2 : j = r
    · subst h2
      simp only [upd, if_pos]
      unfold s_sayst
      rw [if_pos (Or.inr ⟨rfl, by omega⟩), s_said, hc]
      rfl
    · simp only [upd, if_neg h2]
      unfold s_sayst
      by_cases h3 : j < r
      · rw [if_pos (Or.inr ⟨rfl, h3⟩), if_pos (Or.inr ⟨rfl, by omega⟩)]
      · rw [if_neg (by omega), if_neg (by omega)]
  · rw [if_neg h1]
    unfold s_sayst
    by_cases h3 : i < k
    · rw [if_pos (Or.inl h3), if_pos (Or.inl h3)]
    · rw [if_neg (by omega), if_neg (by omega)]
theorem c_Night_speak_in {h : xH} {b c N R D P : Nat} {F : xF} {Q : xQ} (H : x_House h b N R D P F) (hB : x_HB N R D P F) (HN : x_Night h c R P Q) (hQ : x_QB N R P Q) (hdis : b + 22 ≤ c ∨ c + 9 ≤ b) {p k : Nat} (hp : p < P) (hk : k < 4) (ko : ∀ (k' : Nat) (g : xH), k' = k + 1 → x_Night g c R P (q_setla Q (s_sayst N R F Q p k' 0)) → x_fr h g c 9 → ∀ v4 v5 : Option Value, x_Rn m_X2_speak 2 [some (.ref c), some (.ref b), some (.int (nI p)), some (.int (nI k')), v4, v5] [] g (0, 0) (x_vd (fun h' => x_Night h' c R P (s_speak N R F Q p) ∧ x_fr h h' c 9))) : ∀ (n r : Nat), r ≤ R → R + 1 ≤ r + n → ∀ g : xH, x_Night g c R P (q_setla Q (s_sayst N R F Q p k r)) → x_fr h g c 9 → x_Rn m_X2_speak 29 [some (.ref c), some (.ref b), some (.int (nI p)), some (.int (nI k)), some (.int (s_set R (s_reach N F Q p (q_pl Q p) (q_hr Q) k (s_wd Q k)))), some (.int (nI r))] [] g (0, 0) (x_vd (fun h' => x_Night h' c R P (s_speak N R F Q p) ∧ x_fr h h' c 9)) := by
  obtain ⟨⟨b1, b2, b3, b4⟩, b5, b6, b7⟩ := id hB
  obtain ⟨u1, u2, u3, u4, u5, u6, u7, u8, u9⟩ := id hQ
  intro n
  induction n with
  | zero => intro r h1 h3; omega
  | succ n ih =>
    intro r h1 h3 g HG FR
    have H := H.kept (fun q q1 q2 => FR q (by omega))
    obtain ⟨h2, g0, g1, g2, g3, g4, g5, g6, g7, g8, g9, g10, g11⟩ := id H
    obtain ⟨h2n, n0, ⟨f1, n1, n1e⟩, n2, ⟨f3, n3, n3e⟩, n4, n5⟩ := id HG
    refine R_iload dX2_speak_29 rfl ?_
    refine R_aload_n dX2_speak_31 rfl ?_
    refine R_get dX2_speak_32 f_X2_63 g0 rfl ?_
    refine R_geN 69 dX2_speak_35 rfl (by omega) (by omega) (fun c_35 => ?_) (fun c_35 => ?_)
    · have e : r = R := by omega
      subst e
      have HG := HG.laeq (la := s_sayst N r F Q p (k + 1) 0) (fun i hi => funext (fun j => s_sayst_end N r F Q p k i j))
      refine R_iincN dX2_speak_69 rfl (Nat.le_of_ble_eq_true rfl) rfl ?_
      refine R_goto 2 dX2_speak_72 rfl ?_
      exact ko (k + 1) _ rfl HG FR _ _
    · have hr : r < R := by omega
      refine R_iload dX2_speak_38 rfl ?_
      refine R_iload dX2_speak_40 rfl ?_
      refine R_ishr dX2_speak_42 ?_
      refine R_iconst (nI 1) dX2_speak_43 rfl ?_
      refine R_iand dX2_speak_44 ?_
      rw [s_bit b2 _ (by omega)]
      refine R_ifeqB 63 dX2_speak_45 rfl (fun c_45 => ?_) (fun c_45 => ?_)
      · have HG := HG.laeq (la := s_sayst N R F Q p k (r + 1)) (fun i hi => funext (fun j => s_sayst_no c_45 i j))
        refine R_iincN dX2_speak_63 rfl (Nat.le_of_ble_eq_true rfl) rfl ?_
        refine R_goto 29 dX2_speak_66 rfl ?_
        exact ih (r + 1) (by omega) (by omega) _ HG FR
      · refine R_aload_n dX2_speak_48 rfl ?_
        refine R_get dX2_speak_49 f_X2_36 n0 rfl ?_
        refine R_iload_n dX2_speak_52 rfl ?_
        refine R_aald dX2_speak_53 n4 (by omega) (fun _ => rfl) rfl rfl (by omega) (by decide) (if_pos (by omega)) ?_
        refine R_iload dX2_speak_54 rfl ?_
        refine R_aload_n dX2_speak_56 rfl ?_
        refine R_iload_n dX2_speak_57 rfl ?_
        refine R_iload_n dX2_speak_58 rfl ?_
        refine R_cV2p (N := m_X1_nameOf) dX2_speak_59 l_X2_95 i_X1_nameOf g0 (c_House_nameOf H hB hp hk) rfl rfl ?_
        refine R_iast dX2_speak_62 (n5 _ (by omega)) (by omega) rfl (by omega) (by decide) ?_
        have HG2 := (HG.la (k := k) hk (upd (s_sayst N R F Q p k r k) r (nI (s_name F p k)))).laeq (la := s_sayst N R F Q p k (r + 1)) (fun i hi => s_sayst_yes c_45 i)
        refine R_iincN dX2_speak_63 rfl (Nat.le_of_ble_eq_true rfl) rfl ?_
        refine R_goto 29 dX2_speak_66 rfl ?_
        exact ih (r + 1) (by omega) (by omega) _ HG2 (FR.set _ (by omega) (by omega))
theorem s_said_B {N R D P : Nat} {F : xF} {Q : xQ} (hB : x_HB N R D P F) (hQ : x_QB N R P Q) {p : Nat} (hp : p < P) {k r : Nat} (hk : k < 4) (hr : r < R) : s_said N R F Q p k r = -1 ∨ ∃ q, q < 6 ∧ s_said N R F Q p k r = nI q := by
  unfold s_said
  split
  · refine Or.inr ⟨_, ?_, rfl⟩
    have := hB.1.2.2.2
    unfold s_name
    split <;> omega
  · exact hQ.2.2.2.2.2.2.2.2 k r hk hr
theorem s_sayst_B {N R D P : Nat} {F : xF} {Q : xQ} (hB : x_HB N R D P F) (hQ : x_QB N R P Q) {p : Nat} (hp : p < P) {a b : Nat} (k r : Nat) (hk : k < 4) (hr : r < R) : s_sayst N R F Q p a b k r = -1 ∨ ∃ q, q < 6 ∧ s_sayst N R F Q p a b k r = nI q := by
  unfold s_sayst
  split
  · exact s_said_B hB hQ hp hk hr
  · exact hQ.2.2.2.2.2.2.2.2 k r hk hr
theorem x_QB.la {N R P : Nat} {Q : xQ} {la : Nat → Nat → Int32} (hQ : x_QB N R P Q) (h : ∀ k r, k < 4 → r < R → la k r = -1 ∨ ∃ q, q < 6 ∧ la k r = nI q) : x_QB N R P (q_setla Q la) := ⟨hQ.1, hQ.2.1, hQ.2.2.1, hQ.2.2.2.1, hQ.2.2.2.2.1, hQ.2.2.2.2.2.1, hQ.2.2.2.2.2.2.1, hQ.2.2.2.2.2.2.2.1, h⟩
theorem c_Night_speak_out {h : xH} {b c N R D P : Nat} {F : xF} {Q : xQ} (H : x_House h b N R D P F) (hB : x_HB N R D P F) (HN : x_Night h c R P Q) (hQ : x_QB N R P Q) (hdis : b + 22 ≤ c ∨ c + 9 ≤ b) {p : Nat} (hp : p < P) : ∀ (n k : Nat), k ≤ 4 → 5 ≤ k + n → ∀ g : xH, x_Night g c R P (q_setla Q (s_sayst N R F Q p k 0)) → x_fr h g c 9 → ∀ v4 v5 : Option Value, x_Rn m_X2_speak 2 [some (.ref c), some (.ref b), some (.int (nI p)), some (.int (nI k)), v4, v5] [] g (0, 0) (x_vd (fun h' => x_Night h' c R P (s_speak N R F Q p) ∧ x_fr h h' c 9)) := by
  obtain ⟨⟨b1, b2, b3, b4⟩, b5, b6, b7⟩ := id hB
  obtain ⟨u1, u2, u3, u4, u5, u6, u7, u8, u9⟩ := id hQ
  have Hh := H
  intro n
  induction n with
  | zero => intro k h1 h3; omega
  | succ n ih =>
    intro k h1 h3 g HG FR v4 v5
    have H := H.kept (fun q q1 q2 => FR q (by omega))
    obtain ⟨h2, g0, g1, g2, g3, g4, g5, g6, g7, g8, g9, g10, g11⟩ := id H
    obtain ⟨h2n, n0, ⟨f1, n1, n1e⟩, n2, ⟨f3, n3, n3e⟩, n4, n5⟩ := id HG
    refine R_iload_n dX2_speak_2 rfl ?_
    refine R_iconst (nI 4) dX2_speak_3 rfl ?_
    refine R_geN 75 dX2_speak_4 rfl (by omega) (by omega) (fun c_4 => ?_) (fun c_4 => ?_)
    · have e : k = 4 := by omega
      subst e
      refine R_aload_n dX2_speak_75 rfl ?_
      refine R_dup dX2_speak_76 rfl ?_
      refine R_get dX2_speak_77 f_X2_18 n0 rfl ?_
      refine R_iconst (nI 1) dX2_speak_80 rfl ?_
      refine R_iaddN dX2_speak_81 ?_
      refine R_put dX2_speak_82 f_X2_18 n0 (Nat.le_of_ble_eq_true rfl) (fun _ => rfl) (fun _ => rfl) ?_
      exact R_vret dX2_speak_85 rfl rfl rfl ⟨rfl, (HG.laeq (la := s_said N R F Q p) (fun i hi => funext (fun j => if_pos (Or.inl (by omega))))).obj (q_hr Q) (q_nt Q) (q_sy Q + 1) (q_ou Q), FR.set _ (by omega) (by omega)⟩
    · refine R_aload_n dX2_speak_7 rfl ?_
      refine R_aload_n dX2_speak_8 rfl ?_
      refine R_iload_n dX2_speak_9 rfl ?_
      refine R_aload_n dX2_speak_10 rfl ?_
      refine R_get dX2_speak_11 f_X2_31 n0 rfl ?_
      refine R_iload_n dX2_speak_14 rfl ?_
      refine R_iald dX2_speak_15 n3 rfl (by omega) (by decide) ?_
      rw [n3e p (by omega)]
      refine R_aload_n dX2_speak_16 rfl ?_
      refine R_get dX2_speak_17 f_X2_9 n0 rfl ?_
      refine R_iload_n dX2_speak_20 rfl ?_
      refine R_cV5p (N := m_X2_reached) dX2_speak_21 l_X2_91 i_X2_reached n0 (c_Night_reached H hB HG (hQ.la (fun i r h3 h4 => s_sayst_B hB hQ hp i r h3 h4)) hp (u6 p hp) u1 (by omega)) rfl rfl ?_
      have ewd : s_wd (q_setla Q (s_sayst N R F Q p k 0)) k = s_wd Q k := funext (fun r => by
        show decide (¬ s_sayst N R F Q p k 0 k r = -1) = decide (¬ q_la Q k r = -1)
        rw [s_sayst, if_neg (by omega)])
      have ere : s_reach N F (q_setla Q (s_sayst N R F Q p k 0)) p (q_pl Q p) (q_hr Q) k (s_wd (q_setla Q (s_sayst N R F Q p k 0)) k) = s_reach N F Q p (q_pl Q p) (q_hr Q) k (s_wd Q k) := by rw [ewd]; rfl
      rw [ere]
      refine R_istore dX2_speak_24 (Nat.le_of_ble_eq_true rfl) rfl ?_
      refine R_iconst (nI 0) dX2_speak_26 rfl ?_
      refine R_istore dX2_speak_27 (Nat.le_of_ble_eq_true rfl) rfl ?_
      exact c_Night_speak_in Hh hB HN hQ hdis hp (by omega) (fun k' g' e HG' FR' v4 v5 => by subst e; exact ih (k + 1) (by omega) (by omega) g' HG' FR' v4 v5) (R + 1) 0 (by omega) (by omega) _ HG FR
theorem c_Night_speak {h : xH} {b c N R D P : Nat} {F : xF} {Q : xQ} (H : x_House h b N R D P F) (hB : x_HB N R D P F) (HN : x_Night h c R P Q) (hQ : x_QB N R P Q) (hdis : b + 22 ≤ c ∨ c + 9 ≤ b) {p : Nat} (hp : p < P) : x_Met m_X2_speak [.ref c, .ref b, .int (nI p)] h (x_vd (fun h' => x_Night h' c R P (s_speak N R F Q p) ∧ x_fr h h' c 9)) := by

  refine x_Met.of (lo := [some (.ref c), some (.ref b), some (.int (nI p)), none, none, none]) (by decide) rfl rfl rfl ?_
  refine R_iconst (nI 0) dX2_speak_0 rfl ?_
  refine R_istore_n dX2_speak_1 (Nat.le_of_ble_eq_true rfl) rfl ?_
  exact c_Night_speak_out H hB HN hQ hdis hp 5 0 (by omega) (by omega) _ (HN.laeq (fun i hi => funext (fun j => (if_neg (by omega)).symm))) (x_fr.rf h c 9) none none
