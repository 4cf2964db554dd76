theorem c_Seen_full {h : xH} {a : Nat} {rm : Nat → Nat} {hd : Nat → Bool} (HS : x_Seen h a 6 rm hd) (r p : Int32) : x_Met m_X4_append [.ref a, .int r, .int p] h (x_pr (nI 0) h) := by
  obtain ⟨h2s, hn, s0, ⟨k1, s1, s1e⟩, k2, s2, s2e⟩ := id HS
  refine x_Met.of (lo := [some (.ref a), some (.int r), some (.int p)]) (by decide) rfl rfl rfl ?_
  refine R_aload_n dX4_append_0 rfl ?_
  refine R_get dX4_append_1 f_X4_9 s0 rfl ?_
  refine R_bipush (nI 6) dX4_append_4 rfl ?_
  refine R_ltN 11 dX4_append_6 rfl (by omega) (by omega) (fun c_6 => ?_) (fun c_6 => ?_)
  · omega
  · refine R_iconst (nI 0) dX4_append_9 rfl ?_
    exact R_zret dX4_append_10 rfl (Or.inl rfl) rfl rfl x_pr.mk
theorem c_Seen_append {h : xH} {a n : Nat} {rm : Nat → Nat} {hd : Nat → Bool} (HS : x_Seen h a n rm hd) (hl : n < 6) (r : Nat) (v : Bool) : x_Met m_X4_append [.ref a, .int (nI r), .int (x_b v)] h (x_ir (fun r' h' => r' = nI 1 ∧ x_Seen h' a (n + 1) (s_snoc n rm r) (s_snoc n hd v) ∧ x_fr h h' a 3)) := by
  obtain ⟨h2s, hn, s0, ⟨k1, s1, s1e⟩, k2, s2, s2e⟩ := id HS
  refine x_Met.of (lo := [some (.ref a), some (.int (nI r)), some (.int (x_b v))]) (by decide) rfl rfl rfl ?_
  refine R_aload_n dX4_append_0 rfl ?_
  refine R_get dX4_append_1 f_X4_9 s0 rfl ?_
  refine R_bipush (nI 6) dX4_append_4 rfl ?_
  refine R_ltN 11 dX4_append_6 rfl (by omega) (by omega) (fun c_6 => ?_) (fun c_6 => ?_)
  · refine R_aload_n dX4_append_11 rfl ?_
    refine R_get dX4_append_12 f_X4_15 s0 rfl ?_
    refine R_aload_n dX4_append_15 rfl ?_
    refine R_get dX4_append_16 f_X4_9 s0 rfl ?_
    refine R_iload_n dX4_append_19 rfl ?_
    refine R_iast dX4_append_20 s1 (by omega) rfl (by omega) (by decide) ?_
    generalize hh1 : h.set (a + 1) (x_ia 6 (upd k1 n (nI r))) = h1
    have s0 := (show h1[a]? = h[a]? by rw [← hh1, List.getElem?_set_ne (by omega)]).trans s0
    have s2 := (show h1[a + 2]? = h[a + 2]? by rw [← hh1, List.getElem?_set_ne (by omega)]).trans s2
    have s1 : h1[a + 1]? = some (x_ia 6 (upd k1 n (nI r))) := by rw [← hh1]; exact List.getElem?_set_self (List.getElem?_eq_some_iff.mp s1).1
    have FR : x_fr h h1 a 3 := by rw [← hh1]; exact (x_fr.rf h a 3).set _ (by omega) (by omega)
    refine R_aload_n dX4_append_21 rfl ?_
    refine R_get dX4_append_22 f_X4_19 s0 rfl ?_
    refine R_aload_n dX4_append_25 rfl ?_
    refine R_get dX4_append_26 f_X4_9 s0 rfl ?_
    refine R_iload_n dX4_append_29 rfl ?_
    refine R_zast dX4_append_30 s2 (x_b01 _) rfl (by omega) (by decide) ?_
    generalize hh2 : h1.set (a + 2) (.inl (2, 6, .inl (upd k2 n (x_b v)))) = h3
    have s0 := (show h3[a]? = h1[a]? by rw [← hh2, List.getElem?_set_ne (by omega)]).trans s0
    have s1 := (show h3[a + 1]? = h1[a + 1]? by rw [← hh2, List.getElem?_set_ne (by omega)]).trans s1
    have s2 : h3[a + 2]? = some (.inl (2, 6, .inl (upd k2 n (x_b v)))) := by rw [← hh2]; exact List.getElem?_set_self (List.getElem?_eq_some_iff.mp s2).1
    have FR : x_fr h h3 a 3 := by rw [← hh2]; exact FR.set _ (by omega) (by omega)
    refine R_aload_n dX4_append_31 rfl ?_
    refine R_dup dX4_append_32 rfl ?_
    refine R_get dX4_append_33 f_X4_9 s0 rfl ?_
    refine R_iconst (nI 1) dX4_append_36 rfl ?_
    refine R_iaddN dX4_append_37 ?_
    refine R_put dX4_append_38 f_X4_9 s0 (Nat.le_of_ble_eq_true rfl) (fun _ => rfl) (fun _ => rfl) ?_
    simp only [List.set_cons_succ, List.set_cons_zero]
    generalize hh3 : h3.set a (.inr (4, [.int (nI (n + 1)), .ref (a + 1), .ref (a + 2)])) = h4
    have s1 := (show h4[a + 1]? = h3[a + 1]? by rw [← hh3, List.getElem?_set_ne (by omega)]).trans s1
    have s2 := (show h4[a + 2]? = h3[a + 2]? by rw [← hh3, List.getElem?_set_ne (by omega)]).trans s2
    have s0 : h4[a]? = some (.inr (4, [.int (nI (n + 1)), .ref (a + 1), .ref (a + 2)])) := by rw [← hh3]; exact List.getElem?_set_self (List.getElem?_eq_some_iff.mp s0).1
    have FR : x_fr h h4 a 3 := by rw [← hh3]; exact FR.set _ (by omega) (by omega)
    refine R_iconst (nI 1) dX4_append_41 rfl ?_
    have a1 : ∀ i, i < n + 1 → upd k1 n (nI r) i = nI (s_snoc n rm r i) := fun i hi => by
      by_cases e : i = n
      · subst e; simp [upd, s_snoc]
      · simp [upd, s_snoc, e]; exact s1e i (by omega)
    have a2 : ∀ i, i < n + 1 → upd k2 n (x_b v) i = x_b (s_snoc n hd v i) := fun i hi => by
      by_cases e : i = n
      · subst e; simp [upd, s_snoc]
      · simp [upd, s_snoc, e]; exact s2e i (by omega)
    exact R_zret dX4_append_42 rfl (Or.inr rfl) rfl rfl ⟨nI 1, rfl, rfl, ⟨h2s, by omega, s0, ⟨_, s1, a1⟩, _, s2, a2⟩, FR⟩
  · omega
def s_fit (f : Nat → Bool) (rm : Nat → Nat) (hd : Nat → Bool) : Nat → Nat → Bool
  | 0, _ => true
  | n + 1, i => if f (rm i) = hd i then s_fit f rm hd n (i + 1) else false
theorem x_b_inj {a b : Bool} : x_b a = x_b b ↔ a = b := by cases a <;> cases b <;> decide
theorem x_b_0 {b : Bool} : nI 0 = x_b b ↔ b = false := by cases b <;> decide
theorem x_b_1 {b : Bool} : nI 1 = x_b b ↔ b = true := by cases b <;> decide
theorem c_Seen_fits_loop {h : xH} {a n : Nat} {rm : Nat → Nat} {hd : Nat → Bool} (HS : x_Seen h a n rm hd) {R : Nat} (hR : R ≤ 6) (f : Nat → Bool) (hrm : ∀ i, i < n → rm i < R) : ∀ (k i : Nat), i + k = n → ∀ v3 : Option Value, x_Rn m_X4_fits 2 [some (.ref a), some (.int (s_set R f)), some (.int (nI i)), v3] [] h (0, 0) (x_pr (x_b (s_fit f rm hd k i)) h) := by
  obtain ⟨h2s, hn, s0, ⟨k1, s1, s1e⟩, k2, s2, s2e⟩ := id HS
  intro k
  induction k with
  | zero =>
    intro i h1 v3
    refine R_iload_n dX4_fits_2 rfl ?_
    refine R_aload_n dX4_fits_3 rfl ?_
    refine R_get dX4_fits_4 f_X4_9 s0 rfl ?_
    refine R_geN 47 dX4_fits_7 rfl (by omega) (by omega) (fun c_7 => ?_) (fun c_7 => by omega)
    refine R_iconst (nI 1) dX4_fits_47 rfl ?_
    exact R_zret dX4_fits_48 rfl (Or.inr rfl) rfl rfl (x_pr.eq rfl)
  | succ k ih =>
    intro i h1 v3
    refine R_iload_n dX4_fits_2 rfl ?_
    refine R_aload_n dX4_fits_3 rfl ?_
    refine R_get dX4_fits_4 f_X4_9 s0 rfl ?_
    refine R_geN 47 dX4_fits_7 rfl (by omega) (by omega) (fun c_7 => ?_) (fun c_7 => ?_)
    · omega
    · have hr := hrm i (by omega)
      refine R_iload_n dX4_fits_10 rfl ?_
      refine R_aload_n dX4_fits_11 rfl ?_
      refine R_get dX4_fits_12 f_X4_15 s0 rfl ?_
      refine R_iload_n dX4_fits_15 rfl ?_
      refine R_iald dX4_fits_16 s1 rfl (by omega) (by decide) ?_
      rw [s1e i (by omega)]
      refine R_ishr dX4_fits_17 ?_
      refine R_iconst (nI 1) dX4_fits_18 rfl ?_
      refine R_iand dX4_fits_19 ?_
      rw [s_bit hR _ (by omega)]
      refine R_ifeqB 27 dX4_fits_20 rfl (fun c_20 => ?_) (fun c_20 => ?_)
      · have ev : f (rm i) = false := by simpa [hr] using c_20
        refine R_iconst (nI 0) dX4_fits_27 rfl ?_
        refine R_istore_n dX4_fits_28 (Nat.le_of_ble_eq_true rfl) rfl ?_
        refine R_iload_n dX4_fits_29 rfl ?_
        refine R_aload_n dX4_fits_30 rfl ?_
        refine R_get dX4_fits_31 f_X4_19 s0 rfl ?_
        refine R_iload_n dX4_fits_34 rfl ?_
        refine R_zald dX4_fits_35 s2 rfl (by omega) (by decide) ?_
        rw [s2e i (by omega)]
        refine R_icmpeq 41 dX4_fits_36 rfl (fun c_36 => ?_) (fun c_36 => ?_)
        · have ef : f (rm i) = hd i := by rw [ev]; exact (x_b_0.mp c_36).symm
          refine R_iincN dX4_fits_41 rfl (Nat.le_of_ble_eq_true rfl) rfl ?_
          refine R_goto 2 dX4_fits_44 rfl ?_
          rw [s_fit, if_pos ef]
          exact ih (i + 1) (by omega) _
        · have ef : ¬ f (rm i) = hd i := fun z => c_36 (x_b_0.mpr (by rw [← z]; exact ev))
          refine R_iconst (nI 0) dX4_fits_39 rfl ?_
          exact R_zret dX4_fits_40 rfl (Or.inl rfl) rfl rfl (x_pr.eq (x_bf (by rw [s_fit, if_neg ef])))
      · have ev : f (rm i) = true := by simpa [hr] using c_20
        refine R_iconst (nI 1) dX4_fits_23 rfl ?_
        refine R_goto 28 dX4_fits_24 rfl ?_
        refine R_istore_n dX4_fits_28 (Nat.le_of_ble_eq_true rfl) rfl ?_
        refine R_iload_n dX4_fits_29 rfl ?_
        refine R_aload_n dX4_fits_30 rfl ?_
        refine R_get dX4_fits_31 f_X4_19 s0 rfl ?_
        refine R_iload_n dX4_fits_34 rfl ?_
        refine R_zald dX4_fits_35 s2 rfl (by omega) (by decide) ?_
        rw [s2e i (by omega)]
        refine R_icmpeq 41 dX4_fits_36 rfl (fun c_36 => ?_) (fun c_36 => ?_)
        · have ef : f (rm i) = hd i := by rw [ev]; exact (x_b_1.mp c_36).symm
          refine R_iincN dX4_fits_41 rfl (Nat.le_of_ble_eq_true rfl) rfl ?_
          refine R_goto 2 dX4_fits_44 rfl ?_
          rw [s_fit, if_pos ef]
          exact ih (i + 1) (by omega) _
        · have ef : ¬ f (rm i) = hd i := fun z => c_36 (x_b_1.mpr (by rw [← z]; exact ev))
          refine R_iconst (nI 0) dX4_fits_39 rfl ?_
          exact R_zret dX4_fits_40 rfl (Or.inl rfl) rfl rfl (x_pr.eq (x_bf (by rw [s_fit, if_neg ef])))
theorem c_Seen_fits {h : xH} {a n : Nat} {rm : Nat → Nat} {hd : Nat → Bool} (HS : x_Seen h a n rm hd) {R : Nat} (hR : R ≤ 6) (f : Nat → Bool) (hrm : ∀ i, i < n → rm i < R) : x_Met m_X4_fits [.ref a, .int (s_set R f)] h (x_pr (x_b (s_fit f rm hd n 0)) h) := by

  refine x_Met.of (lo := [some (.ref a), some (.int (s_set R f)), none, none]) (by decide) rfl rfl rfl ?_
  refine R_iconst (nI 0) dX4_fits_0 rfl ?_
  refine R_istore_n dX4_fits_1 (Nat.le_of_ble_eq_true rfl) rfl ?_
  exact c_Seen_fits_loop HS hR f hrm n 0 (by omega) none
def s_sus (F : xF) (Q : xQ) (n : Nat) (rm : Nat → Nat) (hd : Nat → Bool) (p : Nat) : Bool := s_fit (s_heard F p (q_pl Q p)) rm hd n 0
def s_part (P : Nat) (F : xF) (Q : xQ) (g : Nat → Bool) (r : Nat) : Nat := max (s_cnt P (fun p => g p && s_heard F p (q_pl Q p) r)) (s_cnt P g - s_cnt P (fun p => g p && s_heard F p (q_pl Q p) r))
def s_best (P : Nat) (F : xF) (Q : xQ) (g : Nat → Bool) : Nat → Int32 × Nat
  | 0 => (-1, s_cnt P g)
  | r + 1 => if s_part P F Q g r < (s_best P F Q g r).2 then (nI r, s_part P F Q g r) else s_best P F Q g r
theorem s_cnt_and (f g : Nat → Bool) : ∀ n, s_cnt n (fun p => f p && g p) ≤ s_cnt n f
  | 0 => Nat.le_refl 0
  | n + 1 => by
    have := s_cnt_and f g n
    rw [s_cnt, s_cnt]
    cases f n <;> cases g n <;> simp <;> omega
theorem s_part_le (P : Nat) (F : xF) (Q : xQ) (g : Nat → Bool) (r : Nat) : s_part P F Q g r ≤ P := by
  have h1 := s_cnt_le (fun p => g p && s_heard F p (q_pl Q p) r) P
  have h2 := s_cnt_le g P
  unfold s_part
  omega
theorem s_best_le (P : Nat) (F : xF) (Q : xQ) (g : Nat → Bool) : ∀ r, (s_best P F Q g r).2 ≤ P
  | 0 => s_cnt_le g P
  | r + 1 => by
    rw [s_best]
    split
    · exact s_part_le P F Q g r
    · exact s_best_le P F Q g r
theorem c_Seen_suspects_loop {h : xH} {a b c n N R D P : Nat} {rm : Nat → Nat} {hd : Nat → Bool} {F : xF} {Q : xQ} (HS : x_Seen h a n rm hd) (hrm : ∀ i, i < n → rm i < R) (H : x_House h b N R D P F) (hB : x_HB N R D P F) (HN : x_Night h c R P Q) (hQ : x_QB N R P Q) : ∀ (m p : Nat), p ≤ P → P + 1 ≤ p + m → x_Rn m_X4_suspects 5 [some (.ref a), some (.ref b), some (.ref c), some (.int (s_set p (s_sus F Q n rm hd))), some (.int (nI p))] [] h (0, 0) (x_pr (s_set P (s_sus F Q n rm hd)) h) := by
  obtain ⟨h2, g0, g1, g2, g3, g4, g5, g6, g7, g8, g9, g10, g11⟩ := id H
  obtain ⟨⟨b1, b2, b3, b4⟩, b5, b6, b7⟩ := id hB
  obtain ⟨h2n, n0, ⟨f1, n1, n1e⟩, n2, ⟨f3, n3, n3e⟩, n4, n5⟩ := id HN
  obtain ⟨u1, u2, u3, u4, u5, u6, u7, u8, u9⟩ := id hQ
  obtain ⟨h2s, hn, s0, ⟨k1, s1, s1e⟩, k2, s2, s2e⟩ := id HS
  intro m
  induction m with
  | zero => intro p h1 h3; omega
  | succ m ih =>
    intro p h1 h3
    refine R_iload dX4_suspects_5 rfl ?_
    refine R_aload_n dX4_suspects_7 rfl ?_
    refine R_get dX4_suspects_8 f_X4_23 g0 rfl ?_
    refine R_geN 41 dX4_suspects_11 rfl (by omega) (by omega) (fun c_11 => ?_) (fun c_11 => ?_)
    · have e : p = P := by omega
      subst e
      refine R_iload_n dX4_suspects_41 rfl ?_
      exact R_iret dX4_suspects_42 rfl rfl rfl x_pr.mk
    · have hp : p < P := by omega
      refine R_aload_n dX4_suspects_14 rfl ?_
      refine R_aload_n dX4_suspects_15 rfl ?_
      refine R_aload_n dX4_suspects_16 rfl ?_
      refine R_iload dX4_suspects_17 rfl ?_
      refine R_cV2p (N := m_X2_hears) dX4_suspects_19 l_X4_28 i_X2_hears n0 (c_Night_hears H hB HN hQ hp) rfl rfl ?_
      refine R_cV1p (N := m_X4_fits) dX4_suspects_22 l_X4_34 i_X4_fits s0 (c_Seen_fits HS b2 _ hrm) rfl rfl ?_
      refine R_ifeqB 35 dX4_suspects_25 rfl (fun c_25 => ?_) (fun c_25 => ?_)
      · rw [s_set_f (f := s_sus F Q n rm hd) c_25]
        refine R_iincN dX4_suspects_35 rfl (Nat.le_of_ble_eq_true rfl) rfl ?_
        refine R_goto 5 dX4_suspects_38 rfl ?_
        exact ih (p + 1) (by omega) (by omega)
      · refine R_iload_n dX4_suspects_28 rfl ?_
        refine R_iconst (nI 1) dX4_suspects_29 rfl ?_
        refine R_iload dX4_suspects_30 rfl ?_
        refine R_ishl dX4_suspects_32 ?_
        refine R_ior dX4_suspects_33 ?_
        rw [s_set_t (f := s_sus F Q n rm hd) c_25]
        refine R_istore_n dX4_suspects_34 (Nat.le_of_ble_eq_true rfl) rfl ?_
        refine R_iincN dX4_suspects_35 rfl (Nat.le_of_ble_eq_true rfl) rfl ?_
        refine R_goto 5 dX4_suspects_38 rfl ?_
        exact ih (p + 1) (by omega) (by omega)
theorem c_Seen_suspects {h : xH} {a b c n N R D P : Nat} {rm : Nat → Nat} {hd : Nat → Bool} {F : xF} {Q : xQ} (HS : x_Seen h a n rm hd) (hrm : ∀ i, i < n → rm i < R) (H : x_House h b N R D P F) (hB : x_HB N R D P F) (HN : x_Night h c R P Q) (hQ : x_QB N R P Q) : x_Met m_X4_suspects [.ref a, .ref b, .ref c] h (x_pr (s_set P (s_sus F Q n rm hd)) h) := by

  refine x_Met.of (lo := [some (.ref a), some (.ref b), some (.ref c), none, none]) (by decide) rfl rfl rfl ?_
  refine R_iconst (nI 0) dX4_suspects_0 rfl ?_
  refine R_istore_n dX4_suspects_1 (Nat.le_of_ble_eq_true rfl) rfl ?_
  refine R_iconst (nI 0) dX4_suspects_2 rfl ?_
  refine R_istore dX4_suspects_3 (Nat.le_of_ble_eq_true rfl) rfl ?_
  exact c_Seen_suspects_loop HS hrm H hB HN hQ (P + 1) 0 (by omega) (by omega)
theorem c_Seen_greaterPart_loop {h : xH} {a b c N R D P : Nat} {F : xF} {Q : xQ} {ss : List Value} (HS : h[a]? = some (.inr (4, ss))) (H : x_House h b N R D P F) (hB : x_HB N R D P F) (HN : x_Night h c R P Q) (hQ : x_QB N R P Q) (g : Nat → Bool) {r : Nat} (hr : r < R) : ∀ (m p : Nat), p ≤ P → P + 1 ≤ p + m → x_Rn m_X4_greaterPart 6 [some (.ref a), some (.ref b), some (.ref c), some (.int (s_set P g)), some (.int (nI r)), some (.int (nI (s_cnt p (fun p => g p && s_heard F p (q_pl Q p) r)))), some (.int (nI p))] [] h (0, 0) (x_pr (nI (s_part P F Q g r)) h) := by
  obtain ⟨h2, g0, g1, g2, g3, g4, g5, g6, g7, g8, g9, g10, g11⟩ := id H
  obtain ⟨⟨b1, b2, b3, b4⟩, b5, b6, b7⟩ := id hB
  obtain ⟨h2n, n0, ⟨f1, n1, n1e⟩, n2, ⟨f3, n3, n3e⟩, n4, n5⟩ := id HN
  obtain ⟨u1, u2, u3, u4, u5, u6, u7, u8, u9⟩ := id hQ
  intro m
  induction m with
  | zero => intro p h1 h3; omega
  | succ m ih =>
    intro p h1 h3
    refine R_iload dX4_greaterPart_6 rfl ?_
    refine R_aload_n dX4_greaterPart_8 rfl ?_
    refine R_get dX4_greaterPart_9 f_X4_23 g0 rfl ?_
    refine R_geN 51 dX4_greaterPart_12 rfl (by omega) (by omega) (fun c_12 => ?_) (fun c_12 => ?_)
    · have e : p = P := by omega
      subst e
      have w1 := s_cnt_le g p
      have w2 := s_cnt_le (fun p => g p && s_heard F p (q_pl Q p) r) p
      have w3 := s_cnt_and g (fun q => s_heard F q (q_pl Q q) r) p
      refine R_iload dX4_greaterPart_51 rfl ?_
      refine R_iload_n dX4_greaterPart_53 rfl ?_
      refine R_cS1p (N := m_J6_bitCount_0f7a4) dX4_greaterPart_54 l_X4_42 i_J6_bitCount_0f7a4 (c_bitCount b4 g) rfl rfl ?_
      refine R_iload dX4_greaterPart_57 rfl ?_
      refine R_isubN dX4_greaterPart_59 (by omega) ?_
      refine R_cS2p (N := m_J9_max_7cf53) dX4_greaterPart_60 l_X4_61 i_J9_max_7cf53 (c_max (by omega) (by omega)) rfl rfl ?_
      exact R_iret dX4_greaterPart_63 rfl rfl rfl x_pr.mk
    · have hp : p < P := by omega
      refine R_iload_n dX4_greaterPart_15 rfl ?_
      refine R_iload dX4_greaterPart_16 rfl ?_
      refine R_ishr dX4_greaterPart_18 ?_
      refine R_iconst (nI 1) dX4_greaterPart_19 rfl ?_
      refine R_iand dX4_greaterPart_20 ?_
      rw [s_bit b4 _ (by omega)]
      refine R_ifeqB 45 dX4_greaterPart_21 rfl (fun c_21 => ?_) (fun c_21 => ?_)
      · have c_21 : g p = false := by simpa [hp] using c_21
        rw [show s_cnt p (fun p => g p && s_heard F p (q_pl Q p) r) = s_cnt (p + 1) (fun p => g p && s_heard F p (q_pl Q p) r) from by rw [s_cnt, if_neg (by simp [c_21])]]
        refine R_iincN dX4_greaterPart_45 rfl (Nat.le_of_ble_eq_true rfl) rfl ?_
        refine R_goto 6 dX4_greaterPart_48 rfl ?_
        exact ih (p + 1) (by omega) (by omega)
      · have c_21 : g p = true := by simpa [hp] using c_21
        refine R_aload_n dX4_greaterPart_24 rfl ?_
        refine R_iload dX4_greaterPart_25 rfl ?_
        refine R_aload_n dX4_greaterPart_27 rfl ?_
        refine R_get dX4_greaterPart_28 f_X4_54 n0 rfl ?_
        refine R_iload dX4_greaterPart_31 rfl ?_
        refine R_iald dX4_greaterPart_33 n3 rfl (by omega) (by decide) ?_
        rw [n3e p (by omega)]
        refine R_iload dX4_greaterPart_34 rfl ?_
        refine R_cV3p (N := m_X1_isHeard) dX4_greaterPart_36 l_X4_57 i_X1_isHeard g0 (c_House_isHeard H hB hp (u6 p hp) hr) rfl rfl ?_
        refine R_ifeqB 45 dX4_greaterPart_39 rfl (fun c_39 => ?_) (fun c_39 => ?_)
        · rw [show s_cnt p (fun p => g p && s_heard F p (q_pl Q p) r) = s_cnt (p + 1) (fun p => g p && s_heard F p (q_pl Q p) r) from by rw [s_cnt, if_neg (by simp [c_39])]]
          refine R_iincN dX4_greaterPart_45 rfl (Nat.le_of_ble_eq_true rfl) rfl ?_
          refine R_goto 6 dX4_greaterPart_48 rfl ?_
          exact ih (p + 1) (by omega) (by omega)
        · refine R_iincN dX4_greaterPart_42 rfl (Nat.le_of_ble_eq_true rfl) rfl ?_
          rw [show s_cnt p (fun p => g p && s_heard F p (q_pl Q p) r) + 1 = s_cnt (p + 1) (fun p => g p && s_heard F p (q_pl Q p) r) from by rw [s_cnt, if_pos (by simp [c_21, c_39])]]
          refine R_iincN dX4_greaterPart_45 rfl (Nat.le_of_ble_eq_true rfl) rfl ?_
          refine R_goto 6 dX4_greaterPart_48 rfl ?_
          exact ih (p + 1) (by omega) (by omega)
theorem c_Seen_greaterPart {h : xH} {a b c N R D P : Nat} {F : xF} {Q : xQ} {ss : List Value} (HS : h[a]? = some (.inr (4, ss))) (H : x_House h b N R D P F) (hB : x_HB N R D P F) (HN : x_Night h c R P Q) (hQ : x_QB N R P Q) (g : Nat → Bool) {r : Nat} (hr : r < R) : x_Met m_X4_greaterPart [.ref a, .ref b, .ref c, .int (s_set P g), .int (nI r)] h (x_pr (nI (s_part P F Q g r)) h) := by

  refine x_Met.of (lo := [some (.ref a), some (.ref b), some (.ref c), some (.int (s_set P g)), some (.int (nI r)), none, none]) (by decide) rfl rfl rfl ?_
  refine R_iconst (nI 0) dX4_greaterPart_0 rfl ?_
  refine R_istore dX4_greaterPart_1 (Nat.le_of_ble_eq_true rfl) rfl ?_
  refine R_iconst (nI 0) dX4_greaterPart_3 rfl ?_
  refine R_istore dX4_greaterPart_4 (Nat.le_of_ble_eq_true rfl) rfl ?_
  exact c_Seen_greaterPart_loop HS H hB HN hQ g hr (P + 1) 0 (by omega) (by omega)
theorem c_Seen_bestRoom_loop {h : xH} {a b c n N R D P : Nat} {rm : Nat → Nat} {hd : Nat → Bool} {F : xF} {Q : xQ} (HS : x_Seen h a n rm hd) (hrm : ∀ i, i < n → rm i < R) (H : x_House h b N R D P F) (hB : x_HB N R D P F) (HN : x_Night h c R P Q) (hQ : x_QB N R P Q) : ∀ (m r : Nat), r ≤ R → R + 1 ≤ r + m → ∀ v7 : Option Value, x_Rn m_X4_bestRoom 19 [some (.ref a), some (.ref b), some (.ref c), some (.int (s_set P (s_sus F Q n rm hd))), some (.int (s_best P F Q (s_sus F Q n rm hd) r).1), some (.int (nI (s_best P F Q (s_sus F Q n rm hd) r).2)), some (.int (nI r)), v7] [] h (0, 0) (x_pr (s_best P F Q (s_sus F Q n rm hd) R).1 h) := by
  obtain ⟨h2, g0, g1, g2, g3, g4, g5, g6, g7, g8, g9, g10, g11⟩ := id H
  obtain ⟨⟨b1, b2, b3, b4⟩, b5, b6, b7⟩ := id hB
  obtain ⟨h2n, n0, ⟨f1, n1, n1e⟩, n2, ⟨f3, n3, n3e⟩, n4, n5⟩ := id HN
  obtain ⟨u1, u2, u3, u4, u5, u6, u7, u8, u9⟩ := id hQ
  obtain ⟨h2s, hn, s0, ⟨k1, s1, s1e⟩, k2, s2, s2e⟩ := id HS
  intro m
  induction m with
  | zero => intro r h1 h3; omega
  | succ m ih =>
    intro r h1 h3 v7
    refine R_iload dX4_bestRoom_19 rfl ?_
    refine R_aload_n dX4_bestRoom_21 rfl ?_
    refine R_get dX4_bestRoom_22 f_X4_48 g0 rfl ?_
    refine R_geN 60 dX4_bestRoom_25 rfl (by omega) (by omega) (fun c_25 => ?_) (fun c_25 => ?_)
    · have e : r = R := by omega
      subst e
      refine R_iload dX4_bestRoom_60 rfl ?_
      exact R_iret dX4_bestRoom_62 rfl rfl rfl x_pr.mk
    · have hr : r < R := by omega
      have w1 := s_part_le P F Q (s_sus F Q n rm hd) r
      have w2 := s_best_le P F Q (s_sus F Q n rm hd) r
      refine R_aload_n dX4_bestRoom_28 rfl ?_
      refine R_aload_n dX4_bestRoom_29 rfl ?_
      refine R_aload_n dX4_bestRoom_30 rfl ?_
      refine R_iload_n dX4_bestRoom_31 rfl ?_
      refine R_iload dX4_bestRoom_32 rfl ?_
      refine R_cV4p (N := m_X4_greaterPart) dX4_bestRoom_34 l_X4_50 i_X4_greaterPart s0 (c_Seen_greaterPart s0 H hB HN hQ (s_sus F Q n rm hd) hr) rfl rfl ?_
      refine R_istore dX4_bestRoom_37 (Nat.le_of_ble_eq_true rfl) rfl ?_
      refine R_iload dX4_bestRoom_39 rfl ?_
      refine R_iload dX4_bestRoom_41 rfl ?_
      refine R_geN 54 dX4_bestRoom_43 rfl (by omega) (by omega) (fun c_43 => ?_) (fun c_43 => ?_)
      · rw [show s_best P F Q (s_sus F Q n rm hd) r = s_best P F Q (s_sus F Q n rm hd) (r + 1) from by rw [s_best, if_neg (by omega)]]
        refine R_iincN dX4_bestRoom_54 rfl (Nat.le_of_ble_eq_true rfl) rfl ?_
        refine R_goto 19 dX4_bestRoom_57 rfl ?_
        exact ih (r + 1) (by omega) (by omega) _
      · have e1 : s_best P F Q (s_sus F Q n rm hd) (r + 1) = (nI r, s_part P F Q (s_sus F Q n rm hd) r) := by rw [s_best, if_pos (by omega)]
        have key := ih (r + 1) (by omega) (by omega)
        rw [e1] at key
        refine R_iload dX4_bestRoom_46 rfl ?_
        refine R_istore dX4_bestRoom_48 (Nat.le_of_ble_eq_true rfl) rfl ?_
        refine R_iload dX4_bestRoom_50 rfl ?_
        refine R_istore dX4_bestRoom_52 (Nat.le_of_ble_eq_true rfl) rfl ?_
        refine R_iincN dX4_bestRoom_54 rfl (Nat.le_of_ble_eq_true rfl) rfl ?_
        refine R_goto 19 dX4_bestRoom_57 rfl ?_
        exact key _
theorem c_Seen_bestRoom {h : xH} {a b c n N R D P : Nat} {rm : Nat → Nat} {hd : Nat → Bool} {F : xF} {Q : xQ} (HS : x_Seen h a n rm hd) (hrm : ∀ i, i < n → rm i < R) (H : x_House h b N R D P F) (hB : x_HB N R D P F) (HN : x_Night h c R P Q) (hQ : x_QB N R P Q) : x_Met m_X4_bestRoom [.ref a, .ref b, .ref c] h (x_pr (s_best P F Q (s_sus F Q n rm hd) R).1 h) := by
  obtain ⟨h2s, hn, s0, ⟨k1, s1, s1e⟩, k2, s2, s2e⟩ := id HS
  obtain ⟨⟨b1, b2, b3, b4⟩, b5, b6, b7⟩ := id hB
  refine x_Met.of (lo := [some (.ref a), some (.ref b), some (.ref c), none, none, none, none, none]) (by decide) rfl rfl rfl ?_
  refine R_aload_n dX4_bestRoom_0 rfl ?_
  refine R_aload_n dX4_bestRoom_1 rfl ?_
  refine R_aload_n dX4_bestRoom_2 rfl ?_
  refine R_cV2p (N := m_X4_suspects) dX4_bestRoom_3 l_X4_38 i_X4_suspects s0 (c_Seen_suspects HS hrm H hB HN hQ) rfl rfl ?_
  refine R_istore_n dX4_bestRoom_6 (Nat.le_of_ble_eq_true rfl) rfl ?_
  refine R_iconst (-1) dX4_bestRoom_7 rfl ?_
  refine R_istore dX4_bestRoom_8 (Nat.le_of_ble_eq_true rfl) rfl ?_
  refine R_iload_n dX4_bestRoom_10 rfl ?_
  refine R_cS1p (N := m_J6_bitCount_0f7a4) dX4_bestRoom_11 l_X4_42 i_J6_bitCount_0f7a4 (c_bitCount b4 (s_sus F Q n rm hd)) rfl rfl ?_
  refine R_istore dX4_bestRoom_14 (Nat.le_of_ble_eq_true rfl) rfl ?_
  refine R_iconst (nI 0) dX4_bestRoom_16 rfl ?_
  refine R_istore dX4_bestRoom_17 (Nat.le_of_ble_eq_true rfl) rfl ?_
  exact c_Seen_bestRoom_loop HS hrm H hB HN hQ (R + 1) 0 (by omega) (by omega) none
